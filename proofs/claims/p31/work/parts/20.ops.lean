/-! ===== what the calls that write make of the state ===== -/
/-- visit v's minutes get mark b -/
def zOpM (s : zS) (v : Nat) (b : Int) : zS := fun g p q => if g = 21 then (if (p : Int) = s 12 v 0 then zfil (s 21 p) (s 13 v 0) (s 13 v 0 + zLen s (s 10 v 0).toNat) b q else if (p : Int) = s 11 v 0 + 4 then zMk s (s 10 v 0).toNat (s 13 v 0) b (s 21 p) (zSc s (s 10 v 0).toNat) q else s 21 p q) else s g p q
/-- visit v is taken out -/
def zOpO (s : zS) (v : Nat) : zS := zsu (zOpM s v (-1)) 13 v 0 (-1)
/-- visit v gets its place -/
def zOpA (s : zS) (v : Nat) (i c x : Int) : zS := zsu (zsu (zsu s 11 v 0 i) 12 v 0 c) 13 v 0 x
def zOpL (s : zS) (v : Nat) (i c x : Int) : zS := zOpM (zOpA s v i c x) v v
/-- a visit that has no place yet -/
def zOpV (s : zS) (a : Nat) : zS := zsu (zsu (zsu (zsu s 10 (s 9 0 0).toNat 0 a) 13 (s 9 0 0).toNat 0 (-1)) 9 0 0 (s 9 0 0 + 1)) 8 a 0 1
def zOpB (s : zS) (a : Nat) (i c x : Int) : zS := zOpL (zOpV s a) (s 9 0 0).toNat i c x
def zOpH (s : zS) (a b c : Int) : zS := zsu (zsu (zsu (zsu s 1 (s 0 0 0).toNat 0 a) 2 (s 0 0 0).toNat 0 b) 3 (s 0 0 0).toNat 0 c) 0 0 0 (s 0 0 0 + 1)
def zOpN (s : zS) : zS := zsu s 4 0 0 (s 4 0 0 + 1)
def zOpP (s : zS) (a : Nat) (k m : Int) : zS := zsu (zsu (zsu s 6 a (s 5 a 0).toNat k) 7 a (s 5 a 0).toNat m) 5 a 0 (s 5 a 0 + 1)
def zOpQ (s : zS) (a : Nat) (l : Int) : zS := zsu (zsu (zsu (zsu (zsu (zsu (zsu (zsu s 15 (s 14 0 0).toNat 0 a) 16 (s 14 0 0).toNat 0 l) 17 (s 14 0 0).toNat 0 (s 18 0 0)) 19 (s 18 0 0).toNat 0 a) 20 (s 18 0 0).toNat 0 l) 18 0 0 (s 18 0 0 + 1)) 14 0 0 (s 14 0 0 + 1)) 8 a 0 1
theorem zB_u {s : zS} (h : zB s) {f i j : Nat} {v : Int} (hv : -1 ≤ v ∧ v ≤ 1000) : zB (zsu s f i j v) := fun g a b => by
  unfold zsu
  split
  · exact hv
  · exact h g a b
theorem zfil_b {f : Nat → Int} {a b v : Int} (h : ∀ j, -1 ≤ f j ∧ f j ≤ 1000) (hv : -1 ≤ v ∧ v ≤ 1000) (j : Nat) : -1 ≤ zfil f a b v j ∧ zfil f a b v j ≤ 1000 := by
  unfold zfil
  split
  · exact hv
  · exact h j
theorem zMk_b {s : zS} {a : Nat} {x b : Int} {f : Nat → Int} (h : ∀ j, -1 ≤ f j ∧ f j ≤ 1000) (hv : -1 ≤ b ∧ b ≤ 1000) : ∀ k j, -1 ≤ zMk s a x b f k j ∧ zMk s a x b f k j ≤ 1000
  | 0, j => h j
  | k + 1, j => by
    rw [zMk]
    split
    · exact zMk_b h hv k j
    · exact zfil_b (zMk_b h hv k) hv j
theorem zB_M {s : zS} (h : zB s) (v : Nat) {b : Int} (hb : -1 ≤ b ∧ b ≤ 1000) : zB (zOpM s v b) := fun g p q => by
  unfold zOpM
  split
  · split
    · exact zfil_b (h 21 p) hb q
    · split
      · exact zMk_b (h 21 p) hb _ q
      · exact h 21 p q
  · exact h g p q
theorem zOpM_c {s : zS} {v : Nat} {b : Int} {c m : Nat} (h4 : c < 4) (h11 : 0 ≤ s 11 v 0) : zOpM s v b 21 c m = if (c : Int) = s 12 v 0 ∧ s 13 v 0 ≤ (m : Int) ∧ (m : Int) < s 13 v 0 + zLen s (s 10 v 0).toNat then b else s 21 c m := by
  show (if (c : Int) = s 12 v 0 then zfil (s 21 c) (s 13 v 0) (s 13 v 0 + zLen s (s 10 v 0).toNat) b m else if (c : Int) = s 11 v 0 + 4 then zMk s (s 10 v 0).toNat (s 13 v 0) b (s 21 c) (zSc s (s 10 v 0).toNat) m else s 21 c m) = _
  by_cases e : (c : Int) = s 12 v 0
  · rw [if_pos e]
    unfold zfil
    by_cases e2 : s 13 v 0 ≤ (m : Int) ∧ (m : Int) < s 13 v 0 + zLen s (s 10 v 0).toNat
    · rw [if_pos e2, if_pos ⟨e, e2⟩]
    · rw [if_neg e2, if_neg (fun h => e2 h.2)]
  · rw [if_neg e, if_neg (by omega), if_neg (fun h => e h.1)]
theorem zOpM_mi {s : zS} {v : Nat} {b : Int} {i m : Nat} (h12 : s 12 v 0 < 4) (e : s 11 v 0 = (i : Int)) (e2 : zCv s (s 10 v 0).toNat (s 13 v 0) (zSc s (s 10 v 0).toNat) m) : zOpM s v b 21 (i + 4) m = b := by
  show (if ((i + 4 : Nat) : Int) = s 12 v 0 then zfil (s 21 (i + 4)) (s 13 v 0) (s 13 v 0 + zLen s (s 10 v 0).toNat) b m else if ((i + 4 : Nat) : Int) = s 11 v 0 + 4 then zMk s (s 10 v 0).toNat (s 13 v 0) b (s 21 (i + 4)) (zSc s (s 10 v 0).toNat) m else s 21 (i + 4) m) = _
  rw [if_neg (by omega), if_pos (by omega), zMk_in e2]
theorem zOpM_mo {s : zS} {v : Nat} {b : Int} {i m : Nat} (h12 : s 12 v 0 < 4) (e2 : ¬ (s 11 v 0 = (i : Int) ∧ zCv s (s 10 v 0).toNat (s 13 v 0) (zSc s (s 10 v 0).toNat) m)) : zOpM s v b 21 (i + 4) m = s 21 (i + 4) m := by
  show (if ((i + 4 : Nat) : Int) = s 12 v 0 then zfil (s 21 (i + 4)) (s 13 v 0) (s 13 v 0 + zLen s (s 10 v 0).toNat) b m else if ((i + 4 : Nat) : Int) = s 11 v 0 + 4 then zMk s (s 10 v 0).toNat (s 13 v 0) b (s 21 (i + 4)) (zSc s (s 10 v 0).toNat) m else s 21 (i + 4) m) = _
  rw [if_neg (by omega)]
  by_cases e : ((i + 4 : Nat) : Int) = s 11 v 0 + 4
  · rw [if_pos e, zMk_out (fun h => e2 ⟨by omega, h⟩)]
  · rw [if_neg e]
theorem zInv.v {s : zS} (h : zInv s) {v : Nat} (hv : (v : Int) < s 9 0 0) (hd : ¬ s 13 v 0 = -1) : 0 ≤ s 13 v 0 ∧ s 13 v 0 + zLen s (s 10 v 0).toNat ≤ 600 ∧ (0 ≤ s 11 v 0 ∧ s 11 v 0 < s 0 0 0) ∧ (0 ≤ s 12 v 0 ∧ s 12 v 0 < 4) := (h.c.2.2.2.2.2.2.2.2.2.2.2.2.2.1 v hv).resolve_left hd
theorem zInv.out {s : zS} (h : zInv s) {v : Nat} (hv : (v : Int) < s 9 0 0) (hd : ¬ s 13 v 0 = -1) : zInv (zOpO s v) := by
  have hvv := h.v hv hd
  obtain ⟨hb, ⟨c1, c2, c3, c4, c5, c6, c7, c8, c9, c10, c11, c12, c13, c14, c15⟩, hs1, hs2, hu1, hu2, hq, hdc, hdm⟩ := h
  refine ⟨zB_u (zB_M hb v (by omega)) (by omega), ⟨c1, c2, c3, c4, c5, c6, c7, c8, c9, c10, c11, c12, c13, ?_, c15⟩, hs1, hs2, hu1, hu2, hq, ?_, ?_⟩
  · intro w hw
    by_cases e : w = v
    · exact Or.inl (if_pos ⟨rfl, e, rfl⟩)
    · have e2 : zOpO s v 13 w 0 = s 13 w 0 := if_neg (fun h => e h.2.1)
      rw [e2]
      exact c14 w hw
  · intro c m h4
    have e1 : zOpO s v 21 c m = zOpM s v (-1) 21 c m := rfl
    have key : ∀ w, zOnC (zOpO s v) c m w ↔ w ≠ v ∧ zOnC s c m w := fun w => by
      by_cases e : w = v
      · have e2 : zOpO s v 13 w 0 = -1 := if_pos ⟨rfl, e, rfl⟩
        exact ⟨fun h => absurd e2 h.2.1, fun h => absurd e h.1⟩
      · have e2 : zOpO s v 13 w 0 = s 13 w 0 := if_neg (fun h => e h.2.1)
        unfold zOnC
        rw [e2]
        exact ⟨fun h => ⟨e, h⟩, fun h => h.2⟩
    rw [e1, zOpM_c h4 hvv.2.2.1.1]
    split
    · rename_i e
      refine ⟨Or.inl rfl, fun w => ⟨fun h => by omega, fun h => ?_⟩⟩
      rw [key] at h
      have h1 := ((hdc c m h4).2 w).mpr h.2
      have h2 := ((hdc c m h4).2 v).mpr ⟨hv, hd, e.1.symm, e.2⟩
      exact absurd (by omega) h.1
    · rename_i e
      refine ⟨(hdc c m h4).1, fun w => ?_⟩
      rw [key, (hdc c m h4).2 w]
      refine ⟨fun h => ⟨fun h2 => ?_, h⟩, fun h => h.2⟩
      subst h2
      exact e ⟨h.2.2.1.symm, h.2.2.2⟩
  · intro i m
    have e1 : zOpO s v 21 (i + 4) m = zOpM s v (-1) 21 (i + 4) m := rfl
    have key : ∀ w, zOnM (zOpO s v) i m w ↔ w ≠ v ∧ zOnM s i m w := fun w => by
      by_cases e : w = v
      · have e2 : zOpO s v 13 w 0 = -1 := if_pos ⟨rfl, e, rfl⟩
        exact ⟨fun h => absurd e2 h.2.1, fun h => absurd e h.1⟩
      · have e2 : zOpO s v 13 w 0 = s 13 w 0 := if_neg (fun h => e h.2.1)
        unfold zOnM
        rw [e2]
        exact ⟨fun h => ⟨e, h⟩, fun h => h.2⟩
    rw [e1]
    by_cases e : s 11 v 0 = (i : Int) ∧ zCv s (s 10 v 0).toNat (s 13 v 0) (zSc s (s 10 v 0).toNat) m
    · rw [zOpM_mi hvv.2.2.2.2 e.1 e.2]
      refine ⟨Or.inl rfl, fun w => ⟨fun h => by omega, fun h => ?_⟩⟩
      rw [key] at h
      have h1 := ((hdm i m).2 w).mpr h.2
      have h2 := ((hdm i m).2 v).mpr ⟨hv, hd, e.1, e.2⟩
      exact absurd (by omega) h.1
    · rw [zOpM_mo hvv.2.2.2.2 e]
      refine ⟨(hdm i m).1, fun w => ?_⟩
      rw [key, (hdm i m).2 w]
      refine ⟨fun h => ⟨fun h2 => ?_, h⟩, fun h => h.2⟩
      subst h2
      exact e ⟨h.2.2.1, h.2.2.2⟩
theorem zInv.lay {s : zS} (h : zInv s) {v i c : Nat} {x : Int} (hv : (v : Int) < s 9 0 0) (hd : s 13 v 0 = -1) (hi : (i : Int) < s 0 0 0) (h4 : c < 4) (hx : 0 ≤ x) (hx2 : x + zLen s (s 10 v 0).toNat ≤ 600) (fc : ∀ m : Nat, x ≤ (m : Int) → (m : Int) < x + zLen s (s 10 v 0).toNat → s 21 c m = -1) (fm : ∀ m : Nat, zCv s (s 10 v 0).toNat x (zSc s (s 10 v 0).toNat) m → s 21 (i + 4) m = -1) : zInv (zOpL s v i c x) := by
  obtain ⟨hb, ⟨c1, c2, c3, c4, c5, c6, c7, c8, c9, c10, c11, c12, c13, c14, c15⟩, hs1, hs2, hu1, hu2, hq, hdc, hdm⟩ := h
  have hlen : 0 ≤ zLen s (s 10 v 0).toNat := (zC1.len (s := s) ⟨c1, c2, c3, c4, c5, c6, c7, c8, c9, c10, c11, c12, c13, c14, c15⟩ _).1
  have a11 : zOpA s v i c x 11 v 0 = i := if_pos ⟨rfl, rfl, rfl⟩
  have a12 : zOpA s v i c x 12 v 0 = c := if_pos ⟨rfl, rfl, rfl⟩
  have a13 : zOpA s v i c x 13 v 0 = x := if_pos ⟨rfl, rfl, rfl⟩
  have n11 : ∀ w, w ≠ v → zOpA s v i c x 11 w 0 = s 11 w 0 := fun w e => if_neg (fun h => e h.2.1)
  have n12 : ∀ w, w ≠ v → zOpA s v i c x 12 w 0 = s 12 w 0 := fun w e => if_neg (fun h => e h.2.1)
  have n13 : ∀ w, w ≠ v → zOpA s v i c x 13 w 0 = s 13 w 0 := fun w e => if_neg (fun h => e h.2.1)
  have l11 : ∀ w, zOpL s v i c x 11 w 0 = zOpA s v i c x 11 w 0 := fun w => rfl
  have l12 : ∀ w, zOpL s v i c x 12 w 0 = zOpA s v i c x 12 w 0 := fun w => rfl
  have l13 : ∀ w, zOpL s v i c x 13 w 0 = zOpA s v i c x 13 w 0 := fun w => rfl
  refine ⟨zB_M (zB_u (zB_u (zB_u hb (by omega)) (by omega)) (by omega)) v (by omega), ⟨c1, c2, c3, c4, c5, c6, c7, c8, c9, c10, c11, c12, c13, ?_, c15⟩, hs1, hs2, hu1, hu2, hq, ?_, ?_⟩
  · intro w hw
    rw [l11, l12, l13]
    by_cases e : w = v
    · subst e
      rw [a11, a12, a13]
      exact Or.inr ⟨hx, hx2, ⟨by omega, hi⟩, by omega, by omega⟩
    · rw [n11 w e, n12 w e, n13 w e]
      exact c14 w hw
  · intro d m hd4
    have key : ∀ w, zOnC (zOpL s v i c x) d m w ↔ (w = v ∧ d = c ∧ x ≤ (m : Int) ∧ (m : Int) < x + zLen s (s 10 v 0).toNat) ∨ (w ≠ v ∧ zOnC s d m w) := fun w => by
      unfold zOnC
      rw [l12, l13]
      by_cases e : w = v
      · subst e
        rw [a12, a13]
        exact ⟨fun h => Or.inl ⟨rfl, by omega, h.2.2.2⟩, fun h => by
          rcases h with h | h
          · exact ⟨hv, by omega, by omega, h.2.2⟩
          · exact absurd rfl h.1⟩
      · rw [n12 w e, n13 w e]
        exact ⟨fun h => Or.inr ⟨e, h⟩, fun h => by
          rcases h with h | h
          · exact absurd h.1 e
          · exact h.2⟩
    have e1 : zOpL s v i c x 21 d m = if (d : Int) = (c : Int) ∧ x ≤ (m : Int) ∧ (m : Int) < x + zLen s (s 10 v 0).toNat then (v : Int) else s 21 d m := by
      have := zOpM_c (s := zOpA s v i c x) (v := v) (b := v) (m := m) hd4 (by rw [a11]; omega)
      rw [a12, a13] at this
      exact this
    rw [e1]
    split
    · rename_i e
      refine ⟨Or.inr ⟨v, rfl⟩, fun w => ?_⟩
      rw [key]
      refine ⟨fun h => Or.inl ⟨by omega, by omega, e.2⟩, fun h => ?_⟩
      rcases h with h | h
      · rw [h.1]
      · have h1 := ((hdc d m hd4).2 w).mpr h.2
        have h2 := fc m e.2.1 e.2.2
        rw [show d = c by omega] at h1
        omega
    · rename_i e
      refine ⟨(hdc d m hd4).1, fun w => ?_⟩
      rw [key, (hdc d m hd4).2 w]
      refine ⟨fun h => Or.inr ⟨fun h2 => ?_, h⟩, fun h => ?_⟩
      · subst h2
        exact h.2.1 hd
      · rcases h with h | h
        · exact absurd ⟨by omega, h.2.2⟩ e
        · exact h.2
  · intro j m
    have key : ∀ w, zOnM (zOpL s v i c x) j m w ↔ (w = v ∧ j = i ∧ zCv s (s 10 v 0).toNat x (zSc s (s 10 v 0).toNat) m) ∨ (w ≠ v ∧ zOnM s j m w) := fun w => by
      unfold zOnM
      rw [l11, l13]
      by_cases e : w = v
      · subst e
        rw [a11, a13]
        exact ⟨fun h => Or.inl ⟨rfl, by omega, h.2.2.2⟩, fun h => by
          rcases h with h | h
          · exact ⟨hv, by omega, by omega, h.2.2⟩
          · exact absurd rfl h.1⟩
      · rw [n11 w e, n13 w e]
        exact ⟨fun h => Or.inr ⟨e, h⟩, fun h => by
          rcases h with h | h
          · exact absurd h.1 e
          · exact h.2⟩
    by_cases e : (i : Int) = (j : Int) ∧ zCv s (s 10 v 0).toNat x (zSc s (s 10 v 0).toNat) m
    · have e1 : zOpL s v i c x 21 (j + 4) m = v := zOpM_mi (s := zOpA s v i c x) (v := v) (b := v) (i := j) (m := m) (by rw [a12]; omega) (by rw [a11]; exact e.1) (by rw [a13]; exact e.2)
      rw [e1]
      refine ⟨Or.inr ⟨v, rfl⟩, fun w => ?_⟩
      rw [key]
      refine ⟨fun h => Or.inl ⟨by omega, by omega, e.2⟩, fun h => ?_⟩
      rcases h with h | h
      · rw [h.1]
      · have h1 := ((hdm j m).2 w).mpr h.2
        have h2 := fm m e.2
        rw [show j = i by omega] at h1
        omega
    · have e1 : zOpL s v i c x 21 (j + 4) m = s 21 (j + 4) m := zOpM_mo (s := zOpA s v i c x) (v := v) (b := v) (i := j) (m := m) (by rw [a12]; omega) (by rw [a11, a13]; exact e)
      rw [e1]
      refine ⟨(hdm j m).1, fun w => ?_⟩
      rw [key, (hdm j m).2 w]
      refine ⟨fun h => Or.inr ⟨fun h2 => ?_, h⟩, fun h => ?_⟩
      · subst h2
        exact h.2.1 hd
      · rcases h with h | h
        · exact absurd ⟨by omega, h.2.2⟩ e
        · exact h.2
