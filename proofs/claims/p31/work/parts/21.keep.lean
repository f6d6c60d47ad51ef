/-! ===== what holds is kept ===== -/
theorem zu8 {s : zS} {a : Nat} (hu1 : ∀ b, s 8 b 0 = 0 ∨ s 8 b 0 = 1) (b : Nat) : zsu s 8 a 0 1 8 b 0 = 0 ∨ zsu s 8 a 0 1 8 b 0 = 1 := by
  by_cases e : b = a
  · exact Or.inr (if_pos ⟨rfl, e, rfl⟩)
  · rw [show zsu s 8 a 0 1 8 b 0 = s 8 b 0 from if_neg (fun h => e h.2.1)]
    exact hu1 b
theorem zu8_1 {s : zS} {a b : Nat} (h : s 8 b 0 = 1) : zsu s 8 a 0 1 8 b 0 = 1 := by
  by_cases e : b = a
  · exact if_pos ⟨rfl, e, rfl⟩
  · rw [show zsu s 8 a 0 1 8 b 0 = s 8 b 0 from if_neg (fun h => e h.2.1)]
    exact h
theorem zu8_n {s : zS} {a b : Nat} (h : b ≠ a) : zsu s 8 a 0 1 8 b 0 = s 8 b 0 := if_neg (fun h2 => h h2.2.1)
theorem zInv.new {s : zS} (h : zInv s) {a : Nat} (ha : (a : Int) < s 4 0 0) (hn : s 9 0 0 < 30) : zInv (zOpV s a) := by
  obtain ⟨hb, ⟨c1, c2, c3, c4, c5, c6, c7, c8, c9, c10, c11, c12, c13, c14, c15⟩, hs1, hs2, hu1, hu2, hq, hdc, hdm⟩ := h
  have e9 : zOpV s a 9 0 0 = s 9 0 0 + 1 := rfl
  have e10 : zOpV s a 10 (s 9 0 0).toNat 0 = a := if_pos ⟨rfl, rfl, rfl⟩
  have e13 : zOpV s a 13 (s 9 0 0).toNat 0 = -1 := if_pos ⟨rfl, rfl, rfl⟩
  have n10 : ∀ w, w ≠ (s 9 0 0).toNat → zOpV s a 10 w 0 = s 10 w 0 := fun w e => if_neg (fun h => e h.2.1)
  have n13 : ∀ w, w ≠ (s 9 0 0).toNat → zOpV s a 13 w 0 = s 13 w 0 := fun w e => if_neg (fun h => e h.2.1)
  have key0 : ∀ w : Nat, (w : Int) < s 9 0 0 + 1 → w ≠ (s 9 0 0).toNat → (w : Int) < s 9 0 0 := fun w h1 h2 => by omega
  refine ⟨zB_u (zB_u (zB_u (zB_u hb (by omega)) (by omega)) (by omega)) (by omega), ⟨c1, c2, ⟨by rw [e9]; omega, by rw [e9]; omega⟩, c4, c5, c6, c7, c8, c9, c10, ?_, c12, c13, ?_, c15⟩, hs1, ?_, zu8 hu1, ?_, hq, ?_, ?_⟩
  · intro w hw
    rw [e9] at hw
    by_cases e : w = (s 9 0 0).toNat
    · subst e; rw [e10]; exact ⟨by omega, ha⟩
    · rw [n10 w e]; exact c11 w (key0 w hw e)
  · intro w hw
    rw [e9] at hw
    by_cases e : w = (s 9 0 0).toNat
    · subst e; exact Or.inl e13
    · rw [n10 w e, n13 w e]; exact c14 w (key0 w hw e)
  · intro b hb9
    have hb8 : s 4 0 0 ≤ (b : Int) := hb9
    refine ⟨(hs2 b hb8).1, ?_⟩
    exact (zu8_n (s := zsu (zsu (zsu s 10 (s 9 0 0).toNat 0 a) 13 (s 9 0 0).toNat 0 (-1)) 9 0 0 (s 9 0 0 + 1)) (show b ≠ a by omega)).trans (hs2 b hb8).2
  · intro w hw
    rw [e9] at hw
    by_cases e : w = (s 9 0 0).toNat
    · subst e; rw [e10]; exact if_pos ⟨rfl, Int.toNat_natCast a, rfl⟩
    · rw [n10 w e]; exact zu8_1 (s := zsu (zsu (zsu s 10 (s 9 0 0).toNat 0 a) 13 (s 9 0 0).toNat 0 (-1)) 9 0 0 (s 9 0 0 + 1)) (hu2 w (key0 w hw e))
  · intro d m hd4
    have key : ∀ w, zOnC (zOpV s a) d m w ↔ zOnC s d m w := fun w => by
      unfold zOnC
      rw [e9]
      by_cases e : w = (s 9 0 0).toNat
      · subst e; rw [e13]
        exact ⟨fun h => absurd rfl h.2.1, fun h => absurd h.1 (by omega)⟩
      · rw [n10 w e, n13 w e]
        exact ⟨fun h => ⟨key0 w h.1 e, h.2⟩, fun h => ⟨by have := h.1; omega, h.2⟩⟩
    exact ⟨(hdc d m hd4).1, fun w => ((hdc d m hd4).2 w).trans (key w).symm⟩
  · intro i m
    have key : ∀ w, zOnM (zOpV s a) i m w ↔ zOnM s i m w := fun w => by
      unfold zOnM
      rw [e9]
      by_cases e : w = (s 9 0 0).toNat
      · subst e; rw [e13]
        exact ⟨fun h => absurd rfl h.2.1, fun h => absurd h.1 (by omega)⟩
      · rw [n10 w e, n13 w e]
        exact ⟨fun h => ⟨key0 w h.1 e, h.2⟩, fun h => ⟨by have := h.1; omega, h.2⟩⟩
    exact ⟨(hdm i m).1, fun w => ((hdm i m).2 w).trans (key w).symm⟩
theorem zInv.hire {s : zS} (h : zInv s) {a b c : Int} (hn : s 0 0 0 < 5) (ha : 1 ≤ a ∧ a ≤ 15) (hb9 : 0 ≤ b ∧ b < 600) (hc9 : 0 ≤ c ∧ c ≤ 600) : zInv (zOpH s a b c) := by
  obtain ⟨hb, ⟨c1, c2, c3, c4, c5, c6, c7, c8, c9, c10, c11, c12, c13, c14, c15⟩, hs1, hs2, hu1, hu2, hq, hdc, hdm⟩ := h
  have e0 : zOpH s a b c 0 0 0 = s 0 0 0 + 1 := rfl
  refine ⟨zB_u (zB_u (zB_u (zB_u hb (by omega)) (by omega)) (by omega)) (by omega), ⟨⟨by rw [e0]; omega, by rw [e0]; omega⟩, c2, c3, c4, c5, c6, c7, c8, ?_, c10, c11, c12, c13, ?_, c15⟩, hs1, hs2, hu1, hu2, hq, hdc, hdm⟩
  · intro i
    by_cases e : i = (s 0 0 0).toNat
    · rw [show zOpH s a b c 1 i 0 = a from if_pos ⟨rfl, e, rfl⟩]; omega
    · rw [show zOpH s a b c 1 i 0 = s 1 i 0 from if_neg (fun h => e h.2.1)]; exact c9 i
  · intro w hw
    rcases c14 w hw with h | h
    · exact Or.inl h
    · refine Or.inr ⟨h.1, h.2.1, ⟨h.2.2.1.1, ?_⟩, h.2.2.2⟩
      rw [e0]
      have := h.2.2.1.2
      show s 11 w 0 < s 0 0 0 + 1
      omega
theorem zP5 (s : zS) (a : Nat) (k m : Int) : zOpP s a k m 5 a 0 = s 5 a 0 + 1 := if_pos ⟨rfl, rfl, rfl⟩
theorem zP5n {s : zS} {a b : Nat} {k m : Int} (h : b ≠ a) : zOpP s a k m 5 b 0 = s 5 b 0 := if_neg (fun h2 => h h2.2.1)
theorem zP7n {s : zS} {a b : Nat} {k m : Int} (h : b ≠ a) : zOpP s a k m 7 b = s 7 b := funext fun j => if_neg (fun h2 => h h2.2.1)
theorem zP6n {s : zS} {a b : Nat} {k m : Int} (h : b ≠ a) : zOpP s a k m 6 b = s 6 b := funext fun j => if_neg (fun h2 => h h2.2.1)
theorem zP7 {s : zS} {a j : Nat} {k m : Int} : zOpP s a k m 7 a j = if j = (s 5 a 0).toNat then m else s 7 a j := by
  show (if 7 = 7 ∧ a = a ∧ j = (s 5 a 0).toNat then m else s 7 a j) = _
  by_cases e : j = (s 5 a 0).toNat
  · rw [if_pos ⟨rfl, rfl, e⟩, if_pos e]
  · rw [if_neg (fun h => e h.2.2), if_neg e]
theorem zP6 {s : zS} {a j : Nat} {k m : Int} : zOpP s a k m 6 a j = if j = (s 5 a 0).toNat then k else s 6 a j := by
  show (if 6 = 6 ∧ a = a ∧ j = (s 5 a 0).toNat then k else s 6 a j) = _
  by_cases e : j = (s 5 a 0).toNat
  · rw [if_pos ⟨rfl, rfl, e⟩, if_pos e]
  · rw [if_neg (fun h => e h.2.2), if_neg e]
theorem zOff_Pn {s : zS} {a b : Nat} {k m : Int} (h : b ≠ a) (j : Nat) : zOff (zOpP s a k m) b j = zOff s b j := by
  unfold zOff
  rw [zP7n h]
theorem zSc_Pn {s : zS} {a b : Nat} {k m : Int} (h : b ≠ a) : zSc (zOpP s a k m) b = zSc s b := by
  unfold zSc
  rw [zP5n h]
theorem zLen_Pn {s : zS} {a b : Nat} {k m : Int} (h : b ≠ a) : zLen (zOpP s a k m) b = zLen s b := by
  unfold zLen
  rw [zSc_Pn h, zOff_Pn h]
theorem zOff_P {s : zS} {a j : Nat} {k m : Int} (h : j ≤ (s 5 a 0).toNat) : zOff (zOpP s a k m) a j = zOff s a j := zsm_cong fun i hi => by rw [zP7, if_neg (by omega)]
theorem zSc_P {s : zS} {a : Nat} {k m : Int} (h : 0 ≤ s 5 a 0) : zSc (zOpP s a k m) a = (s 5 a 0).toNat + 1 := by
  unfold zSc
  rw [zP5]
  omega
theorem zOff_P1 {s : zS} {a : Nat} {k m : Int} : zOff (zOpP s a k m) a ((s 5 a 0).toNat + 1) = zOff s a (s 5 a 0).toNat + m := by
  show zOff (zOpP s a k m) a (s 5 a 0).toNat + zOpP s a k m 7 a (s 5 a 0).toNat = _
  rw [zOff_P (Nat.le_refl _), zP7, if_pos rfl]
theorem zLen_P {s : zS} {a : Nat} {k m : Int} (h : 0 ≤ s 5 a 0) : zLen (zOpP s a k m) a = zLen s a + m := by
  show zOff (zOpP s a k m) a (zSc (zOpP s a k m) a) = _
  rw [zSc_P h, zOff_P1]
  rfl
theorem zInv_app {s : zS} {a : Nat} {k m : Int} (h : zB s ∧ (zC1 s ∨ ∃ s0, zC1 s0 ∧ s = zOpN s0 ∧ a = (s0 4 0 0).toNat ∧ s0 4 0 0 < 8) ∧ (∀ a k : Nat, (k : Int) < s 5 a 0 → 1 ≤ s 7 a k) ∧ (∀ a : Nat, s 4 0 0 ≤ (a : Int) → s 5 a 0 = 0 ∧ s 8 a 0 = 0) ∧ (∀ a, s 8 a 0 = 0 ∨ s 8 a 0 = 1) ∧ (∀ v : Nat, (v : Int) < s 9 0 0 → s 8 (s 10 v 0).toNat 0 = 1) ∧ (∀ j : Nat, (j : Int) < s 14 0 0 → s 15 j 0 = s 19 (s 17 j 0).toNat 0 ∧ s 16 j 0 = s 20 (s 17 j 0).toNat 0) ∧ zDayC s ∧ zDayM s) (ha : (a : Int) < s 4 0 0) (hu : s 8 a 0 = 0) (h5 : s 5 a 0 < 5) (hk : -1 ≤ k ∧ k < 4) (hm : 1 ≤ m ∧ m ≤ 200) : zInv (zOpP s a k m) := by
  obtain ⟨hb, hc, hs1, hs2, hu1, hu2, hq, hdc, hdm⟩ := h
  have hc2 : (0 ≤ s 0 0 0 ∧ s 0 0 0 ≤ 5) ∧ (0 ≤ s 4 0 0 ∧ s 4 0 0 ≤ 8) ∧ (0 ≤ s 9 0 0 ∧ s 9 0 0 ≤ 30) ∧ (0 ≤ s 14 0 0 ∧ s 14 0 0 ≤ 6) ∧ (0 ≤ s 18 0 0 ∧ s 14 0 0 ≤ s 18 0 0) ∧ (∀ a k, -1 ≤ s 6 a k ∧ s 6 a k < 4) ∧ (∀ a k, 0 ≤ s 7 a k ∧ s 7 a k ≤ 200) ∧ (∀ a, 0 ≤ s 5 a 0 ∧ s 5 a 0 ≤ 5) ∧ (∀ i, 0 ≤ s 1 i 0 ∧ s 1 i 0 ≤ 15) ∧ (∀ m, s 22 m 0 = 0 ∨ s 22 m 0 = 1) ∧ (∀ v : Nat, (v : Int) < s 9 0 0 → 0 ≤ s 10 v 0 ∧ s 10 v 0 < s 4 0 0) ∧ (∀ k : Nat, (k : Int) < s 14 0 0 → 0 ≤ s 17 k 0 ∧ s 17 k 0 < s 18 0 0) ∧ (∀ r : Nat, (r : Int) < s 18 0 0 → 0 ≤ s 19 r 0 ∧ s 19 r 0 < s 4 0 0) ∧ (∀ v : Nat, (v : Int) < s 9 0 0 → s 13 v 0 = -1 ∨ (0 ≤ s 13 v 0 ∧ s 13 v 0 + zLen s (s 10 v 0).toNat ≤ 600 ∧ (0 ≤ s 11 v 0 ∧ s 11 v 0 < s 0 0 0) ∧ (0 ≤ s 12 v 0 ∧ s 12 v 0 < 4))) ∧ ∀ b : Nat, (b : Int) < s 4 0 0 → b ≠ a → 1 ≤ zLen s b := by
    rcases hc with hc | ⟨s0, hc, e, e2, e3⟩
    · obtain ⟨c1, c2, c3, c4, c5, c6, c7, c8, c9, c10, c11, c12, c13, c14, c15⟩ := hc
      exact ⟨c1, c2, c3, c4, c5, c6, c7, c8, c9, c10, c11, c12, c13, c14, fun b h _ => c15 b h⟩
    · obtain ⟨c1, c2, c3, c4, c5, c6, c7, c8, c9, c10, c11, c12, c13, c14, c15⟩ := hc
      subst e
      have e4 : zOpN s0 4 0 0 = s0 4 0 0 + 1 := rfl
      refine ⟨c1, ⟨by rw [e4]; omega, by rw [e4]; omega⟩, c3, c4, c5, c6, c7, c8, c9, c10, fun v h => ⟨(c11 v h).1, ?_⟩, c12, fun r h => ⟨(c13 r h).1, ?_⟩, c14, fun b h1 h2 => c15 b ?_⟩
      · have := (c11 v h).2
        rw [e4]
        show s0 10 v 0 < _
        omega
      · have := (c13 r h).2
        rw [e4]
        show s0 19 r 0 < _
        omega
      · rw [e4] at h1
        omega
  obtain ⟨c1, c2, c3, c4, c5, c6, c7, c8, c9, c10, c11, c12, c13, c14, c15⟩ := hc2
  have hoth : ∀ v : Nat, (v : Int) < s 9 0 0 → (s 10 v 0).toNat ≠ a := fun v hv e => by
    have := hu2 v hv
    rw [e, hu] at this
    omega
  have h50 := c8 a
  refine ⟨zB_u (zB_u (zB_u hb (by omega)) (by omega)) (by omega), ⟨c1, c2, c3, c4, c5, ?_, ?_, ?_, c9, c10, c11, c12, c13, ?_, ?_⟩, ?_, ?_, hu1, hu2, hq, ?_, ?_⟩
  · intro b j
    by_cases e : b = a
    · subst e; rw [zP6]; split
      · exact hk
      · exact c6 b j
    · rw [zP6n e]; exact c6 b j
  · intro b j
    by_cases e : b = a
    · subst e; rw [zP7]; split
      · omega
      · exact c7 b j
    · rw [zP7n e]; exact c7 b j
  · intro b
    by_cases e : b = a
    · subst e; rw [zP5]; omega
    · rw [zP5n e]; exact c8 b
  · intro v hv
    rw [zLen_Pn (show (zOpP s a k m 10 v 0).toNat ≠ a from hoth v hv)]
    exact c14 v hv
  · intro b hb2
    by_cases e : b = a
    · subst e
      rw [zLen_P h50.1]
      have := (zsm_r (f := s 7 b) (c := 200) (by decide) (fun j => c7 b j) (zSc s b)).1
      show 1 ≤ zsm (s 7 b) (zSc s b) + m
      omega
    · rw [zLen_Pn e]; exact c15 b hb2 e
  · intro b j hj
    by_cases e : b = a
    · subst e
      rw [zP5] at hj
      rw [zP7]
      split
      · omega
      · exact hs1 b j (by omega)
    · rw [zP5n e] at hj
      rw [zP7n e]
      exact hs1 b j hj
  · intro b hb2
    have hb3 : s 4 0 0 ≤ (b : Int) := hb2
    rw [zP5n (show b ≠ a by omega)]
    exact hs2 b hb3
  · intro d j hd4
    have key : ∀ w, zOnC (zOpP s a k m) d j w ↔ zOnC s d j w := fun w => by
      have e1 : ∀ (P : Prop), ((w : Int) < s 9 0 0 ∧ P ↔ (w : Int) < s 9 0 0 ∧ P) := fun _ => Iff.rfl
      constructor
      · intro h
        have hw : (w : Int) < s 9 0 0 := h.1
        have h2 := h.2.2.2.2
        rw [zLen_Pn (show (zOpP s a k m 10 w 0).toNat ≠ a from hoth w hw)] at h2
        exact ⟨hw, h.2.1, h.2.2.1, h.2.2.2.1, h2⟩
      · intro h
        refine ⟨h.1, h.2.1, h.2.2.1, h.2.2.2.1, ?_⟩
        rw [zLen_Pn (show (zOpP s a k m 10 w 0).toNat ≠ a from hoth w h.1)]
        exact h.2.2.2.2
    exact ⟨(hdc d j hd4).1, fun w => ((hdc d j hd4).2 w).trans (key w).symm⟩
  · intro i j
    have key : ∀ w, zOnM (zOpP s a k m) i j w ↔ zOnM s i j w := fun w => by
      constructor
      · intro h
        have hw : (w : Int) < s 9 0 0 := h.1
        have hne : (zOpP s a k m 10 w 0).toNat ≠ a := hoth w hw
        refine ⟨hw, h.2.1, h.2.2.1, ?_⟩
        obtain ⟨p, h1, h2, h3, h4⟩ := h.2.2.2
        rw [zSc_Pn hne] at h1
        rw [zP6n hne] at h2
        rw [zOff_Pn hne] at h3 h4
        exact ⟨p, h1, h2, h3, h4⟩
      · intro h
        have hne : (zOpP s a k m 10 w 0).toNat ≠ a := hoth w h.1
        refine ⟨h.1, h.2.1, h.2.2.1, ?_⟩
        obtain ⟨p, h1, h2, h3, h4⟩ := h.2.2.2
        refine ⟨p, ?_, ?_, ?_, ?_⟩
        · rw [zSc_Pn hne]; exact h1
        · rw [zP6n hne]; exact h2
        · rw [zOff_Pn hne]; exact h3
        · rw [zOff_Pn hne]; exact h4
    exact ⟨(hdm i j).1, fun w => ((hdm i j).2 w).trans (key w).symm⟩
theorem zInv.step {s : zS} (h : zInv s) {a : Nat} {k m : Int} (ha : (a : Int) < s 4 0 0) (hu : s 8 a 0 = 0) (h5 : s 5 a 0 < 5) (hk : -1 ≤ k ∧ k < 4) (hm : 1 ≤ m ∧ m ≤ 200) : zInv (zOpP s a k m) := zInv_app ⟨h.1, Or.inl h.2.1, h.2.2⟩ ha hu h5 hk hm
theorem zInv.svc {s : zS} (h : zInv s) {k m : Int} (hn : s 4 0 0 < 8) (hk : -1 ≤ k ∧ k < 4) (hm : 1 ≤ m ∧ m ≤ 200) : zInv (zOpP (zOpN s) (s 4 0 0).toNat k m) := by
  have h4 := h.c.2.1
  have h52 := h.2.2.2.1 (s 4 0 0).toNat (by omega)
  refine zInv_app ⟨zB_u h.b (by omega), Or.inr ⟨s, h.c, rfl, rfl, hn⟩, h.2.2.1, fun a ha => h.2.2.2.1 a ?_, h.2.2.2.2⟩ ?_ h52.2 ?_ hk hm
  · have e4 : zOpN s 4 0 0 = s 4 0 0 + 1 := rfl
    rw [e4] at ha
    omega
  · show _ < s 4 0 0 + 1
    omega
  · show s 5 (s 4 0 0).toNat 0 < 5
    omega
theorem zInv.req {s : zS} (h : zInv s) {a : Nat} {l : Int} (ha : (a : Int) < s 4 0 0) (hl : 0 ≤ l ∧ l < 600) (hn : s 14 0 0 < 6) (hr : s 18 0 0 < 1000) : zInv (zOpQ s a l) := by
  obtain ⟨hb, ⟨c1, c2, c3, c4, c5, c6, c7, c8, c9, c10, c11, c12, c13, c14, c15⟩, hs1, hs2, hu1, hu2, hq, hdc, hdm⟩ := h
  have e14 : zOpQ s a l 14 0 0 = s 14 0 0 + 1 := rfl
  have e18 : zOpQ s a l 18 0 0 = s 18 0 0 + 1 := rfl
  have e15 : zOpQ s a l 15 (s 14 0 0).toNat 0 = a := if_pos ⟨rfl, rfl, rfl⟩
  have e16 : zOpQ s a l 16 (s 14 0 0).toNat 0 = l := if_pos ⟨rfl, rfl, rfl⟩
  have e17 : zOpQ s a l 17 (s 14 0 0).toNat 0 = s 18 0 0 := if_pos ⟨rfl, rfl, rfl⟩
  have e19 : zOpQ s a l 19 (s 18 0 0).toNat 0 = a := if_pos ⟨rfl, rfl, rfl⟩
  have e20 : zOpQ s a l 20 (s 18 0 0).toNat 0 = l := if_pos ⟨rfl, rfl, rfl⟩
  have n15 : ∀ j, j ≠ (s 14 0 0).toNat → zOpQ s a l 15 j 0 = s 15 j 0 := fun j e => if_neg (fun h => e h.2.1)
  have n16 : ∀ j, j ≠ (s 14 0 0).toNat → zOpQ s a l 16 j 0 = s 16 j 0 := fun j e => if_neg (fun h => e h.2.1)
  have n17 : ∀ j, j ≠ (s 14 0 0).toNat → zOpQ s a l 17 j 0 = s 17 j 0 := fun j e => if_neg (fun h => e h.2.1)
  have n19 : ∀ j, j ≠ (s 18 0 0).toNat → zOpQ s a l 19 j 0 = s 19 j 0 := fun j e => if_neg (fun h => e h.2.1)
  have n20 : ∀ j, j ≠ (s 18 0 0).toNat → zOpQ s a l 20 j 0 = s 20 j 0 := fun j e => if_neg (fun h => e h.2.1)
  have e4 : zOpQ s a l 4 0 0 = s 4 0 0 := rfl
  refine ⟨zB_u (zB_u (zB_u (zB_u (zB_u (zB_u (zB_u (zB_u hb (by omega)) (by omega)) (by omega)) (by omega)) (by omega)) (by omega)) (by omega)) (by omega), ⟨c1, c2, c3, ⟨by rw [e14]; omega, by rw [e14]; omega⟩, ⟨by rw [e18]; omega, by rw [e18, e14]; omega⟩, c6, c7, c8, c9, c10, c11, ?_, ?_, c14, c15⟩, hs1, ?_, zu8 hu1, fun v hv => zu8_1 (hu2 v hv), ?_, hdc, hdm⟩
  · intro j hj
    rw [e14] at hj
    rw [e18]
    by_cases e : j = (s 14 0 0).toNat
    · subst e; rw [e17]; omega
    · rw [n17 j e]; have := c12 j (by omega); omega
  · intro j hj
    rw [e18] at hj
    rw [e4]
    by_cases e : j = (s 18 0 0).toNat
    · subst e; rw [e19]; omega
    · rw [n19 j e]; exact c13 j (by omega)
  · intro b hb9
    have hb8 : s 4 0 0 ≤ (b : Int) := hb9
    exact ⟨(hs2 b hb8).1, (zu8_n (s := (zsu (zsu (zsu (zsu (zsu (zsu (zsu s 15 (s 14 0 0).toNat 0 a) 16 (s 14 0 0).toNat 0 l) 17 (s 14 0 0).toNat 0 (s 18 0 0)) 19 (s 18 0 0).toNat 0 a) 20 (s 18 0 0).toNat 0 l) 18 0 0 (s 18 0 0 + 1)) 14 0 0 (s 14 0 0 + 1))) (show b ≠ a by omega)).trans (hs2 b hb8).2⟩
  · intro j hj
    rw [e14] at hj
    by_cases e : j = (s 14 0 0).toNat
    · subst e; rw [e15, e16, e17, e19, e20]; exact ⟨rfl, rfl⟩
    · have h12 := c12 j (by omega)
      rw [n15 j e, n16 j e, n17 j e, n19 _ (by omega), n20 _ (by omega)]
      exact hq j (by omega)
