/-! ===== what holds of the book between calls ===== -/
/-- minute m lies in one of the first k steps of service a from x on that ask for a skill -/
def zCv (s : zS) (a : Nat) (x : Int) (k m : Nat) : Prop := ∃ j : Nat, j < k ∧ ¬ s 6 a j = -1 ∧ x + zOff s a j ≤ (m : Int) ∧ (m : Int) < x + zOff s a (j + 1)
/-- visit v takes minute m of chair c -/
def zOnC (s : zS) (c m v : Nat) : Prop := (v : Int) < s 9 0 0 ∧ ¬ s 13 v 0 = -1 ∧ s 12 v 0 = (c : Int) ∧ s 13 v 0 ≤ (m : Int) ∧ (m : Int) < s 13 v 0 + zLen s (s 10 v 0).toNat
/-- visit v takes minute m of member i -/
def zOnM (s : zS) (i m v : Nat) : Prop := (v : Int) < s 9 0 0 ∧ ¬ s 13 v 0 = -1 ∧ s 11 v 0 = (i : Int) ∧ zCv s (s 10 v 0).toNat (s 13 v 0) (zSc s (s 10 v 0).toNat) m
def zDayC (s : zS) : Prop := ∀ c m : Nat, c < 4 → (s 21 c m = -1 ∨ ∃ v : Nat, s 21 c m = (v : Int)) ∧ ∀ v : Nat, s 21 c m = (v : Int) ↔ zOnC s c m v
def zDayM (s : zS) : Prop := ∀ i m : Nat, (s 21 (i + 4) m = -1 ∨ ∃ v : Nat, s 21 (i + 4) m = (v : Int)) ∧ ∀ v : Nat, s 21 (i + 4) m = (v : Int) ↔ zOnM s i m v
/-- the marks of a visit on a member's day, as far as step k -/
def zMk (s : zS) (a : Nat) (x b : Int) (f : Nat → Int) : Nat → Nat → Int
  | 0 => f
  | k + 1 => if s 6 a k = -1 then zMk s a x b f k else zfil (zMk s a x b f k) (x + zOff s a k) (x + zOff s a (k + 1)) b
def zInv (s : zS) : Prop := zB s ∧ zC1 s ∧ (∀ a k : Nat, (k : Int) < s 5 a 0 → 1 ≤ s 7 a k) ∧ (∀ a : Nat, s 4 0 0 ≤ (a : Int) → s 5 a 0 = 0 ∧ s 8 a 0 = 0) ∧ (∀ a, s 8 a 0 = 0 ∨ s 8 a 0 = 1) ∧ (∀ v : Nat, (v : Int) < s 9 0 0 → s 8 (s 10 v 0).toNat 0 = 1) ∧ (∀ j : Nat, (j : Int) < s 14 0 0 → s 15 j 0 = s 19 (s 17 j 0).toNat 0 ∧ s 16 j 0 = s 20 (s 17 j 0).toNat 0) ∧ zDayC s ∧ zDayM s
theorem zInv.b {s : zS} (h : zInv s) : zB s := h.1
theorem zInv.c {s : zS} (h : zInv s) : zC1 s := h.2.1
theorem zMk_in {s : zS} {a m : Nat} {x b : Int} {f : Nat → Int} : ∀ {k : Nat}, zCv s a x k m → zMk s a x b f k m = b
  | 0, h => by obtain ⟨j, hj, _⟩ := h; omega
  | k + 1, h => by
    rw [zMk]
    split
    · rename_i e
      refine zMk_in ?_
      obtain ⟨j, hj, h1, h2⟩ := h
      refine ⟨j, ?_, h1, h2⟩
      rcases Nat.lt_or_ge j k with h3 | h3
      · exact h3
      · exact absurd (show s 6 a j = -1 by rw [show j = k by omega]; exact e) h1
    · rename_i e
      show (if x + zOff s a k ≤ (m : Int) ∧ (m : Int) < x + zOff s a (k + 1) then b else zMk s a x b f k m) = b
      split
      · rfl
      · rename_i e2
        refine zMk_in ?_
        obtain ⟨j, hj, h1, h2⟩ := h
        refine ⟨j, ?_, h1, h2⟩
        rcases Nat.lt_or_ge j k with h3 | h3
        · exact h3
        · exact absurd (show x + zOff s a k ≤ (m : Int) ∧ (m : Int) < x + zOff s a (k + 1) by rw [show k = j by omega]; exact h2) e2
theorem zMk_out {s : zS} {a m : Nat} {x b : Int} {f : Nat → Int} : ∀ {k : Nat}, ¬ zCv s a x k m → zMk s a x b f k m = f m
  | 0, _ => rfl
  | k + 1, h => by
    have ih : ¬ zCv s a x k m := fun h2 => h (by obtain ⟨j, hj, h3⟩ := h2; exact ⟨j, by omega, h3⟩)
    rw [zMk]
    split
    · exact zMk_out ih
    · rename_i e
      show (if x + zOff s a k ≤ (m : Int) ∧ (m : Int) < x + zOff s a (k + 1) then b else zMk s a x b f k m) = f m
      rw [if_neg (fun h2 => h ⟨k, by omega, e, h2⟩)]
      exact zMk_out ih
/-- free, minute by minute -/
theorem zFr_iff {s : zS} {d : Nat} {a b : Int} (h0 : 0 ≤ a) (h1 : a ≤ b) (h2 : b ≤ 600) : zFr s d a b ↔ ∀ m : Nat, a ≤ (m : Int) → (m : Int) < b → s 21 d m = -1 := by
  have key := zTk_free (s 21 d) a.toNat (b.toNat - a.toNat)
  rw [show a.toNat + (b.toNat - a.toNat) = b.toNat by omega] at key
  constructor
  · intro h m h3 h4
    exact key.mp h.2.2.2 m (by omega) (by omega)
  · intro h
    exact ⟨h0, h1, h2, key.mpr fun j h3 h4 => h j (by omega) (by omega)⟩
theorem zStp_iff {s : zS} {i a : Nat} {x : Int} : ∀ {n : Nat}, zStp s i a x n = true ↔ ∀ k, k < n → s 6 a k = -1 ∨ zFr s (i + 4) (x + zOff s a k) (x + zOff s a (k + 1))
  | 0 => ⟨fun _ k h => absurd h (by omega), fun _ => rfl⟩
  | n + 1 => by
    rw [zStp, Bool.and_eq_true, Bool.or_eq_true, decide_eq_true_iff, decide_eq_true_iff, zStp_iff (n := n)]
    constructor
    · intro h k hk
      rcases Nat.lt_or_ge k n with h2 | h2
      · exact h.1 k h2
      · rw [show k = n by omega]; exact h.2
    · intro h
      exact ⟨fun k hk => h k (by omega), h n (by omega)⟩
/-- a member that is asked for and can take it: somebody gets it -/
theorem zMem_some {s : zS} {who : Nat → Bool} {a i : Nat} {x : Int} (h1 : who i = true) (h2 : zCan s i a x = true) : ∀ {n : Nat}, i < n → (zMem s who a x n).1 ≠ -1
  | 0, h => absurd h (by omega)
  | n + 1, h => by
    rw [zMem]
    rcases Nat.lt_or_ge i n with h3 | h3
    · have ih := zMem_some h1 h2 h3
      split
      · split
        · show ((n : Nat) : Int) ≠ -1
          omega
        · exact ih
      · exact ih
    · have e : i = n := by omega
      subst e
      rw [if_pos (by rw [h1, h2]; rfl)]
      split
      · show ((i : Nat) : Int) ≠ -1
        omega
      · rename_i h4
        exact fun h5 => h4 (Or.inl h5)
theorem zMem_none {s : zS} {who : Nat → Bool} {a : Nat} {x : Int} : ∀ {n : Nat}, (zMem s who a x n).1 ≠ -1 → ∃ i : Nat, i < n ∧ (zMem s who a x n).1 = (i : Int) ∧ who i = true ∧ zCan s i a x = true
  | 0, h => absurd rfl h
  | n + 1, h => by
    rw [zMem] at h ⊢
    split
    · rename_i h1
      rw [if_pos h1] at h
      rw [Bool.and_eq_true] at h1
      split
      · exact ⟨n, by omega, rfl, h1⟩
      · rename_i h2
        rw [if_neg h2] at h
        obtain ⟨i, h3, h4⟩ := zMem_none h
        exact ⟨i, by omega, h4⟩
    · rename_i h1
      rw [if_neg h1] at h
      obtain ⟨i, h3, h4⟩ := zMem_none h
      exact ⟨i, by omega, h4⟩
theorem zChair_ne {s : zS} {a c : Nat} {x : Int} (h4 : c < 4) (h : zFr s c x (x + zLen s a)) : zChair s a x ≠ -1 := by
  intro e
  by_cases h0 : zFr s 0 x (x + zLen s a)
  · rw [zChair, if_pos h0] at e; omega
  by_cases h1 : zFr s 1 x (x + zLen s a)
  · rw [zChair, if_neg h0, if_pos h1] at e; omega
  by_cases h2 : zFr s 2 x (x + zLen s a)
  · rw [zChair, if_neg h0, if_neg h1, if_pos h2] at e; omega
  by_cases h3 : zFr s 3 x (x + zLen s a)
  · rw [zChair, if_neg h0, if_neg h1, if_neg h2, if_pos h3] at e; omega
  rcases (show c = 0 ∨ c = 1 ∨ c = 2 ∨ c = 3 by omega) with rfl | rfl | rfl | rfl
  · exact h0 h
  · exact h1 h
  · exact h2 h
  · exact h3 h
theorem zChair_fr {s : zS} {a : Nat} {x : Int} (h : zChair s a x ≠ -1) : ∃ c : Nat, c < 4 ∧ zChair s a x = (c : Int) ∧ zFr s c x (x + zLen s a) := by
  unfold zChair at h ⊢
  split
  · exact ⟨0, by omega, rfl, by assumption⟩
  · split
    · exact ⟨1, by omega, rfl, by assumption⟩
    · split
      · exact ⟨2, by omega, rfl, by assumption⟩
      · split
        · exact ⟨3, by omega, rfl, by assumption⟩
        · rename_i h0 h1 h2 h3
          rw [if_neg h0, if_neg h1, if_neg h2, if_neg h3] at h
          exact absurd rfl h
/-- behind every start with room, but none just before it, something ends or begins -/
theorem zInv.ha {s : zS} (h : zInv s) : zHA s := by
  obtain ⟨hb, hc, hs1, hs2, hu1, hu2, hq, hdc, hdm⟩ := h
  intro wo a f ha hf x hfx hx hroom hno
  refine Classical.byContradiction fun hcd => ?_
  have hlen := hc.len a
  have hl1 := hc.2.2.2.2.2.2.2.2.2.2.2.2.2.2 a ha
  have hxf : f < x := by
    rcases Int.lt_or_eq_of_le hfx with h1 | h1
    · exact h1
    · exact absurd (Or.inl h1.symm) hcd
  have hlast := hno (x - 1) (by omega) (by omega)
  rw [zRoomB, Bool.and_eq_true, decide_eq_true_iff, decide_eq_true_iff] at hroom
  obtain ⟨c, hc4, _, hcf⟩ := zChair_fr hroom.1
  obtain ⟨i, hi, _, hwho, hcan⟩ := zMem_none hroom.2
  have hin : (i : Int) < s 0 0 0 := by omega
  have hcf2 := (zFr_iff (by omega) (by omega) (by omega)).mp hcf
  -- the chair, one minute before
  have hch : zFr s c (x - 1) (x - 1 + zLen s a) := by
    refine (zFr_iff (by omega) (by omega) (by omega)).mpr fun m h1 h2 => ?_
    rcases (show (m : Int) = x - 1 ∨ x ≤ (m : Int) by omega) with h3 | h3
    · rcases (hdc c m hc4).1 with h4 | ⟨v, hv⟩
      · exact h4
      · obtain ⟨e1, e2, e3, e4, e5⟩ := ((hdc c m hc4).2 v).mp hv
        refine absurd (Or.inr (Or.inr ⟨v, e1, e2, Or.inl ?_⟩)) hcd
        refine Classical.byContradiction fun h6 => ?_
        have h7 := hcf2 (m + 1) (by omega) (by omega)
        have h8 := ((hdc c (m + 1) hc4).2 v).mpr ⟨e1, e2, e3, by omega, by omega⟩
        omega
    · exact hcf2 m h3 (by omega)
  -- the member
  simp only [zCan, Bool.and_eq_true, decide_eq_true_iff] at hcan
  obtain ⟨⟨⟨k1, k2⟩, k3⟩, k4⟩ := hcan
  have k2b : s 2 i 0 ≤ x - 1 := by
    rcases Int.lt_or_eq_of_le k2 with h1 | h1
    · omega
    · exact absurd (Or.inr (Or.inl ⟨i, hin, h1.symm⟩)) hcd
  have hst : zStp s i a (x - 1) (zSc s a) = true := by
    refine zStp_iff.mpr fun k hk => ?_
    by_cases e6 : s 6 a k = -1
    · exact Or.inl e6
    refine Or.inr ?_
    have ho0 := (hc.off a k).1
    have ho1 := hc.offl (a := a) (k := k + 1) (by omega)
    have hsc := (hc.sc a).2
    have hm1 := hs1 a k (by omega)
    have hok : zOff s a (k + 1) = zOff s a k + s 7 a k := rfl
    have hfr := (zFr_iff (by omega) (by omega) (by omega)).mp ((zStp_iff.mp k4 k hk).resolve_left e6)
    refine (zFr_iff (by omega) (by omega) (by omega)).mpr fun m h1 h2 => ?_
    rcases (show (m : Int) = x - 1 + zOff s a k ∨ x + zOff s a k ≤ (m : Int) by omega) with h3 | h3
    · rcases (hdm i m).1 with h4 | ⟨v, hv⟩
      · exact h4
      · obtain ⟨e1, e2, e3, j, e4, e5, e7, e8⟩ := ((hdm i m).2 v).mp hv
        refine absurd (Or.inr (Or.inr ⟨v, e1, e2, Or.inr ⟨j, k, e4, hk, e5, e6, ?_⟩⟩)) hcd
        refine Classical.byContradiction fun h6 => ?_
        have h7 := hfr (m + 1) (by omega) (by omega)
        have h8 := ((hdm i (m + 1)).2 v).mpr ⟨e1, e2, e3, j, e4, e5, by omega, by omega⟩
        omega
    · exact hfr m h3 (by omega)
  have hcan1 : zCan s i a (x - 1) = true := zCan_of k1 k2b (by omega) hst
  have hr1 : zRoomB s (zBit wo) a (x - 1) = true := by
    rw [zRoomB, Bool.and_eq_true, decide_eq_true_iff, decide_eq_true_iff]
    exact ⟨zChair_ne hc4 hch, zMem_some hwho hcan1 hi⟩
  rw [hr1] at hlast
  exact absurd hlast (by decide)
