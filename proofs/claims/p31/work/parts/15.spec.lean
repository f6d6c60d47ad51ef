/-! ===== what the book's questions are, over the state ===== -/
/-- every number of the state is small -/
def zB (s : zS) : Prop := ∀ f i j, -1 ≤ s f i j ∧ s f i j ≤ 1000
theorem zB.r {s : zS} (h : zB s) (f i j : Nat) : zR (s f i j) := ⟨by have := (h f i j).1; omega, by have := (h f i j).2; omega⟩
/-- the steps' minutes and skills, the counts -/
def zC1 (s : zS) : Prop := (0 ≤ s 0 0 0 ∧ s 0 0 0 ≤ 5) ∧ (0 ≤ s 4 0 0 ∧ s 4 0 0 ≤ 8) ∧ (0 ≤ s 9 0 0 ∧ s 9 0 0 ≤ 30) ∧ (0 ≤ s 14 0 0 ∧ s 14 0 0 ≤ 6) ∧ (0 ≤ s 18 0 0 ∧ s 14 0 0 ≤ s 18 0 0) ∧ (∀ a k, -1 ≤ s 6 a k ∧ s 6 a k < 4) ∧ (∀ a k, 0 ≤ s 7 a k ∧ s 7 a k ≤ 200) ∧ (∀ a, 0 ≤ s 5 a 0 ∧ s 5 a 0 ≤ 5) ∧ (∀ i, 0 ≤ s 1 i 0 ∧ s 1 i 0 ≤ 15) ∧ (∀ m, s 22 m 0 = 0 ∨ s 22 m 0 = 1) ∧ (∀ v : Nat, (v : Int) < s 9 0 0 → 0 ≤ s 10 v 0 ∧ s 10 v 0 < s 4 0 0) ∧ (∀ k : Nat, (k : Int) < s 14 0 0 → 0 ≤ s 17 k 0 ∧ s 17 k 0 < s 18 0 0) ∧ (∀ r : Nat, (r : Int) < s 18 0 0 → 0 ≤ s 19 r 0 ∧ s 19 r 0 < s 4 0 0) ∧ (∀ v : Nat, (v : Int) < s 9 0 0 → s 13 v 0 = -1 ∨ (0 ≤ s 13 v 0 ∧ s 13 v 0 + zLen s (s 10 v 0).toNat ≤ 600 ∧ (0 ≤ s 11 v 0 ∧ s 11 v 0 < s 0 0 0) ∧ (0 ≤ s 12 v 0 ∧ s 12 v 0 < 4))) ∧ ∀ a : Nat, (a : Int) < s 4 0 0 → 1 ≤ zLen s a
theorem zsm_r {f : Nat → Int} {c : Int} (hc : 0 ≤ c) (h : ∀ k, 0 ≤ f k ∧ f k ≤ c) : ∀ n : Nat, 0 ≤ zsm f n ∧ zsm f n ≤ n * c
  | 0 => by simp [zsm]
  | n + 1 => by
    have ih := zsm_r hc h n
    have h1 := h n
    rw [zsm, show ((n + 1 : Nat) : Int) * c = n * c + c by rw [Int.natCast_add, Int.add_mul]; simp]
    omega
theorem zC1.off {s : zS} (h : zC1 s) (a k : Nat) : 0 ≤ zOff s a k ∧ zOff s a k ≤ k * 200 := zsm_r (by decide) (fun j => h.2.2.2.2.2.2.1 a j) k
theorem zC1.offm {s : zS} (h : zC1 s) (a k : Nat) : ∀ n : Nat, zOff s a k ≤ zOff s a (k + n)
  | 0 => Int.le_refl _
  | n + 1 => by
    have ih := zC1.offm h a k n
    have h1 := h.2.2.2.2.2.2.1 a (k + n)
    show zOff s a k ≤ zsm (s 7 a) (k + n) + s 7 a (k + n)
    have e : zOff s a (k + n) = zsm (s 7 a) (k + n) := rfl
    omega
theorem zC1.offl {s : zS} (h : zC1 s) {a k : Nat} (hk : k ≤ zSc s a) : zOff s a k ≤ zLen s a := by
  have h1 := zC1.offm h a k (zSc s a - k)
  rw [show k + (zSc s a - k) = zSc s a by omega] at h1
  exact h1
theorem zC1.sc {s : zS} (h : zC1 s) (a : Nat) : zSc s a ≤ 5 ∧ ((zSc s a : Nat) : Int) = s 5 a 0 := by
  have := h.2.2.2.2.2.2.2.1 a
  unfold zSc
  omega
theorem zC1.len {s : zS} (h : zC1 s) (a : Nat) : 0 ≤ zLen s a ∧ zLen s a ≤ 1000 := by
  have h1 := h.off a (zSc s a)
  have h2 := (h.sc a).1
  unfold zLen
  omega
theorem zC1.work {s : zS} (h : zC1 s) (a : Nat) : 0 ≤ zWork s a ∧ zWork s a ≤ 1000 := by
  have h1 := zsm_r (f := fun k => if s 6 a k = -1 then 0 else s 7 a k) (c := 200) (by decide) (fun k => by
    have := h.2.2.2.2.2.2.1 a k
    split <;> omega) (zSc s a)
  have h2 := (h.sc a).1
  unfold zWork
  omega
theorem zAskN_lt {s : zS} (h : zC1 s) (a : Nat) : ∀ k, zAskN s a k < 16
  | 0 => Nat.succ_pos 15
  | k + 1 => by
    have ih := zAskN_lt h a k
    have h1 := h.2.2.2.2.2.1 a k
    rw [zAskN]
    have key : ∀ x y : Nat, x < 16 → y < 16 → x ||| y < 16 := fun x y hx hy => Nat.or_lt_two_pow (n := 4) hx hy
    refine key _ _ ih ?_
    split
    · decide
    · rename_i h2
      rcases (show s 6 a k = 0 ∨ s 6 a k = 1 ∨ s 6 a k = 2 ∨ s 6 a k = 3 by omega) with e | e | e | e <;> rw [e] <;> decide
theorem zC1.ask {s : zS} (h : zC1 s) (a : Nat) : 0 ≤ zAsk s a ∧ zAsk s a < 16 := by
  have := zAskN_lt h a (zSc s a)
  unfold zAsk
  omega
theorem zR_if {c : Prop} [Decidable c] : zR (if c then (1 : Int) else 0) := by split <;> exact ⟨by decide, by decide⟩
/-- a stretch of a day is free -/
abbrev zFr (s : zS) (d : Nat) (a b : Int) : Prop := 0 ≤ a ∧ a ≤ b ∧ b ≤ 600 ∧ zTk (s 21 d) a.toNat = zTk (s 21 d) b.toNat
/-- the chair that can take service a from x on -/
def zChair (s : zS) (a : Nat) (x : Int) : Int := if zFr s 0 x (x + zLen s a) then 0 else if zFr s 1 x (x + zLen s a) then 1 else if zFr s 2 x (x + zLen s a) then 2 else if zFr s 3 x (x + zLen s a) then 3 else -1
/-- a member's steps of service a from x on are free, as far as step k -/
def zStp (s : zS) (i a : Nat) (x : Int) : Nat → Bool
  | 0 => true
  | k + 1 => zStp s i a x k && (decide (s 6 a k = -1) || decide (zFr s (i + 4) (x + zOff s a k) (x + zOff s a (k + 1))))
def zSk (s : zS) (i a : Nat) : Bool := (s 1 i 0).toNat &&& zAskN s a (zSc s a) == zAskN s a (zSc s a)
def zCan (s : zS) (i a : Nat) (x : Int) : Bool := zSk s i a && decide (s 2 i 0 ≤ x) && decide (x + zLen s a ≤ s 3 i 0) && zStp s i a x (zSc s a)
def zLoad (s : zS) (i : Int) : Int := zsm (fun v => if s 13 v 0 ≠ -1 ∧ s 11 v 0 = i then zWork s (s 10 v 0).toNat else 0) (s 9 0 0).toNat
/-- who gets service a at x, of the first i members, and the load; 'who' are the members that are asked for -/
def zMem (s : zS) (who : Nat → Bool) (a : Nat) (x : Int) : Nat → Int × Int
  | 0 => (-1, 0)
  | i + 1 => if who i && zCan s i a x then (if (zMem s who a x i).1 = -1 ∨ zLoad s i < (zMem s who a x i).2 then ((i : Int), zLoad s i) else zMem s who a x i) else zMem s who a x i
def zGet (s : zS) (who : Nat → Bool) (a : Nat) (x : Int) : Int := (zMem s who a x (s 0 0 0).toNat).1
def zRoomB (s : zS) (who : Nat → Bool) (a : Nat) (x : Int) : Bool := decide (zChair s a x ≠ -1) && decide (zGet s who a x ≠ -1)
/-- the first start from x on, before 'to' -/
def zScan (s : zS) (who : Nat → Bool) (a : Nat) (to : Int) : Nat → Int → Int
  | 0, _ => -1
  | n + 1, x => if to < x + zLen s a then -1 else if zRoomB s who a x then x else zScan s who a to n (x + 1)
def zFind (s : zS) (who : Nat → Bool) (a : Nat) (x to : Int) : Int := zScan s who a to (to - x + 1).toNat x
def zBit (w : Nat) : Nat → Bool := fun i => w / 2 ^ i % 2 == 1
