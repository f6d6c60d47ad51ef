/-! ===== bits; laws of kit/laws/NUMBERS.to-paste turned to zI ===== -/
theorem zI_nat (n : Nat) : zI (n : Int) = nI n := by
  apply Int32.toBitVec_inj.1
  show BitVec.ofInt 32 (n : Int) = BitVec.ofNat 32 n
  exact BitVec.ofInt_natCast 32 n
theorem zI_and (a b : Nat) : zI (a : Int) &&& zI (b : Int) = zI ((a &&& b : Nat) : Int) := by
  rw [zI_nat, zI_nat, zI_nat]
  apply Int32.toBitVec_inj.1
  show BitVec.ofNat 32 a &&& BitVec.ofNat 32 b = BitVec.ofNat 32 (a &&& b)
  apply BitVec.eq_of_getLsbD_eq
  intro i hi
  simp [hi]
theorem zI_or (a b : Nat) : zI (a : Int) ||| zI (b : Int) = zI ((a ||| b : Nat) : Int) := by
  rw [zI_nat, zI_nat, zI_nat]
  apply Int32.toBitVec_inj.1
  show BitVec.ofNat 32 a ||| BitVec.ofNat 32 b = BitVec.ofNat 32 (a ||| b)
  apply BitVec.eq_of_getLsbD_eq
  intro i hi
  simp [hi]
/-- 1 << s for a small s -/
theorem zI_bit : ∀ s : Nat, s < 20 → zI 1 <<< (zI (s : Int) &&& 31) = zI ((2 ^ s : Nat) : Int) := by decide +kernel
theorem zI_bitI {s : Int} (h0 : 0 ≤ s) (h1 : s < 20) : zI 1 <<< (zI s &&& 31) = zI ((2 ^ s.toNat : Nat) : Int) := by
  have := zI_bit s.toNat (by omega)
  rwa [show ((s.toNat : Nat) : Int) = s by omega] at this
/-- n >> i for a small i -/
theorem zI_shr {n i : Nat} (hn : n < 2 ^ 31) (hi : i < 31) : zI (n : Int) >>> (zI (i : Int) &&& 31) = zI ((n / 2 ^ i : Nat) : Int) := by
  rw [zI_nat, zI_nat, zI_nat]
  refine pk_shrN hn _ i ?_
  have key : ∀ j : Nat, j < 31 → ((nI j &&& 31).toBitVec.smod 32).toNat = j := by decide +kernel
  exact key i hi
theorem zI_shrI {n : Nat} {i : Int} (hn : n < 2 ^ 31) (h0 : 0 ≤ i) (hi : i < 31) : zI (n : Int) >>> (zI i &&& 31) = zI ((n / 2 ^ i.toNat : Nat) : Int) := by
  have := zI_shr (i := i.toNat) hn (by omega)
  rwa [show ((i.toNat : Nat) : Int) = i by omega] at this
theorem zI_and1 (n : Nat) : zI (n : Int) &&& zI 1 = zI ((n % 2 : Nat) : Int) := by
  have h := zI_and n 1
  rw [Nat.and_one_is_mod] at h
  exact h
