/-! ===== the model: searches ===== -/
theorem zLc_0 {f : Nat → Int} {x w y : Int} (hI : y = 1 ↔ ∀ m : Nat, x ≤ (m : Int) → (m : Int) < w → f m = -1) (h : y = 0) : ((0 : Int) = 1 ↔ ∀ m : Nat, x ≤ (m : Int) → (m : Int) < w + 1 → f m = -1) :=
  ⟨fun h9 => absurd h9 (by decide), fun h9 => by have := hI.mpr (fun m h1 h2 => h9 m h1 (by omega)); omega⟩
theorem zLc_1 {f : Nat → Int} {x w y : Int} (hI : y = 1 ↔ ∀ m : Nat, x ≤ (m : Int) → (m : Int) < w → f m = -1) (h : y = 1) (hw : 0 ≤ w) (hv : f w.toNat = -1) : ((1 : Int) = 1 ↔ ∀ m : Nat, x ≤ (m : Int) → (m : Int) < w + 1 → f m = -1) :=
  ⟨fun _ m h1 h2 => by
    rcases (show (m : Int) < w ∨ m = w.toNat by omega) with h3 | h3
    · exact hI.mp h m h1 h3
    · rw [h3]; exact hv, fun _ => rfl⟩
theorem zLc_2 {f : Nat → Int} {x w : Int} (hx : 0 ≤ x) (hw : x ≤ w) (hv : ¬ f w.toNat = -1) : ((0 : Int) = 1 ↔ ∀ m : Nat, x ≤ (m : Int) → (m : Int) < w + 1 → f m = -1) :=
  ⟨fun h9 => absurd h9 (by decide), fun h9 => absurd (h9 w.toNat (by omega) (by omega)) hv⟩
abbrev rX7_chairFor : Room := { frames := 1, cells := 0, slots := 0, locals := 23 }
set_option maxRecDepth 100000 in
set_option maxHeartbeats 4000000 in
theorem c_X7_chairFor {l : Launch} (hfl : l.stackTraces = false) (G : zG) {s t : zS} {o : zOx} (hc : zC1 t) (hb9 : zB t) {a : Nat} {x : Int} (ha : a < 8) (hx : 0 ≤ x ∧ x ≤ 600)  : zCn l G yX7_chairFor (.code yX7_chairFor cX7_chairFor 7 (some .int)) rX7_chairFor [.ref 16, .int (zI ((a : Nat))), .int (zI x)] (zAll s t o) (zRi (fun xr M2 => xr = zChair t a x ∧ M2 = (zAll s t o))) zN := by
  refine zStart hfl (by decide) (own := RX7) rfl [(0, .ref 16), (1, .int (zI ((a : Nat)))), (2, .int (zI x))] (Nat.le_of_ble_eq_true rfl) rfl (fun k hkl hinit hk0 F => ?_)
  have hn0 := hc.1
  have hn4 := hc.2.1
  have hn9 := hc.2.2.1
  have hn14 := hc.2.2.2.1
  have hn18 := hc.2.2.2.2.1
  have hln := hc.len a
  refine z_iload_n F 2 dX7_chairFor_0 rfl rfl ?_
  refine z_aload_n F 0 dX7_chairFor_1 rfl rfl ?_
  refine z_iload_n F 1 dX7_chairFor_2 rfl rfl ?_
  refine z_callV F [.int (zI ((a : Nat)))] [.int (zI x)] (c_X7_length F.2.2.1 G (s := s) (t := t) (o := o) hc hb9 (a := a) ha) cv_X7_87 (zAll_16 s t o) rfl rfl rfl ⟨by decide, by decide⟩ ⟨by decide, by decide⟩ (Nat.le_of_ble_eq_true rfl) dX7_chairFor_3 z_nx (z_ki (fun x_1 M_1 h_1 => ?_))
  have hx9 := (h_1).1.symm
  have hm9 := (h_1).2.symm
  subst hx9
  subst hm9
  refine z_iadd F dX7_chairFor_6 ?_
  refine z_istore_n F [(3, .int (zI (x + (zLen t a)))), (0, .ref 16), (1, .int (zI ((a : Nat)))), (2, .int (zI x))] dX7_chairFor_7 rfl (by decide) rfl ?_
  refine z_iload_n F 0 dX7_chairFor_8 rfl rfl ?_
  refine z_sipush (z := 600) F dX7_chairFor_9 (by decide) ?_
  refine z_icmp_le F 17 dX7_chairFor_12 (by decide) (by omega) ⟨by decide, by decide⟩ (fun c_2 => ?_) (fun c_2 => ?_)
  · skip
    refine z_iconst (z := 0) F dX7_chairFor_17 (by decide) ?_
    refine z_istore F [(4, .int (zI 0)), (3, .int (zI (x + (zLen t a)))), (0, .ref 16), (1, .int (zI ((a : Nat)))), (2, .int (zI x))] dX7_chairFor_18 (by decide) rfl ?_
    have L1 : ∀ (fuel : Nat) (q : Int), (4 - q).toNat < fuel → 0 ≤ q → q ≤ 4 → (∀ d : Nat, (d : Int) < q → ¬ zFr t d x (x + zLen t a)) → zJ k G rX7_chairFor 7 (zMQ k G rX7_chairFor (zRi (fun xr M2 => xr = zChair t a x ∧ M2 = (zAll s t o))) zN) (zAll s t o) 0 0 20 [(0, .ref 16), (1, .int (zI ((a : Nat)))), (2, .int (zI x)), (3, .int (zI (x + zLen t a))), (4, .int (zI q))] [] := by
      intro fuel
      induction fuel with
      | zero => intros; omega
      | succ fuel L1_ih =>
        intro q hfuel hq0 hq1 hno
        refine z_iload F 4 dX7_chairFor_20 rfl ?_
        refine z_iconst (z := 4) F dX7_chairFor_22 (by decide) ?_
        refine z_icmp_ge F 88 dX7_chairFor_23 (by decide) (by omega) ⟨by decide, by decide⟩ (fun c_3 => ?_) (fun c_3 => ?_)
        · skip
          refine z_iconst (z := -1) F dX7_chairFor_88 (by decide) ?_
          exact z_reti F rfl (by first | decide | assumption | omega) (by first | decide | assumption | omega) dX7_chairFor_89 ⟨_, rfl, (zChair_no (fun d hd => hno d (by omega))).symm, rfl⟩
        · skip
          refine z_iconst (z := 1) F dX7_chairFor_26 (by decide) ?_
          refine z_istore F [(5, .int (zI 1)), (0, .ref 16), (1, .int (zI ((a : Nat)))), (2, .int (zI x)), (3, .int (zI (x + zLen t a))), (4, .int (zI q))] dX7_chairFor_27 (by decide) rfl ?_
          refine z_iload_n F 3 dX7_chairFor_29 rfl rfl ?_
          refine z_istore F [(6, .int (zI x)), (5, .int (zI 1)), (0, .ref 16), (1, .int (zI ((a : Nat)))), (2, .int (zI x)), (3, .int (zI (x + zLen t a))), (4, .int (zI q))] dX7_chairFor_30 (by decide) rfl ?_
          have L2 : ∀ (fuel : Nat) (w : Int) (y : Int), (x + zLen t a - w).toNat < fuel → x ≤ w → w ≤ x + zLen t a → (y = 0 ∨ y = 1) → (y = 1 ↔ ∀ m : Nat, x ≤ (m : Int) → (m : Int) < w → t 21 q.toNat m = -1) → zJ k G rX7_chairFor 7 (zMQ k G rX7_chairFor (zRi (fun xr M2 => xr = zChair t a x ∧ M2 = (zAll s t o))) zN) (zAll s t o) 0 0 32 [(0, .ref 16), (1, .int (zI ((a : Nat)))), (2, .int (zI x)), (3, .int (zI (x + zLen t a))), (4, .int (zI q)), (5, .int (zI y)), (6, .int (zI w))] [] := by
            intro fuel
            induction fuel with
            | zero => intros; omega
            | succ fuel L2_ih =>
              intro w y hfuel hw0 hw1 hy hyI
              refine z_iload F 6 dX7_chairFor_32 rfl ?_
              refine z_iload_n F 3 dX7_chairFor_34 rfl rfl ?_
              refine z_icmp_ge F 74 dX7_chairFor_35 (by decide) (by omega) (by omega) (fun c_4 => ?_) (fun c_4 => ?_)
              · skip
                have hfi : y = 1 ↔ zFr t q.toNat x (x + zLen t a) := by
                  rw [zFr_iff (by omega) (by omega) (by omega), hyI, show w = x + zLen t a by omega]
                refine z_iload F 5 dX7_chairFor_74 rfl ?_
                refine z_if_eq F 82 dX7_chairFor_76 (by decide) (by omega) (fun c_5 => ?_) (fun c_5 => ?_)
                · skip
                  have hfn : ¬ zFr t q.toNat x (x + zLen t a) := fun h => by have := hfi.mpr h; omega
                  refine z_iinc F 4 [(4, .int (zI (q + 1))), (0, .ref 16), (1, .int (zI ((a : Nat)))), (2, .int (zI x)), (3, .int (zI (x + zLen t a))), (5, .int (zI y)), (6, .int (zI w))] dX7_chairFor_82 rfl (by decide) rfl ?_
                  refine z_goto F 20 dX7_chairFor_85 (by decide) ?_
                  refine z_lv [(0, .ref 16), (1, .int (zI ((a : Nat)))), (2, .int (zI x)), (3, .int (zI (x + zLen t a))), (4, .int (zI (q + 1)))] [1, 2, 3, 4, 0] rfl ?_
                  exact L1_ih (q + 1) (by omega) (by omega) (by omega) (fun d h => by rcases (show (d : Int) < q ∨ d = q.toNat by omega) with h1 | h1; exact hno d h1; rw [h1]; exact hfn)
                · skip
                  have hfp : zFr t q.toNat x (x + zLen t a) := hfi.mp (by omega)
                  refine z_iload F 4 dX7_chairFor_79 rfl ?_
                  exact z_reti F rfl (by first | decide | assumption | omega) (by first | decide | assumption | omega) dX7_chairFor_81 ⟨_, rfl, by rw [zChair_of (c := q.toNat) (by omega) (fun d hd => hno d (by omega)) hfp]; omega, rfl⟩
              · skip
                have hb21 := hb9 21 q.toNat w.toNat
                refine z_iload F 5 dX7_chairFor_38 rfl ?_
                refine z_if_eq F 65 dX7_chairFor_40 (by decide) (by omega) (fun c_6 => ?_) (fun c_6 => ?_)
                · skip
                  refine z_iconst (z := 0) F dX7_chairFor_65 (by decide) ?_
                  refine z_istore F [(5, .int (zI 0)), (0, .ref 16), (1, .int (zI ((a : Nat)))), (2, .int (zI x)), (3, .int (zI (x + zLen t a))), (4, .int (zI q)), (6, .int (zI w))] dX7_chairFor_66 (by decide) rfl ?_
                  refine z_iinc F 6 [(6, .int (zI (w + 1))), (5, .int (zI 0)), (0, .ref 16), (1, .int (zI ((a : Nat)))), (2, .int (zI x)), (3, .int (zI (x + zLen t a))), (4, .int (zI q))] dX7_chairFor_68 rfl (by decide) rfl ?_
                  refine z_goto F 32 dX7_chairFor_71 (by decide) ?_
                  refine z_lv [(0, .ref 16), (1, .int (zI ((a : Nat)))), (2, .int (zI x)), (3, .int (zI (x + zLen t a))), (4, .int (zI q)), (5, .int (zI 0)), (6, .int (zI (w + 1)))] [2, 3, 4, 5, 6, 1, 0] rfl ?_
                  exact L2_ih (w + 1) 0 (by omega) (by omega) (by omega) (by first | exact Or.inl rfl | exact Or.inr rfl) (by first | exact zLc_0 (f := t 21 q.toNat) hyI (by omega) | exact zLc_1 (f := t 21 q.toNat) hyI (by omega) (by omega) (by omega) | exact zLc_2 (f := t 21 q.toNat) (by omega) (by omega) (by omega))
                · skip
                  refine z_aload_n F 0 dX7_chairFor_43 rfl rfl ?_
                  refine z_get F fl_X7_47 (zAll_16 s t o) rfl dX7_chairFor_44 ?_
                  refine z_sipush (z := 600) F dX7_chairFor_47 (by decide) ?_
                  refine z_iload F 4 dX7_chairFor_50 rfl ?_
                  refine z_imul F dX7_chairFor_52 ?_
                  refine z_iload F 6 dX7_chairFor_53 rfl ?_
                  refine z_iadd F dX7_chairFor_55 ?_
                  refine z_iald F (zAll_29 s t o) (by omega) (by omega) (by decide) dX7_chairFor_56 ?_
                  refine z_ti (y := t 21 q.toNat w.toNat) (by rw [if_pos (show (600 * q + w).toNat < 2400 by omega), show (600 * q + w).toNat / 600 = q.toNat by omega, show (600 * q + w).toNat % 600 = w.toNat by omega]) ?_
                  refine z_iconst (z := -1) F dX7_chairFor_57 (by decide) ?_
                  refine z_icmp_ne F 65 dX7_chairFor_58 (by decide) (by omega) ⟨by decide, by decide⟩ (fun c_7 => ?_) (fun c_7 => ?_)
                  · skip
                    refine z_iconst (z := 0) F dX7_chairFor_65 (by decide) ?_
                    refine z_istore F [(5, .int (zI 0)), (0, .ref 16), (1, .int (zI ((a : Nat)))), (2, .int (zI x)), (3, .int (zI (x + zLen t a))), (4, .int (zI q)), (6, .int (zI w))] dX7_chairFor_66 (by decide) rfl ?_
                    refine z_iinc F 6 [(6, .int (zI (w + 1))), (5, .int (zI 0)), (0, .ref 16), (1, .int (zI ((a : Nat)))), (2, .int (zI x)), (3, .int (zI (x + zLen t a))), (4, .int (zI q))] dX7_chairFor_68 rfl (by decide) rfl ?_
                    refine z_goto F 32 dX7_chairFor_71 (by decide) ?_
                    refine z_lv [(0, .ref 16), (1, .int (zI ((a : Nat)))), (2, .int (zI x)), (3, .int (zI (x + zLen t a))), (4, .int (zI q)), (5, .int (zI 0)), (6, .int (zI (w + 1)))] [2, 3, 4, 5, 6, 1, 0] rfl ?_
                    exact L2_ih (w + 1) 0 (by omega) (by omega) (by omega) (by first | exact Or.inl rfl | exact Or.inr rfl) (by first | exact zLc_0 (f := t 21 q.toNat) hyI (by omega) | exact zLc_1 (f := t 21 q.toNat) hyI (by omega) (by omega) (by omega) | exact zLc_2 (f := t 21 q.toNat) (by omega) (by omega) (by omega))
                  · skip
                    refine z_iconst (z := 1) F dX7_chairFor_61 (by decide) ?_
                    refine z_goto F 66 dX7_chairFor_62 (by decide) ?_
                    refine z_istore F [(5, .int (zI 1)), (0, .ref 16), (1, .int (zI ((a : Nat)))), (2, .int (zI x)), (3, .int (zI (x + zLen t a))), (4, .int (zI q)), (6, .int (zI w))] dX7_chairFor_66 (by decide) rfl ?_
                    refine z_iinc F 6 [(6, .int (zI (w + 1))), (5, .int (zI 1)), (0, .ref 16), (1, .int (zI ((a : Nat)))), (2, .int (zI x)), (3, .int (zI (x + zLen t a))), (4, .int (zI q))] dX7_chairFor_68 rfl (by decide) rfl ?_
                    refine z_goto F 32 dX7_chairFor_71 (by decide) ?_
                    refine z_lv [(0, .ref 16), (1, .int (zI ((a : Nat)))), (2, .int (zI x)), (3, .int (zI (x + zLen t a))), (4, .int (zI q)), (5, .int (zI 1)), (6, .int (zI (w + 1)))] [2, 3, 4, 5, 6, 1, 0] rfl ?_
                    exact L2_ih (w + 1) 1 (by omega) (by omega) (by omega) (by first | exact Or.inl rfl | exact Or.inr rfl) (by first | exact zLc_0 (f := t 21 q.toNat) hyI (by omega) | exact zLc_1 (f := t 21 q.toNat) hyI (by omega) (by omega) (by omega) | exact zLc_2 (f := t 21 q.toNat) (by omega) (by omega) (by omega))
          refine z_lv [(0, .ref 16), (1, .int (zI ((a : Nat)))), (2, .int (zI x)), (3, .int (zI (x + zLen t a))), (4, .int (zI q)), (5, .int (zI 1)), (6, .int (zI x))] [2, 3, 4, 5, 6, 1, 0] rfl ?_
          exact L2 _ x 1 (Nat.lt_succ_self _) (by omega) (by omega) (Or.inr rfl) ⟨fun _ m h1 h2 => by omega, fun _ => rfl⟩
    refine z_lv [(0, .ref 16), (1, .int (zI ((a : Nat)))), (2, .int (zI x)), (3, .int (zI (x + (zLen t a)))), (4, .int (zI 0))] [2, 3, 4, 1, 0] rfl ?_
    exact L1 _ 0 (Nat.lt_succ_self _) (by omega) (by omega) (fun d h => by omega)
  · skip
    refine z_iconst (z := -1) F dX7_chairFor_15 (by decide) ?_
    exact z_reti F rfl (by first | decide | assumption | omega) (by first | decide | assumption | omega) dX7_chairFor_16 ⟨_, rfl, (zChair_no (fun d hd h => by have := h.2.2.1; omega)).symm, rfl⟩

theorem zI_xor1 : ∀ n : Nat, n < 16 → zI (n : Int) ^^^ zI (-1) = zI (-1 - n) := by decide +kernel
theorem zI_andn : ∀ m : Nat, m < 16 → ∀ n : Nat, n < 16 → zI (m : Int) &&& zI (-1 - n) = zI ((m &&& (15 - n) : Nat) : Int) := by decide +kernel
theorem zI_andk : ∀ m : Nat, m < 16 → ∀ n : Nat, n < 16 → ((m &&& (15 - n) = 0) ↔ (n &&& m == m) = true) := by decide +kernel
theorem zFin {y : Int} {c : Prop} [Decidable c] (hy : y = 0 ∨ y = 1) (h : y = 1 ↔ c) : y = if c then 1 else 0 := by
  by_cases hc : c
  · rw [if_pos hc]; exact h.mpr hc
  · rw [if_neg hc]
    rcases hy with h1 | h1
    · exact h1
    · exact absurd (h.mp h1) hc
theorem zCan_iff {s : zS} {i a : Nat} {x : Int} : zCan s i a x = true ↔ (zSk s i a = true ∧ s 2 i 0 ≤ x ∧ x + zLen s a ≤ s 3 i 0) ∧ zStp s i a x (zSc s a) = true := by
  simp only [zCan, Bool.and_eq_true, decide_eq_true_iff]
  exact ⟨fun h => ⟨⟨h.1.1.1, h.1.1.2, h.1.2⟩, h.2⟩, fun h => ⟨⟨⟨h.1.1, h.1.2.1⟩, h.1.2.2⟩, h.2⟩⟩
theorem zLd_0 {A r : Prop} {f : Nat → Int} {x w y : Int} (hI : y = 1 ↔ A ∧ (r ∨ ∀ m : Nat, x ≤ (m : Int) → (m : Int) < w → f m = -1)) (h : y = 0) : ((0 : Int) = 1 ↔ A ∧ (r ∨ ∀ m : Nat, x ≤ (m : Int) → (m : Int) < w + 1 → f m = -1)) :=
  ⟨fun h9 => absurd h9 (by decide), fun h9 => by
    have := hI.mpr ⟨h9.1, h9.2.imp id (fun h8 m h1 h2 => h8 m h1 (by omega))⟩
    omega⟩
theorem zLd_r {A r : Prop} {f : Nat → Int} {x w y : Int} (hI : y = 1 ↔ A ∧ (r ∨ ∀ m : Nat, x ≤ (m : Int) → (m : Int) < w → f m = -1)) (h : y = 1) (hr : r) : ((1 : Int) = 1 ↔ A ∧ (r ∨ ∀ m : Nat, x ≤ (m : Int) → (m : Int) < w + 1 → f m = -1)) := ⟨fun _ => ⟨(hI.mp h).1, Or.inl hr⟩, fun _ => rfl⟩
theorem zLd_1 {A r : Prop} {f : Nat → Int} {x w y : Int} (hI : y = 1 ↔ A ∧ (r ∨ ∀ m : Nat, x ≤ (m : Int) → (m : Int) < w → f m = -1)) (h : y = 1) (hw : 0 ≤ w) (hv : f w.toNat = -1) : ((1 : Int) = 1 ↔ A ∧ (r ∨ ∀ m : Nat, x ≤ (m : Int) → (m : Int) < w + 1 → f m = -1)) :=
  ⟨fun _ => ⟨(hI.mp h).1, (hI.mp h).2.imp id (fun h8 m h1 h2 => by
    rcases (show (m : Int) < w ∨ m = w.toNat by omega) with h3 | h3
    · exact h8 m h1 h3
    · rw [h3]; exact hv)⟩, fun _ => rfl⟩
theorem zLd_2 {A r : Prop} {f : Nat → Int} {x w : Int} (hx : 0 ≤ x) (hw : x ≤ w) (hr : ¬ r) (hv : ¬ f w.toNat = -1) : ((0 : Int) = 1 ↔ A ∧ (r ∨ ∀ m : Nat, x ≤ (m : Int) → (m : Int) < w + 1 → f m = -1)) :=
  ⟨fun h9 => absurd h9 (by decide), fun h9 => absurd ((h9.2.resolve_left hr) w.toNat (by omega) (by omega)) hv⟩
theorem zStp_up {s : zS} {i a k : Nat} {x y : Int} {P : Prop} (hx : 0 ≤ x + zOff s a k) (hl : zOff s a k ≤ zOff s a (k + 1)) (hP : P → x + zOff s a (k + 1) ≤ 600) (hI : y = 1 ↔ (P ∧ zStp s i a x k = true) ∧ (s 6 a k = -1 ∨ ∀ m : Nat, x + zOff s a k ≤ (m : Int) → (m : Int) < x + zOff s a (k + 1) → s 21 (i + 4) m = -1)) : y = 1 ↔ P ∧ zStp s i a x (k + 1) = true := by
  rw [hI, zStp, Bool.and_eq_true, Bool.or_eq_true, decide_eq_true_iff, decide_eq_true_iff]
  constructor
  · intro h
    exact ⟨h.1.1, h.1.2, h.2.imp id (fun h8 => (zFr_iff hx (by omega) (hP h.1.1)).mpr h8)⟩
  · intro h
    exact ⟨⟨h.1, h.2.1⟩, h.2.2.imp id (fun h8 => (zFr_iff hx (by omega) (hP h.1)).mp h8)⟩
abbrev rX7_canTake : Room := { frames := 1, cells := 0, slots := 0, locals := 24 }
set_option maxRecDepth 100000 in
set_option maxHeartbeats 4000000 in
theorem c_X7_canTake {l : Launch} (hfl : l.stackTraces = false) (G : zG) {s t : zS} {o : zOx} (hc : zC1 t) (hb9 : zB t) {i a : Nat} {x : Int} (hi : i < 5) (ha : a < 8) (hx : 0 ≤ x ∧ x ≤ 600) (h3 : ∀ j, t 3 j 0 ≤ 600)  : zCn l G yX7_canTake (.code yX7_canTake cX7_canTake 9 (some .boolean)) rX7_canTake [.ref 16, .int (zI ((i : Nat))), .int (zI ((a : Nat))), .int (zI x)] (zAll s t o) (zRi (fun xr M2 => xr = (if zCan t i a x = true then 1 else 0) ∧ M2 = (zAll s t o))) zN := by
  refine zStart hfl (by decide) (own := RX7) rfl [(0, .ref 16), (1, .int (zI ((i : Nat)))), (2, .int (zI ((a : Nat)))), (3, .int (zI x))] (Nat.le_of_ble_eq_true rfl) rfl (fun k hkl hinit hk0 F => ?_)
  have hn0 := hc.1
  have hn4 := hc.2.1
  have hn9 := hc.2.2.1
  have hn14 := hc.2.2.2.1
  have hn18 := hc.2.2.2.2.1
  have hln := hc.len a
  have h1i := hc.2.2.2.2.2.2.2.2.1 i
  have hak := zAskN_lt hc a (zSc t a)
  have h5 := hc.2.2.2.2.2.2.2.1 a
  have hb2 := hb9 2 i 0
  have hb3 := hb9 3 i 0
  refine z_iload_n F 3 dX7_canTake_0 rfl rfl ?_
  refine z_aload_n F 0 dX7_canTake_1 rfl rfl ?_
  refine z_iload_n F 2 dX7_canTake_2 rfl rfl ?_
  refine z_callV F [.int (zI ((a : Nat)))] [.int (zI x)] (c_X7_length F.2.2.1 G (s := s) (t := t) (o := o) hc hb9 (a := a) ha) cv_X7_87 (zAll_16 s t o) rfl rfl rfl ⟨by decide, by decide⟩ ⟨by decide, by decide⟩ (Nat.le_of_ble_eq_true rfl) dX7_canTake_3 z_nx (z_ki (fun x_1 M_1 h_1 => ?_))
  have hx9 := (h_1).1.symm
  have hm9 := (h_1).2.symm
  subst hx9
  subst hm9
  refine z_iadd F dX7_canTake_6 ?_
  refine z_istore F [(4, .int (zI (x + (zLen t a)))), (0, .ref 16), (1, .int (zI ((i : Nat)))), (2, .int (zI ((a : Nat)))), (3, .int (zI x))] dX7_canTake_7 (by decide) rfl ?_
  refine z_aload_n F 1 dX7_canTake_9 rfl rfl ?_
  refine z_iload_n F 3 dX7_canTake_10 rfl rfl ?_
  refine z_callV F [.int (zI ((a : Nat)))] [] (c_X7_asked F.2.2.1 G (s := s) (t := t) (o := o) hc hb9 (a := a) ha) cv_X7_91 (zAll_16 s t o) rfl rfl rfl ⟨by decide, by decide⟩ ⟨by decide, by decide⟩ (Nat.le_of_ble_eq_true rfl) dX7_canTake_11 z_nx (z_ki (fun x_2 M_2 h_2 => ?_))
  have hx9 := (h_2).1.symm
  have hm9 := (h_2).2.symm
  subst hx9
  subst hm9
  refine z_ti (y := ((zAskN t a (zSc t a) : Nat) : Int)) rfl ?_
  refine z_aload_n F 1 dX7_canTake_14 rfl rfl ?_
  refine z_get F fl_X7_7 (zAll_16 s t o) rfl dX7_canTake_15 ?_
  refine z_iload_n F 2 dX7_canTake_18 rfl rfl ?_
  refine z_iald F (zAll_17 s t o) (by omega) (by omega) (by decide) dX7_canTake_19 ?_
  refine z_ti (y := (((t 1 i 0).toNat : Nat) : Int)) (by rw [Int.toNat_natCast]; omega) ?_
  refine z_iconst (z := -1) F dX7_canTake_20 (by decide) ?_
  refine z_ixor F (-1 - (((t 1 i 0).toNat : Nat) : Int)) dX7_canTake_21 (zI_xor1 _ (by omega)) ?_
  refine z_iand F (((zAskN t a (zSc t a) &&& (15 - (t 1 i 0).toNat) : Nat) : Int)) dX7_canTake_22 (zI_andn _ hak _ (by omega)) ?_
  have hle : zAskN t a (zSc t a) &&& (15 - (t 1 i 0).toNat) ≤ zAskN t a (zSc t a) := Nat.and_le_left
  have hkk := zI_andk _ hak (t 1 i 0).toNat (by omega)
  refine z_if_ne F 51 dX7_canTake_23 (by decide) (by omega) (fun c_3 => ?_) (fun c_3 => ?_)
  · skip
    have hsk : ¬ zSk t i a = true := fun h => by have := hkk.mpr h; omega
    refine z_iconst (z := 0) F dX7_canTake_51 (by decide) ?_
    refine z_istore F [(5, .int (zI 0)), (4, .int (zI (x + (zLen t a)))), (0, .ref 16), (1, .int (zI ((i : Nat)))), (2, .int (zI ((a : Nat)))), (3, .int (zI x))] dX7_canTake_52 (by decide) rfl ?_
    refine z_iload_n F 5 dX7_canTake_54 rfl rfl ?_
    refine z_istore F [(6, .int (zI x)), (5, .int (zI 0)), (4, .int (zI (x + (zLen t a)))), (0, .ref 16), (1, .int (zI ((i : Nat)))), (2, .int (zI ((a : Nat)))), (3, .int (zI x))] dX7_canTake_55 (by decide) rfl ?_
    refine z_iconst (z := 0) F dX7_canTake_57 (by decide) ?_
    refine z_istore F [(7, .int (zI 0)), (6, .int (zI x)), (5, .int (zI 0)), (4, .int (zI (x + (zLen t a)))), (0, .ref 16), (1, .int (zI ((i : Nat)))), (2, .int (zI ((a : Nat)))), (3, .int (zI x))] dX7_canTake_58 (by decide) rfl ?_
    have L1 : ∀ (fuel : Nat) (w : Int) (v : Int) (y : Int), (t 5 a 0 - w).toNat < fuel → 0 ≤ w → w ≤ t 5 a 0 → v = x + zOff t a w.toNat → (y = 0 ∨ y = 1) → (y = 1 ↔ (zSk t i a = true ∧ t 2 i 0 ≤ x ∧ x + zLen t a ≤ t 3 i 0) ∧ zStp t i a x w.toNat = true) → zJ k G rX7_canTake 9 (zMQ k G rX7_canTake (zRi (fun xr M2 => xr = (if zCan t i a x = true then 1 else 0) ∧ M2 = (zAll s t o))) zN) (zAll s t o) 0 0 60 [(0, .ref 16), (1, .int (zI ((i : Nat)))), (2, .int (zI ((a : Nat)))), (3, .int (zI x)), (4, .int (zI (x + zLen t a))), (5, .int (zI y)), (6, .int (zI v)), (7, .int (zI w))] [] := by
      intro fuel
      induction fuel with
      | zero => intros; omega
      | succ fuel L1_ih =>
        intro w v y hfuel hw0 hw1 hv hy hyI
        refine z_iload F 7 dX7_canTake_60 rfl ?_
        refine z_aload_n F 0 dX7_canTake_62 rfl rfl ?_
        refine z_get F fl_X7_25 (zAll_16 s t o) rfl dX7_canTake_63 ?_
        refine z_iload_n F 2 dX7_canTake_66 rfl rfl ?_
        refine z_iald F (zAll_22 s t o) (by omega) (by omega) (by decide) dX7_canTake_67 ?_
        refine z_ti (y := t 5 a 0) (by rw [Int.toNat_natCast]) ?_
        refine z_icmp_ge F 154 dX7_canTake_68 (by decide) (by omega) (by omega) (fun c_4 => ?_) (fun c_4 => ?_)
        · skip
          have hke : w.toNat = zSc t a := by have := (hc.sc a).2; omega
          have hfin := zFin hy (hyI.trans (by rw [zCan_iff, hke] : _ ↔ zCan t i a x = true))
          refine z_iload F 5 dX7_canTake_154 rfl ?_
          exact z_retz F rfl hy (by first | decide | assumption | omega) (by first | decide | assumption | omega) dX7_canTake_156 ⟨_, rfl, hfin, rfl⟩
        · skip
          have ho1 := hc.off a w.toNat
          have ho2 := hc.offm a w.toNat 1
          have ho3 := hc.offl (a := a) (k := w.toNat + 1) (by have := (hc.sc a).2; omega)
          have ho4 : zOff t a (w.toNat + 1) = zOff t a w.toNat + t 7 a w.toNat := rfl
          have h7 := hc.2.2.2.2.2.2.1 a w.toNat
          have h6 := hc.2.2.2.2.2.1 a w.toNat
          refine z_iload F 5 dX7_canTake_71 rfl ?_
          refine z_if_eq F 154 dX7_canTake_73 (by decide) (by omega) (fun c_5 => ?_) (fun c_5 => ?_)
          · skip
            have hfin := zFin hy (⟨fun h => by omega, fun h => hyI.mpr ⟨(zCan_iff.mp h).1, zStp_mono (zSc t a - w.toNat) (by rw [show w.toNat + (zSc t a - w.toNat) = zSc t a by have := (hc.sc a).2; omega]; exact (zCan_iff.mp h).2)⟩⟩ : y = 1 ↔ zCan t i a x = true)
            refine z_iload F 5 dX7_canTake_154 rfl ?_
            exact z_retz F rfl hy (by first | decide | assumption | omega) (by first | decide | assumption | omega) dX7_canTake_156 ⟨_, rfl, hfin, rfl⟩
          · skip
            refine z_iconst (z := 0) F dX7_canTake_76 (by decide) ?_
            refine z_istore F [(8, .int (zI 0)), (0, .ref 16), (1, .int (zI ((i : Nat)))), (2, .int (zI ((a : Nat)))), (3, .int (zI x)), (4, .int (zI (x + zLen t a))), (5, .int (zI y)), (6, .int (zI v)), (7, .int (zI w))] dX7_canTake_77 (by decide) rfl ?_
            have L2 : ∀ (fuel : Nat) (u : Int) (v : Int) (y : Int), (t 7 a w.toNat - u).toNat < fuel → 0 ≤ u → u ≤ t 7 a w.toNat → v = x + zOff t a w.toNat + u → (y = 0 ∨ y = 1) → (y = 1 ↔ ((zSk t i a = true ∧ t 2 i 0 ≤ x ∧ x + zLen t a ≤ t 3 i 0) ∧ zStp t i a x w.toNat = true) ∧ (t 6 a w.toNat = -1 ∨ ∀ m : Nat, x + zOff t a w.toNat ≤ (m : Int) → (m : Int) < v → t 21 (i + 4) m = -1)) → zJ k G rX7_canTake 9 (zMQ k G rX7_canTake (zRi (fun xr M2 => xr = (if zCan t i a x = true then 1 else 0) ∧ M2 = (zAll s t o))) zN) (zAll s t o) 0 0 79 [(0, .ref 16), (1, .int (zI ((i : Nat)))), (2, .int (zI ((a : Nat)))), (3, .int (zI x)), (4, .int (zI (x + zLen t a))), (5, .int (zI y)), (6, .int (zI v)), (7, .int (zI w)), (8, .int (zI u))] [] := by
              intro fuel
              induction fuel with
              | zero => intros; omega
              | succ fuel L2_ih =>
                intro u v y hfuel hu0 hu1 hv hy hyI
                refine z_iload F 8 dX7_canTake_79 rfl ?_
                refine z_aload_n F 0 dX7_canTake_81 rfl rfl ?_
                refine z_get F fl_X7_22 (zAll_16 s t o) rfl dX7_canTake_82 ?_
                refine z_iconst (z := 5) F dX7_canTake_85 (by decide) ?_
                refine z_iload_n F 2 dX7_canTake_86 rfl rfl ?_
                refine z_imul F dX7_canTake_87 ?_
                refine z_iload F 7 dX7_canTake_88 rfl ?_
                refine z_iadd F dX7_canTake_90 ?_
                refine z_iald F (zAll_21 s t o) (by omega) (by omega) (by decide) dX7_canTake_91 ?_
                refine z_ti (y := t 7 a w.toNat) (by rw [show (5 * ((a : Nat) : Int) + w).toNat / 5 = a by omega, show (5 * ((a : Nat) : Int) + w).toNat % 5 = w.toNat by omega]) ?_
                refine z_icmp_ge F 148 dX7_canTake_92 (by decide) (by omega) (by omega) (fun c_6 => ?_) (fun c_6 => ?_)
                · skip
                  have hve : v = x + zOff t a (w.toNat + 1) := by omega
                  rw [hve] at hyI
                  have hyo := zStp_up (i := i) (P := (zSk t i a = true ∧ t 2 i 0 ≤ x ∧ x + zLen t a ≤ t 3 i 0)) (by omega) (by omega) (fun h => by have := h.2.2; have := h3 i; omega) hyI
                  refine z_iinc F 7 [(7, .int (zI (w + 1))), (0, .ref 16), (1, .int (zI ((i : Nat)))), (2, .int (zI ((a : Nat)))), (3, .int (zI x)), (4, .int (zI (x + zLen t a))), (5, .int (zI y)), (6, .int (zI v)), (8, .int (zI u))] dX7_canTake_148 rfl (by decide) rfl ?_
                  refine z_goto F 60 dX7_canTake_151 (by decide) ?_
                  refine z_lv [(0, .ref 16), (1, .int (zI ((i : Nat)))), (2, .int (zI ((a : Nat)))), (3, .int (zI x)), (4, .int (zI (x + zLen t a))), (5, .int (zI y)), (6, .int (zI v)), (7, .int (zI (w + 1)))] [1, 2, 3, 4, 5, 6, 7, 0] rfl ?_
                  exact L1_ih (w + 1) v y (by omega) (by omega) (by omega) (by rw [show (w + 1).toNat = w.toNat + 1 by omega]; omega) hy (by rw [show (w + 1).toNat = w.toNat + 1 by omega]; exact hyo)
                · skip
                  refine z_iload F 5 dX7_canTake_95 rfl ?_
                  refine z_if_eq F 136 dX7_canTake_97 (by decide) (by omega) (fun c_7 => ?_) (fun c_7 => ?_)
                  · skip
                    refine z_iconst (z := 0) F dX7_canTake_136 (by decide) ?_
                    refine z_istore F [(5, .int (zI 0)), (0, .ref 16), (1, .int (zI ((i : Nat)))), (2, .int (zI ((a : Nat)))), (3, .int (zI x)), (4, .int (zI (x + zLen t a))), (6, .int (zI v)), (7, .int (zI w)), (8, .int (zI u))] dX7_canTake_137 (by decide) rfl ?_
                    refine z_iinc F 6 [(6, .int (zI (v + 1))), (5, .int (zI 0)), (0, .ref 16), (1, .int (zI ((i : Nat)))), (2, .int (zI ((a : Nat)))), (3, .int (zI x)), (4, .int (zI (x + zLen t a))), (7, .int (zI w)), (8, .int (zI u))] dX7_canTake_139 rfl (by decide) rfl ?_
                    refine z_iinc F 8 [(8, .int (zI (u + 1))), (6, .int (zI (v + 1))), (5, .int (zI 0)), (0, .ref 16), (1, .int (zI ((i : Nat)))), (2, .int (zI ((a : Nat)))), (3, .int (zI x)), (4, .int (zI (x + zLen t a))), (7, .int (zI w))] dX7_canTake_142 rfl (by decide) rfl ?_
                    refine z_goto F 79 dX7_canTake_145 (by decide) ?_
                    refine z_lv [(0, .ref 16), (1, .int (zI ((i : Nat)))), (2, .int (zI ((a : Nat)))), (3, .int (zI x)), (4, .int (zI (x + zLen t a))), (5, .int (zI 0)), (6, .int (zI (v + 1))), (7, .int (zI w)), (8, .int (zI (u + 1)))] [3, 4, 5, 6, 7, 2, 1, 8, 0] rfl ?_
                    exact L2_ih (u + 1) (v + 1) 0 (by omega) (by omega) (by omega) (by omega) (by first | exact Or.inl rfl | exact Or.inr rfl) (by first | exact zLd_0 hyI (by omega) | exact zLd_r hyI (by omega) (by omega) | exact zLd_1 hyI (by omega) (by omega) (by omega) | exact zLd_2 (by omega) (by omega) (by omega) (by omega))
                  · skip
                    have hP9 := (hyI.mp (by omega)).1.1.2.2
                    have h39 := h3 i
                    have hb21 := hb9 21 (i + 4) v.toNat
                    refine z_aload_n F 0 dX7_canTake_100 rfl rfl ?_
                    refine z_get F fl_X7_19 (zAll_16 s t o) rfl dX7_canTake_101 ?_
                    refine z_iconst (z := 5) F dX7_canTake_104 (by decide) ?_
                    refine z_iload_n F 2 dX7_canTake_105 rfl rfl ?_
                    refine z_imul F dX7_canTake_106 ?_
                    refine z_iload F 7 dX7_canTake_107 rfl ?_
                    refine z_iadd F dX7_canTake_109 ?_
                    refine z_iald F (zAll_20 s t o) (by omega) (by omega) (by decide) dX7_canTake_110 ?_
                    refine z_ti (y := t 6 a w.toNat) (by rw [show (5 * ((a : Nat) : Int) + w).toNat / 5 = a by omega, show (5 * ((a : Nat) : Int) + w).toNat % 5 = w.toNat by omega]) ?_
                    refine z_iconst (z := -1) F dX7_canTake_111 (by decide) ?_
                    refine z_icmp_eq F 132 dX7_canTake_112 (by decide) (by omega) ⟨by decide, by decide⟩ (fun c_8 => ?_) (fun c_8 => ?_)
                    · skip
                      refine z_iconst (z := 1) F dX7_canTake_132 (by decide) ?_
                      refine z_goto F 137 dX7_canTake_133 (by decide) ?_
                      refine z_istore F [(5, .int (zI 1)), (0, .ref 16), (1, .int (zI ((i : Nat)))), (2, .int (zI ((a : Nat)))), (3, .int (zI x)), (4, .int (zI (x + zLen t a))), (6, .int (zI v)), (7, .int (zI w)), (8, .int (zI u))] dX7_canTake_137 (by decide) rfl ?_
                      refine z_iinc F 6 [(6, .int (zI (v + 1))), (5, .int (zI 1)), (0, .ref 16), (1, .int (zI ((i : Nat)))), (2, .int (zI ((a : Nat)))), (3, .int (zI x)), (4, .int (zI (x + zLen t a))), (7, .int (zI w)), (8, .int (zI u))] dX7_canTake_139 rfl (by decide) rfl ?_
                      refine z_iinc F 8 [(8, .int (zI (u + 1))), (6, .int (zI (v + 1))), (5, .int (zI 1)), (0, .ref 16), (1, .int (zI ((i : Nat)))), (2, .int (zI ((a : Nat)))), (3, .int (zI x)), (4, .int (zI (x + zLen t a))), (7, .int (zI w))] dX7_canTake_142 rfl (by decide) rfl ?_
                      refine z_goto F 79 dX7_canTake_145 (by decide) ?_
                      refine z_lv [(0, .ref 16), (1, .int (zI ((i : Nat)))), (2, .int (zI ((a : Nat)))), (3, .int (zI x)), (4, .int (zI (x + zLen t a))), (5, .int (zI 1)), (6, .int (zI (v + 1))), (7, .int (zI w)), (8, .int (zI (u + 1)))] [3, 4, 5, 6, 7, 2, 1, 8, 0] rfl ?_
                      exact L2_ih (u + 1) (v + 1) 1 (by omega) (by omega) (by omega) (by omega) (by first | exact Or.inl rfl | exact Or.inr rfl) (by first | exact zLd_0 hyI (by omega) | exact zLd_r hyI (by omega) (by omega) | exact zLd_1 hyI (by omega) (by omega) (by omega) | exact zLd_2 (by omega) (by omega) (by omega) (by omega))
                    · skip
                      refine z_aload_n F 0 dX7_canTake_115 rfl rfl ?_
                      refine z_get F fl_X7_44 (zAll_16 s t o) rfl dX7_canTake_116 ?_
                      refine z_sipush (z := 600) F dX7_canTake_119 (by decide) ?_
                      refine z_iload_n F 1 dX7_canTake_122 rfl rfl ?_
                      refine z_imul F dX7_canTake_123 ?_
                      refine z_iload F 6 dX7_canTake_124 rfl ?_
                      refine z_iadd F dX7_canTake_126 ?_
                      refine z_iald F (zAll_28 s t o) (by omega) (by omega) (by decide) dX7_canTake_127 ?_
                      refine z_ti (y := t 21 (i + 4) v.toNat) (by rw [show (600 * ((i : Nat) : Int) + v).toNat / 600 = i by omega, show (600 * ((i : Nat) : Int) + v).toNat % 600 = v.toNat by omega]) ?_
                      refine z_iconst (z := -1) F dX7_canTake_128 (by decide) ?_
                      refine z_icmp_ne F 136 dX7_canTake_129 (by decide) (by omega) ⟨by decide, by decide⟩ (fun c_9 => ?_) (fun c_9 => ?_)
                      · skip
                        refine z_iconst (z := 0) F dX7_canTake_136 (by decide) ?_
                        refine z_istore F [(5, .int (zI 0)), (0, .ref 16), (1, .int (zI ((i : Nat)))), (2, .int (zI ((a : Nat)))), (3, .int (zI x)), (4, .int (zI (x + zLen t a))), (6, .int (zI v)), (7, .int (zI w)), (8, .int (zI u))] dX7_canTake_137 (by decide) rfl ?_
                        refine z_iinc F 6 [(6, .int (zI (v + 1))), (5, .int (zI 0)), (0, .ref 16), (1, .int (zI ((i : Nat)))), (2, .int (zI ((a : Nat)))), (3, .int (zI x)), (4, .int (zI (x + zLen t a))), (7, .int (zI w)), (8, .int (zI u))] dX7_canTake_139 rfl (by decide) rfl ?_
                        refine z_iinc F 8 [(8, .int (zI (u + 1))), (6, .int (zI (v + 1))), (5, .int (zI 0)), (0, .ref 16), (1, .int (zI ((i : Nat)))), (2, .int (zI ((a : Nat)))), (3, .int (zI x)), (4, .int (zI (x + zLen t a))), (7, .int (zI w))] dX7_canTake_142 rfl (by decide) rfl ?_
                        refine z_goto F 79 dX7_canTake_145 (by decide) ?_
                        refine z_lv [(0, .ref 16), (1, .int (zI ((i : Nat)))), (2, .int (zI ((a : Nat)))), (3, .int (zI x)), (4, .int (zI (x + zLen t a))), (5, .int (zI 0)), (6, .int (zI (v + 1))), (7, .int (zI w)), (8, .int (zI (u + 1)))] [3, 4, 5, 6, 7, 2, 1, 8, 0] rfl ?_
                        exact L2_ih (u + 1) (v + 1) 0 (by omega) (by omega) (by omega) (by omega) (by first | exact Or.inl rfl | exact Or.inr rfl) (by first | exact zLd_0 hyI (by omega) | exact zLd_r hyI (by omega) (by omega) | exact zLd_1 hyI (by omega) (by omega) (by omega) | exact zLd_2 (by omega) (by omega) (by omega) (by omega))
                      · skip
                        refine z_iconst (z := 1) F dX7_canTake_132 (by decide) ?_
                        refine z_goto F 137 dX7_canTake_133 (by decide) ?_
                        refine z_istore F [(5, .int (zI 1)), (0, .ref 16), (1, .int (zI ((i : Nat)))), (2, .int (zI ((a : Nat)))), (3, .int (zI x)), (4, .int (zI (x + zLen t a))), (6, .int (zI v)), (7, .int (zI w)), (8, .int (zI u))] dX7_canTake_137 (by decide) rfl ?_
                        refine z_iinc F 6 [(6, .int (zI (v + 1))), (5, .int (zI 1)), (0, .ref 16), (1, .int (zI ((i : Nat)))), (2, .int (zI ((a : Nat)))), (3, .int (zI x)), (4, .int (zI (x + zLen t a))), (7, .int (zI w)), (8, .int (zI u))] dX7_canTake_139 rfl (by decide) rfl ?_
                        refine z_iinc F 8 [(8, .int (zI (u + 1))), (6, .int (zI (v + 1))), (5, .int (zI 1)), (0, .ref 16), (1, .int (zI ((i : Nat)))), (2, .int (zI ((a : Nat)))), (3, .int (zI x)), (4, .int (zI (x + zLen t a))), (7, .int (zI w))] dX7_canTake_142 rfl (by decide) rfl ?_
                        refine z_goto F 79 dX7_canTake_145 (by decide) ?_
                        refine z_lv [(0, .ref 16), (1, .int (zI ((i : Nat)))), (2, .int (zI ((a : Nat)))), (3, .int (zI x)), (4, .int (zI (x + zLen t a))), (5, .int (zI 1)), (6, .int (zI (v + 1))), (7, .int (zI w)), (8, .int (zI (u + 1)))] [3, 4, 5, 6, 7, 2, 1, 8, 0] rfl ?_
                        exact L2_ih (u + 1) (v + 1) 1 (by omega) (by omega) (by omega) (by omega) (by first | exact Or.inl rfl | exact Or.inr rfl) (by first | exact zLd_0 hyI (by omega) | exact zLd_r hyI (by omega) (by omega) | exact zLd_1 hyI (by omega) (by omega) (by omega) | exact zLd_2 (by omega) (by omega) (by omega) (by omega))
            refine z_lv [(0, .ref 16), (1, .int (zI ((i : Nat)))), (2, .int (zI ((a : Nat)))), (3, .int (zI x)), (4, .int (zI (x + zLen t a))), (5, .int (zI y)), (6, .int (zI v)), (7, .int (zI w)), (8, .int (zI 0))] [1, 2, 3, 4, 5, 6, 7, 8, 0] rfl ?_
            exact L2 _ 0 v y (Nat.lt_succ_self _) (by omega) (by omega) (by omega) hy (hyI.trans ⟨fun h => ⟨h, Or.inr (fun m h1 h2 => by omega)⟩, fun h => h.1⟩)
    refine z_lv [(0, .ref 16), (1, .int (zI ((i : Nat)))), (2, .int (zI ((a : Nat)))), (3, .int (zI x)), (4, .int (zI (x + (zLen t a)))), (5, .int (zI 0)), (6, .int (zI x)), (7, .int (zI 0))] [4, 5, 6, 7, 3, 2, 1, 0] rfl ?_
    exact L1 _ 0 x 0 (Nat.lt_succ_self _) (by omega) (by omega) (show x = x + 0 by omega) (by first | exact Or.inl rfl | exact Or.inr rfl) (by first | exact ⟨fun _ => ⟨⟨hsk, by omega, by omega⟩, rfl⟩, fun _ => rfl⟩ | exact ⟨fun h => absurd h (by decide), fun h => absurd h.1.1 hsk⟩ | exact ⟨fun h => absurd h (by decide), fun h => absurd h.1.2.1 (by omega)⟩ | exact ⟨fun h => absurd h (by decide), fun h => absurd h.1.2.2 (by omega)⟩)
  · skip
    have hsk : zSk t i a = true := hkk.mp (by omega)
    refine z_iload_n F 4 dX7_canTake_26 rfl rfl ?_
    refine z_aload_n F 1 dX7_canTake_27 rfl rfl ?_
    refine z_get F fl_X7_13 (zAll_16 s t o) rfl dX7_canTake_28 ?_
    refine z_iload_n F 2 dX7_canTake_31 rfl rfl ?_
    refine z_iald F (zAll_18 s t o) (by omega) (by omega) (by decide) dX7_canTake_32 ?_
    refine z_ti (y := t 2 i 0) (by rw [Int.toNat_natCast]) ?_
    refine z_icmp_lt F 51 dX7_canTake_33 (by decide) (by omega) (by omega) (fun c_10 => ?_) (fun c_10 => ?_)
    · skip
      refine z_iconst (z := 0) F dX7_canTake_51 (by decide) ?_
      refine z_istore F [(5, .int (zI 0)), (4, .int (zI (x + (zLen t a)))), (0, .ref 16), (1, .int (zI ((i : Nat)))), (2, .int (zI ((a : Nat)))), (3, .int (zI x))] dX7_canTake_52 (by decide) rfl ?_
      refine z_iload_n F 5 dX7_canTake_54 rfl rfl ?_
      refine z_istore F [(6, .int (zI x)), (5, .int (zI 0)), (4, .int (zI (x + (zLen t a)))), (0, .ref 16), (1, .int (zI ((i : Nat)))), (2, .int (zI ((a : Nat)))), (3, .int (zI x))] dX7_canTake_55 (by decide) rfl ?_
      refine z_iconst (z := 0) F dX7_canTake_57 (by decide) ?_
      refine z_istore F [(7, .int (zI 0)), (6, .int (zI x)), (5, .int (zI 0)), (4, .int (zI (x + (zLen t a)))), (0, .ref 16), (1, .int (zI ((i : Nat)))), (2, .int (zI ((a : Nat)))), (3, .int (zI x))] dX7_canTake_58 (by decide) rfl ?_
      have L1 : ∀ (fuel : Nat) (w : Int) (v : Int) (y : Int), (t 5 a 0 - w).toNat < fuel → 0 ≤ w → w ≤ t 5 a 0 → v = x + zOff t a w.toNat → (y = 0 ∨ y = 1) → (y = 1 ↔ (zSk t i a = true ∧ t 2 i 0 ≤ x ∧ x + zLen t a ≤ t 3 i 0) ∧ zStp t i a x w.toNat = true) → zJ k G rX7_canTake 9 (zMQ k G rX7_canTake (zRi (fun xr M2 => xr = (if zCan t i a x = true then 1 else 0) ∧ M2 = (zAll s t o))) zN) (zAll s t o) 0 0 60 [(0, .ref 16), (1, .int (zI ((i : Nat)))), (2, .int (zI ((a : Nat)))), (3, .int (zI x)), (4, .int (zI (x + zLen t a))), (5, .int (zI y)), (6, .int (zI v)), (7, .int (zI w))] [] := by
        intro fuel
        induction fuel with
        | zero => intros; omega
        | succ fuel L1_ih =>
          intro w v y hfuel hw0 hw1 hv hy hyI
          refine z_iload F 7 dX7_canTake_60 rfl ?_
          refine z_aload_n F 0 dX7_canTake_62 rfl rfl ?_
          refine z_get F fl_X7_25 (zAll_16 s t o) rfl dX7_canTake_63 ?_
          refine z_iload_n F 2 dX7_canTake_66 rfl rfl ?_
          refine z_iald F (zAll_22 s t o) (by omega) (by omega) (by decide) dX7_canTake_67 ?_
          refine z_ti (y := t 5 a 0) (by rw [Int.toNat_natCast]) ?_
          refine z_icmp_ge F 154 dX7_canTake_68 (by decide) (by omega) (by omega) (fun c_11 => ?_) (fun c_11 => ?_)
          · skip
            have hke : w.toNat = zSc t a := by have := (hc.sc a).2; omega
            have hfin := zFin hy (hyI.trans (by rw [zCan_iff, hke] : _ ↔ zCan t i a x = true))
            refine z_iload F 5 dX7_canTake_154 rfl ?_
            exact z_retz F rfl hy (by first | decide | assumption | omega) (by first | decide | assumption | omega) dX7_canTake_156 ⟨_, rfl, hfin, rfl⟩
          · skip
            have ho1 := hc.off a w.toNat
            have ho2 := hc.offm a w.toNat 1
            have ho3 := hc.offl (a := a) (k := w.toNat + 1) (by have := (hc.sc a).2; omega)
            have ho4 : zOff t a (w.toNat + 1) = zOff t a w.toNat + t 7 a w.toNat := rfl
            have h7 := hc.2.2.2.2.2.2.1 a w.toNat
            have h6 := hc.2.2.2.2.2.1 a w.toNat
            refine z_iload F 5 dX7_canTake_71 rfl ?_
            refine z_if_eq F 154 dX7_canTake_73 (by decide) (by omega) (fun c_12 => ?_) (fun c_12 => ?_)
            · skip
              have hfin := zFin hy (⟨fun h => by omega, fun h => hyI.mpr ⟨(zCan_iff.mp h).1, zStp_mono (zSc t a - w.toNat) (by rw [show w.toNat + (zSc t a - w.toNat) = zSc t a by have := (hc.sc a).2; omega]; exact (zCan_iff.mp h).2)⟩⟩ : y = 1 ↔ zCan t i a x = true)
              refine z_iload F 5 dX7_canTake_154 rfl ?_
              exact z_retz F rfl hy (by first | decide | assumption | omega) (by first | decide | assumption | omega) dX7_canTake_156 ⟨_, rfl, hfin, rfl⟩
            · skip
              refine z_iconst (z := 0) F dX7_canTake_76 (by decide) ?_
              refine z_istore F [(8, .int (zI 0)), (0, .ref 16), (1, .int (zI ((i : Nat)))), (2, .int (zI ((a : Nat)))), (3, .int (zI x)), (4, .int (zI (x + zLen t a))), (5, .int (zI y)), (6, .int (zI v)), (7, .int (zI w))] dX7_canTake_77 (by decide) rfl ?_
              have L2 : ∀ (fuel : Nat) (u : Int) (v : Int) (y : Int), (t 7 a w.toNat - u).toNat < fuel → 0 ≤ u → u ≤ t 7 a w.toNat → v = x + zOff t a w.toNat + u → (y = 0 ∨ y = 1) → (y = 1 ↔ ((zSk t i a = true ∧ t 2 i 0 ≤ x ∧ x + zLen t a ≤ t 3 i 0) ∧ zStp t i a x w.toNat = true) ∧ (t 6 a w.toNat = -1 ∨ ∀ m : Nat, x + zOff t a w.toNat ≤ (m : Int) → (m : Int) < v → t 21 (i + 4) m = -1)) → zJ k G rX7_canTake 9 (zMQ k G rX7_canTake (zRi (fun xr M2 => xr = (if zCan t i a x = true then 1 else 0) ∧ M2 = (zAll s t o))) zN) (zAll s t o) 0 0 79 [(0, .ref 16), (1, .int (zI ((i : Nat)))), (2, .int (zI ((a : Nat)))), (3, .int (zI x)), (4, .int (zI (x + zLen t a))), (5, .int (zI y)), (6, .int (zI v)), (7, .int (zI w)), (8, .int (zI u))] [] := by
                intro fuel
                induction fuel with
                | zero => intros; omega
                | succ fuel L2_ih =>
                  intro u v y hfuel hu0 hu1 hv hy hyI
                  refine z_iload F 8 dX7_canTake_79 rfl ?_
                  refine z_aload_n F 0 dX7_canTake_81 rfl rfl ?_
                  refine z_get F fl_X7_22 (zAll_16 s t o) rfl dX7_canTake_82 ?_
                  refine z_iconst (z := 5) F dX7_canTake_85 (by decide) ?_
                  refine z_iload_n F 2 dX7_canTake_86 rfl rfl ?_
                  refine z_imul F dX7_canTake_87 ?_
                  refine z_iload F 7 dX7_canTake_88 rfl ?_
                  refine z_iadd F dX7_canTake_90 ?_
                  refine z_iald F (zAll_21 s t o) (by omega) (by omega) (by decide) dX7_canTake_91 ?_
                  refine z_ti (y := t 7 a w.toNat) (by rw [show (5 * ((a : Nat) : Int) + w).toNat / 5 = a by omega, show (5 * ((a : Nat) : Int) + w).toNat % 5 = w.toNat by omega]) ?_
                  refine z_icmp_ge F 148 dX7_canTake_92 (by decide) (by omega) (by omega) (fun c_13 => ?_) (fun c_13 => ?_)
                  · skip
                    have hve : v = x + zOff t a (w.toNat + 1) := by omega
                    rw [hve] at hyI
                    have hyo := zStp_up (i := i) (P := (zSk t i a = true ∧ t 2 i 0 ≤ x ∧ x + zLen t a ≤ t 3 i 0)) (by omega) (by omega) (fun h => by have := h.2.2; have := h3 i; omega) hyI
                    refine z_iinc F 7 [(7, .int (zI (w + 1))), (0, .ref 16), (1, .int (zI ((i : Nat)))), (2, .int (zI ((a : Nat)))), (3, .int (zI x)), (4, .int (zI (x + zLen t a))), (5, .int (zI y)), (6, .int (zI v)), (8, .int (zI u))] dX7_canTake_148 rfl (by decide) rfl ?_
                    refine z_goto F 60 dX7_canTake_151 (by decide) ?_
                    refine z_lv [(0, .ref 16), (1, .int (zI ((i : Nat)))), (2, .int (zI ((a : Nat)))), (3, .int (zI x)), (4, .int (zI (x + zLen t a))), (5, .int (zI y)), (6, .int (zI v)), (7, .int (zI (w + 1)))] [1, 2, 3, 4, 5, 6, 7, 0] rfl ?_
                    exact L1_ih (w + 1) v y (by omega) (by omega) (by omega) (by rw [show (w + 1).toNat = w.toNat + 1 by omega]; omega) hy (by rw [show (w + 1).toNat = w.toNat + 1 by omega]; exact hyo)
                  · skip
                    refine z_iload F 5 dX7_canTake_95 rfl ?_
                    refine z_if_eq F 136 dX7_canTake_97 (by decide) (by omega) (fun c_14 => ?_) (fun c_14 => ?_)
                    · skip
                      refine z_iconst (z := 0) F dX7_canTake_136 (by decide) ?_
                      refine z_istore F [(5, .int (zI 0)), (0, .ref 16), (1, .int (zI ((i : Nat)))), (2, .int (zI ((a : Nat)))), (3, .int (zI x)), (4, .int (zI (x + zLen t a))), (6, .int (zI v)), (7, .int (zI w)), (8, .int (zI u))] dX7_canTake_137 (by decide) rfl ?_
                      refine z_iinc F 6 [(6, .int (zI (v + 1))), (5, .int (zI 0)), (0, .ref 16), (1, .int (zI ((i : Nat)))), (2, .int (zI ((a : Nat)))), (3, .int (zI x)), (4, .int (zI (x + zLen t a))), (7, .int (zI w)), (8, .int (zI u))] dX7_canTake_139 rfl (by decide) rfl ?_
                      refine z_iinc F 8 [(8, .int (zI (u + 1))), (6, .int (zI (v + 1))), (5, .int (zI 0)), (0, .ref 16), (1, .int (zI ((i : Nat)))), (2, .int (zI ((a : Nat)))), (3, .int (zI x)), (4, .int (zI (x + zLen t a))), (7, .int (zI w))] dX7_canTake_142 rfl (by decide) rfl ?_
                      refine z_goto F 79 dX7_canTake_145 (by decide) ?_
                      refine z_lv [(0, .ref 16), (1, .int (zI ((i : Nat)))), (2, .int (zI ((a : Nat)))), (3, .int (zI x)), (4, .int (zI (x + zLen t a))), (5, .int (zI 0)), (6, .int (zI (v + 1))), (7, .int (zI w)), (8, .int (zI (u + 1)))] [3, 4, 5, 6, 7, 2, 1, 8, 0] rfl ?_
                      exact L2_ih (u + 1) (v + 1) 0 (by omega) (by omega) (by omega) (by omega) (by first | exact Or.inl rfl | exact Or.inr rfl) (by first | exact zLd_0 hyI (by omega) | exact zLd_r hyI (by omega) (by omega) | exact zLd_1 hyI (by omega) (by omega) (by omega) | exact zLd_2 (by omega) (by omega) (by omega) (by omega))
                    · skip
                      have hP9 := (hyI.mp (by omega)).1.1.2.2
                      have h39 := h3 i
                      have hb21 := hb9 21 (i + 4) v.toNat
                      refine z_aload_n F 0 dX7_canTake_100 rfl rfl ?_
                      refine z_get F fl_X7_19 (zAll_16 s t o) rfl dX7_canTake_101 ?_
                      refine z_iconst (z := 5) F dX7_canTake_104 (by decide) ?_
                      refine z_iload_n F 2 dX7_canTake_105 rfl rfl ?_
                      refine z_imul F dX7_canTake_106 ?_
                      refine z_iload F 7 dX7_canTake_107 rfl ?_
                      refine z_iadd F dX7_canTake_109 ?_
                      refine z_iald F (zAll_20 s t o) (by omega) (by omega) (by decide) dX7_canTake_110 ?_
                      refine z_ti (y := t 6 a w.toNat) (by rw [show (5 * ((a : Nat) : Int) + w).toNat / 5 = a by omega, show (5 * ((a : Nat) : Int) + w).toNat % 5 = w.toNat by omega]) ?_
                      refine z_iconst (z := -1) F dX7_canTake_111 (by decide) ?_
                      refine z_icmp_eq F 132 dX7_canTake_112 (by decide) (by omega) ⟨by decide, by decide⟩ (fun c_15 => ?_) (fun c_15 => ?_)
                      · skip
                        refine z_iconst (z := 1) F dX7_canTake_132 (by decide) ?_
                        refine z_goto F 137 dX7_canTake_133 (by decide) ?_
                        refine z_istore F [(5, .int (zI 1)), (0, .ref 16), (1, .int (zI ((i : Nat)))), (2, .int (zI ((a : Nat)))), (3, .int (zI x)), (4, .int (zI (x + zLen t a))), (6, .int (zI v)), (7, .int (zI w)), (8, .int (zI u))] dX7_canTake_137 (by decide) rfl ?_
                        refine z_iinc F 6 [(6, .int (zI (v + 1))), (5, .int (zI 1)), (0, .ref 16), (1, .int (zI ((i : Nat)))), (2, .int (zI ((a : Nat)))), (3, .int (zI x)), (4, .int (zI (x + zLen t a))), (7, .int (zI w)), (8, .int (zI u))] dX7_canTake_139 rfl (by decide) rfl ?_
                        refine z_iinc F 8 [(8, .int (zI (u + 1))), (6, .int (zI (v + 1))), (5, .int (zI 1)), (0, .ref 16), (1, .int (zI ((i : Nat)))), (2, .int (zI ((a : Nat)))), (3, .int (zI x)), (4, .int (zI (x + zLen t a))), (7, .int (zI w))] dX7_canTake_142 rfl (by decide) rfl ?_
                        refine z_goto F 79 dX7_canTake_145 (by decide) ?_
                        refine z_lv [(0, .ref 16), (1, .int (zI ((i : Nat)))), (2, .int (zI ((a : Nat)))), (3, .int (zI x)), (4, .int (zI (x + zLen t a))), (5, .int (zI 1)), (6, .int (zI (v + 1))), (7, .int (zI w)), (8, .int (zI (u + 1)))] [3, 4, 5, 6, 7, 2, 1, 8, 0] rfl ?_
                        exact L2_ih (u + 1) (v + 1) 1 (by omega) (by omega) (by omega) (by omega) (by first | exact Or.inl rfl | exact Or.inr rfl) (by first | exact zLd_0 hyI (by omega) | exact zLd_r hyI (by omega) (by omega) | exact zLd_1 hyI (by omega) (by omega) (by omega) | exact zLd_2 (by omega) (by omega) (by omega) (by omega))
                      · skip
                        refine z_aload_n F 0 dX7_canTake_115 rfl rfl ?_
                        refine z_get F fl_X7_44 (zAll_16 s t o) rfl dX7_canTake_116 ?_
                        refine z_sipush (z := 600) F dX7_canTake_119 (by decide) ?_
                        refine z_iload_n F 1 dX7_canTake_122 rfl rfl ?_
                        refine z_imul F dX7_canTake_123 ?_
                        refine z_iload F 6 dX7_canTake_124 rfl ?_
                        refine z_iadd F dX7_canTake_126 ?_
                        refine z_iald F (zAll_28 s t o) (by omega) (by omega) (by decide) dX7_canTake_127 ?_
                        refine z_ti (y := t 21 (i + 4) v.toNat) (by rw [show (600 * ((i : Nat) : Int) + v).toNat / 600 = i by omega, show (600 * ((i : Nat) : Int) + v).toNat % 600 = v.toNat by omega]) ?_
                        refine z_iconst (z := -1) F dX7_canTake_128 (by decide) ?_
                        refine z_icmp_ne F 136 dX7_canTake_129 (by decide) (by omega) ⟨by decide, by decide⟩ (fun c_16 => ?_) (fun c_16 => ?_)
                        · skip
                          refine z_iconst (z := 0) F dX7_canTake_136 (by decide) ?_
                          refine z_istore F [(5, .int (zI 0)), (0, .ref 16), (1, .int (zI ((i : Nat)))), (2, .int (zI ((a : Nat)))), (3, .int (zI x)), (4, .int (zI (x + zLen t a))), (6, .int (zI v)), (7, .int (zI w)), (8, .int (zI u))] dX7_canTake_137 (by decide) rfl ?_
                          refine z_iinc F 6 [(6, .int (zI (v + 1))), (5, .int (zI 0)), (0, .ref 16), (1, .int (zI ((i : Nat)))), (2, .int (zI ((a : Nat)))), (3, .int (zI x)), (4, .int (zI (x + zLen t a))), (7, .int (zI w)), (8, .int (zI u))] dX7_canTake_139 rfl (by decide) rfl ?_
                          refine z_iinc F 8 [(8, .int (zI (u + 1))), (6, .int (zI (v + 1))), (5, .int (zI 0)), (0, .ref 16), (1, .int (zI ((i : Nat)))), (2, .int (zI ((a : Nat)))), (3, .int (zI x)), (4, .int (zI (x + zLen t a))), (7, .int (zI w))] dX7_canTake_142 rfl (by decide) rfl ?_
                          refine z_goto F 79 dX7_canTake_145 (by decide) ?_
                          refine z_lv [(0, .ref 16), (1, .int (zI ((i : Nat)))), (2, .int (zI ((a : Nat)))), (3, .int (zI x)), (4, .int (zI (x + zLen t a))), (5, .int (zI 0)), (6, .int (zI (v + 1))), (7, .int (zI w)), (8, .int (zI (u + 1)))] [3, 4, 5, 6, 7, 2, 1, 8, 0] rfl ?_
                          exact L2_ih (u + 1) (v + 1) 0 (by omega) (by omega) (by omega) (by omega) (by first | exact Or.inl rfl | exact Or.inr rfl) (by first | exact zLd_0 hyI (by omega) | exact zLd_r hyI (by omega) (by omega) | exact zLd_1 hyI (by omega) (by omega) (by omega) | exact zLd_2 (by omega) (by omega) (by omega) (by omega))
                        · skip
                          refine z_iconst (z := 1) F dX7_canTake_132 (by decide) ?_
                          refine z_goto F 137 dX7_canTake_133 (by decide) ?_
                          refine z_istore F [(5, .int (zI 1)), (0, .ref 16), (1, .int (zI ((i : Nat)))), (2, .int (zI ((a : Nat)))), (3, .int (zI x)), (4, .int (zI (x + zLen t a))), (6, .int (zI v)), (7, .int (zI w)), (8, .int (zI u))] dX7_canTake_137 (by decide) rfl ?_
                          refine z_iinc F 6 [(6, .int (zI (v + 1))), (5, .int (zI 1)), (0, .ref 16), (1, .int (zI ((i : Nat)))), (2, .int (zI ((a : Nat)))), (3, .int (zI x)), (4, .int (zI (x + zLen t a))), (7, .int (zI w)), (8, .int (zI u))] dX7_canTake_139 rfl (by decide) rfl ?_
                          refine z_iinc F 8 [(8, .int (zI (u + 1))), (6, .int (zI (v + 1))), (5, .int (zI 1)), (0, .ref 16), (1, .int (zI ((i : Nat)))), (2, .int (zI ((a : Nat)))), (3, .int (zI x)), (4, .int (zI (x + zLen t a))), (7, .int (zI w))] dX7_canTake_142 rfl (by decide) rfl ?_
                          refine z_goto F 79 dX7_canTake_145 (by decide) ?_
                          refine z_lv [(0, .ref 16), (1, .int (zI ((i : Nat)))), (2, .int (zI ((a : Nat)))), (3, .int (zI x)), (4, .int (zI (x + zLen t a))), (5, .int (zI 1)), (6, .int (zI (v + 1))), (7, .int (zI w)), (8, .int (zI (u + 1)))] [3, 4, 5, 6, 7, 2, 1, 8, 0] rfl ?_
                          exact L2_ih (u + 1) (v + 1) 1 (by omega) (by omega) (by omega) (by omega) (by first | exact Or.inl rfl | exact Or.inr rfl) (by first | exact zLd_0 hyI (by omega) | exact zLd_r hyI (by omega) (by omega) | exact zLd_1 hyI (by omega) (by omega) (by omega) | exact zLd_2 (by omega) (by omega) (by omega) (by omega))
              refine z_lv [(0, .ref 16), (1, .int (zI ((i : Nat)))), (2, .int (zI ((a : Nat)))), (3, .int (zI x)), (4, .int (zI (x + zLen t a))), (5, .int (zI y)), (6, .int (zI v)), (7, .int (zI w)), (8, .int (zI 0))] [1, 2, 3, 4, 5, 6, 7, 8, 0] rfl ?_
              exact L2 _ 0 v y (Nat.lt_succ_self _) (by omega) (by omega) (by omega) hy (hyI.trans ⟨fun h => ⟨h, Or.inr (fun m h1 h2 => by omega)⟩, fun h => h.1⟩)
      refine z_lv [(0, .ref 16), (1, .int (zI ((i : Nat)))), (2, .int (zI ((a : Nat)))), (3, .int (zI x)), (4, .int (zI (x + (zLen t a)))), (5, .int (zI 0)), (6, .int (zI x)), (7, .int (zI 0))] [4, 5, 6, 7, 3, 2, 1, 0] rfl ?_
      exact L1 _ 0 x 0 (Nat.lt_succ_self _) (by omega) (by omega) (show x = x + 0 by omega) (by first | exact Or.inl rfl | exact Or.inr rfl) (by first | exact ⟨fun _ => ⟨⟨hsk, by omega, by omega⟩, rfl⟩, fun _ => rfl⟩ | exact ⟨fun h => absurd h (by decide), fun h => absurd h.1.1 hsk⟩ | exact ⟨fun h => absurd h (by decide), fun h => absurd h.1.2.1 (by omega)⟩ | exact ⟨fun h => absurd h (by decide), fun h => absurd h.1.2.2 (by omega)⟩)
    · skip
      refine z_iload F 0 dX7_canTake_36 rfl ?_
      refine z_aload_n F 1 dX7_canTake_38 rfl rfl ?_
      refine z_get F fl_X7_16 (zAll_16 s t o) rfl dX7_canTake_39 ?_
      refine z_iload_n F 2 dX7_canTake_42 rfl rfl ?_
      refine z_iald F (zAll_19 s t o) (by omega) (by omega) (by decide) dX7_canTake_43 ?_
      refine z_ti (y := t 3 i 0) (by rw [Int.toNat_natCast]) ?_
      refine z_icmp_gt F 51 dX7_canTake_44 (by decide) (by omega) (by omega) (fun c_17 => ?_) (fun c_17 => ?_)
      · skip
        refine z_iconst (z := 0) F dX7_canTake_51 (by decide) ?_
        refine z_istore F [(5, .int (zI 0)), (4, .int (zI (x + (zLen t a)))), (0, .ref 16), (1, .int (zI ((i : Nat)))), (2, .int (zI ((a : Nat)))), (3, .int (zI x))] dX7_canTake_52 (by decide) rfl ?_
        refine z_iload_n F 5 dX7_canTake_54 rfl rfl ?_
        refine z_istore F [(6, .int (zI x)), (5, .int (zI 0)), (4, .int (zI (x + (zLen t a)))), (0, .ref 16), (1, .int (zI ((i : Nat)))), (2, .int (zI ((a : Nat)))), (3, .int (zI x))] dX7_canTake_55 (by decide) rfl ?_
        refine z_iconst (z := 0) F dX7_canTake_57 (by decide) ?_
        refine z_istore F [(7, .int (zI 0)), (6, .int (zI x)), (5, .int (zI 0)), (4, .int (zI (x + (zLen t a)))), (0, .ref 16), (1, .int (zI ((i : Nat)))), (2, .int (zI ((a : Nat)))), (3, .int (zI x))] dX7_canTake_58 (by decide) rfl ?_
        have L1 : ∀ (fuel : Nat) (w : Int) (v : Int) (y : Int), (t 5 a 0 - w).toNat < fuel → 0 ≤ w → w ≤ t 5 a 0 → v = x + zOff t a w.toNat → (y = 0 ∨ y = 1) → (y = 1 ↔ (zSk t i a = true ∧ t 2 i 0 ≤ x ∧ x + zLen t a ≤ t 3 i 0) ∧ zStp t i a x w.toNat = true) → zJ k G rX7_canTake 9 (zMQ k G rX7_canTake (zRi (fun xr M2 => xr = (if zCan t i a x = true then 1 else 0) ∧ M2 = (zAll s t o))) zN) (zAll s t o) 0 0 60 [(0, .ref 16), (1, .int (zI ((i : Nat)))), (2, .int (zI ((a : Nat)))), (3, .int (zI x)), (4, .int (zI (x + zLen t a))), (5, .int (zI y)), (6, .int (zI v)), (7, .int (zI w))] [] := by
          intro fuel
          induction fuel with
          | zero => intros; omega
          | succ fuel L1_ih =>
            intro w v y hfuel hw0 hw1 hv hy hyI
            refine z_iload F 7 dX7_canTake_60 rfl ?_
            refine z_aload_n F 0 dX7_canTake_62 rfl rfl ?_
            refine z_get F fl_X7_25 (zAll_16 s t o) rfl dX7_canTake_63 ?_
            refine z_iload_n F 2 dX7_canTake_66 rfl rfl ?_
            refine z_iald F (zAll_22 s t o) (by omega) (by omega) (by decide) dX7_canTake_67 ?_
            refine z_ti (y := t 5 a 0) (by rw [Int.toNat_natCast]) ?_
            refine z_icmp_ge F 154 dX7_canTake_68 (by decide) (by omega) (by omega) (fun c_18 => ?_) (fun c_18 => ?_)
            · skip
              have hke : w.toNat = zSc t a := by have := (hc.sc a).2; omega
              have hfin := zFin hy (hyI.trans (by rw [zCan_iff, hke] : _ ↔ zCan t i a x = true))
              refine z_iload F 5 dX7_canTake_154 rfl ?_
              exact z_retz F rfl hy (by first | decide | assumption | omega) (by first | decide | assumption | omega) dX7_canTake_156 ⟨_, rfl, hfin, rfl⟩
            · skip
              have ho1 := hc.off a w.toNat
              have ho2 := hc.offm a w.toNat 1
              have ho3 := hc.offl (a := a) (k := w.toNat + 1) (by have := (hc.sc a).2; omega)
              have ho4 : zOff t a (w.toNat + 1) = zOff t a w.toNat + t 7 a w.toNat := rfl
              have h7 := hc.2.2.2.2.2.2.1 a w.toNat
              have h6 := hc.2.2.2.2.2.1 a w.toNat
              refine z_iload F 5 dX7_canTake_71 rfl ?_
              refine z_if_eq F 154 dX7_canTake_73 (by decide) (by omega) (fun c_19 => ?_) (fun c_19 => ?_)
              · skip
                have hfin := zFin hy (⟨fun h => by omega, fun h => hyI.mpr ⟨(zCan_iff.mp h).1, zStp_mono (zSc t a - w.toNat) (by rw [show w.toNat + (zSc t a - w.toNat) = zSc t a by have := (hc.sc a).2; omega]; exact (zCan_iff.mp h).2)⟩⟩ : y = 1 ↔ zCan t i a x = true)
                refine z_iload F 5 dX7_canTake_154 rfl ?_
                exact z_retz F rfl hy (by first | decide | assumption | omega) (by first | decide | assumption | omega) dX7_canTake_156 ⟨_, rfl, hfin, rfl⟩
              · skip
                refine z_iconst (z := 0) F dX7_canTake_76 (by decide) ?_
                refine z_istore F [(8, .int (zI 0)), (0, .ref 16), (1, .int (zI ((i : Nat)))), (2, .int (zI ((a : Nat)))), (3, .int (zI x)), (4, .int (zI (x + zLen t a))), (5, .int (zI y)), (6, .int (zI v)), (7, .int (zI w))] dX7_canTake_77 (by decide) rfl ?_
                have L2 : ∀ (fuel : Nat) (u : Int) (v : Int) (y : Int), (t 7 a w.toNat - u).toNat < fuel → 0 ≤ u → u ≤ t 7 a w.toNat → v = x + zOff t a w.toNat + u → (y = 0 ∨ y = 1) → (y = 1 ↔ ((zSk t i a = true ∧ t 2 i 0 ≤ x ∧ x + zLen t a ≤ t 3 i 0) ∧ zStp t i a x w.toNat = true) ∧ (t 6 a w.toNat = -1 ∨ ∀ m : Nat, x + zOff t a w.toNat ≤ (m : Int) → (m : Int) < v → t 21 (i + 4) m = -1)) → zJ k G rX7_canTake 9 (zMQ k G rX7_canTake (zRi (fun xr M2 => xr = (if zCan t i a x = true then 1 else 0) ∧ M2 = (zAll s t o))) zN) (zAll s t o) 0 0 79 [(0, .ref 16), (1, .int (zI ((i : Nat)))), (2, .int (zI ((a : Nat)))), (3, .int (zI x)), (4, .int (zI (x + zLen t a))), (5, .int (zI y)), (6, .int (zI v)), (7, .int (zI w)), (8, .int (zI u))] [] := by
                  intro fuel
                  induction fuel with
                  | zero => intros; omega
                  | succ fuel L2_ih =>
                    intro u v y hfuel hu0 hu1 hv hy hyI
                    refine z_iload F 8 dX7_canTake_79 rfl ?_
                    refine z_aload_n F 0 dX7_canTake_81 rfl rfl ?_
                    refine z_get F fl_X7_22 (zAll_16 s t o) rfl dX7_canTake_82 ?_
                    refine z_iconst (z := 5) F dX7_canTake_85 (by decide) ?_
                    refine z_iload_n F 2 dX7_canTake_86 rfl rfl ?_
                    refine z_imul F dX7_canTake_87 ?_
                    refine z_iload F 7 dX7_canTake_88 rfl ?_
                    refine z_iadd F dX7_canTake_90 ?_
                    refine z_iald F (zAll_21 s t o) (by omega) (by omega) (by decide) dX7_canTake_91 ?_
                    refine z_ti (y := t 7 a w.toNat) (by rw [show (5 * ((a : Nat) : Int) + w).toNat / 5 = a by omega, show (5 * ((a : Nat) : Int) + w).toNat % 5 = w.toNat by omega]) ?_
                    refine z_icmp_ge F 148 dX7_canTake_92 (by decide) (by omega) (by omega) (fun c_20 => ?_) (fun c_20 => ?_)
                    · skip
                      have hve : v = x + zOff t a (w.toNat + 1) := by omega
                      rw [hve] at hyI
                      have hyo := zStp_up (i := i) (P := (zSk t i a = true ∧ t 2 i 0 ≤ x ∧ x + zLen t a ≤ t 3 i 0)) (by omega) (by omega) (fun h => by have := h.2.2; have := h3 i; omega) hyI
                      refine z_iinc F 7 [(7, .int (zI (w + 1))), (0, .ref 16), (1, .int (zI ((i : Nat)))), (2, .int (zI ((a : Nat)))), (3, .int (zI x)), (4, .int (zI (x + zLen t a))), (5, .int (zI y)), (6, .int (zI v)), (8, .int (zI u))] dX7_canTake_148 rfl (by decide) rfl ?_
                      refine z_goto F 60 dX7_canTake_151 (by decide) ?_
                      refine z_lv [(0, .ref 16), (1, .int (zI ((i : Nat)))), (2, .int (zI ((a : Nat)))), (3, .int (zI x)), (4, .int (zI (x + zLen t a))), (5, .int (zI y)), (6, .int (zI v)), (7, .int (zI (w + 1)))] [1, 2, 3, 4, 5, 6, 7, 0] rfl ?_
                      exact L1_ih (w + 1) v y (by omega) (by omega) (by omega) (by rw [show (w + 1).toNat = w.toNat + 1 by omega]; omega) hy (by rw [show (w + 1).toNat = w.toNat + 1 by omega]; exact hyo)
                    · skip
                      refine z_iload F 5 dX7_canTake_95 rfl ?_
                      refine z_if_eq F 136 dX7_canTake_97 (by decide) (by omega) (fun c_21 => ?_) (fun c_21 => ?_)
                      · skip
                        refine z_iconst (z := 0) F dX7_canTake_136 (by decide) ?_
                        refine z_istore F [(5, .int (zI 0)), (0, .ref 16), (1, .int (zI ((i : Nat)))), (2, .int (zI ((a : Nat)))), (3, .int (zI x)), (4, .int (zI (x + zLen t a))), (6, .int (zI v)), (7, .int (zI w)), (8, .int (zI u))] dX7_canTake_137 (by decide) rfl ?_
                        refine z_iinc F 6 [(6, .int (zI (v + 1))), (5, .int (zI 0)), (0, .ref 16), (1, .int (zI ((i : Nat)))), (2, .int (zI ((a : Nat)))), (3, .int (zI x)), (4, .int (zI (x + zLen t a))), (7, .int (zI w)), (8, .int (zI u))] dX7_canTake_139 rfl (by decide) rfl ?_
                        refine z_iinc F 8 [(8, .int (zI (u + 1))), (6, .int (zI (v + 1))), (5, .int (zI 0)), (0, .ref 16), (1, .int (zI ((i : Nat)))), (2, .int (zI ((a : Nat)))), (3, .int (zI x)), (4, .int (zI (x + zLen t a))), (7, .int (zI w))] dX7_canTake_142 rfl (by decide) rfl ?_
                        refine z_goto F 79 dX7_canTake_145 (by decide) ?_
                        refine z_lv [(0, .ref 16), (1, .int (zI ((i : Nat)))), (2, .int (zI ((a : Nat)))), (3, .int (zI x)), (4, .int (zI (x + zLen t a))), (5, .int (zI 0)), (6, .int (zI (v + 1))), (7, .int (zI w)), (8, .int (zI (u + 1)))] [3, 4, 5, 6, 7, 2, 1, 8, 0] rfl ?_
                        exact L2_ih (u + 1) (v + 1) 0 (by omega) (by omega) (by omega) (by omega) (by first | exact Or.inl rfl | exact Or.inr rfl) (by first | exact zLd_0 hyI (by omega) | exact zLd_r hyI (by omega) (by omega) | exact zLd_1 hyI (by omega) (by omega) (by omega) | exact zLd_2 (by omega) (by omega) (by omega) (by omega))
                      · skip
                        have hP9 := (hyI.mp (by omega)).1.1.2.2
                        have h39 := h3 i
                        have hb21 := hb9 21 (i + 4) v.toNat
                        refine z_aload_n F 0 dX7_canTake_100 rfl rfl ?_
                        refine z_get F fl_X7_19 (zAll_16 s t o) rfl dX7_canTake_101 ?_
                        refine z_iconst (z := 5) F dX7_canTake_104 (by decide) ?_
                        refine z_iload_n F 2 dX7_canTake_105 rfl rfl ?_
                        refine z_imul F dX7_canTake_106 ?_
                        refine z_iload F 7 dX7_canTake_107 rfl ?_
                        refine z_iadd F dX7_canTake_109 ?_
                        refine z_iald F (zAll_20 s t o) (by omega) (by omega) (by decide) dX7_canTake_110 ?_
                        refine z_ti (y := t 6 a w.toNat) (by rw [show (5 * ((a : Nat) : Int) + w).toNat / 5 = a by omega, show (5 * ((a : Nat) : Int) + w).toNat % 5 = w.toNat by omega]) ?_
                        refine z_iconst (z := -1) F dX7_canTake_111 (by decide) ?_
                        refine z_icmp_eq F 132 dX7_canTake_112 (by decide) (by omega) ⟨by decide, by decide⟩ (fun c_22 => ?_) (fun c_22 => ?_)
                        · skip
                          refine z_iconst (z := 1) F dX7_canTake_132 (by decide) ?_
                          refine z_goto F 137 dX7_canTake_133 (by decide) ?_
                          refine z_istore F [(5, .int (zI 1)), (0, .ref 16), (1, .int (zI ((i : Nat)))), (2, .int (zI ((a : Nat)))), (3, .int (zI x)), (4, .int (zI (x + zLen t a))), (6, .int (zI v)), (7, .int (zI w)), (8, .int (zI u))] dX7_canTake_137 (by decide) rfl ?_
                          refine z_iinc F 6 [(6, .int (zI (v + 1))), (5, .int (zI 1)), (0, .ref 16), (1, .int (zI ((i : Nat)))), (2, .int (zI ((a : Nat)))), (3, .int (zI x)), (4, .int (zI (x + zLen t a))), (7, .int (zI w)), (8, .int (zI u))] dX7_canTake_139 rfl (by decide) rfl ?_
                          refine z_iinc F 8 [(8, .int (zI (u + 1))), (6, .int (zI (v + 1))), (5, .int (zI 1)), (0, .ref 16), (1, .int (zI ((i : Nat)))), (2, .int (zI ((a : Nat)))), (3, .int (zI x)), (4, .int (zI (x + zLen t a))), (7, .int (zI w))] dX7_canTake_142 rfl (by decide) rfl ?_
                          refine z_goto F 79 dX7_canTake_145 (by decide) ?_
                          refine z_lv [(0, .ref 16), (1, .int (zI ((i : Nat)))), (2, .int (zI ((a : Nat)))), (3, .int (zI x)), (4, .int (zI (x + zLen t a))), (5, .int (zI 1)), (6, .int (zI (v + 1))), (7, .int (zI w)), (8, .int (zI (u + 1)))] [3, 4, 5, 6, 7, 2, 1, 8, 0] rfl ?_
                          exact L2_ih (u + 1) (v + 1) 1 (by omega) (by omega) (by omega) (by omega) (by first | exact Or.inl rfl | exact Or.inr rfl) (by first | exact zLd_0 hyI (by omega) | exact zLd_r hyI (by omega) (by omega) | exact zLd_1 hyI (by omega) (by omega) (by omega) | exact zLd_2 (by omega) (by omega) (by omega) (by omega))
                        · skip
                          refine z_aload_n F 0 dX7_canTake_115 rfl rfl ?_
                          refine z_get F fl_X7_44 (zAll_16 s t o) rfl dX7_canTake_116 ?_
                          refine z_sipush (z := 600) F dX7_canTake_119 (by decide) ?_
                          refine z_iload_n F 1 dX7_canTake_122 rfl rfl ?_
                          refine z_imul F dX7_canTake_123 ?_
                          refine z_iload F 6 dX7_canTake_124 rfl ?_
                          refine z_iadd F dX7_canTake_126 ?_
                          refine z_iald F (zAll_28 s t o) (by omega) (by omega) (by decide) dX7_canTake_127 ?_
                          refine z_ti (y := t 21 (i + 4) v.toNat) (by rw [show (600 * ((i : Nat) : Int) + v).toNat / 600 = i by omega, show (600 * ((i : Nat) : Int) + v).toNat % 600 = v.toNat by omega]) ?_
                          refine z_iconst (z := -1) F dX7_canTake_128 (by decide) ?_
                          refine z_icmp_ne F 136 dX7_canTake_129 (by decide) (by omega) ⟨by decide, by decide⟩ (fun c_23 => ?_) (fun c_23 => ?_)
                          · skip
                            refine z_iconst (z := 0) F dX7_canTake_136 (by decide) ?_
                            refine z_istore F [(5, .int (zI 0)), (0, .ref 16), (1, .int (zI ((i : Nat)))), (2, .int (zI ((a : Nat)))), (3, .int (zI x)), (4, .int (zI (x + zLen t a))), (6, .int (zI v)), (7, .int (zI w)), (8, .int (zI u))] dX7_canTake_137 (by decide) rfl ?_
                            refine z_iinc F 6 [(6, .int (zI (v + 1))), (5, .int (zI 0)), (0, .ref 16), (1, .int (zI ((i : Nat)))), (2, .int (zI ((a : Nat)))), (3, .int (zI x)), (4, .int (zI (x + zLen t a))), (7, .int (zI w)), (8, .int (zI u))] dX7_canTake_139 rfl (by decide) rfl ?_
                            refine z_iinc F 8 [(8, .int (zI (u + 1))), (6, .int (zI (v + 1))), (5, .int (zI 0)), (0, .ref 16), (1, .int (zI ((i : Nat)))), (2, .int (zI ((a : Nat)))), (3, .int (zI x)), (4, .int (zI (x + zLen t a))), (7, .int (zI w))] dX7_canTake_142 rfl (by decide) rfl ?_
                            refine z_goto F 79 dX7_canTake_145 (by decide) ?_
                            refine z_lv [(0, .ref 16), (1, .int (zI ((i : Nat)))), (2, .int (zI ((a : Nat)))), (3, .int (zI x)), (4, .int (zI (x + zLen t a))), (5, .int (zI 0)), (6, .int (zI (v + 1))), (7, .int (zI w)), (8, .int (zI (u + 1)))] [3, 4, 5, 6, 7, 2, 1, 8, 0] rfl ?_
                            exact L2_ih (u + 1) (v + 1) 0 (by omega) (by omega) (by omega) (by omega) (by first | exact Or.inl rfl | exact Or.inr rfl) (by first | exact zLd_0 hyI (by omega) | exact zLd_r hyI (by omega) (by omega) | exact zLd_1 hyI (by omega) (by omega) (by omega) | exact zLd_2 (by omega) (by omega) (by omega) (by omega))
                          · skip
                            refine z_iconst (z := 1) F dX7_canTake_132 (by decide) ?_
                            refine z_goto F 137 dX7_canTake_133 (by decide) ?_
                            refine z_istore F [(5, .int (zI 1)), (0, .ref 16), (1, .int (zI ((i : Nat)))), (2, .int (zI ((a : Nat)))), (3, .int (zI x)), (4, .int (zI (x + zLen t a))), (6, .int (zI v)), (7, .int (zI w)), (8, .int (zI u))] dX7_canTake_137 (by decide) rfl ?_
                            refine z_iinc F 6 [(6, .int (zI (v + 1))), (5, .int (zI 1)), (0, .ref 16), (1, .int (zI ((i : Nat)))), (2, .int (zI ((a : Nat)))), (3, .int (zI x)), (4, .int (zI (x + zLen t a))), (7, .int (zI w)), (8, .int (zI u))] dX7_canTake_139 rfl (by decide) rfl ?_
                            refine z_iinc F 8 [(8, .int (zI (u + 1))), (6, .int (zI (v + 1))), (5, .int (zI 1)), (0, .ref 16), (1, .int (zI ((i : Nat)))), (2, .int (zI ((a : Nat)))), (3, .int (zI x)), (4, .int (zI (x + zLen t a))), (7, .int (zI w))] dX7_canTake_142 rfl (by decide) rfl ?_
                            refine z_goto F 79 dX7_canTake_145 (by decide) ?_
                            refine z_lv [(0, .ref 16), (1, .int (zI ((i : Nat)))), (2, .int (zI ((a : Nat)))), (3, .int (zI x)), (4, .int (zI (x + zLen t a))), (5, .int (zI 1)), (6, .int (zI (v + 1))), (7, .int (zI w)), (8, .int (zI (u + 1)))] [3, 4, 5, 6, 7, 2, 1, 8, 0] rfl ?_
                            exact L2_ih (u + 1) (v + 1) 1 (by omega) (by omega) (by omega) (by omega) (by first | exact Or.inl rfl | exact Or.inr rfl) (by first | exact zLd_0 hyI (by omega) | exact zLd_r hyI (by omega) (by omega) | exact zLd_1 hyI (by omega) (by omega) (by omega) | exact zLd_2 (by omega) (by omega) (by omega) (by omega))
                refine z_lv [(0, .ref 16), (1, .int (zI ((i : Nat)))), (2, .int (zI ((a : Nat)))), (3, .int (zI x)), (4, .int (zI (x + zLen t a))), (5, .int (zI y)), (6, .int (zI v)), (7, .int (zI w)), (8, .int (zI 0))] [1, 2, 3, 4, 5, 6, 7, 8, 0] rfl ?_
                exact L2 _ 0 v y (Nat.lt_succ_self _) (by omega) (by omega) (by omega) hy (hyI.trans ⟨fun h => ⟨h, Or.inr (fun m h1 h2 => by omega)⟩, fun h => h.1⟩)
        refine z_lv [(0, .ref 16), (1, .int (zI ((i : Nat)))), (2, .int (zI ((a : Nat)))), (3, .int (zI x)), (4, .int (zI (x + (zLen t a)))), (5, .int (zI 0)), (6, .int (zI x)), (7, .int (zI 0))] [4, 5, 6, 7, 3, 2, 1, 0] rfl ?_
        exact L1 _ 0 x 0 (Nat.lt_succ_self _) (by omega) (by omega) (show x = x + 0 by omega) (by first | exact Or.inl rfl | exact Or.inr rfl) (by first | exact ⟨fun _ => ⟨⟨hsk, by omega, by omega⟩, rfl⟩, fun _ => rfl⟩ | exact ⟨fun h => absurd h (by decide), fun h => absurd h.1.1 hsk⟩ | exact ⟨fun h => absurd h (by decide), fun h => absurd h.1.2.1 (by omega)⟩ | exact ⟨fun h => absurd h (by decide), fun h => absurd h.1.2.2 (by omega)⟩)
      · skip
        refine z_iconst (z := 1) F dX7_canTake_47 (by decide) ?_
        refine z_goto F 52 dX7_canTake_48 (by decide) ?_
        refine z_istore F [(5, .int (zI 1)), (4, .int (zI (x + (zLen t a)))), (0, .ref 16), (1, .int (zI ((i : Nat)))), (2, .int (zI ((a : Nat)))), (3, .int (zI x))] dX7_canTake_52 (by decide) rfl ?_
        refine z_iload_n F 5 dX7_canTake_54 rfl rfl ?_
        refine z_istore F [(6, .int (zI x)), (5, .int (zI 1)), (4, .int (zI (x + (zLen t a)))), (0, .ref 16), (1, .int (zI ((i : Nat)))), (2, .int (zI ((a : Nat)))), (3, .int (zI x))] dX7_canTake_55 (by decide) rfl ?_
        refine z_iconst (z := 0) F dX7_canTake_57 (by decide) ?_
        refine z_istore F [(7, .int (zI 0)), (6, .int (zI x)), (5, .int (zI 1)), (4, .int (zI (x + (zLen t a)))), (0, .ref 16), (1, .int (zI ((i : Nat)))), (2, .int (zI ((a : Nat)))), (3, .int (zI x))] dX7_canTake_58 (by decide) rfl ?_
        have L1 : ∀ (fuel : Nat) (w : Int) (v : Int) (y : Int), (t 5 a 0 - w).toNat < fuel → 0 ≤ w → w ≤ t 5 a 0 → v = x + zOff t a w.toNat → (y = 0 ∨ y = 1) → (y = 1 ↔ (zSk t i a = true ∧ t 2 i 0 ≤ x ∧ x + zLen t a ≤ t 3 i 0) ∧ zStp t i a x w.toNat = true) → zJ k G rX7_canTake 9 (zMQ k G rX7_canTake (zRi (fun xr M2 => xr = (if zCan t i a x = true then 1 else 0) ∧ M2 = (zAll s t o))) zN) (zAll s t o) 0 0 60 [(0, .ref 16), (1, .int (zI ((i : Nat)))), (2, .int (zI ((a : Nat)))), (3, .int (zI x)), (4, .int (zI (x + zLen t a))), (5, .int (zI y)), (6, .int (zI v)), (7, .int (zI w))] [] := by
          intro fuel
          induction fuel with
          | zero => intros; omega
          | succ fuel L1_ih =>
            intro w v y hfuel hw0 hw1 hv hy hyI
            refine z_iload F 7 dX7_canTake_60 rfl ?_
            refine z_aload_n F 0 dX7_canTake_62 rfl rfl ?_
            refine z_get F fl_X7_25 (zAll_16 s t o) rfl dX7_canTake_63 ?_
            refine z_iload_n F 2 dX7_canTake_66 rfl rfl ?_
            refine z_iald F (zAll_22 s t o) (by omega) (by omega) (by decide) dX7_canTake_67 ?_
            refine z_ti (y := t 5 a 0) (by rw [Int.toNat_natCast]) ?_
            refine z_icmp_ge F 154 dX7_canTake_68 (by decide) (by omega) (by omega) (fun c_24 => ?_) (fun c_24 => ?_)
            · skip
              have hke : w.toNat = zSc t a := by have := (hc.sc a).2; omega
              have hfin := zFin hy (hyI.trans (by rw [zCan_iff, hke] : _ ↔ zCan t i a x = true))
              refine z_iload F 5 dX7_canTake_154 rfl ?_
              exact z_retz F rfl hy (by first | decide | assumption | omega) (by first | decide | assumption | omega) dX7_canTake_156 ⟨_, rfl, hfin, rfl⟩
            · skip
              have ho1 := hc.off a w.toNat
              have ho2 := hc.offm a w.toNat 1
              have ho3 := hc.offl (a := a) (k := w.toNat + 1) (by have := (hc.sc a).2; omega)
              have ho4 : zOff t a (w.toNat + 1) = zOff t a w.toNat + t 7 a w.toNat := rfl
              have h7 := hc.2.2.2.2.2.2.1 a w.toNat
              have h6 := hc.2.2.2.2.2.1 a w.toNat
              refine z_iload F 5 dX7_canTake_71 rfl ?_
              refine z_if_eq F 154 dX7_canTake_73 (by decide) (by omega) (fun c_25 => ?_) (fun c_25 => ?_)
              · skip
                have hfin := zFin hy (⟨fun h => by omega, fun h => hyI.mpr ⟨(zCan_iff.mp h).1, zStp_mono (zSc t a - w.toNat) (by rw [show w.toNat + (zSc t a - w.toNat) = zSc t a by have := (hc.sc a).2; omega]; exact (zCan_iff.mp h).2)⟩⟩ : y = 1 ↔ zCan t i a x = true)
                refine z_iload F 5 dX7_canTake_154 rfl ?_
                exact z_retz F rfl hy (by first | decide | assumption | omega) (by first | decide | assumption | omega) dX7_canTake_156 ⟨_, rfl, hfin, rfl⟩
              · skip
                refine z_iconst (z := 0) F dX7_canTake_76 (by decide) ?_
                refine z_istore F [(8, .int (zI 0)), (0, .ref 16), (1, .int (zI ((i : Nat)))), (2, .int (zI ((a : Nat)))), (3, .int (zI x)), (4, .int (zI (x + zLen t a))), (5, .int (zI y)), (6, .int (zI v)), (7, .int (zI w))] dX7_canTake_77 (by decide) rfl ?_
                have L2 : ∀ (fuel : Nat) (u : Int) (v : Int) (y : Int), (t 7 a w.toNat - u).toNat < fuel → 0 ≤ u → u ≤ t 7 a w.toNat → v = x + zOff t a w.toNat + u → (y = 0 ∨ y = 1) → (y = 1 ↔ ((zSk t i a = true ∧ t 2 i 0 ≤ x ∧ x + zLen t a ≤ t 3 i 0) ∧ zStp t i a x w.toNat = true) ∧ (t 6 a w.toNat = -1 ∨ ∀ m : Nat, x + zOff t a w.toNat ≤ (m : Int) → (m : Int) < v → t 21 (i + 4) m = -1)) → zJ k G rX7_canTake 9 (zMQ k G rX7_canTake (zRi (fun xr M2 => xr = (if zCan t i a x = true then 1 else 0) ∧ M2 = (zAll s t o))) zN) (zAll s t o) 0 0 79 [(0, .ref 16), (1, .int (zI ((i : Nat)))), (2, .int (zI ((a : Nat)))), (3, .int (zI x)), (4, .int (zI (x + zLen t a))), (5, .int (zI y)), (6, .int (zI v)), (7, .int (zI w)), (8, .int (zI u))] [] := by
                  intro fuel
                  induction fuel with
                  | zero => intros; omega
                  | succ fuel L2_ih =>
                    intro u v y hfuel hu0 hu1 hv hy hyI
                    refine z_iload F 8 dX7_canTake_79 rfl ?_
                    refine z_aload_n F 0 dX7_canTake_81 rfl rfl ?_
                    refine z_get F fl_X7_22 (zAll_16 s t o) rfl dX7_canTake_82 ?_
                    refine z_iconst (z := 5) F dX7_canTake_85 (by decide) ?_
                    refine z_iload_n F 2 dX7_canTake_86 rfl rfl ?_
                    refine z_imul F dX7_canTake_87 ?_
                    refine z_iload F 7 dX7_canTake_88 rfl ?_
                    refine z_iadd F dX7_canTake_90 ?_
                    refine z_iald F (zAll_21 s t o) (by omega) (by omega) (by decide) dX7_canTake_91 ?_
                    refine z_ti (y := t 7 a w.toNat) (by rw [show (5 * ((a : Nat) : Int) + w).toNat / 5 = a by omega, show (5 * ((a : Nat) : Int) + w).toNat % 5 = w.toNat by omega]) ?_
                    refine z_icmp_ge F 148 dX7_canTake_92 (by decide) (by omega) (by omega) (fun c_26 => ?_) (fun c_26 => ?_)
                    · skip
                      have hve : v = x + zOff t a (w.toNat + 1) := by omega
                      rw [hve] at hyI
                      have hyo := zStp_up (i := i) (P := (zSk t i a = true ∧ t 2 i 0 ≤ x ∧ x + zLen t a ≤ t 3 i 0)) (by omega) (by omega) (fun h => by have := h.2.2; have := h3 i; omega) hyI
                      refine z_iinc F 7 [(7, .int (zI (w + 1))), (0, .ref 16), (1, .int (zI ((i : Nat)))), (2, .int (zI ((a : Nat)))), (3, .int (zI x)), (4, .int (zI (x + zLen t a))), (5, .int (zI y)), (6, .int (zI v)), (8, .int (zI u))] dX7_canTake_148 rfl (by decide) rfl ?_
                      refine z_goto F 60 dX7_canTake_151 (by decide) ?_
                      refine z_lv [(0, .ref 16), (1, .int (zI ((i : Nat)))), (2, .int (zI ((a : Nat)))), (3, .int (zI x)), (4, .int (zI (x + zLen t a))), (5, .int (zI y)), (6, .int (zI v)), (7, .int (zI (w + 1)))] [1, 2, 3, 4, 5, 6, 7, 0] rfl ?_
                      exact L1_ih (w + 1) v y (by omega) (by omega) (by omega) (by rw [show (w + 1).toNat = w.toNat + 1 by omega]; omega) hy (by rw [show (w + 1).toNat = w.toNat + 1 by omega]; exact hyo)
                    · skip
                      refine z_iload F 5 dX7_canTake_95 rfl ?_
                      refine z_if_eq F 136 dX7_canTake_97 (by decide) (by omega) (fun c_27 => ?_) (fun c_27 => ?_)
                      · skip
                        refine z_iconst (z := 0) F dX7_canTake_136 (by decide) ?_
                        refine z_istore F [(5, .int (zI 0)), (0, .ref 16), (1, .int (zI ((i : Nat)))), (2, .int (zI ((a : Nat)))), (3, .int (zI x)), (4, .int (zI (x + zLen t a))), (6, .int (zI v)), (7, .int (zI w)), (8, .int (zI u))] dX7_canTake_137 (by decide) rfl ?_
                        refine z_iinc F 6 [(6, .int (zI (v + 1))), (5, .int (zI 0)), (0, .ref 16), (1, .int (zI ((i : Nat)))), (2, .int (zI ((a : Nat)))), (3, .int (zI x)), (4, .int (zI (x + zLen t a))), (7, .int (zI w)), (8, .int (zI u))] dX7_canTake_139 rfl (by decide) rfl ?_
                        refine z_iinc F 8 [(8, .int (zI (u + 1))), (6, .int (zI (v + 1))), (5, .int (zI 0)), (0, .ref 16), (1, .int (zI ((i : Nat)))), (2, .int (zI ((a : Nat)))), (3, .int (zI x)), (4, .int (zI (x + zLen t a))), (7, .int (zI w))] dX7_canTake_142 rfl (by decide) rfl ?_
                        refine z_goto F 79 dX7_canTake_145 (by decide) ?_
                        refine z_lv [(0, .ref 16), (1, .int (zI ((i : Nat)))), (2, .int (zI ((a : Nat)))), (3, .int (zI x)), (4, .int (zI (x + zLen t a))), (5, .int (zI 0)), (6, .int (zI (v + 1))), (7, .int (zI w)), (8, .int (zI (u + 1)))] [3, 4, 5, 6, 7, 2, 1, 8, 0] rfl ?_
                        exact L2_ih (u + 1) (v + 1) 0 (by omega) (by omega) (by omega) (by omega) (by first | exact Or.inl rfl | exact Or.inr rfl) (by first | exact zLd_0 hyI (by omega) | exact zLd_r hyI (by omega) (by omega) | exact zLd_1 hyI (by omega) (by omega) (by omega) | exact zLd_2 (by omega) (by omega) (by omega) (by omega))
                      · skip
                        have hP9 := (hyI.mp (by omega)).1.1.2.2
                        have h39 := h3 i
                        have hb21 := hb9 21 (i + 4) v.toNat
                        refine z_aload_n F 0 dX7_canTake_100 rfl rfl ?_
                        refine z_get F fl_X7_19 (zAll_16 s t o) rfl dX7_canTake_101 ?_
                        refine z_iconst (z := 5) F dX7_canTake_104 (by decide) ?_
                        refine z_iload_n F 2 dX7_canTake_105 rfl rfl ?_
                        refine z_imul F dX7_canTake_106 ?_
                        refine z_iload F 7 dX7_canTake_107 rfl ?_
                        refine z_iadd F dX7_canTake_109 ?_
                        refine z_iald F (zAll_20 s t o) (by omega) (by omega) (by decide) dX7_canTake_110 ?_
                        refine z_ti (y := t 6 a w.toNat) (by rw [show (5 * ((a : Nat) : Int) + w).toNat / 5 = a by omega, show (5 * ((a : Nat) : Int) + w).toNat % 5 = w.toNat by omega]) ?_
                        refine z_iconst (z := -1) F dX7_canTake_111 (by decide) ?_
                        refine z_icmp_eq F 132 dX7_canTake_112 (by decide) (by omega) ⟨by decide, by decide⟩ (fun c_28 => ?_) (fun c_28 => ?_)
                        · skip
                          refine z_iconst (z := 1) F dX7_canTake_132 (by decide) ?_
                          refine z_goto F 137 dX7_canTake_133 (by decide) ?_
                          refine z_istore F [(5, .int (zI 1)), (0, .ref 16), (1, .int (zI ((i : Nat)))), (2, .int (zI ((a : Nat)))), (3, .int (zI x)), (4, .int (zI (x + zLen t a))), (6, .int (zI v)), (7, .int (zI w)), (8, .int (zI u))] dX7_canTake_137 (by decide) rfl ?_
                          refine z_iinc F 6 [(6, .int (zI (v + 1))), (5, .int (zI 1)), (0, .ref 16), (1, .int (zI ((i : Nat)))), (2, .int (zI ((a : Nat)))), (3, .int (zI x)), (4, .int (zI (x + zLen t a))), (7, .int (zI w)), (8, .int (zI u))] dX7_canTake_139 rfl (by decide) rfl ?_
                          refine z_iinc F 8 [(8, .int (zI (u + 1))), (6, .int (zI (v + 1))), (5, .int (zI 1)), (0, .ref 16), (1, .int (zI ((i : Nat)))), (2, .int (zI ((a : Nat)))), (3, .int (zI x)), (4, .int (zI (x + zLen t a))), (7, .int (zI w))] dX7_canTake_142 rfl (by decide) rfl ?_
                          refine z_goto F 79 dX7_canTake_145 (by decide) ?_
                          refine z_lv [(0, .ref 16), (1, .int (zI ((i : Nat)))), (2, .int (zI ((a : Nat)))), (3, .int (zI x)), (4, .int (zI (x + zLen t a))), (5, .int (zI 1)), (6, .int (zI (v + 1))), (7, .int (zI w)), (8, .int (zI (u + 1)))] [3, 4, 5, 6, 7, 2, 1, 8, 0] rfl ?_
                          exact L2_ih (u + 1) (v + 1) 1 (by omega) (by omega) (by omega) (by omega) (by first | exact Or.inl rfl | exact Or.inr rfl) (by first | exact zLd_0 hyI (by omega) | exact zLd_r hyI (by omega) (by omega) | exact zLd_1 hyI (by omega) (by omega) (by omega) | exact zLd_2 (by omega) (by omega) (by omega) (by omega))
                        · skip
                          refine z_aload_n F 0 dX7_canTake_115 rfl rfl ?_
                          refine z_get F fl_X7_44 (zAll_16 s t o) rfl dX7_canTake_116 ?_
                          refine z_sipush (z := 600) F dX7_canTake_119 (by decide) ?_
                          refine z_iload_n F 1 dX7_canTake_122 rfl rfl ?_
                          refine z_imul F dX7_canTake_123 ?_
                          refine z_iload F 6 dX7_canTake_124 rfl ?_
                          refine z_iadd F dX7_canTake_126 ?_
                          refine z_iald F (zAll_28 s t o) (by omega) (by omega) (by decide) dX7_canTake_127 ?_
                          refine z_ti (y := t 21 (i + 4) v.toNat) (by rw [show (600 * ((i : Nat) : Int) + v).toNat / 600 = i by omega, show (600 * ((i : Nat) : Int) + v).toNat % 600 = v.toNat by omega]) ?_
                          refine z_iconst (z := -1) F dX7_canTake_128 (by decide) ?_
                          refine z_icmp_ne F 136 dX7_canTake_129 (by decide) (by omega) ⟨by decide, by decide⟩ (fun c_29 => ?_) (fun c_29 => ?_)
                          · skip
                            refine z_iconst (z := 0) F dX7_canTake_136 (by decide) ?_
                            refine z_istore F [(5, .int (zI 0)), (0, .ref 16), (1, .int (zI ((i : Nat)))), (2, .int (zI ((a : Nat)))), (3, .int (zI x)), (4, .int (zI (x + zLen t a))), (6, .int (zI v)), (7, .int (zI w)), (8, .int (zI u))] dX7_canTake_137 (by decide) rfl ?_
                            refine z_iinc F 6 [(6, .int (zI (v + 1))), (5, .int (zI 0)), (0, .ref 16), (1, .int (zI ((i : Nat)))), (2, .int (zI ((a : Nat)))), (3, .int (zI x)), (4, .int (zI (x + zLen t a))), (7, .int (zI w)), (8, .int (zI u))] dX7_canTake_139 rfl (by decide) rfl ?_
                            refine z_iinc F 8 [(8, .int (zI (u + 1))), (6, .int (zI (v + 1))), (5, .int (zI 0)), (0, .ref 16), (1, .int (zI ((i : Nat)))), (2, .int (zI ((a : Nat)))), (3, .int (zI x)), (4, .int (zI (x + zLen t a))), (7, .int (zI w))] dX7_canTake_142 rfl (by decide) rfl ?_
                            refine z_goto F 79 dX7_canTake_145 (by decide) ?_
                            refine z_lv [(0, .ref 16), (1, .int (zI ((i : Nat)))), (2, .int (zI ((a : Nat)))), (3, .int (zI x)), (4, .int (zI (x + zLen t a))), (5, .int (zI 0)), (6, .int (zI (v + 1))), (7, .int (zI w)), (8, .int (zI (u + 1)))] [3, 4, 5, 6, 7, 2, 1, 8, 0] rfl ?_
                            exact L2_ih (u + 1) (v + 1) 0 (by omega) (by omega) (by omega) (by omega) (by first | exact Or.inl rfl | exact Or.inr rfl) (by first | exact zLd_0 hyI (by omega) | exact zLd_r hyI (by omega) (by omega) | exact zLd_1 hyI (by omega) (by omega) (by omega) | exact zLd_2 (by omega) (by omega) (by omega) (by omega))
                          · skip
                            refine z_iconst (z := 1) F dX7_canTake_132 (by decide) ?_
                            refine z_goto F 137 dX7_canTake_133 (by decide) ?_
                            refine z_istore F [(5, .int (zI 1)), (0, .ref 16), (1, .int (zI ((i : Nat)))), (2, .int (zI ((a : Nat)))), (3, .int (zI x)), (4, .int (zI (x + zLen t a))), (6, .int (zI v)), (7, .int (zI w)), (8, .int (zI u))] dX7_canTake_137 (by decide) rfl ?_
                            refine z_iinc F 6 [(6, .int (zI (v + 1))), (5, .int (zI 1)), (0, .ref 16), (1, .int (zI ((i : Nat)))), (2, .int (zI ((a : Nat)))), (3, .int (zI x)), (4, .int (zI (x + zLen t a))), (7, .int (zI w)), (8, .int (zI u))] dX7_canTake_139 rfl (by decide) rfl ?_
                            refine z_iinc F 8 [(8, .int (zI (u + 1))), (6, .int (zI (v + 1))), (5, .int (zI 1)), (0, .ref 16), (1, .int (zI ((i : Nat)))), (2, .int (zI ((a : Nat)))), (3, .int (zI x)), (4, .int (zI (x + zLen t a))), (7, .int (zI w))] dX7_canTake_142 rfl (by decide) rfl ?_
                            refine z_goto F 79 dX7_canTake_145 (by decide) ?_
                            refine z_lv [(0, .ref 16), (1, .int (zI ((i : Nat)))), (2, .int (zI ((a : Nat)))), (3, .int (zI x)), (4, .int (zI (x + zLen t a))), (5, .int (zI 1)), (6, .int (zI (v + 1))), (7, .int (zI w)), (8, .int (zI (u + 1)))] [3, 4, 5, 6, 7, 2, 1, 8, 0] rfl ?_
                            exact L2_ih (u + 1) (v + 1) 1 (by omega) (by omega) (by omega) (by omega) (by first | exact Or.inl rfl | exact Or.inr rfl) (by first | exact zLd_0 hyI (by omega) | exact zLd_r hyI (by omega) (by omega) | exact zLd_1 hyI (by omega) (by omega) (by omega) | exact zLd_2 (by omega) (by omega) (by omega) (by omega))
                refine z_lv [(0, .ref 16), (1, .int (zI ((i : Nat)))), (2, .int (zI ((a : Nat)))), (3, .int (zI x)), (4, .int (zI (x + zLen t a))), (5, .int (zI y)), (6, .int (zI v)), (7, .int (zI w)), (8, .int (zI 0))] [1, 2, 3, 4, 5, 6, 7, 8, 0] rfl ?_
                exact L2 _ 0 v y (Nat.lt_succ_self _) (by omega) (by omega) (by omega) hy (hyI.trans ⟨fun h => ⟨h, Or.inr (fun m h1 h2 => by omega)⟩, fun h => h.1⟩)
        refine z_lv [(0, .ref 16), (1, .int (zI ((i : Nat)))), (2, .int (zI ((a : Nat)))), (3, .int (zI x)), (4, .int (zI (x + (zLen t a)))), (5, .int (zI 1)), (6, .int (zI x)), (7, .int (zI 0))] [4, 5, 6, 7, 3, 2, 1, 0] rfl ?_
        exact L1 _ 0 x 1 (Nat.lt_succ_self _) (by omega) (by omega) (show x = x + 0 by omega) (by first | exact Or.inl rfl | exact Or.inr rfl) (by first | exact ⟨fun _ => ⟨⟨hsk, by omega, by omega⟩, rfl⟩, fun _ => rfl⟩ | exact ⟨fun h => absurd h (by decide), fun h => absurd h.1.1 hsk⟩ | exact ⟨fun h => absurd h (by decide), fun h => absurd h.1.2.1 (by omega)⟩ | exact ⟨fun h => absurd h (by decide), fun h => absurd h.1.2.2 (by omega)⟩)

