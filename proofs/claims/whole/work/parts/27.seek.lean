/-! ===== the model: searches ===== -/
theorem zLc_0 {f : Nat → Int} {x w y : Int} (hI : y = 1 ↔ ∀ m : Nat, x ≤ (m : Int) → (m : Int) < w → f m = -1) (h : y = 0) : ((0 : Int) = 1 ↔ ∀ m : Nat, x ≤ (m : Int) → (m : Int) < w + 1 → f m = -1) :=
  ⟨fun h9 => absurd h9 (by decide), fun h9 => by have := hI.mpr (fun m h1 h2 => h9 m h1 (by omega)); omega⟩
theorem zLc_1 {f : Nat → Int} {x w y : Int} (hI : y = 1 ↔ ∀ m : Nat, x ≤ (m : Int) → (m : Int) < w → f m = -1) (h : y = 1) (hw : 0 ≤ w) (hv : f w.toNat = -1) : ((1 : Int) = 1 ↔ ∀ m : Nat, x ≤ (m : Int) → (m : Int) < w + 1 → f m = -1) :=
  ⟨fun _ m h1 h2 => by
    rcases (show (m : Int) < w ∨ m = w.toNat by omega) with h3 | h3
    · exact hI.mp h m h1 h3
    · rw [h3]; exact hv, fun _ => rfl⟩
theorem zLc_2 {f : Nat → Int} {x w : Int} (hx : 0 ≤ x) (hw : x ≤ w) (hv : ¬ f w.toNat = -1) : ((0 : Int) = 1 ↔ ∀ m : Nat, x ≤ (m : Int) → (m : Int) < w + 1 → f m = -1) :=
  ⟨fun h9 => absurd h9 (by decide), fun h9 => absurd (h9 w.toNat (by omega) (by omega)) hv⟩
abbrev rX7_chairFor : Room := { frames := 1, cells := 0, slots := 0, locals := 23 }
set_option maxRecDepth 100000 in
set_option maxHeartbeats 4000000 in
theorem c_X7_chairFor {l : Launch} (hfl : l.stackTraces = false) (G : zG) {s t : zS} {o : zOx} (hc : zC1 t) (hb9 : zB t) {a : Nat} {x : Int} (ha : a < 8) (hx : 0 ≤ x ∧ x ≤ 600)  : zCn l G yX7_chairFor (.code yX7_chairFor cX7_chairFor 7 (some .int)) rX7_chairFor [.ref 16, .int (zI ((a : Nat))), .int (zI x)] (zAll s t o) (zRi (fun xr M2 => xr = zChair t a x ∧ M2 = (zAll s t o))) zN := by
  refine zStart hfl (by decide) (own := RX7) rfl [(0, .ref 16), (1, .int (zI ((a : Nat)))), (2, .int (zI x))] (Nat.le_of_ble_eq_true rfl) rfl (fun k hkl hinit hk0 F => ?_)
  have hn0 := hc.1
  have hn4 := hc.2.1
  have hn9 := hc.2.2.1
  have hn14 := hc.2.2.2.1
  have hn18 := hc.2.2.2.2.1
  have hln := hc.len a
  refine z_iload_n F 2 dX7_chairFor_0 rfl rfl ?_
  refine z_aload_n F 0 dX7_chairFor_1 rfl rfl ?_
  refine z_iload_n F 1 dX7_chairFor_2 rfl rfl ?_
  refine z_callV F [.int (zI ((a : Nat)))] [.int (zI x)] (c_X7_length F.2.2.1 G (s := s) (t := t) (o := o) hc hb9 (a := a) ha) cv_X7_87 (zAll_16 s t o) rfl rfl rfl ⟨by decide, by decide⟩ ⟨by decide, by decide⟩ (Nat.le_of_ble_eq_true rfl) dX7_chairFor_3 z_nx (z_ki (fun x_1 M_1 h_1 => ?_))
  have hx9 := (h_1).1.symm
  have hm9 := (h_1).2.symm
  subst hx9
  subst hm9
  refine z_iadd F dX7_chairFor_6 ?_
  refine z_istore_n F [(3, .int (zI (x + (zLen t a)))), (0, .ref 16), (1, .int (zI ((a : Nat)))), (2, .int (zI x))] dX7_chairFor_7 rfl (by decide) rfl ?_
  refine z_iload_n F 0 dX7_chairFor_8 rfl rfl ?_
  refine z_sipush (z := 600) F dX7_chairFor_9 (by decide) ?_
  refine z_icmp_le F 17 dX7_chairFor_12 (by decide) (by omega) ⟨by decide, by decide⟩ (fun c_2 => ?_) (fun c_2 => ?_)
  · skip
    refine z_iconst (z := 0) F dX7_chairFor_17 (by decide) ?_
    refine z_istore F [(4, .int (zI 0)), (3, .int (zI (x + (zLen t a)))), (0, .ref 16), (1, .int (zI ((a : Nat)))), (2, .int (zI x))] dX7_chairFor_18 (by decide) rfl ?_
    have L1 : ∀ (fuel : Nat) (q : Int), (4 - q).toNat < fuel → 0 ≤ q → q ≤ 4 → (∀ d : Nat, (d : Int) < q → ¬ zFr t d x (x + zLen t a)) → zJ k G rX7_chairFor 7 (zMQ k G rX7_chairFor (zRi (fun xr M2 => xr = zChair t a x ∧ M2 = (zAll s t o))) zN) (zAll s t o) 0 0 20 [(0, .ref 16), (1, .int (zI ((a : Nat)))), (2, .int (zI x)), (3, .int (zI (x + zLen t a))), (4, .int (zI q))] [] := by
      intro fuel
      induction fuel with
      | zero => intros; omega
      | succ fuel L1_ih =>
        intro q hfuel hq0 hq1 hno
        refine z_iload F 4 dX7_chairFor_20 rfl ?_
        refine z_iconst (z := 4) F dX7_chairFor_22 (by decide) ?_
        refine z_icmp_ge F 88 dX7_chairFor_23 (by decide) (by omega) ⟨by decide, by decide⟩ (fun c_3 => ?_) (fun c_3 => ?_)
        · skip
          refine z_iconst (z := -1) F dX7_chairFor_88 (by decide) ?_
          exact z_reti F rfl (by first | decide | assumption | omega) (by first | decide | assumption | omega) dX7_chairFor_89 ⟨_, rfl, (zChair_no (fun d hd => hno d (by omega))).symm, rfl⟩
        · skip
          refine z_iconst (z := 1) F dX7_chairFor_26 (by decide) ?_
          refine z_istore F [(5, .int (zI 1)), (0, .ref 16), (1, .int (zI ((a : Nat)))), (2, .int (zI x)), (3, .int (zI (x + zLen t a))), (4, .int (zI q))] dX7_chairFor_27 (by decide) rfl ?_
          refine z_iload_n F 3 dX7_chairFor_29 rfl rfl ?_
          refine z_istore F [(6, .int (zI x)), (5, .int (zI 1)), (0, .ref 16), (1, .int (zI ((a : Nat)))), (2, .int (zI x)), (3, .int (zI (x + zLen t a))), (4, .int (zI q))] dX7_chairFor_30 (by decide) rfl ?_
          have L2 : ∀ (fuel : Nat) (w : Int) (y : Int), (x + zLen t a - w).toNat < fuel → x ≤ w → w ≤ x + zLen t a → (y = 0 ∨ y = 1) → (y = 1 ↔ ∀ m : Nat, x ≤ (m : Int) → (m : Int) < w → t 21 q.toNat m = -1) → zJ k G rX7_chairFor 7 (zMQ k G rX7_chairFor (zRi (fun xr M2 => xr = zChair t a x ∧ M2 = (zAll s t o))) zN) (zAll s t o) 0 0 32 [(0, .ref 16), (1, .int (zI ((a : Nat)))), (2, .int (zI x)), (3, .int (zI (x + zLen t a))), (4, .int (zI q)), (5, .int (zI y)), (6, .int (zI w))] [] := by
            intro fuel
            induction fuel with
            | zero => intros; omega
            | succ fuel L2_ih =>
              intro w y hfuel hw0 hw1 hy hyI
              refine z_iload F 6 dX7_chairFor_32 rfl ?_
              refine z_iload_n F 3 dX7_chairFor_34 rfl rfl ?_
              refine z_icmp_ge F 74 dX7_chairFor_35 (by decide) (by omega) (by omega) (fun c_4 => ?_) (fun c_4 => ?_)
              · skip
                have hfi : y = 1 ↔ zFr t q.toNat x (x + zLen t a) := by
                  rw [zFr_iff (by omega) (by omega) (by omega), hyI, show w = x + zLen t a by omega]
                refine z_iload F 5 dX7_chairFor_74 rfl ?_
                refine z_if_eq F 82 dX7_chairFor_76 (by decide) (by omega) (fun c_5 => ?_) (fun c_5 => ?_)
                · skip
                  have hfn : ¬ zFr t q.toNat x (x + zLen t a) := fun h => by have := hfi.mpr h; omega
                  refine z_iinc F 4 [(4, .int (zI (q + 1))), (0, .ref 16), (1, .int (zI ((a : Nat)))), (2, .int (zI x)), (3, .int (zI (x + zLen t a))), (5, .int (zI y)), (6, .int (zI w))] dX7_chairFor_82 rfl (by decide) rfl ?_
                  refine z_goto F 20 dX7_chairFor_85 (by decide) ?_
                  refine z_lv [(0, .ref 16), (1, .int (zI ((a : Nat)))), (2, .int (zI x)), (3, .int (zI (x + zLen t a))), (4, .int (zI (q + 1)))] [1, 2, 3, 4, 0] rfl ?_
                  exact L1_ih (q + 1) (by omega) (by omega) (by omega) (fun d h => by rcases (show (d : Int) < q ∨ d = q.toNat by omega) with h1 | h1; exact hno d h1; rw [h1]; exact hfn)
                · skip
                  have hfp : zFr t q.toNat x (x + zLen t a) := hfi.mp (by omega)
                  refine z_iload F 4 dX7_chairFor_79 rfl ?_
                  exact z_reti F rfl (by first | decide | assumption | omega) (by first | decide | assumption | omega) dX7_chairFor_81 ⟨_, rfl, by rw [zChair_of (c := q.toNat) (by omega) (fun d hd => hno d (by omega)) hfp]; omega, rfl⟩
              · skip
                have hb21 := hb9 21 q.toNat w.toNat
                refine z_iload F 5 dX7_chairFor_38 rfl ?_
                refine z_if_eq F 65 dX7_chairFor_40 (by decide) (by omega) (fun c_6 => ?_) (fun c_6 => ?_)
                · skip
                  refine z_iconst (z := 0) F dX7_chairFor_65 (by decide) ?_
                  refine z_istore F [(5, .int (zI 0)), (0, .ref 16), (1, .int (zI ((a : Nat)))), (2, .int (zI x)), (3, .int (zI (x + zLen t a))), (4, .int (zI q)), (6, .int (zI w))] dX7_chairFor_66 (by decide) rfl ?_
                  refine z_iinc F 6 [(6, .int (zI (w + 1))), (5, .int (zI 0)), (0, .ref 16), (1, .int (zI ((a : Nat)))), (2, .int (zI x)), (3, .int (zI (x + zLen t a))), (4, .int (zI q))] dX7_chairFor_68 rfl (by decide) rfl ?_
                  refine z_goto F 32 dX7_chairFor_71 (by decide) ?_
                  refine z_lv [(0, .ref 16), (1, .int (zI ((a : Nat)))), (2, .int (zI x)), (3, .int (zI (x + zLen t a))), (4, .int (zI q)), (5, .int (zI 0)), (6, .int (zI (w + 1)))] [2, 3, 4, 5, 6, 1, 0] rfl ?_
                  exact L2_ih (w + 1) 0 (by omega) (by omega) (by omega) (by first | exact Or.inl rfl | exact Or.inr rfl) (by first | exact zLc_0 (f := t 21 q.toNat) hyI (by omega) | exact zLc_1 (f := t 21 q.toNat) hyI (by omega) (by omega) (by omega) | exact zLc_2 (f := t 21 q.toNat) (by omega) (by omega) (by omega))
                · skip
                  refine z_aload_n F 0 dX7_chairFor_43 rfl rfl ?_
                  refine z_get F fl_X7_47 (zAll_16 s t o) rfl dX7_chairFor_44 ?_
                  refine z_sipush (z := 600) F dX7_chairFor_47 (by decide) ?_
                  refine z_iload F 4 dX7_chairFor_50 rfl ?_
                  refine z_imul F dX7_chairFor_52 ?_
                  refine z_iload F 6 dX7_chairFor_53 rfl ?_
                  refine z_iadd F dX7_chairFor_55 ?_
                  refine z_iald F (zAll_29 s t o) (by omega) (by omega) (by decide) dX7_chairFor_56 ?_
                  refine z_ti (y := t 21 q.toNat w.toNat) (by rw [show (600 * q + w).toNat / 600 = q.toNat by omega, show (600 * q + w).toNat % 600 = w.toNat by omega]) ?_
                  refine z_iconst (z := -1) F dX7_chairFor_57 (by decide) ?_
                  refine z_icmp_ne F 65 dX7_chairFor_58 (by decide) (by omega) ⟨by decide, by decide⟩ (fun c_7 => ?_) (fun c_7 => ?_)
                  · skip
                    refine z_iconst (z := 0) F dX7_chairFor_65 (by decide) ?_
                    refine z_istore F [(5, .int (zI 0)), (0, .ref 16), (1, .int (zI ((a : Nat)))), (2, .int (zI x)), (3, .int (zI (x + zLen t a))), (4, .int (zI q)), (6, .int (zI w))] dX7_chairFor_66 (by decide) rfl ?_
                    refine z_iinc F 6 [(6, .int (zI (w + 1))), (5, .int (zI 0)), (0, .ref 16), (1, .int (zI ((a : Nat)))), (2, .int (zI x)), (3, .int (zI (x + zLen t a))), (4, .int (zI q))] dX7_chairFor_68 rfl (by decide) rfl ?_
                    refine z_goto F 32 dX7_chairFor_71 (by decide) ?_
                    refine z_lv [(0, .ref 16), (1, .int (zI ((a : Nat)))), (2, .int (zI x)), (3, .int (zI (x + zLen t a))), (4, .int (zI q)), (5, .int (zI 0)), (6, .int (zI (w + 1)))] [2, 3, 4, 5, 6, 1, 0] rfl ?_
                    exact L2_ih (w + 1) 0 (by omega) (by omega) (by omega) (by first | exact Or.inl rfl | exact Or.inr rfl) (by first | exact zLc_0 (f := t 21 q.toNat) hyI (by omega) | exact zLc_1 (f := t 21 q.toNat) hyI (by omega) (by omega) (by omega) | exact zLc_2 (f := t 21 q.toNat) (by omega) (by omega) (by omega))
                  · skip
                    refine z_iconst (z := 1) F dX7_chairFor_61 (by decide) ?_
                    refine z_goto F 66 dX7_chairFor_62 (by decide) ?_
                    refine z_istore F [(5, .int (zI 1)), (0, .ref 16), (1, .int (zI ((a : Nat)))), (2, .int (zI x)), (3, .int (zI (x + zLen t a))), (4, .int (zI q)), (6, .int (zI w))] dX7_chairFor_66 (by decide) rfl ?_
                    refine z_iinc F 6 [(6, .int (zI (w + 1))), (5, .int (zI 1)), (0, .ref 16), (1, .int (zI ((a : Nat)))), (2, .int (zI x)), (3, .int (zI (x + zLen t a))), (4, .int (zI q))] dX7_chairFor_68 rfl (by decide) rfl ?_
                    refine z_goto F 32 dX7_chairFor_71 (by decide) ?_
                    refine z_lv [(0, .ref 16), (1, .int (zI ((a : Nat)))), (2, .int (zI x)), (3, .int (zI (x + zLen t a))), (4, .int (zI q)), (5, .int (zI 1)), (6, .int (zI (w + 1)))] [2, 3, 4, 5, 6, 1, 0] rfl ?_
                    exact L2_ih (w + 1) 1 (by omega) (by omega) (by omega) (by first | exact Or.inl rfl | exact Or.inr rfl) (by first | exact zLc_0 (f := t 21 q.toNat) hyI (by omega) | exact zLc_1 (f := t 21 q.toNat) hyI (by omega) (by omega) (by omega) | exact zLc_2 (f := t 21 q.toNat) (by omega) (by omega) (by omega))
          refine z_lv [(0, .ref 16), (1, .int (zI ((a : Nat)))), (2, .int (zI x)), (3, .int (zI (x + zLen t a))), (4, .int (zI q)), (5, .int (zI 1)), (6, .int (zI x))] [2, 3, 4, 5, 6, 1, 0] rfl ?_
          exact L2 _ x 1 (Nat.lt_succ_self _) (by omega) (by omega) (Or.inr rfl) ⟨fun _ m h1 h2 => by omega, fun _ => rfl⟩
    refine z_lv [(0, .ref 16), (1, .int (zI ((a : Nat)))), (2, .int (zI x)), (3, .int (zI (x + (zLen t a)))), (4, .int (zI 0))] [2, 3, 4, 1, 0] rfl ?_
    exact L1 _ 0 (Nat.lt_succ_self _) (by omega) (by omega) (fun d h => by omega)
  · skip
    refine z_iconst (z := -1) F dX7_chairFor_15 (by decide) ?_
    exact z_reti F rfl (by first | decide | assumption | omega) (by first | decide | assumption | omega) dX7_chairFor_16 ⟨_, rfl, (zChair_no (fun d hd h => by have := h.2.2.1; omega)).symm, rfl⟩

