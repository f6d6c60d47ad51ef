/-! ===== the law: one change, and what must hold of it ===== -/
theorem zSw_pos : ∀ (n : Nat) (c : zS) (p : Nat) (m : Int), m ≤ (zSw n c p m).2
  | 0, c, p, m => Int.le_refl m
  | n + 1, c, p, m => by
    rw [zSw]
    split
    · exact zSw_pos n c (p + 1) m
    · have h := zSw_pos n (zSwB c p) p (m + 1)
      omega
set_option maxRecDepth 100000 in
set_option maxHeartbeats 4000000 in
theorem c_L_does {l : Launch} (hfl : l.stackTraces = false) (G : zG) {s t : zS} {o : zOx} (hI : zInv s) (hob : ∀ m, o.2 m = 0 ∨ o.2 m = 1) (h4 : s 4 0 0 = 5) (hG : ∀ b : Nat, b < 5 → zGd s b) (h18 : s 18 0 0 < 1000) {v w : Int} (hv : 0 ≤ v ∧ v < 2147483648) (hw : 0 ≤ w ∧ w < 2147483648)  : zCn l G yL_does (.code yL_does cL_does 12 (some .boolean)) rL_does [.ref 0, .int (zI v), .int (zI w)] (zAll s t o) (zRi (fun xr M2 => xr = 1 ∧ ∃ (N : zS) (ox : zOx), M2 = zAll N t ox ∧ zNx s N ∧ ∀ m, ox.2 m = 0 ∨ ox.2 m = 1)) zN := by
  refine zStart hfl (by decide) (own := RL) rfl [(0, .ref 0), (1, .int (zI v)), (2, .int (zI w))] (Nat.le_of_ble_eq_true rfl) rfl (fun k hkl hinit hk0 F => ?_)
  have hn9 := hI.c.2.2.1
  refine z_iload_n F 2 dL_does_0 rfl rfl ?_
  refine z_iconst (z := 5) F dL_does_1 (by decide) ?_
  refine z_irem F (w % 5) ⟨by decide, by decide⟩ (by decide) (zI_rem (by omega) (by omega) (by decide) (by decide)) dL_does_2 ?_
  refine z_istore_n F [(3, .int (zI (w % 5))), (0, .ref 0), (1, .int (zI v)), (2, .int (zI w))] dL_does_3 rfl (by decide) rfl ?_
  refine z_iload_n F 3 dL_does_4 rfl rfl ?_
  refine z_iconst (z := 5) F dL_does_5 (by decide) ?_
  refine z_idiv F (w / 5) ⟨by decide, by decide⟩ (by decide) (zI_div (by omega) (by omega) (by decide) (by decide)) dL_does_6 ?_
  refine z_sipush (z := 400) F dL_does_7 (by decide) ?_
  refine z_irem F ((w / 5) % 400) ⟨by decide, by decide⟩ (by decide) (zI_rem (by omega) (by omega) (by decide) (by decide)) dL_does_10 ?_
  refine z_istore F [(4, .int (zI ((w / 5) % 400))), (3, .int (zI (w % 5))), (0, .ref 0), (1, .int (zI v)), (2, .int (zI w))] dL_does_11 (by decide) rfl ?_
  refine z_aload_n F 2 dL_does_13 rfl rfl ?_
  refine z_callV F [] [] (c_X6_visits F.2.2.1 G (s := s) (t := t) (o := o) hI.c hI.b) cv_L_25 (zAll_0 s t o) rfl rfl rfl ⟨by decide, by decide⟩ ⟨by decide, by decide⟩ (Nat.le_of_ble_eq_true rfl) dL_does_14 z_nx (z_ki (fun x_1 M_1 h_1 => ?_))
  have hx9 := (h_1).1.symm
  have hm9 := (h_1).2.symm
  subst hx9
  subst hm9
  refine z_if_ne F 24 dL_does_17 (by decide) (by omega) (fun c_2 => ?_) (fun c_2 => ?_)
  · skip
    have hz : ¬ s 9 0 0 = 0 := c_2
    refine z_iload_n F 3 dL_does_24 rfl rfl ?_
    refine z_bipush (z := 8) F dL_does_25 (by decide) ?_
    refine z_idiv F (v / 8) ⟨by decide, by decide⟩ (by decide) (zI_div (by omega) (by omega) (by decide) (by decide)) dL_does_27 ?_
    refine z_aload_n F 2 dL_does_28 rfl rfl ?_
    refine z_callV F [] [.int (zI (v / 8))] (c_X6_visits F.2.2.1 G (s := s) (t := t) (o := o) hI.c hI.b) cv_L_25 (zAll_0 s t o) rfl rfl rfl ⟨by decide, by decide⟩ ⟨by decide, by decide⟩ (Nat.le_of_ble_eq_true rfl) dL_does_29 z_nx (z_ki (fun x_3 M_3 h_3 => ?_))
    have hx9 := (h_3).1.symm
    have hm9 := (h_3).2.symm
    subst hx9
    subst hm9
    obtain ⟨b, hbq⟩ : ∃ b, v / 8 % s 9 0 0 = b := ⟨_, rfl⟩
    have hm0 := Int.emod_nonneg (v / 8) (show s 9 0 0 ≠ 0 by omega)
    have hm1 := Int.emod_lt_of_pos (v / 8) (show 0 < s 9 0 0 by omega)
    rw [hbq] at hm0 hm1
    refine z_irem F b (by omega) (by omega) ((zI_rem (by omega) (by omega) (by omega) (by omega)).trans (congrArg zI hbq)) dL_does_32 ?_
    refine z_istore F [(5, .int (zI b)), (4, .int (zI ((w / 5) % 400))), (3, .int (zI (w % 5))), (0, .ref 0), (1, .int (zI v)), (2, .int (zI w))] dL_does_33 (by decide) rfl ?_
    refine z_aload_n F 3 dL_does_35 rfl rfl ?_
    refine z_callV F [] [] (c_X6_visits F.2.2.1 G (s := s) (t := t) (o := o) hI.c hI.b) cv_L_25 (zAll_0 s t o) rfl rfl rfl ⟨by decide, by decide⟩ ⟨by decide, by decide⟩ (Nat.le_of_ble_eq_true rfl) dL_does_36 z_nx (z_ki (fun x_4 M_4 h_4 => ?_))
    have hx9 := (h_4).1.symm
    have hm9 := (h_4).2.symm
    subst hx9
    subst hm9
    refine z_if_le F 55 dL_does_39 (by decide) (by omega) (fun c_5 => ?_) (fun c_5 => ?_)
    · skip
      refine z_iconst (z := 0) F dL_does_55 (by decide) ?_
      refine z_istore F [(6, .int (zI 0)), (5, .int (zI b)), (4, .int (zI ((w / 5) % 400))), (3, .int (zI (w % 5))), (0, .ref 0), (1, .int (zI v)), (2, .int (zI w))] dL_does_56 (by decide) rfl ?_
      refine z_lv [(0, .ref 0), (1, .int (zI v)), (2, .int (zI w)), (3, .int (zI (w % 5))), (4, .int (zI (w / 5 % 400))), (5, .int (zI b)), (6, .int (zI 0))] [4, 5, 6, 3, 2, 1, 0] rfl ?_
      refine z_wd 1 6 (by decide) (by decide) ?_
      exact does_58 F hI hob h4 hG h18 hv (by omega) (by omega) (b := b) (th := 0) (by omega) (Or.inl rfl)
    · skip
      refine z_aload_n F 3 dL_does_42 rfl rfl ?_
      refine z_iload F 0 dL_does_43 rfl ?_
      refine z_callV F [.int (zI b)] [] (q_startOf F.2.2.1 G (s := s) (t := t) (o := o) hI (a := b) ⟨by omega, by omega⟩) cv_L_29 (zAll_0 s t o) rfl rfl rfl ⟨by decide, by decide⟩ ⟨by decide, by decide⟩ (Nat.le_of_ble_eq_true rfl) dL_does_45 z_nx (z_ki (fun x_6 M_6 h_6 => ?_))
      have hx9 := (h_6).1.symm
      have hm9 := (h_6).2.symm
      subst hx9
      subst hm9
      have hb13 := hI.b 13 b.toNat 0
      refine z_if_lt F 55 dL_does_48 (by decide) (by omega) (fun c_7 => ?_) (fun c_7 => ?_)
      · skip
        refine z_iconst (z := 0) F dL_does_55 (by decide) ?_
        refine z_istore F [(6, .int (zI 0)), (5, .int (zI b)), (4, .int (zI ((w / 5) % 400))), (3, .int (zI (w % 5))), (0, .ref 0), (1, .int (zI v)), (2, .int (zI w))] dL_does_56 (by decide) rfl ?_
        refine z_lv [(0, .ref 0), (1, .int (zI v)), (2, .int (zI w)), (3, .int (zI (w % 5))), (4, .int (zI (w / 5 % 400))), (5, .int (zI b)), (6, .int (zI 0))] [4, 5, 6, 3, 2, 1, 0] rfl ?_
        refine z_wd 1 6 (by decide) (by decide) ?_
        exact does_58 F hI hob h4 hG h18 hv (by omega) (by omega) (b := b) (th := 0) (by omega) (Or.inl rfl)
      · skip
        refine z_iconst (z := 1) F dL_does_51 (by decide) ?_
        refine z_goto F 56 dL_does_52 (by decide) ?_
        refine z_istore F [(6, .int (zI 1)), (5, .int (zI b)), (4, .int (zI ((w / 5) % 400))), (3, .int (zI (w % 5))), (0, .ref 0), (1, .int (zI v)), (2, .int (zI w))] dL_does_56 (by decide) rfl ?_
        refine z_lv [(0, .ref 0), (1, .int (zI v)), (2, .int (zI w)), (3, .int (zI (w % 5))), (4, .int (zI (w / 5 % 400))), (5, .int (zI b)), (6, .int (zI 1))] [4, 5, 6, 3, 2, 1, 0] rfl ?_
        refine z_wd 1 6 (by decide) (by decide) ?_
        exact does_58 F hI hob h4 hG h18 hv (by omega) (by omega) (b := b) (th := 1) (by omega) (Or.inr ⟨rfl, by omega, by omega⟩)
  · skip
    have hz : s 9 0 0 = 0 := by omega
    refine z_iconst (z := 0) F dL_does_20 (by decide) ?_
    refine z_goto F 33 dL_does_21 (by decide) ?_
    refine z_istore F [(5, .int (zI 0)), (4, .int (zI ((w / 5) % 400))), (3, .int (zI (w % 5))), (0, .ref 0), (1, .int (zI v)), (2, .int (zI w))] dL_does_33 (by decide) rfl ?_
    refine z_aload_n F 3 dL_does_35 rfl rfl ?_
    refine z_callV F [] [] (c_X6_visits F.2.2.1 G (s := s) (t := t) (o := o) hI.c hI.b) cv_L_25 (zAll_0 s t o) rfl rfl rfl ⟨by decide, by decide⟩ ⟨by decide, by decide⟩ (Nat.le_of_ble_eq_true rfl) dL_does_36 z_nx (z_ki (fun x_8 M_8 h_8 => ?_))
    have hx9 := (h_8).1.symm
    have hm9 := (h_8).2.symm
    subst hx9
    subst hm9
    refine z_if_le F 55 dL_does_39 (by decide) (by omega) (fun c_9 => ?_) (fun c_9 => ?_)
    · skip
      refine z_iconst (z := 0) F dL_does_55 (by decide) ?_
      refine z_istore F [(6, .int (zI 0)), (5, .int (zI 0)), (4, .int (zI ((w / 5) % 400))), (3, .int (zI (w % 5))), (0, .ref 0), (1, .int (zI v)), (2, .int (zI w))] dL_does_56 (by decide) rfl ?_
      refine z_lv [(0, .ref 0), (1, .int (zI v)), (2, .int (zI w)), (3, .int (zI (w % 5))), (4, .int (zI (w / 5 % 400))), (5, .int (zI 0)), (6, .int (zI 0))] [4, 5, 6, 3, 2, 1, 0] rfl ?_
      refine z_wd 1 6 (by decide) (by decide) ?_
      exact does_58 F hI hob h4 hG h18 hv (by omega) (by omega) (b := 0) (th := 0) (by omega) (Or.inl rfl)
    · skip
      refine z_aload_n F 3 dL_does_42 rfl rfl ?_
      refine z_iload F 0 dL_does_43 rfl ?_
      refine z_callV F [.int (zI 0)] [] (q_startOf F.2.2.1 G (s := s) (t := t) (o := o) hI (a := 0) ⟨by omega, by omega⟩) cv_L_29 (zAll_0 s t o) rfl rfl rfl ⟨by decide, by decide⟩ ⟨by decide, by decide⟩ (Nat.le_of_ble_eq_true rfl) dL_does_45 z_nx (z_ki (fun x_10 M_10 h_10 => ?_))
      have hx9 := (h_10).1.symm
      have hm9 := (h_10).2.symm
      subst hx9
      subst hm9
      have hb13 := hI.b 13 (0 : Int).toNat 0
      refine z_if_lt F 55 dL_does_48 (by decide) (by omega) (fun c_11 => ?_) (fun c_11 => ?_)
      · skip
        refine z_iconst (z := 0) F dL_does_55 (by decide) ?_
        refine z_istore F [(6, .int (zI 0)), (5, .int (zI 0)), (4, .int (zI ((w / 5) % 400))), (3, .int (zI (w % 5))), (0, .ref 0), (1, .int (zI v)), (2, .int (zI w))] dL_does_56 (by decide) rfl ?_
        refine z_lv [(0, .ref 0), (1, .int (zI v)), (2, .int (zI w)), (3, .int (zI (w % 5))), (4, .int (zI (w / 5 % 400))), (5, .int (zI 0)), (6, .int (zI 0))] [4, 5, 6, 3, 2, 1, 0] rfl ?_
        refine z_wd 1 6 (by decide) (by decide) ?_
        exact does_58 F hI hob h4 hG h18 hv (by omega) (by omega) (b := 0) (th := 0) (by omega) (Or.inl rfl)
      · skip
        refine z_iconst (z := 1) F dL_does_51 (by decide) ?_
        refine z_goto F 56 dL_does_52 (by decide) ?_
        refine z_istore F [(6, .int (zI 1)), (5, .int (zI 0)), (4, .int (zI ((w / 5) % 400))), (3, .int (zI (w % 5))), (0, .ref 0), (1, .int (zI v)), (2, .int (zI w))] dL_does_56 (by decide) rfl ?_
        refine z_lv [(0, .ref 0), (1, .int (zI v)), (2, .int (zI w)), (3, .int (zI (w % 5))), (4, .int (zI (w / 5 % 400))), (5, .int (zI 0)), (6, .int (zI 1))] [4, 5, 6, 3, 2, 1, 0] rfl ?_
        refine z_wd 1 6 (by decide) (by decide) ?_
        exact does_58 F hI hob h4 hG h18 hv (by omega) (by omega) (b := 0) (th := 1) (by omega) (Or.inr ⟨rfl, by omega, by omega⟩)

