/-! ===== the book: what changes it ===== -/
theorem zInv.day {s : zS} (h : zInv s) {i : Nat} (hi : s 0 0 0 ≤ (i : Int)) : s 21 (i + 4) = fun _ => -1 := funext fun m => by
  have hdm := h.2.2.2.2.2.2.2.2
  rcases (hdm i m).1 with h1 | ⟨v, hv⟩
  · exact h1
  · obtain ⟨e1, e2, e3, _⟩ := ((hdm i m).2 v).mp hv
    have := (h.v e1 e2).2.2.1.2
    omega
theorem zn0 (s t : zS) (o : zOx) {kd i : Nat} (hk : kd < 16 ∧ kd ≠ 5) (h : zCls s kd i = none) : zAll s t o (64 * i + kd) = none := (zAll_c hk).trans h
abbrev rX6_hire : Room := { frames := 7, cells := 5, slots := 1240, locals := 191 }
set_option maxRecDepth 100000 in
set_option maxHeartbeats 4000000 in
theorem c_X6_hire {l : Launch} (hfl : l.stackTraces = false) (G : zG) {s t : zS} {o : zOx} (hc : zC1 s) (hb9 : zB s) {a b c : Int} (ha : zR a) (hb : zR b) (hc9 : zR c) (hI : zInv s)  : zCn l G yX6_hire (.code yX6_hire cX6_hire 4 (some .int)) rX6_hire [.ref 0, .int (zI a), .int (zI b), .int (zI c)] (zAll s t o) (zRi (fun xr M2 => (((1 ≤ a ∧ a ≤ 15) ∧ (0 ≤ b ∧ b < 600) ∧ b < c ∧ c ≤ 600) ∧ s 0 0 0 < 5) ∧ xr = s 0 0 0 ∧ M2 = zAll (zOpH s a b c) t o)) (fun E M2 => ((E = "java/lang/IllegalArgumentException" ∧ ¬ ((1 ≤ a ∧ a ≤ 15) ∧ (0 ≤ b ∧ b < 600) ∧ b < c ∧ c ≤ 600)) ∨ (E = "java/lang/IllegalStateException" ∧ ((1 ≤ a ∧ a ≤ 15) ∧ (0 ≤ b ∧ b < 600) ∧ b < c ∧ c ≤ 600) ∧ ¬ s 0 0 0 < 5)) ∧ M2 = (zAll s t o)) := by
  refine zStart hfl (by decide) (own := RX6) rfl [(0, .ref 0), (1, .int (zI a)), (2, .int (zI b)), (3, .int (zI c))] (Nat.le_of_ble_eq_true rfl) rfl (fun k hkl hinit hk0 F => ?_)
  have hn0 := hc.1
  have hn4 := hc.2.1
  have hn9 := hc.2.2.1
  have hn14 := hc.2.2.2.1
  have hn18 := hc.2.2.2.2.1
  refine z_iload_n F 1 dX6_hire_0 rfl rfl ?_
  refine z_iconst (z := 1) F dX6_hire_1 (by decide) ?_
  refine z_icmp_lt F 11 dX6_hire_2 (by decide) (by omega) ⟨by decide, by decide⟩ (fun c_1 => ?_) (fun c_1 => ?_)
  · skip
    exact z_thr (text := "skills out of range") F zfi_IAE zk_IAE zi_IAE (by decide) zat_IAE zab_IAE zcc_IAE zgd_IAE dX6_hire_11 dX6_hire_14 dX6_hire_15 dX6_hire_17 dX6_hire_20 (by decide) (Nat.le_of_ble_eq_true rfl) (by first | decide | assumption | omega) (by first | decide | assumption | omega) ⟨Or.inl ⟨rfl, by omega⟩, rfl⟩
  · skip
    refine z_iload_n F 1 dX6_hire_5 rfl rfl ?_
    refine z_bipush (z := 15) F dX6_hire_6 (by decide) ?_
    refine z_icmp_le F 21 dX6_hire_8 (by decide) (by omega) ⟨by decide, by decide⟩ (fun c_2 => ?_) (fun c_2 => ?_)
    · skip
      refine z_iload_n F 2 dX6_hire_21 rfl rfl ?_
      refine z_callS F [.int (zI b)] [] (c_X6_isMinute F.2.2.1 G hb (zAll s t o)) cs_X6_46 rfl ⟨by decide, by decide⟩ ⟨by decide, by decide⟩ (Nat.le_of_ble_eq_true rfl) dX6_hire_22 z_nx (z_ki (fun x_3 M_3 h_3 => ?_))
      have hx9 := (h_3).1.symm
      have hm9 := (h_3).2.symm
      subst hx9
      subst hm9
      have hz : zR (if 0 ≤ b ∧ b < 600 then 1 else 0) := zR_if
      refine z_if_eq F 40 dX6_hire_25 (by decide) (by omega) (fun c_4 => ?_) (fun c_4 => ?_)
      · skip
        have hq9 : ¬ (0 ≤ b ∧ b < 600) := fun h => by rw [if_pos h] at c_4; omega
        exact z_thr (text := "shift out of range") F zfi_IAE zk_IAE zi_IAE (by decide) zat_IAE zab_IAE zcc_IAE zgd_IAE dX6_hire_40 dX6_hire_43 dX6_hire_44 dX6_hire_46 dX6_hire_49 (by decide) (Nat.le_of_ble_eq_true rfl) (by first | decide | assumption | omega) (by first | decide | assumption | omega) ⟨Or.inl ⟨rfl, by omega⟩, rfl⟩
      · skip
        have hq9 : 0 ≤ b ∧ b < 600 := Classical.byContradiction fun h => by rw [if_neg h] at c_4; omega
        refine z_iload_n F 3 dX6_hire_28 rfl rfl ?_
        refine z_iload_n F 2 dX6_hire_29 rfl rfl ?_
        refine z_icmp_le F 40 dX6_hire_30 (by decide) (by omega) (by omega) (fun c_5 => ?_) (fun c_5 => ?_)
        · skip
          exact z_thr (text := "shift out of range") F zfi_IAE zk_IAE zi_IAE (by decide) zat_IAE zab_IAE zcc_IAE zgd_IAE dX6_hire_40 dX6_hire_43 dX6_hire_44 dX6_hire_46 dX6_hire_49 (by decide) (Nat.le_of_ble_eq_true rfl) (by first | decide | assumption | omega) (by first | decide | assumption | omega) ⟨Or.inl ⟨rfl, by omega⟩, rfl⟩
        · skip
          refine z_iload_n F 3 dX6_hire_33 rfl rfl ?_
          refine z_sipush (z := 600) F dX6_hire_34 (by decide) ?_
          refine z_icmp_le F 50 dX6_hire_37 (by decide) (by omega) ⟨by decide, by decide⟩ (fun c_6 => ?_) (fun c_6 => ?_)
          · skip
            refine z_aload_n F 0 dX6_hire_50 rfl rfl ?_
            refine z_get F fl_X6_10 (zAll_0 s t o) rfl dX6_hire_51 ?_
            refine z_callV F [] [] (c_Jx4a65c_size_8abf5 F.2.2.1 G (zAll s t o) (zAll_1 s t o)) cv_X6_52 (zAll_1 s t o) rfl rfl rfl ⟨by decide, by decide⟩ ⟨by decide, by decide⟩ (Nat.le_of_ble_eq_true rfl) dX6_hire_54 z_nx (z_ki (fun x_7 M_7 h_7 => ?_))
            have hx9 := (h_7).1.symm
            have hm9 := (h_7).2.symm
            subst hx9
            subst hm9
            refine z_iconst (z := 5) F dX6_hire_57 (by decide) ?_
            refine z_icmp_lt F 71 dX6_hire_58 (by decide) (by omega) ⟨by decide, by decide⟩ (fun c_8 => ?_) (fun c_8 => ?_)
            · skip
              refine z_aload_n F 0 dX6_hire_71 rfl rfl ?_
              refine z_get F fl_X6_10 (zAll_0 s t o) rfl dX6_hire_72 ?_
              refine z_new (ci := 2) F (64 * (s 0 0 0).toNat + 9) [.int (zI 0), .int (zI 0), .int (zI 0), .null] rfl inlX1 tyX1 tyX1_ok (zr_4 _ (List.mem_of_getElem? (i := 16) rfl)) (zr_4 _ (List.mem_of_getElem? (i := 17) rfl)) (zr_4 _ (List.mem_of_getElem? (i := 18) rfl)) (fun j hj => by rcases (show j = 0 ∨ j = 1 ∨ j = 2 ∨ j = 3 by omega) with rfl | rfl | rfl | rfl <;> rfl) (by decide) (zn0 s t o (kd := 9) (i := (s 0 0 0).toNat) (by decide) (if_neg (by omega))) (by omega) (by decide) (by decide) dX6_hire_75 ?_
              have hm_9_s := zu_s (zAll s t o) (64 * (s 0 0 0).toNat + 9) (zOb 2 [.int (zI 0), .int (zI 0), .int (zI 0), .null])
              refine z_dup F dX6_hire_78 rfl ?_
              refine z_iload_n F 1 dX6_hire_79 rfl rfl ?_
              refine z_iload_n F 2 dX6_hire_80 rfl rfl ?_
              refine z_iload_n F 3 dX6_hire_81 rfl rfl ?_
              refine z_callI F [.int (zI a), .int (zI b), .int (zI c)] [.ref (64 * (s 0 0 0).toNat + 9), .ref 1] (c_X1_init F.2.2.1 G (td := 64 * ((s 0 0 0).toNat + 4) + 6) (tv := 64 * ((s 0 0 0).toNat + 4) + 7) (tk := 64 * ((s 0 0 0).toNat + 4) + 8) _ (zu_s _ _ _) ((zu_n (by omega)).trans (zn0 s t o (kd := 6) (i := ((s 0 0 0).toNat + 4)) (by decide) (if_neg (by omega)))) ((zu_n (by omega)).trans (zn0 s t o (kd := 7) (i := ((s 0 0 0).toNat + 4)) (by decide) (if_neg (by omega)))) ((zu_n (by omega)).trans (zn0 s t o (kd := 8) (i := ((s 0 0 0).toNat + 4)) (by decide) (if_neg (by omega)))) (by omega) (by omega) (by omega) (by omega) (by omega) (by omega) (by omega) (by omega) (by omega)) ci_X6_63 rfl ⟨by decide, by decide⟩ ⟨by decide, by decide⟩ (Nat.le_of_ble_eq_true rfl) dX6_hire_82 z_nx (z_kv (fun M_10 h_10 => ?_))
              have hm9 := (h_10).symm
              subst hm9
              refine z_M (M' := (zu (zu (zu (zu (zAll s t o) (64 * (s 0 0 0).toNat + 9) (zOb 2 [.int (zI a), .int (zI b), .int (zI c), .ref (64 * ((s 0 0 0).toNat + 4) + 6)])) (64 * ((s 0 0 0).toNat + 4) + 6) (zOb 1 [.ref (64 * ((s 0 0 0).toNat + 4) + 7), .ref (64 * ((s 0 0 0).toNat + 4) + 8)])) (64 * ((s 0 0 0).toNat + 4) + 7) (zAi 0 600 (fun _ => -1))) (64 * ((s 0 0 0).toNat + 4) + 8) (zAi 0 601 (zTk (fun _ => -1))))) (by rw [zu_zu]) ?_
              refine z_callV F [.ref (64 * (s 0 0 0).toNat + 9)] [] (c_addM F.2.2.1 G hc _ ((zu_n (by omega)).trans ((zu_n (by omega)).trans ((zu_n (by omega)).trans (zu_n (by omega))))) ((zu_n (by omega)).trans ((zu_n (by omega)).trans ((zu_n (by omega)).trans (zu_n (by omega))))) (by omega) ((zu_n (by omega)).trans ((zu_n (by omega)).trans ((zu_n (by omega)).trans (zu_s _ _ _))))) cv_X6_66 ((zu_n (by omega)).trans ((zu_n (by omega)).trans ((zu_n (by omega)).trans ((zu_n (by omega)).trans (zAll_1 s t o))))) rfl rfl rfl ⟨by decide, by decide⟩ ⟨by decide, by decide⟩ (Nat.le_of_ble_eq_true rfl) dX6_hire_85 z_nx (z_ki (fun x_11 M_11 h_11 => ?_))
              have hx9 := (h_11).1.symm
              have hm9 := (h_11).2.symm
              subst hx9
              subst hm9
              refine z_M (M' := (zAll (zOpH s a b c) t o)) (zH_hire (by omega) (hI.day (by omega))) ?_
              refine z_pop F dX6_hire_88 rfl ?_
              refine z_aload_n F 0 dX6_hire_89 rfl rfl ?_
              refine z_get F fl_X6_10 (zAll_0 (zOpH s a b c) t o) rfl dX6_hire_90 ?_
              refine z_callV F [] [] (c_Jx4a65c_size_8abf5 F.2.2.1 G (zAll (zOpH s a b c) t o) (zAll_1 (zOpH s a b c) t o)) cv_X6_52 (zAll_1 (zOpH s a b c) t o) rfl rfl rfl ⟨by decide, by decide⟩ ⟨by decide, by decide⟩ (Nat.le_of_ble_eq_true rfl) dX6_hire_93 z_nx (z_ki (fun x_12 M_12 h_12 => ?_))
              have hx9 := (h_12).1.symm
              have hm9 := (h_12).2.symm
              subst hx9
              subst hm9
              refine z_ti (y := s 0 0 0 + 1) rfl ?_
              refine z_iconst (z := 1) F dX6_hire_96 (by decide) ?_
              refine z_isub F dX6_hire_97 ?_
              exact z_reti F rfl (by first | decide | assumption | omega) (by first | decide | assumption | omega) dX6_hire_98 ⟨_, rfl, ⟨⟨by omega, by omega, by omega, by omega⟩, by omega⟩, by omega, rfl⟩
            · skip
              exact z_thr (text := "no more staff") F zfi_ISE zk_ISE zi_ISE (by decide) zat_ISE zab_ISE zcc_ISE zgd_ISE dX6_hire_61 dX6_hire_64 dX6_hire_65 dX6_hire_67 dX6_hire_70 (by decide) (Nat.le_of_ble_eq_true rfl) (by first | decide | assumption | omega) (by first | decide | assumption | omega) ⟨Or.inr ⟨rfl, ⟨by omega, by omega, by omega, by omega⟩, by omega⟩, rfl⟩
          · skip
            exact z_thr (text := "shift out of range") F zfi_IAE zk_IAE zi_IAE (by decide) zat_IAE zab_IAE zcc_IAE zgd_IAE dX6_hire_40 dX6_hire_43 dX6_hire_44 dX6_hire_46 dX6_hire_49 (by decide) (Nat.le_of_ble_eq_true rfl) (by first | decide | assumption | omega) (by first | decide | assumption | omega) ⟨Or.inl ⟨rfl, by omega⟩, rfl⟩
    · skip
      exact z_thr (text := "skills out of range") F zfi_IAE zk_IAE zi_IAE (by decide) zat_IAE zab_IAE zcc_IAE zgd_IAE dX6_hire_11 dX6_hire_14 dX6_hire_15 dX6_hire_17 dX6_hire_20 (by decide) (Nat.le_of_ble_eq_true rfl) (by first | decide | assumption | omega) (by first | decide | assumption | omega) ⟨Or.inl ⟨rfl, by omega⟩, rfl⟩

