/-! ===== the book: what changes it ===== -/
theorem zInv.day {s : zS} (h : zInv s) {i : Nat} (hi : s 0 0 0 ≤ (i : Int)) : s 21 (i + 4) = fun _ => -1 := funext fun m => by
  have hdm := h.2.2.2.2.2.2.2.2
  rcases (hdm i m).1 with h1 | ⟨v, hv⟩
  · exact h1
  · obtain ⟨e1, e2, e3, _⟩ := ((hdm i m).2 v).mp hv
    have := (h.v e1 e2).2.2.1.2
    omega
theorem zn0 (s t : zS) (o : zOx) {kd i : Nat} (hk : kd < 16 ∧ kd ≠ 5) (h : zCls s kd i = none) : zAll s t o (64 * i + kd) = none := (zAll_c hk).trans h
abbrev rX6_hire : Room := { frames := 7, cells := 5, slots := 1240, locals := 191 }
set_option maxRecDepth 100000 in
set_option maxHeartbeats 4000000 in
theorem c_X6_hire {l : Launch} (hfl : l.stackTraces = false) (G : zG) {s t : zS} {o : zOx} (hc : zC1 s) (hb9 : zB s) {a b c : Int} (ha : zR a) (hb : zR b) (hc9 : zR c) (hI : zInv s)  : zCn l G yX6_hire (.code yX6_hire cX6_hire 4 (some .int)) rX6_hire [.ref 0, .int (zI a), .int (zI b), .int (zI c)] (zAll s t o) (zRi (fun xr M2 => (((1 ≤ a ∧ a ≤ 15) ∧ (0 ≤ b ∧ b < 600) ∧ b < c ∧ c ≤ 600) ∧ s 0 0 0 < 5) ∧ xr = s 0 0 0 ∧ M2 = zAll (zOpH s a b c) t o)) (fun E M2 => ((E = "java/lang/IllegalArgumentException" ∧ ¬ ((1 ≤ a ∧ a ≤ 15) ∧ (0 ≤ b ∧ b < 600) ∧ b < c ∧ c ≤ 600)) ∨ (E = "java/lang/IllegalStateException" ∧ ((1 ≤ a ∧ a ≤ 15) ∧ (0 ≤ b ∧ b < 600) ∧ b < c ∧ c ≤ 600) ∧ ¬ s 0 0 0 < 5)) ∧ M2 = (zAll s t o)) := by
  refine zStart hfl (by decide) (own := RX6) rfl [(0, .ref 0), (1, .int (zI a)), (2, .int (zI b)), (3, .int (zI c))] (Nat.le_of_ble_eq_true rfl) rfl (fun k hkl hinit hk0 F => ?_)
  have hn0 := hc.1
  have hn4 := hc.2.1
  have hn9 := hc.2.2.1
  have hn14 := hc.2.2.2.1
  have hn18 := hc.2.2.2.2.1
  refine z_iload_n F 1 dX6_hire_0 rfl rfl ?_
  refine z_iconst (z := 1) F dX6_hire_1 (by decide) ?_
  refine z_icmp_lt F 11 dX6_hire_2 (by decide) (by omega) ⟨by decide, by decide⟩ (fun c_1 => ?_) (fun c_1 => ?_)
  · skip
    exact z_thr (text := "skills out of range") F zfi_IAE zk_IAE zi_IAE (by decide) zat_IAE zab_IAE zcc_IAE zgd_IAE dX6_hire_11 dX6_hire_14 dX6_hire_15 dX6_hire_17 dX6_hire_20 (by decide) (Nat.le_of_ble_eq_true rfl) (by first | decide | assumption | omega) (by first | decide | assumption | omega) ⟨Or.inl ⟨rfl, by omega⟩, rfl⟩
  · skip
    refine z_iload_n F 1 dX6_hire_5 rfl rfl ?_
    refine z_bipush (z := 15) F dX6_hire_6 (by decide) ?_
    refine z_icmp_le F 21 dX6_hire_8 (by decide) (by omega) ⟨by decide, by decide⟩ (fun c_2 => ?_) (fun c_2 => ?_)
    · skip
      refine z_iload_n F 2 dX6_hire_21 rfl rfl ?_
      refine z_callS F [.int (zI b)] [] (c_X6_isMinute F.2.2.1 G hb (zAll s t o)) cs_X6_46 rfl ⟨by decide, by decide⟩ ⟨by decide, by decide⟩ (Nat.le_of_ble_eq_true rfl) dX6_hire_22 z_nx (z_ki (fun x_3 M_3 h_3 => ?_))
      have hx9 := (h_3).1.symm
      have hm9 := (h_3).2.symm
      subst hx9
      subst hm9
      have hz : zR (if 0 ≤ b ∧ b < 600 then 1 else 0) := zR_if
      refine z_if_eq F 40 dX6_hire_25 (by decide) (by omega) (fun c_4 => ?_) (fun c_4 => ?_)
      · skip
        have hq9 : ¬ (0 ≤ b ∧ b < 600) := fun h => by rw [if_pos h] at c_4; omega
        exact z_thr (text := "shift out of range") F zfi_IAE zk_IAE zi_IAE (by decide) zat_IAE zab_IAE zcc_IAE zgd_IAE dX6_hire_40 dX6_hire_43 dX6_hire_44 dX6_hire_46 dX6_hire_49 (by decide) (Nat.le_of_ble_eq_true rfl) (by first | decide | assumption | omega) (by first | decide | assumption | omega) ⟨Or.inl ⟨rfl, by omega⟩, rfl⟩
      · skip
        have hq9 : 0 ≤ b ∧ b < 600 := Classical.byContradiction fun h => by rw [if_neg h] at c_4; omega
        refine z_iload_n F 3 dX6_hire_28 rfl rfl ?_
        refine z_iload_n F 2 dX6_hire_29 rfl rfl ?_
        refine z_icmp_le F 40 dX6_hire_30 (by decide) (by omega) (by omega) (fun c_5 => ?_) (fun c_5 => ?_)
        · skip
          exact z_thr (text := "shift out of range") F zfi_IAE zk_IAE zi_IAE (by decide) zat_IAE zab_IAE zcc_IAE zgd_IAE dX6_hire_40 dX6_hire_43 dX6_hire_44 dX6_hire_46 dX6_hire_49 (by decide) (Nat.le_of_ble_eq_true rfl) (by first | decide | assumption | omega) (by first | decide | assumption | omega) ⟨Or.inl ⟨rfl, by omega⟩, rfl⟩
        · skip
          refine z_iload_n F 3 dX6_hire_33 rfl rfl ?_
          refine z_sipush (z := 600) F dX6_hire_34 (by decide) ?_
          refine z_icmp_le F 50 dX6_hire_37 (by decide) (by omega) ⟨by decide, by decide⟩ (fun c_6 => ?_) (fun c_6 => ?_)
          · skip
            refine z_aload_n F 0 dX6_hire_50 rfl rfl ?_
            refine z_get F fl_X6_10 (zAll_0 s t o) rfl dX6_hire_51 ?_
            refine z_callV F [] [] (c_Jx4a65c_size_8abf5 F.2.2.1 G (zAll s t o) (zAll_1 s t o)) cv_X6_52 (zAll_1 s t o) rfl rfl rfl ⟨by decide, by decide⟩ ⟨by decide, by decide⟩ (Nat.le_of_ble_eq_true rfl) dX6_hire_54 z_nx (z_ki (fun x_7 M_7 h_7 => ?_))
            have hx9 := (h_7).1.symm
            have hm9 := (h_7).2.symm
            subst hx9
            subst hm9
            refine z_iconst (z := 5) F dX6_hire_57 (by decide) ?_
            refine z_icmp_lt F 71 dX6_hire_58 (by decide) (by omega) ⟨by decide, by decide⟩ (fun c_8 => ?_) (fun c_8 => ?_)
            · skip
              refine z_aload_n F 0 dX6_hire_71 rfl rfl ?_
              refine z_get F fl_X6_10 (zAll_0 s t o) rfl dX6_hire_72 ?_
              refine z_new (ci := 2) F (64 * (s 0 0 0).toNat + 9) [.int (zI 0), .int (zI 0), .int (zI 0), .null] rfl inlX1 tyX1 tyX1_ok (zr_3 _ (List.mem_of_getElem? (i := 19) rfl)) (zr_3 _ (List.mem_of_getElem? (i := 20) rfl)) (zr_3 _ (List.mem_of_getElem? (i := 21) rfl)) (fun j hj => by rcases (show j = 0 ∨ j = 1 ∨ j = 2 ∨ j = 3 by omega) with rfl | rfl | rfl | rfl <;> rfl) (by decide) (zn0 s t o (kd := 9) (i := (s 0 0 0).toNat) (by decide) (if_neg (by omega))) (by omega) (by decide) (by decide) dX6_hire_75 ?_
              have hm_9_s := zu_s (zAll s t o) (64 * (s 0 0 0).toNat + 9) (zOb 2 [.int (zI 0), .int (zI 0), .int (zI 0), .null])
              refine z_dup F dX6_hire_78 rfl ?_
              refine z_iload_n F 1 dX6_hire_79 rfl rfl ?_
              refine z_iload_n F 2 dX6_hire_80 rfl rfl ?_
              refine z_iload_n F 3 dX6_hire_81 rfl rfl ?_
              refine z_callI F [.int (zI a), .int (zI b), .int (zI c)] [.ref (64 * (s 0 0 0).toNat + 9), .ref 1] (c_X1_init F.2.2.1 G (td := 64 * ((s 0 0 0).toNat + 4) + 6) (tv := 64 * ((s 0 0 0).toNat + 4) + 7) (tk := 64 * ((s 0 0 0).toNat + 4) + 8) _ (zu_s _ _ _) ((zu_n (by omega)).trans (zn0 s t o (kd := 6) (i := ((s 0 0 0).toNat + 4)) (by decide) (if_neg (by omega)))) ((zu_n (by omega)).trans (zn0 s t o (kd := 7) (i := ((s 0 0 0).toNat + 4)) (by decide) (if_neg (by omega)))) ((zu_n (by omega)).trans (zn0 s t o (kd := 8) (i := ((s 0 0 0).toNat + 4)) (by decide) (if_neg (by omega)))) (by omega) (by omega) (by omega) (by omega) (by omega) (by omega) (by omega) (by omega) (by omega)) ci_X6_63 rfl ⟨by decide, by decide⟩ ⟨by decide, by decide⟩ (Nat.le_of_ble_eq_true rfl) dX6_hire_82 z_nx (z_kv (fun M_10 h_10 => ?_))
              have hm9 := (h_10).symm
              subst hm9
              refine z_M (M' := (zu (zu (zu (zu (zAll s t o) (64 * (s 0 0 0).toNat + 9) (zOb 2 [.int (zI a), .int (zI b), .int (zI c), .ref (64 * ((s 0 0 0).toNat + 4) + 6)])) (64 * ((s 0 0 0).toNat + 4) + 6) (zOb 1 [.ref (64 * ((s 0 0 0).toNat + 4) + 7), .ref (64 * ((s 0 0 0).toNat + 4) + 8)])) (64 * ((s 0 0 0).toNat + 4) + 7) (zAi 0 600 (fun _ => -1))) (64 * ((s 0 0 0).toNat + 4) + 8) (zAi 0 601 (zTk (fun _ => -1))))) (by rw [zu_zu]) ?_
              refine z_callV F [.ref (64 * (s 0 0 0).toNat + 9)] [] (c_addM F.2.2.1 G hc _ ((zu_n (by omega)).trans ((zu_n (by omega)).trans ((zu_n (by omega)).trans (zu_n (by omega))))) ((zu_n (by omega)).trans ((zu_n (by omega)).trans ((zu_n (by omega)).trans (zu_n (by omega))))) (by omega) ((zu_n (by omega)).trans ((zu_n (by omega)).trans ((zu_n (by omega)).trans (zu_s _ _ _))))) cv_X6_66 ((zu_n (by omega)).trans ((zu_n (by omega)).trans ((zu_n (by omega)).trans ((zu_n (by omega)).trans (zAll_1 s t o))))) rfl rfl rfl ⟨by decide, by decide⟩ ⟨by decide, by decide⟩ (Nat.le_of_ble_eq_true rfl) dX6_hire_85 z_nx (z_ki (fun x_11 M_11 h_11 => ?_))
              have hx9 := (h_11).1.symm
              have hm9 := (h_11).2.symm
              subst hx9
              subst hm9
              refine z_M (M' := (zAll (zOpH s a b c) t o)) (zH_hire (by omega) (hI.day (by omega))) ?_
              refine z_pop F dX6_hire_88 rfl ?_
              refine z_aload_n F 0 dX6_hire_89 rfl rfl ?_
              refine z_get F fl_X6_10 (zAll_0 (zOpH s a b c) t o) rfl dX6_hire_90 ?_
              refine z_callV F [] [] (c_Jx4a65c_size_8abf5 F.2.2.1 G (zAll (zOpH s a b c) t o) (zAll_1 (zOpH s a b c) t o)) cv_X6_52 (zAll_1 (zOpH s a b c) t o) rfl rfl rfl ⟨by decide, by decide⟩ ⟨by decide, by decide⟩ (Nat.le_of_ble_eq_true rfl) dX6_hire_93 z_nx (z_ki (fun x_12 M_12 h_12 => ?_))
              have hx9 := (h_12).1.symm
              have hm9 := (h_12).2.symm
              subst hx9
              subst hm9
              refine z_ti (y := s 0 0 0 + 1) rfl ?_
              refine z_iconst (z := 1) F dX6_hire_96 (by decide) ?_
              refine z_isub F dX6_hire_97 ?_
              exact z_reti F rfl (by first | decide | assumption | omega) (by first | decide | assumption | omega) dX6_hire_98 ⟨_, rfl, ⟨⟨by omega, by omega, by omega, by omega⟩, by omega⟩, by omega, rfl⟩
            · skip
              exact z_thr (text := "no more staff") F zfi_ISE zk_ISE zi_ISE (by decide) zat_ISE zab_ISE zcc_ISE zgd_ISE dX6_hire_61 dX6_hire_64 dX6_hire_65 dX6_hire_67 dX6_hire_70 (by decide) (Nat.le_of_ble_eq_true rfl) (by first | decide | assumption | omega) (by first | decide | assumption | omega) ⟨Or.inr ⟨rfl, ⟨by omega, by omega, by omega, by omega⟩, by omega⟩, rfl⟩
          · skip
            exact z_thr (text := "shift out of range") F zfi_IAE zk_IAE zi_IAE (by decide) zat_IAE zab_IAE zcc_IAE zgd_IAE dX6_hire_40 dX6_hire_43 dX6_hire_44 dX6_hire_46 dX6_hire_49 (by decide) (Nat.le_of_ble_eq_true rfl) (by first | decide | assumption | omega) (by first | decide | assumption | omega) ⟨Or.inl ⟨rfl, by omega⟩, rfl⟩
    · skip
      exact z_thr (text := "skills out of range") F zfi_IAE zk_IAE zi_IAE (by decide) zat_IAE zab_IAE zcc_IAE zgd_IAE dX6_hire_11 dX6_hire_14 dX6_hire_15 dX6_hire_17 dX6_hire_20 (by decide) (Nat.le_of_ble_eq_true rfl) (by first | decide | assumption | omega) (by first | decide | assumption | omega) ⟨Or.inl ⟨rfl, by omega⟩, rfl⟩

abbrev rX6_newService : Room := { frames := 7, cells := 5, slots := 57, locals := 191 }
set_option maxRecDepth 100000 in
set_option maxHeartbeats 4000000 in
theorem c_X6_newService {l : Launch} (hfl : l.stackTraces = false) (G : zG) {s t : zS} {o : zOx} (hc : zC1 s) (hb9 : zB s)  (hI : zInv s) (h48 : s 4 0 0 < 8) : zCn l G yX6_newService (.code yX6_newService cX6_newService 2 (some (.object "SalonBook$Service"))) rX6_newService [.ref 0] (zAll s t o) (zRr (fun xr M2 => xr = 64 * (s 4 0 0).toNat + 10 ∧ M2 = zAll (zOpN s) t o)) zN := by
  refine zStart hfl (by decide) (own := RX6) rfl [(0, .ref 0)] (Nat.le_of_ble_eq_true rfl) rfl (fun k hkl hinit hk0 F => ?_)
  have hn0 := hc.1
  have hn4 := hc.2.1
  have hn9 := hc.2.2.1
  have hn14 := hc.2.2.2.1
  have hn18 := hc.2.2.2.2.1
  have h52 := hI.2.2.2.1 (s 4 0 0).toNat (by omega)
  refine z_new (ci := 5) F (64 * (s 4 0 0).toNat + 10) [.int (zI 0), .null, .null, .null, .int (zI 0), .int (zI 0), .int (zI 0), .int (zI 0), .int (zI 0)] rfl inlX4 tyX4 tyX4_ok (zr_7 _ (List.mem_of_getElem? (i := 9) rfl)) (zr_7 _ (List.mem_of_getElem? (i := 10) rfl)) (zr_7 _ (List.mem_of_getElem? (i := 11) rfl)) (fun j hj => by rcases (show j = 0 ∨ j = 1 ∨ j = 2 ∨ j = 3 ∨ j = 4 ∨ j = 5 ∨ j = 6 ∨ j = 7 ∨ j = 8 by omega) with rfl | rfl | rfl | rfl | rfl | rfl | rfl | rfl | rfl <;> rfl) (by decide) (zn0 s t o (kd := 10) (i := (s 4 0 0).toNat) (by decide) (if_neg (by omega))) (by omega) (by decide) (by decide) dX6_newService_0 ?_
  have hm_1_s := zu_s (zAll s t o) (64 * (s 4 0 0).toNat + 10) (zOb 5 [.int (zI 0), .null, .null, .null, .int (zI 0), .int (zI 0), .int (zI 0), .int (zI 0), .int (zI 0)])
  refine z_dup F dX6_newService_3 rfl ?_
  refine z_aload_n F 0 dX6_newService_4 rfl rfl ?_
  refine z_get F fl_X6_16 ((zu_n (by omega)).trans (zAll_0 s t o)) rfl dX6_newService_5 ?_
  refine z_callV F [] [.ref (64 * (s 4 0 0).toNat + 10), .ref (64 * (s 4 0 0).toNat + 10)] (c_Jx4a65c_size_8abf5 F.2.2.1 G _ ((zu_n (by omega)).trans (zAll_65 s t o))) cv_X6_52 ((zu_n (by omega)).trans (zAll_65 s t o)) rfl rfl rfl ⟨by decide, by decide⟩ ⟨by decide, by decide⟩ (Nat.le_of_ble_eq_true rfl) dX6_newService_8 z_nx (z_ki (fun x_2 M_2 h_2 => ?_))
  have hx9 := (h_2).1.symm
  have hm9 := (h_2).2.symm
  subst hx9
  subst hm9
  refine z_callI F [.int (zI (s 4 0 0))] [.ref (64 * (s 4 0 0).toNat + 10)] (c_X4_init F.2.2.1 G (t1 := 64 * (s 4 0 0).toNat + 11) (t2 := 64 * (s 4 0 0).toNat + 12) (t3 := 64 * (s 4 0 0).toNat + 13) (a := s 4 0 0) _ (zu_s _ _ _) ((zu_n (by omega)).trans (zn0 s t o (kd := 11) (i := (s 4 0 0).toNat) (by decide) (if_neg (by omega)))) ((zu_n (by omega)).trans (zn0 s t o (kd := 12) (i := (s 4 0 0).toNat) (by decide) (if_neg (by omega)))) ((zu_n (by omega)).trans (zn0 s t o (kd := 13) (i := (s 4 0 0).toNat) (by decide) (if_neg (by omega)))) (by omega) (by omega) (by omega) (by omega) (by omega) (by omega) (by omega) (by omega) (by omega)) ci_X6_259 rfl ⟨by decide, by decide⟩ ⟨by decide, by decide⟩ (Nat.le_of_ble_eq_true rfl) dX6_newService_11 z_nx (z_kv (fun M_3 h_3 => ?_))
  have hm9 := (h_3).symm
  subst hm9
  refine z_M (M' := (zu (zu (zu (zu (zAll s t o) (64 * (s 4 0 0).toNat + 10) (zOb 5 [.int (zI (s 4 0 0)), .ref (64 * (s 4 0 0).toNat + 11), .ref (64 * (s 4 0 0).toNat + 12), .ref (64 * (s 4 0 0).toNat + 13), .int (zI 0), .int (zI 0), .int (zI 0), .int (zI 0), .int (zI 0)])) (64 * (s 4 0 0).toNat + 11) (zAi 0 5 (fun _ => 0))) (64 * (s 4 0 0).toNat + 12) (zAi 0 5 (fun _ => 0))) (64 * (s 4 0 0).toNat + 13) (zAi 0 5 (fun _ => 0)))) (by rw [zu_zu]) ?_
  refine z_astore_n F [(1, .ref (64 * (s 4 0 0).toNat + 10)), (0, .ref 0)] dX6_newService_14 rfl (by decide) rfl ?_
  refine z_aload_n F 1 dX6_newService_15 rfl rfl ?_
  refine z_get F fl_X6_16 ((zu_n (by omega)).trans ((zu_n (by omega)).trans ((zu_n (by omega)).trans ((zu_n (by omega)).trans (zAll_0 s t o))))) rfl dX6_newService_16 ?_
  refine z_aload_n F 0 dX6_newService_19 rfl rfl ?_
  refine z_callV F [.ref (64 * (s 4 0 0).toNat + 10)] [] (c_addS F.2.2.1 G hc _ ((zu_n (by omega)).trans ((zu_n (by omega)).trans ((zu_n (by omega)).trans (zu_n (by omega))))) ((zu_n (by omega)).trans ((zu_n (by omega)).trans ((zu_n (by omega)).trans (zu_n (by omega))))) (by omega) ((zu_n (by omega)).trans ((zu_n (by omega)).trans ((zu_n (by omega)).trans (zu_s _ _ _))))) cv_X6_66 ((zu_n (by omega)).trans ((zu_n (by omega)).trans ((zu_n (by omega)).trans ((zu_n (by omega)).trans (zAll_65 s t o))))) rfl rfl rfl ⟨by decide, by decide⟩ ⟨by decide, by decide⟩ (Nat.le_of_ble_eq_true rfl) dX6_newService_20 z_nx (z_ki (fun x_4 M_4 h_4 => ?_))
  have hx9 := (h_4).1.symm
  have hm9 := (h_4).2.symm
  subst hx9
  subst hm9
  refine z_M (M' := (zAll (zOpN s) t o)) (zH_new (by omega) h52.1 h52.2) ?_
  refine z_pop F dX6_newService_23 rfl ?_
  refine z_aload_n F 0 dX6_newService_24 rfl rfl ?_
  exact z_reta F rfl (Or.inl ⟨_, rfl⟩) (by first | decide | assumption | omega) (by first | decide | assumption | omega) dX6_newService_25 ⟨_, rfl, rfl, rfl⟩

theorem c_app {l : Launch} (hfl : l.stackTraces = false) (G : zG) {s t : zS} {o : zOx} {a : Nat} {k m : Int} (ha : (a : Int) < s 4 0 0) (h50 : 0 ≤ s 5 a 0) (h55 : s 5 a 0 < 5) (hk0 : -1 ≤ k) (hk4 : k < 4) : zCn l G yX4_append (.code yX4_append cX4_append 3 none) rX4_append [.ref (64 * a + 10), .int (zI k), .int (zI m)] (zAll s t o) (zRv (fun M2 => M2 = zAll (zOpP s a k m) t o)) zN := by
  have key := c_X4_append hfl G (wn := zAskN s a (zSc s a)) (sk := k) (mi := m) (zAll s t o) (zAll_s t o ha) (zAll_s1 t o ha) (zAll_s2 t o ha) (zAll_s3 t o ha) (by omega) (by omega) (by omega) (by omega) (by omega) (by omega) h50 h55 hk0 hk4
  rw [zH_app ha h50] at key
  exact key
/-- the steps of a usual service -/
def zUs (s : zS) (b : Nat) (a : Int) : zS := if a = 0 then zOpP (zOpP s b 0 10) b 1 30 else if a = 1 then zOpP (zOpP (zOpP (zOpP s b 2 40) b (-1) 35) b 0 10) b 1 30 else if a = 2 then zOpP (zOpP (zOpP s b 3 15) b (-1) 20) b 0 10 else zOpP s b 1 20
abbrev rX6_appendUsualSteps : Room := { frames := 1, cells := 0, slots := 0, locals := 22 }
set_option maxRecDepth 100000 in
set_option maxHeartbeats 4000000 in
theorem c_us0 {l : Launch} (hfl : l.stackTraces = false) (G : zG) {s t : zS} {o : zOx} {b : Nat} (hbs : (b : Int) < s 4 0 0) (h50 : s 5 b 0 = 0)  : zCn l G yX6_appendUsualSteps (.code yX6_appendUsualSteps cX6_appendUsualSteps 2 none) rX6_appendUsualSteps [.ref (64 * b + 10), .int (zI 0)] (zAll s t o) (zRv (fun M2 => M2 = zAll (zOpP (zOpP s b 0 10) b 1 30) t o)) zN := by
  refine zStart hfl (by decide) (own := RX6) rfl [(0, .ref (64 * b + 10)), (1, .int (zI 0))] (Nat.le_of_ble_eq_true rfl) rfl (fun k hkl hinit hk0 F => ?_)
  refine z_iload_n F 1 dX6_appendUsualSteps_0 rfl rfl ?_
  refine z_tswIn F 28 ⟨by decide, by decide⟩ dX6_appendUsualSteps_1 (by decide) (by decide) rfl (by decide) ?_
  refine z_aload_n F 0 dX6_appendUsualSteps_28 rfl rfl ?_
  refine z_iconst (z := 0) F dX6_appendUsualSteps_29 (by decide) ?_
  refine z_bipush (z := 10) F dX6_appendUsualSteps_30 (by decide) ?_
  refine z_callV F [.int (zI 0), .int (zI 10)] [] (c_app F.2.2.1 G (s := s) (t := t) (o := o) (a := b) (k := 0) (m := 10) (show (b : Int) < s 4 0 0 from hbs) (by first | omega | (simp only [zP5]; omega)) (by first | omega | (simp only [zP5]; omega)) (by decide) (by decide)) cv_X6_86 (zAll_s (s := s) t o (i := b) hbs) rfl rfl rfl ⟨by decide, by decide⟩ ⟨by decide, by decide⟩ (Nat.le_of_ble_eq_true rfl) dX6_appendUsualSteps_32 z_nx (z_kv (fun M_1 h_1 => ?_))
  have hm9 := (h_1).symm
  subst hm9
  refine z_aload_n F 0 dX6_appendUsualSteps_35 rfl rfl ?_
  refine z_iconst (z := 1) F dX6_appendUsualSteps_36 (by decide) ?_
  refine z_bipush (z := 30) F dX6_appendUsualSteps_37 (by decide) ?_
  refine z_callV F [.int (zI 1), .int (zI 30)] [] (c_app F.2.2.1 G (s := (zOpP s b 0 10)) (t := t) (o := o) (a := b) (k := 1) (m := 30) (show (b : Int) < s 4 0 0 from hbs) (by first | omega | (simp only [zP5]; omega)) (by first | omega | (simp only [zP5]; omega)) (by decide) (by decide)) cv_X6_86 (zAll_s (s := (zOpP s b 0 10)) t o (i := b) hbs) rfl rfl rfl ⟨by decide, by decide⟩ ⟨by decide, by decide⟩ (Nat.le_of_ble_eq_true rfl) dX6_appendUsualSteps_39 z_nx (z_kv (fun M_2 h_2 => ?_))
  have hm9 := (h_2).symm
  subst hm9
  refine z_goto F 107 dX6_appendUsualSteps_42 (by decide) ?_
  exact z_retv F rfl (by first | decide | assumption | omega) (by first | decide | assumption | omega) dX6_appendUsualSteps_107 ⟨rfl, rfl⟩

set_option maxRecDepth 100000 in
set_option maxHeartbeats 4000000 in
theorem c_us1 {l : Launch} (hfl : l.stackTraces = false) (G : zG) {s t : zS} {o : zOx} {b : Nat} (hbs : (b : Int) < s 4 0 0) (h50 : s 5 b 0 = 0)  : zCn l G yX6_appendUsualSteps (.code yX6_appendUsualSteps cX6_appendUsualSteps 2 none) rX6_appendUsualSteps [.ref (64 * b + 10), .int (zI 1)] (zAll s t o) (zRv (fun M2 => M2 = zAll (zOpP (zOpP (zOpP (zOpP s b 2 40) b (-1) 35) b 0 10) b 1 30) t o)) zN := by
  refine zStart hfl (by decide) (own := RX6) rfl [(0, .ref (64 * b + 10)), (1, .int (zI 1))] (Nat.le_of_ble_eq_true rfl) rfl (fun k hkl hinit hk0 F => ?_)
  refine z_iload_n F 1 dX6_appendUsualSteps_0 rfl rfl ?_
  refine z_tswIn F 45 ⟨by decide, by decide⟩ dX6_appendUsualSteps_1 (by decide) (by decide) rfl (by decide) ?_
  refine z_aload_n F 0 dX6_appendUsualSteps_45 rfl rfl ?_
  refine z_iconst (z := 2) F dX6_appendUsualSteps_46 (by decide) ?_
  refine z_bipush (z := 40) F dX6_appendUsualSteps_47 (by decide) ?_
  refine z_callV F [.int (zI 2), .int (zI 40)] [] (c_app F.2.2.1 G (s := s) (t := t) (o := o) (a := b) (k := 2) (m := 40) (show (b : Int) < s 4 0 0 from hbs) (by first | omega | (simp only [zP5]; omega)) (by first | omega | (simp only [zP5]; omega)) (by decide) (by decide)) cv_X6_86 (zAll_s (s := s) t o (i := b) hbs) rfl rfl rfl ⟨by decide, by decide⟩ ⟨by decide, by decide⟩ (Nat.le_of_ble_eq_true rfl) dX6_appendUsualSteps_49 z_nx (z_kv (fun M_1 h_1 => ?_))
  have hm9 := (h_1).symm
  subst hm9
  refine z_aload_n F 0 dX6_appendUsualSteps_52 rfl rfl ?_
  refine z_iconst (z := -1) F dX6_appendUsualSteps_53 (by decide) ?_
  refine z_bipush (z := 35) F dX6_appendUsualSteps_54 (by decide) ?_
  refine z_callV F [.int (zI (-1)), .int (zI 35)] [] (c_app F.2.2.1 G (s := (zOpP s b 2 40)) (t := t) (o := o) (a := b) (k := (-1)) (m := 35) (show (b : Int) < s 4 0 0 from hbs) (by first | omega | (simp only [zP5]; omega)) (by first | omega | (simp only [zP5]; omega)) (by decide) (by decide)) cv_X6_86 (zAll_s (s := (zOpP s b 2 40)) t o (i := b) hbs) rfl rfl rfl ⟨by decide, by decide⟩ ⟨by decide, by decide⟩ (Nat.le_of_ble_eq_true rfl) dX6_appendUsualSteps_56 z_nx (z_kv (fun M_2 h_2 => ?_))
  have hm9 := (h_2).symm
  subst hm9
  refine z_aload_n F 0 dX6_appendUsualSteps_59 rfl rfl ?_
  refine z_iconst (z := 0) F dX6_appendUsualSteps_60 (by decide) ?_
  refine z_bipush (z := 10) F dX6_appendUsualSteps_61 (by decide) ?_
  refine z_callV F [.int (zI 0), .int (zI 10)] [] (c_app F.2.2.1 G (s := (zOpP (zOpP s b 2 40) b (-1) 35)) (t := t) (o := o) (a := b) (k := 0) (m := 10) (show (b : Int) < s 4 0 0 from hbs) (by first | omega | (simp only [zP5]; omega)) (by first | omega | (simp only [zP5]; omega)) (by decide) (by decide)) cv_X6_86 (zAll_s (s := (zOpP (zOpP s b 2 40) b (-1) 35)) t o (i := b) hbs) rfl rfl rfl ⟨by decide, by decide⟩ ⟨by decide, by decide⟩ (Nat.le_of_ble_eq_true rfl) dX6_appendUsualSteps_63 z_nx (z_kv (fun M_3 h_3 => ?_))
  have hm9 := (h_3).symm
  subst hm9
  refine z_aload_n F 0 dX6_appendUsualSteps_66 rfl rfl ?_
  refine z_iconst (z := 1) F dX6_appendUsualSteps_67 (by decide) ?_
  refine z_bipush (z := 30) F dX6_appendUsualSteps_68 (by decide) ?_
  refine z_callV F [.int (zI 1), .int (zI 30)] [] (c_app F.2.2.1 G (s := (zOpP (zOpP (zOpP s b 2 40) b (-1) 35) b 0 10)) (t := t) (o := o) (a := b) (k := 1) (m := 30) (show (b : Int) < s 4 0 0 from hbs) (by first | omega | (simp only [zP5]; omega)) (by first | omega | (simp only [zP5]; omega)) (by decide) (by decide)) cv_X6_86 (zAll_s (s := (zOpP (zOpP (zOpP s b 2 40) b (-1) 35) b 0 10)) t o (i := b) hbs) rfl rfl rfl ⟨by decide, by decide⟩ ⟨by decide, by decide⟩ (Nat.le_of_ble_eq_true rfl) dX6_appendUsualSteps_70 z_nx (z_kv (fun M_4 h_4 => ?_))
  have hm9 := (h_4).symm
  subst hm9
  refine z_goto F 107 dX6_appendUsualSteps_73 (by decide) ?_
  exact z_retv F rfl (by first | decide | assumption | omega) (by first | decide | assumption | omega) dX6_appendUsualSteps_107 ⟨rfl, rfl⟩

set_option maxRecDepth 100000 in
set_option maxHeartbeats 4000000 in
theorem c_us2 {l : Launch} (hfl : l.stackTraces = false) (G : zG) {s t : zS} {o : zOx} {b : Nat} (hbs : (b : Int) < s 4 0 0) (h50 : s 5 b 0 = 0)  : zCn l G yX6_appendUsualSteps (.code yX6_appendUsualSteps cX6_appendUsualSteps 2 none) rX6_appendUsualSteps [.ref (64 * b + 10), .int (zI 2)] (zAll s t o) (zRv (fun M2 => M2 = zAll (zOpP (zOpP (zOpP s b 3 15) b (-1) 20) b 0 10) t o)) zN := by
  refine zStart hfl (by decide) (own := RX6) rfl [(0, .ref (64 * b + 10)), (1, .int (zI 2))] (Nat.le_of_ble_eq_true rfl) rfl (fun k hkl hinit hk0 F => ?_)
  refine z_iload_n F 1 dX6_appendUsualSteps_0 rfl rfl ?_
  refine z_tswIn F 76 ⟨by decide, by decide⟩ dX6_appendUsualSteps_1 (by decide) (by decide) rfl (by decide) ?_
  refine z_aload_n F 0 dX6_appendUsualSteps_76 rfl rfl ?_
  refine z_iconst (z := 3) F dX6_appendUsualSteps_77 (by decide) ?_
  refine z_bipush (z := 15) F dX6_appendUsualSteps_78 (by decide) ?_
  refine z_callV F [.int (zI 3), .int (zI 15)] [] (c_app F.2.2.1 G (s := s) (t := t) (o := o) (a := b) (k := 3) (m := 15) (show (b : Int) < s 4 0 0 from hbs) (by first | omega | (simp only [zP5]; omega)) (by first | omega | (simp only [zP5]; omega)) (by decide) (by decide)) cv_X6_86 (zAll_s (s := s) t o (i := b) hbs) rfl rfl rfl ⟨by decide, by decide⟩ ⟨by decide, by decide⟩ (Nat.le_of_ble_eq_true rfl) dX6_appendUsualSteps_80 z_nx (z_kv (fun M_1 h_1 => ?_))
  have hm9 := (h_1).symm
  subst hm9
  refine z_aload_n F 0 dX6_appendUsualSteps_83 rfl rfl ?_
  refine z_iconst (z := -1) F dX6_appendUsualSteps_84 (by decide) ?_
  refine z_bipush (z := 20) F dX6_appendUsualSteps_85 (by decide) ?_
  refine z_callV F [.int (zI (-1)), .int (zI 20)] [] (c_app F.2.2.1 G (s := (zOpP s b 3 15)) (t := t) (o := o) (a := b) (k := (-1)) (m := 20) (show (b : Int) < s 4 0 0 from hbs) (by first | omega | (simp only [zP5]; omega)) (by first | omega | (simp only [zP5]; omega)) (by decide) (by decide)) cv_X6_86 (zAll_s (s := (zOpP s b 3 15)) t o (i := b) hbs) rfl rfl rfl ⟨by decide, by decide⟩ ⟨by decide, by decide⟩ (Nat.le_of_ble_eq_true rfl) dX6_appendUsualSteps_87 z_nx (z_kv (fun M_2 h_2 => ?_))
  have hm9 := (h_2).symm
  subst hm9
  refine z_aload_n F 0 dX6_appendUsualSteps_90 rfl rfl ?_
  refine z_iconst (z := 0) F dX6_appendUsualSteps_91 (by decide) ?_
  refine z_bipush (z := 10) F dX6_appendUsualSteps_92 (by decide) ?_
  refine z_callV F [.int (zI 0), .int (zI 10)] [] (c_app F.2.2.1 G (s := (zOpP (zOpP s b 3 15) b (-1) 20)) (t := t) (o := o) (a := b) (k := 0) (m := 10) (show (b : Int) < s 4 0 0 from hbs) (by first | omega | (simp only [zP5]; omega)) (by first | omega | (simp only [zP5]; omega)) (by decide) (by decide)) cv_X6_86 (zAll_s (s := (zOpP (zOpP s b 3 15) b (-1) 20)) t o (i := b) hbs) rfl rfl rfl ⟨by decide, by decide⟩ ⟨by decide, by decide⟩ (Nat.le_of_ble_eq_true rfl) dX6_appendUsualSteps_94 z_nx (z_kv (fun M_3 h_3 => ?_))
  have hm9 := (h_3).symm
  subst hm9
  refine z_goto F 107 dX6_appendUsualSteps_97 (by decide) ?_
  exact z_retv F rfl (by first | decide | assumption | omega) (by first | decide | assumption | omega) dX6_appendUsualSteps_107 ⟨rfl, rfl⟩

set_option maxRecDepth 100000 in
set_option maxHeartbeats 4000000 in
theorem c_us3 {l : Launch} (hfl : l.stackTraces = false) (G : zG) {s t : zS} {o : zOx} {b : Nat} (hbs : (b : Int) < s 4 0 0) (h50 : s 5 b 0 = 0)  : zCn l G yX6_appendUsualSteps (.code yX6_appendUsualSteps cX6_appendUsualSteps 2 none) rX6_appendUsualSteps [.ref (64 * b + 10), .int (zI 3)] (zAll s t o) (zRv (fun M2 => M2 = zAll (zOpP s b 1 20) t o)) zN := by
  refine zStart hfl (by decide) (own := RX6) rfl [(0, .ref (64 * b + 10)), (1, .int (zI 3))] (Nat.le_of_ble_eq_true rfl) rfl (fun k hkl hinit hk0 F => ?_)
  refine z_iload_n F 1 dX6_appendUsualSteps_0 rfl rfl ?_
  refine z_tswOut F 100 ⟨by decide, by decide⟩ dX6_appendUsualSteps_1 (by decide) (by decide) ?_
  refine z_aload_n F 0 dX6_appendUsualSteps_100 rfl rfl ?_
  refine z_iconst (z := 1) F dX6_appendUsualSteps_101 (by decide) ?_
  refine z_bipush (z := 20) F dX6_appendUsualSteps_102 (by decide) ?_
  refine z_callV F [.int (zI 1), .int (zI 20)] [] (c_app F.2.2.1 G (s := s) (t := t) (o := o) (a := b) (k := 1) (m := 20) (show (b : Int) < s 4 0 0 from hbs) (by first | omega | (simp only [zP5]; omega)) (by first | omega | (simp only [zP5]; omega)) (by decide) (by decide)) cv_X6_86 (zAll_s (s := s) t o (i := b) hbs) rfl rfl rfl ⟨by decide, by decide⟩ ⟨by decide, by decide⟩ (Nat.le_of_ble_eq_true rfl) dX6_appendUsualSteps_104 z_nx (z_kv (fun M_1 h_1 => ?_))
  have hm9 := (h_1).symm
  subst hm9
  exact z_retv F rfl (by first | decide | assumption | omega) (by first | decide | assumption | omega) dX6_appendUsualSteps_107 ⟨rfl, rfl⟩

theorem c_us {l : Launch} (hfl : l.stackTraces = false) (G : zG) {s t : zS} {o : zOx} {b : Nat} {a : Int} (hbs : (b : Int) < s 4 0 0) (h50 : s 5 b 0 = 0) (ha : 0 ≤ a ∧ a < 4) : zCn l G yX6_appendUsualSteps (.code yX6_appendUsualSteps cX6_appendUsualSteps 2 none) rX6_appendUsualSteps [.ref (64 * b + 10), .int (zI a)] (zAll s t o) (zRv (fun M2 => M2 = zAll (zUs s b a) t o)) zN := by
  rcases (show a = 0 ∨ a = 1 ∨ a = 2 ∨ a = 3 by omega) with e | e | e | e <;> subst e
  · exact c_us0 hfl G hbs h50
  · exact c_us1 hfl G hbs h50
  · exact c_us2 hfl G hbs h50
  · exact c_us3 hfl G hbs h50
theorem zUs_4 {s : zS} {b : Nat} {a : Int} : zUs s b a 4 0 0 = s 4 0 0 := by
  unfold zUs
  split
  · rfl
  · split
    · rfl
    · split
      · rfl
      · rfl
theorem zN_c1 {s : zS} (h : zInv s) (h4 : s 4 0 0 < 8) : zB (zOpN s) := zB_u h.b (by have := h.c.2.1; omega)
abbrev rX6_addService : Room := { frames := 8, cells := 7, slots := 69, locals := 212 }
set_option maxRecDepth 100000 in
set_option maxHeartbeats 4000000 in
theorem c_X6_addService {l : Launch} (hfl : l.stackTraces = false) (G : zG) {s t : zS} {o : zOx} (hc : zC1 s) (hb9 : zB s) {a b : Int} (ha : zR a) (hb : zR b) (hI : zInv s)  : zCn l G yX6_addService (.code yX6_addService cX6_addService 4 (some .int)) rX6_addService [.ref 0, .int (zI a), .int (zI b)] (zAll s t o) (zRi (fun xr M2 => (((0 ≤ a ∧ a < 4) ∧ 1 ≤ b ∧ b ≤ 200) ∧ s 4 0 0 < 8) ∧ xr = s 4 0 0 ∧ M2 = zAll (zOpP (zOpN s) (s 4 0 0).toNat a b) t o)) (fun E M2 => ((E = "java/lang/IllegalArgumentException" ∧ ¬ ((0 ≤ a ∧ a < 4) ∧ 1 ≤ b ∧ b ≤ 200)) ∨ (E = "java/lang/IllegalStateException" ∧ ((0 ≤ a ∧ a < 4) ∧ 1 ≤ b ∧ b ≤ 200) ∧ ¬ s 4 0 0 < 8)) ∧ M2 = (zAll s t o)) := by
  refine zStart hfl (by decide) (own := RX6) rfl [(0, .ref 0), (1, .int (zI a)), (2, .int (zI b))] (Nat.le_of_ble_eq_true rfl) rfl (fun k hkl hinit hk0 F => ?_)
  have hn0 := hc.1
  have hn4 := hc.2.1
  have hn9 := hc.2.2.1
  have hn14 := hc.2.2.2.1
  have hn18 := hc.2.2.2.2.1
  have h52 := hI.2.2.2.1 (s 4 0 0).toNat (by omega)
  refine z_iload_n F 1 dX6_addService_0 rfl rfl ?_
  refine z_callS F [.int (zI a)] [] (c_X6_isSkill F.2.2.1 G ha (zAll s t o)) cs_X6_70 rfl ⟨by decide, by decide⟩ ⟨by decide, by decide⟩ (Nat.le_of_ble_eq_true rfl) dX6_addService_1 z_nx (z_ki (fun x_1 M_1 h_1 => ?_))
  have hx9 := (h_1).1.symm
  have hm9 := (h_1).2.symm
  subst hx9
  subst hm9
  have hz : zR (if 0 ≤ a ∧ a < 4 then 1 else 0) := zR_if
  refine z_if_ne F 17 dX6_addService_4 (by decide) (by omega) (fun c_2 => ?_) (fun c_2 => ?_)
  · skip
    have hq9 : 0 ≤ a ∧ a < 4 := Classical.byContradiction fun h => by rw [if_neg h] at c_2; omega
    refine z_iload_n F 2 dX6_addService_17 rfl rfl ?_
    refine z_callS F [.int (zI b)] [] (c_X6_requireStepMinutes F.2.2.1 G hc hb9 (s := s) (t := t) (o := o) hb) cs_X6_75 rfl ⟨by decide, by decide⟩ ⟨by decide, by decide⟩ (Nat.le_of_ble_eq_true rfl) dX6_addService_18 (fun E M9 h9 => z_xo F (by decide) (by decide) ⟨Or.inl ⟨h9.1, fun h => h9.2.1 h.2⟩, h9.2.2⟩) (z_kv (fun M_3 h_3 => ?_))
    obtain ⟨hq1, hm9⟩ := h_3
    have hm9 := hm9.symm
    subst hm9
    refine z_aload_n F 0 dX6_addService_21 rfl rfl ?_
    refine z_callV F [] [] (c_X6_requireRoomForService F.2.2.1 G hc hb9 (t := t) (o := o)) cv_X6_79 (zAll_0 s t o) rfl rfl rfl ⟨by decide, by decide⟩ ⟨by decide, by decide⟩ (Nat.le_of_ble_eq_true rfl) dX6_addService_22 (fun E M9 h9 => z_xo F (by decide) (by decide) ⟨Or.inr ⟨h9.1, ⟨hq9, hq1⟩, h9.2.1⟩, h9.2.2⟩) (z_kv (fun M_4 h_4 => ?_))
    obtain ⟨hq2, hm9⟩ := h_4
    have hm9 := hm9.symm
    subst hm9
    refine z_aload_n F 0 dX6_addService_25 rfl rfl ?_
    refine z_callV F [] [] (c_X6_newService F.2.2.1 G (t := t) (o := o) hc hb9 hI (by omega)) cv_X6_82 (zAll_0 s t o) rfl rfl rfl ⟨by decide, by decide⟩ ⟨by decide, by decide⟩ (Nat.le_of_ble_eq_true rfl) dX6_addService_26 z_nx (z_kr (fun x_5 M_5 h_5 => ?_))
    have hx9 := (h_5).1.symm
    have hm9 := (h_5).2.symm
    subst hx9
    subst hm9
    refine z_astore_n F [(3, .ref (64 * (s 4 0 0).toNat + 10)), (0, .ref 0), (1, .int (zI a)), (2, .int (zI b))] dX6_addService_29 rfl (by decide) rfl ?_
    refine z_aload_n F 0 dX6_addService_30 rfl rfl ?_
    refine z_iload_n F 2 dX6_addService_31 rfl rfl ?_
    refine z_iload_n F 3 dX6_addService_32 rfl rfl ?_
    refine z_callV F [.int (zI a), .int (zI b)] [] (c_app F.2.2.1 G (s := zOpN s) (t := t) (o := o) (a := (s 4 0 0).toNat) (k := a) (m := b) (show ((s 4 0 0).toNat : Int) < s 4 0 0 + 1 by omega) (show 0 ≤ s 5 (s 4 0 0).toNat 0 by omega) (show s 5 (s 4 0 0).toNat 0 < 5 by omega) (by omega) (by omega)) cv_X6_86 (zAll_s (s := (zOpN s)) t o (i := (s 4 0 0).toNat) (show ((s 4 0 0).toNat : Int) < s 4 0 0 + 1 by omega)) rfl rfl rfl ⟨by decide, by decide⟩ ⟨by decide, by decide⟩ (Nat.le_of_ble_eq_true rfl) dX6_addService_33 z_nx (z_kv (fun M_6 h_6 => ?_))
    have hm9 := (h_6).symm
    subst hm9
    refine z_aload_n F 0 dX6_addService_36 rfl rfl ?_
    refine z_get F fl_X6_92 (zAll_s (s := (zOpP (zOpN s) (s 4 0 0).toNat a b)) t o (i := (s 4 0 0).toNat) (show ((s 4 0 0).toNat : Int) < s 4 0 0 + 1 by omega)) rfl dX6_addService_37 ?_
    refine z_ti (y := s 4 0 0) (by omega) ?_
    exact z_reti F rfl (by first | decide | assumption | omega) (by first | decide | assumption | omega) dX6_addService_40 ⟨_, rfl, ⟨⟨hq9, hq1⟩, hq2⟩, rfl, rfl⟩
  · skip
    have hq9 : ¬ (0 ≤ a ∧ a < 4) := fun h => by rw [if_pos h] at c_2; omega
    exact z_thr (text := "skill out of range") F zfi_IAE zk_IAE zi_IAE (by decide) zat_IAE zab_IAE zcc_IAE zgd_IAE dX6_addService_7 dX6_addService_10 dX6_addService_11 dX6_addService_13 dX6_addService_16 (by decide) (Nat.le_of_ble_eq_true rfl) (by first | decide | assumption | omega) (by first | decide | assumption | omega) ⟨Or.inl ⟨rfl, fun h => hq9 h.1⟩, rfl⟩

abbrev rX6_addUsual : Room := { frames := 8, cells := 6, slots := 63, locals := 212 }
set_option maxRecDepth 100000 in
set_option maxHeartbeats 4000000 in
theorem c_X6_addUsual {l : Launch} (hfl : l.stackTraces = false) (G : zG) {s t : zS} {o : zOx} (hc : zC1 s) (hb9 : zB s) {a : Int} (ha : zR a) (hI : zInv s)  : zCn l G yX6_addUsual (.code yX6_addUsual cX6_addUsual 3 (some .int)) rX6_addUsual [.ref 0, .int (zI a)] (zAll s t o) (zRi (fun xr M2 => ((0 ≤ a ∧ a < 4) ∧ s 4 0 0 < 8) ∧ xr = s 4 0 0 ∧ M2 = zAll (zUs (zOpN s) (s 4 0 0).toNat a) t o)) (fun E M2 => ((E = "java/lang/IllegalArgumentException" ∧ ¬ (0 ≤ a ∧ a < 4)) ∨ (E = "java/lang/IllegalStateException" ∧ (0 ≤ a ∧ a < 4) ∧ ¬ s 4 0 0 < 8)) ∧ M2 = (zAll s t o)) := by
  refine zStart hfl (by decide) (own := RX6) rfl [(0, .ref 0), (1, .int (zI a))] (Nat.le_of_ble_eq_true rfl) rfl (fun k hkl hinit hk0 F => ?_)
  have hn0 := hc.1
  have hn4 := hc.2.1
  have hn9 := hc.2.2.1
  have hn14 := hc.2.2.2.1
  have hn18 := hc.2.2.2.2.1
  have h52 := hI.2.2.2.1 (s 4 0 0).toNat (by omega)
  refine z_iload_n F 1 dX6_addUsual_0 rfl rfl ?_
  refine z_if_lt F 9 dX6_addUsual_1 (by decide) (by omega) (fun c_1 => ?_) (fun c_1 => ?_)
  · skip
    exact z_thr (text := "usual service out of range") F zfi_IAE zk_IAE zi_IAE (by decide) zat_IAE zab_IAE zcc_IAE zgd_IAE dX6_addUsual_9 dX6_addUsual_12 dX6_addUsual_13 dX6_addUsual_15 dX6_addUsual_18 (by decide) (Nat.le_of_ble_eq_true rfl) (by first | decide | assumption | omega) (by first | decide | assumption | omega) ⟨Or.inl ⟨rfl, by omega⟩, rfl⟩
  · skip
    refine z_iload_n F 1 dX6_addUsual_4 rfl rfl ?_
    refine z_iconst (z := 4) F dX6_addUsual_5 (by decide) ?_
    refine z_icmp_lt F 19 dX6_addUsual_6 (by decide) (by omega) ⟨by decide, by decide⟩ (fun c_2 => ?_) (fun c_2 => ?_)
    · skip
      refine z_aload_n F 0 dX6_addUsual_19 rfl rfl ?_
      refine z_callV F [] [] (c_X6_requireRoomForService F.2.2.1 G hc hb9 (t := t) (o := o)) cv_X6_79 (zAll_0 s t o) rfl rfl rfl ⟨by decide, by decide⟩ ⟨by decide, by decide⟩ (Nat.le_of_ble_eq_true rfl) dX6_addUsual_20 (fun E M9 h9 => z_xo F (by decide) (by decide) ⟨Or.inr ⟨h9.1, ⟨by omega, by omega⟩, h9.2.1⟩, h9.2.2⟩) (z_kv (fun M_3 h_3 => ?_))
      obtain ⟨hq2, hm9⟩ := h_3
      have hm9 := hm9.symm
      subst hm9
      refine z_aload_n F 0 dX6_addUsual_23 rfl rfl ?_
      refine z_callV F [] [] (c_X6_newService F.2.2.1 G (t := t) (o := o) hc hb9 hI (by omega)) cv_X6_82 (zAll_0 s t o) rfl rfl rfl ⟨by decide, by decide⟩ ⟨by decide, by decide⟩ (Nat.le_of_ble_eq_true rfl) dX6_addUsual_24 z_nx (z_kr (fun x_4 M_4 h_4 => ?_))
      have hx9 := (h_4).1.symm
      have hm9 := (h_4).2.symm
      subst hx9
      subst hm9
      refine z_astore_n F [(2, .ref (64 * (s 4 0 0).toNat + 10)), (0, .ref 0), (1, .int (zI a))] dX6_addUsual_27 rfl (by decide) rfl ?_
      refine z_aload_n F 0 dX6_addUsual_28 rfl rfl ?_
      refine z_iload_n F 2 dX6_addUsual_29 rfl rfl ?_
      refine z_callS F [.ref (64 * (s 4 0 0).toNat + 10), .int (zI a)] [] (c_us F.2.2.1 G (s := zOpN s) (t := t) (o := o) (b := (s 4 0 0).toNat) (a := a) (show ((s 4 0 0).toNat : Int) < s 4 0 0 + 1 by omega) h52.1 ⟨by omega, by omega⟩) cs_X6_116 rfl ⟨by decide, by decide⟩ ⟨by decide, by decide⟩ (Nat.le_of_ble_eq_true rfl) dX6_addUsual_30 z_nx (z_kv (fun M_5 h_5 => ?_))
      have hm9 := (h_5).symm
      subst hm9
      refine z_aload_n F 0 dX6_addUsual_33 rfl rfl ?_
      refine z_get F fl_X6_92 (zAll_s (s := (zUs (zOpN s) (s 4 0 0).toNat a)) t o (i := (s 4 0 0).toNat) (by rw [zUs_4]; show ((s 4 0 0).toNat : Int) < s 4 0 0 + 1; omega)) rfl dX6_addUsual_34 ?_
      refine z_ti (y := s 4 0 0) (by omega) ?_
      exact z_reti F rfl (by first | decide | assumption | omega) (by first | decide | assumption | omega) dX6_addUsual_37 ⟨_, rfl, ⟨⟨by omega, by omega⟩, hq2⟩, rfl, rfl⟩
    · skip
      exact z_thr (text := "usual service out of range") F zfi_IAE zk_IAE zi_IAE (by decide) zat_IAE zab_IAE zcc_IAE zgd_IAE dX6_addUsual_9 dX6_addUsual_12 dX6_addUsual_13 dX6_addUsual_15 dX6_addUsual_18 (by decide) (Nat.le_of_ble_eq_true rfl) (by first | decide | assumption | omega) (by first | decide | assumption | omega) ⟨Or.inl ⟨rfl, by omega⟩, rfl⟩

abbrev rX6_addStep : Room := { frames := 7, cells := 3, slots := 18, locals := 113 }
set_option maxRecDepth 100000 in
set_option maxHeartbeats 4000000 in
theorem c_X6_addStep {l : Launch} (hfl : l.stackTraces = false) (G : zG) {s t : zS} {o : zOx} (hc : zC1 s) (hb9 : zB s) {a b c : Int} (ha : zR a) (hb : zR b) (hc8 : zR c) (hI : zInv s)  : zCn l G yX6_addStep (.code yX6_addStep cX6_addStep 5 (some .int)) rX6_addStep [.ref 0, .int (zI a), .int (zI b), .int (zI c)] (zAll s t o) (zRi (fun xr M2 => ((0 ≤ a ∧ a < s 4 0 0) ∧ ((-1 ≤ b ∧ b < 4) ∧ 1 ≤ c ∧ c ≤ 200) ∧ (s 5 a.toNat 0 < 5 ∧ s 8 a.toNat 0 = 0)) ∧ xr = s 5 a.toNat 0 + 1 ∧ M2 = zAll (zOpP s a.toNat b c) t o)) (fun E M2 => ((E = "java/lang/IndexOutOfBoundsException" ∧ ¬ (0 ≤ a ∧ a < s 4 0 0)) ∨ (E = "java/lang/IllegalArgumentException" ∧ (0 ≤ a ∧ a < s 4 0 0) ∧ ¬ ((-1 ≤ b ∧ b < 4) ∧ 1 ≤ c ∧ c ≤ 200)) ∨ (E = "java/lang/IllegalStateException" ∧ (0 ≤ a ∧ a < s 4 0 0) ∧ ((-1 ≤ b ∧ b < 4) ∧ 1 ≤ c ∧ c ≤ 200) ∧ ¬ (s 5 a.toNat 0 < 5 ∧ s 8 a.toNat 0 = 0))) ∧ M2 = (zAll s t o)) := by
  refine zStart hfl (by decide) (own := RX6) rfl [(0, .ref 0), (1, .int (zI a)), (2, .int (zI b)), (3, .int (zI c))] (Nat.le_of_ble_eq_true rfl) rfl (fun k hkl hinit hk0 F => ?_)
  have hn0 := hc.1
  have hn4 := hc.2.1
  have hn9 := hc.2.2.1
  have hn14 := hc.2.2.2.1
  have hn18 := hc.2.2.2.2.1
  have h8 := hI.2.2.2.2.1 a.toNat
  have h5 := hc.2.2.2.2.2.2.2.1 a.toNat
  refine z_aload_n F 0 dX6_addStep_0 rfl rfl ?_
  refine z_iload_n F 1 dX6_addStep_1 rfl rfl ?_
  refine z_callV F [.int (zI a)] [] (c_X6_requireService F.2.2.1 G (t := t) (o := o) hc hb9 ha) cv_X6_96 (zAll_0 s t o) rfl rfl rfl ⟨by decide, by decide⟩ ⟨by decide, by decide⟩ (Nat.le_of_ble_eq_true rfl) dX6_addStep_2 (fun E M9 h9 => z_xo F (by decide) (by decide) ⟨Or.inl ⟨h9.1, h9.2.1⟩, h9.2.2⟩) (z_kv (fun M_1 h_1 => ?_))
  obtain ⟨hq1, hm9⟩ := h_1
  have hm9 := hm9.symm
  subst hm9
  refine z_iload_n F 2 dX6_addStep_5 rfl rfl ?_
  refine z_iconst (z := -1) F dX6_addStep_6 (by decide) ?_
  refine z_icmp_eq F 27 dX6_addStep_7 (by decide) (by omega) ⟨by decide, by decide⟩ (fun c_2 => ?_) (fun c_2 => ?_)
  · skip
    refine z_iload_n F 3 dX6_addStep_27 rfl rfl ?_
    refine z_callS F [.int (zI c)] [] (c_X6_requireStepMinutes F.2.2.1 G hc hb9 (s := s) (t := t) (o := o) hc8) cs_X6_75 rfl ⟨by decide, by decide⟩ ⟨by decide, by decide⟩ (Nat.le_of_ble_eq_true rfl) dX6_addStep_28 (fun E M9 h9 => z_xo F (by decide) (by decide) ⟨Or.inr (Or.inl ⟨h9.1, hq1, fun h => h9.2.1 h.2⟩), h9.2.2⟩) (z_kv (fun M_3 h_3 => ?_))
    obtain ⟨hq2, hm9⟩ := h_3
    have hm9 := hm9.symm
    subst hm9
    refine z_aload_n F 0 dX6_addStep_31 rfl rfl ?_
    refine z_get F fl_X6_16 (zAll_0 s t o) rfl dX6_addStep_32 ?_
    refine z_iload_n F 1 dX6_addStep_35 rfl rfl ?_
    refine z_callV F [.int (zI a)] [] (g_s F.2.2.1 G hc (i := a) (by omega) (by omega)) cv_X6_99 (zAll_65 s t o) rfl rfl rfl ⟨by decide, by decide⟩ ⟨by decide, by decide⟩ (Nat.le_of_ble_eq_true rfl) dX6_addStep_36 z_nx (z_kr (fun x_4 M_4 h_4 => ?_))
    have hx9 := (h_4).1.symm
    have hm9 := (h_4).2.symm
    subst hx9
    subst hm9
    refine z_cast (ci := 5) F (zr_7 _ (List.mem_of_getElem? (i := 9) rfl)) (zAll_s t o (i := a.toNat) (by omega)) rfl dX6_addStep_39 ?_
    refine z_astore F [(4, .ref (64 * a.toNat + 10)), (0, .ref 0), (1, .int (zI a)), (2, .int (zI b)), (3, .int (zI c))] dX6_addStep_42 (by decide) rfl ?_
    refine z_aload F 0 dX6_addStep_44 rfl ?_
    refine z_get F fl_X6_103 (zAll_s t o (i := a.toNat) (by omega)) rfl dX6_addStep_46 ?_
    refine z_iconst (z := 5) F dX6_addStep_49 (by decide) ?_
    refine z_icmp_lt F 63 dX6_addStep_50 (by decide) (by omega) ⟨by decide, by decide⟩ (fun c_5 => ?_) (fun c_5 => ?_)
    · skip
      refine z_aload F 0 dX6_addStep_63 rfl ?_
      refine z_get F fl_X6_108 (zAll_s t o (i := a.toNat) (by omega)) rfl dX6_addStep_65 ?_
      refine z_if_eq F 81 dX6_addStep_68 (by decide) (by omega) (fun c_6 => ?_) (fun c_6 => ?_)
      · skip
        refine z_aload F 0 dX6_addStep_81 rfl ?_
        refine z_iload_n F 3 dX6_addStep_83 rfl rfl ?_
        refine z_iload_n F 4 dX6_addStep_84 rfl rfl ?_
        refine z_callV F [.int (zI b), .int (zI c)] [] (c_app F.2.2.1 G (s := s) (t := t) (o := o) (a := a.toNat) (k := b) (m := c) (by omega) (by omega) (by omega) (by omega) (by omega)) cv_X6_86 (zAll_s t o (i := a.toNat) (by omega)) rfl rfl rfl ⟨by decide, by decide⟩ ⟨by decide, by decide⟩ (Nat.le_of_ble_eq_true rfl) dX6_addStep_85 z_nx (z_kv (fun M_7 h_7 => ?_))
        have hm9 := (h_7).symm
        subst hm9
        refine z_aload F 0 dX6_addStep_88 rfl ?_
        refine z_get F fl_X6_103 (zAll_s (s := (zOpP s a.toNat b c)) t o (i := a.toNat) (show ((a.toNat : Nat) : Int) < s 4 0 0 by omega)) rfl dX6_addStep_90 ?_
        refine z_ti (y := s 5 a.toNat 0 + 1) (zP5 s a.toNat b c) ?_
        exact z_reti F rfl (by first | decide | assumption | omega) (by first | decide | assumption | omega) dX6_addStep_93 ⟨_, rfl, ⟨hq1, ⟨⟨by omega, by omega⟩, hq2⟩, by omega, by omega⟩, rfl, rfl⟩
      · skip
        exact z_thr (text := "service was booked or requested") F zfi_ISE zk_ISE zi_ISE (by decide) zat_ISE zab_ISE zcc_ISE zgd_ISE dX6_addStep_71 dX6_addStep_74 dX6_addStep_75 dX6_addStep_77 dX6_addStep_80 (by decide) (Nat.le_of_ble_eq_true rfl) (by first | decide | assumption | omega) (by first | decide | assumption | omega) ⟨Or.inr (Or.inr ⟨rfl, hq1, ⟨⟨by omega, by omega⟩, hq2⟩, by omega⟩), rfl⟩
    · skip
      exact z_thr (text := "no more steps") F zfi_ISE zk_ISE zi_ISE (by decide) zat_ISE zab_ISE zcc_ISE zgd_ISE dX6_addStep_53 dX6_addStep_56 dX6_addStep_57 dX6_addStep_59 dX6_addStep_62 (by decide) (Nat.le_of_ble_eq_true rfl) (by first | decide | assumption | omega) (by first | decide | assumption | omega) ⟨Or.inr (Or.inr ⟨rfl, hq1, ⟨⟨by omega, by omega⟩, hq2⟩, by omega⟩), rfl⟩
  · skip
    refine z_iload_n F 2 dX6_addStep_10 rfl rfl ?_
    refine z_callS F [.int (zI b)] [] (c_X6_isSkill F.2.2.1 G hb (zAll s t o)) cs_X6_70 rfl ⟨by decide, by decide⟩ ⟨by decide, by decide⟩ (Nat.le_of_ble_eq_true rfl) dX6_addStep_11 z_nx (z_ki (fun x_8 M_8 h_8 => ?_))
    have hx9 := (h_8).1.symm
    have hm9 := (h_8).2.symm
    subst hx9
    subst hm9
    have hz : zR (if 0 ≤ b ∧ b < 4 then 1 else 0) := zR_if
    refine z_if_ne F 27 dX6_addStep_14 (by decide) (by omega) (fun c_9 => ?_) (fun c_9 => ?_)
    · skip
      have hq9 : 0 ≤ b ∧ b < 4 := Classical.byContradiction fun h => by rw [if_neg h] at c_9; omega
      refine z_iload_n F 3 dX6_addStep_27 rfl rfl ?_
      refine z_callS F [.int (zI c)] [] (c_X6_requireStepMinutes F.2.2.1 G hc hb9 (s := s) (t := t) (o := o) hc8) cs_X6_75 rfl ⟨by decide, by decide⟩ ⟨by decide, by decide⟩ (Nat.le_of_ble_eq_true rfl) dX6_addStep_28 (fun E M9 h9 => z_xo F (by decide) (by decide) ⟨Or.inr (Or.inl ⟨h9.1, hq1, fun h => h9.2.1 h.2⟩), h9.2.2⟩) (z_kv (fun M_10 h_10 => ?_))
      obtain ⟨hq2, hm9⟩ := h_10
      have hm9 := hm9.symm
      subst hm9
      refine z_aload_n F 0 dX6_addStep_31 rfl rfl ?_
      refine z_get F fl_X6_16 (zAll_0 s t o) rfl dX6_addStep_32 ?_
      refine z_iload_n F 1 dX6_addStep_35 rfl rfl ?_
      refine z_callV F [.int (zI a)] [] (g_s F.2.2.1 G hc (i := a) (by omega) (by omega)) cv_X6_99 (zAll_65 s t o) rfl rfl rfl ⟨by decide, by decide⟩ ⟨by decide, by decide⟩ (Nat.le_of_ble_eq_true rfl) dX6_addStep_36 z_nx (z_kr (fun x_11 M_11 h_11 => ?_))
      have hx9 := (h_11).1.symm
      have hm9 := (h_11).2.symm
      subst hx9
      subst hm9
      refine z_cast (ci := 5) F (zr_7 _ (List.mem_of_getElem? (i := 9) rfl)) (zAll_s t o (i := a.toNat) (by omega)) rfl dX6_addStep_39 ?_
      refine z_astore F [(4, .ref (64 * a.toNat + 10)), (0, .ref 0), (1, .int (zI a)), (2, .int (zI b)), (3, .int (zI c))] dX6_addStep_42 (by decide) rfl ?_
      refine z_aload F 0 dX6_addStep_44 rfl ?_
      refine z_get F fl_X6_103 (zAll_s t o (i := a.toNat) (by omega)) rfl dX6_addStep_46 ?_
      refine z_iconst (z := 5) F dX6_addStep_49 (by decide) ?_
      refine z_icmp_lt F 63 dX6_addStep_50 (by decide) (by omega) ⟨by decide, by decide⟩ (fun c_12 => ?_) (fun c_12 => ?_)
      · skip
        refine z_aload F 0 dX6_addStep_63 rfl ?_
        refine z_get F fl_X6_108 (zAll_s t o (i := a.toNat) (by omega)) rfl dX6_addStep_65 ?_
        refine z_if_eq F 81 dX6_addStep_68 (by decide) (by omega) (fun c_13 => ?_) (fun c_13 => ?_)
        · skip
          refine z_aload F 0 dX6_addStep_81 rfl ?_
          refine z_iload_n F 3 dX6_addStep_83 rfl rfl ?_
          refine z_iload_n F 4 dX6_addStep_84 rfl rfl ?_
          refine z_callV F [.int (zI b), .int (zI c)] [] (c_app F.2.2.1 G (s := s) (t := t) (o := o) (a := a.toNat) (k := b) (m := c) (by omega) (by omega) (by omega) (by omega) (by omega)) cv_X6_86 (zAll_s t o (i := a.toNat) (by omega)) rfl rfl rfl ⟨by decide, by decide⟩ ⟨by decide, by decide⟩ (Nat.le_of_ble_eq_true rfl) dX6_addStep_85 z_nx (z_kv (fun M_14 h_14 => ?_))
          have hm9 := (h_14).symm
          subst hm9
          refine z_aload F 0 dX6_addStep_88 rfl ?_
          refine z_get F fl_X6_103 (zAll_s (s := (zOpP s a.toNat b c)) t o (i := a.toNat) (show ((a.toNat : Nat) : Int) < s 4 0 0 by omega)) rfl dX6_addStep_90 ?_
          refine z_ti (y := s 5 a.toNat 0 + 1) (zP5 s a.toNat b c) ?_
          exact z_reti F rfl (by first | decide | assumption | omega) (by first | decide | assumption | omega) dX6_addStep_93 ⟨_, rfl, ⟨hq1, ⟨⟨by omega, by omega⟩, hq2⟩, by omega, by omega⟩, rfl, rfl⟩
        · skip
          exact z_thr (text := "service was booked or requested") F zfi_ISE zk_ISE zi_ISE (by decide) zat_ISE zab_ISE zcc_ISE zgd_ISE dX6_addStep_71 dX6_addStep_74 dX6_addStep_75 dX6_addStep_77 dX6_addStep_80 (by decide) (Nat.le_of_ble_eq_true rfl) (by first | decide | assumption | omega) (by first | decide | assumption | omega) ⟨Or.inr (Or.inr ⟨rfl, hq1, ⟨⟨by omega, by omega⟩, hq2⟩, by omega⟩), rfl⟩
      · skip
        exact z_thr (text := "no more steps") F zfi_ISE zk_ISE zi_ISE (by decide) zat_ISE zab_ISE zcc_ISE zgd_ISE dX6_addStep_53 dX6_addStep_56 dX6_addStep_57 dX6_addStep_59 dX6_addStep_62 (by decide) (Nat.le_of_ble_eq_true rfl) (by first | decide | assumption | omega) (by first | decide | assumption | omega) ⟨Or.inr (Or.inr ⟨rfl, hq1, ⟨⟨by omega, by omega⟩, hq2⟩, by omega⟩), rfl⟩
    · skip
      have hq9 : ¬ (0 ≤ b ∧ b < 4) := fun h => by rw [if_pos h] at c_9; omega
      exact z_thr (text := "skill out of range") F zfi_IAE zk_IAE zi_IAE (by decide) zat_IAE zab_IAE zcc_IAE zgd_IAE dX6_addStep_17 dX6_addStep_20 dX6_addStep_21 dX6_addStep_23 dX6_addStep_26 (by decide) (Nat.le_of_ble_eq_true rfl) (by first | decide | assumption | omega) (by first | decide | assumption | omega) ⟨Or.inr (Or.inl ⟨rfl, hq1, by omega⟩), rfl⟩

abbrev rX6_request : Room := { frames := 7, cells := 4, slots := 47, locals := 191 }
set_option maxRecDepth 100000 in
set_option maxHeartbeats 4000000 in
theorem c_X6_request {l : Launch} (hfl : l.stackTraces = false) (G : zG) {s t : zS} {o : zOx} (hc : zC1 s) (hb9 : zB s) {a x : Int} (ha : zR a) (hx : zR x) (hI : zInv s)  : zCn l G yX6_request (.code yX6_request cX6_request 4 (some .int)) rX6_request [.ref 0, .int (zI a), .int (zI x)] (zAll s t o) (zRi (fun xr M2 => (((0 ≤ a ∧ a < s 4 0 0) ∧ 0 ≤ x ∧ x < 600) ∧ s 14 0 0 < 6) ∧ xr = s 14 0 0 + 1 ∧ M2 = zAll (zOpQ s a.toNat x) t o)) (fun E M2 => ((E = "java/lang/IndexOutOfBoundsException" ∧ ¬ ((0 ≤ a ∧ a < s 4 0 0) ∧ 0 ≤ x ∧ x < 600)) ∨ (E = "java/lang/IllegalStateException" ∧ ((0 ≤ a ∧ a < s 4 0 0) ∧ 0 ≤ x ∧ x < 600) ∧ ¬ s 14 0 0 < 6)) ∧ M2 = (zAll s t o)) := by
  refine zStart hfl (by decide) (own := RX6) rfl [(0, .ref 0), (1, .int (zI a)), (2, .int (zI x))] (Nat.le_of_ble_eq_true rfl) rfl (fun k hkl hinit hk0 F => ?_)
  have hn0 := hc.1
  have hn4 := hc.2.1
  have hn9 := hc.2.2.1
  have hn14 := hc.2.2.2.1
  have hn18 := hc.2.2.2.2.1
  refine z_aload_n F 0 dX6_request_0 rfl rfl ?_
  refine z_iload_n F 1 dX6_request_1 rfl rfl ?_
  refine z_callV F [.int (zI a)] [] (c_X6_requireService F.2.2.1 G (t := t) (o := o) hc hb9 ha) cv_X6_96 (zAll_0 s t o) rfl rfl rfl ⟨by decide, by decide⟩ ⟨by decide, by decide⟩ (Nat.le_of_ble_eq_true rfl) dX6_request_2 (fun E M9 h9 => z_xo F (by decide) (by decide) ⟨Or.inl ⟨h9.1, fun h => h9.2.1 h.1⟩, h9.2.2⟩) (z_kv (fun M_1 h_1 => ?_))
  obtain ⟨hq1, hm9⟩ := h_1
  have hm9 := hm9.symm
  subst hm9
  refine z_iload_n F 2 dX6_request_5 rfl rfl ?_
  refine z_callS F [.int (zI x)] [] (c_X6_requireMinute F.2.2.1 G (t := t) (o := o) hc hb9 hx) cs_X6_120 rfl ⟨by decide, by decide⟩ ⟨by decide, by decide⟩ (Nat.le_of_ble_eq_true rfl) dX6_request_6 (fun E M9 h9 => z_xo F (by decide) (by decide) ⟨Or.inl ⟨h9.1, fun h => h9.2.1 h.2⟩, h9.2.2⟩) (z_kv (fun M_2 h_2 => ?_))
  obtain ⟨hq2, hm9⟩ := h_2
  have hm9 := hm9.symm
  subst hm9
  refine z_aload_n F 0 dX6_request_9 rfl rfl ?_
  refine z_get F fl_X6_22 (zAll_0 s t o) rfl dX6_request_10 ?_
  refine z_callV F [] [] (c_Jx4a65c_size_8abf5 F.2.2.1 G (zAll s t o) (zAll_193 s t o)) cv_X6_52 (zAll_193 s t o) rfl rfl rfl ⟨by decide, by decide⟩ ⟨by decide, by decide⟩ (Nat.le_of_ble_eq_true rfl) dX6_request_13 z_nx (z_ki (fun x_3 M_3 h_3 => ?_))
  have hx9 := (h_3).1.symm
  have hm9 := (h_3).2.symm
  subst hx9
  subst hm9
  refine z_bipush (z := 6) F dX6_request_16 (by decide) ?_
  refine z_icmp_lt F 31 dX6_request_18 (by decide) (by omega) ⟨by decide, by decide⟩ (fun c_4 => ?_) (fun c_4 => ?_)
  · skip
    refine z_aload_n F 0 dX6_request_31 rfl rfl ?_
    refine z_get F fl_X6_16 (zAll_0 s t o) rfl dX6_request_32 ?_
    refine z_iload_n F 1 dX6_request_35 rfl rfl ?_
    refine z_callV F [.int (zI a)] [] (g_s F.2.2.1 G hc (i := a) (by omega) (by omega)) cv_X6_99 (zAll_65 s t o) rfl rfl rfl ⟨by decide, by decide⟩ ⟨by decide, by decide⟩ (Nat.le_of_ble_eq_true rfl) dX6_request_36 z_nx (z_kr (fun x_5 M_5 h_5 => ?_))
    have hx9 := (h_5).1.symm
    have hm9 := (h_5).2.symm
    subst hx9
    subst hm9
    refine z_cast (ci := 5) F (zr_7 _ (List.mem_of_getElem? (i := 9) rfl)) (zAll_s t o (i := a.toNat) (by omega)) rfl dX6_request_39 ?_
    refine z_astore_n F [(3, .ref (64 * a.toNat + 10)), (0, .ref 0), (1, .int (zI a)), (2, .int (zI x))] dX6_request_42 rfl (by decide) rfl ?_
    refine z_aload_n F 0 dX6_request_43 rfl rfl ?_
    refine z_iconst (z := 1) F dX6_request_44 (by decide) ?_
    refine z_put (ty := .boolean) F [.int (zI ((a.toNat : Nat))), .ref (64 * a.toNat + 11), .ref (64 * a.toNat + 12), .ref (64 * a.toNat + 13), .int (zI (s 5 a.toNat 0)), .int (zI (zLen s a.toNat)), .int (zI (zWork s a.toNat)), .int (zI (zAsk s a.toNat)), .int (zI 1)] fl_X6_108 tyX4 tyX4_ok nmX4 rfl (by decide +kernel) rfl rfl (zAll_s t o (i := a.toNat) (by omega)) (Nat.le_of_ble_eq_true rfl) rfl dX6_request_45 ?_
    have hm_6_s := zu_s (zAll s t o) (64 * a.toNat + 10) (zOb 5 [.int (zI ((a.toNat : Nat))), .ref (64 * a.toNat + 11), .ref (64 * a.toNat + 12), .ref (64 * a.toNat + 13), .int (zI (s 5 a.toNat 0)), .int (zI (zLen s a.toNat)), .int (zI (zWork s a.toNat)), .int (zI (zAsk s a.toNat)), .int (zI 1)])
    refine z_aload_n F 1 dX6_request_48 rfl rfl ?_
    refine z_get F fl_X6_22 ((zu_n (by omega)).trans (zAll_0 s t o)) rfl dX6_request_49 ?_
    refine z_new (ci := 4) F (64 * (s 18 0 0).toNat + 15) [.null, .int (zI 0)] rfl inlX3 tyX3 tyX3_ok (zr_19 _ (List.mem_of_getElem? (i := 7) rfl)) (zr_19 _ (List.mem_of_getElem? (i := 8) rfl)) (zr_19 _ (List.mem_of_getElem? (i := 9) rfl)) (fun j hj => by rcases (show j = 0 ∨ j = 1 by omega) with rfl | rfl <;> rfl) (by decide) ((zu_n (by omega)).trans (zn0 s t o (kd := 15) (i := (s 18 0 0).toNat) (by decide) (if_neg (by omega)))) (by omega) (by decide) (by decide) dX6_request_52 ?_
    have hm_7_0 := (zu_n (M := (zu (zAll s t o) (64 * a.toNat + 10) (zOb 5 [.int (zI ((a.toNat : Nat))), .ref (64 * a.toNat + 11), .ref (64 * a.toNat + 12), .ref (64 * a.toNat + 13), .int (zI (s 5 a.toNat 0)), .int (zI (zLen s a.toNat)), .int (zI (zWork s a.toNat)), .int (zI (zAsk s a.toNat)), .int (zI 1)]))) (t := 64 * (s 18 0 0).toNat + 15) (q := 64 * a.toNat + 10) (o := (zOb 4 [.null, .int (zI 0)])) (by first | assumption | omega | (intro h9; omega))).trans hm_6_s
    have hm_7_s := zu_s (zu (zAll s t o) (64 * a.toNat + 10) (zOb 5 [.int (zI ((a.toNat : Nat))), .ref (64 * a.toNat + 11), .ref (64 * a.toNat + 12), .ref (64 * a.toNat + 13), .int (zI (s 5 a.toNat 0)), .int (zI (zLen s a.toNat)), .int (zI (zWork s a.toNat)), .int (zI (zAsk s a.toNat)), .int (zI 1)])) (64 * (s 18 0 0).toNat + 15) (zOb 4 [.null, .int (zI 0)])
    refine z_dup F dX6_request_55 rfl ?_
    refine z_aload_n F 0 dX6_request_56 rfl rfl ?_
    refine z_iload_n F 3 dX6_request_57 rfl rfl ?_
    refine z_callI F [.ref (64 * a.toNat + 10), .int (zI x)] [.ref (64 * (s 18 0 0).toNat + 15), .ref 193] (c_X3_init F.2.2.1 G _ (zu_s _ _ _)) ci_X6_178 rfl ⟨by decide, by decide⟩ ⟨by decide, by decide⟩ (Nat.le_of_ble_eq_true rfl) dX6_request_58 z_nx (z_kv (fun M_8 h_8 => ?_))
    have hm9 := (h_8).symm
    subst hm9
    refine z_M (M' := (zu (zu (zAll s t o) (64 * a.toNat + 10) (zOb 5 [.int (zI ((a.toNat : Nat))), .ref (64 * a.toNat + 11), .ref (64 * a.toNat + 12), .ref (64 * a.toNat + 13), .int (zI (s 5 a.toNat 0)), .int (zI (zLen s a.toNat)), .int (zI (zWork s a.toNat)), .int (zI (zAsk s a.toNat)), .int (zI 1)])) (64 * (s 18 0 0).toNat + 15) (zOb 4 [.ref (64 * a.toNat + 10), .int (zI x)]))) (by rw [zu_zu]) ?_
    refine z_callV F [.ref (64 * (s 18 0 0).toNat + 15)] [] (c_addQ F.2.2.1 G hc _ ((zu_n (by omega)).trans (zu_n (by omega))) ((zu_n (by omega)).trans (zu_n (by omega))) (by omega) (zu_s _ _ _)) cv_X6_66 ((zu_n (by omega)).trans ((zu_n (by omega)).trans (zAll_193 s t o))) rfl rfl rfl ⟨by decide, by decide⟩ ⟨by decide, by decide⟩ (Nat.le_of_ble_eq_true rfl) dX6_request_61 z_nx (z_ki (fun x_9 M_9 h_9 => ?_))
    have hx9 := (h_9).1.symm
    have hm9 := (h_9).2.symm
    subst hx9
    subst hm9
    refine z_M (M' := (zAll (zOpQ s a.toNat x) t o)) (zH_req (by omega) (by omega) (by omega)) ?_
    refine z_pop F dX6_request_64 rfl ?_
    refine z_aload_n F 1 dX6_request_65 rfl rfl ?_
    refine z_get F fl_X6_22 (zAll_0 (zOpQ s a.toNat x) t o) rfl dX6_request_66 ?_
    refine z_callV F [] [] (c_Jx4a65c_size_8abf5 F.2.2.1 G (zAll (zOpQ s a.toNat x) t o) (zAll_193 (zOpQ s a.toNat x) t o)) cv_X6_52 (zAll_193 (zOpQ s a.toNat x) t o) rfl rfl rfl ⟨by decide, by decide⟩ ⟨by decide, by decide⟩ (Nat.le_of_ble_eq_true rfl) dX6_request_69 z_nx (z_ki (fun x_10 M_10 h_10 => ?_))
    have hx9 := (h_10).1.symm
    have hm9 := (h_10).2.symm
    subst hx9
    subst hm9
    refine z_ti (y := s 14 0 0 + 1) rfl ?_
    exact z_reti F rfl (by first | decide | assumption | omega) (by first | decide | assumption | omega) dX6_request_72 ⟨_, rfl, ⟨⟨hq1, hq2⟩, by omega⟩, rfl, rfl⟩
  · skip
    exact z_thr (text := "no more requests") F zfi_ISE zk_ISE zi_ISE (by decide) zat_ISE zab_ISE zcc_ISE zgd_ISE dX6_request_21 dX6_request_24 dX6_request_25 dX6_request_27 dX6_request_30 (by decide) (Nat.le_of_ble_eq_true rfl) (by first | decide | assumption | omega) (by first | decide | assumption | omega) ⟨Or.inr ⟨rfl, ⟨hq1, hq2⟩, by omega⟩, rfl⟩

