/-! ===== the book: small methods ===== -/
abbrev rX6_requests : Room := { frames := 1, cells := 0, slots := 0, locals := 20 }
set_option maxRecDepth 100000 in
set_option maxHeartbeats 4000000 in
theorem c_X6_requests {l : Launch} (hfl : l.stackTraces = false) (G : zG) {s t : zS} {o : zOx} (hc : zC1 s) (hb9 : zB s)   : zCn l G yX6_requests (.code yX6_requests cX6_requests 1 (some .int)) rX6_requests [.ref 0] (zAll s t o) (zRi (fun xr M2 => xr = s 14 0 0 ∧ M2 = (zAll s t o))) zN := by
  refine zStart hfl (by decide) (own := RX6) rfl [(0, .ref 0)] (Nat.le_of_ble_eq_true rfl) rfl (fun k hkl hinit hk0 F => ?_)
  have hn0 := hc.1
  have hn4 := hc.2.1
  have hn9 := hc.2.2.1
  have hn14 := hc.2.2.2.1
  have hn18 := hc.2.2.2.2.1
  refine z_aload_n F 0 dX6_requests_0 rfl rfl ?_
  refine z_get F fl_X6_22 (zAll_0 s t o) rfl dX6_requests_1 ?_
  refine z_callV F [] [] (c_Jx4a65c_size_8abf5 F.2.2.1 G (zAll s t o) (zAll_193 s t o)) cv_X6_52 (zAll_193 s t o) rfl rfl rfl ⟨by decide, by decide⟩ ⟨by decide, by decide⟩ (Nat.le_of_ble_eq_true rfl) dX6_requests_4 z_nx (z_ki (fun x_1 M_1 h_1 => ?_))
  have hx9 := (h_1).1.symm
  have hm9 := (h_1).2.symm
  subst hx9
  subst hm9
  exact z_reti F rfl (by first | decide | assumption | omega) (by first | decide | assumption | omega) dX6_requests_7 ⟨_, rfl, rfl, rfl⟩

abbrev rX6_visits : Room := { frames := 1, cells := 0, slots := 0, locals := 20 }
set_option maxRecDepth 100000 in
set_option maxHeartbeats 4000000 in
theorem c_X6_visits {l : Launch} (hfl : l.stackTraces = false) (G : zG) {s t : zS} {o : zOx} (hc : zC1 s) (hb9 : zB s)   : zCn l G yX6_visits (.code yX6_visits cX6_visits 1 (some .int)) rX6_visits [.ref 0] (zAll s t o) (zRi (fun xr M2 => xr = s 9 0 0 ∧ M2 = (zAll s t o))) zN := by
  refine zStart hfl (by decide) (own := RX6) rfl [(0, .ref 0)] (Nat.le_of_ble_eq_true rfl) rfl (fun k hkl hinit hk0 F => ?_)
  have hn0 := hc.1
  have hn4 := hc.2.1
  have hn9 := hc.2.2.1
  have hn14 := hc.2.2.2.1
  have hn18 := hc.2.2.2.2.1
  refine z_aload_n F 0 dX6_visits_0 rfl rfl ?_
  refine z_get F fl_X6_19 (zAll_0 s t o) rfl dX6_visits_1 ?_
  refine z_callV F [] [] (c_Jx4a65c_size_8abf5 F.2.2.1 G (zAll s t o) (zAll_129 s t o)) cv_X6_52 (zAll_129 s t o) rfl rfl rfl ⟨by decide, by decide⟩ ⟨by decide, by decide⟩ (Nat.le_of_ble_eq_true rfl) dX6_visits_4 z_nx (z_ki (fun x_1 M_1 h_1 => ?_))
  have hx9 := (h_1).1.symm
  have hm9 := (h_1).2.symm
  subst hx9
  subst hm9
  exact z_reti F rfl (by first | decide | assumption | omega) (by first | decide | assumption | omega) dX6_visits_7 ⟨_, rfl, rfl, rfl⟩

abbrev rX6_isMember : Room := { frames := 1, cells := 0, slots := 0, locals := 20 }
set_option maxRecDepth 100000 in
set_option maxHeartbeats 4000000 in
theorem c_X6_isMember {l : Launch} (hfl : l.stackTraces = false) (G : zG) {s t : zS} {o : zOx} (hc : zC1 s) (hb9 : zB s) {a : Int} (ha : zR a)  : zCn l G yX6_isMember (.code yX6_isMember cX6_isMember 2 (some .boolean)) rX6_isMember [.ref 0, .int (zI a)] (zAll s t o) (zRi (fun xr M2 => xr = (if 0 ≤ a ∧ a < s 0 0 0 then 1 else 0) ∧ M2 = (zAll s t o))) zN := by
  refine zStart hfl (by decide) (own := RX6) rfl [(0, .ref 0), (1, .int (zI a))] (Nat.le_of_ble_eq_true rfl) rfl (fun k hkl hinit hk0 F => ?_)
  have hn0 := hc.1
  have hn4 := hc.2.1
  have hn9 := hc.2.2.1
  have hn14 := hc.2.2.2.1
  have hn18 := hc.2.2.2.2.1
  refine z_iload_n F 1 dX6_isMember_0 rfl rfl ?_
  refine z_if_lt F 19 dX6_isMember_1 (by decide) (by omega) (fun c_1 => ?_) (fun c_1 => ?_)
  · skip
    refine z_iconst (z := 0) F dX6_isMember_19 (by decide) ?_
    exact z_retz F rfl (by decide) (by first | decide | assumption | omega) (by first | decide | assumption | omega) dX6_isMember_20 ⟨_, rfl, (by split <;> omega), rfl⟩
  · skip
    refine z_iload_n F 1 dX6_isMember_4 rfl rfl ?_
    refine z_aload_n F 0 dX6_isMember_5 rfl rfl ?_
    refine z_get F fl_X6_10 (zAll_0 s t o) rfl dX6_isMember_6 ?_
    refine z_callV F [] [.int (zI a)] (c_Jx4a65c_size_8abf5 F.2.2.1 G (zAll s t o) (zAll_1 s t o)) cv_X6_52 (zAll_1 s t o) rfl rfl rfl ⟨by decide, by decide⟩ ⟨by decide, by decide⟩ (Nat.le_of_ble_eq_true rfl) dX6_isMember_9 z_nx (z_ki (fun x_2 M_2 h_2 => ?_))
    have hx9 := (h_2).1.symm
    have hm9 := (h_2).2.symm
    subst hx9
    subst hm9
    refine z_icmp_ge F 19 dX6_isMember_12 (by decide) (by omega) (by omega) (fun c_3 => ?_) (fun c_3 => ?_)
    · skip
      refine z_iconst (z := 0) F dX6_isMember_19 (by decide) ?_
      exact z_retz F rfl (by decide) (by first | decide | assumption | omega) (by first | decide | assumption | omega) dX6_isMember_20 ⟨_, rfl, (by split <;> omega), rfl⟩
    · skip
      refine z_iconst (z := 1) F dX6_isMember_15 (by decide) ?_
      refine z_goto F 20 dX6_isMember_16 (by decide) ?_
      exact z_retz F rfl (by decide) (by first | decide | assumption | omega) (by first | decide | assumption | omega) dX6_isMember_20 ⟨_, rfl, (by split <;> omega), rfl⟩

abbrev rX6_requireMinute : Room := { frames := 6, cells := 1, slots := 6, locals := 92 }
set_option maxRecDepth 100000 in
set_option maxHeartbeats 4000000 in
theorem c_X6_requireMinute {l : Launch} (hfl : l.stackTraces = false) (G : zG) {s t : zS} {o : zOx} (hc : zC1 s) (hb9 : zB s) {a : Int} (ha : zR a)  : zCn l G yX6_requireMinute (.code yX6_requireMinute cX6_requireMinute 1 none) rX6_requireMinute [.int (zI a)] (zAll s t o) (zRv (fun M2 => (0 ≤ a ∧ a < 600) ∧ M2 = (zAll s t o))) (fun E M2 => E = "java/lang/IndexOutOfBoundsException" ∧ ¬ (0 ≤ a ∧ a < 600) ∧ M2 = (zAll s t o)) := by
  refine zStart hfl (by decide) (own := RX6) rfl [(0, .int (zI a))] (Nat.le_of_ble_eq_true rfl) rfl (fun k hkl hinit hk0 F => ?_)
  have hn0 := hc.1
  have hn4 := hc.2.1
  have hn9 := hc.2.2.1
  have hn14 := hc.2.2.2.1
  have hn18 := hc.2.2.2.2.1
  refine z_iload_n F 0 dX6_requireMinute_0 rfl rfl ?_
  refine z_callS F [.int (zI a)] [] (c_X6_isMinute F.2.2.1 G ha (zAll s t o)) cs_X6_46 rfl ⟨by decide, by decide⟩ ⟨by decide, by decide⟩ (Nat.le_of_ble_eq_true rfl) dX6_requireMinute_1 z_nx (z_ki (fun x_1 M_1 h_1 => ?_))
  have hx9 := (h_1).1.symm
  have hm9 := (h_1).2.symm
  subst hx9
  subst hm9
  have hz : zR (if 0 ≤ a ∧ a < 600 then 1 else 0) := zR_if
  refine z_if_ne F 17 dX6_requireMinute_4 (by decide) (by omega) (fun c_2 => ?_) (fun c_2 => ?_)
  · skip
    have hq9 : 0 ≤ a ∧ a < 600 := Classical.byContradiction fun h => by rw [if_neg h] at c_2; omega
    exact z_retv F rfl (by first | decide | assumption | omega) (by first | decide | assumption | omega) dX6_requireMinute_17 ⟨rfl, (by first | assumption | omega), rfl⟩
  · skip
    have hq9 : ¬ (0 ≤ a ∧ a < 600) := fun h => by rw [if_pos h] at c_2; omega
    exact z_thr (text := "no such minute") F zfi_IOO zk_IOO zi_IOO (by decide) zat_IOO zab_IOO zcc_IOO zgd_IOO dX6_requireMinute_7 dX6_requireMinute_10 dX6_requireMinute_11 dX6_requireMinute_13 dX6_requireMinute_16 (by decide) (Nat.le_of_ble_eq_true rfl) (by first | decide | assumption | omega) (by first | decide | assumption | omega) ⟨rfl, (by first | assumption | omega), rfl⟩

abbrev rX6_requireStepMinutes : Room := { frames := 6, cells := 1, slots := 6, locals := 92 }
set_option maxRecDepth 100000 in
set_option maxHeartbeats 4000000 in
theorem c_X6_requireStepMinutes {l : Launch} (hfl : l.stackTraces = false) (G : zG) {s t : zS} {o : zOx} (hc : zC1 s) (hb9 : zB s) {a : Int} (ha : zR a)  : zCn l G yX6_requireStepMinutes (.code yX6_requireStepMinutes cX6_requireStepMinutes 1 none) rX6_requireStepMinutes [.int (zI a)] (zAll s t o) (zRv (fun M2 => (1 ≤ a ∧ a ≤ 200) ∧ M2 = (zAll s t o))) (fun E M2 => E = "java/lang/IllegalArgumentException" ∧ ¬ (1 ≤ a ∧ a ≤ 200) ∧ M2 = (zAll s t o)) := by
  refine zStart hfl (by decide) (own := RX6) rfl [(0, .int (zI a))] (Nat.le_of_ble_eq_true rfl) rfl (fun k hkl hinit hk0 F => ?_)
  have hn0 := hc.1
  have hn4 := hc.2.1
  have hn9 := hc.2.2.1
  have hn14 := hc.2.2.2.1
  have hn18 := hc.2.2.2.2.1
  refine z_iload_n F 0 dX6_requireStepMinutes_0 rfl rfl ?_
  refine z_iconst (z := 1) F dX6_requireStepMinutes_1 (by decide) ?_
  refine z_icmp_lt F 12 dX6_requireStepMinutes_2 (by decide) (by omega) ⟨by decide, by decide⟩ (fun c_1 => ?_) (fun c_1 => ?_)
  · skip
    exact z_thr (text := "minutes out of range") F zfi_IAE zk_IAE zi_IAE (by decide) zat_IAE zab_IAE zcc_IAE zgd_IAE dX6_requireStepMinutes_12 dX6_requireStepMinutes_15 dX6_requireStepMinutes_16 dX6_requireStepMinutes_18 dX6_requireStepMinutes_21 (by decide) (Nat.le_of_ble_eq_true rfl) (by first | decide | assumption | omega) (by first | decide | assumption | omega) ⟨rfl, (by first | assumption | omega), rfl⟩
  · skip
    refine z_iload_n F 0 dX6_requireStepMinutes_5 rfl rfl ?_
    refine z_sipush (z := 200) F dX6_requireStepMinutes_6 (by decide) ?_
    refine z_icmp_le F 22 dX6_requireStepMinutes_9 (by decide) (by omega) ⟨by decide, by decide⟩ (fun c_2 => ?_) (fun c_2 => ?_)
    · skip
      exact z_retv F rfl (by first | decide | assumption | omega) (by first | decide | assumption | omega) dX6_requireStepMinutes_22 ⟨rfl, (by first | assumption | omega), rfl⟩
    · skip
      exact z_thr (text := "minutes out of range") F zfi_IAE zk_IAE zi_IAE (by decide) zat_IAE zab_IAE zcc_IAE zgd_IAE dX6_requireStepMinutes_12 dX6_requireStepMinutes_15 dX6_requireStepMinutes_16 dX6_requireStepMinutes_18 dX6_requireStepMinutes_21 (by decide) (Nat.le_of_ble_eq_true rfl) (by first | decide | assumption | omega) (by first | decide | assumption | omega) ⟨rfl, (by first | assumption | omega), rfl⟩

abbrev rX6_requireService : Room := { frames := 6, cells := 1, slots := 6, locals := 92 }
set_option maxRecDepth 100000 in
set_option maxHeartbeats 4000000 in
theorem c_X6_requireService {l : Launch} (hfl : l.stackTraces = false) (G : zG) {s t : zS} {o : zOx} (hc : zC1 s) (hb9 : zB s) {a : Int} (ha : zR a)  : zCn l G yX6_requireService (.code yX6_requireService cX6_requireService 2 none) rX6_requireService [.ref 0, .int (zI a)] (zAll s t o) (zRv (fun M2 => (0 ≤ a ∧ a < s 4 0 0) ∧ M2 = (zAll s t o))) (fun E M2 => E = "java/lang/IndexOutOfBoundsException" ∧ ¬ (0 ≤ a ∧ a < s 4 0 0) ∧ M2 = (zAll s t o)) := by
  refine zStart hfl (by decide) (own := RX6) rfl [(0, .ref 0), (1, .int (zI a))] (Nat.le_of_ble_eq_true rfl) rfl (fun k hkl hinit hk0 F => ?_)
  have hn0 := hc.1
  have hn4 := hc.2.1
  have hn9 := hc.2.2.1
  have hn14 := hc.2.2.2.1
  have hn18 := hc.2.2.2.2.1
  refine z_iload_n F 1 dX6_requireService_0 rfl rfl ?_
  refine z_if_lt F 15 dX6_requireService_1 (by decide) (by omega) (fun c_1 => ?_) (fun c_1 => ?_)
  · skip
    exact z_thr (text := "no such service") F zfi_IOO zk_IOO zi_IOO (by decide) zat_IOO zab_IOO zcc_IOO zgd_IOO dX6_requireService_15 dX6_requireService_18 dX6_requireService_19 dX6_requireService_21 dX6_requireService_24 (by decide) (Nat.le_of_ble_eq_true rfl) (by first | decide | assumption | omega) (by first | decide | assumption | omega) ⟨rfl, (by first | assumption | omega), rfl⟩
  · skip
    refine z_iload_n F 1 dX6_requireService_4 rfl rfl ?_
    refine z_aload_n F 0 dX6_requireService_5 rfl rfl ?_
    refine z_get F fl_X6_16 (zAll_0 s t o) rfl dX6_requireService_6 ?_
    refine z_callV F [] [.int (zI a)] (c_Jx4a65c_size_8abf5 F.2.2.1 G (zAll s t o) (zAll_65 s t o)) cv_X6_52 (zAll_65 s t o) rfl rfl rfl ⟨by decide, by decide⟩ ⟨by decide, by decide⟩ (Nat.le_of_ble_eq_true rfl) dX6_requireService_9 z_nx (z_ki (fun x_2 M_2 h_2 => ?_))
    have hx9 := (h_2).1.symm
    have hm9 := (h_2).2.symm
    subst hx9
    subst hm9
    refine z_icmp_lt F 25 dX6_requireService_12 (by decide) (by omega) (by omega) (fun c_3 => ?_) (fun c_3 => ?_)
    · skip
      exact z_retv F rfl (by first | decide | assumption | omega) (by first | decide | assumption | omega) dX6_requireService_25 ⟨rfl, (by first | assumption | omega), rfl⟩
    · skip
      exact z_thr (text := "no such service") F zfi_IOO zk_IOO zi_IOO (by decide) zat_IOO zab_IOO zcc_IOO zgd_IOO dX6_requireService_15 dX6_requireService_18 dX6_requireService_19 dX6_requireService_21 dX6_requireService_24 (by decide) (Nat.le_of_ble_eq_true rfl) (by first | decide | assumption | omega) (by first | decide | assumption | omega) ⟨rfl, (by first | assumption | omega), rfl⟩

abbrev rX6_requireVisit : Room := { frames := 6, cells := 1, slots := 6, locals := 92 }
set_option maxRecDepth 100000 in
set_option maxHeartbeats 4000000 in
theorem c_X6_requireVisit {l : Launch} (hfl : l.stackTraces = false) (G : zG) {s t : zS} {o : zOx} (hc : zC1 s) (hb9 : zB s) {a : Int} (ha : zR a)  : zCn l G yX6_requireVisit (.code yX6_requireVisit cX6_requireVisit 2 none) rX6_requireVisit [.ref 0, .int (zI a)] (zAll s t o) (zRv (fun M2 => (0 ≤ a ∧ a < s 9 0 0) ∧ M2 = (zAll s t o))) (fun E M2 => E = "java/lang/IndexOutOfBoundsException" ∧ ¬ (0 ≤ a ∧ a < s 9 0 0) ∧ M2 = (zAll s t o)) := by
  refine zStart hfl (by decide) (own := RX6) rfl [(0, .ref 0), (1, .int (zI a))] (Nat.le_of_ble_eq_true rfl) rfl (fun k hkl hinit hk0 F => ?_)
  have hn0 := hc.1
  have hn4 := hc.2.1
  have hn9 := hc.2.2.1
  have hn14 := hc.2.2.2.1
  have hn18 := hc.2.2.2.2.1
  refine z_iload_n F 1 dX6_requireVisit_0 rfl rfl ?_
  refine z_if_lt F 15 dX6_requireVisit_1 (by decide) (by omega) (fun c_1 => ?_) (fun c_1 => ?_)
  · skip
    exact z_thr (text := "no such visit") F zfi_IOO zk_IOO zi_IOO (by decide) zat_IOO zab_IOO zcc_IOO zgd_IOO dX6_requireVisit_15 dX6_requireVisit_18 dX6_requireVisit_19 dX6_requireVisit_21 dX6_requireVisit_24 (by decide) (Nat.le_of_ble_eq_true rfl) (by first | decide | assumption | omega) (by first | decide | assumption | omega) ⟨rfl, (by first | assumption | omega), rfl⟩
  · skip
    refine z_iload_n F 1 dX6_requireVisit_4 rfl rfl ?_
    refine z_aload_n F 0 dX6_requireVisit_5 rfl rfl ?_
    refine z_get F fl_X6_19 (zAll_0 s t o) rfl dX6_requireVisit_6 ?_
    refine z_callV F [] [.int (zI a)] (c_Jx4a65c_size_8abf5 F.2.2.1 G (zAll s t o) (zAll_129 s t o)) cv_X6_52 (zAll_129 s t o) rfl rfl rfl ⟨by decide, by decide⟩ ⟨by decide, by decide⟩ (Nat.le_of_ble_eq_true rfl) dX6_requireVisit_9 z_nx (z_ki (fun x_2 M_2 h_2 => ?_))
    have hx9 := (h_2).1.symm
    have hm9 := (h_2).2.symm
    subst hx9
    subst hm9
    refine z_icmp_lt F 25 dX6_requireVisit_12 (by decide) (by omega) (by omega) (fun c_3 => ?_) (fun c_3 => ?_)
    · skip
      exact z_retv F rfl (by first | decide | assumption | omega) (by first | decide | assumption | omega) dX6_requireVisit_25 ⟨rfl, (by first | assumption | omega), rfl⟩
    · skip
      exact z_thr (text := "no such visit") F zfi_IOO zk_IOO zi_IOO (by decide) zat_IOO zab_IOO zcc_IOO zgd_IOO dX6_requireVisit_15 dX6_requireVisit_18 dX6_requireVisit_19 dX6_requireVisit_21 dX6_requireVisit_24 (by decide) (Nat.le_of_ble_eq_true rfl) (by first | decide | assumption | omega) (by first | decide | assumption | omega) ⟨rfl, (by first | assumption | omega), rfl⟩

abbrev rX6_requireMember : Room := { frames := 6, cells := 1, slots := 6, locals := 92 }
set_option maxRecDepth 100000 in
set_option maxHeartbeats 4000000 in
theorem c_X6_requireMember {l : Launch} (hfl : l.stackTraces = false) (G : zG) {s t : zS} {o : zOx} (hc : zC1 s) (hb9 : zB s) {a : Int} (ha : zR a)  : zCn l G yX6_requireMember (.code yX6_requireMember cX6_requireMember 2 none) rX6_requireMember [.ref 0, .int (zI a)] (zAll s t o) (zRv (fun M2 => (0 ≤ a ∧ a < s 0 0 0) ∧ M2 = (zAll s t o))) (fun E M2 => E = "java/lang/IndexOutOfBoundsException" ∧ ¬ (0 ≤ a ∧ a < s 0 0 0) ∧ M2 = (zAll s t o)) := by
  refine zStart hfl (by decide) (own := RX6) rfl [(0, .ref 0), (1, .int (zI a))] (Nat.le_of_ble_eq_true rfl) rfl (fun k hkl hinit hk0 F => ?_)
  have hn0 := hc.1
  have hn4 := hc.2.1
  have hn9 := hc.2.2.1
  have hn14 := hc.2.2.2.1
  have hn18 := hc.2.2.2.2.1
  refine z_aload_n F 0 dX6_requireMember_0 rfl rfl ?_
  refine z_iload_n F 1 dX6_requireMember_1 rfl rfl ?_
  refine z_callV F [.int (zI a)] [] (c_X6_isMember F.2.2.1 G hc hb9 ha) cv_X6_242 (zAll_0 s t o) rfl rfl rfl ⟨by decide, by decide⟩ ⟨by decide, by decide⟩ (Nat.le_of_ble_eq_true rfl) dX6_requireMember_2 z_nx (z_ki (fun x_1 M_1 h_1 => ?_))
  have hx9 := (h_1).1.symm
  have hm9 := (h_1).2.symm
  subst hx9
  subst hm9
  have hz : zR (if 0 ≤ a ∧ a < s 0 0 0 then 1 else 0) := zR_if
  refine z_if_ne F 18 dX6_requireMember_5 (by decide) (by omega) (fun c_2 => ?_) (fun c_2 => ?_)
  · skip
    have hq9 : 0 ≤ a ∧ a < s 0 0 0 := Classical.byContradiction fun h => by rw [if_neg h] at c_2; omega
    exact z_retv F rfl (by first | decide | assumption | omega) (by first | decide | assumption | omega) dX6_requireMember_18 ⟨rfl, (by first | assumption | omega), rfl⟩
  · skip
    have hq9 : ¬ (0 ≤ a ∧ a < s 0 0 0) := fun h => by rw [if_pos h] at c_2; omega
    exact z_thr (text := "no such member of staff") F zfi_IOO zk_IOO zi_IOO (by decide) zat_IOO zab_IOO zcc_IOO zgd_IOO dX6_requireMember_8 dX6_requireMember_11 dX6_requireMember_12 dX6_requireMember_14 dX6_requireMember_17 (by decide) (Nat.le_of_ble_eq_true rfl) (by first | decide | assumption | omega) (by first | decide | assumption | omega) ⟨rfl, (by first | assumption | omega), rfl⟩

abbrev rX6_requireRoomForService : Room := { frames := 6, cells := 1, slots := 6, locals := 92 }
set_option maxRecDepth 100000 in
set_option maxHeartbeats 4000000 in
theorem c_X6_requireRoomForService {l : Launch} (hfl : l.stackTraces = false) (G : zG) {s t : zS} {o : zOx} (hc : zC1 s) (hb9 : zB s)   : zCn l G yX6_requireRoomForService (.code yX6_requireRoomForService cX6_requireRoomForService 1 none) rX6_requireRoomForService [.ref 0] (zAll s t o) (zRv (fun M2 => (s 4 0 0 < 8) ∧ M2 = (zAll s t o))) (fun E M2 => E = "java/lang/IllegalStateException" ∧ ¬ (s 4 0 0 < 8) ∧ M2 = (zAll s t o)) := by
  refine zStart hfl (by decide) (own := RX6) rfl [(0, .ref 0)] (Nat.le_of_ble_eq_true rfl) rfl (fun k hkl hinit hk0 F => ?_)
  have hn0 := hc.1
  have hn4 := hc.2.1
  have hn9 := hc.2.2.1
  have hn14 := hc.2.2.2.1
  have hn18 := hc.2.2.2.2.1
  refine z_aload_n F 0 dX6_requireRoomForService_0 rfl rfl ?_
  refine z_get F fl_X6_16 (zAll_0 s t o) rfl dX6_requireRoomForService_1 ?_
  refine z_callV F [] [] (c_Jx4a65c_size_8abf5 F.2.2.1 G (zAll s t o) (zAll_65 s t o)) cv_X6_52 (zAll_65 s t o) rfl rfl rfl ⟨by decide, by decide⟩ ⟨by decide, by decide⟩ (Nat.le_of_ble_eq_true rfl) dX6_requireRoomForService_4 z_nx (z_ki (fun x_1 M_1 h_1 => ?_))
  have hx9 := (h_1).1.symm
  have hm9 := (h_1).2.symm
  subst hx9
  subst hm9
  refine z_bipush (z := 8) F dX6_requireRoomForService_7 (by decide) ?_
  refine z_icmp_lt F 22 dX6_requireRoomForService_9 (by decide) (by omega) ⟨by decide, by decide⟩ (fun c_2 => ?_) (fun c_2 => ?_)
  · skip
    exact z_retv F rfl (by first | decide | assumption | omega) (by first | decide | assumption | omega) dX6_requireRoomForService_22 ⟨rfl, (by first | assumption | omega), rfl⟩
  · skip
    exact z_thr (text := "no more services") F zfi_ISE zk_ISE zi_ISE (by decide) zat_ISE zab_ISE zcc_ISE zgd_ISE dX6_requireRoomForService_12 dX6_requireRoomForService_15 dX6_requireRoomForService_16 dX6_requireRoomForService_18 dX6_requireRoomForService_21 (by decide) (Nat.le_of_ble_eq_true rfl) (by first | decide | assumption | omega) (by first | decide | assumption | omega) ⟨rfl, (by first | assumption | omega), rfl⟩

abbrev rX6_requireRoomForVisit : Room := { frames := 6, cells := 1, slots := 6, locals := 92 }
set_option maxRecDepth 100000 in
set_option maxHeartbeats 4000000 in
theorem c_X6_requireRoomForVisit {l : Launch} (hfl : l.stackTraces = false) (G : zG) {s t : zS} {o : zOx} (hc : zC1 s) (hb9 : zB s)   : zCn l G yX6_requireRoomForVisit (.code yX6_requireRoomForVisit cX6_requireRoomForVisit 1 none) rX6_requireRoomForVisit [.ref 0] (zAll s t o) (zRv (fun M2 => (s 9 0 0 < 30) ∧ M2 = (zAll s t o))) (fun E M2 => E = "java/lang/IllegalStateException" ∧ ¬ (s 9 0 0 < 30) ∧ M2 = (zAll s t o)) := by
  refine zStart hfl (by decide) (own := RX6) rfl [(0, .ref 0)] (Nat.le_of_ble_eq_true rfl) rfl (fun k hkl hinit hk0 F => ?_)
  have hn0 := hc.1
  have hn4 := hc.2.1
  have hn9 := hc.2.2.1
  have hn14 := hc.2.2.2.1
  have hn18 := hc.2.2.2.2.1
  refine z_aload_n F 0 dX6_requireRoomForVisit_0 rfl rfl ?_
  refine z_get F fl_X6_19 (zAll_0 s t o) rfl dX6_requireRoomForVisit_1 ?_
  refine z_callV F [] [] (c_Jx4a65c_size_8abf5 F.2.2.1 G (zAll s t o) (zAll_129 s t o)) cv_X6_52 (zAll_129 s t o) rfl rfl rfl ⟨by decide, by decide⟩ ⟨by decide, by decide⟩ (Nat.le_of_ble_eq_true rfl) dX6_requireRoomForVisit_4 z_nx (z_ki (fun x_1 M_1 h_1 => ?_))
  have hx9 := (h_1).1.symm
  have hm9 := (h_1).2.symm
  subst hx9
  subst hm9
  refine z_bipush (z := 30) F dX6_requireRoomForVisit_7 (by decide) ?_
  refine z_icmp_lt F 23 dX6_requireRoomForVisit_9 (by decide) (by omega) ⟨by decide, by decide⟩ (fun c_2 => ?_) (fun c_2 => ?_)
  · skip
    exact z_retv F rfl (by first | decide | assumption | omega) (by first | decide | assumption | omega) dX6_requireRoomForVisit_23 ⟨rfl, (by first | assumption | omega), rfl⟩
  · skip
    exact z_thrW (text := "no more visits") F zfi_ISE zk_ISE zi_ISE (by decide) zat_ISE zab_ISE zcc_ISE zgd_ISE dX6_requireRoomForVisit_12 dX6_requireRoomForVisit_15 dX6_requireRoomForVisit_16 dX6_requireRoomForVisit_19 dX6_requireRoomForVisit_22 (by decide) (Nat.le_of_ble_eq_true rfl) (by first | decide | assumption | omega) (by first | decide | assumption | omega) ⟨rfl, (by first | assumption | omega), rfl⟩

theorem zDat_m {s t : zS} {o : zOx} (h : 0 < s 0 0 0) : zAll s t o 1 = some (zOb 0 [.int (zI (s 0 0 0)), .ref 2, .int (zI (s 0 0 0))]) ∧ zAll s t o 2 = some (zAr 4 10 (fun j => if (j : Int) < s 0 0 0 then some (64 * j + 9) else none)) := by
  refine ⟨?_, ?_⟩
  · rw [zAll_1, show zDat s 0 = 2 from if_neg (by omega)]
  · exact (zAll_c (kd := 2) (i := 0) (by decide)).trans (if_pos ⟨rfl, h⟩)
theorem zDat_s {s t : zS} {o : zOx} (h : 0 < s 4 0 0) : zAll s t o 65 = some (zOb 0 [.int (zI (s 4 0 0)), .ref 66, .int (zI (s 4 0 0))]) ∧ zAll s t o 66 = some (zAr 4 10 (fun j => if (j : Int) < s 4 0 0 then some (64 * j + 10) else none)) := by
  refine ⟨?_, ?_⟩
  · rw [zAll_65, show zDat s 1 = 66 from if_neg (by omega)]
  · exact (zAll_c (kd := 2) (i := 1) (by decide)).trans (if_pos ⟨rfl, h⟩)
theorem zDat_q {s t : zS} {o : zOx} (h : 0 < s 18 0 0) : zAll s t o 193 = some (zOb 0 [.int (zI (2 * s 18 0 0 - s 14 0 0)), .ref 194, .int (zI (s 14 0 0))]) ∧ zAll s t o 194 = some (zAr 4 10 (fun j => if (j : Int) < s 14 0 0 then some (64 * (s 17 j 0).toNat + 15) else none)) := by
  refine ⟨?_, ?_⟩
  · rw [zAll_193, show zDat s 3 = 194 from if_neg (by omega)]
  · exact (zAll_c (kd := 2) (i := 3) (by decide)).trans (if_pos ⟨rfl, h⟩)
theorem zVer_4 (n : Int) : zVer n = 0 ∨ zVer n = 1 ∨ zVer n = 2 ∨ zVer n = 3 := by
  unfold zVer
  split
  · simp
  · split
    · simp
    · split <;> simp
theorem zVer_c {n : Int} (h0 : 0 < n) (h : n ≤ 30) : n ≤ zCap (zVer n) ∧ zMin (zVer n) ≤ n ∧ zCap (zVer n) < 1000 := by
  unfold zVer
  split
  · exact ⟨by show n ≤ 10; omega, by show 1 ≤ n; omega, by decide⟩
  · split
    · exact ⟨by show n ≤ 15; omega, by show 11 ≤ n; omega, by decide⟩
    · split
      · exact ⟨by show n ≤ 22; omega, by show 16 ≤ n; omega, by decide⟩
      · exact ⟨by show n ≤ 33; omega, by show 23 ≤ n; omega, by decide⟩
theorem zDat_va {s t : zS} {o : zOx} {v : Nat} (hv : v = 0 ∨ v = 1 ∨ v = 2 ∨ v = 3) (h : zMin v ≤ s 9 0 0) : zAll s t o (256 * v + 130) = some (zAr 4 (zCap v) (fun j => if (j : Int) < s 9 0 0 ∧ j < zCap v then some (64 * j + 14) else none)) := by
  rcases hv with rfl | rfl | rfl | rfl
  · exact (zAll_c (kd := 2) (i := 2) (by decide)).trans (if_pos ⟨by decide, h⟩)
  · exact (zAll_c (kd := 2) (i := 6) (by decide)).trans (if_pos ⟨by decide, h⟩)
  · exact (zAll_c (kd := 2) (i := 10) (by decide)).trans (if_pos ⟨by decide, h⟩)
  · exact (zAll_c (kd := 2) (i := 14) (by decide)).trans (if_pos ⟨by decide, h⟩)
theorem zDat_v {s t : zS} {o : zOx} (h : 0 < s 9 0 0) (h2 : s 9 0 0 ≤ 30) : zAll s t o 129 = some (zOb 0 [.int (zI (s 9 0 0)), .ref (256 * zVer (s 9 0 0) + 130), .int (zI (s 9 0 0))]) ∧ zAll s t o (256 * zVer (s 9 0 0) + 130) = some (zAr 4 (zCap (zVer (s 9 0 0))) (fun j => if (j : Int) < s 9 0 0 ∧ j < zCap (zVer (s 9 0 0)) then some (64 * j + 14) else none)) := by
  refine ⟨?_, zDat_va (zVer_4 _) (zVer_c h h2).2.1⟩
  rw [zAll_129, show zDat s 2 = 256 * zVer (s 9 0 0) + 130 from if_neg (by omega)]
theorem g_m {l : Launch} (hfl : l.stackTraces = false) (G : zG) {s t : zS} {o : zOx} (hc : zC1 s) {i : Int} (h0 : 0 ≤ i) (h1 : i < s 0 0 0) : zCn l G yJx4a65c_get_915e3 (.code yJx4a65c_get_915e3 cJx4a65c_get_915e3 2 (some (.object "java/lang/Object"))) rJx4a65c_get_915e3 [.ref 1, .int (zI i)] (zAll s t o) (zRr (fun xr M2 => xr = 64 * i.toNat + 9 ∧ M2 = (zAll s t o))) zN := by
  obtain ⟨e1, e2⟩ := zDat_m (t := t) (o := o) (show 0 < s 0 0 0 by omega)
  exact c_Jx4a65c_get_915e3 hfl G (zAll s t o) e1 e2 h0 h1 (by have := hc.1; omega) (by decide) (if_pos (by omega))
theorem g_s {l : Launch} (hfl : l.stackTraces = false) (G : zG) {s t : zS} {o : zOx} (hc : zC1 s) {i : Int} (h0 : 0 ≤ i) (h1 : i < s 4 0 0) : zCn l G yJx4a65c_get_915e3 (.code yJx4a65c_get_915e3 cJx4a65c_get_915e3 2 (some (.object "java/lang/Object"))) rJx4a65c_get_915e3 [.ref 65, .int (zI i)] (zAll s t o) (zRr (fun xr M2 => xr = 64 * i.toNat + 10 ∧ M2 = (zAll s t o))) zN := by
  obtain ⟨e1, e2⟩ := zDat_s (t := t) (o := o) (show 0 < s 4 0 0 by omega)
  exact c_Jx4a65c_get_915e3 hfl G (zAll s t o) e1 e2 h0 h1 (by have := hc.2.1; omega) (by decide) (if_pos (by omega))
theorem g_v {l : Launch} (hfl : l.stackTraces = false) (G : zG) {s t : zS} {o : zOx} (hc : zC1 s) {i : Int} (h0 : 0 ≤ i) (h1 : i < s 9 0 0) : zCn l G yJx4a65c_get_915e3 (.code yJx4a65c_get_915e3 cJx4a65c_get_915e3 2 (some (.object "java/lang/Object"))) rJx4a65c_get_915e3 [.ref 129, .int (zI i)] (zAll s t o) (zRr (fun xr M2 => xr = 64 * i.toNat + 14 ∧ M2 = (zAll s t o))) zN := by
  obtain ⟨e1, e2⟩ := zDat_v (t := t) (o := o) (show 0 < s 9 0 0 by omega) hc.2.2.1.2
  exact c_Jx4a65c_get_915e3 hfl G (zAll s t o) e1 e2 h0 h1 (zVer_c (show 0 < s 9 0 0 by omega) hc.2.2.1.2).1 (zVer_c (show 0 < s 9 0 0 by omega) hc.2.2.1.2).2.2 (if_pos ⟨by omega, by have := (zVer_c (show 0 < s 9 0 0 by omega) hc.2.2.1.2).1; omega⟩)
theorem g_q {l : Launch} (hfl : l.stackTraces = false) (G : zG) {s t : zS} {o : zOx} (hc : zC1 s) {i : Int} (h0 : 0 ≤ i) (h1 : i < s 14 0 0) : zCn l G yJx4a65c_get_915e3 (.code yJx4a65c_get_915e3 cJx4a65c_get_915e3 2 (some (.object "java/lang/Object"))) rJx4a65c_get_915e3 [.ref 193, .int (zI i)] (zAll s t o) (zRr (fun xr M2 => xr = 64 * (s 17 i.toNat 0).toNat + 15 ∧ M2 = (zAll s t o))) zN := by
  obtain ⟨e1, e2⟩ := zDat_q (t := t) (o := o) (show 0 < s 18 0 0 by have := hc.2.2.2.2.1; omega)
  exact c_Jx4a65c_get_915e3 hfl G (zAll s t o) e1 e2 h0 h1 (by have := hc.2.2.2.1; omega) (by decide) (if_pos (by omega))
abbrev rX6_lengthOf : Room := { frames := 7, cells := 1, slots := 6, locals := 113 }
set_option maxRecDepth 100000 in
set_option maxHeartbeats 4000000 in
theorem c_X6_lengthOf {l : Launch} (hfl : l.stackTraces = false) (G : zG) {s t : zS} {o : zOx} (hc : zC1 s) (hb9 : zB s) {a : Int} (ha : zR a)  : zCn l G yX6_lengthOf (.code yX6_lengthOf cX6_lengthOf 2 (some .int)) rX6_lengthOf [.ref 0, .int (zI a)] (zAll s t o) (zRi (fun xr M2 => (0 ≤ a ∧ a < s 4 0 0) ∧ xr = zLen s a.toNat ∧ M2 = (zAll s t o))) (fun E M2 => E = "java/lang/IndexOutOfBoundsException" ∧ ¬ (0 ≤ a ∧ a < s 4 0 0) ∧ M2 = (zAll s t o)) := by
  refine zStart hfl (by decide) (own := RX6) rfl [(0, .ref 0), (1, .int (zI a))] (Nat.le_of_ble_eq_true rfl) rfl (fun k hkl hinit hk0 F => ?_)
  have hn0 := hc.1
  have hn4 := hc.2.1
  have hn9 := hc.2.2.1
  have hn14 := hc.2.2.2.1
  have hn18 := hc.2.2.2.2.1
  refine z_aload_n F 0 dX6_lengthOf_0 rfl rfl ?_
  refine z_iload_n F 1 dX6_lengthOf_1 rfl rfl ?_
  refine z_callV F [.int (zI a)] [] (c_X6_requireService F.2.2.1 G hc hb9 ha) cv_X6_96 (zAll_0 s t o) rfl rfl rfl ⟨by decide, by decide⟩ ⟨by decide, by decide⟩ (Nat.le_of_ble_eq_true rfl) dX6_lengthOf_2 (fun E M9 h9 => z_xo F (by decide) (by decide) h9) (z_kv (fun M_1 h_1 => ?_))
  obtain ⟨hq1, hm9⟩ := h_1
  have hm9 := hm9.symm
  subst hm9
  refine z_aload_n F 0 dX6_lengthOf_5 rfl rfl ?_
  refine z_get F fl_X6_16 (zAll_0 s t o) rfl dX6_lengthOf_6 ?_
  refine z_iload_n F 1 dX6_lengthOf_9 rfl rfl ?_
  refine z_callV F [.int (zI a)] [] (g_s F.2.2.1 G hc (i := a) (by omega) (by omega)) cv_X6_99 (zAll_65 s t o) rfl rfl rfl ⟨by decide, by decide⟩ ⟨by decide, by decide⟩ (Nat.le_of_ble_eq_true rfl) dX6_lengthOf_10 z_nx (z_kr (fun x_2 M_2 h_2 => ?_))
  have hx9 := (h_2).1.symm
  have hm9 := (h_2).2.symm
  subst hx9
  subst hm9
  refine z_cast (ci := 5) F (zr_7 _ (List.mem_of_getElem? (i := 9) rfl)) (zAll_s t o (i := a.toNat) (by omega)) rfl dX6_lengthOf_13 ?_
  refine z_get F fl_X6_186 (zAll_s t o (i := a.toNat) (by omega)) rfl dX6_lengthOf_16 ?_
  exact z_reti F rfl (by first | decide | assumption | omega) (by first | decide | assumption | omega) dX6_lengthOf_19 ⟨_, rfl, by omega, rfl, rfl⟩

abbrev rX6_workOf : Room := { frames := 7, cells := 1, slots := 6, locals := 113 }
set_option maxRecDepth 100000 in
set_option maxHeartbeats 4000000 in
theorem c_X6_workOf {l : Launch} (hfl : l.stackTraces = false) (G : zG) {s t : zS} {o : zOx} (hc : zC1 s) (hb9 : zB s) {a : Int} (ha : zR a)  : zCn l G yX6_workOf (.code yX6_workOf cX6_workOf 2 (some .int)) rX6_workOf [.ref 0, .int (zI a)] (zAll s t o) (zRi (fun xr M2 => (0 ≤ a ∧ a < s 4 0 0) ∧ xr = zWork s a.toNat ∧ M2 = (zAll s t o))) (fun E M2 => E = "java/lang/IndexOutOfBoundsException" ∧ ¬ (0 ≤ a ∧ a < s 4 0 0) ∧ M2 = (zAll s t o)) := by
  refine zStart hfl (by decide) (own := RX6) rfl [(0, .ref 0), (1, .int (zI a))] (Nat.le_of_ble_eq_true rfl) rfl (fun k hkl hinit hk0 F => ?_)
  have hn0 := hc.1
  have hn4 := hc.2.1
  have hn9 := hc.2.2.1
  have hn14 := hc.2.2.2.1
  have hn18 := hc.2.2.2.2.1
  refine z_aload_n F 0 dX6_workOf_0 rfl rfl ?_
  refine z_iload_n F 1 dX6_workOf_1 rfl rfl ?_
  refine z_callV F [.int (zI a)] [] (c_X6_requireService F.2.2.1 G hc hb9 ha) cv_X6_96 (zAll_0 s t o) rfl rfl rfl ⟨by decide, by decide⟩ ⟨by decide, by decide⟩ (Nat.le_of_ble_eq_true rfl) dX6_workOf_2 (fun E M9 h9 => z_xo F (by decide) (by decide) h9) (z_kv (fun M_1 h_1 => ?_))
  obtain ⟨hq1, hm9⟩ := h_1
  have hm9 := hm9.symm
  subst hm9
  refine z_aload_n F 0 dX6_workOf_5 rfl rfl ?_
  refine z_get F fl_X6_16 (zAll_0 s t o) rfl dX6_workOf_6 ?_
  refine z_iload_n F 1 dX6_workOf_9 rfl rfl ?_
  refine z_callV F [.int (zI a)] [] (g_s F.2.2.1 G hc (i := a) (by omega) (by omega)) cv_X6_99 (zAll_65 s t o) rfl rfl rfl ⟨by decide, by decide⟩ ⟨by decide, by decide⟩ (Nat.le_of_ble_eq_true rfl) dX6_workOf_10 z_nx (z_kr (fun x_2 M_2 h_2 => ?_))
  have hx9 := (h_2).1.symm
  have hm9 := (h_2).2.symm
  subst hx9
  subst hm9
  refine z_cast (ci := 5) F (zr_7 _ (List.mem_of_getElem? (i := 9) rfl)) (zAll_s t o (i := a.toNat) (by omega)) rfl dX6_workOf_13 ?_
  refine z_get F fl_X6_189 (zAll_s t o (i := a.toNat) (by omega)) rfl dX6_workOf_16 ?_
  exact z_reti F rfl (by first | decide | assumption | omega) (by first | decide | assumption | omega) dX6_workOf_19 ⟨_, rfl, by omega, rfl, rfl⟩

abbrev rX6_startOf : Room := { frames := 7, cells := 1, slots := 6, locals := 113 }
set_option maxRecDepth 100000 in
set_option maxHeartbeats 4000000 in
theorem c_X6_startOf {l : Launch} (hfl : l.stackTraces = false) (G : zG) {s t : zS} {o : zOx} (hc : zC1 s) (hb9 : zB s) {a : Int} (ha : zR a)  : zCn l G yX6_startOf (.code yX6_startOf cX6_startOf 2 (some .int)) rX6_startOf [.ref 0, .int (zI a)] (zAll s t o) (zRi (fun xr M2 => (0 ≤ a ∧ a < s 9 0 0) ∧ xr = s 13 a.toNat 0 ∧ M2 = (zAll s t o))) (fun E M2 => E = "java/lang/IndexOutOfBoundsException" ∧ ¬ (0 ≤ a ∧ a < s 9 0 0) ∧ M2 = (zAll s t o)) := by
  refine zStart hfl (by decide) (own := RX6) rfl [(0, .ref 0), (1, .int (zI a))] (Nat.le_of_ble_eq_true rfl) rfl (fun k hkl hinit hk0 F => ?_)
  have hn0 := hc.1
  have hn4 := hc.2.1
  have hn9 := hc.2.2.1
  have hn14 := hc.2.2.2.1
  have hn18 := hc.2.2.2.2.1
  refine z_aload_n F 0 dX6_startOf_0 rfl rfl ?_
  refine z_iload_n F 1 dX6_startOf_1 rfl rfl ?_
  refine z_callV F [.int (zI a)] [] (c_X6_requireVisit F.2.2.1 G hc hb9 ha) cv_X6_195 (zAll_0 s t o) rfl rfl rfl ⟨by decide, by decide⟩ ⟨by decide, by decide⟩ (Nat.le_of_ble_eq_true rfl) dX6_startOf_2 (fun E M9 h9 => z_xo F (by decide) (by decide) h9) (z_kv (fun M_1 h_1 => ?_))
  obtain ⟨hq1, hm9⟩ := h_1
  have hm9 := hm9.symm
  subst hm9
  refine z_aload_n F 0 dX6_startOf_5 rfl rfl ?_
  refine z_get F fl_X6_19 (zAll_0 s t o) rfl dX6_startOf_6 ?_
  refine z_iload_n F 1 dX6_startOf_9 rfl rfl ?_
  refine z_callV F [.int (zI a)] [] (g_v F.2.2.1 G hc (i := a) (by omega) (by omega)) cv_X6_99 (zAll_129 s t o) rfl rfl rfl ⟨by decide, by decide⟩ ⟨by decide, by decide⟩ (Nat.le_of_ble_eq_true rfl) dX6_startOf_10 z_nx (z_kr (fun x_2 M_2 h_2 => ?_))
  have hx9 := (h_2).1.symm
  have hm9 := (h_2).2.symm
  subst hx9
  subst hm9
  refine z_cast (ci := 6) F (zr_10 _ (List.mem_of_getElem? (i := 9) rfl)) (zAll_v t o (i := a.toNat) (by omega)) rfl dX6_startOf_13 ?_
  refine z_get F fl_X6_144 (zAll_v t o (i := a.toNat) (by omega)) rfl dX6_startOf_16 ?_
  exact z_reti F rfl (by first | decide | assumption | omega) (by first | decide | assumption | omega) dX6_startOf_19 ⟨_, rfl, by omega, rfl, rfl⟩

abbrev rX6_staffOf : Room := { frames := 7, cells := 1, slots := 6, locals := 113 }
set_option maxRecDepth 100000 in
set_option maxHeartbeats 4000000 in
theorem c_X6_staffOf {l : Launch} (hfl : l.stackTraces = false) (G : zG) {s t : zS} {o : zOx} (hc : zC1 s) (hb9 : zB s) {a : Int} (ha : zR a)  : zCn l G yX6_staffOf (.code yX6_staffOf cX6_staffOf 2 (some .int)) rX6_staffOf [.ref 0, .int (zI a)] (zAll s t o) (zRi (fun xr M2 => (0 ≤ a ∧ a < s 9 0 0) ∧ xr = (if s 13 a.toNat 0 = -1 then -1 else s 11 a.toNat 0) ∧ M2 = (zAll s t o))) (fun E M2 => E = "java/lang/IndexOutOfBoundsException" ∧ ¬ (0 ≤ a ∧ a < s 9 0 0) ∧ M2 = (zAll s t o)) := by
  refine zStart hfl (by decide) (own := RX6) rfl [(0, .ref 0), (1, .int (zI a))] (Nat.le_of_ble_eq_true rfl) rfl (fun k hkl hinit hk0 F => ?_)
  have hn0 := hc.1
  have hn4 := hc.2.1
  have hn9 := hc.2.2.1
  have hn14 := hc.2.2.2.1
  have hn18 := hc.2.2.2.2.1
  refine z_aload_n F 0 dX6_staffOf_0 rfl rfl ?_
  refine z_iload_n F 1 dX6_staffOf_1 rfl rfl ?_
  refine z_callV F [.int (zI a)] [] (c_X6_requireVisit F.2.2.1 G hc hb9 ha) cv_X6_195 (zAll_0 s t o) rfl rfl rfl ⟨by decide, by decide⟩ ⟨by decide, by decide⟩ (Nat.le_of_ble_eq_true rfl) dX6_staffOf_2 (fun E M9 h9 => z_xo F (by decide) (by decide) h9) (z_kv (fun M_1 h_1 => ?_))
  obtain ⟨hq1, hm9⟩ := h_1
  have hm9 := hm9.symm
  subst hm9
  refine z_aload_n F 0 dX6_staffOf_5 rfl rfl ?_
  refine z_get F fl_X6_19 (zAll_0 s t o) rfl dX6_staffOf_6 ?_
  refine z_iload_n F 1 dX6_staffOf_9 rfl rfl ?_
  refine z_callV F [.int (zI a)] [] (g_v F.2.2.1 G hc (i := a) (by omega) (by omega)) cv_X6_99 (zAll_129 s t o) rfl rfl rfl ⟨by decide, by decide⟩ ⟨by decide, by decide⟩ (Nat.le_of_ble_eq_true rfl) dX6_staffOf_10 z_nx (z_kr (fun x_2 M_2 h_2 => ?_))
  have hx9 := (h_2).1.symm
  have hm9 := (h_2).2.symm
  subst hx9
  subst hm9
  refine z_cast (ci := 6) F (zr_10 _ (List.mem_of_getElem? (i := 9) rfl)) (zAll_v t o (i := a.toNat) (by omega)) rfl dX6_staffOf_13 ?_
  refine z_get F fl_X6_138 (zAll_v t o (i := a.toNat) (by omega)) rfl dX6_staffOf_16 ?_
  exact z_reti F rfl (by first | decide | assumption | omega) (by first | decide | assumption | omega) dX6_staffOf_19 ⟨_, rfl, by omega, rfl, rfl⟩

abbrev rX6_chairOf : Room := { frames := 7, cells := 1, slots := 6, locals := 113 }
set_option maxRecDepth 100000 in
set_option maxHeartbeats 4000000 in
theorem c_X6_chairOf {l : Launch} (hfl : l.stackTraces = false) (G : zG) {s t : zS} {o : zOx} (hc : zC1 s) (hb9 : zB s) {a : Int} (ha : zR a)  : zCn l G yX6_chairOf (.code yX6_chairOf cX6_chairOf 2 (some .int)) rX6_chairOf [.ref 0, .int (zI a)] (zAll s t o) (zRi (fun xr M2 => (0 ≤ a ∧ a < s 9 0 0) ∧ xr = (if s 13 a.toNat 0 = -1 then -1 else s 12 a.toNat 0) ∧ M2 = (zAll s t o))) (fun E M2 => E = "java/lang/IndexOutOfBoundsException" ∧ ¬ (0 ≤ a ∧ a < s 9 0 0) ∧ M2 = (zAll s t o)) := by
  refine zStart hfl (by decide) (own := RX6) rfl [(0, .ref 0), (1, .int (zI a))] (Nat.le_of_ble_eq_true rfl) rfl (fun k hkl hinit hk0 F => ?_)
  have hn0 := hc.1
  have hn4 := hc.2.1
  have hn9 := hc.2.2.1
  have hn14 := hc.2.2.2.1
  have hn18 := hc.2.2.2.2.1
  refine z_aload_n F 0 dX6_chairOf_0 rfl rfl ?_
  refine z_iload_n F 1 dX6_chairOf_1 rfl rfl ?_
  refine z_callV F [.int (zI a)] [] (c_X6_requireVisit F.2.2.1 G hc hb9 ha) cv_X6_195 (zAll_0 s t o) rfl rfl rfl ⟨by decide, by decide⟩ ⟨by decide, by decide⟩ (Nat.le_of_ble_eq_true rfl) dX6_chairOf_2 (fun E M9 h9 => z_xo F (by decide) (by decide) h9) (z_kv (fun M_1 h_1 => ?_))
  obtain ⟨hq1, hm9⟩ := h_1
  have hm9 := hm9.symm
  subst hm9
  refine z_aload_n F 0 dX6_chairOf_5 rfl rfl ?_
  refine z_get F fl_X6_19 (zAll_0 s t o) rfl dX6_chairOf_6 ?_
  refine z_iload_n F 1 dX6_chairOf_9 rfl rfl ?_
  refine z_callV F [.int (zI a)] [] (g_v F.2.2.1 G hc (i := a) (by omega) (by omega)) cv_X6_99 (zAll_129 s t o) rfl rfl rfl ⟨by decide, by decide⟩ ⟨by decide, by decide⟩ (Nat.le_of_ble_eq_true rfl) dX6_chairOf_10 z_nx (z_kr (fun x_2 M_2 h_2 => ?_))
  have hx9 := (h_2).1.symm
  have hm9 := (h_2).2.symm
  subst hx9
  subst hm9
  refine z_cast (ci := 6) F (zr_10 _ (List.mem_of_getElem? (i := 9) rfl)) (zAll_v t o (i := a.toNat) (by omega)) rfl dX6_chairOf_13 ?_
  refine z_get F fl_X6_141 (zAll_v t o (i := a.toNat) (by omega)) rfl dX6_chairOf_16 ?_
  exact z_reti F rfl (by first | decide | assumption | omega) (by first | decide | assumption | omega) dX6_chairOf_19 ⟨_, rfl, by omega, rfl, rfl⟩

abbrev rX6_serviceOf : Room := { frames := 7, cells := 1, slots := 6, locals := 113 }
set_option maxRecDepth 100000 in
set_option maxHeartbeats 4000000 in
theorem c_X6_serviceOf {l : Launch} (hfl : l.stackTraces = false) (G : zG) {s t : zS} {o : zOx} (hc : zC1 s) (hb9 : zB s) {a : Int} (ha : zR a)  : zCn l G yX6_serviceOf (.code yX6_serviceOf cX6_serviceOf 2 (some .int)) rX6_serviceOf [.ref 0, .int (zI a)] (zAll s t o) (zRi (fun xr M2 => (0 ≤ a ∧ a < s 9 0 0) ∧ xr = s 10 a.toNat 0 ∧ M2 = (zAll s t o))) (fun E M2 => E = "java/lang/IndexOutOfBoundsException" ∧ ¬ (0 ≤ a ∧ a < s 9 0 0) ∧ M2 = (zAll s t o)) := by
  refine zStart hfl (by decide) (own := RX6) rfl [(0, .ref 0), (1, .int (zI a))] (Nat.le_of_ble_eq_true rfl) rfl (fun k hkl hinit hk0 F => ?_)
  have hn0 := hc.1
  have hn4 := hc.2.1
  have hn9 := hc.2.2.1
  have hn14 := hc.2.2.2.1
  have hn18 := hc.2.2.2.2.1
  refine z_aload_n F 0 dX6_serviceOf_0 rfl rfl ?_
  refine z_iload_n F 1 dX6_serviceOf_1 rfl rfl ?_
  refine z_callV F [.int (zI a)] [] (c_X6_requireVisit F.2.2.1 G hc hb9 ha) cv_X6_195 (zAll_0 s t o) rfl rfl rfl ⟨by decide, by decide⟩ ⟨by decide, by decide⟩ (Nat.le_of_ble_eq_true rfl) dX6_serviceOf_2 (fun E M9 h9 => z_xo F (by decide) (by decide) h9) (z_kv (fun M_1 h_1 => ?_))
  obtain ⟨hq1, hm9⟩ := h_1
  have hm9 := hm9.symm
  subst hm9
  refine z_aload_n F 0 dX6_serviceOf_5 rfl rfl ?_
  refine z_get F fl_X6_19 (zAll_0 s t o) rfl dX6_serviceOf_6 ?_
  refine z_iload_n F 1 dX6_serviceOf_9 rfl rfl ?_
  refine z_callV F [.int (zI a)] [] (g_v F.2.2.1 G hc (i := a) (by omega) (by omega)) cv_X6_99 (zAll_129 s t o) rfl rfl rfl ⟨by decide, by decide⟩ ⟨by decide, by decide⟩ (Nat.le_of_ble_eq_true rfl) dX6_serviceOf_10 z_nx (z_kr (fun x_2 M_2 h_2 => ?_))
  have hx9 := (h_2).1.symm
  have hm9 := (h_2).2.symm
  subst hx9
  subst hm9
  have hvs := hc.2.2.2.2.2.2.2.2.2.2.1 a.toNat (by omega)
  refine z_cast (ci := 6) F (zr_10 _ (List.mem_of_getElem? (i := 9) rfl)) (zAll_v t o (i := a.toNat) (by omega)) rfl dX6_serviceOf_13 ?_
  refine z_get F fl_X6_151 (zAll_v t o (i := a.toNat) (by omega)) rfl dX6_serviceOf_16 ?_
  refine z_get F fl_X6_92 (zAll_s t o (i := (s 10 a.toNat 0).toNat) (by omega)) rfl dX6_serviceOf_19 ?_
  
  refine z_ti (y := s 10 a.toNat 0) (by omega) ?_
  exact z_reti F rfl (by first | decide | assumption | omega) (by first | decide | assumption | omega) dX6_serviceOf_22 ⟨_, rfl, by omega, rfl, rfl⟩

abbrev rX6_requestAt : Room := { frames := 6, cells := 1, slots := 6, locals := 92 }
set_option maxRecDepth 100000 in
set_option maxHeartbeats 4000000 in
theorem c_X6_requestAt {l : Launch} (hfl : l.stackTraces = false) (G : zG) {s t : zS} {o : zOx} (hc : zC1 s) (hb9 : zB s) {a : Int} (ha : zR a)  : zCn l G yX6_requestAt (.code yX6_requestAt cX6_requestAt 2 (some .int)) rX6_requestAt [.ref 0, .int (zI a)] (zAll s t o) (zRi (fun xr M2 => (0 ≤ a ∧ a < s 14 0 0) ∧ xr = s 19 (s 17 a.toNat 0).toNat 0 ∧ M2 = (zAll s t o))) (fun E M2 => E = "java/lang/IndexOutOfBoundsException" ∧ ¬ (0 ≤ a ∧ a < s 14 0 0) ∧ M2 = (zAll s t o)) := by
  refine zStart hfl (by decide) (own := RX6) rfl [(0, .ref 0), (1, .int (zI a))] (Nat.le_of_ble_eq_true rfl) rfl (fun k hkl hinit hk0 F => ?_)
  have hn0 := hc.1
  have hn4 := hc.2.1
  have hn9 := hc.2.2.1
  have hn14 := hc.2.2.2.1
  have hn18 := hc.2.2.2.2.1
  refine z_iload_n F 1 dX6_requestAt_0 rfl rfl ?_
  refine z_if_lt F 15 dX6_requestAt_1 (by decide) (by omega) (fun c_1 => ?_) (fun c_1 => ?_)
  · skip
    exact z_thr (text := "no such request") F zfi_IOO zk_IOO zi_IOO (by decide) zat_IOO zab_IOO zcc_IOO zgd_IOO dX6_requestAt_15 dX6_requestAt_18 dX6_requestAt_19 dX6_requestAt_21 dX6_requestAt_24 (by decide) (Nat.le_of_ble_eq_true rfl) (by first | decide | assumption | omega) (by first | decide | assumption | omega) ⟨rfl, by omega, rfl⟩
  · skip
    refine z_iload_n F 1 dX6_requestAt_4 rfl rfl ?_
    refine z_aload_n F 0 dX6_requestAt_5 rfl rfl ?_
    refine z_get F fl_X6_22 (zAll_0 s t o) rfl dX6_requestAt_6 ?_
    refine z_callV F [] [.int (zI a)] (c_Jx4a65c_size_8abf5 F.2.2.1 G (zAll s t o) (zAll_193 s t o)) cv_X6_52 (zAll_193 s t o) rfl rfl rfl ⟨by decide, by decide⟩ ⟨by decide, by decide⟩ (Nat.le_of_ble_eq_true rfl) dX6_requestAt_9 z_nx (z_ki (fun x_2 M_2 h_2 => ?_))
    have hx9 := (h_2).1.symm
    have hm9 := (h_2).2.symm
    subst hx9
    subst hm9
    refine z_icmp_lt F 25 dX6_requestAt_12 (by decide) (by omega) (by omega) (fun c_3 => ?_) (fun c_3 => ?_)
    · skip
      refine z_aload_n F 0 dX6_requestAt_25 rfl rfl ?_
      refine z_get F fl_X6_22 (zAll_0 s t o) rfl dX6_requestAt_26 ?_
      refine z_iload_n F 1 dX6_requestAt_29 rfl rfl ?_
      have hwi := hc.2.2.2.2.2.2.2.2.2.2.2.1 a.toNat (by omega)
      have hqs := hc.2.2.2.2.2.2.2.2.2.2.2.2.1 (s 17 a.toNat 0).toNat (by omega)
      refine z_callV F [.int (zI a)] [] (g_q F.2.2.1 G hc (i := a) (by omega) (by omega)) cv_X6_99 (zAll_193 s t o) rfl rfl rfl ⟨by decide, by decide⟩ ⟨by decide, by decide⟩ (Nat.le_of_ble_eq_true rfl) dX6_requestAt_30 z_nx (z_kr (fun x_4 M_4 h_4 => ?_))
      have hx9 := (h_4).1.symm
      have hm9 := (h_4).2.symm
      subst hx9
      subst hm9
      refine z_cast (ci := 4) F (zr_18 _ (List.mem_of_getElem? (i := 3) rfl)) (zAll_q t o (i := (s 17 a.toNat 0).toNat) (by omega)) rfl dX6_requestAt_33 ?_
      refine z_get F fl_X6_185 (zAll_q t o (i := (s 17 a.toNat 0).toNat) (by omega)) rfl dX6_requestAt_36 ?_
      refine z_get F fl_X6_92 (zAll_s t o (i := (s 19 ((s 17 a.toNat 0).toNat) 0).toNat) (by omega)) rfl dX6_requestAt_39 ?_
      refine z_ti (y := s 19 (s 17 a.toNat 0).toNat 0) (by omega) ?_
      exact z_reti F rfl (by first | decide | assumption | omega) (by first | decide | assumption | omega) dX6_requestAt_42 ⟨_, rfl, by omega, rfl, rfl⟩
    · skip
      exact z_thr (text := "no such request") F zfi_IOO zk_IOO zi_IOO (by decide) zat_IOO zab_IOO zcc_IOO zgd_IOO dX6_requestAt_15 dX6_requestAt_18 dX6_requestAt_19 dX6_requestAt_21 dX6_requestAt_24 (by decide) (Nat.le_of_ble_eq_true rfl) (by first | decide | assumption | omega) (by first | decide | assumption | omega) ⟨rfl, by omega, rfl⟩

