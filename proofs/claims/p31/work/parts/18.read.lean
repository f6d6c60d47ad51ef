/-! ===== the book: questions ===== -/
/-- a search may leave out what the candidates leave out -/
def zHA (s : zS) : Prop := ∀ (wo a : Nat) (f : Int), (a : Int) < s 4 0 0 → 0 ≤ f → zHc s wo a f
abbrev rX6_loadOf : Room := { frames := 7, cells := 1, slots := 6, locals := 113 }
set_option maxRecDepth 100000 in
set_option maxHeartbeats 4000000 in
theorem c_X6_loadOf {l : Launch} (hfl : l.stackTraces = false) (G : zG) {s t : zS} {o : zOx} (hc : zC1 s) (hb9 : zB s) {a : Int} (ha : zR a)  : zCn l G yX6_loadOf (.code yX6_loadOf cX6_loadOf 2 (some .int)) rX6_loadOf [.ref 0, .int (zI a)] (zAll s t o) (zRi (fun xr M2 => (0 ≤ a ∧ a < s 0 0 0) ∧ xr = zLoad s a ∧ M2 = (zAll s t o))) (fun E M2 => E = "java/lang/IndexOutOfBoundsException" ∧ ¬ (0 ≤ a ∧ a < s 0 0 0) ∧ M2 = (zAll s t o)) := by
  refine zStart hfl (by decide) (own := RX6) rfl [(0, .ref 0), (1, .int (zI a))] (Nat.le_of_ble_eq_true rfl) rfl (fun k hkl hinit hk0 F => ?_)
  have hn0 := hc.1
  have hn4 := hc.2.1
  have hn9 := hc.2.2.1
  have hn14 := hc.2.2.2.1
  have hn18 := hc.2.2.2.2.1
  refine z_aload_n F 0 dX6_loadOf_0 rfl rfl ?_
  refine z_iload_n F 1 dX6_loadOf_1 rfl rfl ?_
  refine z_callV F [.int (zI a)] [] (c_X6_requireMember F.2.2.1 G hc hb9 ha) cv_X6_130 (zAll_0 s t o) rfl rfl rfl ⟨by decide, by decide⟩ ⟨by decide, by decide⟩ (Nat.le_of_ble_eq_true rfl) dX6_loadOf_2 (fun E M9 h9 => z_xo F (by decide) (by decide) h9) (z_kv (fun M_1 h_1 => ?_))
  obtain ⟨hq1, hm9⟩ := h_1
  have hm9 := hm9.symm
  subst hm9
  refine z_aload_n F 0 dX6_loadOf_5 rfl rfl ?_
  refine z_iload_n F 1 dX6_loadOf_6 rfl rfl ?_
  refine z_callV F [.int (zI a)] [] (c_X6_workBookedWith F.2.2.1 G hc hb9 (by omega)) cv_X6_198 (zAll_0 s t o) rfl rfl rfl ⟨by decide, by decide⟩ ⟨by decide, by decide⟩ (Nat.le_of_ble_eq_true rfl) dX6_loadOf_7 z_nx (z_ki (fun x_2 M_2 h_2 => ?_))
  have hx9 := (h_2).1.symm
  have hm9 := (h_2).2.symm
  subst hx9
  subst hm9
  exact z_reti F rfl (by first | decide | assumption | omega) (by first | decide | assumption | omega) dX6_loadOf_10 ⟨_, rfl, by omega, rfl, rfl⟩

abbrev rX6_staffAt : Room := { frames := 7, cells := 2, slots := 12, locals := 113 }
set_option maxRecDepth 100000 in
set_option maxHeartbeats 4000000 in
theorem c_X6_staffAt {l : Launch} (hfl : l.stackTraces = false) (G : zG) {s t : zS} {o : zOx} (hc : zC1 s) (hb9 : zB s) {a x : Int} (ha : zR a) (hx : zR x)  : zCn l G yX6_staffAt (.code yX6_staffAt cX6_staffAt 3 (some .int)) rX6_staffAt [.ref 0, .int (zI a), .int (zI x)] (zAll s t o) (zRi (fun xr M2 => ((0 ≤ a ∧ a < s 0 0 0) ∧ 0 ≤ x ∧ x < 600) ∧ xr = s 21 (a.toNat + 4) x.toNat ∧ M2 = (zAll s t o))) (fun E M2 => E = "java/lang/IndexOutOfBoundsException" ∧ ¬ ((0 ≤ a ∧ a < s 0 0 0) ∧ 0 ≤ x ∧ x < 600) ∧ M2 = (zAll s t o)) := by
  refine zStart hfl (by decide) (own := RX6) rfl [(0, .ref 0), (1, .int (zI a)), (2, .int (zI x))] (Nat.le_of_ble_eq_true rfl) rfl (fun k hkl hinit hk0 F => ?_)
  have hn0 := hc.1
  have hn4 := hc.2.1
  have hn9 := hc.2.2.1
  have hn14 := hc.2.2.2.1
  have hn18 := hc.2.2.2.2.1
  refine z_aload_n F 0 dX6_staffAt_0 rfl rfl ?_
  refine z_iload_n F 1 dX6_staffAt_1 rfl rfl ?_
  refine z_callV F [.int (zI a)] [] (c_X6_requireMember F.2.2.1 G hc hb9 ha) cv_X6_130 (zAll_0 s t o) rfl rfl rfl ⟨by decide, by decide⟩ ⟨by decide, by decide⟩ (Nat.le_of_ble_eq_true rfl) dX6_staffAt_2 (fun E M9 h9 => z_xo F (by decide) (by decide) ⟨h9.1, fun h => h9.2.1 h.1, h9.2.2⟩) (z_kv (fun M_1 h_1 => ?_))
  obtain ⟨hq1, hm9⟩ := h_1
  have hm9 := hm9.symm
  subst hm9
  refine z_iload_n F 2 dX6_staffAt_5 rfl rfl ?_
  refine z_callS F [.int (zI x)] [] (c_X6_requireMinute F.2.2.1 G (t := t) (o := o) hc hb9 hx) cs_X6_120 rfl ⟨by decide, by decide⟩ ⟨by decide, by decide⟩ (Nat.le_of_ble_eq_true rfl) dX6_staffAt_6 (fun E M9 h9 => z_xo F (by decide) (by decide) ⟨h9.1, fun h => h9.2.1 h.2, h9.2.2⟩) (z_kv (fun M_2 h_2 => ?_))
  obtain ⟨hq2, hm9⟩ := h_2
  have hm9 := hm9.symm
  subst hm9
  refine z_aload_n F 0 dX6_staffAt_9 rfl rfl ?_
  refine z_get F fl_X6_10 (zAll_0 s t o) rfl dX6_staffAt_10 ?_
  refine z_iload_n F 1 dX6_staffAt_13 rfl rfl ?_
  refine z_callV F [.int (zI a)] [] (g_m F.2.2.1 G hc (i := a) (by omega) (by omega)) cv_X6_99 (zAll_1 s t o) rfl rfl rfl ⟨by decide, by decide⟩ ⟨by decide, by decide⟩ (Nat.le_of_ble_eq_true rfl) dX6_staffAt_14 z_nx (z_kr (fun x_3 M_3 h_3 => ?_))
  have hx9 := (h_3).1.symm
  have hm9 := (h_3).2.symm
  subst hx9
  subst hm9
  refine z_cast (ci := 2) F (zr_3 _ (List.mem_of_getElem? (i := 19) rfl)) (zAll_m t o (i := a.toNat) (by omega)) rfl dX6_staffAt_17 ?_
  refine z_get F fl_X6_202 (zAll_m t o (i := a.toNat) (by omega)) rfl dX6_staffAt_20 ?_
  refine z_iload_n F 2 dX6_staffAt_23 rfl rfl ?_
  refine z_callV F [.int (zI x)] [] (c_X0_at F.2.2.1 G hx (zAll s t o) (zAll_d6 t o (i := a.toNat + 4) (by omega)) (zAll_d7 t o (i := a.toNat + 4) (by omega)) (zAll_d8 t o (i := a.toNat + 4) (by omega))) cv_X6_206 (zAll_d6 t o (i := (a.toNat + 4)) (by omega)) rfl rfl rfl ⟨by decide, by decide⟩ ⟨by decide, by decide⟩ (Nat.le_of_ble_eq_true rfl) dX6_staffAt_24 z_nx (z_ki (fun x_4 M_4 h_4 => ?_))
  have hx9 := (h_4).1.symm
  have hm9 := (h_4).2.symm
  subst hx9
  subst hm9
  refine z_ti (y := s 21 (a.toNat + 4) x.toNat) (if_pos hq2) ?_
  exact z_reti F rfl (by first | decide | assumption | omega) (by first | decide | assumption | omega) dX6_staffAt_27 ⟨_, rfl, ⟨hq1, hq2⟩, rfl, rfl⟩

abbrev rX6_chairAt : Room := { frames := 7, cells := 1, slots := 6, locals := 112 }
set_option maxRecDepth 100000 in
set_option maxHeartbeats 4000000 in
theorem c_X6_chairAt {l : Launch} (hfl : l.stackTraces = false) (G : zG) {s t : zS} {o : zOx} (hc : zC1 s) (hb9 : zB s) {a x : Int} (ha : zR a) (hx : zR x)  : zCn l G yX6_chairAt (.code yX6_chairAt cX6_chairAt 3 (some .int)) rX6_chairAt [.ref 0, .int (zI a), .int (zI x)] (zAll s t o) (zRi (fun xr M2 => ((0 ≤ a ∧ a < 4) ∧ 0 ≤ x ∧ x < 600) ∧ xr = s 21 a.toNat x.toNat ∧ M2 = (zAll s t o))) (fun E M2 => E = "java/lang/IndexOutOfBoundsException" ∧ ¬ ((0 ≤ a ∧ a < 4) ∧ 0 ≤ x ∧ x < 600) ∧ M2 = (zAll s t o)) := by
  refine zStart hfl (by decide) (own := RX6) rfl [(0, .ref 0), (1, .int (zI a)), (2, .int (zI x))] (Nat.le_of_ble_eq_true rfl) rfl (fun k hkl hinit hk0 F => ?_)
  have hn0 := hc.1
  have hn4 := hc.2.1
  have hn9 := hc.2.2.1
  have hn14 := hc.2.2.2.1
  have hn18 := hc.2.2.2.2.1
  refine z_iload_n F 1 dX6_chairAt_0 rfl rfl ?_
  refine z_callS F [.int (zI a)] [] (c_X6_isChair F.2.2.1 G ha (zAll s t o)) cs_X6_209 rfl ⟨by decide, by decide⟩ ⟨by decide, by decide⟩ (Nat.le_of_ble_eq_true rfl) dX6_chairAt_1 z_nx (z_ki (fun x_1 M_1 h_1 => ?_))
  have hx9 := (h_1).1.symm
  have hm9 := (h_1).2.symm
  subst hx9
  subst hm9
  have hz : zR (if 0 ≤ a ∧ a < 4 then 1 else 0) := zR_if
  refine z_if_ne F 17 dX6_chairAt_4 (by decide) (by omega) (fun c_2 => ?_) (fun c_2 => ?_)
  · skip
    have hq9 : 0 ≤ a ∧ a < 4 := Classical.byContradiction fun h => by rw [if_neg h] at c_2; omega
    refine z_iload_n F 2 dX6_chairAt_17 rfl rfl ?_
    refine z_callS F [.int (zI x)] [] (c_X6_requireMinute F.2.2.1 G (t := t) (o := o) hc hb9 hx) cs_X6_120 rfl ⟨by decide, by decide⟩ ⟨by decide, by decide⟩ (Nat.le_of_ble_eq_true rfl) dX6_chairAt_18 (fun E M9 h9 => z_xo F (by decide) (by decide) ⟨h9.1, fun h => h9.2.1 h.2, h9.2.2⟩) (z_kv (fun M_3 h_3 => ?_))
    obtain ⟨hq2, hm9⟩ := h_3
    have hm9 := hm9.symm
    subst hm9
    refine z_aload_n F 0 dX6_chairAt_21 rfl rfl ?_
    refine z_get F fl_X6_27 (zAll_0 s t o) rfl dX6_chairAt_22 ?_
    refine z_iload_n F 1 dX6_chairAt_25 rfl rfl ?_
    refine z_aald3 (a := 64 * a.toNat + 6) F (zAll_3 s t o) (by omega) (by omega) (by decide) (if_pos (by omega)) dX6_chairAt_26 ?_
    refine z_iload_n F 2 dX6_chairAt_27 rfl rfl ?_
    refine z_callV F [.int (zI x)] [] (c_X0_at F.2.2.1 G hx (zAll s t o) (zAll_d6 t o (i := a.toNat) (by omega)) (zAll_d7 t o (i := a.toNat) (by omega)) (zAll_d8 t o (i := a.toNat) (by omega))) cv_X6_206 (zAll_d6 t o (i := a.toNat) (by omega)) rfl rfl rfl ⟨by decide, by decide⟩ ⟨by decide, by decide⟩ (Nat.le_of_ble_eq_true rfl) dX6_chairAt_28 z_nx (z_ki (fun x_4 M_4 h_4 => ?_))
    have hx9 := (h_4).1.symm
    have hm9 := (h_4).2.symm
    subst hx9
    subst hm9
    refine z_ti (y := s 21 a.toNat x.toNat) (if_pos hq2) ?_
    exact z_reti F rfl (by first | decide | assumption | omega) (by first | decide | assumption | omega) dX6_chairAt_31 ⟨_, rfl, ⟨hq9, hq2⟩, rfl, rfl⟩
  · skip
    have hq9 : ¬ (0 ≤ a ∧ a < 4) := fun h => by rw [if_pos h] at c_2; omega
    exact z_thr (text := "no such chair") F zfi_IOO zk_IOO zi_IOO (by decide) zat_IOO zab_IOO zcc_IOO zgd_IOO dX6_chairAt_7 dX6_chairAt_10 dX6_chairAt_11 dX6_chairAt_13 dX6_chairAt_16 (by decide) (Nat.le_of_ble_eq_true rfl) (by first | decide | assumption | omega) (by first | decide | assumption | omega) ⟨rfl, fun h => hq9 h.1, rfl⟩

abbrev rX6_earliest : Room := { frames := 7, cells := 2, slots := 12, locals := 162 }
set_option maxRecDepth 100000 in
set_option maxHeartbeats 4000000 in
theorem c_X6_earliest {l : Launch} (hfl : l.stackTraces = false) (G : zG) {s t : zS} {o : zOx} (hc : zC1 s) (hb9 : zB s) {a x : Int} (ha : zR a) (hx : zR x) (hH : zHA s)  : zCn l G yX6_earliest (.code yX6_earliest cX6_earliest 3 (some .int)) rX6_earliest [.ref 0, .int (zI a), .int (zI x)] (zAll s t o) (zRi (fun xr M2 => ((0 ≤ a ∧ a < s 4 0 0) ∧ 0 ≤ x ∧ x < 600) ∧ xr = zFind s (zBit 31) a.toNat x 600 ∧ ∃ c9 : Nat → Int, M2 = zAll s t (o.1, c9) ∧ (∀ m, c9 m = 0 ∨ c9 m = 1))) (fun E M2 => E = "java/lang/IndexOutOfBoundsException" ∧ ¬ ((0 ≤ a ∧ a < s 4 0 0) ∧ 0 ≤ x ∧ x < 600) ∧ M2 = (zAll s t o)) := by
  refine zStart hfl (by decide) (own := RX6) rfl [(0, .ref 0), (1, .int (zI a)), (2, .int (zI x))] (Nat.le_of_ble_eq_true rfl) rfl (fun k hkl hinit hk0 F => ?_)
  have hn0 := hc.1
  have hn4 := hc.2.1
  have hn9 := hc.2.2.1
  have hn14 := hc.2.2.2.1
  have hn18 := hc.2.2.2.2.1
  refine z_aload_n F 0 dX6_earliest_0 rfl rfl ?_
  refine z_iload_n F 1 dX6_earliest_1 rfl rfl ?_
  refine z_callV F [.int (zI a)] [] (c_X6_requireService F.2.2.1 G (t := t) (o := o) hc hb9 ha) cv_X6_96 (zAll_0 s t o) rfl rfl rfl ⟨by decide, by decide⟩ ⟨by decide, by decide⟩ (Nat.le_of_ble_eq_true rfl) dX6_earliest_2 (fun E M9 h9 => z_xo F (by decide) (by decide) ⟨h9.1, fun h => h9.2.1 h.1, h9.2.2⟩) (z_kv (fun M_1 h_1 => ?_))
  obtain ⟨hq1, hm9⟩ := h_1
  have hm9 := hm9.symm
  subst hm9
  refine z_iload_n F 2 dX6_earliest_5 rfl rfl ?_
  refine z_callS F [.int (zI x)] [] (c_X6_requireMinute F.2.2.1 G (t := t) (o := o) hc hb9 hx) cs_X6_120 rfl ⟨by decide, by decide⟩ ⟨by decide, by decide⟩ (Nat.le_of_ble_eq_true rfl) dX6_earliest_6 (fun E M9 h9 => z_xo F (by decide) (by decide) ⟨h9.1, fun h => h9.2.1 h.2, h9.2.2⟩) (z_kv (fun M_2 h_2 => ?_))
  obtain ⟨hq2, hm9⟩ := h_2
  have hm9 := hm9.symm
  subst hm9
  refine z_aload_n F 0 dX6_earliest_9 rfl rfl ?_
  refine z_aload_n F 0 dX6_earliest_10 rfl rfl ?_
  refine z_get F fl_X6_16 (zAll_0 s t o) rfl dX6_earliest_11 ?_
  refine z_iload_n F 1 dX6_earliest_14 rfl rfl ?_
  refine z_callV F [.int (zI a)] [.ref 0] (g_s F.2.2.1 G hc (i := a) (by omega) (by omega)) cv_X6_99 (zAll_65 s t o) rfl rfl rfl ⟨by decide, by decide⟩ ⟨by decide, by decide⟩ (Nat.le_of_ble_eq_true rfl) dX6_earliest_15 z_nx (z_kr (fun x_3 M_3 h_3 => ?_))
  have hx9 := (h_3).1.symm
  have hm9 := (h_3).2.symm
  subst hx9
  subst hm9
  refine z_cast (ci := 5) F (zr_7 _ (List.mem_of_getElem? (i := 9) rfl)) (zAll_s t o (i := a.toNat) (by omega)) rfl dX6_earliest_18 ?_
  refine z_bipush (z := 31) F dX6_earliest_21 (by decide) ?_
  refine z_iload_n F 2 dX6_earliest_23 rfl rfl ?_
  refine z_callV F [.ref (64 * a.toNat + 10), .int (zI 31), .int (zI x)] [] (c_X6_firstStart F.2.2.1 G (t := t) (o := o) hc hb9 (a := a.toNat) (wo := 31) (by omega) (by decide) (by omega) (hH 31 a.toNat x (by omega) (by omega))) cv_X6_155 (zAll_0 s t o) rfl rfl rfl ⟨by decide, by decide⟩ ⟨by decide, by decide⟩ (Nat.le_of_ble_eq_true rfl) dX6_earliest_24 z_nx (z_ki (fun x_4 M_4 h_4 => ?_))
  obtain ⟨hx9, ck, hm9, hk1⟩ := h_4
  subst hx9
  subst hm9
  exact z_reti F rfl (by first | decide | assumption | omega) (by first | decide | assumption | omega) dX6_earliest_27 ⟨_, rfl, ⟨hq1, hq2⟩, rfl, ck, rfl, hk1⟩

abbrev rX6_earliestByScan : Room := { frames := 7, cells := 2, slots := 12, locals := 163 }
set_option maxRecDepth 100000 in
set_option maxHeartbeats 4000000 in
theorem c_X6_earliestByScan {l : Launch} (hfl : l.stackTraces = false) (G : zG) {s t : zS} {o : zOx} (hc : zC1 s) (hb9 : zB s) {a x : Int} (ha : zR a) (hx : zR x)  : zCn l G yX6_earliestByScan (.code yX6_earliestByScan cX6_earliestByScan 3 (some .int)) rX6_earliestByScan [.ref 0, .int (zI a), .int (zI x)] (zAll s t o) (zRi (fun xr M2 => ((0 ≤ a ∧ a < s 4 0 0) ∧ 0 ≤ x ∧ x < 600) ∧ xr = zFind s (zBit 31) a.toNat x 600 ∧ M2 = (zAll s t o))) (fun E M2 => E = "java/lang/IndexOutOfBoundsException" ∧ ¬ ((0 ≤ a ∧ a < s 4 0 0) ∧ 0 ≤ x ∧ x < 600) ∧ M2 = (zAll s t o)) := by
  refine zStart hfl (by decide) (own := RX6) rfl [(0, .ref 0), (1, .int (zI a)), (2, .int (zI x))] (Nat.le_of_ble_eq_true rfl) rfl (fun k hkl hinit hk0 F => ?_)
  have hn0 := hc.1
  have hn4 := hc.2.1
  have hn9 := hc.2.2.1
  have hn14 := hc.2.2.2.1
  have hn18 := hc.2.2.2.2.1
  refine z_aload_n F 0 dX6_earliestByScan_0 rfl rfl ?_
  refine z_iload_n F 1 dX6_earliestByScan_1 rfl rfl ?_
  refine z_callV F [.int (zI a)] [] (c_X6_requireService F.2.2.1 G (t := t) (o := o) hc hb9 ha) cv_X6_96 (zAll_0 s t o) rfl rfl rfl ⟨by decide, by decide⟩ ⟨by decide, by decide⟩ (Nat.le_of_ble_eq_true rfl) dX6_earliestByScan_2 (fun E M9 h9 => z_xo F (by decide) (by decide) ⟨h9.1, fun h => h9.2.1 h.1, h9.2.2⟩) (z_kv (fun M_1 h_1 => ?_))
  obtain ⟨hq1, hm9⟩ := h_1
  have hm9 := hm9.symm
  subst hm9
  refine z_iload_n F 2 dX6_earliestByScan_5 rfl rfl ?_
  refine z_callS F [.int (zI x)] [] (c_X6_requireMinute F.2.2.1 G (t := t) (o := o) hc hb9 hx) cs_X6_120 rfl ⟨by decide, by decide⟩ ⟨by decide, by decide⟩ (Nat.le_of_ble_eq_true rfl) dX6_earliestByScan_6 (fun E M9 h9 => z_xo F (by decide) (by decide) ⟨h9.1, fun h => h9.2.1 h.2, h9.2.2⟩) (z_kv (fun M_2 h_2 => ?_))
  obtain ⟨hq2, hm9⟩ := h_2
  have hm9 := hm9.symm
  subst hm9
  refine z_aload_n F 0 dX6_earliestByScan_9 rfl rfl ?_
  refine z_aload_n F 0 dX6_earliestByScan_10 rfl rfl ?_
  refine z_get F fl_X6_16 (zAll_0 s t o) rfl dX6_earliestByScan_11 ?_
  refine z_iload_n F 1 dX6_earliestByScan_14 rfl rfl ?_
  refine z_callV F [.int (zI a)] [.ref 0] (g_s F.2.2.1 G hc (i := a) (by omega) (by omega)) cv_X6_99 (zAll_65 s t o) rfl rfl rfl ⟨by decide, by decide⟩ ⟨by decide, by decide⟩ (Nat.le_of_ble_eq_true rfl) dX6_earliestByScan_15 z_nx (z_kr (fun x_3 M_3 h_3 => ?_))
  have hx9 := (h_3).1.symm
  have hm9 := (h_3).2.symm
  subst hx9
  subst hm9
  refine z_cast (ci := 5) F (zr_7 _ (List.mem_of_getElem? (i := 9) rfl)) (zAll_s t o (i := a.toNat) (by omega)) rfl dX6_earliestByScan_18 ?_
  refine z_bipush (z := 31) F dX6_earliestByScan_21 (by decide) ?_
  refine z_iload_n F 2 dX6_earliestByScan_23 rfl rfl ?_
  refine z_sipush (z := 600) F dX6_earliestByScan_24 (by decide) ?_
  refine z_callV F [.ref (64 * a.toNat + 10), .int (zI 31), .int (zI x), .int (zI 600)] [] (c_X6_firstStartByScan F.2.2.1 G (t := t) (o := o) hc hb9 (a := a.toNat) (wo := 31) (by omega) (by decide) (by omega) (by omega)) cv_X6_214 (zAll_0 s t o) rfl rfl rfl ⟨by decide, by decide⟩ ⟨by decide, by decide⟩ (Nat.le_of_ble_eq_true rfl) dX6_earliestByScan_27 z_nx (z_ki (fun x_4 M_4 h_4 => ?_))
  have hx9 := (h_4).1.symm
  have hm9 := (h_4).2.symm
  subst hx9
  subst hm9
  exact z_reti F rfl (by first | decide | assumption | omega) (by first | decide | assumption | omega) dX6_earliestByScan_30 ⟨_, rfl, ⟨hq1, hq2⟩, rfl, rfl⟩

abbrev rX6_staffFor : Room := { frames := 7, cells := 2, slots := 12, locals := 162 }
set_option maxRecDepth 100000 in
set_option maxHeartbeats 4000000 in
theorem c_X6_staffFor {l : Launch} (hfl : l.stackTraces = false) (G : zG) {s t : zS} {o : zOx} (hc : zC1 s) (hb9 : zB s) {a x : Int} (ha : zR a) (hx : zR x) (hH : zHA s)  : zCn l G yX6_staffFor (.code yX6_staffFor cX6_staffFor 5 (some .int)) rX6_staffFor [.ref 0, .int (zI a), .int (zI x)] (zAll s t o) (zRi (fun xr M2 => ((0 ≤ a ∧ a < s 4 0 0) ∧ 0 ≤ x ∧ x < 600) ∧ xr = (if zFind s (zBit 31) a.toNat x 600 = -1 then -1 else zGet s (zBit 31) a.toNat (zFind s (zBit 31) a.toNat x 600)) ∧ ∃ c9 : Nat → Int, M2 = zAll s t (o.1, c9) ∧ (∀ m, c9 m = 0 ∨ c9 m = 1))) (fun E M2 => E = "java/lang/IndexOutOfBoundsException" ∧ ¬ ((0 ≤ a ∧ a < s 4 0 0) ∧ 0 ≤ x ∧ x < 600) ∧ M2 = (zAll s t o)) := by
  refine zStart hfl (by decide) (own := RX6) rfl [(0, .ref 0), (1, .int (zI a)), (2, .int (zI x))] (Nat.le_of_ble_eq_true rfl) rfl (fun k hkl hinit hk0 F => ?_)
  have hn0 := hc.1
  have hn4 := hc.2.1
  have hn9 := hc.2.2.1
  have hn14 := hc.2.2.2.1
  have hn18 := hc.2.2.2.2.1
  refine z_aload_n F 0 dX6_staffFor_0 rfl rfl ?_
  refine z_iload_n F 1 dX6_staffFor_1 rfl rfl ?_
  refine z_callV F [.int (zI a)] [] (c_X6_requireService F.2.2.1 G (t := t) (o := o) hc hb9 ha) cv_X6_96 (zAll_0 s t o) rfl rfl rfl ⟨by decide, by decide⟩ ⟨by decide, by decide⟩ (Nat.le_of_ble_eq_true rfl) dX6_staffFor_2 (fun E M9 h9 => z_xo F (by decide) (by decide) ⟨h9.1, fun h => h9.2.1 h.1, h9.2.2⟩) (z_kv (fun M_1 h_1 => ?_))
  obtain ⟨hq1, hm9⟩ := h_1
  have hm9 := hm9.symm
  subst hm9
  refine z_iload_n F 2 dX6_staffFor_5 rfl rfl ?_
  refine z_callS F [.int (zI x)] [] (c_X6_requireMinute F.2.2.1 G (t := t) (o := o) hc hb9 hx) cs_X6_120 rfl ⟨by decide, by decide⟩ ⟨by decide, by decide⟩ (Nat.le_of_ble_eq_true rfl) dX6_staffFor_6 (fun E M9 h9 => z_xo F (by decide) (by decide) ⟨h9.1, fun h => h9.2.1 h.2, h9.2.2⟩) (z_kv (fun M_2 h_2 => ?_))
  obtain ⟨hq2, hm9⟩ := h_2
  have hm9 := hm9.symm
  subst hm9
  refine z_aload_n F 0 dX6_staffFor_9 rfl rfl ?_
  refine z_get F fl_X6_16 (zAll_0 s t o) rfl dX6_staffFor_10 ?_
  refine z_iload_n F 1 dX6_staffFor_13 rfl rfl ?_
  refine z_callV F [.int (zI a)] [] (g_s F.2.2.1 G hc (i := a) (by omega) (by omega)) cv_X6_99 (zAll_65 s t o) rfl rfl rfl ⟨by decide, by decide⟩ ⟨by decide, by decide⟩ (Nat.le_of_ble_eq_true rfl) dX6_staffFor_14 z_nx (z_kr (fun x_3 M_3 h_3 => ?_))
  have hx9 := (h_3).1.symm
  have hm9 := (h_3).2.symm
  subst hx9
  subst hm9
  refine z_cast (ci := 5) F (zr_7 _ (List.mem_of_getElem? (i := 9) rfl)) (zAll_s t o (i := a.toNat) (by omega)) rfl dX6_staffFor_17 ?_
  refine z_astore_n F [(3, .ref (64 * a.toNat + 10)), (0, .ref 0), (1, .int (zI a)), (2, .int (zI x))] dX6_staffFor_20 rfl (by decide) rfl ?_
  refine z_aload_n F 1 dX6_staffFor_21 rfl rfl ?_
  refine z_aload_n F 0 dX6_staffFor_22 rfl rfl ?_
  refine z_bipush (z := 31) F dX6_staffFor_23 (by decide) ?_
  refine z_iload_n F 3 dX6_staffFor_25 rfl rfl ?_
  refine z_callV F [.ref (64 * a.toNat + 10), .int (zI 31), .int (zI x)] [] (c_X6_firstStart F.2.2.1 G (t := t) (o := o) hc hb9 (a := a.toNat) (wo := 31) (by omega) (by decide) (by omega) (hH 31 a.toNat x (by omega) (by omega))) cv_X6_155 (zAll_0 s t o) rfl rfl rfl ⟨by decide, by decide⟩ ⟨by decide, by decide⟩ (Nat.le_of_ble_eq_true rfl) dX6_staffFor_26 z_nx (z_ki (fun x_4 M_4 h_4 => ?_))
  obtain ⟨hx9, ck, hm9, hk1⟩ := h_4
  subst hx9
  subst hm9
  have hfr9 := zFind_r s (zBit 31) a.toNat x 600
  have hln := hc.len a.toNat
  refine z_istore F [(4, .int (zI (zFind s (zBit 31) a.toNat x 600))), (3, .ref (64 * a.toNat + 10)), (0, .ref 0), (1, .int (zI a)), (2, .int (zI x))] dX6_staffFor_29 (by decide) rfl ?_
  refine z_iload F 0 dX6_staffFor_31 rfl ?_
  refine z_iconst (z := -1) F dX6_staffFor_33 (by decide) ?_
  refine z_icmp_ne F 41 dX6_staffFor_34 (by decide) (by omega) ⟨by decide, by decide⟩ (fun c_5 => ?_) (fun c_5 => ?_)
  · skip
    have hne : ¬ zFind s (zBit 31) a.toNat x 600 = -1 := c_5
    refine z_aload_n F 2 dX6_staffFor_41 rfl rfl ?_
    refine z_aload_n F 1 dX6_staffFor_42 rfl rfl ?_
    refine z_bipush (z := 31) F dX6_staffFor_43 (by decide) ?_
    refine z_iload F 0 dX6_staffFor_45 rfl ?_
    refine z_callV F [.ref (64 * a.toNat + 10), .int (zI 31), .int (zI (zFind s (zBit 31) a.toNat x 600))] [] (c_X6_memberFor F.2.2.1 G (t := t) (o := (o.1, ck)) hc hb9 (a := a.toNat) (wo := 31) (by omega) (by decide) (by omega)) cv_X6_218 (zAll_0 s t (o.1, ck)) rfl rfl rfl ⟨by decide, by decide⟩ ⟨by decide, by decide⟩ (Nat.le_of_ble_eq_true rfl) dX6_staffFor_47 z_nx (z_ki (fun x_6 M_6 h_6 => ?_))
    have hx9 := (h_6).1.symm
    have hm9 := (h_6).2.symm
    subst hx9
    subst hm9
    exact z_reti F rfl (by first | decide | assumption | omega) (by first | decide | assumption | omega) dX6_staffFor_50 ⟨_, rfl, ⟨hq1, hq2⟩, (by first | exact (if_pos hne).symm | exact (if_neg hne).symm), ck, rfl, hk1⟩
  · skip
    have hne : zFind s (zBit 31) a.toNat x 600 = -1 := c_5
    refine z_iconst (z := -1) F dX6_staffFor_37 (by decide) ?_
    refine z_goto F 50 dX6_staffFor_38 (by decide) ?_
    exact z_reti F rfl (by first | decide | assumption | omega) (by first | decide | assumption | omega) dX6_staffFor_50 ⟨_, rfl, ⟨hq1, hq2⟩, (by first | exact (if_pos hne).symm | exact (if_neg hne).symm), ck, rfl, hk1⟩

/-- how many of the first chairs are taken in minute m -/
def zTkn (s : zS) (m : Nat) : Nat → Int
  | 0 => 0
  | c + 1 => zTkn s m c + if s 21 c m = -1 then 0 else 1
theorem zTkn_r (s : zS) (m : Nat) : ∀ c, 0 ≤ zTkn s m c ∧ zTkn s m c ≤ c
  | 0 => by simp [zTkn]
  | c + 1 => by
    have ih := zTkn_r s m c
    rw [zTkn]
    split <;> omega
def zPk (s : zS) : Nat → Int × Int
  | 0 => (0, 0)
  | m + 1 => if (zPk s m).2 < zTkn s m 4 then ((m : Int), zTkn s m 4) else zPk s m
theorem zPk_r (s : zS) : ∀ m : Nat, 0 ≤ (zPk s m).1 ∧ (zPk s m).1 ≤ (m : Int) ∧ 0 ≤ (zPk s m).2 ∧ (zPk s m).2 ≤ 4
  | 0 => by simp [zPk]
  | m + 1 => by
    have ih := zPk_r s m
    have h := zTkn_r s m 4
    rw [zPk]
    split
    · dsimp only; omega
    · omega
def zSum (s : zS) (w : Nat) : Nat → Int
  | 0 => 0
  | i + 1 => zSum s w i + if zBit w i = true then zLen s i else 0
theorem zSum_r {s : zS} (hc : zC1 s) (w : Nat) : ∀ i : Nat, 0 ≤ zSum s w i ∧ zSum s w i ≤ i * 1000
  | 0 => by simp [zSum]
  | i + 1 => by
    have ih := zSum_r hc w i
    have h := hc.len i
    rw [zSum]
    split <;> omega
def zFil (s : zS) (m : Int) : Nat → Int × Int
  | 0 => (0, 0)
  | w + 1 => if zSum s w (s 4 0 0).toNat ≤ m ∧ (zFil s m w).2 < zSum s w (s 4 0 0).toNat then ((w : Int), zSum s w (s 4 0 0).toNat) else zFil s m w
theorem zFil_r {s : zS} (hc : zC1 s) (m : Int) : ∀ w : Nat, 0 ≤ (zFil s m w).1 ∧ (zFil s m w).1 ≤ (w : Int) ∧ 0 ≤ (zFil s m w).2 ∧ (zFil s m w).2 ≤ 8000
  | 0 => by simp [zFil]
  | w + 1 => by
    have ih := zFil_r hc m w
    have h := zSum_r hc w (s 4 0 0).toNat
    have h2 := hc.2.1
    rw [zFil]
    split
    · dsimp only; omega
    · omega
theorem zSum_0 {s : zS} : ∀ i, zSum s 0 i = 0
  | 0 => rfl
  | i + 1 => by
    rw [zSum, zSum_0 i, if_neg (by unfold zBit; simp)]
    rfl
theorem zFil_1 (s : zS) (m : Int) : zFil s m 1 = (0, 0) := by
  rw [zFil, if_neg (by rw [zSum_0]; intro h; exact absurd h.2 (Int.lt_irrefl 0))]
  rfl
def zIn (s : zS) (v a : Nat) : Nat → Nat → Int
  | 0, _ => -1
  | n + 1, k => if s 6 (s 10 v 0).toNat k = -1 ∧ zFind s (zBit (2 ^ (s 11 v 0).toNat)) a (s 13 v 0 + zOff s (s 10 v 0).toNat k) (s 13 v 0 + zOff s (s 10 v 0).toNat (k + 1)) ≠ -1 then zFind s (zBit (2 ^ (s 11 v 0).toNat)) a (s 13 v 0 + zOff s (s 10 v 0).toNat k) (s 13 v 0 + zOff s (s 10 v 0).toNat (k + 1)) else zIn s v a n (k + 1)
def zRest (s : zS) (v a : Nat) : Int := zIn s v a (zSc s (s 10 v 0).toNat) 0
abbrev rX6_chairsTakenAt : Room := { frames := 2, cells := 0, slots := 0, locals := 41 }
set_option maxRecDepth 100000 in
set_option maxHeartbeats 4000000 in
theorem c_X6_chairsTakenAt {l : Launch} (hfl : l.stackTraces = false) (G : zG) {s t : zS} {o : zOx} (hc : zC1 s) (hb9 : zB s) {x : Int} (hx : 0 ≤ x ∧ x < 600) : zCn l G yX6_chairsTakenAt (.code yX6_chairsTakenAt cX6_chairsTakenAt 4 (some .int)) rX6_chairsTakenAt [.ref 0, .int (zI x)] (zAll s t o) (zRi (fun xr M2 => xr = zTkn s x.toNat 4 ∧ M2 = (zAll s t o))) zN := by
  refine zStart hfl (by decide) (own := RX6) rfl [(0, .ref 0), (1, .int (zI x))] (Nat.le_of_ble_eq_true rfl) rfl (fun k hkl hinit hk0 F => ?_)
  have hn0 := hc.1
  have hn4 := hc.2.1
  have hn9 := hc.2.2.1
  have hn14 := hc.2.2.2.1
  have hn18 := hc.2.2.2.2.1
  refine z_iconst (z := 0) F dX6_chairsTakenAt_0 (by decide) ?_
  refine z_istore_n F [(2, .int (zI 0)), (0, .ref 0), (1, .int (zI x))] dX6_chairsTakenAt_1 rfl (by decide) rfl ?_
  refine z_iconst (z := 0) F dX6_chairsTakenAt_2 (by decide) ?_
  refine z_istore_n F [(3, .int (zI 0)), (2, .int (zI 0)), (0, .ref 0), (1, .int (zI x))] dX6_chairsTakenAt_3 rfl (by decide) rfl ?_
  have L1 : ∀ (fuel : Nat) (w : Int) (u : Int), (4 - w).toNat < fuel → 0 ≤ w → w ≤ 4 → u = zTkn s x.toNat w.toNat → zJ k G rX6_chairsTakenAt 4 (zMQ k G rX6_chairsTakenAt (zRi (fun xr M2 => xr = zTkn s x.toNat 4 ∧ M2 = (zAll s t o))) zN) (zAll s t o) 0 0 4 [(0, .ref 0), (1, .int (zI x)), (2, .int (zI u)), (3, .int (zI w))] [] := by
    intro fuel
    induction fuel with
    | zero => intros; omega
    | succ fuel L1_ih =>
      intro w u hfuel hw1 hw2 hw3
      refine z_iload_n F 3 dX6_chairsTakenAt_4 rfl rfl ?_
      refine z_iconst (z := 4) F dX6_chairsTakenAt_5 (by decide) ?_
      refine z_icmp_ge F 32 dX6_chairsTakenAt_6 (by decide) (by omega) ⟨by decide, by decide⟩ (fun c_1 => ?_) (fun c_1 => ?_)
      · skip
        refine z_iload_n F 2 dX6_chairsTakenAt_32 rfl rfl ?_
        exact z_reti F rfl (by first | decide | assumption | omega) (by first | decide | assumption | omega) dX6_chairsTakenAt_33 ⟨_, rfl, by rw [hw3, show w = 4 by omega]; rfl, rfl⟩
      · skip
        refine z_aload_n F 0 dX6_chairsTakenAt_9 rfl rfl ?_
        refine z_get F fl_X6_27 (zAll_0 s t o) rfl dX6_chairsTakenAt_10 ?_
        refine z_iload_n F 3 dX6_chairsTakenAt_13 rfl rfl ?_
        refine z_aald3 (a := 64 * w.toNat + 6) F (zAll_3 s t o) (by omega) (by omega) (by decide) (if_pos (by omega)) dX6_chairsTakenAt_14 ?_
        refine z_iload_n F 1 dX6_chairsTakenAt_15 rfl rfl ?_
        refine z_callV F [.int (zI x)] [] (c_X0_at F.2.2.1 G (by omega) (zAll s t o) (zAll_d6 t o (i := w.toNat) (by omega)) (zAll_d7 t o (i := w.toNat) (by omega)) (zAll_d8 t o (i := w.toNat) (by omega))) cv_X6_206 (zAll_d6 t o (i := w.toNat) (by omega)) rfl rfl rfl ⟨by decide, by decide⟩ ⟨by decide, by decide⟩ (Nat.le_of_ble_eq_true rfl) dX6_chairsTakenAt_16 z_nx (z_ki (fun x_2 M_2 h_2 => ?_))
        have hx9 := (h_2).1.symm
        have hm9 := (h_2).2.symm
        subst hx9
        subst hm9
        refine z_ti (y := s 21 w.toNat x.toNat) (if_pos hx) ?_
        refine z_iconst (z := -1) F dX6_chairsTakenAt_19 (by decide) ?_
        have hb21 := hb9 21 w.toNat x.toNat
        have hur := zTkn_r s x.toNat w.toNat
        refine z_icmp_eq F 26 dX6_chairsTakenAt_20 (by decide) (by omega) ⟨by decide, by decide⟩ (fun c_3 => ?_) (fun c_3 => ?_)
        · skip
          have hcd : s 21 w.toNat x.toNat = -1 := c_3
          refine z_iinc F 3 [(3, .int (zI (w + 1))), (0, .ref 0), (1, .int (zI x)), (2, .int (zI u))] dX6_chairsTakenAt_26 rfl (by decide) rfl ?_
          refine z_goto F 4 dX6_chairsTakenAt_29 (by decide) ?_
          refine z_lv [(0, .ref 0), (1, .int (zI x)), (2, .int (zI u)), (3, .int (zI (w + 1)))] [1, 2, 3, 0] rfl ?_
          exact L1_ih (w + 1) u (by omega) (by omega) (by omega) (by rw [show (w + 1).toNat = w.toNat + 1 by omega, zTkn, ← hw3]; first | rw [if_neg hcd] | (rw [if_pos hcd]; omega))
        · skip
          have hcd : ¬ s 21 w.toNat x.toNat = -1 := c_3
          refine z_iinc F 2 [(2, .int (zI (u + 1))), (0, .ref 0), (1, .int (zI x)), (3, .int (zI w))] dX6_chairsTakenAt_23 rfl (by decide) rfl ?_
          refine z_iinc F 3 [(3, .int (zI (w + 1))), (2, .int (zI (u + 1))), (0, .ref 0), (1, .int (zI x))] dX6_chairsTakenAt_26 rfl (by decide) rfl ?_
          refine z_goto F 4 dX6_chairsTakenAt_29 (by decide) ?_
          refine z_lv [(0, .ref 0), (1, .int (zI x)), (2, .int (zI (u + 1))), (3, .int (zI (w + 1)))] [2, 3, 1, 0] rfl ?_
          exact L1_ih (w + 1) (u + 1) (by omega) (by omega) (by omega) (by rw [show (w + 1).toNat = w.toNat + 1 by omega, zTkn, ← hw3]; first | rw [if_neg hcd] | (rw [if_pos hcd]; omega))
  refine z_lv [(0, .ref 0), (1, .int (zI x)), (2, .int (zI 0)), (3, .int (zI 0))] [2, 3, 1, 0] rfl ?_
  exact L1 _ 0 0 (Nat.lt_succ_self _) (by omega) (by omega) rfl

abbrev rX6_peak : Room := { frames := 3, cells := 0, slots := 0, locals := 64 }
set_option maxRecDepth 100000 in
set_option maxHeartbeats 4000000 in
theorem c_X6_peak {l : Launch} (hfl : l.stackTraces = false) (G : zG) {s t : zS} {o : zOx} (hc : zC1 s) (hb9 : zB s)   : zCn l G yX6_peak (.code yX6_peak cX6_peak 5 (some .int)) rX6_peak [.ref 0] (zAll s t o) (zRi (fun xr M2 => xr = (zPk s 600).1 ∧ M2 = (zAll s t o))) zN := by
  refine zStart hfl (by decide) (own := RX6) rfl [(0, .ref 0)] (Nat.le_of_ble_eq_true rfl) rfl (fun k hkl hinit hk0 F => ?_)
  have hn0 := hc.1
  have hn4 := hc.2.1
  have hn9 := hc.2.2.1
  have hn14 := hc.2.2.2.1
  have hn18 := hc.2.2.2.2.1
  refine z_iconst (z := 0) F dX6_peak_0 (by decide) ?_
  refine z_istore_n F [(1, .int (zI 0)), (0, .ref 0)] dX6_peak_1 rfl (by decide) rfl ?_
  refine z_iconst (z := 0) F dX6_peak_2 (by decide) ?_
  refine z_istore_n F [(2, .int (zI 0)), (1, .int (zI 0)), (0, .ref 0)] dX6_peak_3 rfl (by decide) rfl ?_
  refine z_iconst (z := 0) F dX6_peak_4 (by decide) ?_
  refine z_istore_n F [(3, .int (zI 0)), (2, .int (zI 0)), (1, .int (zI 0)), (0, .ref 0)] dX6_peak_5 rfl (by decide) rfl ?_
  have L1 : ∀ (fuel : Nat) (w : Int) (b : Int) (m : Int), (600 - w).toNat < fuel → 0 ≤ w → w ≤ 600 → zPk s w.toNat = (b, m) → zJ k G rX6_peak 5 (zMQ k G rX6_peak (zRi (fun xr M2 => xr = (zPk s 600).1 ∧ M2 = (zAll s t o))) zN) (zAll s t o) 0 0 6 [(0, .ref 0), (1, .int (zI b)), (2, .int (zI m)), (3, .int (zI w))] [] := by
    intro fuel
    induction fuel with
    | zero => intros; omega
    | succ fuel L1_ih =>
      intro w b m hfuel hw1 hw2 hw3
      refine z_iload_n F 3 dX6_peak_6 rfl rfl ?_
      refine z_sipush (z := 600) F dX6_peak_7 (by decide) ?_
      refine z_icmp_ge F 37 dX6_peak_10 (by decide) (by omega) ⟨by decide, by decide⟩ (fun c_1 => ?_) (fun c_1 => ?_)
      · skip
        refine z_iload_n F 1 dX6_peak_37 rfl rfl ?_
        exact z_reti F rfl (by first | decide | assumption | omega) (by first | decide | assumption | omega) dX6_peak_38 ⟨_, rfl, by rw [show (600 : Nat) = w.toNat by omega, hw3], rfl⟩
      · skip
        refine z_aload_n F 0 dX6_peak_13 rfl rfl ?_
        refine z_iload_n F 3 dX6_peak_14 rfl rfl ?_
        refine z_callV F [.int (zI w)] [] (c_X6_chairsTakenAt F.2.2.1 G hc hb9 (by omega)) cv_X6_235 (zAll_0 s t o) rfl rfl rfl ⟨by decide, by decide⟩ ⟨by decide, by decide⟩ (Nat.le_of_ble_eq_true rfl) dX6_peak_15 z_nx (z_ki (fun x_2 M_2 h_2 => ?_))
        have hx9 := (h_2).1.symm
        have hm9 := (h_2).2.symm
        subst hx9
        subst hm9
        have hur := zTkn_r s w.toNat 4
        have hpr := zPk_r s w.toNat
        rw [hw3] at hpr
        dsimp only at hpr
        refine z_istore F [(4, .int (zI (zTkn s w.toNat 4))), (0, .ref 0), (1, .int (zI b)), (2, .int (zI m)), (3, .int (zI w))] dX6_peak_18 (by decide) rfl ?_
        refine z_iload F 0 dX6_peak_20 rfl ?_
        refine z_iload_n F 3 dX6_peak_22 rfl rfl ?_
        refine z_icmp_le F 31 dX6_peak_23 (by decide) (by omega) (by omega) (fun c_3 => ?_) (fun c_3 => ?_)
        · skip
          have hst : zPk s (w + 1).toNat = (b, m) := by
            rw [show (w + 1).toNat = w.toNat + 1 by omega, zPk, hw3, if_neg (by dsimp only; omega)]
          refine z_iinc F 4 [(3, .int (zI (w + 1))), (4, .int (zI (zTkn s w.toNat 4))), (0, .ref 0), (1, .int (zI b)), (2, .int (zI m))] dX6_peak_31 rfl (by decide) rfl ?_
          refine z_goto F 6 dX6_peak_34 (by decide) ?_
          refine z_lv [(0, .ref 0), (1, .int (zI b)), (2, .int (zI m)), (3, .int (zI (w + 1)))] [2, 3, 4, 0] rfl ?_
          exact L1_ih (w + 1) b m (by omega) (by omega) (by omega) hst
        · skip
          have hst : zPk s (w + 1).toNat = (w, zTkn s w.toNat 4) := by
            rw [show (w + 1).toNat = w.toNat + 1 by omega, zPk, hw3, if_pos (by dsimp only; omega), show ((w.toNat : Nat) : Int) = w by omega]
          refine z_iload_n F 4 dX6_peak_26 rfl rfl ?_
          refine z_istore_n F [(1, .int (zI w)), (4, .int (zI (zTkn s w.toNat 4))), (0, .ref 0), (2, .int (zI m)), (3, .int (zI w))] dX6_peak_27 rfl (by decide) rfl ?_
          refine z_iload F 1 dX6_peak_28 rfl ?_
          refine z_istore_n F [(2, .int (zI (zTkn s w.toNat 4))), (1, .int (zI w)), (4, .int (zI (zTkn s w.toNat 4))), (0, .ref 0), (3, .int (zI w))] dX6_peak_30 rfl (by decide) rfl ?_
          refine z_iinc F 4 [(3, .int (zI (w + 1))), (2, .int (zI (zTkn s w.toNat 4))), (1, .int (zI w)), (4, .int (zI (zTkn s w.toNat 4))), (0, .ref 0)] dX6_peak_31 rfl (by decide) rfl ?_
          refine z_goto F 6 dX6_peak_34 (by decide) ?_
          refine z_lv [(0, .ref 0), (1, .int (zI w)), (2, .int (zI (zTkn s w.toNat 4))), (3, .int (zI (w + 1)))] [4, 2, 1, 0] rfl ?_
          exact L1_ih (w + 1) w (zTkn s w.toNat 4) (by omega) (by omega) (by omega) hst
  refine z_lv [(0, .ref 0), (1, .int (zI 0)), (2, .int (zI 0)), (3, .int (zI 0))] [3, 2, 1, 0] rfl ?_
  exact L1 _ 0 0 0 (Nat.lt_succ_self _) (by omega) (by omega) rfl

abbrev rX6_requireUndropped : Room := { frames := 7, cells := 2, slots := 12, locals := 113 }
set_option maxRecDepth 100000 in
set_option maxHeartbeats 4000000 in
theorem c_X6_requireUndropped {l : Launch} (hfl : l.stackTraces = false) (G : zG) {s t : zS} {o : zOx} (hc : zC1 s) (hb9 : zB s) {a : Int} (ha : zR a)  : zCn l G yX6_requireUndropped (.code yX6_requireUndropped cX6_requireUndropped 2 none) rX6_requireUndropped [.ref 0, .int (zI a)] (zAll s t o) (zRv (fun M2 => ((0 ≤ a ∧ a < s 9 0 0) ∧ ¬ s 13 a.toNat 0 = -1) ∧ M2 = (zAll s t o))) (fun E M2 => E = "java/lang/IndexOutOfBoundsException" ∧ ¬ ((0 ≤ a ∧ a < s 9 0 0) ∧ ¬ s 13 a.toNat 0 = -1) ∧ M2 = (zAll s t o)) := by
  refine zStart hfl (by decide) (own := RX6) rfl [(0, .ref 0), (1, .int (zI a))] (Nat.le_of_ble_eq_true rfl) rfl (fun k hkl hinit hk0 F => ?_)
  have hn0 := hc.1
  have hn4 := hc.2.1
  have hn9 := hc.2.2.1
  have hn14 := hc.2.2.2.1
  have hn18 := hc.2.2.2.2.1
  refine z_aload_n F 0 dX6_requireUndropped_0 rfl rfl ?_
  refine z_iload_n F 1 dX6_requireUndropped_1 rfl rfl ?_
  refine z_callV F [.int (zI a)] [] (c_X6_requireVisit F.2.2.1 G hc hb9 ha) cv_X6_195 (zAll_0 s t o) rfl rfl rfl ⟨by decide, by decide⟩ ⟨by decide, by decide⟩ (Nat.le_of_ble_eq_true rfl) dX6_requireUndropped_2 (fun E M9 h9 => z_xo F (by decide) (by decide) ⟨h9.1, fun h => h9.2.1 h.1, h9.2.2⟩) (z_kv (fun M_1 h_1 => ?_))
  obtain ⟨hq1, hm9⟩ := h_1
  have hm9 := hm9.symm
  subst hm9
  refine z_aload_n F 0 dX6_requireUndropped_5 rfl rfl ?_
  refine z_get F fl_X6_19 (zAll_0 s t o) rfl dX6_requireUndropped_6 ?_
  refine z_iload_n F 1 dX6_requireUndropped_9 rfl rfl ?_
  refine z_callV F [.int (zI a)] [] (g_v F.2.2.1 G hc (i := a) (by omega) (by omega)) cv_X6_99 (zAll_129 s t o) rfl rfl rfl ⟨by decide, by decide⟩ ⟨by decide, by decide⟩ (Nat.le_of_ble_eq_true rfl) dX6_requireUndropped_10 z_nx (z_kr (fun x_2 M_2 h_2 => ?_))
  have hx9 := (h_2).1.symm
  have hm9 := (h_2).2.symm
  subst hx9
  subst hm9
  refine z_cast (ci := 6) F (zr_10 _ (List.mem_of_getElem? (i := 9) rfl)) (zAll_v t o (i := a.toNat) (by omega)) rfl dX6_requireUndropped_13 ?_
  refine z_callV F [] [] (c_X5_isDropped F.2.2.1 G (hb9.r 13 a.toNat 0) (zAll s t o) (zAll_v t o (by omega))) cv_X6_249 (zAll_v t o (i := a.toNat) (by omega)) rfl rfl rfl ⟨by decide, by decide⟩ ⟨by decide, by decide⟩ (Nat.le_of_ble_eq_true rfl) dX6_requireUndropped_16 z_nx (z_ki (fun x_3 M_3 h_3 => ?_))
  have hx9 := (h_3).1.symm
  have hm9 := (h_3).2.symm
  subst hx9
  subst hm9
  have hz : zR (if s 13 a.toNat 0 = -1 then 1 else 0) := zR_if
  refine z_if_eq F 32 dX6_requireUndropped_19 (by decide) (by omega) (fun c_4 => ?_) (fun c_4 => ?_)
  · skip
    have hq9 : ¬ (s 13 a.toNat 0 = -1) := fun h => by rw [if_pos h] at c_4; omega
    exact z_retv F rfl (by first | decide | assumption | omega) (by first | decide | assumption | omega) dX6_requireUndropped_32 ⟨rfl, ⟨hq1, hq9⟩, rfl⟩
  · skip
    have hq9 : s 13 a.toNat 0 = -1 := Classical.byContradiction fun h => by rw [if_neg h] at c_4; omega
    exact z_thr (text := "visit was dropped") F zfi_IOO zk_IOO zi_IOO (by decide) zat_IOO zab_IOO zcc_IOO zgd_IOO dX6_requireUndropped_22 dX6_requireUndropped_25 dX6_requireUndropped_26 dX6_requireUndropped_28 dX6_requireUndropped_31 (by decide) (Nat.le_of_ble_eq_true rfl) (by first | decide | assumption | omega) (by first | decide | assumption | omega) ⟨rfl, fun h => h.2 hq9, rfl⟩

abbrev rX6_inRest : Room := { frames := 8, cells := 3, slots := 18, locals := 163 }
set_option maxRecDepth 100000 in
set_option maxHeartbeats 4000000 in
theorem c_X6_inRest {l : Launch} (hfl : l.stackTraces = false) (G : zG) {s t : zS} {o : zOx} (hc : zC1 s) (hb9 : zB s) {a x : Int} (ha : zR a) (hx : zR x)  : zCn l G yX6_inRest (.code yX6_inRest cX6_inRest 9 (some .int)) rX6_inRest [.ref 0, .int (zI a), .int (zI x)] (zAll s t o) (zRi (fun xr M2 => (((0 ≤ a ∧ a < s 9 0 0) ∧ ¬ s 13 a.toNat 0 = -1) ∧ 0 ≤ x ∧ x < s 4 0 0) ∧ xr = zRest s a.toNat x.toNat ∧ M2 = (zAll s t o))) (fun E M2 => E = "java/lang/IndexOutOfBoundsException" ∧ ¬ (((0 ≤ a ∧ a < s 9 0 0) ∧ ¬ s 13 a.toNat 0 = -1) ∧ 0 ≤ x ∧ x < s 4 0 0) ∧ M2 = (zAll s t o)) := by
  refine zStart hfl (by decide) (own := RX6) rfl [(0, .ref 0), (1, .int (zI a)), (2, .int (zI x))] (Nat.le_of_ble_eq_true rfl) rfl (fun k hkl hinit hk0 F => ?_)
  have hn0 := hc.1
  have hn4 := hc.2.1
  have hn9 := hc.2.2.1
  have hn14 := hc.2.2.2.1
  have hn18 := hc.2.2.2.2.1
  refine z_aload_n F 0 dX6_inRest_0 rfl rfl ?_
  refine z_iload_n F 1 dX6_inRest_1 rfl rfl ?_
  refine z_callV F [.int (zI a)] [] (c_X6_requireUndropped F.2.2.1 G (t := t) (o := o) hc hb9 ha) cv_X6_133 (zAll_0 s t o) rfl rfl rfl ⟨by decide, by decide⟩ ⟨by decide, by decide⟩ (Nat.le_of_ble_eq_true rfl) dX6_inRest_2 (fun E M9 h9 => z_xo F (by decide) (by decide) ⟨h9.1, fun h => h9.2.1 h.1, h9.2.2⟩) (z_kv (fun M_1 h_1 => ?_))
  obtain ⟨hq1, hm9⟩ := h_1
  have hm9 := hm9.symm
  subst hm9
  refine z_aload_n F 0 dX6_inRest_5 rfl rfl ?_
  refine z_iload_n F 2 dX6_inRest_6 rfl rfl ?_
  refine z_callV F [.int (zI x)] [] (c_X6_requireService F.2.2.1 G (t := t) (o := o) hc hb9 hx) cv_X6_96 (zAll_0 s t o) rfl rfl rfl ⟨by decide, by decide⟩ ⟨by decide, by decide⟩ (Nat.le_of_ble_eq_true rfl) dX6_inRest_7 (fun E M9 h9 => z_xo F (by decide) (by decide) ⟨h9.1, fun h => h9.2.1 h.2, h9.2.2⟩) (z_kv (fun M_2 h_2 => ?_))
  obtain ⟨hq2, hm9⟩ := h_2
  have hm9 := hm9.symm
  subst hm9
  have hvs := hc.2.2.2.2.2.2.2.2.2.2.1 a.toNat (by omega)
  have hvv := hc.2.2.2.2.2.2.2.2.2.2.2.2.2.1 a.toNat (by omega)
  have hva : (((s 10 a.toNat 0).toNat : Nat) : Int) < s 4 0 0 := by omega
  have hscv := hc.sc (s 10 a.toNat 0).toNat
  have hlx := hc.len x.toNat
  have hlv := hc.len (s 10 a.toNat 0).toNat
  have hst9 : (if s 13 a.toNat 0 = -1 then -1 else s 11 a.toNat 0) = s 11 a.toNat 0 := if_neg hq1.2
  refine z_aload_n F 0 dX6_inRest_10 rfl rfl ?_
  refine z_get F fl_X6_19 (zAll_0 s t o) rfl dX6_inRest_11 ?_
  refine z_iload_n F 1 dX6_inRest_14 rfl rfl ?_
  refine z_callV F [.int (zI a)] [] (g_v F.2.2.1 G hc (i := a) (by omega) (by omega)) cv_X6_99 (zAll_129 s t o) rfl rfl rfl ⟨by decide, by decide⟩ ⟨by decide, by decide⟩ (Nat.le_of_ble_eq_true rfl) dX6_inRest_15 z_nx (z_kr (fun x_3 M_3 h_3 => ?_))
  have hx9 := (h_3).1.symm
  have hm9 := (h_3).2.symm
  subst hx9
  subst hm9
  refine z_cast (ci := 6) F (zr_10 _ (List.mem_of_getElem? (i := 9) rfl)) (zAll_v t o (i := a.toNat) (by omega)) rfl dX6_inRest_18 ?_
  refine z_astore_n F [(3, .ref (64 * a.toNat + 14)), (0, .ref 0), (1, .int (zI a)), (2, .int (zI x))] dX6_inRest_21 rfl (by decide) rfl ?_
  refine z_aload_n F 1 dX6_inRest_22 rfl rfl ?_
  refine z_get F fl_X6_16 (zAll_0 s t o) rfl dX6_inRest_23 ?_
  refine z_iload_n F 3 dX6_inRest_26 rfl rfl ?_
  refine z_callV F [.int (zI x)] [] (g_s F.2.2.1 G hc (i := x) (by omega) (by omega)) cv_X6_99 (zAll_65 s t o) rfl rfl rfl ⟨by decide, by decide⟩ ⟨by decide, by decide⟩ (Nat.le_of_ble_eq_true rfl) dX6_inRest_27 z_nx (z_kr (fun x_4 M_4 h_4 => ?_))
  have hx9 := (h_4).1.symm
  have hm9 := (h_4).2.symm
  subst hx9
  subst hm9
  refine z_cast (ci := 5) F (zr_7 _ (List.mem_of_getElem? (i := 9) rfl)) (zAll_s t o (i := x.toNat) (by omega)) rfl dX6_inRest_30 ?_
  refine z_astore F [(4, .ref (64 * x.toNat + 10)), (3, .ref (64 * a.toNat + 14)), (0, .ref 0), (1, .int (zI a)), (2, .int (zI x))] dX6_inRest_33 (by decide) rfl ?_
  refine z_iconst (z := 0) F dX6_inRest_35 (by decide) ?_
  refine z_istore F [(5, .int (zI 0)), (4, .ref (64 * x.toNat + 10)), (3, .ref (64 * a.toNat + 14)), (0, .ref 0), (1, .int (zI a)), (2, .int (zI x))] dX6_inRest_36 (by decide) rfl ?_
  have L1 : ∀ (fuel : Nat) (w : Int), (s 5 (s 10 a.toNat 0).toNat 0 - w).toNat < fuel → 0 ≤ w → w ≤ s 5 (s 10 a.toNat 0).toNat 0 → zRest s a.toNat x.toNat = zIn s a.toNat x.toNat (zSc s (s 10 a.toNat 0).toNat - w.toNat) w.toNat → zJ k G rX6_inRest 9 (zMQ k G rX6_inRest (zRi (fun xr M2 => (((0 ≤ a ∧ a < s 9 0 0) ∧ ¬ s 13 a.toNat 0 = -1) ∧ 0 ≤ x ∧ x < s 4 0 0) ∧ xr = zRest s a.toNat x.toNat ∧ M2 = (zAll s t o))) (fun E M2 => E = "java/lang/IndexOutOfBoundsException" ∧ ¬ (((0 ≤ a ∧ a < s 9 0 0) ∧ ¬ s 13 a.toNat 0 = -1) ∧ 0 ≤ x ∧ x < s 4 0 0) ∧ M2 = (zAll s t o))) (zAll s t o) 3 18 38 [(0, .ref 0), (1, .int (zI a)), (2, .int (zI x)), (3, .ref (64 * a.toNat + 14)), (4, .ref (64 * x.toNat + 10)), (5, .int (zI w))] [] := by
    intro fuel
    induction fuel with
    | zero => intros; omega
    | succ fuel L1_ih =>
      intro w hfuel hw1 hw2 hw3
      refine z_iload F 5 dX6_inRest_38 rfl ?_
      refine z_aload_n F 3 dX6_inRest_40 rfl rfl ?_
      refine z_get F fl_X6_151 (zAll_v t o (i := a.toNat) (by omega)) rfl dX6_inRest_41 ?_
      refine z_get F fl_X6_103 (zAll_s t o (i := (s 10 a.toNat 0).toNat) (by omega)) rfl dX6_inRest_44 ?_
      refine z_icmp_ge F 127 dX6_inRest_47 (by decide) (by omega) (by omega) (fun c_5 => ?_) (fun c_5 => ?_)
      · skip
        refine z_iconst (z := -1) F dX6_inRest_127 (by decide) ?_
        exact z_reti F rfl (by first | decide | assumption | omega) (by first | decide | assumption | omega) dX6_inRest_128 ⟨_, rfl, ⟨hq1, hq2⟩, by rw [hw3, show zSc s (s 10 a.toNat 0).toNat - w.toNat = 0 by omega]; rfl, rfl⟩
      · skip
        refine z_aload_n F 3 dX6_inRest_50 rfl rfl ?_
        refine z_get F fl_X6_151 (zAll_v t o (i := a.toNat) (by omega)) rfl dX6_inRest_51 ?_
        refine z_iload F 5 dX6_inRest_54 rfl ?_
        refine z_callV F [.int (zI w)] [] (c_X4_isRest F.2.2.1 G (a := w) (by omega) (zAll s t o) (zAll_s t o (i := (s 10 a.toNat 0).toNat) (by omega)) (zAll_s1 t o (i := (s 10 a.toNat 0).toNat) (by omega)) (zAll_s2 t o (i := (s 10 a.toNat 0).toNat) (by omega)) (zAll_s3 t o (i := (s 10 a.toNat 0).toNat) (by omega)) (zss_r hc ((s 10 a.toNat 0).toNat))) cv_X6_221 (zAll_s t o (i := (s 10 a.toNat 0).toNat) (by omega)) rfl rfl rfl ⟨by decide, by decide⟩ ⟨by decide, by decide⟩ (Nat.le_of_ble_eq_true rfl) dX6_inRest_56 z_nx (z_ki (fun x_6 M_6 h_6 => ?_))
        have hx9 := (h_6).1.symm
        have hm9 := (h_6).2.symm
        subst hx9
        subst hm9
        have hz : zR (if ((0 ≤ w ∧ w < 5) ∧ (if (((w.toNat : Nat)) : Int) < s 5 ((s 10 a.toNat 0).toNat) 0 then s 6 ((s 10 a.toNat 0).toNat) w.toNat else 0) = -1) then 1 else 0) := zR_if
        refine z_if_eq F 121 dX6_inRest_59 (by decide) (by omega) (fun c_7 => ?_) (fun c_7 => ?_)
        · skip
          have hr9 : ¬ s 6 ((s 10 a.toNat 0).toNat) w.toNat = -1 := fun h => by
            rw [if_pos ⟨⟨by omega, by omega⟩, by rw [if_pos (by omega)]; exact h⟩] at c_7
            omega
          have hst : zRest s a.toNat x.toNat = zIn s a.toNat x.toNat (zSc s (s 10 a.toNat 0).toNat - (w.toNat + 1)) (w.toNat + 1) := by
            rw [hw3, show zSc s (s 10 a.toNat 0).toNat - w.toNat = (zSc s (s 10 a.toNat 0).toNat - (w.toNat + 1)) + 1 by omega, zIn, if_neg (fun h => hr9 h.1)]
          refine z_iinc F 5 [(5, .int (zI (w + 1))), (0, .ref 0), (1, .int (zI a)), (2, .int (zI x)), (3, .ref (64 * a.toNat + 14)), (4, .ref (64 * x.toNat + 10))] dX6_inRest_121 rfl (by decide) rfl ?_
          refine z_goto F 38 dX6_inRest_124 (by decide) ?_
          refine z_lv [(0, .ref 0), (1, .int (zI a)), (2, .int (zI x)), (3, .ref (64 * a.toNat + 14)), (4, .ref (64 * x.toNat + 10)), (5, .int (zI (w + 1)))] [1, 2, 3, 4, 5, 0] rfl ?_
          exact L1_ih (w + 1) (by omega) (by omega) (by omega) (by rw [show (w + 1).toNat = w.toNat + 1 by omega]; exact hst)
        · skip
          have hr9 : s 6 ((s 10 a.toNat 0).toNat) w.toNat = -1 := by
            have h9 : ((0 ≤ w ∧ w < 5) ∧ (if (((w.toNat : Nat)) : Int) < s 5 ((s 10 a.toNat 0).toNat) 0 then s 6 ((s 10 a.toNat 0).toNat) w.toNat else 0) = -1) := Classical.byContradiction fun h => by rw [if_neg h] at c_7; omega
            have h8 := h9.2
            rwa [if_pos (by omega)] at h8
          refine z_aload_n F 3 dX6_inRest_62 rfl rfl ?_
          refine z_get F fl_X6_144 (zAll_v t o (i := a.toNat) (by omega)) rfl dX6_inRest_63 ?_
          refine z_aload_n F 3 dX6_inRest_66 rfl rfl ?_
          refine z_get F fl_X6_151 (zAll_v t o (i := a.toNat) (by omega)) rfl dX6_inRest_67 ?_
          refine z_iload F 5 dX6_inRest_70 rfl ?_
          refine z_callV F [.int (zI w)] [.int (zI (s 13 a.toNat 0))] (c_X4_stepFrom F.2.2.1 G (a := w) (by omega) (zAll s t o) (zAll_s t o (i := (s 10 a.toNat 0).toNat) (by omega)) (zAll_s1 t o (i := (s 10 a.toNat 0).toNat) (by omega)) (zAll_s2 t o (i := (s 10 a.toNat 0).toNat) (by omega)) (zAll_s3 t o (i := (s 10 a.toNat 0).toNat) (by omega))) cv_X6_224 (zAll_s t o (i := (s 10 a.toNat 0).toNat) (by omega)) rfl rfl rfl ⟨by decide, by decide⟩ ⟨by decide, by decide⟩ (Nat.le_of_ble_eq_true rfl) dX6_inRest_72 z_nx (z_ki (fun x_8 M_8 h_8 => ?_))
          have hx9 := (h_8).1.symm
          have hm9 := (h_8).2.symm
          subst hx9
          subst hm9
          refine z_ti (y := zOff s ((s 10 a.toNat 0).toNat) w.toNat) (by rw [if_pos (show 0 ≤ w ∧ w < 5 by omega)]; exact if_pos (by omega)) ?_
          have ho1 := hc.off (s 10 a.toNat 0).toNat w.toNat
          have ho2 := hc.off (s 10 a.toNat 0).toNat (w.toNat + 1)
          have ho3 := hc.offl (a := (s 10 a.toNat 0).toNat) (k := w.toNat) (by omega)
          have ho4 := hc.offl (a := (s 10 a.toNat 0).toNat) (k := w.toNat + 1) (by omega)
          refine z_iadd F dX6_inRest_75 ?_
          refine z_istore F [(6, .int (zI ((s 13 a.toNat 0) + (zOff s ((s 10 a.toNat 0).toNat) w.toNat)))), (0, .ref 0), (1, .int (zI a)), (2, .int (zI x)), (3, .ref (64 * a.toNat + 14)), (4, .ref (64 * x.toNat + 10)), (5, .int (zI w))] dX6_inRest_76 (by decide) rfl ?_
          refine z_aload_n F 4 dX6_inRest_78 rfl rfl ?_
          refine z_get F fl_X6_144 (zAll_v t o (i := a.toNat) (by omega)) rfl dX6_inRest_79 ?_
          refine z_aload_n F 4 dX6_inRest_82 rfl rfl ?_
          refine z_get F fl_X6_151 (zAll_v t o (i := a.toNat) (by omega)) rfl dX6_inRest_83 ?_
          refine z_iload F 6 dX6_inRest_86 rfl ?_
          refine z_callV F [.int (zI w)] [.int (zI (s 13 a.toNat 0))] (c_X4_stepTo F.2.2.1 G (a := w) (by omega) (zAll s t o) (zAll_s t o (i := (s 10 a.toNat 0).toNat) (by omega)) (zAll_s1 t o (i := (s 10 a.toNat 0).toNat) (by omega)) (zAll_s2 t o (i := (s 10 a.toNat 0).toNat) (by omega)) (zAll_s3 t o (i := (s 10 a.toNat 0).toNat) (by omega))) cv_X6_227 (zAll_s t o (i := (s 10 a.toNat 0).toNat) (by omega)) rfl rfl rfl ⟨by decide, by decide⟩ ⟨by decide, by decide⟩ (Nat.le_of_ble_eq_true rfl) dX6_inRest_88 z_nx (z_ki (fun x_9 M_9 h_9 => ?_))
          have hx9 := (h_9).1.symm
          have hm9 := (h_9).2.symm
          subst hx9
          subst hm9
          refine z_ti (y := zOff s ((s 10 a.toNat 0).toNat) (w.toNat + 1)) (by rw [if_pos (show 0 ≤ w ∧ w < 5 by omega)]; exact if_pos (by omega)) ?_
          refine z_iadd F dX6_inRest_91 ?_
          refine z_istore F [(7, .int (zI ((s 13 a.toNat 0) + (zOff s ((s 10 a.toNat 0).toNat) (w.toNat + 1))))), (6, .int (zI ((s 13 a.toNat 0) + (zOff s ((s 10 a.toNat 0).toNat) w.toNat)))), (0, .ref 0), (1, .int (zI a)), (2, .int (zI x)), (3, .ref (64 * a.toNat + 14)), (4, .ref (64 * x.toNat + 10)), (5, .int (zI w))] dX6_inRest_92 (by decide) rfl ?_
          refine z_aload_n F 2 dX6_inRest_94 rfl rfl ?_
          refine z_aload F 6 dX6_inRest_95 rfl ?_
          refine z_iconst (z := 1) F dX6_inRest_97 (by decide) ?_
          refine z_aload_n F 5 dX6_inRest_98 rfl rfl ?_
          refine z_get F fl_X6_138 (zAll_v t o (i := a.toNat) (by omega)) rfl dX6_inRest_99 ?_
          refine z_ti (y := s 11 a.toNat 0) hst9 ?_
          refine z_ishl F (((2 ^ (s 11 a.toNat 0).toNat : Nat) : Int)) dX6_inRest_102 (zI_bitI (by omega) (by omega)) ?_
          refine z_iload F 1 dX6_inRest_103 rfl ?_
          refine z_iload F 0 dX6_inRest_105 rfl ?_
          have hp5 : (2 : Nat) ^ (s 11 a.toNat 0).toNat ≤ 2 ^ 5 := Nat.pow_le_pow_right (by decide) (by omega)
          refine z_callV F [.ref (64 * x.toNat + 10), .int (zI (((2 ^ (s 11 a.toNat 0).toNat : Nat) : Int))), .int (zI ((s 13 a.toNat 0) + (zOff s ((s 10 a.toNat 0).toNat) w.toNat))), .int (zI ((s 13 a.toNat 0) + (zOff s ((s 10 a.toNat 0).toNat) (w.toNat + 1))))] [] (c_X6_firstStartByScan F.2.2.1 G (t := t) (o := o) hc hb9 (a := x.toNat) (by omega) (by omega) (by omega) (by omega)) cv_X6_214 (zAll_0 s t o) rfl rfl rfl ⟨by decide, by decide⟩ ⟨by decide, by decide⟩ (Nat.le_of_ble_eq_true rfl) dX6_inRest_107 z_nx (z_ki (fun x_10 M_10 h_10 => ?_))
          have hx9 := (h_10).1.symm
          have hm9 := (h_10).2.symm
          subst hx9
          subst hm9
          have hfr9 := zFind_r s (zBit (2 ^ (s 11 a.toNat 0).toNat)) x.toNat (s 13 a.toNat 0 + zOff s (s 10 a.toNat 0).toNat w.toNat) (s 13 a.toNat 0 + zOff s (s 10 a.toNat 0).toNat (w.toNat + 1))
          refine z_istore F [(8, .int (zI (zFind s (zBit (2 ^ (s 11 a.toNat 0).toNat)) x.toNat (s 13 a.toNat 0 + zOff s (s 10 a.toNat 0).toNat w.toNat) (s 13 a.toNat 0 + zOff s (s 10 a.toNat 0).toNat (w.toNat + 1))))), (7, .int (zI ((s 13 a.toNat 0) + (zOff s ((s 10 a.toNat 0).toNat) (w.toNat + 1))))), (6, .int (zI ((s 13 a.toNat 0) + (zOff s ((s 10 a.toNat 0).toNat) w.toNat)))), (0, .ref 0), (1, .int (zI a)), (2, .int (zI x)), (3, .ref (64 * a.toNat + 14)), (4, .ref (64 * x.toNat + 10)), (5, .int (zI w))] dX6_inRest_110 (by decide) rfl ?_
          refine z_iload F 0 dX6_inRest_112 rfl ?_
          refine z_iconst (z := -1) F dX6_inRest_114 (by decide) ?_
          refine z_icmp_eq F 121 dX6_inRest_115 (by decide) (by omega) ⟨by decide, by decide⟩ (fun c_11 => ?_) (fun c_11 => ?_)
          · skip
            have hst : zRest s a.toNat x.toNat = zIn s a.toNat x.toNat (zSc s (s 10 a.toNat 0).toNat - (w.toNat + 1)) (w.toNat + 1) := by
              rw [hw3, show zSc s (s 10 a.toNat 0).toNat - w.toNat = (zSc s (s 10 a.toNat 0).toNat - (w.toNat + 1)) + 1 by omega, zIn, if_neg (fun h => h.2 c_11)]
            refine z_iinc F 8 [(5, .int (zI (w + 1))), (8, .int (zI (zFind s (zBit (2 ^ (s 11 a.toNat 0).toNat)) x.toNat (s 13 a.toNat 0 + zOff s (s 10 a.toNat 0).toNat w.toNat) (s 13 a.toNat 0 + zOff s (s 10 a.toNat 0).toNat (w.toNat + 1))))), (7, .int (zI ((s 13 a.toNat 0) + (zOff s ((s 10 a.toNat 0).toNat) (w.toNat + 1))))), (6, .int (zI ((s 13 a.toNat 0) + (zOff s ((s 10 a.toNat 0).toNat) w.toNat)))), (0, .ref 0), (1, .int (zI a)), (2, .int (zI x)), (3, .ref (64 * a.toNat + 14)), (4, .ref (64 * x.toNat + 10))] dX6_inRest_121 rfl (by decide) rfl ?_
            refine z_goto F 38 dX6_inRest_124 (by decide) ?_
            refine z_lv [(0, .ref 0), (1, .int (zI a)), (2, .int (zI x)), (3, .ref (64 * a.toNat + 14)), (4, .ref (64 * x.toNat + 10)), (5, .int (zI (w + 1)))] [4, 5, 6, 7, 8, 0] rfl ?_
            exact L1_ih (w + 1) (by omega) (by omega) (by omega) (by rw [show (w + 1).toNat = w.toNat + 1 by omega]; exact hst)
          · skip
            have hst : zRest s a.toNat x.toNat = zFind s (zBit (2 ^ (s 11 a.toNat 0).toNat)) x.toNat (s 13 a.toNat 0 + zOff s (s 10 a.toNat 0).toNat w.toNat) (s 13 a.toNat 0 + zOff s (s 10 a.toNat 0).toNat (w.toNat + 1)) := by
              rw [hw3, show zSc s (s 10 a.toNat 0).toNat - w.toNat = (zSc s (s 10 a.toNat 0).toNat - (w.toNat + 1)) + 1 by omega, zIn, if_pos ⟨hr9, c_11⟩]
            refine z_iload F 0 dX6_inRest_118 rfl ?_
            exact z_reti F rfl (by first | decide | assumption | omega) (by first | decide | assumption | omega) dX6_inRest_120 ⟨_, rfl, ⟨hq1, hq2⟩, hst.symm, rfl⟩
  refine z_lv [(0, .ref 0), (1, .int (zI a)), (2, .int (zI x)), (3, .ref (64 * a.toNat + 14)), (4, .ref (64 * x.toNat + 10)), (5, .int (zI 0))] [3, 4, 5, 2, 1, 0] rfl ?_
  exact L1 _ 0 (Nat.lt_succ_self _) (by omega) (by omega) rfl

