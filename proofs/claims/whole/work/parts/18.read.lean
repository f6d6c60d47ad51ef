/-! ===== the book: questions ===== -/
/-- a search may leave out what the candidates leave out -/
def zHA (s : zS) : Prop := ∀ (wo a : Nat) (f : Int), (a : Int) < s 4 0 0 → 0 ≤ f → zHc s wo a f
abbrev rX6_loadOf : Room := { frames := 7, cells := 1, slots := 6, locals := 113 }
set_option maxRecDepth 100000 in
set_option maxHeartbeats 4000000 in
theorem c_X6_loadOf {l : Launch} (hfl : l.stackTraces = false) (G : zG) {s t : zS} {o : zOx} (hc : zC1 s) (hb9 : zB s) {a : Int} (ha : zR a)  : zCn l G yX6_loadOf (.code yX6_loadOf cX6_loadOf 2 (some .int)) rX6_loadOf [.ref 0, .int (zI a)] (zAll s t o) (zRi (fun xr M2 => (0 ≤ a ∧ a < s 0 0 0) ∧ xr = zLoad s a ∧ M2 = (zAll s t o))) (fun E M2 => E = "java/lang/IndexOutOfBoundsException" ∧ ¬ (0 ≤ a ∧ a < s 0 0 0) ∧ M2 = (zAll s t o)) := by
  refine zStart hfl (by decide) (own := RX6) rfl [(0, .ref 0), (1, .int (zI a))] (Nat.le_of_ble_eq_true rfl) rfl (fun k hkl hinit hk0 F => ?_)
  have hn0 := hc.1
  have hn4 := hc.2.1
  have hn9 := hc.2.2.1
  have hn14 := hc.2.2.2.1
  have hn18 := hc.2.2.2.2.1
  refine z_aload_n F 0 dX6_loadOf_0 rfl rfl ?_
  refine z_iload_n F 1 dX6_loadOf_1 rfl rfl ?_
  refine z_callV F [.int (zI a)] [] (c_X6_requireMember F.2.2.1 G hc hb9 ha) cv_X6_130 (zAll_0 s t o) rfl rfl rfl ⟨by decide, by decide⟩ ⟨by decide, by decide⟩ (Nat.le_of_ble_eq_true rfl) dX6_loadOf_2 (fun E M9 h9 => z_xo F (by decide) (by decide) h9) (z_kv (fun M_1 h_1 => ?_))
  obtain ⟨hq1, hm9⟩ := h_1
  have hm9 := hm9.symm
  subst hm9
  refine z_aload_n F 0 dX6_loadOf_5 rfl rfl ?_
  refine z_iload_n F 1 dX6_loadOf_6 rfl rfl ?_
  refine z_callV F [.int (zI a)] [] (c_X6_workBookedWith F.2.2.1 G hc hb9 (by omega)) cv_X6_198 (zAll_0 s t o) rfl rfl rfl ⟨by decide, by decide⟩ ⟨by decide, by decide⟩ (Nat.le_of_ble_eq_true rfl) dX6_loadOf_7 z_nx (z_ki (fun x_2 M_2 h_2 => ?_))
  have hx9 := (h_2).1.symm
  have hm9 := (h_2).2.symm
  subst hx9
  subst hm9
  exact z_reti F rfl (by first | decide | assumption | omega) (by first | decide | assumption | omega) dX6_loadOf_10 ⟨_, rfl, by omega, rfl, rfl⟩

abbrev rX6_staffAt : Room := { frames := 7, cells := 2, slots := 12, locals := 113 }
set_option maxRecDepth 100000 in
set_option maxHeartbeats 4000000 in
theorem c_X6_staffAt {l : Launch} (hfl : l.stackTraces = false) (G : zG) {s t : zS} {o : zOx} (hc : zC1 s) (hb9 : zB s) {a x : Int} (ha : zR a) (hx : zR x)  : zCn l G yX6_staffAt (.code yX6_staffAt cX6_staffAt 3 (some .int)) rX6_staffAt [.ref 0, .int (zI a), .int (zI x)] (zAll s t o) (zRi (fun xr M2 => ((0 ≤ a ∧ a < s 0 0 0) ∧ 0 ≤ x ∧ x < 600) ∧ xr = s 21 (a.toNat + 4) x.toNat ∧ M2 = (zAll s t o))) (fun E M2 => E = "java/lang/IndexOutOfBoundsException" ∧ ¬ ((0 ≤ a ∧ a < s 0 0 0) ∧ 0 ≤ x ∧ x < 600) ∧ M2 = (zAll s t o)) := by
  refine zStart hfl (by decide) (own := RX6) rfl [(0, .ref 0), (1, .int (zI a)), (2, .int (zI x))] (Nat.le_of_ble_eq_true rfl) rfl (fun k hkl hinit hk0 F => ?_)
  have hn0 := hc.1
  have hn4 := hc.2.1
  have hn9 := hc.2.2.1
  have hn14 := hc.2.2.2.1
  have hn18 := hc.2.2.2.2.1
  refine z_aload_n F 0 dX6_staffAt_0 rfl rfl ?_
  refine z_iload_n F 1 dX6_staffAt_1 rfl rfl ?_
  refine z_callV F [.int (zI a)] [] (c_X6_requireMember F.2.2.1 G hc hb9 ha) cv_X6_130 (zAll_0 s t o) rfl rfl rfl ⟨by decide, by decide⟩ ⟨by decide, by decide⟩ (Nat.le_of_ble_eq_true rfl) dX6_staffAt_2 (fun E M9 h9 => z_xo F (by decide) (by decide) ⟨h9.1, fun h => h9.2.1 h.1, h9.2.2⟩) (z_kv (fun M_1 h_1 => ?_))
  obtain ⟨hq1, hm9⟩ := h_1
  have hm9 := hm9.symm
  subst hm9
  refine z_iload_n F 2 dX6_staffAt_5 rfl rfl ?_
  refine z_callS F [.int (zI x)] [] (c_X6_requireMinute F.2.2.1 G (t := t) (o := o) hc hb9 hx) cs_X6_120 rfl ⟨by decide, by decide⟩ ⟨by decide, by decide⟩ (Nat.le_of_ble_eq_true rfl) dX6_staffAt_6 (fun E M9 h9 => z_xo F (by decide) (by decide) ⟨h9.1, fun h => h9.2.1 h.2, h9.2.2⟩) (z_kv (fun M_2 h_2 => ?_))
  obtain ⟨hq2, hm9⟩ := h_2
  have hm9 := hm9.symm
  subst hm9
  refine z_aload_n F 0 dX6_staffAt_9 rfl rfl ?_
  refine z_get F fl_X6_10 (zAll_0 s t o) rfl dX6_staffAt_10 ?_
  refine z_iload_n F 1 dX6_staffAt_13 rfl rfl ?_
  refine z_callV F [.int (zI a)] [] (g_m F.2.2.1 G hc (i := a) (by omega) (by omega)) cv_X6_99 (zAll_1 s t o) rfl rfl rfl ⟨by decide, by decide⟩ ⟨by decide, by decide⟩ (Nat.le_of_ble_eq_true rfl) dX6_staffAt_14 z_nx (z_kr (fun x_3 M_3 h_3 => ?_))
  have hx9 := (h_3).1.symm
  have hm9 := (h_3).2.symm
  subst hx9
  subst hm9
  refine z_cast (ci := 2) F (zr_4 _ (List.mem_of_getElem? (i := 16) rfl)) (zAll_m t o (i := a.toNat) (by omega)) rfl dX6_staffAt_17 ?_
  refine z_get F fl_X6_202 (zAll_m t o (i := a.toNat) (by omega)) rfl dX6_staffAt_20 ?_
  refine z_iload_n F 2 dX6_staffAt_23 rfl rfl ?_
  refine z_callV F [.int (zI x)] [] (c_X0_at F.2.2.1 G hx (zAll s t o) (zAll_d6 t o (i := a.toNat + 4) (by omega)) (zAll_d7 t o (i := a.toNat + 4) (by omega)) (zAll_d8 t o (i := a.toNat + 4) (by omega))) cv_X6_206 (zAll_d6 t o (i := (a.toNat + 4)) (by omega)) rfl rfl rfl ⟨by decide, by decide⟩ ⟨by decide, by decide⟩ (Nat.le_of_ble_eq_true rfl) dX6_staffAt_24 z_nx (z_ki (fun x_4 M_4 h_4 => ?_))
  have hx9 := (h_4).1.symm
  have hm9 := (h_4).2.symm
  subst hx9
  subst hm9
  refine z_ti (y := s 21 (a.toNat + 4) x.toNat) (if_pos hq2) ?_
  exact z_reti F rfl (by first | decide | assumption | omega) (by first | decide | assumption | omega) dX6_staffAt_27 ⟨_, rfl, ⟨hq1, hq2⟩, rfl, rfl⟩

abbrev rX6_chairAt : Room := { frames := 7, cells := 1, slots := 6, locals := 112 }
set_option maxRecDepth 100000 in
set_option maxHeartbeats 4000000 in
theorem c_X6_chairAt {l : Launch} (hfl : l.stackTraces = false) (G : zG) {s t : zS} {o : zOx} (hc : zC1 s) (hb9 : zB s) {a x : Int} (ha : zR a) (hx : zR x)  : zCn l G yX6_chairAt (.code yX6_chairAt cX6_chairAt 3 (some .int)) rX6_chairAt [.ref 0, .int (zI a), .int (zI x)] (zAll s t o) (zRi (fun xr M2 => ((0 ≤ a ∧ a < 4) ∧ 0 ≤ x ∧ x < 600) ∧ xr = s 21 a.toNat x.toNat ∧ M2 = (zAll s t o))) (fun E M2 => E = "java/lang/IndexOutOfBoundsException" ∧ ¬ ((0 ≤ a ∧ a < 4) ∧ 0 ≤ x ∧ x < 600) ∧ M2 = (zAll s t o)) := by
  refine zStart hfl (by decide) (own := RX6) rfl [(0, .ref 0), (1, .int (zI a)), (2, .int (zI x))] (Nat.le_of_ble_eq_true rfl) rfl (fun k hkl hinit hk0 F => ?_)
  have hn0 := hc.1
  have hn4 := hc.2.1
  have hn9 := hc.2.2.1
  have hn14 := hc.2.2.2.1
  have hn18 := hc.2.2.2.2.1
  refine z_iload_n F 1 dX6_chairAt_0 rfl rfl ?_
  refine z_callS F [.int (zI a)] [] (c_X6_isChair F.2.2.1 G ha (zAll s t o)) cs_X6_209 rfl ⟨by decide, by decide⟩ ⟨by decide, by decide⟩ (Nat.le_of_ble_eq_true rfl) dX6_chairAt_1 z_nx (z_ki (fun x_1 M_1 h_1 => ?_))
  have hx9 := (h_1).1.symm
  have hm9 := (h_1).2.symm
  subst hx9
  subst hm9
  have hz : zR (if 0 ≤ a ∧ a < 4 then 1 else 0) := zR_if
  refine z_if_ne F 17 dX6_chairAt_4 (by decide) (by omega) (fun c_2 => ?_) (fun c_2 => ?_)
  · skip
    have hq9 : 0 ≤ a ∧ a < 4 := Classical.byContradiction fun h => by rw [if_neg h] at c_2; omega
    refine z_iload_n F 2 dX6_chairAt_17 rfl rfl ?_
    refine z_callS F [.int (zI x)] [] (c_X6_requireMinute F.2.2.1 G (t := t) (o := o) hc hb9 hx) cs_X6_120 rfl ⟨by decide, by decide⟩ ⟨by decide, by decide⟩ (Nat.le_of_ble_eq_true rfl) dX6_chairAt_18 (fun E M9 h9 => z_xo F (by decide) (by decide) ⟨h9.1, fun h => h9.2.1 h.2, h9.2.2⟩) (z_kv (fun M_3 h_3 => ?_))
    obtain ⟨hq2, hm9⟩ := h_3
    have hm9 := hm9.symm
    subst hm9
    refine z_aload_n F 0 dX6_chairAt_21 rfl rfl ?_
    refine z_get F fl_X6_27 (zAll_0 s t o) rfl dX6_chairAt_22 ?_
    refine z_iload_n F 1 dX6_chairAt_25 rfl rfl ?_
    refine z_aald3 (a := 64 * a.toNat + 6) F (zAll_3 s t o) (by omega) (by omega) (by decide) rfl dX6_chairAt_26 ?_
    refine z_iload_n F 2 dX6_chairAt_27 rfl rfl ?_
    refine z_callV F [.int (zI x)] [] (c_X0_at F.2.2.1 G hx (zAll s t o) (zAll_d6 t o (i := a.toNat) (by omega)) (zAll_d7 t o (i := a.toNat) (by omega)) (zAll_d8 t o (i := a.toNat) (by omega))) cv_X6_206 (zAll_d6 t o (i := a.toNat) (by omega)) rfl rfl rfl ⟨by decide, by decide⟩ ⟨by decide, by decide⟩ (Nat.le_of_ble_eq_true rfl) dX6_chairAt_28 z_nx (z_ki (fun x_4 M_4 h_4 => ?_))
    have hx9 := (h_4).1.symm
    have hm9 := (h_4).2.symm
    subst hx9
    subst hm9
    refine z_ti (y := s 21 a.toNat x.toNat) (if_pos hq2) ?_
    exact z_reti F rfl (by first | decide | assumption | omega) (by first | decide | assumption | omega) dX6_chairAt_31 ⟨_, rfl, ⟨hq9, hq2⟩, rfl, rfl⟩
  · skip
    have hq9 : ¬ (0 ≤ a ∧ a < 4) := fun h => by rw [if_pos h] at c_2; omega
    exact z_thr (text := "no such chair") F zfi_IOO zk_IOO zi_IOO (by decide) zat_IOO zab_IOO zcc_IOO zgd_IOO dX6_chairAt_7 dX6_chairAt_10 dX6_chairAt_11 dX6_chairAt_13 dX6_chairAt_16 (by decide) (Nat.le_of_ble_eq_true rfl) (by first | decide | assumption | omega) (by first | decide | assumption | omega) ⟨rfl, fun h => hq9 h.1, rfl⟩

abbrev rX6_earliest : Room := { frames := 7, cells := 2, slots := 12, locals := 162 }
set_option maxRecDepth 100000 in
set_option maxHeartbeats 4000000 in
theorem c_X6_earliest {l : Launch} (hfl : l.stackTraces = false) (G : zG) {s t : zS} {o : zOx} (hc : zC1 s) (hb9 : zB s) {a x : Int} (ha : zR a) (hx : zR x) (hH : zHA s)  : zCn l G yX6_earliest (.code yX6_earliest cX6_earliest 3 (some .int)) rX6_earliest [.ref 0, .int (zI a), .int (zI x)] (zAll s t o) (zRi (fun xr M2 => ((0 ≤ a ∧ a < s 4 0 0) ∧ 0 ≤ x ∧ x < 600) ∧ xr = zFind s (zBit 31) a.toNat x 600 ∧ ∃ c9 : Nat → Int, M2 = zAll s t (o.1, c9) ∧ (∀ m, c9 m = 0 ∨ c9 m = 1))) (fun E M2 => E = "java/lang/IndexOutOfBoundsException" ∧ ¬ ((0 ≤ a ∧ a < s 4 0 0) ∧ 0 ≤ x ∧ x < 600) ∧ M2 = (zAll s t o)) := by
  refine zStart hfl (by decide) (own := RX6) rfl [(0, .ref 0), (1, .int (zI a)), (2, .int (zI x))] (Nat.le_of_ble_eq_true rfl) rfl (fun k hkl hinit hk0 F => ?_)
  have hn0 := hc.1
  have hn4 := hc.2.1
  have hn9 := hc.2.2.1
  have hn14 := hc.2.2.2.1
  have hn18 := hc.2.2.2.2.1
  refine z_aload_n F 0 dX6_earliest_0 rfl rfl ?_
  refine z_iload_n F 1 dX6_earliest_1 rfl rfl ?_
  refine z_callV F [.int (zI a)] [] (c_X6_requireService F.2.2.1 G (t := t) (o := o) hc hb9 ha) cv_X6_96 (zAll_0 s t o) rfl rfl rfl ⟨by decide, by decide⟩ ⟨by decide, by decide⟩ (Nat.le_of_ble_eq_true rfl) dX6_earliest_2 (fun E M9 h9 => z_xo F (by decide) (by decide) ⟨h9.1, fun h => h9.2.1 h.1, h9.2.2⟩) (z_kv (fun M_1 h_1 => ?_))
  obtain ⟨hq1, hm9⟩ := h_1
  have hm9 := hm9.symm
  subst hm9
  refine z_iload_n F 2 dX6_earliest_5 rfl rfl ?_
  refine z_callS F [.int (zI x)] [] (c_X6_requireMinute F.2.2.1 G (t := t) (o := o) hc hb9 hx) cs_X6_120 rfl ⟨by decide, by decide⟩ ⟨by decide, by decide⟩ (Nat.le_of_ble_eq_true rfl) dX6_earliest_6 (fun E M9 h9 => z_xo F (by decide) (by decide) ⟨h9.1, fun h => h9.2.1 h.2, h9.2.2⟩) (z_kv (fun M_2 h_2 => ?_))
  obtain ⟨hq2, hm9⟩ := h_2
  have hm9 := hm9.symm
  subst hm9
  refine z_aload_n F 0 dX6_earliest_9 rfl rfl ?_
  refine z_aload_n F 0 dX6_earliest_10 rfl rfl ?_
  refine z_get F fl_X6_16 (zAll_0 s t o) rfl dX6_earliest_11 ?_
  refine z_iload_n F 1 dX6_earliest_14 rfl rfl ?_
  refine z_callV F [.int (zI a)] [.ref 0] (g_s F.2.2.1 G hc (i := a) (by omega) (by omega)) cv_X6_99 (zAll_65 s t o) rfl rfl rfl ⟨by decide, by decide⟩ ⟨by decide, by decide⟩ (Nat.le_of_ble_eq_true rfl) dX6_earliest_15 z_nx (z_kr (fun x_3 M_3 h_3 => ?_))
  have hx9 := (h_3).1.symm
  have hm9 := (h_3).2.symm
  subst hx9
  subst hm9
  refine z_cast (ci := 5) F (zr_9 _ (List.mem_of_getElem? (i := 8) rfl)) (zAll_s t o (i := a.toNat) (by omega)) rfl dX6_earliest_18 ?_
  refine z_bipush (z := 31) F dX6_earliest_21 (by decide) ?_
  refine z_iload_n F 2 dX6_earliest_23 rfl rfl ?_
  refine z_callV F [.ref (64 * a.toNat + 10), .int (zI 31), .int (zI x)] [] (c_X6_firstStart F.2.2.1 G (t := t) (o := o) hc hb9 (a := a.toNat) (wo := 31) (by omega) (by decide) (by omega) (hH 31 a.toNat x (by omega) (by omega))) cv_X6_155 (zAll_0 s t o) rfl rfl rfl ⟨by decide, by decide⟩ ⟨by decide, by decide⟩ (Nat.le_of_ble_eq_true rfl) dX6_earliest_24 z_nx (z_ki (fun x_4 M_4 h_4 => ?_))
  obtain ⟨hx9, ck, hm9, hk1⟩ := h_4
  subst hx9
  subst hm9
  exact z_reti F rfl (by first | decide | assumption | omega) (by first | decide | assumption | omega) dX6_earliest_27 ⟨_, rfl, ⟨hq1, hq2⟩, rfl, ck, rfl, hk1⟩

abbrev rX6_earliestByScan : Room := { frames := 7, cells := 2, slots := 12, locals := 163 }
set_option maxRecDepth 100000 in
set_option maxHeartbeats 4000000 in
theorem c_X6_earliestByScan {l : Launch} (hfl : l.stackTraces = false) (G : zG) {s t : zS} {o : zOx} (hc : zC1 s) (hb9 : zB s) {a x : Int} (ha : zR a) (hx : zR x)  : zCn l G yX6_earliestByScan (.code yX6_earliestByScan cX6_earliestByScan 3 (some .int)) rX6_earliestByScan [.ref 0, .int (zI a), .int (zI x)] (zAll s t o) (zRi (fun xr M2 => ((0 ≤ a ∧ a < s 4 0 0) ∧ 0 ≤ x ∧ x < 600) ∧ xr = zFind s (zBit 31) a.toNat x 600 ∧ M2 = (zAll s t o))) (fun E M2 => E = "java/lang/IndexOutOfBoundsException" ∧ ¬ ((0 ≤ a ∧ a < s 4 0 0) ∧ 0 ≤ x ∧ x < 600) ∧ M2 = (zAll s t o)) := by
  refine zStart hfl (by decide) (own := RX6) rfl [(0, .ref 0), (1, .int (zI a)), (2, .int (zI x))] (Nat.le_of_ble_eq_true rfl) rfl (fun k hkl hinit hk0 F => ?_)
  have hn0 := hc.1
  have hn4 := hc.2.1
  have hn9 := hc.2.2.1
  have hn14 := hc.2.2.2.1
  have hn18 := hc.2.2.2.2.1
  refine z_aload_n F 0 dX6_earliestByScan_0 rfl rfl ?_
  refine z_iload_n F 1 dX6_earliestByScan_1 rfl rfl ?_
  refine z_callV F [.int (zI a)] [] (c_X6_requireService F.2.2.1 G (t := t) (o := o) hc hb9 ha) cv_X6_96 (zAll_0 s t o) rfl rfl rfl ⟨by decide, by decide⟩ ⟨by decide, by decide⟩ (Nat.le_of_ble_eq_true rfl) dX6_earliestByScan_2 (fun E M9 h9 => z_xo F (by decide) (by decide) ⟨h9.1, fun h => h9.2.1 h.1, h9.2.2⟩) (z_kv (fun M_1 h_1 => ?_))
  obtain ⟨hq1, hm9⟩ := h_1
  have hm9 := hm9.symm
  subst hm9
  refine z_iload_n F 2 dX6_earliestByScan_5 rfl rfl ?_
  refine z_callS F [.int (zI x)] [] (c_X6_requireMinute F.2.2.1 G (t := t) (o := o) hc hb9 hx) cs_X6_120 rfl ⟨by decide, by decide⟩ ⟨by decide, by decide⟩ (Nat.le_of_ble_eq_true rfl) dX6_earliestByScan_6 (fun E M9 h9 => z_xo F (by decide) (by decide) ⟨h9.1, fun h => h9.2.1 h.2, h9.2.2⟩) (z_kv (fun M_2 h_2 => ?_))
  obtain ⟨hq2, hm9⟩ := h_2
  have hm9 := hm9.symm
  subst hm9
  refine z_aload_n F 0 dX6_earliestByScan_9 rfl rfl ?_
  refine z_aload_n F 0 dX6_earliestByScan_10 rfl rfl ?_
  refine z_get F fl_X6_16 (zAll_0 s t o) rfl dX6_earliestByScan_11 ?_
  refine z_iload_n F 1 dX6_earliestByScan_14 rfl rfl ?_
  refine z_callV F [.int (zI a)] [.ref 0] (g_s F.2.2.1 G hc (i := a) (by omega) (by omega)) cv_X6_99 (zAll_65 s t o) rfl rfl rfl ⟨by decide, by decide⟩ ⟨by decide, by decide⟩ (Nat.le_of_ble_eq_true rfl) dX6_earliestByScan_15 z_nx (z_kr (fun x_3 M_3 h_3 => ?_))
  have hx9 := (h_3).1.symm
  have hm9 := (h_3).2.symm
  subst hx9
  subst hm9
  refine z_cast (ci := 5) F (zr_9 _ (List.mem_of_getElem? (i := 8) rfl)) (zAll_s t o (i := a.toNat) (by omega)) rfl dX6_earliestByScan_18 ?_
  refine z_bipush (z := 31) F dX6_earliestByScan_21 (by decide) ?_
  refine z_iload_n F 2 dX6_earliestByScan_23 rfl rfl ?_
  refine z_sipush (z := 600) F dX6_earliestByScan_24 (by decide) ?_
  refine z_callV F [.ref (64 * a.toNat + 10), .int (zI 31), .int (zI x), .int (zI 600)] [] (c_X6_firstStartByScan F.2.2.1 G (t := t) (o := o) hc hb9 (a := a.toNat) (wo := 31) (by omega) (by decide) (by omega) (by omega)) cv_X6_214 (zAll_0 s t o) rfl rfl rfl ⟨by decide, by decide⟩ ⟨by decide, by decide⟩ (Nat.le_of_ble_eq_true rfl) dX6_earliestByScan_27 z_nx (z_ki (fun x_4 M_4 h_4 => ?_))
  have hx9 := (h_4).1.symm
  have hm9 := (h_4).2.symm
  subst hx9
  subst hm9
  exact z_reti F rfl (by first | decide | assumption | omega) (by first | decide | assumption | omega) dX6_earliestByScan_30 ⟨_, rfl, ⟨hq1, hq2⟩, rfl, rfl⟩

abbrev rX6_staffFor : Room := { frames := 7, cells := 2, slots := 12, locals := 162 }
set_option maxRecDepth 100000 in
set_option maxHeartbeats 4000000 in
theorem c_X6_staffFor {l : Launch} (hfl : l.stackTraces = false) (G : zG) {s t : zS} {o : zOx} (hc : zC1 s) (hb9 : zB s) {a x : Int} (ha : zR a) (hx : zR x) (hH : zHA s)  : zCn l G yX6_staffFor (.code yX6_staffFor cX6_staffFor 5 (some .int)) rX6_staffFor [.ref 0, .int (zI a), .int (zI x)] (zAll s t o) (zRi (fun xr M2 => ((0 ≤ a ∧ a < s 4 0 0) ∧ 0 ≤ x ∧ x < 600) ∧ xr = (if zFind s (zBit 31) a.toNat x 600 = -1 then -1 else zGet s (zBit 31) a.toNat (zFind s (zBit 31) a.toNat x 600)) ∧ ∃ c9 : Nat → Int, M2 = zAll s t (o.1, c9) ∧ (∀ m, c9 m = 0 ∨ c9 m = 1))) (fun E M2 => E = "java/lang/IndexOutOfBoundsException" ∧ ¬ ((0 ≤ a ∧ a < s 4 0 0) ∧ 0 ≤ x ∧ x < 600) ∧ M2 = (zAll s t o)) := by
  refine zStart hfl (by decide) (own := RX6) rfl [(0, .ref 0), (1, .int (zI a)), (2, .int (zI x))] (Nat.le_of_ble_eq_true rfl) rfl (fun k hkl hinit hk0 F => ?_)
  have hn0 := hc.1
  have hn4 := hc.2.1
  have hn9 := hc.2.2.1
  have hn14 := hc.2.2.2.1
  have hn18 := hc.2.2.2.2.1
  refine z_aload_n F 0 dX6_staffFor_0 rfl rfl ?_
  refine z_iload_n F 1 dX6_staffFor_1 rfl rfl ?_
  refine z_callV F [.int (zI a)] [] (c_X6_requireService F.2.2.1 G (t := t) (o := o) hc hb9 ha) cv_X6_96 (zAll_0 s t o) rfl rfl rfl ⟨by decide, by decide⟩ ⟨by decide, by decide⟩ (Nat.le_of_ble_eq_true rfl) dX6_staffFor_2 (fun E M9 h9 => z_xo F (by decide) (by decide) ⟨h9.1, fun h => h9.2.1 h.1, h9.2.2⟩) (z_kv (fun M_1 h_1 => ?_))
  obtain ⟨hq1, hm9⟩ := h_1
  have hm9 := hm9.symm
  subst hm9
  refine z_iload_n F 2 dX6_staffFor_5 rfl rfl ?_
  refine z_callS F [.int (zI x)] [] (c_X6_requireMinute F.2.2.1 G (t := t) (o := o) hc hb9 hx) cs_X6_120 rfl ⟨by decide, by decide⟩ ⟨by decide, by decide⟩ (Nat.le_of_ble_eq_true rfl) dX6_staffFor_6 (fun E M9 h9 => z_xo F (by decide) (by decide) ⟨h9.1, fun h => h9.2.1 h.2, h9.2.2⟩) (z_kv (fun M_2 h_2 => ?_))
  obtain ⟨hq2, hm9⟩ := h_2
  have hm9 := hm9.symm
  subst hm9
  refine z_aload_n F 0 dX6_staffFor_9 rfl rfl ?_
  refine z_get F fl_X6_16 (zAll_0 s t o) rfl dX6_staffFor_10 ?_
  refine z_iload_n F 1 dX6_staffFor_13 rfl rfl ?_
  refine z_callV F [.int (zI a)] [] (g_s F.2.2.1 G hc (i := a) (by omega) (by omega)) cv_X6_99 (zAll_65 s t o) rfl rfl rfl ⟨by decide, by decide⟩ ⟨by decide, by decide⟩ (Nat.le_of_ble_eq_true rfl) dX6_staffFor_14 z_nx (z_kr (fun x_3 M_3 h_3 => ?_))
  have hx9 := (h_3).1.symm
  have hm9 := (h_3).2.symm
  subst hx9
  subst hm9
  refine z_cast (ci := 5) F (zr_9 _ (List.mem_of_getElem? (i := 8) rfl)) (zAll_s t o (i := a.toNat) (by omega)) rfl dX6_staffFor_17 ?_
  refine z_astore_n F [(3, .ref (64 * a.toNat + 10)), (0, .ref 0), (1, .int (zI a)), (2, .int (zI x))] dX6_staffFor_20 rfl (by decide) rfl ?_
  refine z_aload_n F 1 dX6_staffFor_21 rfl rfl ?_
  refine z_aload_n F 0 dX6_staffFor_22 rfl rfl ?_
  refine z_bipush (z := 31) F dX6_staffFor_23 (by decide) ?_
  refine z_iload_n F 3 dX6_staffFor_25 rfl rfl ?_
  refine z_callV F [.ref (64 * a.toNat + 10), .int (zI 31), .int (zI x)] [] (c_X6_firstStart F.2.2.1 G (t := t) (o := o) hc hb9 (a := a.toNat) (wo := 31) (by omega) (by decide) (by omega) (hH 31 a.toNat x (by omega) (by omega))) cv_X6_155 (zAll_0 s t o) rfl rfl rfl ⟨by decide, by decide⟩ ⟨by decide, by decide⟩ (Nat.le_of_ble_eq_true rfl) dX6_staffFor_26 z_nx (z_ki (fun x_4 M_4 h_4 => ?_))
  obtain ⟨hx9, ck, hm9, hk1⟩ := h_4
  subst hx9
  subst hm9
  have hfr9 := zFind_r s (zBit 31) a.toNat x 600
  have hln := hc.len a.toNat
  refine z_istore F [(4, .int (zI (zFind s (zBit 31) a.toNat x 600))), (3, .ref (64 * a.toNat + 10)), (0, .ref 0), (1, .int (zI a)), (2, .int (zI x))] dX6_staffFor_29 (by decide) rfl ?_
  refine z_iload F 0 dX6_staffFor_31 rfl ?_
  refine z_iconst (z := -1) F dX6_staffFor_33 (by decide) ?_
  refine z_icmp_ne F 41 dX6_staffFor_34 (by decide) (by omega) ⟨by decide, by decide⟩ (fun c_5 => ?_) (fun c_5 => ?_)
  · skip
    have hne : ¬ zFind s (zBit 31) a.toNat x 600 = -1 := c_5
    refine z_aload_n F 2 dX6_staffFor_41 rfl rfl ?_
    refine z_aload_n F 1 dX6_staffFor_42 rfl rfl ?_
    refine z_bipush (z := 31) F dX6_staffFor_43 (by decide) ?_
    refine z_iload F 0 dX6_staffFor_45 rfl ?_
    refine z_callV F [.ref (64 * a.toNat + 10), .int (zI 31), .int (zI (zFind s (zBit 31) a.toNat x 600))] [] (c_X6_memberFor F.2.2.1 G (t := t) (o := (o.1, ck)) hc hb9 (a := a.toNat) (wo := 31) (by omega) (by decide) (by omega)) cv_X6_218 (zAll_0 s t (o.1, ck)) rfl rfl rfl ⟨by decide, by decide⟩ ⟨by decide, by decide⟩ (Nat.le_of_ble_eq_true rfl) dX6_staffFor_47 z_nx (z_ki (fun x_6 M_6 h_6 => ?_))
    have hx9 := (h_6).1.symm
    have hm9 := (h_6).2.symm
    subst hx9
    subst hm9
    exact z_reti F rfl (by first | decide | assumption | omega) (by first | decide | assumption | omega) dX6_staffFor_50 ⟨_, rfl, ⟨hq1, hq2⟩, (by first | exact (if_pos hne).symm | exact (if_neg hne).symm), ck, rfl, hk1⟩
  · skip
    have hne : zFind s (zBit 31) a.toNat x 600 = -1 := c_5
    refine z_iconst (z := -1) F dX6_staffFor_37 (by decide) ?_
    refine z_goto F 50 dX6_staffFor_38 (by decide) ?_
    exact z_reti F rfl (by first | decide | assumption | omega) (by first | decide | assumption | omega) dX6_staffFor_50 ⟨_, rfl, ⟨hq1, hq2⟩, (by first | exact (if_pos hne).symm | exact (if_neg hne).symm), ck, rfl, hk1⟩

