/-! ===== leaf methods ===== -/
abbrev rX6_isMinute : Room := { frames := 0, cells := 0, slots := 0, locals := 0 }
set_option maxRecDepth 100000 in
set_option maxHeartbeats 4000000 in
theorem c_X6_isMinute {l : Launch} (hfl : l.stackTraces = false) (G : zG) {a : Int} (ha : zR a) (M : zM)  : zCn l G yX6_isMinute (.code yX6_isMinute cX6_isMinute 1 (some .boolean)) rX6_isMinute [.int (zI a)] M (zRi (fun x M2 => x = (if 0 ≤ a ∧ a < 600 then 1 else 0) ∧ M2 = M)) zN := by
  refine zStart hfl (by decide) (own := RX6) rfl [(0, .int (zI a))] (Nat.le_of_ble_eq_true rfl) rfl (fun k hkl hinit hk0 F => ?_)
  refine z_iload_n F 0 dX6_isMinute_0 rfl rfl ?_
  refine z_if_lt F 15 dX6_isMinute_1 (by decide) (by omega) (fun c_1 => ?_) (fun c_1 => ?_)
  · skip
    refine z_iconst (z := 0) F dX6_isMinute_15 (by decide) ?_
    exact z_retz F rfl (by decide) (by decide) (by decide) dX6_isMinute_16 ⟨_, rfl, (by split <;> omega), rfl⟩
  · skip
    refine z_iload_n F 0 dX6_isMinute_4 rfl rfl ?_
    refine z_sipush (z := 600) F dX6_isMinute_5 (by decide) ?_
    refine z_icmp_ge F 15 dX6_isMinute_8 (by decide) (by omega) ⟨by decide, by decide⟩ (fun c_2 => ?_) (fun c_2 => ?_)
    · skip
      refine z_iconst (z := 0) F dX6_isMinute_15 (by decide) ?_
      exact z_retz F rfl (by decide) (by decide) (by decide) dX6_isMinute_16 ⟨_, rfl, (by split <;> omega), rfl⟩
    · skip
      refine z_iconst (z := 1) F dX6_isMinute_11 (by decide) ?_
      refine z_goto F 16 dX6_isMinute_12 (by decide) ?_
      exact z_retz F rfl (by decide) (by decide) (by decide) dX6_isMinute_16 ⟨_, rfl, (by split <;> omega), rfl⟩

abbrev rX6_isSkill : Room := { frames := 0, cells := 0, slots := 0, locals := 0 }
set_option maxRecDepth 100000 in
set_option maxHeartbeats 4000000 in
theorem c_X6_isSkill {l : Launch} (hfl : l.stackTraces = false) (G : zG) {a : Int} (ha : zR a) (M : zM)  : zCn l G yX6_isSkill (.code yX6_isSkill cX6_isSkill 1 (some .boolean)) rX6_isSkill [.int (zI a)] M (zRi (fun x M2 => x = (if 0 ≤ a ∧ a < 4 then 1 else 0) ∧ M2 = M)) zN := by
  refine zStart hfl (by decide) (own := RX6) rfl [(0, .int (zI a))] (Nat.le_of_ble_eq_true rfl) rfl (fun k hkl hinit hk0 F => ?_)
  refine z_iload_n F 0 dX6_isSkill_0 rfl rfl ?_
  refine z_if_lt F 13 dX6_isSkill_1 (by decide) (by omega) (fun c_1 => ?_) (fun c_1 => ?_)
  · skip
    refine z_iconst (z := 0) F dX6_isSkill_13 (by decide) ?_
    exact z_retz F rfl (by decide) (by decide) (by decide) dX6_isSkill_14 ⟨_, rfl, (by split <;> omega), rfl⟩
  · skip
    refine z_iload_n F 0 dX6_isSkill_4 rfl rfl ?_
    refine z_iconst (z := 4) F dX6_isSkill_5 (by decide) ?_
    refine z_icmp_ge F 13 dX6_isSkill_6 (by decide) (by omega) ⟨by decide, by decide⟩ (fun c_2 => ?_) (fun c_2 => ?_)
    · skip
      refine z_iconst (z := 0) F dX6_isSkill_13 (by decide) ?_
      exact z_retz F rfl (by decide) (by decide) (by decide) dX6_isSkill_14 ⟨_, rfl, (by split <;> omega), rfl⟩
    · skip
      refine z_iconst (z := 1) F dX6_isSkill_9 (by decide) ?_
      refine z_goto F 14 dX6_isSkill_10 (by decide) ?_
      exact z_retz F rfl (by decide) (by decide) (by decide) dX6_isSkill_14 ⟨_, rfl, (by split <;> omega), rfl⟩

abbrev rX6_isChair : Room := { frames := 0, cells := 0, slots := 0, locals := 0 }
set_option maxRecDepth 100000 in
set_option maxHeartbeats 4000000 in
theorem c_X6_isChair {l : Launch} (hfl : l.stackTraces = false) (G : zG) {a : Int} (ha : zR a) (M : zM)  : zCn l G yX6_isChair (.code yX6_isChair cX6_isChair 1 (some .boolean)) rX6_isChair [.int (zI a)] M (zRi (fun x M2 => x = (if 0 ≤ a ∧ a < 4 then 1 else 0) ∧ M2 = M)) zN := by
  refine zStart hfl (by decide) (own := RX6) rfl [(0, .int (zI a))] (Nat.le_of_ble_eq_true rfl) rfl (fun k hkl hinit hk0 F => ?_)
  refine z_iload_n F 0 dX6_isChair_0 rfl rfl ?_
  refine z_if_lt F 13 dX6_isChair_1 (by decide) (by omega) (fun c_1 => ?_) (fun c_1 => ?_)
  · skip
    refine z_iconst (z := 0) F dX6_isChair_13 (by decide) ?_
    exact z_retz F rfl (by decide) (by decide) (by decide) dX6_isChair_14 ⟨_, rfl, (by split <;> omega), rfl⟩
  · skip
    refine z_iload_n F 0 dX6_isChair_4 rfl rfl ?_
    refine z_iconst (z := 4) F dX6_isChair_5 (by decide) ?_
    refine z_icmp_ge F 13 dX6_isChair_6 (by decide) (by omega) ⟨by decide, by decide⟩ (fun c_2 => ?_) (fun c_2 => ?_)
    · skip
      refine z_iconst (z := 0) F dX6_isChair_13 (by decide) ?_
      exact z_retz F rfl (by decide) (by decide) (by decide) dX6_isChair_14 ⟨_, rfl, (by split <;> omega), rfl⟩
    · skip
      refine z_iconst (z := 1) F dX6_isChair_9 (by decide) ?_
      refine z_goto F 14 dX6_isChair_10 (by decide) ?_
      exact z_retz F rfl (by decide) (by decide) (by decide) dX6_isChair_14 ⟨_, rfl, (by split <;> omega), rfl⟩

abbrev rX0_at : Room := { frames := 1, cells := 0, slots := 0, locals := 20 }
set_option maxRecDepth 100000 in
set_option maxHeartbeats 4000000 in
theorem c_X0_at {l : Launch} (hfl : l.stackTraces = false) (G : zG) {td tv tk : Nat} {f g : Nat → Int} {a : Int} (ha : zR a) (M : zM) (h0 : M td = some (zOb 1 [.ref tv, .ref tk])) (h1 : M tv = some (zAi 0 600 f)) (h2 : M tk = some (zAi 0 601 g)) : zCn l G yX0_at (.code yX0_at cX0_at 2 (some .int)) rX0_at [.ref td, .int (zI a)] M (zRi (fun x M2 => x = (if 0 ≤ a ∧ a < 600 then f a.toNat else -1) ∧ M2 = M)) zN := by
  refine zStart hfl (by decide) (own := RX0) rfl [(0, .ref td), (1, .int (zI a))] (Nat.le_of_ble_eq_true rfl) rfl (fun k hkl hinit hk0 F => ?_)
  refine z_iload_n F 1 dX0_at_0 rfl rfl ?_
  refine z_callSN (n := 1) F [.int (zI a)] [] (c_X6_isMinute F.2.2.1 G ha M) (List.mem_of_getElem? (i := 0) rfl) zq_isMinute (by decide) rfl ⟨by decide, by decide⟩ ⟨by decide, by decide⟩ (by decide) dX0_at_1 z_nx (z_ki (fun x_1 M_1 h_1 => ?_))
  obtain ⟨rfl, rfl⟩ := h_1
  have hz : zR (if 0 ≤ a ∧ a < 600 then 1 else 0) := by split <;> exact ⟨by decide, by decide⟩
  refine z_if_eq F 16 dX0_at_4 (by decide) (by omega) (fun c_2 => ?_) (fun c_2 => ?_)
  · skip
    have hc : ¬ (0 ≤ a ∧ a < 600) := fun h => by rw [if_pos h] at c_2; omega
    refine z_iconst (z := -1) F dX0_at_16 (by decide) ?_
    exact z_reti F rfl (by decide) (by decide) dX0_at_17 ⟨_, rfl, (if_neg hc).symm, rfl⟩
  · skip
    have hc : 0 ≤ a ∧ a < 600 := Classical.byContradiction fun h => by rw [if_neg h] at c_2; omega
    refine z_aload_n F 0 dX0_at_7 rfl rfl ?_
    refine z_get F fl_X0_9 h0 rfl dX0_at_8 ?_
    refine z_iload_n F 1 dX0_at_11 rfl rfl ?_
    refine z_iald F h1 (by omega) (by omega) (by decide) dX0_at_12 ?_
    refine z_goto F 17 dX0_at_13 (by decide) ?_
    exact z_reti F rfl (by decide) (by decide) dX0_at_17 ⟨_, rfl, (if_pos hc).symm, rfl⟩
