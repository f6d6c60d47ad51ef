/-! ===== the small classes ===== -/
theorem zInitM {M : zM} {tm td tv tk : Nat} {a b c d o0 o1 o2 o3 : zO} (n1 : tm ≠ td) (n2 : tm ≠ tv) (n3 : tm ≠ tk) : zu (zu (zu (zu (zu (zu (zu (zu M td o0) td o1) tv o2) tk o3) tm a) tm b) tm c) tm d = zu (zu (zu (zu M tm d) td o1) tv o2) tk o3 := by
  funext q
  simp only [zu]
  by_cases h : q = tm
  · subst h; simp [n1, n2, n3]
  · by_cases h2 : q = td
    · subst h2; simp [h]
    · simp [h, h2]
theorem zInit4 {M : zM} {ts t1 t2 t3 : Nat} {o1 o2 o3 a b c d : zO} (n1 : ts ≠ t1) (n2 : ts ≠ t2) (n3 : ts ≠ t3) : zu (zu (zu (zu (zu (zu (zu M t1 o1) ts a) t2 o2) ts b) t3 o3) ts c) ts d = zu (zu (zu (zu M ts d) t1 o1) t2 o2) t3 o3 := by
  funext q
  simp only [zu]
  by_cases h : q = ts
  · subst h; simp [n1, n2, n3]
  · simp [h]
abbrev rX2_clear : Room := { frames := 0, cells := 0, slots := 0, locals := 0 }
set_option maxRecDepth 100000 in
set_option maxHeartbeats 4000000 in
theorem c_X2_clear {l : Launch} (hfl : l.stackTraces = false) (G : zG) {th tb : Nat} {f : Nat → Int} (M : zM) (h0 : M th = some (zOb 3 [.ref tb])) (h1 : M tb = some (zAi 1 600 f)) (n1 : th ≠ tb) : zCn l G yX2_clear (.code yX2_clear cX2_clear 2 none) rX2_clear [.ref th] M (zRv (fun M2 => M2 = zu M tb (zAi 1 600 (fun _ => 0)))) zN := by
  refine zStart hfl (by decide) (own := RX2) rfl [(0, .ref th)] (Nat.le_of_ble_eq_true rfl) rfl (fun k hkl hinit hk0 F => ?_)
  refine z_iconst (z := 0) F dX2_clear_0 (by decide) ?_
  refine z_istore_n F [(1, .int (zI 0)), (0, .ref th)] dX2_clear_1 rfl (by decide) rfl ?_
  have L1 : ∀ (fuel : Nat) (i : Int), (600 - i).toNat < fuel → 0 ≤ i → i ≤ 600 → zJ k G rX2_clear 2 (zMQ k G rX2_clear (zRv (fun M2 => M2 = zu M tb (zAi 1 600 (fun _ => 0)))) zN) (zu M tb (zAi 1 600 (zfil f 0 i 0))) 0 0 2 [(0, .ref th), (1, .int (zI i))] [] := by
    intro fuel
    induction fuel with
    | zero => intros; omega
    | succ fuel L1_ih =>
      intro i hfuel hi hi2
      refine z_iload_n F 1 dX2_clear_2 rfl rfl ?_
      refine z_sipush (z := 600) F dX2_clear_3 (by decide) ?_
      refine z_icmp_ge F 22 dX2_clear_6 (by decide) (by omega) ⟨by decide, by decide⟩ (fun c_1 => ?_) (fun c_1 => ?_)
      · skip
        refine z_ext (fun _ => 0) (zu_s _ _ _) (fun j hj => if_pos (by omega)) ?_
        refine z_M (zu_zu _ _ _ _) ?_
        exact z_retv F rfl (by first | decide | assumption | omega) (by first | decide | assumption | omega) dX2_clear_22 ⟨rfl, rfl⟩
      · skip
        refine z_aload_n F 0 dX2_clear_9 rfl rfl ?_
        refine z_get F fl_X2_9 ((zu_n n1).trans h0) rfl dX2_clear_10 ?_
        refine z_iload_n F 1 dX2_clear_13 rfl rfl ?_
        refine z_iconst (z := 0) F dX2_clear_14 (by decide) ?_
        refine z_zast F (zu_s _ _ _) (by omega) (by omega) (by decide) (Or.inl rfl) dX2_clear_15 ?_
        have hm_2_0 := (zu_n (M := (zu M tb (zAi 1 600 (zfil f 0 i 0)))) (t := tb) (q := th) (o := (zAi 1 600 (zup ((zfil f 0 i 0)) (i).toNat 0))) (by first | assumption | omega | (intro h9; omega))).trans ((zu_n n1).trans h0)
        have hm_2_s := zu_s (zu M tb (zAi 1 600 (zfil f 0 i 0))) tb (zAi 1 600 (zup ((zfil f 0 i 0)) (i).toNat 0))
        refine z_iinc F 1 [(1, .int (zI (i + 1))), (0, .ref th)] dX2_clear_16 rfl (by decide) rfl ?_
        refine z_goto F 2 dX2_clear_19 (by decide) ?_
        refine z_lv [(0, .ref th), (1, .int (zI (i + 1)))] [1, 0] rfl ?_
        refine z_M (M' := zu M tb (zAi 1 600 (zfil f 0 (i + 1) 0))) (by rw [zu_zu, zfil_s f 0 hi hi]) ?_
        exact L1_ih (i + 1) (by omega) (by omega) (by omega)
  refine z_lv [(0, .ref th), (1, .int (zI 0))] [1, 0] rfl ?_
  refine z_M (M' := zu M tb (zAi 1 600 (zfil f 0 0 0))) (by rw [zfil_0 f 0 (Int.le_refl 0), zu_id h1]) ?_
  exact L1 _ 0 (Nat.lt_succ_self _) (by omega) (by omega)

abbrev rX2_add : Room := { frames := 1, cells := 0, slots := 0, locals := 20 }
set_option maxRecDepth 100000 in
set_option maxHeartbeats 4000000 in
theorem c_X2_add {l : Launch} (hfl : l.stackTraces = false) (G : zG) {th tb : Nat} {f : Nat → Int} {a : Int} (ha : zR a) (M : zM) (h0 : M th = some (zOb 3 [.ref tb])) (h1 : M tb = some (zAi 1 600 f)) (n1 : th ≠ tb) : zCn l G yX2_add (.code yX2_add cX2_add 2 none) rX2_add [.ref th, .int (zI a)] M (zRv (fun M2 => M2 = (if 0 ≤ a ∧ a < 600 then zu M tb (zAi 1 600 (zup f a.toNat 1)) else M))) zN := by
  refine zStart hfl (by decide) (own := RX2) rfl [(0, .ref th), (1, .int (zI a))] (Nat.le_of_ble_eq_true rfl) rfl (fun k hkl hinit hk0 F => ?_)
  refine z_iload_n F 1 dX2_add_0 rfl rfl ?_
  refine z_callSN (n := 1) F [.int (zI a)] [] (c_X6_isMinute F.2.2.1 G ha M) (List.mem_of_getElem? (i := 1) rfl) zq_isMinute (by decide) rfl ⟨by decide, by decide⟩ ⟨by decide, by decide⟩ (Nat.le_of_ble_eq_true rfl) dX2_add_1 z_nx (z_ki (fun x_1 M_1 h_1 => ?_))
  have hx9 := (h_1).1.symm
  have hm9 := (h_1).2.symm
  subst hx9
  subst hm9
  have hz : zR (if 0 ≤ a ∧ a < 600 then 1 else 0) := by split <;> exact ⟨by decide, by decide⟩
  refine z_if_eq F 14 dX2_add_4 (by decide) (by omega) (fun c_2 => ?_) (fun c_2 => ?_)
  · skip
    have hc : ¬ (0 ≤ a ∧ a < 600) := fun h => by rw [if_pos h] at c_2; omega
    exact z_retv F rfl (by first | decide | assumption | omega) (by first | decide | assumption | omega) dX2_add_14 ⟨rfl, by first | exact (if_pos hc).symm | exact (if_neg hc).symm⟩
  · skip
    have hc : 0 ≤ a ∧ a < 600 := Classical.byContradiction fun h => by rw [if_neg h] at c_2; omega
    refine z_aload_n F 0 dX2_add_7 rfl rfl ?_
    refine z_get F fl_X2_9 h0 rfl dX2_add_8 ?_
    refine z_iload_n F 1 dX2_add_11 rfl rfl ?_
    refine z_iconst (z := 1) F dX2_add_12 (by decide) ?_
    refine z_zast F h1 (by omega) (by omega) (by decide) (Or.inr rfl) dX2_add_13 ?_
    have hm_3_0 := (zu_n (M := M) (t := tb) (q := th) (o := (zAi 1 600 (zup f (a).toNat 1))) (by first | assumption | omega | (intro h9; omega))).trans h0
    have hm_3_s := zu_s M tb (zAi 1 600 (zup f (a).toNat 1))
    exact z_retv F rfl (by first | decide | assumption | omega) (by first | decide | assumption | omega) dX2_add_14 ⟨rfl, by first | exact (if_pos hc).symm | exact (if_neg hc).symm⟩

abbrev rX2_has : Room := { frames := 1, cells := 0, slots := 0, locals := 20 }
set_option maxRecDepth 100000 in
set_option maxHeartbeats 4000000 in
theorem c_X2_has {l : Launch} (hfl : l.stackTraces = false) (G : zG) {th tb : Nat} {f : Nat → Int} {a : Int} (ha : zR a) (M : zM) (h0 : M th = some (zOb 3 [.ref tb])) (h1 : M tb = some (zAi 1 600 f)) (hf : ∀ j, f j = 0 ∨ f j = 1) : zCn l G yX2_has (.code yX2_has cX2_has 2 (some .boolean)) rX2_has [.ref th, .int (zI a)] M (zRi (fun xr M2 => xr = (if (0 ≤ a ∧ a < 600) ∧ f a.toNat ≠ 0 then 1 else 0) ∧ M2 = M)) zN := by
  refine zStart hfl (by decide) (own := RX2) rfl [(0, .ref th), (1, .int (zI a))] (Nat.le_of_ble_eq_true rfl) rfl (fun k hkl hinit hk0 F => ?_)
  refine z_iload_n F 1 dX2_has_0 rfl rfl ?_
  refine z_callSN (n := 1) F [.int (zI a)] [] (c_X6_isMinute F.2.2.1 G ha M) (List.mem_of_getElem? (i := 1) rfl) zq_isMinute (by decide) rfl ⟨by decide, by decide⟩ ⟨by decide, by decide⟩ (Nat.le_of_ble_eq_true rfl) dX2_has_1 z_nx (z_ki (fun x_1 M_1 h_1 => ?_))
  have hx9 := (h_1).1.symm
  have hm9 := (h_1).2.symm
  subst hx9
  subst hm9
  have hz : zR (if 0 ≤ a ∧ a < 600 then 1 else 0) := by split <;> exact ⟨by decide, by decide⟩
  refine z_if_eq F 20 dX2_has_4 (by decide) (by omega) (fun c_2 => ?_) (fun c_2 => ?_)
  · skip
    have hc : ¬ (0 ≤ a ∧ a < 600) := fun h => by rw [if_pos h] at c_2; omega
    refine z_iconst (z := 0) F dX2_has_20 (by decide) ?_
    exact z_retz F rfl (by decide) (by first | decide | assumption | omega) (by first | decide | assumption | omega) dX2_has_21 ⟨_, rfl, (by split <;> omega), rfl⟩
  · skip
    have hc : 0 ≤ a ∧ a < 600 := Classical.byContradiction fun h => by rw [if_neg h] at c_2; omega
    have hf1 := hf a.toNat
    refine z_aload_n F 0 dX2_has_7 rfl rfl ?_
    refine z_get F fl_X2_9 h0 rfl dX2_has_8 ?_
    refine z_iload_n F 1 dX2_has_11 rfl rfl ?_
    refine z_zald F h1 (by omega) (by omega) (by decide) dX2_has_12 ?_
    refine z_if_eq F 20 dX2_has_13 (by decide) (by omega) (fun c_3 => ?_) (fun c_3 => ?_)
    · skip
      refine z_iconst (z := 0) F dX2_has_20 (by decide) ?_
      exact z_retz F rfl (by decide) (by first | decide | assumption | omega) (by first | decide | assumption | omega) dX2_has_21 ⟨_, rfl, (by split <;> omega), rfl⟩
    · skip
      refine z_iconst (z := 1) F dX2_has_16 (by decide) ?_
      refine z_goto F 21 dX2_has_17 (by decide) ?_
      exact z_retz F rfl (by decide) (by first | decide | assumption | omega) (by first | decide | assumption | omega) dX2_has_21 ⟨_, rfl, (by split <;> omega), rfl⟩

abbrev rX2_init : Room := { frames := 1, cells := 1, slots := 600, locals := 20 }
set_option maxRecDepth 100000 in
set_option maxHeartbeats 4000000 in
theorem c_X2_init {l : Launch} (hfl : l.stackTraces = false) (G : zG) {th tb : Nat} (M : zM) (h0 : M th = some (zOb 3 [.null])) (h1 : M tb = none) (m1 : tb % 64 ≠ 63) (n1 : th ≠ tb) : zCn l G yX2_init (.code yX2_init cX2_init 1 none) rX2_init [.ref th] M (zRv (fun M2 => M2 = zu (zu M th (zOb 3 [.ref tb])) tb (zAi 1 600 (fun _ => 0)))) zN := by
  refine zStart hfl (by decide) (own := RX2) rfl [(0, .ref th)] (Nat.le_of_ble_eq_true rfl) rfl (fun k hkl hinit hk0 F => ?_)
  refine z_aload_n F 0 dX2_init_0 rfl rfl ?_
  refine z_objI F (zr_3 _ (List.mem_of_getElem? (i := 0) rfl)) (zr_1 _ (List.mem_of_getElem? (i := 7) rfl)) (zr_1 _ (List.mem_of_getElem? (i := 8) rfl)) (Nat.le_of_ble_eq_true rfl) (Nat.le_of_ble_eq_true rfl) dX2_init_1 ?_
  refine z_aload_n F 0 dX2_init_4 rfl rfl ?_
  refine z_sipush (z := 600) F dX2_init_5 (by decide) ?_
  refine z_newz F tb 600 (by decide) (by decide) h1 m1 (by decide) (by decide) (zr_3 _ (List.mem_of_getElem? (i := 1) rfl)) dX2_init_8 ?_
  have hm_1_0 := (zu_n (M := M) (t := tb) (q := th) (o := (zAi 1 600 (fun _ => 0))) (by first | assumption | omega | (intro h9; omega))).trans h0
  have hm_1_s := zu_s M tb (zAi 1 600 (fun _ => 0))
  refine z_putF (ty := .array (.boolean)) F [.ref tb] fl_X2_9 tyX2 tyX2_ok nmX2 rfl hinit rfl (by decide +kernel) rfl rfl hm_1_0 (Nat.le_of_ble_eq_true rfl) rfl dX2_init_10 ?_
  have hm_2_0 := (zu_n (M := (zu M tb (zAi 1 600 (fun _ => 0)))) (t := th) (q := tb) (o := (zOb 3 [.ref tb])) (by first | assumption | omega | (intro h9; omega))).trans hm_1_s
  have hm_2_s := zu_s (zu M tb (zAi 1 600 (fun _ => 0))) th (zOb 3 [.ref tb])
  exact z_retv F rfl (by first | decide | assumption | omega) (by first | decide | assumption | omega) dX2_init_13 ⟨rfl, zu_cm (Ne.symm n1)⟩

abbrev rX4_isRest : Room := { frames := 0, cells := 0, slots := 0, locals := 0 }
set_option maxRecDepth 100000 in
set_option maxHeartbeats 4000000 in
theorem c_X4_isRest {l : Launch} (hfl : l.stackTraces = false) (G : zG) {ts t1 t2 t3 : Nat} {f1 f2 f3 : Nat → Int} {nu sc ln wk fx : Int} {wn : Nat} {a : Int} (ha : zR a) (M : zM) (h0 : M ts = some (zOb 5 [.int (zI nu), .ref t1, .ref t2, .ref t3, .int (zI sc), .int (zI ln), .int (zI wk), .int (zI ((wn : Nat))), .int (zI fx)])) (h1 : M t1 = some (zAi 0 5 f1)) (h2 : M t2 = some (zAi 0 5 f2)) (h3 : M t3 = some (zAi 0 5 f3)) (hf : ∀ j, zR (f1 j)) : zCn l G yX4_isRest (.code yX4_isRest cX4_isRest 2 (some .boolean)) rX4_isRest [.ref ts, .int (zI a)] M (zRi (fun xr M2 => xr = (if (0 ≤ a ∧ a < 5) ∧ f1 a.toNat = -1 then 1 else 0) ∧ M2 = M)) zN := by
  refine zStart hfl (by decide) (own := RX4) rfl [(0, .ref ts), (1, .int (zI a))] (Nat.le_of_ble_eq_true rfl) rfl (fun k hkl hinit hk0 F => ?_)
  have hf1 := hf a.toNat
  refine z_iload_n F 1 dX4_isRest_0 rfl rfl ?_
  refine z_if_lt F 23 dX4_isRest_1 (by decide) (by omega) (fun c_1 => ?_) (fun c_1 => ?_)
  · skip
    refine z_iconst (z := 0) F dX4_isRest_23 (by decide) ?_
    exact z_retz F rfl (by decide) (by first | decide | assumption | omega) (by first | decide | assumption | omega) dX4_isRest_24 ⟨_, rfl, (by split <;> omega), rfl⟩
  · skip
    refine z_iload_n F 1 dX4_isRest_4 rfl rfl ?_
    refine z_iconst (z := 5) F dX4_isRest_5 (by decide) ?_
    refine z_icmp_ge F 23 dX4_isRest_6 (by decide) (by omega) ⟨by decide, by decide⟩ (fun c_2 => ?_) (fun c_2 => ?_)
    · skip
      refine z_iconst (z := 0) F dX4_isRest_23 (by decide) ?_
      exact z_retz F rfl (by decide) (by first | decide | assumption | omega) (by first | decide | assumption | omega) dX4_isRest_24 ⟨_, rfl, (by split <;> omega), rfl⟩
    · skip
      refine z_aload_n F 0 dX4_isRest_9 rfl rfl ?_
      refine z_get F fl_X4_9 h0 rfl dX4_isRest_10 ?_
      refine z_iload_n F 1 dX4_isRest_13 rfl rfl ?_
      refine z_iald F h1 (by omega) (by omega) (by decide) dX4_isRest_14 ?_
      refine z_iconst (z := -1) F dX4_isRest_15 (by decide) ?_
      refine z_icmp_ne F 23 dX4_isRest_16 (by decide) (by omega) ⟨by decide, by decide⟩ (fun c_3 => ?_) (fun c_3 => ?_)
      · skip
        refine z_iconst (z := 0) F dX4_isRest_23 (by decide) ?_
        exact z_retz F rfl (by decide) (by first | decide | assumption | omega) (by first | decide | assumption | omega) dX4_isRest_24 ⟨_, rfl, (by split <;> omega), rfl⟩
      · skip
        refine z_iconst (z := 1) F dX4_isRest_19 (by decide) ?_
        refine z_goto F 24 dX4_isRest_20 (by decide) ?_
        exact z_retz F rfl (by decide) (by first | decide | assumption | omega) (by first | decide | assumption | omega) dX4_isRest_24 ⟨_, rfl, (by split <;> omega), rfl⟩

abbrev rX4_stepFrom : Room := { frames := 0, cells := 0, slots := 0, locals := 0 }
set_option maxRecDepth 100000 in
set_option maxHeartbeats 4000000 in
theorem c_X4_stepFrom {l : Launch} (hfl : l.stackTraces = false) (G : zG) {ts t1 t2 t3 : Nat} {f1 f2 f3 : Nat → Int} {nu sc ln wk fx : Int} {wn : Nat} {a : Int} (ha : zR a) (M : zM) (h0 : M ts = some (zOb 5 [.int (zI nu), .ref t1, .ref t2, .ref t3, .int (zI sc), .int (zI ln), .int (zI wk), .int (zI ((wn : Nat))), .int (zI fx)])) (h1 : M t1 = some (zAi 0 5 f1)) (h2 : M t2 = some (zAi 0 5 f2)) (h3 : M t3 = some (zAi 0 5 f3)) : zCn l G yX4_stepFrom (.code yX4_stepFrom cX4_stepFrom 2 (some .int)) rX4_stepFrom [.ref ts, .int (zI a)] M (zRi (fun xr M2 => xr = (if 0 ≤ a ∧ a < 5 then f2 a.toNat else 0) ∧ M2 = M)) zN := by
  refine zStart hfl (by decide) (own := RX4) rfl [(0, .ref ts), (1, .int (zI a))] (Nat.le_of_ble_eq_true rfl) rfl (fun k hkl hinit hk0 F => ?_)
  refine z_iload_n F 1 dX4_stepFrom_0 rfl rfl ?_
  refine z_if_lt F 18 dX4_stepFrom_1 (by decide) (by omega) (fun c_1 => ?_) (fun c_1 => ?_)
  · skip
    refine z_iconst (z := 0) F dX4_stepFrom_18 (by decide) ?_
    exact z_reti F rfl (by first | decide | assumption | omega) (by first | decide | assumption | omega) dX4_stepFrom_19 ⟨_, rfl, (by first | exact (if_pos ⟨by omega, by omega⟩).symm | exact (if_neg (by omega)).symm), rfl⟩
  · skip
    refine z_iload_n F 1 dX4_stepFrom_4 rfl rfl ?_
    refine z_iconst (z := 5) F dX4_stepFrom_5 (by decide) ?_
    refine z_icmp_ge F 18 dX4_stepFrom_6 (by decide) (by omega) ⟨by decide, by decide⟩ (fun c_2 => ?_) (fun c_2 => ?_)
    · skip
      refine z_iconst (z := 0) F dX4_stepFrom_18 (by decide) ?_
      exact z_reti F rfl (by first | decide | assumption | omega) (by first | decide | assumption | omega) dX4_stepFrom_19 ⟨_, rfl, (by first | exact (if_pos ⟨by omega, by omega⟩).symm | exact (if_neg (by omega)).symm), rfl⟩
    · skip
      refine z_aload_n F 0 dX4_stepFrom_9 rfl rfl ?_
      refine z_get F fl_X4_15 h0 rfl dX4_stepFrom_10 ?_
      refine z_iload_n F 1 dX4_stepFrom_13 rfl rfl ?_
      refine z_iald F h2 (by omega) (by omega) (by decide) dX4_stepFrom_14 ?_
      refine z_goto F 19 dX4_stepFrom_15 (by decide) ?_
      exact z_reti F rfl (by first | decide | assumption | omega) (by first | decide | assumption | omega) dX4_stepFrom_19 ⟨_, rfl, (by first | exact (if_pos ⟨by omega, by omega⟩).symm | exact (if_neg (by omega)).symm), rfl⟩

abbrev rX4_stepTo : Room := { frames := 0, cells := 0, slots := 0, locals := 0 }
set_option maxRecDepth 100000 in
set_option maxHeartbeats 4000000 in
theorem c_X4_stepTo {l : Launch} (hfl : l.stackTraces = false) (G : zG) {ts t1 t2 t3 : Nat} {f1 f2 f3 : Nat → Int} {nu sc ln wk fx : Int} {wn : Nat} {a : Int} (ha : zR a) (M : zM) (h0 : M ts = some (zOb 5 [.int (zI nu), .ref t1, .ref t2, .ref t3, .int (zI sc), .int (zI ln), .int (zI wk), .int (zI ((wn : Nat))), .int (zI fx)])) (h1 : M t1 = some (zAi 0 5 f1)) (h2 : M t2 = some (zAi 0 5 f2)) (h3 : M t3 = some (zAi 0 5 f3)) : zCn l G yX4_stepTo (.code yX4_stepTo cX4_stepTo 2 (some .int)) rX4_stepTo [.ref ts, .int (zI a)] M (zRi (fun xr M2 => xr = (if 0 ≤ a ∧ a < 5 then f3 a.toNat else 0) ∧ M2 = M)) zN := by
  refine zStart hfl (by decide) (own := RX4) rfl [(0, .ref ts), (1, .int (zI a))] (Nat.le_of_ble_eq_true rfl) rfl (fun k hkl hinit hk0 F => ?_)
  refine z_iload_n F 1 dX4_stepTo_0 rfl rfl ?_
  refine z_if_lt F 18 dX4_stepTo_1 (by decide) (by omega) (fun c_1 => ?_) (fun c_1 => ?_)
  · skip
    refine z_iconst (z := 0) F dX4_stepTo_18 (by decide) ?_
    exact z_reti F rfl (by first | decide | assumption | omega) (by first | decide | assumption | omega) dX4_stepTo_19 ⟨_, rfl, (by first | exact (if_pos ⟨by omega, by omega⟩).symm | exact (if_neg (by omega)).symm), rfl⟩
  · skip
    refine z_iload_n F 1 dX4_stepTo_4 rfl rfl ?_
    refine z_iconst (z := 5) F dX4_stepTo_5 (by decide) ?_
    refine z_icmp_ge F 18 dX4_stepTo_6 (by decide) (by omega) ⟨by decide, by decide⟩ (fun c_2 => ?_) (fun c_2 => ?_)
    · skip
      refine z_iconst (z := 0) F dX4_stepTo_18 (by decide) ?_
      exact z_reti F rfl (by first | decide | assumption | omega) (by first | decide | assumption | omega) dX4_stepTo_19 ⟨_, rfl, (by first | exact (if_pos ⟨by omega, by omega⟩).symm | exact (if_neg (by omega)).symm), rfl⟩
    · skip
      refine z_aload_n F 0 dX4_stepTo_9 rfl rfl ?_
      refine z_get F fl_X4_18 h0 rfl dX4_stepTo_10 ?_
      refine z_iload_n F 1 dX4_stepTo_13 rfl rfl ?_
      refine z_iald F h3 (by omega) (by omega) (by decide) dX4_stepTo_14 ?_
      refine z_goto F 19 dX4_stepTo_15 (by decide) ?_
      exact z_reti F rfl (by first | decide | assumption | omega) (by first | decide | assumption | omega) dX4_stepTo_19 ⟨_, rfl, (by first | exact (if_pos ⟨by omega, by omega⟩).symm | exact (if_neg (by omega)).symm), rfl⟩

abbrev rX4_init : Room := { frames := 1, cells := 3, slots := 15, locals := 20 }
set_option maxRecDepth 100000 in
set_option maxHeartbeats 4000000 in
theorem c_X4_init {l : Launch} (hfl : l.stackTraces = false) (G : zG) {ts t1 t2 t3 : Nat} {a : Int} (M : zM) (h0 : M ts = some (zOb 5 [.int (zI 0), .null, .null, .null, .int (zI 0), .int (zI 0), .int (zI 0), .int (zI 0), .int (zI 0)])) (h1 : M t1 = none) (h2 : M t2 = none) (h3 : M t3 = none) (m1 : t1 % 64 ≠ 63) (m2 : t2 % 64 ≠ 63) (m3 : t3 % 64 ≠ 63) (n1 : ts ≠ t1) (n2 : ts ≠ t2) (n3 : ts ≠ t3) (n4 : t1 ≠ t2) (n5 : t1 ≠ t3) (n6 : t2 ≠ t3) : zCn l G yX4_init (.code yX4_init cX4_init 2 none) rX4_init [.ref ts, .int (zI a)] M (zRv (fun M2 => M2 = zu (zu (zu (zu M ts (zOb 5 [.int (zI a), .ref t1, .ref t2, .ref t3, .int (zI 0), .int (zI 0), .int (zI 0), .int (zI 0), .int (zI 0)])) t1 (zAi 0 5 (fun _ => 0))) t2 (zAi 0 5 (fun _ => 0))) t3 (zAi 0 5 (fun _ => 0)))) zN := by
  refine zStart hfl (by decide) (own := RX4) rfl [(0, .ref ts), (1, .int (zI a))] (Nat.le_of_ble_eq_true rfl) rfl (fun k hkl hinit hk0 F => ?_)
  refine z_aload_n F 0 dX4_init_0 rfl rfl ?_
  refine z_objI F (zr_7 _ (List.mem_of_getElem? (i := 15) rfl)) (zr_1 _ (List.mem_of_getElem? (i := 7) rfl)) (zr_1 _ (List.mem_of_getElem? (i := 8) rfl)) (Nat.le_of_ble_eq_true rfl) (Nat.le_of_ble_eq_true rfl) dX4_init_1 ?_
  refine z_aload_n F 0 dX4_init_4 rfl rfl ?_
  refine z_iconst (z := 5) F dX4_init_5 (by decide) ?_
  refine z_newi F t1 5 (by decide) (by decide) h1 m1 (by decide) (by decide) (zr_2 _ (List.mem_of_getElem? (i := 19) rfl)) dX4_init_6 ?_
  have hm_1_0 := (zu_n (M := M) (t := t1) (q := ts) (o := (zAi 0 5 (fun _ => 0))) (by first | assumption | omega | (intro h9; omega))).trans h0
  have hm_1_s := zu_s M t1 (zAi 0 5 (fun _ => 0))
  refine z_putF (ty := .array (.int)) F [.int (zI 0), .ref t1, .null, .null, .int (zI 0), .int (zI 0), .int (zI 0), .int (zI 0), .int (zI 0)] fl_X4_9 tyX4 tyX4_ok nmX4 rfl hinit rfl (by decide +kernel) rfl rfl hm_1_0 (Nat.le_of_ble_eq_true rfl) rfl dX4_init_8 ?_
  have hm_2_0 := (zu_n (M := (zu M t1 (zAi 0 5 (fun _ => 0)))) (t := ts) (q := t1) (o := (zOb 5 [.int (zI 0), .ref t1, .null, .null, .int (zI 0), .int (zI 0), .int (zI 0), .int (zI 0), .int (zI 0)])) (by first | assumption | omega | (intro h9; omega))).trans hm_1_s
  have hm_2_s := zu_s (zu M t1 (zAi 0 5 (fun _ => 0))) ts (zOb 5 [.int (zI 0), .ref t1, .null, .null, .int (zI 0), .int (zI 0), .int (zI 0), .int (zI 0), .int (zI 0)])
  refine z_aload_n F 0 dX4_init_11 rfl rfl ?_
  refine z_iconst (z := 5) F dX4_init_12 (by decide) ?_
  refine z_newi F t2 5 (by decide) (by decide) ((zu_n (Ne.symm n2)).trans ((zu_n (Ne.symm n4)).trans h2)) m2 (by decide) (by decide) (zr_2 _ (List.mem_of_getElem? (i := 19) rfl)) dX4_init_13 ?_
  have hm_3_0 := (zu_n (M := (zu (zu M t1 (zAi 0 5 (fun _ => 0))) ts (zOb 5 [.int (zI 0), .ref t1, .null, .null, .int (zI 0), .int (zI 0), .int (zI 0), .int (zI 0), .int (zI 0)]))) (t := t2) (q := t1) (o := (zAi 0 5 (fun _ => 0))) (by first | assumption | omega | (intro h9; omega))).trans hm_2_0
  have hm_3_1 := (zu_n (M := (zu (zu M t1 (zAi 0 5 (fun _ => 0))) ts (zOb 5 [.int (zI 0), .ref t1, .null, .null, .int (zI 0), .int (zI 0), .int (zI 0), .int (zI 0), .int (zI 0)]))) (t := t2) (q := ts) (o := (zAi 0 5 (fun _ => 0))) (by first | assumption | omega | (intro h9; omega))).trans hm_2_s
  have hm_3_s := zu_s (zu (zu M t1 (zAi 0 5 (fun _ => 0))) ts (zOb 5 [.int (zI 0), .ref t1, .null, .null, .int (zI 0), .int (zI 0), .int (zI 0), .int (zI 0), .int (zI 0)])) t2 (zAi 0 5 (fun _ => 0))
  refine z_putF (ty := .array (.int)) F [.int (zI 0), .ref t1, .ref t2, .null, .int (zI 0), .int (zI 0), .int (zI 0), .int (zI 0), .int (zI 0)] fl_X4_15 tyX4 tyX4_ok nmX4 rfl hinit rfl (by decide +kernel) rfl rfl hm_3_1 (Nat.le_of_ble_eq_true rfl) rfl dX4_init_15 ?_
  have hm_4_0 := (zu_n (M := (zu (zu (zu M t1 (zAi 0 5 (fun _ => 0))) ts (zOb 5 [.int (zI 0), .ref t1, .null, .null, .int (zI 0), .int (zI 0), .int (zI 0), .int (zI 0), .int (zI 0)])) t2 (zAi 0 5 (fun _ => 0)))) (t := ts) (q := t1) (o := (zOb 5 [.int (zI 0), .ref t1, .ref t2, .null, .int (zI 0), .int (zI 0), .int (zI 0), .int (zI 0), .int (zI 0)])) (by first | assumption | omega | (intro h9; omega))).trans hm_3_0
  have hm_4_1 := (zu_n (M := (zu (zu (zu M t1 (zAi 0 5 (fun _ => 0))) ts (zOb 5 [.int (zI 0), .ref t1, .null, .null, .int (zI 0), .int (zI 0), .int (zI 0), .int (zI 0), .int (zI 0)])) t2 (zAi 0 5 (fun _ => 0)))) (t := ts) (q := t2) (o := (zOb 5 [.int (zI 0), .ref t1, .ref t2, .null, .int (zI 0), .int (zI 0), .int (zI 0), .int (zI 0), .int (zI 0)])) (by first | assumption | omega | (intro h9; omega))).trans hm_3_s
  have hm_4_s := zu_s (zu (zu (zu M t1 (zAi 0 5 (fun _ => 0))) ts (zOb 5 [.int (zI 0), .ref t1, .null, .null, .int (zI 0), .int (zI 0), .int (zI 0), .int (zI 0), .int (zI 0)])) t2 (zAi 0 5 (fun _ => 0))) ts (zOb 5 [.int (zI 0), .ref t1, .ref t2, .null, .int (zI 0), .int (zI 0), .int (zI 0), .int (zI 0), .int (zI 0)])
  refine z_aload_n F 0 dX4_init_18 rfl rfl ?_
  refine z_iconst (z := 5) F dX4_init_19 (by decide) ?_
  refine z_newi F t3 5 (by decide) (by decide) ((zu_n (Ne.symm n3)).trans ((zu_n (Ne.symm n6)).trans ((zu_n (Ne.symm n3)).trans ((zu_n (Ne.symm n5)).trans h3)))) m3 (by decide) (by decide) (zr_2 _ (List.mem_of_getElem? (i := 19) rfl)) dX4_init_20 ?_
  have hm_5_0 := (zu_n (M := (zu (zu (zu (zu M t1 (zAi 0 5 (fun _ => 0))) ts (zOb 5 [.int (zI 0), .ref t1, .null, .null, .int (zI 0), .int (zI 0), .int (zI 0), .int (zI 0), .int (zI 0)])) t2 (zAi 0 5 (fun _ => 0))) ts (zOb 5 [.int (zI 0), .ref t1, .ref t2, .null, .int (zI 0), .int (zI 0), .int (zI 0), .int (zI 0), .int (zI 0)]))) (t := t3) (q := t1) (o := (zAi 0 5 (fun _ => 0))) (by first | assumption | omega | (intro h9; omega))).trans hm_4_0
  have hm_5_1 := (zu_n (M := (zu (zu (zu (zu M t1 (zAi 0 5 (fun _ => 0))) ts (zOb 5 [.int (zI 0), .ref t1, .null, .null, .int (zI 0), .int (zI 0), .int (zI 0), .int (zI 0), .int (zI 0)])) t2 (zAi 0 5 (fun _ => 0))) ts (zOb 5 [.int (zI 0), .ref t1, .ref t2, .null, .int (zI 0), .int (zI 0), .int (zI 0), .int (zI 0), .int (zI 0)]))) (t := t3) (q := t2) (o := (zAi 0 5 (fun _ => 0))) (by first | assumption | omega | (intro h9; omega))).trans hm_4_1
  have hm_5_2 := (zu_n (M := (zu (zu (zu (zu M t1 (zAi 0 5 (fun _ => 0))) ts (zOb 5 [.int (zI 0), .ref t1, .null, .null, .int (zI 0), .int (zI 0), .int (zI 0), .int (zI 0), .int (zI 0)])) t2 (zAi 0 5 (fun _ => 0))) ts (zOb 5 [.int (zI 0), .ref t1, .ref t2, .null, .int (zI 0), .int (zI 0), .int (zI 0), .int (zI 0), .int (zI 0)]))) (t := t3) (q := ts) (o := (zAi 0 5 (fun _ => 0))) (by first | assumption | omega | (intro h9; omega))).trans hm_4_s
  have hm_5_s := zu_s (zu (zu (zu (zu M t1 (zAi 0 5 (fun _ => 0))) ts (zOb 5 [.int (zI 0), .ref t1, .null, .null, .int (zI 0), .int (zI 0), .int (zI 0), .int (zI 0), .int (zI 0)])) t2 (zAi 0 5 (fun _ => 0))) ts (zOb 5 [.int (zI 0), .ref t1, .ref t2, .null, .int (zI 0), .int (zI 0), .int (zI 0), .int (zI 0), .int (zI 0)])) t3 (zAi 0 5 (fun _ => 0))
  refine z_putF (ty := .array (.int)) F [.int (zI 0), .ref t1, .ref t2, .ref t3, .int (zI 0), .int (zI 0), .int (zI 0), .int (zI 0), .int (zI 0)] fl_X4_18 tyX4 tyX4_ok nmX4 rfl hinit rfl (by decide +kernel) rfl rfl hm_5_2 (Nat.le_of_ble_eq_true rfl) rfl dX4_init_22 ?_
  have hm_6_0 := (zu_n (M := (zu (zu (zu (zu (zu M t1 (zAi 0 5 (fun _ => 0))) ts (zOb 5 [.int (zI 0), .ref t1, .null, .null, .int (zI 0), .int (zI 0), .int (zI 0), .int (zI 0), .int (zI 0)])) t2 (zAi 0 5 (fun _ => 0))) ts (zOb 5 [.int (zI 0), .ref t1, .ref t2, .null, .int (zI 0), .int (zI 0), .int (zI 0), .int (zI 0), .int (zI 0)])) t3 (zAi 0 5 (fun _ => 0)))) (t := ts) (q := t1) (o := (zOb 5 [.int (zI 0), .ref t1, .ref t2, .ref t3, .int (zI 0), .int (zI 0), .int (zI 0), .int (zI 0), .int (zI 0)])) (by first | assumption | omega | (intro h9; omega))).trans hm_5_0
  have hm_6_1 := (zu_n (M := (zu (zu (zu (zu (zu M t1 (zAi 0 5 (fun _ => 0))) ts (zOb 5 [.int (zI 0), .ref t1, .null, .null, .int (zI 0), .int (zI 0), .int (zI 0), .int (zI 0), .int (zI 0)])) t2 (zAi 0 5 (fun _ => 0))) ts (zOb 5 [.int (zI 0), .ref t1, .ref t2, .null, .int (zI 0), .int (zI 0), .int (zI 0), .int (zI 0), .int (zI 0)])) t3 (zAi 0 5 (fun _ => 0)))) (t := ts) (q := t2) (o := (zOb 5 [.int (zI 0), .ref t1, .ref t2, .ref t3, .int (zI 0), .int (zI 0), .int (zI 0), .int (zI 0), .int (zI 0)])) (by first | assumption | omega | (intro h9; omega))).trans hm_5_1
  have hm_6_2 := (zu_n (M := (zu (zu (zu (zu (zu M t1 (zAi 0 5 (fun _ => 0))) ts (zOb 5 [.int (zI 0), .ref t1, .null, .null, .int (zI 0), .int (zI 0), .int (zI 0), .int (zI 0), .int (zI 0)])) t2 (zAi 0 5 (fun _ => 0))) ts (zOb 5 [.int (zI 0), .ref t1, .ref t2, .null, .int (zI 0), .int (zI 0), .int (zI 0), .int (zI 0), .int (zI 0)])) t3 (zAi 0 5 (fun _ => 0)))) (t := ts) (q := t3) (o := (zOb 5 [.int (zI 0), .ref t1, .ref t2, .ref t3, .int (zI 0), .int (zI 0), .int (zI 0), .int (zI 0), .int (zI 0)])) (by first | assumption | omega | (intro h9; omega))).trans hm_5_s
  have hm_6_s := zu_s (zu (zu (zu (zu (zu M t1 (zAi 0 5 (fun _ => 0))) ts (zOb 5 [.int (zI 0), .ref t1, .null, .null, .int (zI 0), .int (zI 0), .int (zI 0), .int (zI 0), .int (zI 0)])) t2 (zAi 0 5 (fun _ => 0))) ts (zOb 5 [.int (zI 0), .ref t1, .ref t2, .null, .int (zI 0), .int (zI 0), .int (zI 0), .int (zI 0), .int (zI 0)])) t3 (zAi 0 5 (fun _ => 0))) ts (zOb 5 [.int (zI 0), .ref t1, .ref t2, .ref t3, .int (zI 0), .int (zI 0), .int (zI 0), .int (zI 0), .int (zI 0)])
  refine z_aload_n F 0 dX4_init_25 rfl rfl ?_
  refine z_iload_n F 1 dX4_init_26 rfl rfl ?_
  refine z_putF (ty := .int) F [.int (zI a), .ref t1, .ref t2, .ref t3, .int (zI 0), .int (zI 0), .int (zI 0), .int (zI 0), .int (zI 0)] fl_X4_21 tyX4 tyX4_ok nmX4 rfl hinit rfl (by decide +kernel) rfl rfl hm_6_s (Nat.le_of_ble_eq_true rfl) rfl dX4_init_27 ?_
  have hm_7_0 := (zu_n (M := (zu (zu (zu (zu (zu (zu M t1 (zAi 0 5 (fun _ => 0))) ts (zOb 5 [.int (zI 0), .ref t1, .null, .null, .int (zI 0), .int (zI 0), .int (zI 0), .int (zI 0), .int (zI 0)])) t2 (zAi 0 5 (fun _ => 0))) ts (zOb 5 [.int (zI 0), .ref t1, .ref t2, .null, .int (zI 0), .int (zI 0), .int (zI 0), .int (zI 0), .int (zI 0)])) t3 (zAi 0 5 (fun _ => 0))) ts (zOb 5 [.int (zI 0), .ref t1, .ref t2, .ref t3, .int (zI 0), .int (zI 0), .int (zI 0), .int (zI 0), .int (zI 0)]))) (t := ts) (q := t1) (o := (zOb 5 [.int (zI a), .ref t1, .ref t2, .ref t3, .int (zI 0), .int (zI 0), .int (zI 0), .int (zI 0), .int (zI 0)])) (by first | assumption | omega | (intro h9; omega))).trans hm_6_0
  have hm_7_1 := (zu_n (M := (zu (zu (zu (zu (zu (zu M t1 (zAi 0 5 (fun _ => 0))) ts (zOb 5 [.int (zI 0), .ref t1, .null, .null, .int (zI 0), .int (zI 0), .int (zI 0), .int (zI 0), .int (zI 0)])) t2 (zAi 0 5 (fun _ => 0))) ts (zOb 5 [.int (zI 0), .ref t1, .ref t2, .null, .int (zI 0), .int (zI 0), .int (zI 0), .int (zI 0), .int (zI 0)])) t3 (zAi 0 5 (fun _ => 0))) ts (zOb 5 [.int (zI 0), .ref t1, .ref t2, .ref t3, .int (zI 0), .int (zI 0), .int (zI 0), .int (zI 0), .int (zI 0)]))) (t := ts) (q := t2) (o := (zOb 5 [.int (zI a), .ref t1, .ref t2, .ref t3, .int (zI 0), .int (zI 0), .int (zI 0), .int (zI 0), .int (zI 0)])) (by first | assumption | omega | (intro h9; omega))).trans hm_6_1
  have hm_7_2 := (zu_n (M := (zu (zu (zu (zu (zu (zu M t1 (zAi 0 5 (fun _ => 0))) ts (zOb 5 [.int (zI 0), .ref t1, .null, .null, .int (zI 0), .int (zI 0), .int (zI 0), .int (zI 0), .int (zI 0)])) t2 (zAi 0 5 (fun _ => 0))) ts (zOb 5 [.int (zI 0), .ref t1, .ref t2, .null, .int (zI 0), .int (zI 0), .int (zI 0), .int (zI 0), .int (zI 0)])) t3 (zAi 0 5 (fun _ => 0))) ts (zOb 5 [.int (zI 0), .ref t1, .ref t2, .ref t3, .int (zI 0), .int (zI 0), .int (zI 0), .int (zI 0), .int (zI 0)]))) (t := ts) (q := t3) (o := (zOb 5 [.int (zI a), .ref t1, .ref t2, .ref t3, .int (zI 0), .int (zI 0), .int (zI 0), .int (zI 0), .int (zI 0)])) (by first | assumption | omega | (intro h9; omega))).trans hm_6_2
  have hm_7_s := zu_s (zu (zu (zu (zu (zu (zu M t1 (zAi 0 5 (fun _ => 0))) ts (zOb 5 [.int (zI 0), .ref t1, .null, .null, .int (zI 0), .int (zI 0), .int (zI 0), .int (zI 0), .int (zI 0)])) t2 (zAi 0 5 (fun _ => 0))) ts (zOb 5 [.int (zI 0), .ref t1, .ref t2, .null, .int (zI 0), .int (zI 0), .int (zI 0), .int (zI 0), .int (zI 0)])) t3 (zAi 0 5 (fun _ => 0))) ts (zOb 5 [.int (zI 0), .ref t1, .ref t2, .ref t3, .int (zI 0), .int (zI 0), .int (zI 0), .int (zI 0), .int (zI 0)])) ts (zOb 5 [.int (zI a), .ref t1, .ref t2, .ref t3, .int (zI 0), .int (zI 0), .int (zI 0), .int (zI 0), .int (zI 0)])
  exact z_retv F rfl (by first | decide | assumption | omega) (by first | decide | assumption | omega) dX4_init_30 ⟨rfl, zInit4 n1 n2 n3⟩

theorem zApp4 {M : zM} {ts t1 t2 t3 : Nat} {o1 o2 o3 a b c d : zO} (n1 : ts ≠ t1) (n2 : ts ≠ t2) (n3 : ts ≠ t3) : zu (zu (zu (zu (zu (zu (zu M t1 o1) t2 o2) t3 o3) ts a) ts b) ts c) ts d = zu (zu (zu (zu M ts d) t1 o1) t2 o2) t3 o3 := by
  funext q
  simp only [zu]
  by_cases h : q = ts
  · subst h; simp [n1, n2, n3]
  · simp [h]
theorem zApp2 {M : zM} {ts t1 t2 t3 : Nat} {o1 o2 o3 a b : zO} (n1 : ts ≠ t1) (n2 : ts ≠ t2) (n3 : ts ≠ t3) : zu (zu (zu (zu (zu M t1 o1) t2 o2) t3 o3) ts a) ts b = zu (zu (zu (zu M ts b) t1 o1) t2 o2) t3 o3 := by
  funext q
  simp only [zu]
  by_cases h : q = ts
  · subst h; simp [n1, n2, n3]
  · simp [h]
abbrev rX4_append : Room := { frames := 0, cells := 0, slots := 0, locals := 0 }
set_option maxRecDepth 100000 in
set_option maxHeartbeats 4000000 in
theorem c_X4_append {l : Launch} (hfl : l.stackTraces = false) (G : zG) {ts t1 t2 t3 : Nat} {f1 f2 f3 : Nat → Int} {nu sc ln wk fx : Int} {wn : Nat} {sk mi : Int} (M : zM) (h0 : M ts = some (zOb 5 [.int (zI nu), .ref t1, .ref t2, .ref t3, .int (zI sc), .int (zI ln), .int (zI wk), .int (zI ((wn : Nat))), .int (zI fx)])) (h1 : M t1 = some (zAi 0 5 f1)) (h2 : M t2 = some (zAi 0 5 f2)) (h3 : M t3 = some (zAi 0 5 f3)) (n1 : ts ≠ t1) (n2 : ts ≠ t2) (n3 : ts ≠ t3) (n4 : t1 ≠ t2) (n5 : t1 ≠ t3) (n6 : t2 ≠ t3) (hs0 : 0 ≤ sc) (hs1 : sc < 5) (hk0 : -1 ≤ sk) (hk1 : sk < 4) : zCn l G yX4_append (.code yX4_append cX4_append 3 none) rX4_append [.ref ts, .int (zI sk), .int (zI mi)] M (zRv (fun M2 => M2 = zu (zu (zu (zu M ts (zOb 5 [.int (zI nu), .ref t1, .ref t2, .ref t3, .int (zI (sc + 1)), .int (zI (ln + mi)), .int (zI (if sk = -1 then wk else wk + mi)), .int (zI ((if sk = -1 then wn else wn ||| 2 ^ sk.toNat : Nat) : Int)), .int (zI fx)])) t1 (zAi 0 5 (zup f1 sc.toNat sk))) t2 (zAi 0 5 (zup f2 sc.toNat ln))) t3 (zAi 0 5 (zup f3 sc.toNat (ln + mi))))) zN := by
  refine zStart hfl (by decide) (own := RX4) rfl [(0, .ref ts), (1, .int (zI sk)), (2, .int (zI mi))] (Nat.le_of_ble_eq_true rfl) rfl (fun k hkl hinit hk0 F => ?_)
  refine z_aload_n F 0 dX4_append_0 rfl rfl ?_
  refine z_get F fl_X4_25 h0 rfl dX4_append_1 ?_
  refine z_if_lt F 15 dX4_append_4 (by decide) (by omega) (fun c_1 => ?_) (fun c_1 => ?_)
  · skip
    exact absurd c_1 (by omega)
  · skip
    refine z_aload_n F 0 dX4_append_7 rfl rfl ?_
    refine z_get F fl_X4_25 h0 rfl dX4_append_8 ?_
    refine z_iconst (z := 5) F dX4_append_11 (by decide) ?_
    refine z_icmp_lt F 16 dX4_append_12 (by decide) (by omega) ⟨by decide, by decide⟩ (fun c_2 => ?_) (fun c_2 => ?_)
    · skip
      refine z_aload_n F 0 dX4_append_16 rfl rfl ?_
      refine z_get F fl_X4_9 h0 rfl dX4_append_17 ?_
      refine z_aload_n F 0 dX4_append_20 rfl rfl ?_
      refine z_get F fl_X4_25 h0 rfl dX4_append_21 ?_
      refine z_iload_n F 1 dX4_append_24 rfl rfl ?_
      refine z_iast F h1 (by omega) (by omega) (by decide) dX4_append_25 ?_
      have hm_3_0 := (zu_n (M := M) (t := t1) (q := ts) (o := (zAi 0 5 (zup f1 (sc).toNat sk))) (by first | assumption | omega | (intro h9; omega))).trans h0
      have hm_3_1 := (zu_n (M := M) (t := t1) (q := t2) (o := (zAi 0 5 (zup f1 (sc).toNat sk))) (by first | assumption | omega | (intro h9; omega))).trans h2
      have hm_3_2 := (zu_n (M := M) (t := t1) (q := t3) (o := (zAi 0 5 (zup f1 (sc).toNat sk))) (by first | assumption | omega | (intro h9; omega))).trans h3
      have hm_3_s := zu_s M t1 (zAi 0 5 (zup f1 (sc).toNat sk))
      refine z_aload_n F 0 dX4_append_26 rfl rfl ?_
      refine z_get F fl_X4_15 hm_3_0 rfl dX4_append_27 ?_
      refine z_aload_n F 0 dX4_append_30 rfl rfl ?_
      refine z_get F fl_X4_25 hm_3_0 rfl dX4_append_31 ?_
      refine z_aload_n F 0 dX4_append_34 rfl rfl ?_
      refine z_get F fl_X4_28 hm_3_0 rfl dX4_append_35 ?_
      refine z_iast F hm_3_1 (by omega) (by omega) (by decide) dX4_append_38 ?_
      have hm_4_0 := (zu_n (M := (zu M t1 (zAi 0 5 (zup f1 (sc).toNat sk)))) (t := t2) (q := ts) (o := (zAi 0 5 (zup f2 (sc).toNat ln))) (by first | assumption | omega | (intro h9; omega))).trans hm_3_0
      have hm_4_1 := (zu_n (M := (zu M t1 (zAi 0 5 (zup f1 (sc).toNat sk)))) (t := t2) (q := t3) (o := (zAi 0 5 (zup f2 (sc).toNat ln))) (by first | assumption | omega | (intro h9; omega))).trans hm_3_2
      have hm_4_2 := (zu_n (M := (zu M t1 (zAi 0 5 (zup f1 (sc).toNat sk)))) (t := t2) (q := t1) (o := (zAi 0 5 (zup f2 (sc).toNat ln))) (by first | assumption | omega | (intro h9; omega))).trans hm_3_s
      have hm_4_s := zu_s (zu M t1 (zAi 0 5 (zup f1 (sc).toNat sk))) t2 (zAi 0 5 (zup f2 (sc).toNat ln))
      refine z_aload_n F 0 dX4_append_39 rfl rfl ?_
      refine z_get F fl_X4_18 hm_4_0 rfl dX4_append_40 ?_
      refine z_aload_n F 0 dX4_append_43 rfl rfl ?_
      refine z_get F fl_X4_25 hm_4_0 rfl dX4_append_44 ?_
      refine z_aload_n F 0 dX4_append_47 rfl rfl ?_
      refine z_get F fl_X4_28 hm_4_0 rfl dX4_append_48 ?_
      refine z_iload_n F 2 dX4_append_51 rfl rfl ?_
      refine z_iadd F dX4_append_52 ?_
      refine z_iast F hm_4_1 (by omega) (by omega) (by decide) dX4_append_53 ?_
      have hm_5_0 := (zu_n (M := (zu (zu M t1 (zAi 0 5 (zup f1 (sc).toNat sk))) t2 (zAi 0 5 (zup f2 (sc).toNat ln)))) (t := t3) (q := ts) (o := (zAi 0 5 (zup f3 (sc).toNat (ln + mi)))) (by first | assumption | omega | (intro h9; omega))).trans hm_4_0
      have hm_5_1 := (zu_n (M := (zu (zu M t1 (zAi 0 5 (zup f1 (sc).toNat sk))) t2 (zAi 0 5 (zup f2 (sc).toNat ln)))) (t := t3) (q := t1) (o := (zAi 0 5 (zup f3 (sc).toNat (ln + mi)))) (by first | assumption | omega | (intro h9; omega))).trans hm_4_2
      have hm_5_2 := (zu_n (M := (zu (zu M t1 (zAi 0 5 (zup f1 (sc).toNat sk))) t2 (zAi 0 5 (zup f2 (sc).toNat ln)))) (t := t3) (q := t2) (o := (zAi 0 5 (zup f3 (sc).toNat (ln + mi)))) (by first | assumption | omega | (intro h9; omega))).trans hm_4_s
      have hm_5_s := zu_s (zu (zu M t1 (zAi 0 5 (zup f1 (sc).toNat sk))) t2 (zAi 0 5 (zup f2 (sc).toNat ln))) t3 (zAi 0 5 (zup f3 (sc).toNat (ln + mi)))
      refine z_aload_n F 0 dX4_append_54 rfl rfl ?_
      refine z_dup F dX4_append_55 rfl ?_
      refine z_get F fl_X4_25 hm_5_0 rfl dX4_append_56 ?_
      refine z_iconst (z := 1) F dX4_append_59 (by decide) ?_
      refine z_iadd F dX4_append_60 ?_
      refine z_put (ty := .int) F [.int (zI nu), .ref t1, .ref t2, .ref t3, .int (zI (sc + 1)), .int (zI ln), .int (zI wk), .int (zI ((wn : Nat))), .int (zI fx)] fl_X4_25 tyX4 tyX4_ok nmX4 rfl (by decide +kernel) rfl rfl hm_5_0 (Nat.le_of_ble_eq_true rfl) rfl dX4_append_61 ?_
      have hm_6_0 := (zu_n (M := (zu (zu (zu M t1 (zAi 0 5 (zup f1 (sc).toNat sk))) t2 (zAi 0 5 (zup f2 (sc).toNat ln))) t3 (zAi 0 5 (zup f3 (sc).toNat (ln + mi))))) (t := ts) (q := t1) (o := (zOb 5 [.int (zI nu), .ref t1, .ref t2, .ref t3, .int (zI (sc + 1)), .int (zI ln), .int (zI wk), .int (zI ((wn : Nat))), .int (zI fx)])) (by first | assumption | omega | (intro h9; omega))).trans hm_5_1
      have hm_6_1 := (zu_n (M := (zu (zu (zu M t1 (zAi 0 5 (zup f1 (sc).toNat sk))) t2 (zAi 0 5 (zup f2 (sc).toNat ln))) t3 (zAi 0 5 (zup f3 (sc).toNat (ln + mi))))) (t := ts) (q := t2) (o := (zOb 5 [.int (zI nu), .ref t1, .ref t2, .ref t3, .int (zI (sc + 1)), .int (zI ln), .int (zI wk), .int (zI ((wn : Nat))), .int (zI fx)])) (by first | assumption | omega | (intro h9; omega))).trans hm_5_2
      have hm_6_2 := (zu_n (M := (zu (zu (zu M t1 (zAi 0 5 (zup f1 (sc).toNat sk))) t2 (zAi 0 5 (zup f2 (sc).toNat ln))) t3 (zAi 0 5 (zup f3 (sc).toNat (ln + mi))))) (t := ts) (q := t3) (o := (zOb 5 [.int (zI nu), .ref t1, .ref t2, .ref t3, .int (zI (sc + 1)), .int (zI ln), .int (zI wk), .int (zI ((wn : Nat))), .int (zI fx)])) (by first | assumption | omega | (intro h9; omega))).trans hm_5_s
      have hm_6_s := zu_s (zu (zu (zu M t1 (zAi 0 5 (zup f1 (sc).toNat sk))) t2 (zAi 0 5 (zup f2 (sc).toNat ln))) t3 (zAi 0 5 (zup f3 (sc).toNat (ln + mi)))) ts (zOb 5 [.int (zI nu), .ref t1, .ref t2, .ref t3, .int (zI (sc + 1)), .int (zI ln), .int (zI wk), .int (zI ((wn : Nat))), .int (zI fx)])
      refine z_aload_n F 0 dX4_append_64 rfl rfl ?_
      refine z_dup F dX4_append_65 rfl ?_
      refine z_get F fl_X4_28 hm_6_s rfl dX4_append_66 ?_
      refine z_iload_n F 2 dX4_append_69 rfl rfl ?_
      refine z_iadd F dX4_append_70 ?_
      refine z_put (ty := .int) F [.int (zI nu), .ref t1, .ref t2, .ref t3, .int (zI (sc + 1)), .int (zI (ln + mi)), .int (zI wk), .int (zI ((wn : Nat))), .int (zI fx)] fl_X4_28 tyX4 tyX4_ok nmX4 rfl (by decide +kernel) rfl rfl hm_6_s (Nat.le_of_ble_eq_true rfl) rfl dX4_append_71 ?_
      have hm_7_0 := (zu_n (M := (zu (zu (zu (zu M t1 (zAi 0 5 (zup f1 (sc).toNat sk))) t2 (zAi 0 5 (zup f2 (sc).toNat ln))) t3 (zAi 0 5 (zup f3 (sc).toNat (ln + mi)))) ts (zOb 5 [.int (zI nu), .ref t1, .ref t2, .ref t3, .int (zI (sc + 1)), .int (zI ln), .int (zI wk), .int (zI ((wn : Nat))), .int (zI fx)]))) (t := ts) (q := t1) (o := (zOb 5 [.int (zI nu), .ref t1, .ref t2, .ref t3, .int (zI (sc + 1)), .int (zI (ln + mi)), .int (zI wk), .int (zI ((wn : Nat))), .int (zI fx)])) (by first | assumption | omega | (intro h9; omega))).trans hm_6_0
      have hm_7_1 := (zu_n (M := (zu (zu (zu (zu M t1 (zAi 0 5 (zup f1 (sc).toNat sk))) t2 (zAi 0 5 (zup f2 (sc).toNat ln))) t3 (zAi 0 5 (zup f3 (sc).toNat (ln + mi)))) ts (zOb 5 [.int (zI nu), .ref t1, .ref t2, .ref t3, .int (zI (sc + 1)), .int (zI ln), .int (zI wk), .int (zI ((wn : Nat))), .int (zI fx)]))) (t := ts) (q := t2) (o := (zOb 5 [.int (zI nu), .ref t1, .ref t2, .ref t3, .int (zI (sc + 1)), .int (zI (ln + mi)), .int (zI wk), .int (zI ((wn : Nat))), .int (zI fx)])) (by first | assumption | omega | (intro h9; omega))).trans hm_6_1
      have hm_7_2 := (zu_n (M := (zu (zu (zu (zu M t1 (zAi 0 5 (zup f1 (sc).toNat sk))) t2 (zAi 0 5 (zup f2 (sc).toNat ln))) t3 (zAi 0 5 (zup f3 (sc).toNat (ln + mi)))) ts (zOb 5 [.int (zI nu), .ref t1, .ref t2, .ref t3, .int (zI (sc + 1)), .int (zI ln), .int (zI wk), .int (zI ((wn : Nat))), .int (zI fx)]))) (t := ts) (q := t3) (o := (zOb 5 [.int (zI nu), .ref t1, .ref t2, .ref t3, .int (zI (sc + 1)), .int (zI (ln + mi)), .int (zI wk), .int (zI ((wn : Nat))), .int (zI fx)])) (by first | assumption | omega | (intro h9; omega))).trans hm_6_2
      have hm_7_s := zu_s (zu (zu (zu (zu M t1 (zAi 0 5 (zup f1 (sc).toNat sk))) t2 (zAi 0 5 (zup f2 (sc).toNat ln))) t3 (zAi 0 5 (zup f3 (sc).toNat (ln + mi)))) ts (zOb 5 [.int (zI nu), .ref t1, .ref t2, .ref t3, .int (zI (sc + 1)), .int (zI ln), .int (zI wk), .int (zI ((wn : Nat))), .int (zI fx)])) ts (zOb 5 [.int (zI nu), .ref t1, .ref t2, .ref t3, .int (zI (sc + 1)), .int (zI (ln + mi)), .int (zI wk), .int (zI ((wn : Nat))), .int (zI fx)])
      refine z_iload_n F 1 dX4_append_74 rfl rfl ?_
      refine z_iconst (z := -1) F dX4_append_75 (by decide) ?_
      refine z_icmp_eq F 101 dX4_append_76 (by decide) (by omega) ⟨by decide, by decide⟩ (fun c_8 => ?_) (fun c_8 => ?_)
      · skip
        exact z_retv F rfl (by first | decide | assumption | omega) (by first | decide | assumption | omega) dX4_append_101 ⟨rfl, (by first | (rw [if_pos (show sk = -1 by omega), if_pos (show sk = -1 by omega)]; exact zApp2 n1 n2 n3) | (rw [if_neg (show ¬ sk = -1 by omega), if_neg (show ¬ sk = -1 by omega)]; exact zApp4 n1 n2 n3))⟩
      · skip
        refine z_aload_n F 0 dX4_append_79 rfl rfl ?_
        refine z_dup F dX4_append_80 rfl ?_
        refine z_get F fl_X4_31 hm_7_s rfl dX4_append_81 ?_
        refine z_iload_n F 2 dX4_append_84 rfl rfl ?_
        refine z_iadd F dX4_append_85 ?_
        refine z_put (ty := .int) F [.int (zI nu), .ref t1, .ref t2, .ref t3, .int (zI (sc + 1)), .int (zI (ln + mi)), .int (zI (wk + mi)), .int (zI ((wn : Nat))), .int (zI fx)] fl_X4_31 tyX4 tyX4_ok nmX4 rfl (by decide +kernel) rfl rfl hm_7_s (Nat.le_of_ble_eq_true rfl) rfl dX4_append_86 ?_
        have hm_9_0 := (zu_n (M := (zu (zu (zu (zu (zu M t1 (zAi 0 5 (zup f1 (sc).toNat sk))) t2 (zAi 0 5 (zup f2 (sc).toNat ln))) t3 (zAi 0 5 (zup f3 (sc).toNat (ln + mi)))) ts (zOb 5 [.int (zI nu), .ref t1, .ref t2, .ref t3, .int (zI (sc + 1)), .int (zI ln), .int (zI wk), .int (zI ((wn : Nat))), .int (zI fx)])) ts (zOb 5 [.int (zI nu), .ref t1, .ref t2, .ref t3, .int (zI (sc + 1)), .int (zI (ln + mi)), .int (zI wk), .int (zI ((wn : Nat))), .int (zI fx)]))) (t := ts) (q := t1) (o := (zOb 5 [.int (zI nu), .ref t1, .ref t2, .ref t3, .int (zI (sc + 1)), .int (zI (ln + mi)), .int (zI (wk + mi)), .int (zI ((wn : Nat))), .int (zI fx)])) (by first | assumption | omega | (intro h9; omega))).trans hm_7_0
        have hm_9_1 := (zu_n (M := (zu (zu (zu (zu (zu M t1 (zAi 0 5 (zup f1 (sc).toNat sk))) t2 (zAi 0 5 (zup f2 (sc).toNat ln))) t3 (zAi 0 5 (zup f3 (sc).toNat (ln + mi)))) ts (zOb 5 [.int (zI nu), .ref t1, .ref t2, .ref t3, .int (zI (sc + 1)), .int (zI ln), .int (zI wk), .int (zI ((wn : Nat))), .int (zI fx)])) ts (zOb 5 [.int (zI nu), .ref t1, .ref t2, .ref t3, .int (zI (sc + 1)), .int (zI (ln + mi)), .int (zI wk), .int (zI ((wn : Nat))), .int (zI fx)]))) (t := ts) (q := t2) (o := (zOb 5 [.int (zI nu), .ref t1, .ref t2, .ref t3, .int (zI (sc + 1)), .int (zI (ln + mi)), .int (zI (wk + mi)), .int (zI ((wn : Nat))), .int (zI fx)])) (by first | assumption | omega | (intro h9; omega))).trans hm_7_1
        have hm_9_2 := (zu_n (M := (zu (zu (zu (zu (zu M t1 (zAi 0 5 (zup f1 (sc).toNat sk))) t2 (zAi 0 5 (zup f2 (sc).toNat ln))) t3 (zAi 0 5 (zup f3 (sc).toNat (ln + mi)))) ts (zOb 5 [.int (zI nu), .ref t1, .ref t2, .ref t3, .int (zI (sc + 1)), .int (zI ln), .int (zI wk), .int (zI ((wn : Nat))), .int (zI fx)])) ts (zOb 5 [.int (zI nu), .ref t1, .ref t2, .ref t3, .int (zI (sc + 1)), .int (zI (ln + mi)), .int (zI wk), .int (zI ((wn : Nat))), .int (zI fx)]))) (t := ts) (q := t3) (o := (zOb 5 [.int (zI nu), .ref t1, .ref t2, .ref t3, .int (zI (sc + 1)), .int (zI (ln + mi)), .int (zI (wk + mi)), .int (zI ((wn : Nat))), .int (zI fx)])) (by first | assumption | omega | (intro h9; omega))).trans hm_7_2
        have hm_9_s := zu_s (zu (zu (zu (zu (zu M t1 (zAi 0 5 (zup f1 (sc).toNat sk))) t2 (zAi 0 5 (zup f2 (sc).toNat ln))) t3 (zAi 0 5 (zup f3 (sc).toNat (ln + mi)))) ts (zOb 5 [.int (zI nu), .ref t1, .ref t2, .ref t3, .int (zI (sc + 1)), .int (zI ln), .int (zI wk), .int (zI ((wn : Nat))), .int (zI fx)])) ts (zOb 5 [.int (zI nu), .ref t1, .ref t2, .ref t3, .int (zI (sc + 1)), .int (zI (ln + mi)), .int (zI wk), .int (zI ((wn : Nat))), .int (zI fx)])) ts (zOb 5 [.int (zI nu), .ref t1, .ref t2, .ref t3, .int (zI (sc + 1)), .int (zI (ln + mi)), .int (zI (wk + mi)), .int (zI ((wn : Nat))), .int (zI fx)])
        refine z_aload_n F 0 dX4_append_89 rfl rfl ?_
        refine z_dup F dX4_append_90 rfl ?_
        refine z_get F fl_X4_34 hm_9_s rfl dX4_append_91 ?_
        refine z_iconst (z := 1) F dX4_append_94 (by decide) ?_
        refine z_iload_n F 1 dX4_append_95 rfl rfl ?_
        refine z_ishl F (((2 ^ sk.toNat : Nat) : Int)) dX4_append_96 (zI_bitI (by omega) (by omega)) ?_
        refine z_ior F (((wn ||| 2 ^ sk.toNat : Nat) : Int)) dX4_append_97 (zI_or _ _) ?_
        refine z_put (ty := .int) F [.int (zI nu), .ref t1, .ref t2, .ref t3, .int (zI (sc + 1)), .int (zI (ln + mi)), .int (zI (wk + mi)), .int (zI (((wn ||| 2 ^ sk.toNat : Nat) : Int))), .int (zI fx)] fl_X4_34 tyX4 tyX4_ok nmX4 rfl (by decide +kernel) rfl rfl hm_9_s (Nat.le_of_ble_eq_true rfl) rfl dX4_append_98 ?_
        have hm_10_0 := (zu_n (M := (zu (zu (zu (zu (zu (zu M t1 (zAi 0 5 (zup f1 (sc).toNat sk))) t2 (zAi 0 5 (zup f2 (sc).toNat ln))) t3 (zAi 0 5 (zup f3 (sc).toNat (ln + mi)))) ts (zOb 5 [.int (zI nu), .ref t1, .ref t2, .ref t3, .int (zI (sc + 1)), .int (zI ln), .int (zI wk), .int (zI ((wn : Nat))), .int (zI fx)])) ts (zOb 5 [.int (zI nu), .ref t1, .ref t2, .ref t3, .int (zI (sc + 1)), .int (zI (ln + mi)), .int (zI wk), .int (zI ((wn : Nat))), .int (zI fx)])) ts (zOb 5 [.int (zI nu), .ref t1, .ref t2, .ref t3, .int (zI (sc + 1)), .int (zI (ln + mi)), .int (zI (wk + mi)), .int (zI ((wn : Nat))), .int (zI fx)]))) (t := ts) (q := t1) (o := (zOb 5 [.int (zI nu), .ref t1, .ref t2, .ref t3, .int (zI (sc + 1)), .int (zI (ln + mi)), .int (zI (wk + mi)), .int (zI (((wn ||| 2 ^ sk.toNat : Nat) : Int))), .int (zI fx)])) (by first | assumption | omega | (intro h9; omega))).trans hm_9_0
        have hm_10_1 := (zu_n (M := (zu (zu (zu (zu (zu (zu M t1 (zAi 0 5 (zup f1 (sc).toNat sk))) t2 (zAi 0 5 (zup f2 (sc).toNat ln))) t3 (zAi 0 5 (zup f3 (sc).toNat (ln + mi)))) ts (zOb 5 [.int (zI nu), .ref t1, .ref t2, .ref t3, .int (zI (sc + 1)), .int (zI ln), .int (zI wk), .int (zI ((wn : Nat))), .int (zI fx)])) ts (zOb 5 [.int (zI nu), .ref t1, .ref t2, .ref t3, .int (zI (sc + 1)), .int (zI (ln + mi)), .int (zI wk), .int (zI ((wn : Nat))), .int (zI fx)])) ts (zOb 5 [.int (zI nu), .ref t1, .ref t2, .ref t3, .int (zI (sc + 1)), .int (zI (ln + mi)), .int (zI (wk + mi)), .int (zI ((wn : Nat))), .int (zI fx)]))) (t := ts) (q := t2) (o := (zOb 5 [.int (zI nu), .ref t1, .ref t2, .ref t3, .int (zI (sc + 1)), .int (zI (ln + mi)), .int (zI (wk + mi)), .int (zI (((wn ||| 2 ^ sk.toNat : Nat) : Int))), .int (zI fx)])) (by first | assumption | omega | (intro h9; omega))).trans hm_9_1
        have hm_10_2 := (zu_n (M := (zu (zu (zu (zu (zu (zu M t1 (zAi 0 5 (zup f1 (sc).toNat sk))) t2 (zAi 0 5 (zup f2 (sc).toNat ln))) t3 (zAi 0 5 (zup f3 (sc).toNat (ln + mi)))) ts (zOb 5 [.int (zI nu), .ref t1, .ref t2, .ref t3, .int (zI (sc + 1)), .int (zI ln), .int (zI wk), .int (zI ((wn : Nat))), .int (zI fx)])) ts (zOb 5 [.int (zI nu), .ref t1, .ref t2, .ref t3, .int (zI (sc + 1)), .int (zI (ln + mi)), .int (zI wk), .int (zI ((wn : Nat))), .int (zI fx)])) ts (zOb 5 [.int (zI nu), .ref t1, .ref t2, .ref t3, .int (zI (sc + 1)), .int (zI (ln + mi)), .int (zI (wk + mi)), .int (zI ((wn : Nat))), .int (zI fx)]))) (t := ts) (q := t3) (o := (zOb 5 [.int (zI nu), .ref t1, .ref t2, .ref t3, .int (zI (sc + 1)), .int (zI (ln + mi)), .int (zI (wk + mi)), .int (zI (((wn ||| 2 ^ sk.toNat : Nat) : Int))), .int (zI fx)])) (by first | assumption | omega | (intro h9; omega))).trans hm_9_2
        have hm_10_s := zu_s (zu (zu (zu (zu (zu (zu M t1 (zAi 0 5 (zup f1 (sc).toNat sk))) t2 (zAi 0 5 (zup f2 (sc).toNat ln))) t3 (zAi 0 5 (zup f3 (sc).toNat (ln + mi)))) ts (zOb 5 [.int (zI nu), .ref t1, .ref t2, .ref t3, .int (zI (sc + 1)), .int (zI ln), .int (zI wk), .int (zI ((wn : Nat))), .int (zI fx)])) ts (zOb 5 [.int (zI nu), .ref t1, .ref t2, .ref t3, .int (zI (sc + 1)), .int (zI (ln + mi)), .int (zI wk), .int (zI ((wn : Nat))), .int (zI fx)])) ts (zOb 5 [.int (zI nu), .ref t1, .ref t2, .ref t3, .int (zI (sc + 1)), .int (zI (ln + mi)), .int (zI (wk + mi)), .int (zI ((wn : Nat))), .int (zI fx)])) ts (zOb 5 [.int (zI nu), .ref t1, .ref t2, .ref t3, .int (zI (sc + 1)), .int (zI (ln + mi)), .int (zI (wk + mi)), .int (zI (((wn ||| 2 ^ sk.toNat : Nat) : Int))), .int (zI fx)])
        exact z_retv F rfl (by first | decide | assumption | omega) (by first | decide | assumption | omega) dX4_append_101 ⟨rfl, (by first | (rw [if_pos (show sk = -1 by omega), if_pos (show sk = -1 by omega)]; exact zApp2 n1 n2 n3) | (rw [if_neg (show ¬ sk = -1 by omega), if_neg (show ¬ sk = -1 by omega)]; exact zApp4 n1 n2 n3))⟩
    · skip
      exact absurd c_2 (by omega)

abbrev rX5_init : Room := { frames := 1, cells := 0, slots := 0, locals := 20 }
set_option maxRecDepth 100000 in
set_option maxHeartbeats 4000000 in
theorem c_X5_init {l : Launch} (hfl : l.stackTraces = false) (G : zG) {tv a : Nat} {n : Int} (M : zM) (h0 : M tv = some (zOb 6 [.int (zI 0), .null, .int (zI 0), .int (zI 0), .int (zI 0)])) : zCn l G yX5_init (.code yX5_init cX5_init 3 none) rX5_init [.ref tv, .int (zI n), .ref a] M (zRv (fun M2 => M2 = zu M tv (zOb 6 [.int (zI n), .ref a, .int (zI (-1)), .int (zI (-1)), .int (zI (-1))]))) zN := by
  refine zStart hfl (by decide) (own := RX5) rfl [(0, .ref tv), (1, .int (zI n)), (2, .ref a)] (Nat.le_of_ble_eq_true rfl) rfl (fun k hkl hinit hk0 F => ?_)
  refine z_aload_n F 0 dX5_init_0 rfl rfl ?_
  refine z_objI F (zr_15 _ (List.mem_of_getElem? (i := 21) rfl)) (zr_1 _ (List.mem_of_getElem? (i := 7) rfl)) (zr_1 _ (List.mem_of_getElem? (i := 8) rfl)) (Nat.le_of_ble_eq_true rfl) (Nat.le_of_ble_eq_true rfl) dX5_init_1 ?_
  refine z_aload_n F 0 dX5_init_4 rfl rfl ?_
  refine z_iconst (z := -1) F dX5_init_5 (by decide) ?_
  refine z_put (ty := .int) F [.int (zI 0), .null, .int (zI (-1)), .int (zI 0), .int (zI 0)] fl_X5_9 tyX5 tyX5_ok nmX5 rfl (by decide +kernel) rfl rfl h0 (Nat.le_of_ble_eq_true rfl) rfl dX5_init_6 ?_
  have hm_1_s := zu_s M tv (zOb 6 [.int (zI 0), .null, .int (zI (-1)), .int (zI 0), .int (zI 0)])
  refine z_aload_n F 0 dX5_init_9 rfl rfl ?_
  refine z_iconst (z := -1) F dX5_init_10 (by decide) ?_
  refine z_put (ty := .int) F [.int (zI 0), .null, .int (zI (-1)), .int (zI (-1)), .int (zI 0)] fl_X5_15 tyX5 tyX5_ok nmX5 rfl (by decide +kernel) rfl rfl hm_1_s (Nat.le_of_ble_eq_true rfl) rfl dX5_init_11 ?_
  have hm_2_s := zu_s (zu M tv (zOb 6 [.int (zI 0), .null, .int (zI (-1)), .int (zI 0), .int (zI 0)])) tv (zOb 6 [.int (zI 0), .null, .int (zI (-1)), .int (zI (-1)), .int (zI 0)])
  refine z_aload_n F 0 dX5_init_14 rfl rfl ?_
  refine z_iconst (z := -1) F dX5_init_15 (by decide) ?_
  refine z_put (ty := .int) F [.int (zI 0), .null, .int (zI (-1)), .int (zI (-1)), .int (zI (-1))] fl_X5_18 tyX5 tyX5_ok nmX5 rfl (by decide +kernel) rfl rfl hm_2_s (Nat.le_of_ble_eq_true rfl) rfl dX5_init_16 ?_
  have hm_3_s := zu_s (zu (zu M tv (zOb 6 [.int (zI 0), .null, .int (zI (-1)), .int (zI 0), .int (zI 0)])) tv (zOb 6 [.int (zI 0), .null, .int (zI (-1)), .int (zI (-1)), .int (zI 0)])) tv (zOb 6 [.int (zI 0), .null, .int (zI (-1)), .int (zI (-1)), .int (zI (-1))])
  refine z_aload_n F 0 dX5_init_19 rfl rfl ?_
  refine z_iload_n F 1 dX5_init_20 rfl rfl ?_
  refine z_putF (ty := .int) F [.int (zI n), .null, .int (zI (-1)), .int (zI (-1)), .int (zI (-1))] fl_X5_21 tyX5 tyX5_ok nmX5 rfl hinit rfl (by decide +kernel) rfl rfl hm_3_s (Nat.le_of_ble_eq_true rfl) rfl dX5_init_21 ?_
  have hm_4_s := zu_s (zu (zu (zu M tv (zOb 6 [.int (zI 0), .null, .int (zI (-1)), .int (zI 0), .int (zI 0)])) tv (zOb 6 [.int (zI 0), .null, .int (zI (-1)), .int (zI (-1)), .int (zI 0)])) tv (zOb 6 [.int (zI 0), .null, .int (zI (-1)), .int (zI (-1)), .int (zI (-1))])) tv (zOb 6 [.int (zI n), .null, .int (zI (-1)), .int (zI (-1)), .int (zI (-1))])
  refine z_aload_n F 0 dX5_init_24 rfl rfl ?_
  refine z_aload_n F 2 dX5_init_25 rfl rfl ?_
  refine z_putF (ty := .object "SalonBook$Service") F [.int (zI n), .ref a, .int (zI (-1)), .int (zI (-1)), .int (zI (-1))] fl_X5_24 tyX5 tyX5_ok nmX5 rfl hinit rfl (by decide +kernel) rfl rfl hm_4_s (Nat.le_of_ble_eq_true rfl) rfl dX5_init_26 ?_
  have hm_5_s := zu_s (zu (zu (zu (zu M tv (zOb 6 [.int (zI 0), .null, .int (zI (-1)), .int (zI 0), .int (zI 0)])) tv (zOb 6 [.int (zI 0), .null, .int (zI (-1)), .int (zI (-1)), .int (zI 0)])) tv (zOb 6 [.int (zI 0), .null, .int (zI (-1)), .int (zI (-1)), .int (zI (-1))])) tv (zOb 6 [.int (zI n), .null, .int (zI (-1)), .int (zI (-1)), .int (zI (-1))])) tv (zOb 6 [.int (zI n), .ref a, .int (zI (-1)), .int (zI (-1)), .int (zI (-1))])
  exact z_retv F rfl (by first | decide | assumption | omega) (by first | decide | assumption | omega) dX5_init_29 ⟨rfl, by simp only [zu_zu]⟩

abbrev rX5_isDropped : Room := { frames := 0, cells := 0, slots := 0, locals := 0 }
set_option maxRecDepth 100000 in
set_option maxHeartbeats 4000000 in
theorem c_X5_isDropped {l : Launch} (hfl : l.stackTraces = false) (G : zG) {tv a : Nat} {n x y z : Int} (hz : zR z) (M : zM) (h0 : M tv = some (zOb 6 [.int (zI n), .ref a, .int (zI x), .int (zI y), .int (zI z)])) : zCn l G yX5_isDropped (.code yX5_isDropped cX5_isDropped 1 (some .boolean)) rX5_isDropped [.ref tv] M (zRi (fun xr M2 => xr = (if z = -1 then 1 else 0) ∧ M2 = M)) zN := by
  refine zStart hfl (by decide) (own := RX5) rfl [(0, .ref tv)] (Nat.le_of_ble_eq_true rfl) rfl (fun k hkl hinit hk0 F => ?_)
  refine z_aload_n F 0 dX5_isDropped_0 rfl rfl ?_
  refine z_get F fl_X5_18 h0 rfl dX5_isDropped_1 ?_
  refine z_iconst (z := -1) F dX5_isDropped_4 (by decide) ?_
  refine z_icmp_ne F 12 dX5_isDropped_5 (by decide) (by omega) ⟨by decide, by decide⟩ (fun c_1 => ?_) (fun c_1 => ?_)
  · skip
    refine z_iconst (z := 0) F dX5_isDropped_12 (by decide) ?_
    exact z_retz F rfl (by decide) (by first | decide | assumption | omega) (by first | decide | assumption | omega) dX5_isDropped_13 ⟨_, rfl, (by split <;> omega), rfl⟩
  · skip
    refine z_iconst (z := 1) F dX5_isDropped_8 (by decide) ?_
    refine z_goto F 13 dX5_isDropped_9 (by decide) ?_
    exact z_retz F rfl (by decide) (by first | decide | assumption | omega) (by first | decide | assumption | omega) dX5_isDropped_13 ⟨_, rfl, (by split <;> omega), rfl⟩

abbrev rX3_init : Room := { frames := 1, cells := 0, slots := 0, locals := 20 }
set_option maxRecDepth 100000 in
set_option maxHeartbeats 4000000 in
theorem c_X3_init {l : Launch} (hfl : l.stackTraces = false) (G : zG) {tv a : Nat} {n : Int} (M : zM) (h0 : M tv = some (zOb 4 [.null, .int (zI 0)])) : zCn l G yX3_init (.code yX3_init cX3_init 3 none) rX3_init [.ref tv, .ref a, .int (zI n)] M (zRv (fun M2 => M2 = zu M tv (zOb 4 [.ref a, .int (zI n)]))) zN := by
  refine zStart hfl (by decide) (own := RX3) rfl [(0, .ref tv), (1, .ref a), (2, .int (zI n))] (Nat.le_of_ble_eq_true rfl) rfl (fun k hkl hinit hk0 F => ?_)
  refine z_aload_n F 0 dX3_init_0 rfl rfl ?_
  refine z_objI F (zr_19 _ (List.mem_of_getElem? (i := 13) rfl)) (zr_1 _ (List.mem_of_getElem? (i := 7) rfl)) (zr_1 _ (List.mem_of_getElem? (i := 8) rfl)) (Nat.le_of_ble_eq_true rfl) (Nat.le_of_ble_eq_true rfl) dX3_init_1 ?_
  refine z_aload_n F 0 dX3_init_4 rfl rfl ?_
  refine z_aload_n F 1 dX3_init_5 rfl rfl ?_
  refine z_putF (ty := .object "SalonBook$Service") F [.ref a, .int (zI 0)] fl_X3_7 tyX3 tyX3_ok nmX3 rfl hinit rfl (by decide +kernel) rfl rfl h0 (Nat.le_of_ble_eq_true rfl) rfl dX3_init_6 ?_
  have hm_1_s := zu_s M tv (zOb 4 [.ref a, .int (zI 0)])
  refine z_aload_n F 0 dX3_init_9 rfl rfl ?_
  refine z_iload_n F 2 dX3_init_10 rfl rfl ?_
  refine z_putF (ty := .int) F [.ref a, .int (zI n)] fl_X3_13 tyX3 tyX3_ok nmX3 rfl hinit rfl (by decide +kernel) rfl rfl hm_1_s (Nat.le_of_ble_eq_true rfl) rfl dX3_init_11 ?_
  have hm_2_s := zu_s (zu M tv (zOb 4 [.ref a, .int (zI 0)])) tv (zOb 4 [.ref a, .int (zI n)])
  exact z_retv F rfl (by first | decide | assumption | omega) (by first | decide | assumption | omega) dX3_init_14 ⟨rfl, by simp only [zu_zu]⟩

abbrev rX1_init : Room := { frames := 2, cells := 3, slots := 1203, locals := 41 }
set_option maxRecDepth 100000 in
set_option maxHeartbeats 4000000 in
theorem c_X1_init {l : Launch} (hfl : l.stackTraces = false) (G : zG) {tm td tv tk : Nat} {a b c : Int} (M : zM) (h0 : M tm = some (zOb 2 [.int (zI 0), .int (zI 0), .int (zI 0), .null])) (h1 : M td = none) (h2 : M tv = none) (h3 : M tk = none) (m1 : td % 64 ≠ 63) (m2 : tv % 64 ≠ 63) (m3 : tk % 64 ≠ 63) (n1 : tm ≠ td) (n2 : tm ≠ tv) (n3 : tm ≠ tk) (n4 : td ≠ tv) (n5 : td ≠ tk) (n6 : tv ≠ tk) : zCn l G yX1_init (.code yX1_init cX1_init 4 none) rX1_init [.ref tm, .int (zI a), .int (zI b), .int (zI c)] M (zRv (fun M2 => M2 = zu (zu (zu (zu M tm (zOb 2 [.int (zI a), .int (zI b), .int (zI c), .ref td])) td (zOb 1 [.ref tv, .ref tk])) tv (zAi 0 600 (fun _ => -1))) tk (zAi 0 601 (zTk (fun _ => -1))))) zN := by
  refine zStart hfl (by decide) (own := RX1) rfl [(0, .ref tm), (1, .int (zI a)), (2, .int (zI b)), (3, .int (zI c))] (Nat.le_of_ble_eq_true rfl) rfl (fun k hkl hinit hk0 F => ?_)
  refine z_aload_n F 0 dX1_init_0 rfl rfl ?_
  refine z_objI F (zr_4 _ (List.mem_of_getElem? (i := 9) rfl)) (zr_1 _ (List.mem_of_getElem? (i := 7) rfl)) (zr_1 _ (List.mem_of_getElem? (i := 8) rfl)) (Nat.le_of_ble_eq_true rfl) (Nat.le_of_ble_eq_true rfl) dX1_init_1 ?_
  refine z_aload_n F 0 dX1_init_4 rfl rfl ?_
  refine z_new (ci := 1) F td [.null, .null] rfl inlX0 tyX0 tyX0_ok (zr_4 _ (List.mem_of_getElem? (i := 10) rfl)) (zr_1 _ (List.mem_of_getElem? (i := 18) rfl)) (zr_1 _ (List.mem_of_getElem? (i := 19) rfl)) (fun j hj => by rcases (show j = 0 ∨ j = 1 by omega) with rfl | rfl <;> rfl) (by decide) h1 m1 (by decide) (by decide) dX1_init_5 ?_
  have hm_1_0 := (zu_n (M := M) (t := td) (q := tm) (o := (zOb 1 [.null, .null])) (by first | assumption | omega | (intro h9; omega))).trans h0
  have hm_1_s := zu_s M td (zOb 1 [.null, .null])
  refine z_dup F dX1_init_8 rfl ?_
  refine z_callI F [] [.ref td, .ref tm] (c_X0_init F.2.2.1 G (td := td) (tv := tv) (tk := tk) _ (zu_s _ _ _) ((zu_n (Ne.symm n4)).trans h2) ((zu_n (Ne.symm n5)).trans h3) m2 m3 n4 n5 n6) ci_X1_9 rfl ⟨by decide, by decide⟩ ⟨by decide, by decide⟩ (Nat.le_of_ble_eq_true rfl) dX1_init_9 z_nx (z_kv (fun M_2 h_2 => ?_))
  have hm9 := (h_2).symm
  subst hm9
  refine z_putF (ty := .object "SalonBook$Diary") F [.int (zI 0), .int (zI 0), .int (zI 0), .ref td] fl_X1_10 tyX1 tyX1_ok nmX1 rfl hinit rfl (by decide +kernel) rfl rfl ((zu_n n3).trans ((zu_n n2).trans ((zu_n n1).trans ((zu_n n1).trans h0)))) (Nat.le_of_ble_eq_true rfl) rfl dX1_init_12 ?_
  have hm_3_s := zu_s (zu (zu (zu (zu M td (zOb 1 [.null, .null])) td (zOb 1 [.ref tv, .ref tk])) tv (zAi 0 600 (fun _ => -1))) tk (zAi 0 601 (zTk (fun _ => -1)))) tm (zOb 2 [.int (zI 0), .int (zI 0), .int (zI 0), .ref td])
  refine z_aload_n F 0 dX1_init_15 rfl rfl ?_
  refine z_iload_n F 1 dX1_init_16 rfl rfl ?_
  refine z_putF (ty := .int) F [.int (zI a), .int (zI 0), .int (zI 0), .ref td] fl_X1_16 tyX1 tyX1_ok nmX1 rfl hinit rfl (by decide +kernel) rfl rfl hm_3_s (Nat.le_of_ble_eq_true rfl) rfl dX1_init_17 ?_
  have hm_4_s := zu_s (zu (zu (zu (zu (zu M td (zOb 1 [.null, .null])) td (zOb 1 [.ref tv, .ref tk])) tv (zAi 0 600 (fun _ => -1))) tk (zAi 0 601 (zTk (fun _ => -1)))) tm (zOb 2 [.int (zI 0), .int (zI 0), .int (zI 0), .ref td])) tm (zOb 2 [.int (zI a), .int (zI 0), .int (zI 0), .ref td])
  refine z_aload_n F 0 dX1_init_20 rfl rfl ?_
  refine z_iload_n F 2 dX1_init_21 rfl rfl ?_
  refine z_putF (ty := .int) F [.int (zI a), .int (zI b), .int (zI 0), .ref td] fl_X1_20 tyX1 tyX1_ok nmX1 rfl hinit rfl (by decide +kernel) rfl rfl hm_4_s (Nat.le_of_ble_eq_true rfl) rfl dX1_init_22 ?_
  have hm_5_s := zu_s (zu (zu (zu (zu (zu (zu M td (zOb 1 [.null, .null])) td (zOb 1 [.ref tv, .ref tk])) tv (zAi 0 600 (fun _ => -1))) tk (zAi 0 601 (zTk (fun _ => -1)))) tm (zOb 2 [.int (zI 0), .int (zI 0), .int (zI 0), .ref td])) tm (zOb 2 [.int (zI a), .int (zI 0), .int (zI 0), .ref td])) tm (zOb 2 [.int (zI a), .int (zI b), .int (zI 0), .ref td])
  refine z_aload_n F 0 dX1_init_25 rfl rfl ?_
  refine z_iload_n F 3 dX1_init_26 rfl rfl ?_
  refine z_putF (ty := .int) F [.int (zI a), .int (zI b), .int (zI c), .ref td] fl_X1_23 tyX1 tyX1_ok nmX1 rfl hinit rfl (by decide +kernel) rfl rfl hm_5_s (Nat.le_of_ble_eq_true rfl) rfl dX1_init_27 ?_
  have hm_6_s := zu_s (zu (zu (zu (zu (zu (zu (zu M td (zOb 1 [.null, .null])) td (zOb 1 [.ref tv, .ref tk])) tv (zAi 0 600 (fun _ => -1))) tk (zAi 0 601 (zTk (fun _ => -1)))) tm (zOb 2 [.int (zI 0), .int (zI 0), .int (zI 0), .ref td])) tm (zOb 2 [.int (zI a), .int (zI 0), .int (zI 0), .ref td])) tm (zOb 2 [.int (zI a), .int (zI b), .int (zI 0), .ref td])) tm (zOb 2 [.int (zI a), .int (zI b), .int (zI c), .ref td])
  exact z_retv F rfl (by first | decide | assumption | omega) (by first | decide | assumption | omega) dX1_init_30 ⟨rfl, zInitM n1 n2 n3⟩

