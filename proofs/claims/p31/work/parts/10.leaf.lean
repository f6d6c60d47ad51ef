/-! ===== leaf methods ===== -/
theorem zTk_0 : ∀ m, zTk (fun _ => -1) m = 0
  | 0 => rfl
  | m + 1 => by rw [zTk, zTk_0 m]; rfl
theorem zInit1 {M : zM} {td tv tk : Nat} {ci : Nat} (n1 : td ≠ tv) (n2 : td ≠ tk) (n3 : tv ≠ tk) : zu (zu (zu (zu M tv (zAi 0 600 (fun _ => 0))) td (zOb ci [.ref tv, .null])) tk (zAi 0 601 (fun _ => 0))) td (zOb ci [.ref tv, .ref tk]) = zu (zu (zu M td (zOb ci [.ref tv, .ref tk])) tv (zAi 0 600 (zfil (fun _ => 0) 0 0 (-1)))) tk (zAi 0 601 (zTk (fun _ => -1))) := by
  have e1 : zTk (fun _ => -1) = fun _ => 0 := funext zTk_0
  rw [e1, zfil_0 _ _ (Int.le_refl 0)]
  funext q
  simp only [zu]
  by_cases h1 : q = td
  · subst h1; rw [if_pos rfl, if_neg n2, if_neg n1, if_pos rfl]
  · by_cases h2 : q = tk
    · subst h2; rw [if_neg h1, if_pos rfl, if_pos rfl]
    · by_cases h3 : q = tv
      · subst h3; simp [h1, h2]
      · simp [h1, h2, h3]
abbrev rX6_isMinute : Room := { frames := 0, cells := 0, slots := 0, locals := 0 }
set_option maxRecDepth 100000 in
set_option maxHeartbeats 4000000 in
theorem c_X6_isMinute {l : Launch} (hfl : l.stackTraces = false) (G : zG) {a : Int} (ha : zR a) (M : zM)  : zCn l G yX6_isMinute (.code yX6_isMinute cX6_isMinute 1 (some .boolean)) rX6_isMinute [.int (zI a)] M (zRi (fun xr M2 => xr = (if 0 ≤ a ∧ a < 600 then 1 else 0) ∧ M2 = M)) zN := by
  refine zStart hfl (by decide) (own := RX6) rfl [(0, .int (zI a))] (Nat.le_of_ble_eq_true rfl) rfl (fun k hkl hinit hk0 F => ?_)
  refine z_iload_n F 0 dX6_isMinute_0 rfl rfl ?_
  refine z_if_lt F 15 dX6_isMinute_1 (by decide) (by omega) (fun c_1 => ?_) (fun c_1 => ?_)
  · skip
    refine z_iconst (z := 0) F dX6_isMinute_15 (by decide) ?_
    exact z_retz F rfl (by decide) (by first | decide | assumption | omega) (by first | decide | assumption | omega) dX6_isMinute_16 ⟨_, rfl, (by split <;> omega), rfl⟩
  · skip
    refine z_iload_n F 0 dX6_isMinute_4 rfl rfl ?_
    refine z_sipush (z := 600) F dX6_isMinute_5 (by decide) ?_
    refine z_icmp_ge F 15 dX6_isMinute_8 (by decide) (by omega) ⟨by decide, by decide⟩ (fun c_2 => ?_) (fun c_2 => ?_)
    · skip
      refine z_iconst (z := 0) F dX6_isMinute_15 (by decide) ?_
      exact z_retz F rfl (by decide) (by first | decide | assumption | omega) (by first | decide | assumption | omega) dX6_isMinute_16 ⟨_, rfl, (by split <;> omega), rfl⟩
    · skip
      refine z_iconst (z := 1) F dX6_isMinute_11 (by decide) ?_
      refine z_goto F 16 dX6_isMinute_12 (by decide) ?_
      exact z_retz F rfl (by decide) (by first | decide | assumption | omega) (by first | decide | assumption | omega) dX6_isMinute_16 ⟨_, rfl, (by split <;> omega), rfl⟩

abbrev rX6_isSkill : Room := { frames := 0, cells := 0, slots := 0, locals := 0 }
set_option maxRecDepth 100000 in
set_option maxHeartbeats 4000000 in
theorem c_X6_isSkill {l : Launch} (hfl : l.stackTraces = false) (G : zG) {a : Int} (ha : zR a) (M : zM)  : zCn l G yX6_isSkill (.code yX6_isSkill cX6_isSkill 1 (some .boolean)) rX6_isSkill [.int (zI a)] M (zRi (fun xr M2 => xr = (if 0 ≤ a ∧ a < 4 then 1 else 0) ∧ M2 = M)) zN := by
  refine zStart hfl (by decide) (own := RX6) rfl [(0, .int (zI a))] (Nat.le_of_ble_eq_true rfl) rfl (fun k hkl hinit hk0 F => ?_)
  refine z_iload_n F 0 dX6_isSkill_0 rfl rfl ?_
  refine z_if_lt F 13 dX6_isSkill_1 (by decide) (by omega) (fun c_1 => ?_) (fun c_1 => ?_)
  · skip
    refine z_iconst (z := 0) F dX6_isSkill_13 (by decide) ?_
    exact z_retz F rfl (by decide) (by first | decide | assumption | omega) (by first | decide | assumption | omega) dX6_isSkill_14 ⟨_, rfl, (by split <;> omega), rfl⟩
  · skip
    refine z_iload_n F 0 dX6_isSkill_4 rfl rfl ?_
    refine z_iconst (z := 4) F dX6_isSkill_5 (by decide) ?_
    refine z_icmp_ge F 13 dX6_isSkill_6 (by decide) (by omega) ⟨by decide, by decide⟩ (fun c_2 => ?_) (fun c_2 => ?_)
    · skip
      refine z_iconst (z := 0) F dX6_isSkill_13 (by decide) ?_
      exact z_retz F rfl (by decide) (by first | decide | assumption | omega) (by first | decide | assumption | omega) dX6_isSkill_14 ⟨_, rfl, (by split <;> omega), rfl⟩
    · skip
      refine z_iconst (z := 1) F dX6_isSkill_9 (by decide) ?_
      refine z_goto F 14 dX6_isSkill_10 (by decide) ?_
      exact z_retz F rfl (by decide) (by first | decide | assumption | omega) (by first | decide | assumption | omega) dX6_isSkill_14 ⟨_, rfl, (by split <;> omega), rfl⟩

abbrev rX6_isChair : Room := { frames := 0, cells := 0, slots := 0, locals := 0 }
set_option maxRecDepth 100000 in
set_option maxHeartbeats 4000000 in
theorem c_X6_isChair {l : Launch} (hfl : l.stackTraces = false) (G : zG) {a : Int} (ha : zR a) (M : zM)  : zCn l G yX6_isChair (.code yX6_isChair cX6_isChair 1 (some .boolean)) rX6_isChair [.int (zI a)] M (zRi (fun xr M2 => xr = (if 0 ≤ a ∧ a < 4 then 1 else 0) ∧ M2 = M)) zN := by
  refine zStart hfl (by decide) (own := RX6) rfl [(0, .int (zI a))] (Nat.le_of_ble_eq_true rfl) rfl (fun k hkl hinit hk0 F => ?_)
  refine z_iload_n F 0 dX6_isChair_0 rfl rfl ?_
  refine z_if_lt F 13 dX6_isChair_1 (by decide) (by omega) (fun c_1 => ?_) (fun c_1 => ?_)
  · skip
    refine z_iconst (z := 0) F dX6_isChair_13 (by decide) ?_
    exact z_retz F rfl (by decide) (by first | decide | assumption | omega) (by first | decide | assumption | omega) dX6_isChair_14 ⟨_, rfl, (by split <;> omega), rfl⟩
  · skip
    refine z_iload_n F 0 dX6_isChair_4 rfl rfl ?_
    refine z_iconst (z := 4) F dX6_isChair_5 (by decide) ?_
    refine z_icmp_ge F 13 dX6_isChair_6 (by decide) (by omega) ⟨by decide, by decide⟩ (fun c_2 => ?_) (fun c_2 => ?_)
    · skip
      refine z_iconst (z := 0) F dX6_isChair_13 (by decide) ?_
      exact z_retz F rfl (by decide) (by first | decide | assumption | omega) (by first | decide | assumption | omega) dX6_isChair_14 ⟨_, rfl, (by split <;> omega), rfl⟩
    · skip
      refine z_iconst (z := 1) F dX6_isChair_9 (by decide) ?_
      refine z_goto F 14 dX6_isChair_10 (by decide) ?_
      exact z_retz F rfl (by decide) (by first | decide | assumption | omega) (by first | decide | assumption | omega) dX6_isChair_14 ⟨_, rfl, (by split <;> omega), rfl⟩

abbrev rX0_at : Room := { frames := 1, cells := 0, slots := 0, locals := 20 }
set_option maxRecDepth 100000 in
set_option maxHeartbeats 4000000 in
theorem c_X0_at {l : Launch} (hfl : l.stackTraces = false) (G : zG) {td tv tk : Nat} {f g : Nat → Int} {a : Int} (ha : zR a) (M : zM) (h0 : M td = some (zOb 1 [.ref tv, .ref tk])) (h1 : M tv = some (zAi 0 600 f)) (h2 : M tk = some (zAi 0 601 g)) : zCn l G yX0_at (.code yX0_at cX0_at 2 (some .int)) rX0_at [.ref td, .int (zI a)] M (zRi (fun xr M2 => xr = (if 0 ≤ a ∧ a < 600 then f a.toNat else -1) ∧ M2 = M)) zN := by
  refine zStart hfl (by decide) (own := RX0) rfl [(0, .ref td), (1, .int (zI a))] (Nat.le_of_ble_eq_true rfl) rfl (fun k hkl hinit hk0 F => ?_)
  refine z_iload_n F 1 dX0_at_0 rfl rfl ?_
  refine z_callSN (n := 1) F [.int (zI a)] [] (c_X6_isMinute F.2.2.1 G ha M) (List.mem_of_getElem? (i := 0) rfl) zq_isMinute (by decide) rfl ⟨by decide, by decide⟩ ⟨by decide, by decide⟩ (Nat.le_of_ble_eq_true rfl) dX0_at_1 z_nx (z_ki (fun x_1 M_1 h_1 => ?_))
  have hx9 := (h_1).1.symm
  have hm9 := (h_1).2.symm
  subst hx9
  subst hm9
  have hz : zR (if 0 ≤ a ∧ a < 600 then 1 else 0) := by split <;> exact ⟨by decide, by decide⟩
  refine z_if_eq F 16 dX0_at_4 (by decide) (by omega) (fun c_2 => ?_) (fun c_2 => ?_)
  · skip
    have hc : ¬ (0 ≤ a ∧ a < 600) := fun h => by rw [if_pos h] at c_2; omega
    refine z_iconst (z := -1) F dX0_at_16 (by decide) ?_
    exact z_reti F rfl (by first | decide | assumption | omega) (by first | decide | assumption | omega) dX0_at_17 ⟨_, rfl, (if_neg hc).symm, rfl⟩
  · skip
    have hc : 0 ≤ a ∧ a < 600 := Classical.byContradiction fun h => by rw [if_neg h] at c_2; omega
    refine z_aload_n F 0 dX0_at_7 rfl rfl ?_
    refine z_get F fl_X0_9 h0 rfl dX0_at_8 ?_
    refine z_iload_n F 1 dX0_at_11 rfl rfl ?_
    refine z_iald F h1 (by omega) (by omega) (by decide) dX0_at_12 ?_
    refine z_goto F 17 dX0_at_13 (by decide) ?_
    exact z_reti F rfl (by first | decide | assumption | omega) (by first | decide | assumption | omega) dX0_at_17 ⟨_, rfl, (if_pos hc).symm, rfl⟩

abbrev rX0_isFree : Room := { frames := 0, cells := 0, slots := 0, locals := 0 }
set_option maxRecDepth 100000 in
set_option maxHeartbeats 4000000 in
theorem c_X0_isFree {l : Launch} (hfl : l.stackTraces = false) (G : zG) {td tv tk : Nat} {f : Nat → Int} {a b : Int} (ha : zR a) (hb9 : zR b) (M : zM) (h0 : M td = some (zOb 1 [.ref tv, .ref tk])) (h1 : M tv = some (zAi 0 600 f)) (h2 : M tk = some (zAi 0 601 (zTk f))) : zCn l G yX0_isFree (.code yX0_isFree cX0_isFree 3 (some .boolean)) rX0_isFree [.ref td, .int (zI a), .int (zI b)] M (zRi (fun xr M2 => xr = (if 0 ≤ a ∧ a ≤ b ∧ b ≤ 600 ∧ zTk f a.toNat = zTk f b.toNat then 1 else 0) ∧ M2 = M)) zN := by
  refine zStart hfl (by decide) (own := RX0) rfl [(0, .ref td), (1, .int (zI a)), (2, .int (zI b))] (Nat.le_of_ble_eq_true rfl) rfl (fun k hkl hinit hk0 F => ?_)
  have r1 := zTk_r f a.toNat
  have r2 := zTk_r f b.toNat
  refine z_iload_n F 1 dX0_isFree_0 rfl rfl ?_
  refine z_if_lt F 16 dX0_isFree_1 (by decide) (by omega) (fun c_1 => ?_) (fun c_1 => ?_)
  · skip
    refine z_iconst (z := 0) F dX0_isFree_16 (by decide) ?_
    exact z_retz F rfl (by decide) (by first | decide | assumption | omega) (by first | decide | assumption | omega) dX0_isFree_17 ⟨_, rfl, (by split <;> omega), rfl⟩
  · skip
    refine z_iload_n F 2 dX0_isFree_4 rfl rfl ?_
    refine z_iload_n F 1 dX0_isFree_5 rfl rfl ?_
    refine z_icmp_lt F 16 dX0_isFree_6 (by decide) (by omega) (by omega) (fun c_2 => ?_) (fun c_2 => ?_)
    · skip
      refine z_iconst (z := 0) F dX0_isFree_16 (by decide) ?_
      exact z_retz F rfl (by decide) (by first | decide | assumption | omega) (by first | decide | assumption | omega) dX0_isFree_17 ⟨_, rfl, (by split <;> omega), rfl⟩
    · skip
      refine z_iload_n F 2 dX0_isFree_9 rfl rfl ?_
      refine z_sipush (z := 600) F dX0_isFree_10 (by decide) ?_
      refine z_icmp_le F 18 dX0_isFree_13 (by decide) (by omega) ⟨by decide, by decide⟩ (fun c_3 => ?_) (fun c_3 => ?_)
      · skip
        refine z_aload_n F 0 dX0_isFree_18 rfl rfl ?_
        refine z_get F fl_X0_15 h0 rfl dX0_isFree_19 ?_
        refine z_iload_n F 1 dX0_isFree_22 rfl rfl ?_
        refine z_iald F h2 (by omega) (by omega) (by decide) dX0_isFree_23 ?_
        refine z_aload_n F 0 dX0_isFree_24 rfl rfl ?_
        refine z_get F fl_X0_15 h0 rfl dX0_isFree_25 ?_
        refine z_iload_n F 2 dX0_isFree_28 rfl rfl ?_
        refine z_iald F h2 (by omega) (by omega) (by decide) dX0_isFree_29 ?_
        refine z_icmp_ne F 37 dX0_isFree_30 (by decide) (by omega) (by omega) (fun c_4 => ?_) (fun c_4 => ?_)
        · skip
          refine z_iconst (z := 0) F dX0_isFree_37 (by decide) ?_
          exact z_retz F rfl (by decide) (by first | decide | assumption | omega) (by first | decide | assumption | omega) dX0_isFree_38 ⟨_, rfl, (by split <;> omega), rfl⟩
        · skip
          refine z_iconst (z := 1) F dX0_isFree_33 (by decide) ?_
          refine z_goto F 38 dX0_isFree_34 (by decide) ?_
          exact z_retz F rfl (by decide) (by first | decide | assumption | omega) (by first | decide | assumption | omega) dX0_isFree_38 ⟨_, rfl, (by split <;> omega), rfl⟩
      · skip
        refine z_iconst (z := 0) F dX0_isFree_16 (by decide) ?_
        exact z_retz F rfl (by decide) (by first | decide | assumption | omega) (by first | decide | assumption | omega) dX0_isFree_17 ⟨_, rfl, (by split <;> omega), rfl⟩

abbrev rX0_write : Room := { frames := 0, cells := 0, slots := 0, locals := 0 }
set_option maxRecDepth 100000 in
set_option maxHeartbeats 4000000 in
theorem c_X0_write {l : Launch} (hfl : l.stackTraces = false) (G : zG) {td tv tk : Nat} {f : Nat → Int} {a b v : Int} (ha : zR a) (hb9 : zR b) (M : zM) (h0 : M td = some (zOb 1 [.ref tv, .ref tk])) (h1 : M tv = some (zAi 0 600 f)) (h2 : M tk = some (zAi 0 601 (zTk f))) (n1 : td ≠ tv) (n2 : td ≠ tk) (n3 : tv ≠ tk) (hv : zR v) (hf : ∀ j, zR (f j)) : zCn l G yX0_write (.code yX0_write cX0_write 5 none) rX0_write [.ref td, .int (zI a), .int (zI b), .int (zI v)] M (zRv (fun M2 => M2 = (if 0 ≤ a ∧ b ≤ 600 then zu (zu M tv (zAi 0 600 (zfil f a b v))) tk (zAi 0 601 (zTk (zfil f a b v))) else M))) zN := by
  refine zStart hfl (by decide) (own := RX0) rfl [(0, .ref td), (1, .int (zI a)), (2, .int (zI b)), (3, .int (zI v))] (Nat.le_of_ble_eq_true rfl) rfl (fun k hkl hinit hk0 F => ?_)
  refine z_iload_n F 1 dX0_write_0 rfl rfl ?_
  refine z_if_lt F 11 dX0_write_1 (by decide) (by omega) (fun c_1 => ?_) (fun c_1 => ?_)
  · skip
    exact z_retv F rfl (by first | decide | assumption | omega) (by first | decide | assumption | omega) dX0_write_11 ⟨rfl, (if_neg (by omega)).symm⟩
  · skip
    refine z_iload_n F 2 dX0_write_4 rfl rfl ?_
    refine z_sipush (z := 600) F dX0_write_5 (by decide) ?_
    refine z_icmp_le F 12 dX0_write_8 (by decide) (by omega) ⟨by decide, by decide⟩ (fun c_2 => ?_) (fun c_2 => ?_)
    · skip
      refine z_iload_n F 1 dX0_write_12 rfl rfl ?_
      refine z_istore F [(4, .int (zI a)), (0, .ref td), (1, .int (zI a)), (2, .int (zI b)), (3, .int (zI v))] dX0_write_13 (by decide) rfl ?_
      have L1 : ∀ (fuel : Nat) (i : Int), (b - i).toNat < fuel → a ≤ i → i = a ∨ i ≤ b → zR i → zJ k G rX0_write 5 (zMQ k G rX0_write (zRv (fun M2 => M2 = (if 0 ≤ a ∧ b ≤ 600 then zu (zu M tv (zAi 0 600 (zfil f a b v))) tk (zAi 0 601 (zTk (zfil f a b v))) else M))) zN) (zu M tv (zAi 0 600 (zfil f a i v))) 0 0 15 [(0, .ref td), (1, .int (zI a)), (2, .int (zI b)), (3, .int (zI v)), (4, .int (zI i))] [] := by
        intro fuel
        induction fuel with
        | zero => intros; omega
        | succ fuel L1_ih =>
          intro i hfuel hi1 hi2 hi3
          refine z_iload F 4 dX0_write_15 rfl ?_
          refine z_iload_n F 2 dX0_write_17 rfl rfl ?_
          refine z_icmp_ge F 35 dX0_write_18 (by decide) (by omega) (by omega) (fun c_3 => ?_) (fun c_3 => ?_)
          · skip
            refine z_iload_n F 1 dX0_write_35 rfl rfl ?_
            refine z_istore F [(4, .int (zI a)), (0, .ref td), (1, .int (zI a)), (2, .int (zI b)), (3, .int (zI v))] dX0_write_36 (by decide) rfl ?_
            have L2 : ∀ (fuel : Nat) (w : Int), (600 - w).toNat < fuel → a ≤ w → zR w → zJ k G rX0_write 5 (zMQ k G rX0_write (zRv (fun M2 => M2 = (if 0 ≤ a ∧ b ≤ 600 then zu (zu M tv (zAi 0 600 (zfil f a b v))) tk (zAi 0 601 (zTk (zfil f a b v))) else M))) zN) (zu (zu M tv (zAi 0 600 (zfil f a b v))) tk (zAi 0 601 (fun j => if (j : Int) ≤ w then zTk (zfil f a b v) j else zTk f j))) 0 0 38 [(0, .ref td), (1, .int (zI a)), (2, .int (zI b)), (3, .int (zI v)), (4, .int (zI w))] [] := by
              intro fuel
              induction fuel with
              | zero => intros; omega
              | succ fuel L2_ih =>
                intro w hfuel hw1 hw2
                refine z_iload F 4 dX0_write_38 rfl ?_
                refine z_sipush (z := 600) F dX0_write_40 (by decide) ?_
                refine z_icmp_ge F 85 dX0_write_43 (by decide) (by omega) ⟨by decide, by decide⟩ (fun c_4 => ?_) (fun c_4 => ?_)
                · skip
                  refine z_ext (zTk (zfil f a b v)) (zu_s _ _ _) (fun j hj => if_pos (by omega)) ?_
                  refine z_M (zu_zu _ _ _ _) ?_
                  exact z_retv F rfl (by first | decide | assumption | omega) (by first | decide | assumption | omega) dX0_write_85 ⟨rfl, (if_pos (by omega)).symm⟩
                · skip
                  refine z_aload_n F 0 dX0_write_46 rfl rfl ?_
                  refine z_get F fl_X0_15 ((zu_n n2).trans ((zu_n n1).trans h0)) rfl dX0_write_47 ?_
                  refine z_iload F 4 dX0_write_50 rfl ?_
                  refine z_iconst (z := 1) F dX0_write_52 (by decide) ?_
                  refine z_iadd F dX0_write_53 ?_
                  refine z_aload_n F 0 dX0_write_54 rfl rfl ?_
                  refine z_get F fl_X0_15 ((zu_n n2).trans ((zu_n n1).trans h0)) rfl dX0_write_55 ?_
                  refine z_iload F 4 dX0_write_58 rfl ?_
                  refine z_iald F (zu_s _ _ _) (by omega) (by omega) (by decide) dX0_write_60 ?_
                  refine z_aload_n F 0 dX0_write_61 rfl rfl ?_
                  refine z_get F fl_X0_9 ((zu_n n2).trans ((zu_n n1).trans h0)) rfl dX0_write_62 ?_
                  refine z_iload F 4 dX0_write_65 rfl ?_
                  refine z_iald F ((zu_n n3).trans (zu_s _ _ _)) (by omega) (by omega) (by decide) dX0_write_67 ?_
                  refine z_iconst (z := -1) F dX0_write_68 (by decide) ?_
                  have e1 : zR (zfil f a b v (w).toNat) := by
                    unfold zfil
                    split
                    · exact hv
                    · exact hf _
                  refine z_icmp_ne F 76 dX0_write_69 (by decide) (by omega) ⟨by decide, by decide⟩ (fun c_5 => ?_) (fun c_5 => ?_)
                  · skip
                    have hc : ¬ zfil f a b v (w).toNat = -1 := c_5
                    refine z_iconst (z := 1) F dX0_write_76 (by decide) ?_
                    refine z_iadd F dX0_write_77 ?_
                    refine z_iast F (zu_s _ _ _) (by omega) (by omega) (by decide) dX0_write_78 ?_
                    have hm_6_0 := (zu_n (M := (zu (zu M tv (zAi 0 600 (zfil f a b v))) tk (zAi 0 601 (fun j => if (j : Int) ≤ w then zTk (zfil f a b v) j else zTk f j)))) (t := tk) (q := td) (o := (zAi 0 601 (zup ((fun (j : Nat) => if (j : Int) ≤ w then zTk (zfil f a b v) j else zTk f j)) (w + 1).toNat ((((fun (j : Nat) => if (j : Int) ≤ w then zTk (zfil f a b v) j else zTk f j)) (w).toNat) + 1)))) (by first | assumption | omega | (intro h9; omega))).trans ((zu_n n2).trans ((zu_n n1).trans h0))
                    have hm_6_1 := (zu_n (M := (zu (zu M tv (zAi 0 600 (zfil f a b v))) tk (zAi 0 601 (fun j => if (j : Int) ≤ w then zTk (zfil f a b v) j else zTk f j)))) (t := tk) (q := tv) (o := (zAi 0 601 (zup ((fun (j : Nat) => if (j : Int) ≤ w then zTk (zfil f a b v) j else zTk f j)) (w + 1).toNat ((((fun (j : Nat) => if (j : Int) ≤ w then zTk (zfil f a b v) j else zTk f j)) (w).toNat) + 1)))) (by first | assumption | omega | (intro h9; omega))).trans ((zu_n n3).trans (zu_s _ _ _))
                    have hm_6_s := zu_s (zu (zu M tv (zAi 0 600 (zfil f a b v))) tk (zAi 0 601 (fun j => if (j : Int) ≤ w then zTk (zfil f a b v) j else zTk f j))) tk (zAi 0 601 (zup ((fun (j : Nat) => if (j : Int) ≤ w then zTk (zfil f a b v) j else zTk f j)) (w + 1).toNat ((((fun (j : Nat) => if (j : Int) ≤ w then zTk (zfil f a b v) j else zTk f j)) (w).toNat) + 1)))
                    refine z_iinc F 4 [(4, .int (zI (w + 1))), (0, .ref td), (1, .int (zI a)), (2, .int (zI b)), (3, .int (zI v))] dX0_write_79 rfl (by decide) rfl ?_
                    refine z_goto F 38 dX0_write_82 (by decide) ?_
                    refine z_lv [(0, .ref td), (1, .int (zI a)), (2, .int (zI b)), (3, .int (zI v)), (4, .int (zI (w + 1)))] [1, 2, 3, 4, 0] rfl ?_
                    refine z_M (M' := zu (zu M tv (zAi 0 600 (zfil f a b v))) tk (zAi 0 601 (fun j => if (j : Int) ≤ w + 1 then zTk (zfil f a b v) j else zTk f j))) (by rw [zu_zu, zTk_step (by omega) (by first | rw [if_pos hc] | rw [if_neg hc])]) ?_
                    exact L2_ih (w + 1) (by omega) (by omega) (by omega)
                  · skip
                    have hc : zfil f a b v (w).toNat = -1 := c_5
                    refine z_iconst (z := 0) F dX0_write_72 (by decide) ?_
                    refine z_goto F 77 dX0_write_73 (by decide) ?_
                    refine z_iadd F dX0_write_77 ?_
                    refine z_iast F (zu_s _ _ _) (by omega) (by omega) (by decide) dX0_write_78 ?_
                    have hm_7_0 := (zu_n (M := (zu (zu M tv (zAi 0 600 (zfil f a b v))) tk (zAi 0 601 (fun j => if (j : Int) ≤ w then zTk (zfil f a b v) j else zTk f j)))) (t := tk) (q := td) (o := (zAi 0 601 (zup ((fun (j : Nat) => if (j : Int) ≤ w then zTk (zfil f a b v) j else zTk f j)) (w + 1).toNat ((((fun (j : Nat) => if (j : Int) ≤ w then zTk (zfil f a b v) j else zTk f j)) (w).toNat) + 0)))) (by first | assumption | omega | (intro h9; omega))).trans ((zu_n n2).trans ((zu_n n1).trans h0))
                    have hm_7_1 := (zu_n (M := (zu (zu M tv (zAi 0 600 (zfil f a b v))) tk (zAi 0 601 (fun j => if (j : Int) ≤ w then zTk (zfil f a b v) j else zTk f j)))) (t := tk) (q := tv) (o := (zAi 0 601 (zup ((fun (j : Nat) => if (j : Int) ≤ w then zTk (zfil f a b v) j else zTk f j)) (w + 1).toNat ((((fun (j : Nat) => if (j : Int) ≤ w then zTk (zfil f a b v) j else zTk f j)) (w).toNat) + 0)))) (by first | assumption | omega | (intro h9; omega))).trans ((zu_n n3).trans (zu_s _ _ _))
                    have hm_7_s := zu_s (zu (zu M tv (zAi 0 600 (zfil f a b v))) tk (zAi 0 601 (fun j => if (j : Int) ≤ w then zTk (zfil f a b v) j else zTk f j))) tk (zAi 0 601 (zup ((fun (j : Nat) => if (j : Int) ≤ w then zTk (zfil f a b v) j else zTk f j)) (w + 1).toNat ((((fun (j : Nat) => if (j : Int) ≤ w then zTk (zfil f a b v) j else zTk f j)) (w).toNat) + 0)))
                    refine z_iinc F 4 [(4, .int (zI (w + 1))), (0, .ref td), (1, .int (zI a)), (2, .int (zI b)), (3, .int (zI v))] dX0_write_79 rfl (by decide) rfl ?_
                    refine z_goto F 38 dX0_write_82 (by decide) ?_
                    refine z_lv [(0, .ref td), (1, .int (zI a)), (2, .int (zI b)), (3, .int (zI v)), (4, .int (zI (w + 1)))] [1, 2, 3, 4, 0] rfl ?_
                    refine z_M (M' := zu (zu M tv (zAi 0 600 (zfil f a b v))) tk (zAi 0 601 (fun j => if (j : Int) ≤ w + 1 then zTk (zfil f a b v) j else zTk f j))) (by rw [zu_zu, zTk_step (by omega) (by first | rw [if_pos hc] | rw [if_neg hc])]) ?_
                    exact L2_ih (w + 1) (by omega) (by omega) (by omega)
            refine z_lv [(0, .ref td), (1, .int (zI a)), (2, .int (zI b)), (3, .int (zI v)), (4, .int (zI a))] [1, 2, 3, 4, 0] rfl ?_
            refine z_M (M' := zu (zu M tv (zAi 0 600 (zfil f a b v))) tk (zAi 0 601 (fun j => if (j : Int) ≤ a then zTk (zfil f a b v) j else zTk f j))) (by
                have e9 : (fun (j : Nat) => if (j : Int) ≤ a then zTk (zfil f a b v) j else zTk f j) = zTk f := by
                  funext j
                  split
                  · exact zTk_cong (fun q hq => if_neg (by omega))
                  · rfl
                have e10 : zfil f a i v = zfil f a b v := by
                  rcases hi2 with h | h
                  · rw [zfil_0 f v (by omega), zfil_0 f v (by omega)]
                  · rw [show i = b by omega]
                rw [e9, e10, zu_id ((zu_n n3.symm).trans h2)]) ?_
            exact L2 _ a (Nat.lt_succ_self _) (by omega) (by omega)
          · skip
            refine z_aload_n F 0 dX0_write_21 rfl rfl ?_
            refine z_get F fl_X0_9 ((zu_n n1).trans h0) rfl dX0_write_22 ?_
            refine z_iload F 4 dX0_write_25 rfl ?_
            refine z_iload_n F 3 dX0_write_27 rfl rfl ?_
            refine z_iast F (zu_s _ _ _) (by omega) (by omega) (by decide) dX0_write_28 ?_
            have hm_8_0 := (zu_n (M := (zu M tv (zAi 0 600 (zfil f a i v)))) (t := tv) (q := td) (o := (zAi 0 600 (zup ((zfil f a i v)) (i).toNat v))) (by first | assumption | omega | (intro h9; omega))).trans ((zu_n n1).trans h0)
            have hm_8_1 := (zu_n (M := (zu M tv (zAi 0 600 (zfil f a i v)))) (t := tv) (q := tk) (o := (zAi 0 600 (zup ((zfil f a i v)) (i).toNat v))) (by first | assumption | omega | (intro h9; omega))).trans ((zu_n n3.symm).trans h2)
            have hm_8_s := zu_s (zu M tv (zAi 0 600 (zfil f a i v))) tv (zAi 0 600 (zup ((zfil f a i v)) (i).toNat v))
            refine z_iinc F 4 [(4, .int (zI (i + 1))), (0, .ref td), (1, .int (zI a)), (2, .int (zI b)), (3, .int (zI v))] dX0_write_29 rfl (by decide) rfl ?_
            refine z_goto F 15 dX0_write_32 (by decide) ?_
            refine z_lv [(0, .ref td), (1, .int (zI a)), (2, .int (zI b)), (3, .int (zI v)), (4, .int (zI (i + 1)))] [1, 2, 3, 4, 0] rfl ?_
            refine z_M (M' := zu M tv (zAi 0 600 (zfil f a (i + 1) v))) (by rw [zu_zu, zfil_s f v (by omega) hi1]) ?_
            exact L1_ih (i + 1) (by omega) (by omega) (by omega) (by omega)
      refine z_lv [(0, .ref td), (1, .int (zI a)), (2, .int (zI b)), (3, .int (zI v)), (4, .int (zI a))] [1, 2, 3, 4, 0] rfl ?_
      refine z_M (M' := zu M tv (zAi 0 600 (zfil f a a v))) (by rw [zfil_0 f v (Int.le_refl a), zu_id h1]) ?_
      exact L1 _ a (Nat.lt_succ_self _) (by omega) (by omega) (by omega)
    · skip
      exact z_retv F rfl (by first | decide | assumption | omega) (by first | decide | assumption | omega) dX0_write_11 ⟨rfl, (if_neg (by omega)).symm⟩

abbrev rX0_init : Room := { frames := 1, cells := 2, slots := 1201, locals := 20 }
set_option maxRecDepth 100000 in
set_option maxHeartbeats 4000000 in
theorem c_X0_init {l : Launch} (hfl : l.stackTraces = false) (G : zG) {td tv tk : Nat} (M : zM) (h0 : M td = some (zOb 1 [.null, .null])) (h1 : M tv = none) (h2 : M tk = none) (m1 : tv % 64 ≠ 63) (m2 : tk % 64 ≠ 63) (n1 : td ≠ tv) (n2 : td ≠ tk) (n3 : tv ≠ tk) : zCn l G yX0_init (.code yX0_init cX0_init 2 none) rX0_init [.ref td] M (zRv (fun M2 => M2 = zu (zu (zu M td (zOb 1 [.ref tv, .ref tk])) tv (zAi 0 600 (fun _ => -1))) tk (zAi 0 601 (zTk (fun _ => -1))))) zN := by
  refine zStart hfl (by decide) (own := RX0) rfl [(0, .ref td)] (Nat.le_of_ble_eq_true rfl) rfl (fun k hkl hinit hk0 F => ?_)
  refine z_aload_n F 0 dX0_init_0 rfl rfl ?_
  refine z_objI F (zr_2 _ (List.mem_of_getElem? (i := 18) rfl)) (zr_1 _ (List.mem_of_getElem? (i := 7) rfl)) (zr_1 _ (List.mem_of_getElem? (i := 8) rfl)) (Nat.le_of_ble_eq_true rfl) (Nat.le_of_ble_eq_true rfl) dX0_init_1 ?_
  refine z_aload_n F 0 dX0_init_4 rfl rfl ?_
  refine z_sipush (z := 600) F dX0_init_5 (by decide) ?_
  refine z_newi F tv 600 (by decide) (by decide) h1 m1 (by decide) (by decide) (zr_2 _ (List.mem_of_getElem? (i := 19) rfl)) dX0_init_8 ?_
  have hm_1_0 := (zu_n (M := M) (t := tv) (q := td) (o := (zAi 0 600 (fun _ => 0))) (by first | assumption | omega | (intro h9; omega))).trans h0
  have hm_1_s := zu_s M tv (zAi 0 600 (fun _ => 0))
  refine z_putF (ty := .array (.int)) F [.ref tv, .null] fl_X0_9 tyX0 tyX0_ok nmX0 rfl hinit rfl (by decide +kernel) rfl rfl hm_1_0 (Nat.le_of_ble_eq_true rfl) rfl dX0_init_10 ?_
  have hm_2_0 := (zu_n (M := (zu M tv (zAi 0 600 (fun _ => 0)))) (t := td) (q := tv) (o := (zOb 1 [.ref tv, .null])) (by first | assumption | omega | (intro h9; omega))).trans hm_1_s
  have hm_2_s := zu_s (zu M tv (zAi 0 600 (fun _ => 0))) td (zOb 1 [.ref tv, .null])
  refine z_aload_n F 0 dX0_init_13 rfl rfl ?_
  refine z_sipush (z := 601) F dX0_init_14 (by decide) ?_
  refine z_newi F tk 601 (by decide) (by decide) ((zu_n (by first | assumption | exact Ne.symm n2)).trans ((zu_n (Ne.symm n3)).trans h2)) m2 (by decide) (by decide) (zr_2 _ (List.mem_of_getElem? (i := 19) rfl)) dX0_init_17 ?_
  have hm_3_0 := (zu_n (M := (zu (zu M tv (zAi 0 600 (fun _ => 0))) td (zOb 1 [.ref tv, .null]))) (t := tk) (q := tv) (o := (zAi 0 601 (fun _ => 0))) (by first | assumption | omega | (intro h9; omega))).trans hm_2_0
  have hm_3_1 := (zu_n (M := (zu (zu M tv (zAi 0 600 (fun _ => 0))) td (zOb 1 [.ref tv, .null]))) (t := tk) (q := td) (o := (zAi 0 601 (fun _ => 0))) (by first | assumption | omega | (intro h9; omega))).trans hm_2_s
  have hm_3_s := zu_s (zu (zu M tv (zAi 0 600 (fun _ => 0))) td (zOb 1 [.ref tv, .null])) tk (zAi 0 601 (fun _ => 0))
  refine z_putF (ty := .array (.int)) F [.ref tv, .ref tk] fl_X0_15 tyX0 tyX0_ok nmX0 rfl hinit rfl (by decide +kernel) rfl rfl hm_3_1 (Nat.le_of_ble_eq_true rfl) rfl dX0_init_19 ?_
  have hm_4_0 := (zu_n (M := (zu (zu (zu M tv (zAi 0 600 (fun _ => 0))) td (zOb 1 [.ref tv, .null])) tk (zAi 0 601 (fun _ => 0)))) (t := td) (q := tv) (o := (zOb 1 [.ref tv, .ref tk])) (by first | assumption | omega | (intro h9; omega))).trans hm_3_0
  have hm_4_1 := (zu_n (M := (zu (zu (zu M tv (zAi 0 600 (fun _ => 0))) td (zOb 1 [.ref tv, .null])) tk (zAi 0 601 (fun _ => 0)))) (t := td) (q := tk) (o := (zOb 1 [.ref tv, .ref tk])) (by first | assumption | omega | (intro h9; omega))).trans hm_3_s
  have hm_4_s := zu_s (zu (zu (zu M tv (zAi 0 600 (fun _ => 0))) td (zOb 1 [.ref tv, .null])) tk (zAi 0 601 (fun _ => 0))) td (zOb 1 [.ref tv, .ref tk])
  refine z_iconst (z := 0) F dX0_init_22 (by decide) ?_
  refine z_istore_n F [(1, .int (zI 0)), (0, .ref td)] dX0_init_23 rfl (by decide) rfl ?_
  have L1 : ∀ (fuel : Nat) (i : Int), (600 - i).toNat < fuel → 0 ≤ i → i ≤ 600 → zJ k G rX0_init 2 (zMQ k G rX0_init (zRv (fun M2 => M2 = zu (zu (zu M td (zOb 1 [.ref tv, .ref tk])) tv (zAi 0 600 (fun _ => -1))) tk (zAi 0 601 (zTk (fun _ => -1))))) zN) (zu (zu (zu M td (zOb 1 [.ref tv, .ref tk])) tv (zAi 0 600 (zfil (fun _ => 0) 0 i (-1)))) tk (zAi 0 601 (zTk (fun _ => -1)))) 2 1201 24 [(0, .ref td), (1, .int (zI i))] [] := by
    intro fuel
    induction fuel with
    | zero => intros; omega
    | succ fuel L1_ih =>
      intro i hfuel hi hi2
      refine z_iload_n F 1 dX0_init_24 rfl rfl ?_
      refine z_sipush (z := 600) F dX0_init_25 (by decide) ?_
      refine z_icmp_ge F 44 dX0_init_28 (by decide) (by omega) ⟨by decide, by decide⟩ (fun c_5 => ?_) (fun c_5 => ?_)
      · skip
        refine z_ext (fun _ => -1) ((zu_n n3).trans (zu_s _ _ _)) (fun j hj => if_pos (by omega)) ?_
        refine z_M (by rw [zu_cm (Ne.symm n3), zu_zu]) ?_
        exact z_retv F rfl (by first | decide | assumption | omega) (by first | decide | assumption | omega) dX0_init_44 ⟨rfl, rfl⟩
      · skip
        refine z_aload_n F 0 dX0_init_31 rfl rfl ?_
        refine z_get F fl_X0_9 ((zu_n n2).trans ((zu_n n1).trans (zu_s _ _ _))) rfl dX0_init_32 ?_
        refine z_iload_n F 1 dX0_init_35 rfl rfl ?_
        refine z_iconst (z := -1) F dX0_init_36 (by decide) ?_
        refine z_iast F ((zu_n n3).trans (zu_s _ _ _)) (by omega) (by omega) (by decide) dX0_init_37 ?_
        have hm_6_0 := (zu_n (M := (zu (zu (zu M td (zOb 1 [.ref tv, .ref tk])) tv (zAi 0 600 (zfil (fun _ => 0) 0 i (-1)))) tk (zAi 0 601 (zTk (fun _ => -1))))) (t := tv) (q := td) (o := (zAi 0 600 (zup ((zfil (fun _ => 0) 0 i (-1))) (i).toNat (-1)))) (by first | assumption | omega | (intro h9; omega))).trans ((zu_n n2).trans ((zu_n n1).trans (zu_s _ _ _)))
        have hm_6_s := zu_s (zu (zu (zu M td (zOb 1 [.ref tv, .ref tk])) tv (zAi 0 600 (zfil (fun _ => 0) 0 i (-1)))) tk (zAi 0 601 (zTk (fun _ => -1)))) tv (zAi 0 600 (zup ((zfil (fun _ => 0) 0 i (-1))) (i).toNat (-1)))
        refine z_iinc F 1 [(1, .int (zI (i + 1))), (0, .ref td)] dX0_init_38 rfl (by decide) rfl ?_
        refine z_goto F 24 dX0_init_41 (by decide) ?_
        refine z_lv [(0, .ref td), (1, .int (zI (i + 1)))] [1, 0] rfl ?_
        refine z_M (M' := zu (zu (zu M td (zOb 1 [.ref tv, .ref tk])) tv (zAi 0 600 (zfil (fun _ => 0) 0 (i + 1) (-1)))) tk (zAi 0 601 (zTk (fun _ => -1)))) (by rw [zu_cm (Ne.symm n3), zu_zu, zfil_s _ _ hi hi]) ?_
        exact L1_ih (i + 1) (by omega) (by omega) (by omega)
  refine z_lv [(0, .ref td), (1, .int (zI 0))] [1, 0] rfl ?_
  refine z_M (M' := zu (zu (zu M td (zOb 1 [.ref tv, .ref tk])) tv (zAi 0 600 (zfil (fun _ => 0) 0 0 (-1)))) tk (zAi 0 601 (zTk (fun _ => -1)))) (zInit1 n1 n2 n3) ?_
  exact L1 _ 0 (Nat.lt_succ_self _) (by omega) (by omega)
