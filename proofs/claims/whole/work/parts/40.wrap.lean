/-! ===== the law's wrappers: what the class answers, or the code of what it throws ===== -/
/-- how a call of the class ends in the law: its code; its value in the cell; its next state -/
def zV (t : zS) (o : zOx) (X : Int × Int × zS) : Int → zM → Prop := fun xr M2 => xr = X.1 ∧ ∃ (q : Int) (c9 : Nat → Int), M2 = zAll X.2.2 t (q, c9) ∧ (∀ m, c9 m = 0 ∨ c9 m = 1) ∧ (X.1 = 0 → q = X.2.1 ∧ zR X.2.1)
theorem zV_of {t : zS} {o : zOx} {X : Int × Int × zS} {k v q : Int} {N : zS} {c9 : Nat → Int} (hX : X = (k, v, N)) (hc : ∀ m, c9 m = 0 ∨ c9 m = 1) (hv : k = 0 → q = v ∧ zR v) : zV t o X k (zAll N t (q, c9)) := by
  subst hX
  exact ⟨rfl, q, c9, rfl, hc, hv⟩
theorem zMH_33 {s t : zS} {o : zOx} {v : Int} : zu (zAll s t o) 33 (zAi 2 1 (fun _ => v)) = zAll s t (v, o.2) := by
  funext a
  simp only [zu]
  by_cases e : a = 33
  · rw [if_pos e, e]
    rfl
  · rw [if_neg e]
    simp only [zAll]
    by_cases h5 : a % 64 = 5
    · rw [if_pos h5, if_pos h5]
    · rw [if_neg h5, if_neg h5]
      by_cases h16 : a % 64 < 16
      · rw [if_pos h16, if_pos h16]
      · rw [if_neg h16, if_neg h16]
        by_cases h33 : a % 64 = 33
        · rw [if_pos h33, if_pos h33, if_neg (by omega), if_neg (by omega)]
        · rw [if_neg h33, if_neg h33]
theorem zSw_r : ∀ (n : Nat) (c : zS) (p : Nat) (m : Int), m ≤ (zSw n c p m).2 ∧ (zSw n c p m).2 ≤ m + n
  | 0, c, p, m => by
    show m ≤ m ∧ m ≤ m + ((0 : Nat) : Int)
    omega
  | n + 1, c, p, m => by
    rw [zSw]
    split
    · have := zSw_r n c (p + 1) m
      omega
    · have := zSw_r n (zSwB c p) p (m + 1)
      omega
theorem zIn_r (s : zS) (v a : Nat) : ∀ n k, zIn s v a n k = -1 ∨ ∃ x y who, zIn s v a n k = zFind s who a x y ∧ zFind s who a x y ≠ -1
  | 0, _ => Or.inl rfl
  | n + 1, k => by
    rw [zIn]
    split
    · rename_i h
      exact Or.inr ⟨_, _, _, rfl, h.2⟩
    · exact zIn_r s v a n (k + 1)
theorem zIn_b {s : zS} (hc : zC1 s) {v a : Nat} (h13 : 0 ≤ s 13 v 0 ∧ s 13 v 0 ≤ 1000) : ∀ n k, -1 ≤ zIn s v a n k ∧ zIn s v a n k ≤ 5000000 + (n + k : Nat) * 1000
  | 0, _ => by
    show (-1 : Int) ≤ -1 ∧ (-1 : Int) ≤ 5000000 + ((0 + _ : Nat) : Int) * 1000
    omega
  | n + 1, k => by
    rw [zIn]
    have h1 := hc.off (s 10 v 0).toNat k
    have h2 := hc.off (s 10 v 0).toNat (k + 1)
    have hl := hc.len a
    have ih := zIn_b hc h13 (v := v) (a := a) n (k + 1)
    split
    · rcases zFind_r s (zBit (2 ^ (s 11 v 0).toNat)) a (s 13 v 0 + zOff s (s 10 v 0).toNat k) (s 13 v 0 + zOff s (s 10 v 0).toNat (k + 1)) with h | h <;> omega
    · omega
abbrev rL_hire : Room := { frames := 8, cells := 5, slots := 1240, locals := 214 }
set_option maxRecDepth 100000 in
set_option maxHeartbeats 4000000 in
theorem c_L_hire {l : Launch} (hfl : l.stackTraces = false) (G : zG) {s t : zS} {o : zOx} (hc : zC1 s) (hb9 : zB s) (hI : zInv s) (hob : ∀ m, o.2 m = 0 ∨ o.2 m = 1) {a b d : Int} (ha : zR a) (hb : zR b) (hd : zR d)  : zCn l G yL_hire (.codeWith yL_hire cL_hire 6 (some .int) [(0, 12, 15, 13), (0, 12, 19, 15)]) rL_hire [.ref 0, .int (zI a), .int (zI b), .int (zI d), .ref 33] (zAll s t o) (zRi (zV t o (xHire s a b d))) zN := by
  refine zStartH hfl (by decide) (own := RL) rfl [(0, .ref 0), (1, .int (zI a)), (2, .int (zI b)), (3, .int (zI d)), (4, .ref 33)] (Nat.le_of_ble_eq_true rfl) rfl (fun k hkl hinit hk0 F => ?_)
  have hn0 := hc.1
  have hn4 := hc.2.1
  have hn9 := hc.2.2.1
  have hn14 := hc.2.2.2.1
  have hn18 := hc.2.2.2.2.1
  refine z_aload F 4 dL_hire_0 rfl ?_
  refine z_iconst (z := 0) F dL_hire_2 (by decide) ?_
  refine z_aload_n F 0 dL_hire_3 rfl rfl ?_
  refine z_iload_n F 1 dL_hire_4 rfl rfl ?_
  refine z_iload_n F 2 dL_hire_5 rfl rfl ?_
  refine z_iload_n F 3 dL_hire_6 rfl rfl ?_
  refine z_callV F [.int (zI a), .int (zI b), .int (zI d)] [.int (zI 0), .ref 33] (c_X6_hire F.2.2.1 G (s := s) (t := t) (o := o) hc hb9 ha hb hd hI) cv_L_7 (zAll_0 s t o) rfl rfl rfl ⟨by decide, by decide⟩ ⟨by decide, by decide⟩ (Nat.le_of_ble_eq_true rfl) dL_hire_7 (fun E M9 h9 => by
      rcases h9 with ⟨⟨e1, e2⟩ | ⟨e1, e2, e3⟩, e4⟩
      · subst e1
        subst e4
        exact z_catch (z := 1) (i := 5) F (tableOf []) ⟨0, 12, 15, 13⟩ (tableOf [(0, 12, 19, 15)]) rfl (fun _ h => absurd h List.not_mem_nil) (by decide) (by decide) (zr_4 _ (List.mem_of_getElem? (i := 6) rfl)) (List.mem_of_getElem? (i := 4) rfl) (by decide) dL_hire_15 dL_hire_17 (by decide) dL_hire_18 rfl (by first | decide | assumption | omega) (by first | decide | assumption | omega) ⟨_, rfl, zV_of (k := 1) (v := 0) (q := o.1) (c9 := o.2) (by unfold xHire; rw [if_neg e2]) hob (fun h => absurd h (by decide))⟩
      · subst e1
        subst e4
        exact z_catch (z := 2) (i := 5) F (tableOf [(0, 12, 15, 13)]) ⟨0, 12, 19, 15⟩ (tableOf []) rfl (List.forall_mem_cons.mpr ⟨⟨by decide, "java/lang/IllegalArgumentException", zr_4 _ (List.mem_of_getElem? (i := 6) rfl), List.mem_of_getElem? (i := 0) rfl⟩, (fun _ h => absurd h List.not_mem_nil)⟩) (by decide) (by decide) (zr_4 _ (List.mem_of_getElem? (i := 7) rfl)) (List.mem_of_getElem? (i := 5) rfl) (by decide) dL_hire_19 dL_hire_21 (by decide) dL_hire_22 rfl (by first | decide | assumption | omega) (by first | decide | assumption | omega) ⟨_, rfl, zV_of (k := 2) (v := 0) (q := o.1) (c9 := o.2) (by unfold xHire; rw [if_pos e2, if_neg e3]) hob (fun h => absurd h (by decide))⟩) (z_ki (fun x_1 M_1 h_1 => ?_))
  obtain ⟨hq, hx9, hm9⟩ := h_1
  subst hx9
  subst hm9
  refine z_i2l F (by omega) dL_hire_10 ?_
  refine z_last F (zAll_33 (zOpH s a b d) t o) (by decide) (by decide) (by decide) dL_hire_11 ?_
  have hm_2_s := zu_s (zAll (zOpH s a b d) t o) 33 (zAi 2 1 (zup ((fun _ => o.1)) (0 : Int).toNat (s 0 0 0)))
  refine z_ext (fun _ => s 0 0 0) (zu_s _ _ _) (fun j hj => if_pos (by omega)) ?_
  refine z_M (M' := (zAll (zOpH s a b d) t (s 0 0 0, o.2))) (by rw [zu_zu, zMH_33]) ?_
  refine z_goto F 23 dL_hire_12 (by decide) ?_
  refine z_iconst (z := 0) F dL_hire_23 (by decide) ?_
  exact z_reti F rfl (by first | decide | assumption | omega) (by first | decide | assumption | omega) dL_hire_24 ⟨_, rfl, zV_of (k := 0) (v := s 0 0 0) (by unfold xHire; rw [if_pos hq.1, if_pos hq.2]) hob (fun _ => ⟨rfl, (by omega)⟩)⟩

abbrev rL_addService : Room := { frames := 9, cells := 7, slots := 69, locals := 235 }
set_option maxRecDepth 100000 in
set_option maxHeartbeats 4000000 in
theorem c_L_addService {l : Launch} (hfl : l.stackTraces = false) (G : zG) {s t : zS} {o : zOx} (hc : zC1 s) (hb9 : zB s) (hI : zInv s) (hob : ∀ m, o.2 m = 0 ∨ o.2 m = 1) {a b : Int} (ha : zR a) (hb : zR b)  : zCn l G yL_addService (.codeWith yL_addService cL_addService 5 (some .int) [(0, 10, 13, 13), (0, 10, 17, 15)]) rL_addService [.ref 0, .int (zI a), .int (zI b), .ref 33] (zAll s t o) (zRi (zV t o (xService s a b))) zN := by
  refine zStartH hfl (by decide) (own := RL) rfl [(0, .ref 0), (1, .int (zI a)), (2, .int (zI b)), (3, .ref 33)] (Nat.le_of_ble_eq_true rfl) rfl (fun k hkl hinit hk0 F => ?_)
  have hn0 := hc.1
  have hn4 := hc.2.1
  have hn9 := hc.2.2.1
  have hn14 := hc.2.2.2.1
  have hn18 := hc.2.2.2.2.1
  refine z_aload_n F 3 dL_addService_0 rfl rfl ?_
  refine z_iconst (z := 0) F dL_addService_1 (by decide) ?_
  refine z_aload_n F 0 dL_addService_2 rfl rfl ?_
  refine z_iload_n F 1 dL_addService_3 rfl rfl ?_
  refine z_iload_n F 2 dL_addService_4 rfl rfl ?_
  refine z_callV F [.int (zI a), .int (zI b)] [.int (zI 0), .ref 33] (c_X6_addService F.2.2.1 G (s := s) (t := t) (o := o) hc hb9 ha hb hI) cv_L_17 (zAll_0 s t o) rfl rfl rfl ⟨by decide, by decide⟩ ⟨by decide, by decide⟩ (Nat.le_of_ble_eq_true rfl) dL_addService_5 (fun E M9 h9 => by
      rcases h9 with ⟨⟨e1, e2⟩ | ⟨e1, e2, e3⟩, e4⟩
      · subst e1
        subst e4
        exact z_catch (z := 1) (i := 4) F (tableOf []) ⟨0, 10, 13, 13⟩ (tableOf [(0, 10, 17, 15)]) rfl (fun _ h => absurd h List.not_mem_nil) (by decide) (by decide) (zr_4 _ (List.mem_of_getElem? (i := 6) rfl)) (List.mem_of_getElem? (i := 4) rfl) (by decide) dL_addService_13 dL_addService_15 (by decide) dL_addService_16 rfl (by first | decide | assumption | omega) (by first | decide | assumption | omega) ⟨_, rfl, zV_of (k := 1) (v := 0) (q := o.1) (c9 := o.2) (by unfold xService; rw [if_neg e2]) hob (fun h => absurd h (by decide))⟩
      · subst e1
        subst e4
        exact z_catch (z := 2) (i := 4) F (tableOf [(0, 10, 13, 13)]) ⟨0, 10, 17, 15⟩ (tableOf []) rfl (List.forall_mem_cons.mpr ⟨⟨by decide, "java/lang/IllegalArgumentException", zr_4 _ (List.mem_of_getElem? (i := 6) rfl), List.mem_of_getElem? (i := 0) rfl⟩, (fun _ h => absurd h List.not_mem_nil)⟩) (by decide) (by decide) (zr_4 _ (List.mem_of_getElem? (i := 7) rfl)) (List.mem_of_getElem? (i := 5) rfl) (by decide) dL_addService_17 dL_addService_19 (by decide) dL_addService_20 rfl (by first | decide | assumption | omega) (by first | decide | assumption | omega) ⟨_, rfl, zV_of (k := 2) (v := 0) (q := o.1) (c9 := o.2) (by unfold xService; rw [if_pos e2, if_neg e3]) hob (fun h => absurd h (by decide))⟩) (z_ki (fun x_1 M_1 h_1 => ?_))
  obtain ⟨hq, hx9, hm9⟩ := h_1
  subst hx9
  subst hm9
  refine z_i2l F (by omega) dL_addService_8 ?_
  refine z_last F (zAll_33 (zOpP (zOpN s) (s 4 0 0).toNat a b) t o) (by decide) (by decide) (by decide) dL_addService_9 ?_
  have hm_2_s := zu_s (zAll (zOpP (zOpN s) (s 4 0 0).toNat a b) t o) 33 (zAi 2 1 (zup ((fun _ => o.1)) (0 : Int).toNat (s 4 0 0)))
  refine z_ext (fun _ => s 4 0 0) (zu_s _ _ _) (fun j hj => if_pos (by omega)) ?_
  refine z_M (M' := (zAll (zOpP (zOpN s) (s 4 0 0).toNat a b) t (s 4 0 0, o.2))) (by rw [zu_zu, zMH_33]) ?_
  refine z_goto F 21 dL_addService_10 (by decide) ?_
  refine z_iconst (z := 0) F dL_addService_21 (by decide) ?_
  exact z_reti F rfl (by first | decide | assumption | omega) (by first | decide | assumption | omega) dL_addService_22 ⟨_, rfl, zV_of (k := 0) (v := s 4 0 0) (by unfold xService; rw [if_pos hq.1, if_pos hq.2]) hob (fun _ => ⟨rfl, (by omega)⟩)⟩

abbrev rL_addUsual : Room := { frames := 9, cells := 6, slots := 63, locals := 234 }
set_option maxRecDepth 100000 in
set_option maxHeartbeats 4000000 in
theorem c_L_addUsual {l : Launch} (hfl : l.stackTraces = false) (G : zG) {s t : zS} {o : zOx} (hc : zC1 s) (hb9 : zB s) (hI : zInv s) (hob : ∀ m, o.2 m = 0 ∨ o.2 m = 1) {a : Int} (ha : zR a)  : zCn l G yL_addUsual (.codeWith yL_addUsual cL_addUsual 4 (some .int) [(0, 9, 12, 13), (0, 9, 15, 15)]) rL_addUsual [.ref 0, .int (zI a), .ref 33] (zAll s t o) (zRi (zV t o (xUsual s a))) zN := by
  refine zStartH hfl (by decide) (own := RL) rfl [(0, .ref 0), (1, .int (zI a)), (2, .ref 33)] (Nat.le_of_ble_eq_true rfl) rfl (fun k hkl hinit hk0 F => ?_)
  have hn0 := hc.1
  have hn4 := hc.2.1
  have hn9 := hc.2.2.1
  have hn14 := hc.2.2.2.1
  have hn18 := hc.2.2.2.2.1
  refine z_aload_n F 2 dL_addUsual_0 rfl rfl ?_
  refine z_iconst (z := 0) F dL_addUsual_1 (by decide) ?_
  refine z_aload_n F 0 dL_addUsual_2 rfl rfl ?_
  refine z_iload_n F 1 dL_addUsual_3 rfl rfl ?_
  refine z_callV F [.int (zI a)] [.int (zI 0), .ref 33] (c_X6_addUsual F.2.2.1 G (s := s) (t := t) (o := o) hc hb9 ha hI) cv_L_26 (zAll_0 s t o) rfl rfl rfl ⟨by decide, by decide⟩ ⟨by decide, by decide⟩ (Nat.le_of_ble_eq_true rfl) dL_addUsual_4 (fun E M9 h9 => by
      rcases h9 with ⟨⟨e1, e2⟩ | ⟨e1, e2, e3⟩, e4⟩
      · subst e1
        subst e4
        exact z_catch_n (z := 1) (i := 3) F (tableOf []) ⟨0, 9, 12, 13⟩ (tableOf [(0, 9, 15, 15)]) rfl (fun _ h => absurd h List.not_mem_nil) (by decide) (by decide) (zr_4 _ (List.mem_of_getElem? (i := 6) rfl)) (List.mem_of_getElem? (i := 4) rfl) rfl (by decide) dL_addUsual_12 dL_addUsual_13 (by decide) dL_addUsual_14 rfl (by first | decide | assumption | omega) (by first | decide | assumption | omega) ⟨_, rfl, zV_of (k := 1) (v := 0) (q := o.1) (c9 := o.2) (by unfold xUsual; rw [if_neg e2]) hob (fun h => absurd h (by decide))⟩
      · subst e1
        subst e4
        exact z_catch_n (z := 2) (i := 3) F (tableOf [(0, 9, 12, 13)]) ⟨0, 9, 15, 15⟩ (tableOf []) rfl (List.forall_mem_cons.mpr ⟨⟨by decide, "java/lang/IllegalArgumentException", zr_4 _ (List.mem_of_getElem? (i := 6) rfl), List.mem_of_getElem? (i := 0) rfl⟩, (fun _ h => absurd h List.not_mem_nil)⟩) (by decide) (by decide) (zr_4 _ (List.mem_of_getElem? (i := 7) rfl)) (List.mem_of_getElem? (i := 5) rfl) rfl (by decide) dL_addUsual_15 dL_addUsual_16 (by decide) dL_addUsual_17 rfl (by first | decide | assumption | omega) (by first | decide | assumption | omega) ⟨_, rfl, zV_of (k := 2) (v := 0) (q := o.1) (c9 := o.2) (by unfold xUsual; rw [if_pos e2, if_neg e3]) hob (fun h => absurd h (by decide))⟩) (z_ki (fun x_1 M_1 h_1 => ?_))
  obtain ⟨hq, hx9, hm9⟩ := h_1
  subst hx9
  subst hm9
  refine z_i2l F (by omega) dL_addUsual_7 ?_
  refine z_last F (zAll_33 (zUs (zOpN s) (s 4 0 0).toNat a) t o) (by decide) (by decide) (by decide) dL_addUsual_8 ?_
  have hm_2_s := zu_s (zAll (zUs (zOpN s) (s 4 0 0).toNat a) t o) 33 (zAi 2 1 (zup ((fun _ => o.1)) (0 : Int).toNat (s 4 0 0)))
  refine z_ext (fun _ => s 4 0 0) (zu_s _ _ _) (fun j hj => if_pos (by omega)) ?_
  refine z_M (M' := (zAll (zUs (zOpN s) (s 4 0 0).toNat a) t (s 4 0 0, o.2))) (by rw [zu_zu, zMH_33]) ?_
  refine z_goto F 18 dL_addUsual_9 (by decide) ?_
  refine z_iconst (z := 0) F dL_addUsual_18 (by decide) ?_
  exact z_reti F rfl (by first | decide | assumption | omega) (by first | decide | assumption | omega) dL_addUsual_19 ⟨_, rfl, zV_of (k := 0) (v := s 4 0 0) (by unfold xUsual; rw [if_pos hq.1, if_pos hq.2]) hob (fun _ => ⟨rfl, (by omega)⟩)⟩

abbrev rL_addStep : Room := { frames := 8, cells := 3, slots := 18, locals := 137 }
set_option maxRecDepth 100000 in
set_option maxHeartbeats 4000000 in
theorem c_L_addStep {l : Launch} (hfl : l.stackTraces = false) (G : zG) {s t : zS} {o : zOx} (hc : zC1 s) (hb9 : zB s) (hI : zInv s) (hob : ∀ m, o.2 m = 0 ∨ o.2 m = 1) {a b d : Int} (ha : zR a) (hb : zR b) (hd : zR d)  : zCn l G yL_addStep (.codeWith yL_addStep cL_addStep 6 (some .int) [(0, 12, 15, 24), (0, 12, 19, 13), (0, 12, 23, 15)]) rL_addStep [.ref 0, .int (zI a), .int (zI b), .int (zI d), .ref 33] (zAll s t o) (zRi (zV t o (xStep s a b d))) zN := by
  refine zStartH hfl (by decide) (own := RL) rfl [(0, .ref 0), (1, .int (zI a)), (2, .int (zI b)), (3, .int (zI d)), (4, .ref 33)] (Nat.le_of_ble_eq_true rfl) rfl (fun k hkl hinit hk0 F => ?_)
  have hn0 := hc.1
  have hn4 := hc.2.1
  have hn9 := hc.2.2.1
  have hn14 := hc.2.2.2.1
  have hn18 := hc.2.2.2.2.1
  refine z_aload F 4 dL_addStep_0 rfl ?_
  refine z_iconst (z := 0) F dL_addStep_2 (by decide) ?_
  refine z_aload_n F 0 dL_addStep_3 rfl rfl ?_
  refine z_iload_n F 1 dL_addStep_4 rfl rfl ?_
  refine z_iload_n F 2 dL_addStep_5 rfl rfl ?_
  refine z_iload_n F 3 dL_addStep_6 rfl rfl ?_
  refine z_callV F [.int (zI a), .int (zI b), .int (zI d)] [.int (zI 0), .ref 33] (c_X6_addStep F.2.2.1 G (s := s) (t := t) (o := o) hc hb9 ha hb hd hI) cv_L_21 (zAll_0 s t o) rfl rfl rfl ⟨by decide, by decide⟩ ⟨by decide, by decide⟩ (Nat.le_of_ble_eq_true rfl) dL_addStep_7 (fun E M9 h9 => by
      rcases h9 with ⟨⟨e1, e2⟩ | ⟨e1, e2, e3⟩ | ⟨e1, e2, e3, e5⟩, e4⟩
      · subst e1
        subst e4
        exact z_catch (z := 1) (i := 5) F (tableOf []) ⟨0, 12, 15, 24⟩ (tableOf [(0, 12, 19, 13), (0, 12, 23, 15)]) rfl (fun _ h => absurd h List.not_mem_nil) (by decide) (by decide) (zr_10 _ (List.mem_of_getElem? (i := 15) rfl)) (List.mem_of_getElem? (i := 6) rfl) (by decide) dL_addStep_15 dL_addStep_17 (by decide) dL_addStep_18 rfl (by first | decide | assumption | omega) (by first | decide | assumption | omega) ⟨_, rfl, zV_of (k := 1) (v := 0) (q := o.1) (c9 := o.2) (by unfold xStep; rw [if_neg e2]) hob (fun h => absurd h (by decide))⟩
      · subst e1
        subst e4
        exact z_catch (z := 2) (i := 5) F (tableOf [(0, 12, 15, 24)]) ⟨0, 12, 19, 13⟩ (tableOf [(0, 12, 23, 15)]) rfl (List.forall_mem_cons.mpr ⟨⟨by decide, "java/lang/IndexOutOfBoundsException", zr_10 _ (List.mem_of_getElem? (i := 15) rfl), List.mem_of_getElem? (i := 1) rfl⟩, (fun _ h => absurd h List.not_mem_nil)⟩) (by decide) (by decide) (zr_4 _ (List.mem_of_getElem? (i := 6) rfl)) (List.mem_of_getElem? (i := 4) rfl) (by decide) dL_addStep_19 dL_addStep_21 (by decide) dL_addStep_22 rfl (by first | decide | assumption | omega) (by first | decide | assumption | omega) ⟨_, rfl, zV_of (k := 2) (v := 0) (q := o.1) (c9 := o.2) (by unfold xStep; rw [if_pos e2, if_neg e3]) hob (fun h => absurd h (by decide))⟩
      · subst e1
        subst e4
        exact z_catch (z := 3) (i := 5) F (tableOf [(0, 12, 15, 24), (0, 12, 19, 13)]) ⟨0, 12, 23, 15⟩ (tableOf []) rfl (List.forall_mem_cons.mpr ⟨⟨by decide, "java/lang/IndexOutOfBoundsException", zr_10 _ (List.mem_of_getElem? (i := 15) rfl), List.mem_of_getElem? (i := 2) rfl⟩, (List.forall_mem_cons.mpr ⟨⟨by decide, "java/lang/IllegalArgumentException", zr_4 _ (List.mem_of_getElem? (i := 6) rfl), List.mem_of_getElem? (i := 0) rfl⟩, (fun _ h => absurd h List.not_mem_nil)⟩)⟩) (by decide) (by decide) (zr_4 _ (List.mem_of_getElem? (i := 7) rfl)) (List.mem_of_getElem? (i := 5) rfl) (by decide) dL_addStep_23 dL_addStep_25 (by decide) dL_addStep_26 rfl (by first | decide | assumption | omega) (by first | decide | assumption | omega) ⟨_, rfl, zV_of (k := 3) (v := 0) (q := o.1) (c9 := o.2) (by unfold xStep; rw [if_pos e2, if_pos e3, if_neg e5]) hob (fun h => absurd h (by decide))⟩) (z_ki (fun x_1 M_1 h_1 => ?_))
  obtain ⟨hq, hx9, hm9⟩ := h_1
  subst hx9
  subst hm9
  refine z_i2l F (by have := hc.2.2.2.2.2.2.2.1 a.toNat; omega) dL_addStep_10 ?_
  refine z_last F (zAll_33 (zOpP s a.toNat b d) t o) (by decide) (by decide) (by decide) dL_addStep_11 ?_
  have hm_2_s := zu_s (zAll (zOpP s a.toNat b d) t o) 33 (zAi 2 1 (zup ((fun _ => o.1)) (0 : Int).toNat (s 5 a.toNat 0 + 1)))
  refine z_ext (fun _ => s 5 a.toNat 0 + 1) (zu_s _ _ _) (fun j hj => if_pos (by omega)) ?_
  refine z_M (M' := (zAll (zOpP s a.toNat b d) t (s 5 a.toNat 0 + 1, o.2))) (by rw [zu_zu, zMH_33]) ?_
  refine z_goto F 27 dL_addStep_12 (by decide) ?_
  refine z_iconst (z := 0) F dL_addStep_27 (by decide) ?_
  exact z_reti F rfl (by first | decide | assumption | omega) (by first | decide | assumption | omega) dL_addStep_28 ⟨_, rfl, zV_of (k := 0) (v := s 5 a.toNat 0 + 1) (by unfold xStep; rw [if_pos hq.1, if_pos hq.2.1, if_pos hq.2.2]) hob (fun _ => ⟨rfl, (by have := hc.2.2.2.2.2.2.2.1 a.toNat; omega)⟩)⟩

abbrev rL_book : Room := { frames := 10, cells := 6, slots := 62, locals := 261 }
set_option maxRecDepth 100000 in
set_option maxHeartbeats 4000000 in
theorem c_L_book {l : Launch} (hfl : l.stackTraces = false) (G : zG) {s t : zS} {o : zOx} (hc : zC1 s) (hb9 : zB s) (hI : zInv s) (hob : ∀ m, o.2 m = 0 ∨ o.2 m = 1) {a x : Int} (ha : zR a) (hx : zR x)  : zCn l G yL_book (.codeWith yL_book cL_book 5 (some .int) [(0, 10, 13, 24), (0, 10, 17, 15), (0, 10, 21, 33)]) rL_book [.ref 0, .int (zI a), .int (zI x), .ref 33] (zAll s t o) (zRi (zV t o (xBook s a x))) zN := by
  refine zStartH hfl (by decide) (own := RL) rfl [(0, .ref 0), (1, .int (zI a)), (2, .int (zI x)), (3, .ref 33)] (Nat.le_of_ble_eq_true rfl) rfl (fun k hkl hinit hk0 F => ?_)
  have hn0 := hc.1
  have hn4 := hc.2.1
  have hn9 := hc.2.2.1
  have hn14 := hc.2.2.2.1
  have hn18 := hc.2.2.2.2.1
  refine z_aload_n F 3 dL_book_0 rfl rfl ?_
  refine z_iconst (z := 0) F dL_book_1 (by decide) ?_
  refine z_aload_n F 0 dL_book_2 rfl rfl ?_
  refine z_iload_n F 1 dL_book_3 rfl rfl ?_
  refine z_iload_n F 2 dL_book_4 rfl rfl ?_
  refine z_callV F [.int (zI a), .int (zI x)] [.int (zI 0), .ref 33] (c_X6_book F.2.2.1 G (s := s) (t := t) (o := o) hc hb9 ha hx hI) cv_L_30 (zAll_0 s t o) rfl rfl rfl ⟨by decide, by decide⟩ ⟨by decide, by decide⟩ (Nat.le_of_ble_eq_true rfl) dL_book_5 (fun E M9 h9 => by
      rcases h9 with ⟨e1, e2, e4⟩ | ⟨e1, e2, e3, e4⟩ | ⟨e1, e2, e3, c9, e4, e5⟩
      · subst e1
        subst e4
        exact z_catch (z := 1) (i := 4) F (tableOf []) ⟨0, 10, 13, 24⟩ (tableOf [(0, 10, 17, 15), (0, 10, 21, 33)]) rfl (fun _ h => absurd h List.not_mem_nil) (by decide) (by decide) (zr_10 _ (List.mem_of_getElem? (i := 15) rfl)) (List.mem_of_getElem? (i := 6) rfl) (by decide) dL_book_13 dL_book_15 (by decide) dL_book_16 rfl (by first | decide | assumption | omega) (by first | decide | assumption | omega) ⟨_, rfl, zV_of (k := 1) (v := 0) (q := o.1) (c9 := o.2) (by unfold xBook; rw [if_neg e2]) hob (fun h => absurd h (by decide))⟩
      · subst e1
        subst e4
        exact z_catch (z := 2) (i := 4) F (tableOf [(0, 10, 13, 24)]) ⟨0, 10, 17, 15⟩ (tableOf [(0, 10, 21, 33)]) rfl (List.forall_mem_cons.mpr ⟨⟨by decide, "java/lang/IndexOutOfBoundsException", zr_10 _ (List.mem_of_getElem? (i := 15) rfl), List.mem_of_getElem? (i := 2) rfl⟩, (fun _ h => absurd h List.not_mem_nil)⟩) (by decide) (by decide) (zr_4 _ (List.mem_of_getElem? (i := 7) rfl)) (List.mem_of_getElem? (i := 5) rfl) (by decide) dL_book_17 dL_book_19 (by decide) dL_book_20 rfl (by first | decide | assumption | omega) (by first | decide | assumption | omega) ⟨_, rfl, zV_of (k := 2) (v := 0) (q := o.1) (c9 := o.2) (by unfold xBook; rw [if_pos e2, if_neg e3]) hob (fun h => absurd h (by decide))⟩
      · subst e1
        subst e4
        exact z_catch (z := 3) (i := 4) F (tableOf [(0, 10, 13, 24), (0, 10, 17, 15)]) ⟨0, 10, 21, 33⟩ (tableOf []) rfl (List.forall_mem_cons.mpr ⟨⟨by decide, "java/lang/IndexOutOfBoundsException", zr_10 _ (List.mem_of_getElem? (i := 15) rfl), List.mem_of_getElem? (i := 3) rfl⟩, (List.forall_mem_cons.mpr ⟨⟨by decide, "java/lang/IllegalStateException", zr_4 _ (List.mem_of_getElem? (i := 7) rfl), List.mem_of_getElem? (i := 4) rfl⟩, (fun _ h => absurd h List.not_mem_nil)⟩)⟩) (by decide) (by decide) (zr_12 _ (List.mem_of_getElem? (i := 22) rfl)) (List.mem_of_getElem? (i := 7) rfl) (by decide) dL_book_21 dL_book_23 (by decide) dL_book_24 rfl (by first | decide | assumption | omega) (by first | decide | assumption | omega) ⟨_, rfl, zV_of (k := 3) (v := 0) (q := o.1) (c9 := c9) (by unfold xBook; rw [if_pos e2.1, if_pos e2.2, if_pos e3]) e5 (fun h => absurd h (by decide))⟩) (z_ki (fun x_1 M_1 h_1 => ?_))
  obtain ⟨hq, hq7, hx9, ck, hm9, hk1⟩ := h_1
  subst hx9
  subst hm9
  refine z_i2l F (by omega) dL_book_8 ?_
  refine z_last F (zAll_33 (zOpB s a.toNat (zGet s (zBit 31) a.toNat (zFind s (zBit 31) a.toNat x 600)) (zChair s a.toNat (zFind s (zBit 31) a.toNat x 600)) (zFind s (zBit 31) a.toNat x 600)) t (o.1, ck)) (by decide) (by decide) (by decide) dL_book_9 ?_
  have hm_2_s := zu_s (zAll (zOpB s a.toNat (zGet s (zBit 31) a.toNat (zFind s (zBit 31) a.toNat x 600)) (zChair s a.toNat (zFind s (zBit 31) a.toNat x 600)) (zFind s (zBit 31) a.toNat x 600)) t (o.1, ck)) 33 (zAi 2 1 (zup ((fun _ => (o.1, ck).1)) (0 : Int).toNat (s 9 0 0)))
  refine z_ext (fun _ => s 9 0 0) (zu_s _ _ _) (fun j hj => if_pos (by omega)) ?_
  refine z_M (M' := (zAll (zOpB s a.toNat (zGet s (zBit 31) a.toNat (zFind s (zBit 31) a.toNat x 600)) (zChair s a.toNat (zFind s (zBit 31) a.toNat x 600)) (zFind s (zBit 31) a.toNat x 600)) t (s 9 0 0, ck))) (by rw [zu_zu, zMH_33]) ?_
  refine z_goto F 25 dL_book_10 (by decide) ?_
  refine z_iconst (z := 0) F dL_book_25 (by decide) ?_
  exact z_reti F rfl (by first | decide | assumption | omega) (by first | decide | assumption | omega) dL_book_26 ⟨_, rfl, zV_of (k := 0) (v := s 9 0 0) (by unfold xBook; rw [if_pos hq.1, if_pos hq.2, if_neg hq7]) hk1 (fun _ => ⟨rfl, (by omega)⟩)⟩

abbrev rL_bookWith : Room := { frames := 10, cells := 7, slots := 68, locals := 262 }
set_option maxRecDepth 100000 in
set_option maxHeartbeats 4000000 in
theorem c_L_bookWith {l : Launch} (hfl : l.stackTraces = false) (G : zG) {s t : zS} {o : zOx} (hc : zC1 s) (hb9 : zB s) (hI : zInv s) (hob : ∀ m, o.2 m = 0 ∨ o.2 m = 1) {a w x : Int} (ha : zR a) (hw : zR w) (hx : zR x)  : zCn l G yL_bookWith (.codeWith yL_bookWith cL_bookWith 6 (some .int) [(0, 12, 15, 24), (0, 12, 19, 15), (0, 12, 23, 33)]) rL_bookWith [.ref 0, .int (zI a), .int (zI w), .int (zI x), .ref 33] (zAll s t o) (zRi (zV t o (xBookW s a w x))) zN := by
  refine zStartH hfl (by decide) (own := RL) rfl [(0, .ref 0), (1, .int (zI a)), (2, .int (zI w)), (3, .int (zI x)), (4, .ref 33)] (Nat.le_of_ble_eq_true rfl) rfl (fun k hkl hinit hk0 F => ?_)
  have hn0 := hc.1
  have hn4 := hc.2.1
  have hn9 := hc.2.2.1
  have hn14 := hc.2.2.2.1
  have hn18 := hc.2.2.2.2.1
  refine z_aload F 4 dL_bookWith_0 rfl ?_
  refine z_iconst (z := 0) F dL_bookWith_2 (by decide) ?_
  refine z_aload_n F 0 dL_bookWith_3 rfl rfl ?_
  refine z_iload_n F 1 dL_bookWith_4 rfl rfl ?_
  refine z_iload_n F 2 dL_bookWith_5 rfl rfl ?_
  refine z_iload_n F 3 dL_bookWith_6 rfl rfl ?_
  refine z_callV F [.int (zI a), .int (zI w), .int (zI x)] [.int (zI 0), .ref 33] (c_X6_bookWith F.2.2.1 G (s := s) (t := t) (o := o) hc hb9 ha hw hx hI) cv_L_35 (zAll_0 s t o) rfl rfl rfl ⟨by decide, by decide⟩ ⟨by decide, by decide⟩ (Nat.le_of_ble_eq_true rfl) dL_bookWith_7 (fun E M9 h9 => by
      rcases h9 with ⟨e1, e2, e4⟩ | ⟨e1, e2, e3, e4⟩ | ⟨e1, e2, e3, c9, e4, e5⟩
      · subst e1
        subst e4
        exact z_catch (z := 1) (i := 5) F (tableOf []) ⟨0, 12, 15, 24⟩ (tableOf [(0, 12, 19, 15), (0, 12, 23, 33)]) rfl (fun _ h => absurd h List.not_mem_nil) (by decide) (by decide) (zr_10 _ (List.mem_of_getElem? (i := 15) rfl)) (List.mem_of_getElem? (i := 6) rfl) (by decide) dL_bookWith_15 dL_bookWith_17 (by decide) dL_bookWith_18 rfl (by first | decide | assumption | omega) (by first | decide | assumption | omega) ⟨_, rfl, zV_of (k := 1) (v := 0) (q := o.1) (c9 := o.2) (by unfold xBookW; rw [if_neg e2]) hob (fun h => absurd h (by decide))⟩
      · subst e1
        subst e4
        exact z_catch (z := 2) (i := 5) F (tableOf [(0, 12, 15, 24)]) ⟨0, 12, 19, 15⟩ (tableOf [(0, 12, 23, 33)]) rfl (List.forall_mem_cons.mpr ⟨⟨by decide, "java/lang/IndexOutOfBoundsException", zr_10 _ (List.mem_of_getElem? (i := 15) rfl), List.mem_of_getElem? (i := 2) rfl⟩, (fun _ h => absurd h List.not_mem_nil)⟩) (by decide) (by decide) (zr_4 _ (List.mem_of_getElem? (i := 7) rfl)) (List.mem_of_getElem? (i := 5) rfl) (by decide) dL_bookWith_19 dL_bookWith_21 (by decide) dL_bookWith_22 rfl (by first | decide | assumption | omega) (by first | decide | assumption | omega) ⟨_, rfl, zV_of (k := 2) (v := 0) (q := o.1) (c9 := o.2) (by unfold xBookW; rw [if_pos e2, if_neg e3]) hob (fun h => absurd h (by decide))⟩
      · subst e1
        subst e4
        exact z_catch (z := 3) (i := 5) F (tableOf [(0, 12, 15, 24), (0, 12, 19, 15)]) ⟨0, 12, 23, 33⟩ (tableOf []) rfl (List.forall_mem_cons.mpr ⟨⟨by decide, "java/lang/IndexOutOfBoundsException", zr_10 _ (List.mem_of_getElem? (i := 15) rfl), List.mem_of_getElem? (i := 3) rfl⟩, (List.forall_mem_cons.mpr ⟨⟨by decide, "java/lang/IllegalStateException", zr_4 _ (List.mem_of_getElem? (i := 7) rfl), List.mem_of_getElem? (i := 4) rfl⟩, (fun _ h => absurd h List.not_mem_nil)⟩)⟩) (by decide) (by decide) (zr_12 _ (List.mem_of_getElem? (i := 22) rfl)) (List.mem_of_getElem? (i := 7) rfl) (by decide) dL_bookWith_23 dL_bookWith_25 (by decide) dL_bookWith_26 rfl (by first | decide | assumption | omega) (by first | decide | assumption | omega) ⟨_, rfl, zV_of (k := 3) (v := 0) (q := o.1) (c9 := c9) (by unfold xBookW; rw [if_pos e2.1, if_pos e2.2, if_pos e3]) e5 (fun h => absurd h (by decide))⟩) (z_ki (fun x_1 M_1 h_1 => ?_))
  obtain ⟨hq, hq7, hx9, ck, hm9, hk1⟩ := h_1
  subst hx9
  subst hm9
  refine z_i2l F (by omega) dL_bookWith_10 ?_
  refine z_last F (zAll_33 (zOpB s a.toNat (zGet s (zBit (2 ^ w.toNat)) a.toNat (zFind s (zBit (2 ^ w.toNat)) a.toNat x 600)) (zChair s a.toNat (zFind s (zBit (2 ^ w.toNat)) a.toNat x 600)) (zFind s (zBit (2 ^ w.toNat)) a.toNat x 600)) t (o.1, ck)) (by decide) (by decide) (by decide) dL_bookWith_11 ?_
  have hm_2_s := zu_s (zAll (zOpB s a.toNat (zGet s (zBit (2 ^ w.toNat)) a.toNat (zFind s (zBit (2 ^ w.toNat)) a.toNat x 600)) (zChair s a.toNat (zFind s (zBit (2 ^ w.toNat)) a.toNat x 600)) (zFind s (zBit (2 ^ w.toNat)) a.toNat x 600)) t (o.1, ck)) 33 (zAi 2 1 (zup ((fun _ => (o.1, ck).1)) (0 : Int).toNat (s 9 0 0)))
  refine z_ext (fun _ => s 9 0 0) (zu_s _ _ _) (fun j hj => if_pos (by omega)) ?_
  refine z_M (M' := (zAll (zOpB s a.toNat (zGet s (zBit (2 ^ w.toNat)) a.toNat (zFind s (zBit (2 ^ w.toNat)) a.toNat x 600)) (zChair s a.toNat (zFind s (zBit (2 ^ w.toNat)) a.toNat x 600)) (zFind s (zBit (2 ^ w.toNat)) a.toNat x 600)) t (s 9 0 0, ck))) (by rw [zu_zu, zMH_33]) ?_
  refine z_goto F 27 dL_bookWith_12 (by decide) ?_
  refine z_iconst (z := 0) F dL_bookWith_27 (by decide) ?_
  exact z_reti F rfl (by first | decide | assumption | omega) (by first | decide | assumption | omega) dL_bookWith_28 ⟨_, rfl, zV_of (k := 0) (v := s 9 0 0) (by unfold xBookW; rw [if_pos hq.1, if_pos hq.2, if_neg hq7]) hk1 (fun _ => ⟨rfl, (by omega)⟩)⟩

abbrev rL_move : Room := { frames := 10, cells := 22, slots := 270, locals := 269 }
set_option maxRecDepth 100000 in
set_option maxHeartbeats 4000000 in
theorem c_L_move {l : Launch} (hfl : l.stackTraces = false) (G : zG) {s t : zS} {o : zOx} (hc : zC1 s) (hb9 : zB s) (hI : zInv s) (hob : ∀ m, o.2 m = 0 ∨ o.2 m = 1) {a x : Int} (ha : zR a) (hx : zR x)  : zCn l G yL_move (.codeWith yL_move cL_move 5 (some .int) [(0, 10, 13, 24), (0, 10, 17, 33)]) rL_move [.ref 0, .int (zI a), .int (zI x), .ref 33] (zAll s t o) (zRi (zV t o (xMove s a x))) zN := by
  refine zStartH hfl (by decide) (own := RL) rfl [(0, .ref 0), (1, .int (zI a)), (2, .int (zI x)), (3, .ref 33)] (Nat.le_of_ble_eq_true rfl) rfl (fun k hkl hinit hk0 F => ?_)
  have hn0 := hc.1
  have hn4 := hc.2.1
  have hn9 := hc.2.2.1
  have hn14 := hc.2.2.2.1
  have hn18 := hc.2.2.2.2.1
  refine z_aload_n F 3 dL_move_0 rfl rfl ?_
  refine z_iconst (z := 0) F dL_move_1 (by decide) ?_
  refine z_aload_n F 0 dL_move_2 rfl rfl ?_
  refine z_iload_n F 1 dL_move_3 rfl rfl ?_
  refine z_iload_n F 2 dL_move_4 rfl rfl ?_
  refine z_callV F [.int (zI a), .int (zI x)] [.int (zI 0), .ref 33] (c_X6_move F.2.2.1 G (s := s) (t := t) (o := o) hc hb9 ha hx hI hob) cv_L_38 (zAll_0 s t o) rfl rfl rfl ⟨by decide, by decide⟩ ⟨by decide, by decide⟩ (Nat.le_of_ble_eq_true rfl) dL_move_5 (fun E M9 h9 => by
      rcases h9 with ⟨e1, e2, e4⟩ | ⟨e1, e2, e3, c9, e4, e5⟩
      · subst e1
        subst e4
        exact z_catch (z := 1) (i := 4) F (tableOf []) ⟨0, 10, 13, 24⟩ (tableOf [(0, 10, 17, 33)]) rfl (fun _ h => absurd h List.not_mem_nil) (by decide) (by decide) (zr_10 _ (List.mem_of_getElem? (i := 15) rfl)) (List.mem_of_getElem? (i := 6) rfl) (by decide) dL_move_13 dL_move_15 (by decide) dL_move_16 rfl (by first | decide | assumption | omega) (by first | decide | assumption | omega) ⟨_, rfl, zV_of (k := 1) (v := 0) (q := o.1) (c9 := o.2) (by unfold xMove; rw [if_neg e2]) hob (fun h => absurd h (by decide))⟩
      · subst e1
        rw [zOp_back hI (by omega) e2.1.2] at e4
        subst e4
        exact z_catch (z := 2) (i := 4) F (tableOf [(0, 10, 13, 24)]) ⟨0, 10, 17, 33⟩ (tableOf []) rfl (List.forall_mem_cons.mpr ⟨⟨by decide, "java/lang/IndexOutOfBoundsException", zr_10 _ (List.mem_of_getElem? (i := 15) rfl), List.mem_of_getElem? (i := 3) rfl⟩, (fun _ h => absurd h List.not_mem_nil)⟩) (by decide) (by decide) (zr_12 _ (List.mem_of_getElem? (i := 22) rfl)) (List.mem_of_getElem? (i := 7) rfl) (by decide) dL_move_17 dL_move_19 (by decide) dL_move_20 rfl (by first | decide | assumption | omega) (by first | decide | assumption | omega) ⟨_, rfl, zV_of (k := 2) (v := 0) (q := o.1) (c9 := c9) (by unfold xMove; rw [if_pos e2, if_pos e3]) e5 (fun h => absurd h (by decide))⟩) (z_ki (fun x_1 M_1 h_1 => ?_))
  obtain ⟨hq, hq7, hx9, ck, hm9, hk1⟩ := h_1
  subst hx9
  subst hm9
  refine z_i2l F (by have hfr9 := zFind_r (zOpO s a.toNat) (zBit 31) (s 10 a.toNat 0).toNat x 600; have hln : 0 ≤ zLen (zOpO s a.toNat) (s 10 a.toNat 0).toNat := (hc.len (s 10 a.toNat 0).toNat).1; constructor <;> (rcases hfr9 with h9 | h9 <;> omega)) dL_move_8 ?_
  refine z_last F (zAll_33 (zSrv (zOpL (zOpO s a.toNat) a.toNat (zGet (zOpO s a.toNat) (zBit 31) (s 10 a.toNat 0).toNat (zFind (zOpO s a.toNat) (zBit 31) (s 10 a.toNat 0).toNat x 600)) (zChair (zOpO s a.toNat) (s 10 a.toNat 0).toNat (zFind (zOpO s a.toNat) (zBit 31) (s 10 a.toNat 0).toNat x 600)) (zFind (zOpO s a.toNat) (zBit 31) (s 10 a.toNat 0).toNat x 600))).1 t (o.1, ck)) (by decide) (by decide) (by decide) dL_move_9 ?_
  have hm_2_s := zu_s (zAll (zSrv (zOpL (zOpO s a.toNat) a.toNat (zGet (zOpO s a.toNat) (zBit 31) (s 10 a.toNat 0).toNat (zFind (zOpO s a.toNat) (zBit 31) (s 10 a.toNat 0).toNat x 600)) (zChair (zOpO s a.toNat) (s 10 a.toNat 0).toNat (zFind (zOpO s a.toNat) (zBit 31) (s 10 a.toNat 0).toNat x 600)) (zFind (zOpO s a.toNat) (zBit 31) (s 10 a.toNat 0).toNat x 600))).1 t (o.1, ck)) 33 (zAi 2 1 (zup ((fun _ => (o.1, ck).1)) (0 : Int).toNat ((zFind (zOpO s a.toNat) (zBit 31) (s 10 a.toNat 0).toNat x 600))))
  refine z_ext (fun _ => (zFind (zOpO s a.toNat) (zBit 31) (s 10 a.toNat 0).toNat x 600)) (zu_s _ _ _) (fun j hj => if_pos (by omega)) ?_
  refine z_M (M' := (zAll (zSrv (zOpL (zOpO s a.toNat) a.toNat (zGet (zOpO s a.toNat) (zBit 31) (s 10 a.toNat 0).toNat (zFind (zOpO s a.toNat) (zBit 31) (s 10 a.toNat 0).toNat x 600)) (zChair (zOpO s a.toNat) (s 10 a.toNat 0).toNat (zFind (zOpO s a.toNat) (zBit 31) (s 10 a.toNat 0).toNat x 600)) (zFind (zOpO s a.toNat) (zBit 31) (s 10 a.toNat 0).toNat x 600))).1 t ((zFind (zOpO s a.toNat) (zBit 31) (s 10 a.toNat 0).toNat x 600), ck))) (by rw [zu_zu, zMH_33]) ?_
  refine z_goto F 21 dL_move_10 (by decide) ?_
  refine z_iconst (z := 0) F dL_move_21 (by decide) ?_
  exact z_reti F rfl (by first | decide | assumption | omega) (by first | decide | assumption | omega) dL_move_22 ⟨_, rfl, zV_of (k := 0) (v := (zFind (zOpO s a.toNat) (zBit 31) (s 10 a.toNat 0).toNat x 600)) (by unfold xMove; rw [if_pos hq, if_neg hq7]) hk1 (fun _ => ⟨rfl, (by have hfr9 := zFind_r (zOpO s a.toNat) (zBit 31) (s 10 a.toNat 0).toNat x 600; have hln : 0 ≤ zLen (zOpO s a.toNat) (s 10 a.toNat 0).toNat := (hc.len (s 10 a.toNat 0).toNat).1; constructor <;> (rcases hfr9 with h9 | h9 <;> omega))⟩)⟩

abbrev rL_drop : Room := { frames := 10, cells := 20, slots := 260, locals := 263 }
set_option maxRecDepth 100000 in
set_option maxHeartbeats 4000000 in
theorem c_L_drop {l : Launch} (hfl : l.stackTraces = false) (G : zG) {s t : zS} {o : zOx} (hc : zC1 s) (hb9 : zB s) (hI : zInv s) (hob : ∀ m, o.2 m = 0 ∨ o.2 m = 1) {a : Int} (ha : zR a)  : zCn l G yL_drop (.codeWith yL_drop cL_drop 4 (some .int) [(0, 9, 12, 24)]) rL_drop [.ref 0, .int (zI a), .ref 33] (zAll s t o) (zRi (zV t o (xDrop s a))) zN := by
  refine zStartH hfl (by decide) (own := RL) rfl [(0, .ref 0), (1, .int (zI a)), (2, .ref 33)] (Nat.le_of_ble_eq_true rfl) rfl (fun k hkl hinit hk0 F => ?_)
  have hn0 := hc.1
  have hn4 := hc.2.1
  have hn9 := hc.2.2.1
  have hn14 := hc.2.2.2.1
  have hn18 := hc.2.2.2.2.1
  refine z_aload_n F 2 dL_drop_0 rfl rfl ?_
  refine z_iconst (z := 0) F dL_drop_1 (by decide) ?_
  refine z_aload_n F 0 dL_drop_2 rfl rfl ?_
  refine z_iload_n F 1 dL_drop_3 rfl rfl ?_
  refine z_callV F [.int (zI a)] [.int (zI 0), .ref 33] (c_X6_drop F.2.2.1 G (s := s) (t := t) (o := o) hc hb9 ha hI hob) cv_L_41 (zAll_0 s t o) rfl rfl rfl ⟨by decide, by decide⟩ ⟨by decide, by decide⟩ (Nat.le_of_ble_eq_true rfl) dL_drop_4 (fun E M9 h9 => by
      obtain ⟨e1, e2, e4⟩ := h9
      · subst e1
        subst e4
        exact z_catch_n (z := 1) (i := 3) F (tableOf []) ⟨0, 9, 12, 24⟩ (tableOf []) rfl (fun _ h => absurd h List.not_mem_nil) (by decide) (by decide) (zr_10 _ (List.mem_of_getElem? (i := 15) rfl)) (List.mem_of_getElem? (i := 6) rfl) rfl (by decide) dL_drop_12 dL_drop_13 (by decide) dL_drop_14 rfl (by first | decide | assumption | omega) (by first | decide | assumption | omega) ⟨_, rfl, zV_of (k := 1) (v := 0) (q := o.1) (c9 := o.2) (by unfold xDrop; rw [if_neg e2]) hob (fun h => absurd h (by decide))⟩) (z_ki (fun x_1 M_1 h_1 => ?_))
  obtain ⟨hq, hx9, ck, hm9, hk1⟩ := h_1
  subst hx9
  subst hm9
  refine z_i2l F (by have h9 : 0 ≤ (zSrv (zOpO s a.toNat)).2 ∧ (zSrv (zOpO s a.toNat)).2 ≤ 0 + (((zOpO s a.toNat) 14 0 0).toNat : Nat) := zSw_r _ _ _ _; have e14 : (zOpO s a.toNat) 14 0 0 = s 14 0 0 := rfl; constructor <;> omega) dL_drop_7 ?_
  refine z_last F (zAll_33 (zSrv (zOpO s a.toNat)).1 t (o.1, ck)) (by decide) (by decide) (by decide) dL_drop_8 ?_
  have hm_2_s := zu_s (zAll (zSrv (zOpO s a.toNat)).1 t (o.1, ck)) 33 (zAi 2 1 (zup ((fun _ => (o.1, ck).1)) (0 : Int).toNat ((zSrv (zOpO s a.toNat)).2)))
  refine z_ext (fun _ => (zSrv (zOpO s a.toNat)).2) (zu_s _ _ _) (fun j hj => if_pos (by omega)) ?_
  refine z_M (M' := (zAll (zSrv (zOpO s a.toNat)).1 t ((zSrv (zOpO s a.toNat)).2, ck))) (by rw [zu_zu, zMH_33]) ?_
  refine z_goto F 15 dL_drop_9 (by decide) ?_
  refine z_iconst (z := 0) F dL_drop_15 (by decide) ?_
  exact z_reti F rfl (by first | decide | assumption | omega) (by first | decide | assumption | omega) dL_drop_16 ⟨_, rfl, zV_of (k := 0) (v := (zSrv (zOpO s a.toNat)).2) (by unfold xDrop; rw [if_pos hq]) hk1 (fun _ => ⟨rfl, (by have h9 : 0 ≤ (zSrv (zOpO s a.toNat)).2 ∧ (zSrv (zOpO s a.toNat)).2 ≤ 0 + (((zOpO s a.toNat) 14 0 0).toNat : Nat) := zSw_r _ _ _ _; have e14 : (zOpO s a.toNat) 14 0 0 = s 14 0 0 := rfl; constructor <;> omega)⟩)⟩

abbrev rL_request : Room := { frames := 8, cells := 4, slots := 47, locals := 214 }
set_option maxRecDepth 100000 in
set_option maxHeartbeats 4000000 in
theorem c_L_request {l : Launch} (hfl : l.stackTraces = false) (G : zG) {s t : zS} {o : zOx} (hc : zC1 s) (hb9 : zB s) (hI : zInv s) (hob : ∀ m, o.2 m = 0 ∨ o.2 m = 1) {a x : Int} (ha : zR a) (hx : zR x)  : zCn l G yL_request (.codeWith yL_request cL_request 5 (some .int) [(0, 10, 13, 24), (0, 10, 17, 15)]) rL_request [.ref 0, .int (zI a), .int (zI x), .ref 33] (zAll s t o) (zRi (zV t o (xReq s a x))) zN := by
  refine zStartH hfl (by decide) (own := RL) rfl [(0, .ref 0), (1, .int (zI a)), (2, .int (zI x)), (3, .ref 33)] (Nat.le_of_ble_eq_true rfl) rfl (fun k hkl hinit hk0 F => ?_)
  have hn0 := hc.1
  have hn4 := hc.2.1
  have hn9 := hc.2.2.1
  have hn14 := hc.2.2.2.1
  have hn18 := hc.2.2.2.2.1
  refine z_aload_n F 3 dL_request_0 rfl rfl ?_
  refine z_iconst (z := 0) F dL_request_1 (by decide) ?_
  refine z_aload_n F 0 dL_request_2 rfl rfl ?_
  refine z_iload_n F 1 dL_request_3 rfl rfl ?_
  refine z_iload_n F 2 dL_request_4 rfl rfl ?_
  refine z_callV F [.int (zI a), .int (zI x)] [.int (zI 0), .ref 33] (c_X6_request F.2.2.1 G (s := s) (t := t) (o := o) hc hb9 ha hx hI) cv_L_44 (zAll_0 s t o) rfl rfl rfl ⟨by decide, by decide⟩ ⟨by decide, by decide⟩ (Nat.le_of_ble_eq_true rfl) dL_request_5 (fun E M9 h9 => by
      rcases h9 with ⟨⟨e1, e2⟩ | ⟨e1, e2, e3⟩, e4⟩
      · subst e1
        subst e4
        exact z_catch (z := 1) (i := 4) F (tableOf []) ⟨0, 10, 13, 24⟩ (tableOf [(0, 10, 17, 15)]) rfl (fun _ h => absurd h List.not_mem_nil) (by decide) (by decide) (zr_10 _ (List.mem_of_getElem? (i := 15) rfl)) (List.mem_of_getElem? (i := 6) rfl) (by decide) dL_request_13 dL_request_15 (by decide) dL_request_16 rfl (by first | decide | assumption | omega) (by first | decide | assumption | omega) ⟨_, rfl, zV_of (k := 1) (v := 0) (q := o.1) (c9 := o.2) (by unfold xReq; rw [if_neg e2]) hob (fun h => absurd h (by decide))⟩
      · subst e1
        subst e4
        exact z_catch (z := 2) (i := 4) F (tableOf [(0, 10, 13, 24)]) ⟨0, 10, 17, 15⟩ (tableOf []) rfl (List.forall_mem_cons.mpr ⟨⟨by decide, "java/lang/IndexOutOfBoundsException", zr_10 _ (List.mem_of_getElem? (i := 15) rfl), List.mem_of_getElem? (i := 2) rfl⟩, (fun _ h => absurd h List.not_mem_nil)⟩) (by decide) (by decide) (zr_4 _ (List.mem_of_getElem? (i := 7) rfl)) (List.mem_of_getElem? (i := 5) rfl) (by decide) dL_request_17 dL_request_19 (by decide) dL_request_20 rfl (by first | decide | assumption | omega) (by first | decide | assumption | omega) ⟨_, rfl, zV_of (k := 2) (v := 0) (q := o.1) (c9 := o.2) (by unfold xReq; rw [if_pos e2, if_neg e3]) hob (fun h => absurd h (by decide))⟩) (z_ki (fun x_1 M_1 h_1 => ?_))
  obtain ⟨hq, hx9, hm9⟩ := h_1
  subst hx9
  subst hm9
  refine z_i2l F (by omega) dL_request_8 ?_
  refine z_last F (zAll_33 (zOpQ s a.toNat x) t o) (by decide) (by decide) (by decide) dL_request_9 ?_
  have hm_2_s := zu_s (zAll (zOpQ s a.toNat x) t o) 33 (zAi 2 1 (zup ((fun _ => o.1)) (0 : Int).toNat (s 14 0 0 + 1)))
  refine z_ext (fun _ => s 14 0 0 + 1) (zu_s _ _ _) (fun j hj => if_pos (by omega)) ?_
  refine z_M (M' := (zAll (zOpQ s a.toNat x) t (s 14 0 0 + 1, o.2))) (by rw [zu_zu, zMH_33]) ?_
  refine z_goto F 21 dL_request_10 (by decide) ?_
  refine z_iconst (z := 0) F dL_request_21 (by decide) ?_
  exact z_reti F rfl (by first | decide | assumption | omega) (by first | decide | assumption | omega) dL_request_22 ⟨_, rfl, zV_of (k := 0) (v := s 14 0 0 + 1) (by unfold xReq; rw [if_pos hq.1, if_pos hq.2]) hob (fun _ => ⟨rfl, (by omega)⟩)⟩

abbrev rL_requestAt : Room := { frames := 7, cells := 1, slots := 6, locals := 113 }
set_option maxRecDepth 100000 in
set_option maxHeartbeats 4000000 in
theorem c_L_requestAt {l : Launch} (hfl : l.stackTraces = false) (G : zG) {s t : zS} {o : zOx} (hc : zC1 s) (hb9 : zB s) (hI : zInv s) (hob : ∀ m, o.2 m = 0 ∨ o.2 m = 1) {a : Int} (ha : zR a)  : zCn l G yL_requestAt (.codeWith yL_requestAt cL_requestAt 4 (some .int) [(0, 9, 12, 24)]) rL_requestAt [.ref 0, .int (zI a), .ref 33] (zAll s t o) (zRi (zV t o (xAsk s (0 ≤ a ∧ a < s 14 0 0) (s 15 a.toNat 0)))) zN := by
  refine zStartH hfl (by decide) (own := RL) rfl [(0, .ref 0), (1, .int (zI a)), (2, .ref 33)] (Nat.le_of_ble_eq_true rfl) rfl (fun k hkl hinit hk0 F => ?_)
  have hn0 := hc.1
  have hn4 := hc.2.1
  have hn9 := hc.2.2.1
  have hn14 := hc.2.2.2.1
  have hn18 := hc.2.2.2.2.1
  refine z_aload_n F 2 dL_requestAt_0 rfl rfl ?_
  refine z_iconst (z := 0) F dL_requestAt_1 (by decide) ?_
  refine z_aload_n F 0 dL_requestAt_2 rfl rfl ?_
  refine z_iload_n F 1 dL_requestAt_3 rfl rfl ?_
  refine z_callV F [.int (zI a)] [.int (zI 0), .ref 33] (c_X6_requestAt F.2.2.1 G (s := s) (t := t) (o := o) hc hb9 ha) cv_L_47 (zAll_0 s t o) rfl rfl rfl ⟨by decide, by decide⟩ ⟨by decide, by decide⟩ (Nat.le_of_ble_eq_true rfl) dL_requestAt_4 (fun E M9 h9 => by
      obtain ⟨e1, e2, e4⟩ := h9
      · subst e1
        subst e4
        exact z_catch_n (z := 1) (i := 3) F (tableOf []) ⟨0, 9, 12, 24⟩ (tableOf []) rfl (fun _ h => absurd h List.not_mem_nil) (by decide) (by decide) (zr_10 _ (List.mem_of_getElem? (i := 15) rfl)) (List.mem_of_getElem? (i := 6) rfl) rfl (by decide) dL_requestAt_12 dL_requestAt_13 (by decide) dL_requestAt_14 rfl (by first | decide | assumption | omega) (by first | decide | assumption | omega) ⟨_, rfl, zV_of (k := 1) (v := 0) (q := o.1) (c9 := o.2) (by unfold xAsk; rw [if_neg e2]) hob (fun h => absurd h (by decide))⟩) (z_ki (fun x_1 M_1 h_1 => ?_))
  obtain ⟨hq, hx9, hm9⟩ := h_1
  subst hx9
  subst hm9
  refine z_ti (y := s 15 a.toNat 0) (hI.2.2.2.2.2.2.1 a.toNat (by omega)).1.symm ?_
  refine z_i2l F (hb9.r 15 _ 0) dL_requestAt_7 ?_
  refine z_last F (zAll_33 s t o) (by decide) (by decide) (by decide) dL_requestAt_8 ?_
  have hm_2_s := zu_s (zAll s t o) 33 (zAi 2 1 (zup ((fun _ => o.1)) (0 : Int).toNat (s 15 a.toNat 0)))
  refine z_ext (fun _ => s 15 a.toNat 0) (zu_s _ _ _) (fun j hj => if_pos (by omega)) ?_
  refine z_M (M' := (zAll s t (s 15 a.toNat 0, o.2))) (by rw [zu_zu, zMH_33]) ?_
  refine z_goto F 15 dL_requestAt_9 (by decide) ?_
  refine z_iconst (z := 0) F dL_requestAt_15 (by decide) ?_
  exact z_reti F rfl (by first | decide | assumption | omega) (by first | decide | assumption | omega) dL_requestAt_16 ⟨_, rfl, zV_of (k := 0) (v := s 15 a.toNat 0) (by unfold xAsk; rw [if_pos hq]) hob (fun _ => ⟨rfl, (hb9.r 15 _ 0)⟩)⟩

abbrev rL_lengthOf : Room := { frames := 8, cells := 1, slots := 6, locals := 134 }
set_option maxRecDepth 100000 in
set_option maxHeartbeats 4000000 in
theorem c_L_lengthOf {l : Launch} (hfl : l.stackTraces = false) (G : zG) {s t : zS} {o : zOx} (hc : zC1 s) (hb9 : zB s) (hI : zInv s) (hob : ∀ m, o.2 m = 0 ∨ o.2 m = 1) {a : Int} (ha : zR a)  : zCn l G yL_lengthOf (.codeWith yL_lengthOf cL_lengthOf 4 (some .int) [(0, 9, 12, 24)]) rL_lengthOf [.ref 0, .int (zI a), .ref 33] (zAll s t o) (zRi (zV t o (xAsk s (0 ≤ a ∧ a < s 4 0 0) (zLen s a.toNat)))) zN := by
  refine zStartH hfl (by decide) (own := RL) rfl [(0, .ref 0), (1, .int (zI a)), (2, .ref 33)] (Nat.le_of_ble_eq_true rfl) rfl (fun k hkl hinit hk0 F => ?_)
  have hn0 := hc.1
  have hn4 := hc.2.1
  have hn9 := hc.2.2.1
  have hn14 := hc.2.2.2.1
  have hn18 := hc.2.2.2.2.1
  refine z_aload_n F 2 dL_lengthOf_0 rfl rfl ?_
  refine z_iconst (z := 0) F dL_lengthOf_1 (by decide) ?_
  refine z_aload_n F 0 dL_lengthOf_2 rfl rfl ?_
  refine z_iload_n F 1 dL_lengthOf_3 rfl rfl ?_
  refine z_callV F [.int (zI a)] [.int (zI 0), .ref 33] (c_X6_lengthOf F.2.2.1 G (s := s) (t := t) (o := o) hc hb9 ha) cv_L_50 (zAll_0 s t o) rfl rfl rfl ⟨by decide, by decide⟩ ⟨by decide, by decide⟩ (Nat.le_of_ble_eq_true rfl) dL_lengthOf_4 (fun E M9 h9 => by
      obtain ⟨e1, e2, e4⟩ := h9
      · subst e1
        subst e4
        exact z_catch_n (z := 1) (i := 3) F (tableOf []) ⟨0, 9, 12, 24⟩ (tableOf []) rfl (fun _ h => absurd h List.not_mem_nil) (by decide) (by decide) (zr_10 _ (List.mem_of_getElem? (i := 15) rfl)) (List.mem_of_getElem? (i := 6) rfl) rfl (by decide) dL_lengthOf_12 dL_lengthOf_13 (by decide) dL_lengthOf_14 rfl (by first | decide | assumption | omega) (by first | decide | assumption | omega) ⟨_, rfl, zV_of (k := 1) (v := 0) (q := o.1) (c9 := o.2) (by unfold xAsk; rw [if_neg e2]) hob (fun h => absurd h (by decide))⟩) (z_ki (fun x_1 M_1 h_1 => ?_))
  obtain ⟨hq, hx9, hm9⟩ := h_1
  subst hx9
  subst hm9
  refine z_i2l F (by have := hc.len a.toNat; omega) dL_lengthOf_7 ?_
  refine z_last F (zAll_33 s t o) (by decide) (by decide) (by decide) dL_lengthOf_8 ?_
  have hm_2_s := zu_s (zAll s t o) 33 (zAi 2 1 (zup ((fun _ => o.1)) (0 : Int).toNat (zLen s a.toNat)))
  refine z_ext (fun _ => zLen s a.toNat) (zu_s _ _ _) (fun j hj => if_pos (by omega)) ?_
  refine z_M (M' := (zAll s t (zLen s a.toNat, o.2))) (by rw [zu_zu, zMH_33]) ?_
  refine z_goto F 15 dL_lengthOf_9 (by decide) ?_
  refine z_iconst (z := 0) F dL_lengthOf_15 (by decide) ?_
  exact z_reti F rfl (by first | decide | assumption | omega) (by first | decide | assumption | omega) dL_lengthOf_16 ⟨_, rfl, zV_of (k := 0) (v := zLen s a.toNat) (by unfold xAsk; rw [if_pos hq]) hob (fun _ => ⟨rfl, (by have := hc.len a.toNat; omega)⟩)⟩

abbrev rL_workOf : Room := { frames := 8, cells := 1, slots := 6, locals := 134 }
set_option maxRecDepth 100000 in
set_option maxHeartbeats 4000000 in
theorem c_L_workOf {l : Launch} (hfl : l.stackTraces = false) (G : zG) {s t : zS} {o : zOx} (hc : zC1 s) (hb9 : zB s) (hI : zInv s) (hob : ∀ m, o.2 m = 0 ∨ o.2 m = 1) {a : Int} (ha : zR a)  : zCn l G yL_workOf (.codeWith yL_workOf cL_workOf 4 (some .int) [(0, 9, 12, 24)]) rL_workOf [.ref 0, .int (zI a), .ref 33] (zAll s t o) (zRi (zV t o (xAsk s (0 ≤ a ∧ a < s 4 0 0) (zWork s a.toNat)))) zN := by
  refine zStartH hfl (by decide) (own := RL) rfl [(0, .ref 0), (1, .int (zI a)), (2, .ref 33)] (Nat.le_of_ble_eq_true rfl) rfl (fun k hkl hinit hk0 F => ?_)
  have hn0 := hc.1
  have hn4 := hc.2.1
  have hn9 := hc.2.2.1
  have hn14 := hc.2.2.2.1
  have hn18 := hc.2.2.2.2.1
  refine z_aload_n F 2 dL_workOf_0 rfl rfl ?_
  refine z_iconst (z := 0) F dL_workOf_1 (by decide) ?_
  refine z_aload_n F 0 dL_workOf_2 rfl rfl ?_
  refine z_iload_n F 1 dL_workOf_3 rfl rfl ?_
  refine z_callV F [.int (zI a)] [.int (zI 0), .ref 33] (c_X6_workOf F.2.2.1 G (s := s) (t := t) (o := o) hc hb9 ha) cv_L_53 (zAll_0 s t o) rfl rfl rfl ⟨by decide, by decide⟩ ⟨by decide, by decide⟩ (Nat.le_of_ble_eq_true rfl) dL_workOf_4 (fun E M9 h9 => by
      obtain ⟨e1, e2, e4⟩ := h9
      · subst e1
        subst e4
        exact z_catch_n (z := 1) (i := 3) F (tableOf []) ⟨0, 9, 12, 24⟩ (tableOf []) rfl (fun _ h => absurd h List.not_mem_nil) (by decide) (by decide) (zr_10 _ (List.mem_of_getElem? (i := 15) rfl)) (List.mem_of_getElem? (i := 6) rfl) rfl (by decide) dL_workOf_12 dL_workOf_13 (by decide) dL_workOf_14 rfl (by first | decide | assumption | omega) (by first | decide | assumption | omega) ⟨_, rfl, zV_of (k := 1) (v := 0) (q := o.1) (c9 := o.2) (by unfold xAsk; rw [if_neg e2]) hob (fun h => absurd h (by decide))⟩) (z_ki (fun x_1 M_1 h_1 => ?_))
  obtain ⟨hq, hx9, hm9⟩ := h_1
  subst hx9
  subst hm9
  refine z_i2l F (by have := hc.work a.toNat; omega) dL_workOf_7 ?_
  refine z_last F (zAll_33 s t o) (by decide) (by decide) (by decide) dL_workOf_8 ?_
  have hm_2_s := zu_s (zAll s t o) 33 (zAi 2 1 (zup ((fun _ => o.1)) (0 : Int).toNat (zWork s a.toNat)))
  refine z_ext (fun _ => zWork s a.toNat) (zu_s _ _ _) (fun j hj => if_pos (by omega)) ?_
  refine z_M (M' := (zAll s t (zWork s a.toNat, o.2))) (by rw [zu_zu, zMH_33]) ?_
  refine z_goto F 15 dL_workOf_9 (by decide) ?_
  refine z_iconst (z := 0) F dL_workOf_15 (by decide) ?_
  exact z_reti F rfl (by first | decide | assumption | omega) (by first | decide | assumption | omega) dL_workOf_16 ⟨_, rfl, zV_of (k := 0) (v := zWork s a.toNat) (by unfold xAsk; rw [if_pos hq]) hob (fun _ => ⟨rfl, (by have := hc.work a.toNat; omega)⟩)⟩

abbrev rL_skillsOf : Room := { frames := 8, cells := 1, slots := 6, locals := 134 }
set_option maxRecDepth 100000 in
set_option maxHeartbeats 4000000 in
theorem c_L_skillsOf {l : Launch} (hfl : l.stackTraces = false) (G : zG) {s t : zS} {o : zOx} (hc : zC1 s) (hb9 : zB s) (hI : zInv s) (hob : ∀ m, o.2 m = 0 ∨ o.2 m = 1) {a : Int} (ha : zR a)  : zCn l G yL_skillsOf (.codeWith yL_skillsOf cL_skillsOf 4 (some .int) [(0, 9, 12, 24)]) rL_skillsOf [.ref 0, .int (zI a), .ref 33] (zAll s t o) (zRi (zV t o (xAsk s (0 ≤ a ∧ a < s 4 0 0) (zAsk s a.toNat)))) zN := by
  refine zStartH hfl (by decide) (own := RL) rfl [(0, .ref 0), (1, .int (zI a)), (2, .ref 33)] (Nat.le_of_ble_eq_true rfl) rfl (fun k hkl hinit hk0 F => ?_)
  have hn0 := hc.1
  have hn4 := hc.2.1
  have hn9 := hc.2.2.1
  have hn14 := hc.2.2.2.1
  have hn18 := hc.2.2.2.2.1
  refine z_aload_n F 2 dL_skillsOf_0 rfl rfl ?_
  refine z_iconst (z := 0) F dL_skillsOf_1 (by decide) ?_
  refine z_aload_n F 0 dL_skillsOf_2 rfl rfl ?_
  refine z_iload_n F 1 dL_skillsOf_3 rfl rfl ?_
  refine z_callV F [.int (zI a)] [.int (zI 0), .ref 33] (c_X6_skillsOf F.2.2.1 G (s := s) (t := t) (o := o) hc hb9 ha) cv_L_56 (zAll_0 s t o) rfl rfl rfl ⟨by decide, by decide⟩ ⟨by decide, by decide⟩ (Nat.le_of_ble_eq_true rfl) dL_skillsOf_4 (fun E M9 h9 => by
      obtain ⟨e1, e2, e4⟩ := h9
      · subst e1
        subst e4
        exact z_catch_n (z := 1) (i := 3) F (tableOf []) ⟨0, 9, 12, 24⟩ (tableOf []) rfl (fun _ h => absurd h List.not_mem_nil) (by decide) (by decide) (zr_10 _ (List.mem_of_getElem? (i := 15) rfl)) (List.mem_of_getElem? (i := 6) rfl) rfl (by decide) dL_skillsOf_12 dL_skillsOf_13 (by decide) dL_skillsOf_14 rfl (by first | decide | assumption | omega) (by first | decide | assumption | omega) ⟨_, rfl, zV_of (k := 1) (v := 0) (q := o.1) (c9 := o.2) (by unfold xAsk; rw [if_neg e2]) hob (fun h => absurd h (by decide))⟩) (z_ki (fun x_1 M_1 h_1 => ?_))
  obtain ⟨hq, hx9, hm9⟩ := h_1
  subst hx9
  subst hm9
  refine z_i2l F (by have := hc.ask a.toNat; omega) dL_skillsOf_7 ?_
  refine z_last F (zAll_33 s t o) (by decide) (by decide) (by decide) dL_skillsOf_8 ?_
  have hm_2_s := zu_s (zAll s t o) 33 (zAi 2 1 (zup ((fun _ => o.1)) (0 : Int).toNat (zAsk s a.toNat)))
  refine z_ext (fun _ => zAsk s a.toNat) (zu_s _ _ _) (fun j hj => if_pos (by omega)) ?_
  refine z_M (M' := (zAll s t (zAsk s a.toNat, o.2))) (by rw [zu_zu, zMH_33]) ?_
  refine z_goto F 15 dL_skillsOf_9 (by decide) ?_
  refine z_iconst (z := 0) F dL_skillsOf_15 (by decide) ?_
  exact z_reti F rfl (by first | decide | assumption | omega) (by first | decide | assumption | omega) dL_skillsOf_16 ⟨_, rfl, zV_of (k := 0) (v := zAsk s a.toNat) (by unfold xAsk; rw [if_pos hq]) hob (fun _ => ⟨rfl, (by have := hc.ask a.toNat; omega)⟩)⟩

abbrev rL_startOf : Room := { frames := 8, cells := 1, slots := 6, locals := 134 }
set_option maxRecDepth 100000 in
set_option maxHeartbeats 4000000 in
theorem c_L_startOf {l : Launch} (hfl : l.stackTraces = false) (G : zG) {s t : zS} {o : zOx} (hc : zC1 s) (hb9 : zB s) (hI : zInv s) (hob : ∀ m, o.2 m = 0 ∨ o.2 m = 1) {a : Int} (ha : zR a)  : zCn l G yL_startOf (.codeWith yL_startOf cL_startOf 4 (some .int) [(0, 9, 12, 24)]) rL_startOf [.ref 0, .int (zI a), .ref 33] (zAll s t o) (zRi (zV t o (xAsk s (0 ≤ a ∧ a < s 9 0 0) (s 13 a.toNat 0)))) zN := by
  refine zStartH hfl (by decide) (own := RL) rfl [(0, .ref 0), (1, .int (zI a)), (2, .ref 33)] (Nat.le_of_ble_eq_true rfl) rfl (fun k hkl hinit hk0 F => ?_)
  have hn0 := hc.1
  have hn4 := hc.2.1
  have hn9 := hc.2.2.1
  have hn14 := hc.2.2.2.1
  have hn18 := hc.2.2.2.2.1
  refine z_aload_n F 2 dL_startOf_0 rfl rfl ?_
  refine z_iconst (z := 0) F dL_startOf_1 (by decide) ?_
  refine z_aload_n F 0 dL_startOf_2 rfl rfl ?_
  refine z_iload_n F 1 dL_startOf_3 rfl rfl ?_
  refine z_callV F [.int (zI a)] [.int (zI 0), .ref 33] (c_X6_startOf F.2.2.1 G (s := s) (t := t) (o := o) hc hb9 ha) cv_L_59 (zAll_0 s t o) rfl rfl rfl ⟨by decide, by decide⟩ ⟨by decide, by decide⟩ (Nat.le_of_ble_eq_true rfl) dL_startOf_4 (fun E M9 h9 => by
      obtain ⟨e1, e2, e4⟩ := h9
      · subst e1
        subst e4
        exact z_catch_n (z := 1) (i := 3) F (tableOf []) ⟨0, 9, 12, 24⟩ (tableOf []) rfl (fun _ h => absurd h List.not_mem_nil) (by decide) (by decide) (zr_10 _ (List.mem_of_getElem? (i := 15) rfl)) (List.mem_of_getElem? (i := 6) rfl) rfl (by decide) dL_startOf_12 dL_startOf_13 (by decide) dL_startOf_14 rfl (by first | decide | assumption | omega) (by first | decide | assumption | omega) ⟨_, rfl, zV_of (k := 1) (v := 0) (q := o.1) (c9 := o.2) (by unfold xAsk; rw [if_neg e2]) hob (fun h => absurd h (by decide))⟩) (z_ki (fun x_1 M_1 h_1 => ?_))
  obtain ⟨hq, hx9, hm9⟩ := h_1
  subst hx9
  subst hm9
  refine z_i2l F (hb9.r 13 _ 0) dL_startOf_7 ?_
  refine z_last F (zAll_33 s t o) (by decide) (by decide) (by decide) dL_startOf_8 ?_
  have hm_2_s := zu_s (zAll s t o) 33 (zAi 2 1 (zup ((fun _ => o.1)) (0 : Int).toNat (s 13 a.toNat 0)))
  refine z_ext (fun _ => s 13 a.toNat 0) (zu_s _ _ _) (fun j hj => if_pos (by omega)) ?_
  refine z_M (M' := (zAll s t (s 13 a.toNat 0, o.2))) (by rw [zu_zu, zMH_33]) ?_
  refine z_goto F 15 dL_startOf_9 (by decide) ?_
  refine z_iconst (z := 0) F dL_startOf_15 (by decide) ?_
  exact z_reti F rfl (by first | decide | assumption | omega) (by first | decide | assumption | omega) dL_startOf_16 ⟨_, rfl, zV_of (k := 0) (v := s 13 a.toNat 0) (by unfold xAsk; rw [if_pos hq]) hob (fun _ => ⟨rfl, (hb9.r 13 _ 0)⟩)⟩

abbrev rL_staffOf : Room := { frames := 8, cells := 1, slots := 6, locals := 134 }
set_option maxRecDepth 100000 in
set_option maxHeartbeats 4000000 in
theorem c_L_staffOf {l : Launch} (hfl : l.stackTraces = false) (G : zG) {s t : zS} {o : zOx} (hc : zC1 s) (hb9 : zB s) (hI : zInv s) (hob : ∀ m, o.2 m = 0 ∨ o.2 m = 1) {a : Int} (ha : zR a)  : zCn l G yL_staffOf (.codeWith yL_staffOf cL_staffOf 4 (some .int) [(0, 9, 12, 24)]) rL_staffOf [.ref 0, .int (zI a), .ref 33] (zAll s t o) (zRi (zV t o (xAsk s (0 ≤ a ∧ a < s 9 0 0) ((if s 13 a.toNat 0 = -1 then -1 else s 11 a.toNat 0))))) zN := by
  refine zStartH hfl (by decide) (own := RL) rfl [(0, .ref 0), (1, .int (zI a)), (2, .ref 33)] (Nat.le_of_ble_eq_true rfl) rfl (fun k hkl hinit hk0 F => ?_)
  have hn0 := hc.1
  have hn4 := hc.2.1
  have hn9 := hc.2.2.1
  have hn14 := hc.2.2.2.1
  have hn18 := hc.2.2.2.2.1
  refine z_aload_n F 2 dL_staffOf_0 rfl rfl ?_
  refine z_iconst (z := 0) F dL_staffOf_1 (by decide) ?_
  refine z_aload_n F 0 dL_staffOf_2 rfl rfl ?_
  refine z_iload_n F 1 dL_staffOf_3 rfl rfl ?_
  refine z_callV F [.int (zI a)] [.int (zI 0), .ref 33] (c_X6_staffOf F.2.2.1 G (s := s) (t := t) (o := o) hc hb9 ha) cv_L_62 (zAll_0 s t o) rfl rfl rfl ⟨by decide, by decide⟩ ⟨by decide, by decide⟩ (Nat.le_of_ble_eq_true rfl) dL_staffOf_4 (fun E M9 h9 => by
      obtain ⟨e1, e2, e4⟩ := h9
      · subst e1
        subst e4
        exact z_catch_n (z := 1) (i := 3) F (tableOf []) ⟨0, 9, 12, 24⟩ (tableOf []) rfl (fun _ h => absurd h List.not_mem_nil) (by decide) (by decide) (zr_10 _ (List.mem_of_getElem? (i := 15) rfl)) (List.mem_of_getElem? (i := 6) rfl) rfl (by decide) dL_staffOf_12 dL_staffOf_13 (by decide) dL_staffOf_14 rfl (by first | decide | assumption | omega) (by first | decide | assumption | omega) ⟨_, rfl, zV_of (k := 1) (v := 0) (q := o.1) (c9 := o.2) (by unfold xAsk; rw [if_neg e2]) hob (fun h => absurd h (by decide))⟩) (z_ki (fun x_1 M_1 h_1 => ?_))
  obtain ⟨hq, hx9, hm9⟩ := h_1
  subst hx9
  subst hm9
  refine z_i2l F (by split; exact ⟨by decide, by decide⟩; exact hb9.r 11 _ 0) dL_staffOf_7 ?_
  refine z_last F (zAll_33 s t o) (by decide) (by decide) (by decide) dL_staffOf_8 ?_
  have hm_2_s := zu_s (zAll s t o) 33 (zAi 2 1 (zup ((fun _ => o.1)) (0 : Int).toNat ((if s 13 a.toNat 0 = -1 then -1 else s 11 a.toNat 0))))
  refine z_ext (fun _ => (if s 13 a.toNat 0 = -1 then -1 else s 11 a.toNat 0)) (zu_s _ _ _) (fun j hj => if_pos (by omega)) ?_
  refine z_M (M' := (zAll s t ((if s 13 a.toNat 0 = -1 then -1 else s 11 a.toNat 0), o.2))) (by rw [zu_zu, zMH_33]) ?_
  refine z_goto F 15 dL_staffOf_9 (by decide) ?_
  refine z_iconst (z := 0) F dL_staffOf_15 (by decide) ?_
  exact z_reti F rfl (by first | decide | assumption | omega) (by first | decide | assumption | omega) dL_staffOf_16 ⟨_, rfl, zV_of (k := 0) (v := (if s 13 a.toNat 0 = -1 then -1 else s 11 a.toNat 0)) (by unfold xAsk; rw [if_pos hq]) hob (fun _ => ⟨rfl, (by split; exact ⟨by decide, by decide⟩; exact hb9.r 11 _ 0)⟩)⟩

abbrev rL_chairOf : Room := { frames := 8, cells := 1, slots := 6, locals := 134 }
set_option maxRecDepth 100000 in
set_option maxHeartbeats 4000000 in
theorem c_L_chairOf {l : Launch} (hfl : l.stackTraces = false) (G : zG) {s t : zS} {o : zOx} (hc : zC1 s) (hb9 : zB s) (hI : zInv s) (hob : ∀ m, o.2 m = 0 ∨ o.2 m = 1) {a : Int} (ha : zR a)  : zCn l G yL_chairOf (.codeWith yL_chairOf cL_chairOf 4 (some .int) [(0, 9, 12, 24)]) rL_chairOf [.ref 0, .int (zI a), .ref 33] (zAll s t o) (zRi (zV t o (xAsk s (0 ≤ a ∧ a < s 9 0 0) ((if s 13 a.toNat 0 = -1 then -1 else s 12 a.toNat 0))))) zN := by
  refine zStartH hfl (by decide) (own := RL) rfl [(0, .ref 0), (1, .int (zI a)), (2, .ref 33)] (Nat.le_of_ble_eq_true rfl) rfl (fun k hkl hinit hk0 F => ?_)
  have hn0 := hc.1
  have hn4 := hc.2.1
  have hn9 := hc.2.2.1
  have hn14 := hc.2.2.2.1
  have hn18 := hc.2.2.2.2.1
  refine z_aload_n F 2 dL_chairOf_0 rfl rfl ?_
  refine z_iconst (z := 0) F dL_chairOf_1 (by decide) ?_
  refine z_aload_n F 0 dL_chairOf_2 rfl rfl ?_
  refine z_iload_n F 1 dL_chairOf_3 rfl rfl ?_
  refine z_callV F [.int (zI a)] [.int (zI 0), .ref 33] (c_X6_chairOf F.2.2.1 G (s := s) (t := t) (o := o) hc hb9 ha) cv_L_65 (zAll_0 s t o) rfl rfl rfl ⟨by decide, by decide⟩ ⟨by decide, by decide⟩ (Nat.le_of_ble_eq_true rfl) dL_chairOf_4 (fun E M9 h9 => by
      obtain ⟨e1, e2, e4⟩ := h9
      · subst e1
        subst e4
        exact z_catch_n (z := 1) (i := 3) F (tableOf []) ⟨0, 9, 12, 24⟩ (tableOf []) rfl (fun _ h => absurd h List.not_mem_nil) (by decide) (by decide) (zr_10 _ (List.mem_of_getElem? (i := 15) rfl)) (List.mem_of_getElem? (i := 6) rfl) rfl (by decide) dL_chairOf_12 dL_chairOf_13 (by decide) dL_chairOf_14 rfl (by first | decide | assumption | omega) (by first | decide | assumption | omega) ⟨_, rfl, zV_of (k := 1) (v := 0) (q := o.1) (c9 := o.2) (by unfold xAsk; rw [if_neg e2]) hob (fun h => absurd h (by decide))⟩) (z_ki (fun x_1 M_1 h_1 => ?_))
  obtain ⟨hq, hx9, hm9⟩ := h_1
  subst hx9
  subst hm9
  refine z_i2l F (by split; exact ⟨by decide, by decide⟩; exact hb9.r 12 _ 0) dL_chairOf_7 ?_
  refine z_last F (zAll_33 s t o) (by decide) (by decide) (by decide) dL_chairOf_8 ?_
  have hm_2_s := zu_s (zAll s t o) 33 (zAi 2 1 (zup ((fun _ => o.1)) (0 : Int).toNat ((if s 13 a.toNat 0 = -1 then -1 else s 12 a.toNat 0))))
  refine z_ext (fun _ => (if s 13 a.toNat 0 = -1 then -1 else s 12 a.toNat 0)) (zu_s _ _ _) (fun j hj => if_pos (by omega)) ?_
  refine z_M (M' := (zAll s t ((if s 13 a.toNat 0 = -1 then -1 else s 12 a.toNat 0), o.2))) (by rw [zu_zu, zMH_33]) ?_
  refine z_goto F 15 dL_chairOf_9 (by decide) ?_
  refine z_iconst (z := 0) F dL_chairOf_15 (by decide) ?_
  exact z_reti F rfl (by first | decide | assumption | omega) (by first | decide | assumption | omega) dL_chairOf_16 ⟨_, rfl, zV_of (k := 0) (v := (if s 13 a.toNat 0 = -1 then -1 else s 12 a.toNat 0)) (by unfold xAsk; rw [if_pos hq]) hob (fun _ => ⟨rfl, (by split; exact ⟨by decide, by decide⟩; exact hb9.r 12 _ 0)⟩)⟩

abbrev rL_serviceOf : Room := { frames := 8, cells := 1, slots := 6, locals := 134 }
set_option maxRecDepth 100000 in
set_option maxHeartbeats 4000000 in
theorem c_L_serviceOf {l : Launch} (hfl : l.stackTraces = false) (G : zG) {s t : zS} {o : zOx} (hc : zC1 s) (hb9 : zB s) (hI : zInv s) (hob : ∀ m, o.2 m = 0 ∨ o.2 m = 1) {a : Int} (ha : zR a)  : zCn l G yL_serviceOf (.codeWith yL_serviceOf cL_serviceOf 4 (some .int) [(0, 9, 12, 24)]) rL_serviceOf [.ref 0, .int (zI a), .ref 33] (zAll s t o) (zRi (zV t o (xAsk s (0 ≤ a ∧ a < s 9 0 0) (s 10 a.toNat 0)))) zN := by
  refine zStartH hfl (by decide) (own := RL) rfl [(0, .ref 0), (1, .int (zI a)), (2, .ref 33)] (Nat.le_of_ble_eq_true rfl) rfl (fun k hkl hinit hk0 F => ?_)
  have hn0 := hc.1
  have hn4 := hc.2.1
  have hn9 := hc.2.2.1
  have hn14 := hc.2.2.2.1
  have hn18 := hc.2.2.2.2.1
  refine z_aload_n F 2 dL_serviceOf_0 rfl rfl ?_
  refine z_iconst (z := 0) F dL_serviceOf_1 (by decide) ?_
  refine z_aload_n F 0 dL_serviceOf_2 rfl rfl ?_
  refine z_iload_n F 1 dL_serviceOf_3 rfl rfl ?_
  refine z_callV F [.int (zI a)] [.int (zI 0), .ref 33] (c_X6_serviceOf F.2.2.1 G (s := s) (t := t) (o := o) hc hb9 ha) cv_L_68 (zAll_0 s t o) rfl rfl rfl ⟨by decide, by decide⟩ ⟨by decide, by decide⟩ (Nat.le_of_ble_eq_true rfl) dL_serviceOf_4 (fun E M9 h9 => by
      obtain ⟨e1, e2, e4⟩ := h9
      · subst e1
        subst e4
        exact z_catch_n (z := 1) (i := 3) F (tableOf []) ⟨0, 9, 12, 24⟩ (tableOf []) rfl (fun _ h => absurd h List.not_mem_nil) (by decide) (by decide) (zr_10 _ (List.mem_of_getElem? (i := 15) rfl)) (List.mem_of_getElem? (i := 6) rfl) rfl (by decide) dL_serviceOf_12 dL_serviceOf_13 (by decide) dL_serviceOf_14 rfl (by first | decide | assumption | omega) (by first | decide | assumption | omega) ⟨_, rfl, zV_of (k := 1) (v := 0) (q := o.1) (c9 := o.2) (by unfold xAsk; rw [if_neg e2]) hob (fun h => absurd h (by decide))⟩) (z_ki (fun x_1 M_1 h_1 => ?_))
  obtain ⟨hq, hx9, hm9⟩ := h_1
  subst hx9
  subst hm9
  refine z_i2l F (hb9.r 10 _ 0) dL_serviceOf_7 ?_
  refine z_last F (zAll_33 s t o) (by decide) (by decide) (by decide) dL_serviceOf_8 ?_
  have hm_2_s := zu_s (zAll s t o) 33 (zAi 2 1 (zup ((fun _ => o.1)) (0 : Int).toNat (s 10 a.toNat 0)))
  refine z_ext (fun _ => s 10 a.toNat 0) (zu_s _ _ _) (fun j hj => if_pos (by omega)) ?_
  refine z_M (M' := (zAll s t (s 10 a.toNat 0, o.2))) (by rw [zu_zu, zMH_33]) ?_
  refine z_goto F 15 dL_serviceOf_9 (by decide) ?_
  refine z_iconst (z := 0) F dL_serviceOf_15 (by decide) ?_
  exact z_reti F rfl (by first | decide | assumption | omega) (by first | decide | assumption | omega) dL_serviceOf_16 ⟨_, rfl, zV_of (k := 0) (v := s 10 a.toNat 0) (by unfold xAsk; rw [if_pos hq]) hob (fun _ => ⟨rfl, (hb9.r 10 _ 0)⟩)⟩

abbrev rL_loadOf : Room := { frames := 8, cells := 1, slots := 6, locals := 134 }
set_option maxRecDepth 100000 in
set_option maxHeartbeats 4000000 in
theorem c_L_loadOf {l : Launch} (hfl : l.stackTraces = false) (G : zG) {s t : zS} {o : zOx} (hc : zC1 s) (hb9 : zB s) (hI : zInv s) (hob : ∀ m, o.2 m = 0 ∨ o.2 m = 1) {a : Int} (ha : zR a)  : zCn l G yL_loadOf (.codeWith yL_loadOf cL_loadOf 4 (some .int) [(0, 9, 12, 24)]) rL_loadOf [.ref 0, .int (zI a), .ref 33] (zAll s t o) (zRi (zV t o (xAsk s (0 ≤ a ∧ a < s 0 0 0) (zLoad s a)))) zN := by
  refine zStartH hfl (by decide) (own := RL) rfl [(0, .ref 0), (1, .int (zI a)), (2, .ref 33)] (Nat.le_of_ble_eq_true rfl) rfl (fun k hkl hinit hk0 F => ?_)
  have hn0 := hc.1
  have hn4 := hc.2.1
  have hn9 := hc.2.2.1
  have hn14 := hc.2.2.2.1
  have hn18 := hc.2.2.2.2.1
  refine z_aload_n F 2 dL_loadOf_0 rfl rfl ?_
  refine z_iconst (z := 0) F dL_loadOf_1 (by decide) ?_
  refine z_aload_n F 0 dL_loadOf_2 rfl rfl ?_
  refine z_iload_n F 1 dL_loadOf_3 rfl rfl ?_
  refine z_callV F [.int (zI a)] [.int (zI 0), .ref 33] (c_X6_loadOf F.2.2.1 G (s := s) (t := t) (o := o) hc hb9 ha) cv_L_71 (zAll_0 s t o) rfl rfl rfl ⟨by decide, by decide⟩ ⟨by decide, by decide⟩ (Nat.le_of_ble_eq_true rfl) dL_loadOf_4 (fun E M9 h9 => by
      obtain ⟨e1, e2, e4⟩ := h9
      · subst e1
        subst e4
        exact z_catch_n (z := 1) (i := 3) F (tableOf []) ⟨0, 9, 12, 24⟩ (tableOf []) rfl (fun _ h => absurd h List.not_mem_nil) (by decide) (by decide) (zr_10 _ (List.mem_of_getElem? (i := 15) rfl)) (List.mem_of_getElem? (i := 6) rfl) rfl (by decide) dL_loadOf_12 dL_loadOf_13 (by decide) dL_loadOf_14 rfl (by first | decide | assumption | omega) (by first | decide | assumption | omega) ⟨_, rfl, zV_of (k := 1) (v := 0) (q := o.1) (c9 := o.2) (by unfold xAsk; rw [if_neg e2]) hob (fun h => absurd h (by decide))⟩) (z_ki (fun x_1 M_1 h_1 => ?_))
  obtain ⟨hq, hx9, hm9⟩ := h_1
  subst hx9
  subst hm9
  refine z_i2l F (by have := zLoad_b hc a; omega) dL_loadOf_7 ?_
  refine z_last F (zAll_33 s t o) (by decide) (by decide) (by decide) dL_loadOf_8 ?_
  have hm_2_s := zu_s (zAll s t o) 33 (zAi 2 1 (zup ((fun _ => o.1)) (0 : Int).toNat (zLoad s a)))
  refine z_ext (fun _ => zLoad s a) (zu_s _ _ _) (fun j hj => if_pos (by omega)) ?_
  refine z_M (M' := (zAll s t (zLoad s a, o.2))) (by rw [zu_zu, zMH_33]) ?_
  refine z_goto F 15 dL_loadOf_9 (by decide) ?_
  refine z_iconst (z := 0) F dL_loadOf_15 (by decide) ?_
  exact z_reti F rfl (by first | decide | assumption | omega) (by first | decide | assumption | omega) dL_loadOf_16 ⟨_, rfl, zV_of (k := 0) (v := zLoad s a) (by unfold xAsk; rw [if_pos hq]) hob (fun _ => ⟨rfl, (by have := zLoad_b hc a; omega)⟩)⟩

abbrev rL_staffAt : Room := { frames := 8, cells := 2, slots := 12, locals := 135 }
set_option maxRecDepth 100000 in
set_option maxHeartbeats 4000000 in
theorem c_L_staffAt {l : Launch} (hfl : l.stackTraces = false) (G : zG) {s t : zS} {o : zOx} (hc : zC1 s) (hb9 : zB s) (hI : zInv s) (hob : ∀ m, o.2 m = 0 ∨ o.2 m = 1) {a x : Int} (ha : zR a) (hx : zR x)  : zCn l G yL_staffAt (.codeWith yL_staffAt cL_staffAt 5 (some .int) [(0, 10, 13, 24)]) rL_staffAt [.ref 0, .int (zI a), .int (zI x), .ref 33] (zAll s t o) (zRi (zV t o (xAsk s ((0 ≤ a ∧ a < s 0 0 0) ∧ 0 ≤ x ∧ x < 600) (s 21 (a.toNat + 4) x.toNat)))) zN := by
  refine zStartH hfl (by decide) (own := RL) rfl [(0, .ref 0), (1, .int (zI a)), (2, .int (zI x)), (3, .ref 33)] (Nat.le_of_ble_eq_true rfl) rfl (fun k hkl hinit hk0 F => ?_)
  have hn0 := hc.1
  have hn4 := hc.2.1
  have hn9 := hc.2.2.1
  have hn14 := hc.2.2.2.1
  have hn18 := hc.2.2.2.2.1
  refine z_aload_n F 3 dL_staffAt_0 rfl rfl ?_
  refine z_iconst (z := 0) F dL_staffAt_1 (by decide) ?_
  refine z_aload_n F 0 dL_staffAt_2 rfl rfl ?_
  refine z_iload_n F 1 dL_staffAt_3 rfl rfl ?_
  refine z_iload_n F 2 dL_staffAt_4 rfl rfl ?_
  refine z_callV F [.int (zI a), .int (zI x)] [.int (zI 0), .ref 33] (c_X6_staffAt F.2.2.1 G (s := s) (t := t) (o := o) hc hb9 ha hx) cv_L_74 (zAll_0 s t o) rfl rfl rfl ⟨by decide, by decide⟩ ⟨by decide, by decide⟩ (Nat.le_of_ble_eq_true rfl) dL_staffAt_5 (fun E M9 h9 => by
      obtain ⟨e1, e2, e4⟩ := h9
      · subst e1
        subst e4
        exact z_catch (z := 1) (i := 4) F (tableOf []) ⟨0, 10, 13, 24⟩ (tableOf []) rfl (fun _ h => absurd h List.not_mem_nil) (by decide) (by decide) (zr_10 _ (List.mem_of_getElem? (i := 15) rfl)) (List.mem_of_getElem? (i := 6) rfl) (by decide) dL_staffAt_13 dL_staffAt_15 (by decide) dL_staffAt_16 rfl (by first | decide | assumption | omega) (by first | decide | assumption | omega) ⟨_, rfl, zV_of (k := 1) (v := 0) (q := o.1) (c9 := o.2) (by unfold xAsk; rw [if_neg e2]) hob (fun h => absurd h (by decide))⟩) (z_ki (fun x_1 M_1 h_1 => ?_))
  obtain ⟨hq, hx9, hm9⟩ := h_1
  subst hx9
  subst hm9
  refine z_i2l F (hb9.r 21 _ _) dL_staffAt_8 ?_
  refine z_last F (zAll_33 s t o) (by decide) (by decide) (by decide) dL_staffAt_9 ?_
  have hm_2_s := zu_s (zAll s t o) 33 (zAi 2 1 (zup ((fun _ => o.1)) (0 : Int).toNat (s 21 (a.toNat + 4) x.toNat)))
  refine z_ext (fun _ => s 21 (a.toNat + 4) x.toNat) (zu_s _ _ _) (fun j hj => if_pos (by omega)) ?_
  refine z_M (M' := (zAll s t (s 21 (a.toNat + 4) x.toNat, o.2))) (by rw [zu_zu, zMH_33]) ?_
  refine z_goto F 17 dL_staffAt_10 (by decide) ?_
  refine z_iconst (z := 0) F dL_staffAt_17 (by decide) ?_
  exact z_reti F rfl (by first | decide | assumption | omega) (by first | decide | assumption | omega) dL_staffAt_18 ⟨_, rfl, zV_of (k := 0) (v := s 21 (a.toNat + 4) x.toNat) (by unfold xAsk; rw [if_pos hq]) hob (fun _ => ⟨rfl, (hb9.r 21 _ _)⟩)⟩

abbrev rL_chairAt : Room := { frames := 8, cells := 1, slots := 6, locals := 134 }
set_option maxRecDepth 100000 in
set_option maxHeartbeats 4000000 in
theorem c_L_chairAt {l : Launch} (hfl : l.stackTraces = false) (G : zG) {s t : zS} {o : zOx} (hc : zC1 s) (hb9 : zB s) (hI : zInv s) (hob : ∀ m, o.2 m = 0 ∨ o.2 m = 1) {a x : Int} (ha : zR a) (hx : zR x)  : zCn l G yL_chairAt (.codeWith yL_chairAt cL_chairAt 5 (some .int) [(0, 10, 13, 24)]) rL_chairAt [.ref 0, .int (zI a), .int (zI x), .ref 33] (zAll s t o) (zRi (zV t o (xAsk s ((0 ≤ a ∧ a < 4) ∧ 0 ≤ x ∧ x < 600) (s 21 a.toNat x.toNat)))) zN := by
  refine zStartH hfl (by decide) (own := RL) rfl [(0, .ref 0), (1, .int (zI a)), (2, .int (zI x)), (3, .ref 33)] (Nat.le_of_ble_eq_true rfl) rfl (fun k hkl hinit hk0 F => ?_)
  have hn0 := hc.1
  have hn4 := hc.2.1
  have hn9 := hc.2.2.1
  have hn14 := hc.2.2.2.1
  have hn18 := hc.2.2.2.2.1
  refine z_aload_n F 3 dL_chairAt_0 rfl rfl ?_
  refine z_iconst (z := 0) F dL_chairAt_1 (by decide) ?_
  refine z_aload_n F 0 dL_chairAt_2 rfl rfl ?_
  refine z_iload_n F 1 dL_chairAt_3 rfl rfl ?_
  refine z_iload_n F 2 dL_chairAt_4 rfl rfl ?_
  refine z_callV F [.int (zI a), .int (zI x)] [.int (zI 0), .ref 33] (c_X6_chairAt F.2.2.1 G (s := s) (t := t) (o := o) hc hb9 ha hx) cv_L_77 (zAll_0 s t o) rfl rfl rfl ⟨by decide, by decide⟩ ⟨by decide, by decide⟩ (Nat.le_of_ble_eq_true rfl) dL_chairAt_5 (fun E M9 h9 => by
      obtain ⟨e1, e2, e4⟩ := h9
      · subst e1
        subst e4
        exact z_catch (z := 1) (i := 4) F (tableOf []) ⟨0, 10, 13, 24⟩ (tableOf []) rfl (fun _ h => absurd h List.not_mem_nil) (by decide) (by decide) (zr_10 _ (List.mem_of_getElem? (i := 15) rfl)) (List.mem_of_getElem? (i := 6) rfl) (by decide) dL_chairAt_13 dL_chairAt_15 (by decide) dL_chairAt_16 rfl (by first | decide | assumption | omega) (by first | decide | assumption | omega) ⟨_, rfl, zV_of (k := 1) (v := 0) (q := o.1) (c9 := o.2) (by unfold xAsk; rw [if_neg e2]) hob (fun h => absurd h (by decide))⟩) (z_ki (fun x_1 M_1 h_1 => ?_))
  obtain ⟨hq, hx9, hm9⟩ := h_1
  subst hx9
  subst hm9
  refine z_i2l F (hb9.r 21 _ _) dL_chairAt_8 ?_
  refine z_last F (zAll_33 s t o) (by decide) (by decide) (by decide) dL_chairAt_9 ?_
  have hm_2_s := zu_s (zAll s t o) 33 (zAi 2 1 (zup ((fun _ => o.1)) (0 : Int).toNat (s 21 a.toNat x.toNat)))
  refine z_ext (fun _ => s 21 a.toNat x.toNat) (zu_s _ _ _) (fun j hj => if_pos (by omega)) ?_
  refine z_M (M' := (zAll s t (s 21 a.toNat x.toNat, o.2))) (by rw [zu_zu, zMH_33]) ?_
  refine z_goto F 17 dL_chairAt_10 (by decide) ?_
  refine z_iconst (z := 0) F dL_chairAt_17 (by decide) ?_
  exact z_reti F rfl (by first | decide | assumption | omega) (by first | decide | assumption | omega) dL_chairAt_18 ⟨_, rfl, zV_of (k := 0) (v := s 21 a.toNat x.toNat) (by unfold xAsk; rw [if_pos hq]) hob (fun _ => ⟨rfl, (hb9.r 21 _ _)⟩)⟩

abbrev rL_earliest : Room := { frames := 8, cells := 2, slots := 12, locals := 184 }
set_option maxRecDepth 100000 in
set_option maxHeartbeats 4000000 in
theorem c_L_earliest {l : Launch} (hfl : l.stackTraces = false) (G : zG) {s t : zS} {o : zOx} (hc : zC1 s) (hb9 : zB s) (hI : zInv s) (hob : ∀ m, o.2 m = 0 ∨ o.2 m = 1) {a x : Int} (ha : zR a) (hx : zR x)  : zCn l G yL_earliest (.codeWith yL_earliest cL_earliest 5 (some .int) [(0, 10, 13, 24)]) rL_earliest [.ref 0, .int (zI a), .int (zI x), .ref 33] (zAll s t o) (zRi (zV t o (xAsk s ((0 ≤ a ∧ a < s 4 0 0) ∧ 0 ≤ x ∧ x < 600) (zFind s (zBit 31) a.toNat x 600)))) zN := by
  refine zStartH hfl (by decide) (own := RL) rfl [(0, .ref 0), (1, .int (zI a)), (2, .int (zI x)), (3, .ref 33)] (Nat.le_of_ble_eq_true rfl) rfl (fun k hkl hinit hk0 F => ?_)
  have hn0 := hc.1
  have hn4 := hc.2.1
  have hn9 := hc.2.2.1
  have hn14 := hc.2.2.2.1
  have hn18 := hc.2.2.2.2.1
  refine z_aload_n F 3 dL_earliest_0 rfl rfl ?_
  refine z_iconst (z := 0) F dL_earliest_1 (by decide) ?_
  refine z_aload_n F 0 dL_earliest_2 rfl rfl ?_
  refine z_iload_n F 1 dL_earliest_3 rfl rfl ?_
  refine z_iload_n F 2 dL_earliest_4 rfl rfl ?_
  refine z_callV F [.int (zI a), .int (zI x)] [.int (zI 0), .ref 33] (c_X6_earliest F.2.2.1 G (s := s) (t := t) (o := o) hc hb9 ha hx hI.ha) cv_L_80 (zAll_0 s t o) rfl rfl rfl ⟨by decide, by decide⟩ ⟨by decide, by decide⟩ (Nat.le_of_ble_eq_true rfl) dL_earliest_5 (fun E M9 h9 => by
      obtain ⟨e1, e2, e4⟩ := h9
      · subst e1
        subst e4
        exact z_catch (z := 1) (i := 4) F (tableOf []) ⟨0, 10, 13, 24⟩ (tableOf []) rfl (fun _ h => absurd h List.not_mem_nil) (by decide) (by decide) (zr_10 _ (List.mem_of_getElem? (i := 15) rfl)) (List.mem_of_getElem? (i := 6) rfl) (by decide) dL_earliest_13 dL_earliest_15 (by decide) dL_earliest_16 rfl (by first | decide | assumption | omega) (by first | decide | assumption | omega) ⟨_, rfl, zV_of (k := 1) (v := 0) (q := o.1) (c9 := o.2) (by unfold xAsk; rw [if_neg e2]) hob (fun h => absurd h (by decide))⟩) (z_ki (fun x_1 M_1 h_1 => ?_))
  obtain ⟨hq, hx9, ck, hm9, hk1⟩ := h_1
  subst hx9
  subst hm9
  refine z_i2l F (by have hfr9 := zFind_r s (zBit 31) a.toNat x 600; have hln := hc.len a.toNat; constructor <;> (rcases hfr9 with h9 | h9 <;> omega)) dL_earliest_8 ?_
  refine z_last F (zAll_33 s t (o.1, ck)) (by decide) (by decide) (by decide) dL_earliest_9 ?_
  have hm_2_s := zu_s (zAll s t (o.1, ck)) 33 (zAi 2 1 (zup ((fun _ => (o.1, ck).1)) (0 : Int).toNat (zFind s (zBit 31) a.toNat x 600)))
  refine z_ext (fun _ => zFind s (zBit 31) a.toNat x 600) (zu_s _ _ _) (fun j hj => if_pos (by omega)) ?_
  refine z_M (M' := (zAll s t (zFind s (zBit 31) a.toNat x 600, ck))) (by rw [zu_zu, zMH_33]) ?_
  refine z_goto F 17 dL_earliest_10 (by decide) ?_
  refine z_iconst (z := 0) F dL_earliest_17 (by decide) ?_
  exact z_reti F rfl (by first | decide | assumption | omega) (by first | decide | assumption | omega) dL_earliest_18 ⟨_, rfl, zV_of (k := 0) (v := zFind s (zBit 31) a.toNat x 600) (by unfold xAsk; rw [if_pos hq]) hk1 (fun _ => ⟨rfl, (by have hfr9 := zFind_r s (zBit 31) a.toNat x 600; have hln := hc.len a.toNat; constructor <;> (rcases hfr9 with h9 | h9 <;> omega))⟩)⟩

abbrev rL_earliestByScan : Room := { frames := 8, cells := 2, slots := 12, locals := 185 }
set_option maxRecDepth 100000 in
set_option maxHeartbeats 4000000 in
theorem c_L_earliestByScan {l : Launch} (hfl : l.stackTraces = false) (G : zG) {s t : zS} {o : zOx} (hc : zC1 s) (hb9 : zB s) (hI : zInv s) (hob : ∀ m, o.2 m = 0 ∨ o.2 m = 1) {a x : Int} (ha : zR a) (hx : zR x)  : zCn l G yL_earliestByScan (.codeWith yL_earliestByScan cL_earliestByScan 5 (some .int) [(0, 10, 13, 24)]) rL_earliestByScan [.ref 0, .int (zI a), .int (zI x), .ref 33] (zAll s t o) (zRi (zV t o (xAsk s ((0 ≤ a ∧ a < s 4 0 0) ∧ 0 ≤ x ∧ x < 600) (zFind s (zBit 31) a.toNat x 600)))) zN := by
  refine zStartH hfl (by decide) (own := RL) rfl [(0, .ref 0), (1, .int (zI a)), (2, .int (zI x)), (3, .ref 33)] (Nat.le_of_ble_eq_true rfl) rfl (fun k hkl hinit hk0 F => ?_)
  have hn0 := hc.1
  have hn4 := hc.2.1
  have hn9 := hc.2.2.1
  have hn14 := hc.2.2.2.1
  have hn18 := hc.2.2.2.2.1
  refine z_aload_n F 3 dL_earliestByScan_0 rfl rfl ?_
  refine z_iconst (z := 0) F dL_earliestByScan_1 (by decide) ?_
  refine z_aload_n F 0 dL_earliestByScan_2 rfl rfl ?_
  refine z_iload_n F 1 dL_earliestByScan_3 rfl rfl ?_
  refine z_iload_n F 2 dL_earliestByScan_4 rfl rfl ?_
  refine z_callV F [.int (zI a), .int (zI x)] [.int (zI 0), .ref 33] (c_X6_earliestByScan F.2.2.1 G (s := s) (t := t) (o := o) hc hb9 ha hx) cv_L_83 (zAll_0 s t o) rfl rfl rfl ⟨by decide, by decide⟩ ⟨by decide, by decide⟩ (Nat.le_of_ble_eq_true rfl) dL_earliestByScan_5 (fun E M9 h9 => by
      obtain ⟨e1, e2, e4⟩ := h9
      · subst e1
        subst e4
        exact z_catch (z := 1) (i := 4) F (tableOf []) ⟨0, 10, 13, 24⟩ (tableOf []) rfl (fun _ h => absurd h List.not_mem_nil) (by decide) (by decide) (zr_10 _ (List.mem_of_getElem? (i := 15) rfl)) (List.mem_of_getElem? (i := 6) rfl) (by decide) dL_earliestByScan_13 dL_earliestByScan_15 (by decide) dL_earliestByScan_16 rfl (by first | decide | assumption | omega) (by first | decide | assumption | omega) ⟨_, rfl, zV_of (k := 1) (v := 0) (q := o.1) (c9 := o.2) (by unfold xAsk; rw [if_neg e2]) hob (fun h => absurd h (by decide))⟩) (z_ki (fun x_1 M_1 h_1 => ?_))
  obtain ⟨hq, hx9, hm9⟩ := h_1
  subst hx9
  subst hm9
  refine z_i2l F (by have hfr9 := zFind_r s (zBit 31) a.toNat x 600; have hln := hc.len a.toNat; constructor <;> (rcases hfr9 with h9 | h9 <;> omega)) dL_earliestByScan_8 ?_
  refine z_last F (zAll_33 s t o) (by decide) (by decide) (by decide) dL_earliestByScan_9 ?_
  have hm_2_s := zu_s (zAll s t o) 33 (zAi 2 1 (zup ((fun _ => o.1)) (0 : Int).toNat (zFind s (zBit 31) a.toNat x 600)))
  refine z_ext (fun _ => zFind s (zBit 31) a.toNat x 600) (zu_s _ _ _) (fun j hj => if_pos (by omega)) ?_
  refine z_M (M' := (zAll s t (zFind s (zBit 31) a.toNat x 600, o.2))) (by rw [zu_zu, zMH_33]) ?_
  refine z_goto F 17 dL_earliestByScan_10 (by decide) ?_
  refine z_iconst (z := 0) F dL_earliestByScan_17 (by decide) ?_
  exact z_reti F rfl (by first | decide | assumption | omega) (by first | decide | assumption | omega) dL_earliestByScan_18 ⟨_, rfl, zV_of (k := 0) (v := zFind s (zBit 31) a.toNat x 600) (by unfold xAsk; rw [if_pos hq]) hob (fun _ => ⟨rfl, (by have hfr9 := zFind_r s (zBit 31) a.toNat x 600; have hln := hc.len a.toNat; constructor <;> (rcases hfr9 with h9 | h9 <;> omega))⟩)⟩

abbrev rL_staffFor : Room := { frames := 8, cells := 2, slots := 12, locals := 186 }
set_option maxRecDepth 100000 in
set_option maxHeartbeats 4000000 in
theorem c_L_staffFor {l : Launch} (hfl : l.stackTraces = false) (G : zG) {s t : zS} {o : zOx} (hc : zC1 s) (hb9 : zB s) (hI : zInv s) (hob : ∀ m, o.2 m = 0 ∨ o.2 m = 1) {a x : Int} (ha : zR a) (hx : zR x)  : zCn l G yL_staffFor (.codeWith yL_staffFor cL_staffFor 5 (some .int) [(0, 10, 13, 24)]) rL_staffFor [.ref 0, .int (zI a), .int (zI x), .ref 33] (zAll s t o) (zRi (zV t o (xAsk s ((0 ≤ a ∧ a < s 4 0 0) ∧ 0 ≤ x ∧ x < 600) ((if zFind s (zBit 31) a.toNat x 600 = -1 then -1 else zGet s (zBit 31) a.toNat (zFind s (zBit 31) a.toNat x 600)))))) zN := by
  refine zStartH hfl (by decide) (own := RL) rfl [(0, .ref 0), (1, .int (zI a)), (2, .int (zI x)), (3, .ref 33)] (Nat.le_of_ble_eq_true rfl) rfl (fun k hkl hinit hk0 F => ?_)
  have hn0 := hc.1
  have hn4 := hc.2.1
  have hn9 := hc.2.2.1
  have hn14 := hc.2.2.2.1
  have hn18 := hc.2.2.2.2.1
  refine z_aload_n F 3 dL_staffFor_0 rfl rfl ?_
  refine z_iconst (z := 0) F dL_staffFor_1 (by decide) ?_
  refine z_aload_n F 0 dL_staffFor_2 rfl rfl ?_
  refine z_iload_n F 1 dL_staffFor_3 rfl rfl ?_
  refine z_iload_n F 2 dL_staffFor_4 rfl rfl ?_
  refine z_callV F [.int (zI a), .int (zI x)] [.int (zI 0), .ref 33] (c_X6_staffFor F.2.2.1 G (s := s) (t := t) (o := o) hc hb9 ha hx hI.ha) cv_L_86 (zAll_0 s t o) rfl rfl rfl ⟨by decide, by decide⟩ ⟨by decide, by decide⟩ (Nat.le_of_ble_eq_true rfl) dL_staffFor_5 (fun E M9 h9 => by
      obtain ⟨e1, e2, e4⟩ := h9
      · subst e1
        subst e4
        exact z_catch (z := 1) (i := 4) F (tableOf []) ⟨0, 10, 13, 24⟩ (tableOf []) rfl (fun _ h => absurd h List.not_mem_nil) (by decide) (by decide) (zr_10 _ (List.mem_of_getElem? (i := 15) rfl)) (List.mem_of_getElem? (i := 6) rfl) (by decide) dL_staffFor_13 dL_staffFor_15 (by decide) dL_staffFor_16 rfl (by first | decide | assumption | omega) (by first | decide | assumption | omega) ⟨_, rfl, zV_of (k := 1) (v := 0) (q := o.1) (c9 := o.2) (by unfold xAsk; rw [if_neg e2]) hob (fun h => absurd h (by decide))⟩) (z_ki (fun x_1 M_1 h_1 => ?_))
  obtain ⟨hq, hx9, ck, hm9, hk1⟩ := h_1
  subst hx9
  subst hm9
  refine z_i2l F (by split; exact ⟨by decide, by decide⟩; have := zGet_r hc (zBit 31) a.toNat (zFind s (zBit 31) a.toNat x 600); omega) dL_staffFor_8 ?_
  refine z_last F (zAll_33 s t (o.1, ck)) (by decide) (by decide) (by decide) dL_staffFor_9 ?_
  have hm_2_s := zu_s (zAll s t (o.1, ck)) 33 (zAi 2 1 (zup ((fun _ => (o.1, ck).1)) (0 : Int).toNat ((if zFind s (zBit 31) a.toNat x 600 = -1 then -1 else zGet s (zBit 31) a.toNat (zFind s (zBit 31) a.toNat x 600)))))
  refine z_ext (fun _ => (if zFind s (zBit 31) a.toNat x 600 = -1 then -1 else zGet s (zBit 31) a.toNat (zFind s (zBit 31) a.toNat x 600))) (zu_s _ _ _) (fun j hj => if_pos (by omega)) ?_
  refine z_M (M' := (zAll s t ((if zFind s (zBit 31) a.toNat x 600 = -1 then -1 else zGet s (zBit 31) a.toNat (zFind s (zBit 31) a.toNat x 600)), ck))) (by rw [zu_zu, zMH_33]) ?_
  refine z_goto F 17 dL_staffFor_10 (by decide) ?_
  refine z_iconst (z := 0) F dL_staffFor_17 (by decide) ?_
  exact z_reti F rfl (by first | decide | assumption | omega) (by first | decide | assumption | omega) dL_staffFor_18 ⟨_, rfl, zV_of (k := 0) (v := (if zFind s (zBit 31) a.toNat x 600 = -1 then -1 else zGet s (zBit 31) a.toNat (zFind s (zBit 31) a.toNat x 600))) (by unfold xAsk; rw [if_pos hq]) hk1 (fun _ => ⟨rfl, (by split; exact ⟨by decide, by decide⟩; have := zGet_r hc (zBit 31) a.toNat (zFind s (zBit 31) a.toNat x 600); omega)⟩)⟩

abbrev rL_inRest : Room := { frames := 9, cells := 3, slots := 18, locals := 191 }
set_option maxRecDepth 100000 in
set_option maxHeartbeats 4000000 in
theorem c_L_inRest {l : Launch} (hfl : l.stackTraces = false) (G : zG) {s t : zS} {o : zOx} (hc : zC1 s) (hb9 : zB s) (hI : zInv s) (hob : ∀ m, o.2 m = 0 ∨ o.2 m = 1) {a x : Int} (ha : zR a) (hx : zR x)  : zCn l G yL_inRest (.codeWith yL_inRest cL_inRest 5 (some .int) [(0, 10, 13, 24)]) rL_inRest [.ref 0, .int (zI a), .int (zI x), .ref 33] (zAll s t o) (zRi (zV t o (xAsk s (((0 ≤ a ∧ a < s 9 0 0) ∧ ¬ s 13 a.toNat 0 = -1) ∧ 0 ≤ x ∧ x < s 4 0 0) (zRest s a.toNat x.toNat)))) zN := by
  refine zStartH hfl (by decide) (own := RL) rfl [(0, .ref 0), (1, .int (zI a)), (2, .int (zI x)), (3, .ref 33)] (Nat.le_of_ble_eq_true rfl) rfl (fun k hkl hinit hk0 F => ?_)
  have hn0 := hc.1
  have hn4 := hc.2.1
  have hn9 := hc.2.2.1
  have hn14 := hc.2.2.2.1
  have hn18 := hc.2.2.2.2.1
  refine z_aload_n F 3 dL_inRest_0 rfl rfl ?_
  refine z_iconst (z := 0) F dL_inRest_1 (by decide) ?_
  refine z_aload_n F 0 dL_inRest_2 rfl rfl ?_
  refine z_iload_n F 1 dL_inRest_3 rfl rfl ?_
  refine z_iload_n F 2 dL_inRest_4 rfl rfl ?_
  refine z_callV F [.int (zI a), .int (zI x)] [.int (zI 0), .ref 33] (c_X6_inRest F.2.2.1 G (s := s) (t := t) (o := o) hc hb9 ha hx) cv_L_89 (zAll_0 s t o) rfl rfl rfl ⟨by decide, by decide⟩ ⟨by decide, by decide⟩ (Nat.le_of_ble_eq_true rfl) dL_inRest_5 (fun E M9 h9 => by
      obtain ⟨e1, e2, e4⟩ := h9
      · subst e1
        subst e4
        exact z_catch (z := 1) (i := 4) F (tableOf []) ⟨0, 10, 13, 24⟩ (tableOf []) rfl (fun _ h => absurd h List.not_mem_nil) (by decide) (by decide) (zr_10 _ (List.mem_of_getElem? (i := 15) rfl)) (List.mem_of_getElem? (i := 6) rfl) (by decide) dL_inRest_13 dL_inRest_15 (by decide) dL_inRest_16 rfl (by first | decide | assumption | omega) (by first | decide | assumption | omega) ⟨_, rfl, zV_of (k := 1) (v := 0) (q := o.1) (c9 := o.2) (by unfold xAsk; rw [if_neg e2]) hob (fun h => absurd h (by decide))⟩) (z_ki (fun x_1 M_1 h_1 => ?_))
  obtain ⟨hq, hx9, hm9⟩ := h_1
  subst hx9
  subst hm9
  refine z_i2l F (by have h9 := zIn_b hc (v := a.toNat) (a := x.toNat) (by have := hI.v (v := a.toNat) (by omega) hq.1.2; have := hb9 13 a.toNat 0; omega) (zSc s (s 10 a.toNat 0).toNat) 0; have h8 := (hc.sc (s 10 a.toNat 0).toNat).1; have e9 : zRest s a.toNat x.toNat = zIn s a.toNat x.toNat (zSc s (s 10 a.toNat 0).toNat) 0 := rfl; constructor <;> omega) dL_inRest_8 ?_
  refine z_last F (zAll_33 s t o) (by decide) (by decide) (by decide) dL_inRest_9 ?_
  have hm_2_s := zu_s (zAll s t o) 33 (zAi 2 1 (zup ((fun _ => o.1)) (0 : Int).toNat (zRest s a.toNat x.toNat)))
  refine z_ext (fun _ => zRest s a.toNat x.toNat) (zu_s _ _ _) (fun j hj => if_pos (by omega)) ?_
  refine z_M (M' := (zAll s t (zRest s a.toNat x.toNat, o.2))) (by rw [zu_zu, zMH_33]) ?_
  refine z_goto F 17 dL_inRest_10 (by decide) ?_
  refine z_iconst (z := 0) F dL_inRest_17 (by decide) ?_
  exact z_reti F rfl (by first | decide | assumption | omega) (by first | decide | assumption | omega) dL_inRest_18 ⟨_, rfl, zV_of (k := 0) (v := zRest s a.toNat x.toNat) (by unfold xAsk; rw [if_pos hq]) hob (fun _ => ⟨rfl, (by have h9 := zIn_b hc (v := a.toNat) (a := x.toNat) (by have := hI.v (v := a.toNat) (by omega) hq.1.2; have := hb9 13 a.toNat 0; omega) (zSc s (s 10 a.toNat 0).toNat) 0; have h8 := (hc.sc (s 10 a.toNat 0).toNat).1; have e9 : zRest s a.toNat x.toNat = zIn s a.toNat x.toNat (zSc s (s 10 a.toNat 0).toNat) 0 := rfl; constructor <;> omega)⟩)⟩

abbrev rL_fill : Room := { frames := 7, cells := 1, slots := 6, locals := 118 }
set_option maxRecDepth 100000 in
set_option maxHeartbeats 4000000 in
theorem c_L_fill {l : Launch} (hfl : l.stackTraces = false) (G : zG) {s t : zS} {o : zOx} (hc : zC1 s) (hb9 : zB s) (hI : zInv s) (hob : ∀ m, o.2 m = 0 ∨ o.2 m = 1) {x : Int} (hx : zR x)  : zCn l G yL_fill (.codeWith yL_fill cL_fill 4 (some .int) [(0, 9, 12, 13)]) rL_fill [.ref 0, .int (zI x), .ref 33] (zAll s t o) (zRi (zV t o (xAsk s (0 ≤ x ∧ x ≤ 600) ((zFil s x (2 ^ (s 4 0 0).toNat)).1)))) zN := by
  refine zStartH hfl (by decide) (own := RL) rfl [(0, .ref 0), (1, .int (zI x)), (2, .ref 33)] (Nat.le_of_ble_eq_true rfl) rfl (fun k hkl hinit hk0 F => ?_)
  have hn0 := hc.1
  have hn4 := hc.2.1
  have hn9 := hc.2.2.1
  have hn14 := hc.2.2.2.1
  have hn18 := hc.2.2.2.2.1
  refine z_aload_n F 2 dL_fill_0 rfl rfl ?_
  refine z_iconst (z := 0) F dL_fill_1 (by decide) ?_
  refine z_aload_n F 0 dL_fill_2 rfl rfl ?_
  refine z_iload_n F 1 dL_fill_3 rfl rfl ?_
  refine z_callV F [.int (zI x)] [.int (zI 0), .ref 33] (c_X6_fill F.2.2.1 G (s := s) (t := t) (o := o) hc hb9 hx) cv_L_92 (zAll_0 s t o) rfl rfl rfl ⟨by decide, by decide⟩ ⟨by decide, by decide⟩ (Nat.le_of_ble_eq_true rfl) dL_fill_4 (fun E M9 h9 => by
      obtain ⟨e1, e2, e4⟩ := h9
      · subst e1
        subst e4
        exact z_catch_n (z := 1) (i := 3) F (tableOf []) ⟨0, 9, 12, 13⟩ (tableOf []) rfl (fun _ h => absurd h List.not_mem_nil) (by decide) (by decide) (zr_4 _ (List.mem_of_getElem? (i := 6) rfl)) (List.mem_of_getElem? (i := 4) rfl) rfl (by decide) dL_fill_12 dL_fill_13 (by decide) dL_fill_14 rfl (by first | decide | assumption | omega) (by first | decide | assumption | omega) ⟨_, rfl, zV_of (k := 1) (v := 0) (q := o.1) (c9 := o.2) (by unfold xAsk; rw [if_neg e2]) hob (fun h => absurd h (by decide))⟩) (z_ki (fun x_1 M_1 h_1 => ?_))
  obtain ⟨hq, hx9, hm9⟩ := h_1
  subst hx9
  subst hm9
  refine z_i2l F (by have h9 := zFil_r hc x (2 ^ (s 4 0 0).toNat); have h8 : (2 : Nat) ^ (s 4 0 0).toNat ≤ 2 ^ 8 := Nat.pow_le_pow_right (by decide) (by omega); constructor <;> omega) dL_fill_7 ?_
  refine z_last F (zAll_33 s t o) (by decide) (by decide) (by decide) dL_fill_8 ?_
  have hm_2_s := zu_s (zAll s t o) 33 (zAi 2 1 (zup ((fun _ => o.1)) (0 : Int).toNat ((zFil s x (2 ^ (s 4 0 0).toNat)).1)))
  refine z_ext (fun _ => (zFil s x (2 ^ (s 4 0 0).toNat)).1) (zu_s _ _ _) (fun j hj => if_pos (by omega)) ?_
  refine z_M (M' := (zAll s t ((zFil s x (2 ^ (s 4 0 0).toNat)).1, o.2))) (by rw [zu_zu, zMH_33]) ?_
  refine z_goto F 15 dL_fill_9 (by decide) ?_
  refine z_iconst (z := 0) F dL_fill_15 (by decide) ?_
  exact z_reti F rfl (by first | decide | assumption | omega) (by first | decide | assumption | omega) dL_fill_16 ⟨_, rfl, zV_of (k := 0) (v := (zFil s x (2 ^ (s 4 0 0).toNat)).1) (by unfold xAsk; rw [if_pos hq]) hob (fun _ => ⟨rfl, (by have h9 := zFil_r hc x (2 ^ (s 4 0 0).toNat); have h8 : (2 : Nat) ^ (s 4 0 0).toNat ≤ 2 ^ 8 := Nat.pow_le_pow_right (by decide) (by omega); constructor <;> omega)⟩)⟩

