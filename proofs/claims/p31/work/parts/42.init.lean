/-! ===== the constructors: the first state ===== -/
/-- the first state -/
def z0 : zS := fun f _ _ => if f = 21 then -1 else 0
/-- the class's part of the heap, first -/
def zC0 : zM := fun a => if a % 64 = 5 then (if a / 64 = 0 then some (zAi 1 600 (fun _ => 0)) else none) else if a % 64 < 16 then zCls z0 (a % 64) (a / 64) else none
theorem zMin_1 (v : Nat) : 1 ≤ zMin v := by
  rcases v with _ | _ | _ | v
  · decide
  · decide
  · decide
  · show (1 : Int) ≤ 23
    decide
theorem zC0_n {a : Nat} (h0 : ¬ a = 0) (h1 : ¬ a = 1) (h65 : ¬ a = 65) (h129 : ¬ a = 129) (h193 : ¬ a = 193) (h3 : ¬ a = 3) (h4 : ¬ a = 4) (h5 : ¬ a = 5) (h6 : ¬ a = 6) (h7 : ¬ a = 7) (h8 : ¬ a = 8) (h70 : ¬ a = 70) (h71 : ¬ a = 71) (h72 : ¬ a = 72) (h134 : ¬ a = 134) (h135 : ¬ a = 135) (h136 : ¬ a = 136) (h198 : ¬ a = 198) (h199 : ¬ a = 199) (h200 : ¬ a = 200) : zC0 a = none := by
  unfold zC0
  by_cases e5 : a % 64 = 5
  · rw [if_pos e5, if_neg (by omega)]
  · rw [if_neg e5]
    by_cases e16 : a % 64 < 16
    · rw [if_pos e16]
      have hz : ∀ f i j, z0 f i j = if f = 21 then -1 else 0 := fun _ _ _ => rfl
      rcases (show a % 64 = 0 ∨ a % 64 = 1 ∨ a % 64 = 2 ∨ a % 64 = 3 ∨ a % 64 = 4 ∨ a % 64 = 6 ∨ a % 64 = 7 ∨ a % 64 = 8 ∨ a % 64 = 9 ∨ a % 64 = 10 ∨ a % 64 = 11 ∨ a % 64 = 12 ∨ a % 64 = 13 ∨ a % 64 = 14 ∨ a % 64 = 15 by omega) with e | e | e | e | e | e | e | e | e | e | e | e | e | e | e <;> rw [e]
      · exact if_neg (by omega)
      · show (if a / 64 = 0 then _ else if a / 64 = 1 then _ else if a / 64 = 2 then _ else if a / 64 = 3 then _ else none) = none
        rw [if_neg (by omega), if_neg (by omega), if_neg (by omega), if_neg (by omega)]
      · show (if a / 64 % 4 = 0 then (if a / 64 = 0 ∧ (0 : Int) < 0 then _ else none) else if a / 64 % 4 = 1 then (if a / 64 = 1 ∧ (0 : Int) < 0 then _ else none) else if a / 64 % 4 = 2 then (if a / 64 / 4 ≤ 3 ∧ zMin (a / 64 / 4) ≤ 0 then _ else none) else (if a / 64 = 3 ∧ (0 : Int) < 0 then _ else none)) = none
        have hm := zMin_1 (a / 64 / 4)
        split
        · exact if_neg (by omega)
        · split
          · exact if_neg (by omega)
          · split
            · exact if_neg (by omega)
            · exact if_neg (by omega)
      · exact if_neg (by omega)
      · exact if_neg (by omega)
      · exact if_neg (show ¬ ((a / 64 : Nat) : Int) < 4 + 0 by omega)
      · exact if_neg (show ¬ ((a / 64 : Nat) : Int) < 4 + 0 by omega)
      · exact if_neg (show ¬ ((a / 64 : Nat) : Int) < 4 + 0 by omega)
      · rfl
      · rfl
      · rfl
      · rfl
      · rfl
      · rfl
      · rfl
    · rw [if_neg e16]
set_option maxRecDepth 100000 in
set_option maxHeartbeats 4000000 in
theorem zC0_eq : zu (zu (zu (zu (zu (zu (zu (zu (zu (zu (zu (zu (zu (zu (zu (zu (zu (zu (zu (zu (zu (zu (zu (zu (zu (zu (zu (zu (zu (zu (zu (zu (zu (zu (zu (zu (zu (zu (zu (zu (fun _ => none) 0 (zOb 7 [.null, .null, .null, .null, .null, .null])) 1 (zOb 0 [.int (zI 0), .null, .int (zI 0)])) 1 (zOb 0 [.int (zI 0), .ref 63, .int (zI 0)])) 0 (zOb 7 [.ref 1, .null, .null, .null, .null, .null])) 65 (zOb 0 [.int (zI 0), .null, .int (zI 0)])) 65 (zOb 0 [.int (zI 0), .ref 63, .int (zI 0)])) 0 (zOb 7 [.ref 1, .ref 65, .null, .null, .null, .null])) 129 (zOb 0 [.int (zI 0), .null, .int (zI 0)])) 129 (zOb 0 [.int (zI 0), .ref 63, .int (zI 0)])) 0 (zOb 7 [.ref 1, .ref 65, .ref 129, .null, .null, .null])) 193 (zOb 0 [.int (zI 0), .null, .int (zI 0)])) 193 (zOb 0 [.int (zI 0), .ref 63, .int (zI 0)])) 0 (zOb 7 [.ref 1, .ref 65, .ref 129, .ref 193, .null, .null])) 3 (zAr 3 4 (fun _ => none))) 0 (zOb 7 [.ref 1, .ref 65, .ref 129, .ref 193, .ref 3, .null])) 6 (zOb 1 [.null, .null])) 6 (zOb 1 [.ref 7, .ref 8])) 7 (zAi 0 600 (fun _ => -1))) 8 (zAi 0 601 (zTk (fun _ => -1)))) 3 (zAr 3 4 (va_up (fun _ => none) (0 : Int).toNat (some 6)))) 70 (zOb 1 [.null, .null])) 70 (zOb 1 [.ref 71, .ref 72])) 71 (zAi 0 600 (fun _ => -1))) 72 (zAi 0 601 (zTk (fun _ => -1)))) 3 (zAr 3 4 (va_up (va_up (fun _ => none) (0 : Int).toNat (some 6)) (1 : Int).toNat (some 70)))) 134 (zOb 1 [.null, .null])) 134 (zOb 1 [.ref 135, .ref 136])) 135 (zAi 0 600 (fun _ => -1))) 136 (zAi 0 601 (zTk (fun _ => -1)))) 3 (zAr 3 4 (va_up (va_up (va_up (fun _ => none) (0 : Int).toNat (some 6)) (1 : Int).toNat (some 70)) (2 : Int).toNat (some 134)))) 198 (zOb 1 [.null, .null])) 198 (zOb 1 [.ref 199, .ref 200])) 199 (zAi 0 600 (fun _ => -1))) 200 (zAi 0 601 (zTk (fun _ => -1)))) 3 (zAr 3 4 (va_up (va_up (va_up (va_up (fun _ => none) (0 : Int).toNat (some 6)) (1 : Int).toNat (some 70)) (2 : Int).toNat (some 134)) (3 : Int).toNat (some 198)))) 3 (zAr 3 4 (fun j => if j < 4 then some (64 * j + 6) else none))) 4 (zOb 3 [.null])) 4 (zOb 3 [.ref 5])) 5 (zAi 1 600 (fun _ => 0))) 0 (zOb 7 [.ref 1, .ref 65, .ref 129, .ref 193, .ref 3, .ref 4]) = zC0 := by
  funext a
  by_cases h0 : a = 0
  · subst h0; rfl
  by_cases h1 : a = 1
  · subst h1; rfl
  by_cases h65 : a = 65
  · subst h65; rfl
  by_cases h129 : a = 129
  · subst h129; rfl
  by_cases h193 : a = 193
  · subst h193; rfl
  by_cases h3 : a = 3
  · subst h3; rfl
  by_cases h4 : a = 4
  · subst h4; rfl
  by_cases h5 : a = 5
  · subst h5; rfl
  by_cases h6 : a = 6
  · subst h6; rfl
  by_cases h7 : a = 7
  · subst h7; rfl
  by_cases h8 : a = 8
  · subst h8; rfl
  by_cases h70 : a = 70
  · subst h70; rfl
  by_cases h71 : a = 71
  · subst h71; rfl
  by_cases h72 : a = 72
  · subst h72; rfl
  by_cases h134 : a = 134
  · subst h134; rfl
  by_cases h135 : a = 135
  · subst h135; rfl
  by_cases h136 : a = 136
  · subst h136; rfl
  by_cases h198 : a = 198
  · subst h198; rfl
  by_cases h199 : a = 199
  · subst h199; rfl
  by_cases h200 : a = 200
  · subst h200; rfl
  rw [zC0_n h0 h1 h65 h129 h193 h3 h4 h5 h6 h7 h8 h70 h71 h72 h134 h135 h136 h198 h199 h200]
  simp only [zu, if_neg h0, if_neg h1, if_neg h65, if_neg h129, if_neg h193, if_neg h3, if_neg h4, if_neg h5, if_neg h6, if_neg h7, if_neg h8, if_neg h70, if_neg h71, if_neg h72, if_neg h134, if_neg h135, if_neg h136, if_neg h198, if_neg h199, if_neg h200]
abbrev rX6_init : Room := { frames := 4, cells := 19, slots := 5429, locals := 80 }
set_option maxRecDepth 100000 in
set_option maxHeartbeats 4000000 in
theorem c_X6_init {l : Launch} (hfl : l.stackTraces = false) (G : zG)   : zCn l G yX6_init (.code yX6_init cX6_init 2 none) rX6_init [.ref 0] (zu (fun _ => none) 0 (zOb 7 [.null, .null, .null, .null, .null, .null])) (zRv (fun M2 => M2 = zC0)) zN := by
  refine zStart hfl (by decide) (own := RX6) rfl [(0, .ref 0)] (Nat.le_of_ble_eq_true rfl) rfl (fun k hkl hinit hk0 F => ?_)
  refine z_aload_n F 0 dX6_init_0 rfl rfl ?_
  refine z_objI F (zr_1 _ (List.mem_of_getElem? (i := 6) rfl)) (zr_1 _ (List.mem_of_getElem? (i := 7) rfl)) (zr_1 _ (List.mem_of_getElem? (i := 8) rfl)) (Nat.le_of_ble_eq_true rfl) (Nat.le_of_ble_eq_true rfl) dX6_init_1 ?_
  refine z_aload_n F 0 dX6_init_4 rfl rfl ?_
  refine z_new (ci := 0) F 1 [.int (zI 0), .null, .int (zI 0)] rfl inlJx4a65c tyJx4a65c tyJx4a65c_ok (zr_1 _ (List.mem_of_getElem? (i := 9) rfl)) (zr_1 _ (List.mem_of_getElem? (i := 10) rfl)) (zr_1 _ (List.mem_of_getElem? (i := 11) rfl)) (fun j hj => by rcases (show j = 0 ∨ j = 1 ∨ j = 2 by omega) with rfl | rfl | rfl <;> rfl) (by decide) rfl (by decide) (by decide) (by decide) dX6_init_5 ?_
  refine z_dup F dX6_init_8 rfl ?_
  refine z_callI F [] [.ref 1, .ref 0] (c_Jx4a65c_init_da8c8 F.2.2.1 G (tl := 1) (zu (zu (fun _ => none) 0 (zOb 7 [.null, .null, .null, .null, .null, .null])) 1 (zOb 0 [.int (zI 0), .null, .int (zI 0)])) rfl) ci_X6_9 rfl ⟨by decide, by decide⟩ ⟨by decide, by decide⟩ (Nat.le_of_ble_eq_true rfl) dX6_init_9 z_nx (z_kv (fun M_2 h_2 => ?_))
  have hm9 := (h_2).symm
  subst hm9
  refine z_putF (ty := .object "java/util/ArrayList") F [.ref 1, .null, .null, .null, .null, .null] fl_X6_10 tyX6 tyX6_ok nmX6 rfl hinit rfl (by decide +kernel) rfl rfl rfl (Nat.le_of_ble_eq_true rfl) rfl dX6_init_12 ?_
  refine z_aload_n F 0 dX6_init_15 rfl rfl ?_
  refine z_new (ci := 0) F 65 [.int (zI 0), .null, .int (zI 0)] rfl inlJx4a65c tyJx4a65c tyJx4a65c_ok (zr_1 _ (List.mem_of_getElem? (i := 9) rfl)) (zr_1 _ (List.mem_of_getElem? (i := 10) rfl)) (zr_1 _ (List.mem_of_getElem? (i := 11) rfl)) (fun j hj => by rcases (show j = 0 ∨ j = 1 ∨ j = 2 by omega) with rfl | rfl | rfl <;> rfl) (by decide) rfl (by decide) (by decide) (by decide) dX6_init_16 ?_
  refine z_dup F dX6_init_19 rfl ?_
  refine z_callI F [] [.ref 65, .ref 0] (c_Jx4a65c_init_da8c8 F.2.2.1 G (tl := 65) (zu (zu (zu (zu (zu (fun _ => none) 0 (zOb 7 [.null, .null, .null, .null, .null, .null])) 1 (zOb 0 [.int (zI 0), .null, .int (zI 0)])) 1 (zOb 0 [.int (zI 0), .ref 63, .int (zI 0)])) 0 (zOb 7 [.ref 1, .null, .null, .null, .null, .null])) 65 (zOb 0 [.int (zI 0), .null, .int (zI 0)])) rfl) ci_X6_9 rfl ⟨by decide, by decide⟩ ⟨by decide, by decide⟩ (Nat.le_of_ble_eq_true rfl) dX6_init_20 z_nx (z_kv (fun M_5 h_5 => ?_))
  have hm9 := (h_5).symm
  subst hm9
  refine z_putF (ty := .object "java/util/ArrayList") F [.ref 1, .ref 65, .null, .null, .null, .null] fl_X6_16 tyX6 tyX6_ok nmX6 rfl hinit rfl (by decide +kernel) rfl rfl rfl (Nat.le_of_ble_eq_true rfl) rfl dX6_init_23 ?_
  refine z_aload_n F 0 dX6_init_26 rfl rfl ?_
  refine z_new (ci := 0) F 129 [.int (zI 0), .null, .int (zI 0)] rfl inlJx4a65c tyJx4a65c tyJx4a65c_ok (zr_1 _ (List.mem_of_getElem? (i := 9) rfl)) (zr_1 _ (List.mem_of_getElem? (i := 10) rfl)) (zr_1 _ (List.mem_of_getElem? (i := 11) rfl)) (fun j hj => by rcases (show j = 0 ∨ j = 1 ∨ j = 2 by omega) with rfl | rfl | rfl <;> rfl) (by decide) rfl (by decide) (by decide) (by decide) dX6_init_27 ?_
  refine z_dup F dX6_init_30 rfl ?_
  refine z_callI F [] [.ref 129, .ref 0] (c_Jx4a65c_init_da8c8 F.2.2.1 G (tl := 129) (zu (zu (zu (zu (zu (zu (zu (zu (fun _ => none) 0 (zOb 7 [.null, .null, .null, .null, .null, .null])) 1 (zOb 0 [.int (zI 0), .null, .int (zI 0)])) 1 (zOb 0 [.int (zI 0), .ref 63, .int (zI 0)])) 0 (zOb 7 [.ref 1, .null, .null, .null, .null, .null])) 65 (zOb 0 [.int (zI 0), .null, .int (zI 0)])) 65 (zOb 0 [.int (zI 0), .ref 63, .int (zI 0)])) 0 (zOb 7 [.ref 1, .ref 65, .null, .null, .null, .null])) 129 (zOb 0 [.int (zI 0), .null, .int (zI 0)])) rfl) ci_X6_9 rfl ⟨by decide, by decide⟩ ⟨by decide, by decide⟩ (Nat.le_of_ble_eq_true rfl) dX6_init_31 z_nx (z_kv (fun M_8 h_8 => ?_))
  have hm9 := (h_8).symm
  subst hm9
  refine z_putF (ty := .object "java/util/ArrayList") F [.ref 1, .ref 65, .ref 129, .null, .null, .null] fl_X6_19 tyX6 tyX6_ok nmX6 rfl hinit rfl (by decide +kernel) rfl rfl rfl (Nat.le_of_ble_eq_true rfl) rfl dX6_init_34 ?_
  refine z_aload_n F 0 dX6_init_37 rfl rfl ?_
  refine z_new (ci := 0) F 193 [.int (zI 0), .null, .int (zI 0)] rfl inlJx4a65c tyJx4a65c tyJx4a65c_ok (zr_1 _ (List.mem_of_getElem? (i := 9) rfl)) (zr_1 _ (List.mem_of_getElem? (i := 10) rfl)) (zr_1 _ (List.mem_of_getElem? (i := 11) rfl)) (fun j hj => by rcases (show j = 0 ∨ j = 1 ∨ j = 2 by omega) with rfl | rfl | rfl <;> rfl) (by decide) rfl (by decide) (by decide) (by decide) dX6_init_38 ?_
  refine z_dup F dX6_init_41 rfl ?_
  refine z_callI F [] [.ref 193, .ref 0] (c_Jx4a65c_init_da8c8 F.2.2.1 G (tl := 193) (zu (zu (zu (zu (zu (zu (zu (zu (zu (zu (zu (fun _ => none) 0 (zOb 7 [.null, .null, .null, .null, .null, .null])) 1 (zOb 0 [.int (zI 0), .null, .int (zI 0)])) 1 (zOb 0 [.int (zI 0), .ref 63, .int (zI 0)])) 0 (zOb 7 [.ref 1, .null, .null, .null, .null, .null])) 65 (zOb 0 [.int (zI 0), .null, .int (zI 0)])) 65 (zOb 0 [.int (zI 0), .ref 63, .int (zI 0)])) 0 (zOb 7 [.ref 1, .ref 65, .null, .null, .null, .null])) 129 (zOb 0 [.int (zI 0), .null, .int (zI 0)])) 129 (zOb 0 [.int (zI 0), .ref 63, .int (zI 0)])) 0 (zOb 7 [.ref 1, .ref 65, .ref 129, .null, .null, .null])) 193 (zOb 0 [.int (zI 0), .null, .int (zI 0)])) rfl) ci_X6_9 rfl ⟨by decide, by decide⟩ ⟨by decide, by decide⟩ (Nat.le_of_ble_eq_true rfl) dX6_init_42 z_nx (z_kv (fun M_11 h_11 => ?_))
  have hm9 := (h_11).symm
  subst hm9
  refine z_putF (ty := .object "java/util/ArrayList") F [.ref 1, .ref 65, .ref 129, .ref 193, .null, .null] fl_X6_22 tyX6 tyX6_ok nmX6 rfl hinit rfl (by decide +kernel) rfl rfl rfl (Nat.le_of_ble_eq_true rfl) rfl dX6_init_45 ?_
  refine z_aload_n F 0 dX6_init_48 rfl rfl ?_
  refine z_iconst (z := 4) F dX6_init_49 (by decide) ?_
  refine z_newr3 F 3 4 (by decide) (by decide) rfl (by decide) (by decide) (by decide) (zr_1 _ (List.mem_of_getElem? (i := 16) rfl)) dX6_init_50 ?_
  refine z_putF (ty := .array (.object "SalonBook$Diary")) F [.ref 1, .ref 65, .ref 129, .ref 193, .ref 3, .null] fl_X6_27 tyX6 tyX6_ok nmX6 rfl hinit rfl (by decide +kernel) rfl rfl rfl (Nat.le_of_ble_eq_true rfl) rfl dX6_init_53 ?_
  refine z_iconst (z := 0) F dX6_init_56 (by decide) ?_
  refine z_istore_n F [(1, .int (zI 0)), (0, .ref 0)] dX6_init_57 rfl (by decide) rfl ?_
  refine z_iload_n F 0 dX6_init_58 rfl rfl ?_
  refine z_iconst (z := 4) F dX6_init_59 (by decide) ?_
  refine z_icmp_ge F 82 dX6_init_60 (by decide) ⟨by decide, by decide⟩ ⟨by decide, by decide⟩ (fun c_15 => ?_) (fun c_15 => ?_)
  · skip
    exact absurd c_15 (by decide)
  · skip
    refine z_aload_n F 1 dX6_init_63 rfl rfl ?_
    refine z_get F fl_X6_27 rfl rfl dX6_init_64 ?_
    refine z_iload_n F 0 dX6_init_67 rfl rfl ?_
    refine z_new (ci := 1) F 6 [.null, .null] rfl inlX0 tyX0 tyX0_ok (zr_1 _ (List.mem_of_getElem? (i := 16) rfl)) (zr_1 _ (List.mem_of_getElem? (i := 18) rfl)) (zr_1 _ (List.mem_of_getElem? (i := 19) rfl)) (fun j hj => by rcases (show j = 0 ∨ j = 1 by omega) with rfl | rfl <;> rfl) (by decide) rfl (by decide) (by decide) (by decide) dX6_init_68 ?_
    refine z_dup F dX6_init_71 rfl ?_
    refine z_callI F [] [.ref 6, .int (zI 0), .ref 3] (c_X0_init F.2.2.1 G (td := 6) (tv := 7) (tk := 8) (zu (zu (zu (zu (zu (zu (zu (zu (zu (zu (zu (zu (zu (zu (zu (zu (fun _ => none) 0 (zOb 7 [.null, .null, .null, .null, .null, .null])) 1 (zOb 0 [.int (zI 0), .null, .int (zI 0)])) 1 (zOb 0 [.int (zI 0), .ref 63, .int (zI 0)])) 0 (zOb 7 [.ref 1, .null, .null, .null, .null, .null])) 65 (zOb 0 [.int (zI 0), .null, .int (zI 0)])) 65 (zOb 0 [.int (zI 0), .ref 63, .int (zI 0)])) 0 (zOb 7 [.ref 1, .ref 65, .null, .null, .null, .null])) 129 (zOb 0 [.int (zI 0), .null, .int (zI 0)])) 129 (zOb 0 [.int (zI 0), .ref 63, .int (zI 0)])) 0 (zOb 7 [.ref 1, .ref 65, .ref 129, .null, .null, .null])) 193 (zOb 0 [.int (zI 0), .null, .int (zI 0)])) 193 (zOb 0 [.int (zI 0), .ref 63, .int (zI 0)])) 0 (zOb 7 [.ref 1, .ref 65, .ref 129, .ref 193, .null, .null])) 3 (zAr 3 4 (fun _ => none))) 0 (zOb 7 [.ref 1, .ref 65, .ref 129, .ref 193, .ref 3, .null])) 6 (zOb 1 [.null, .null])) rfl rfl rfl (by decide) (by decide) (by decide) (by decide) (by decide)) ci_X6_31 rfl ⟨by decide, by decide⟩ ⟨by decide, by decide⟩ (Nat.le_of_ble_eq_true rfl) dX6_init_72 z_nx (z_kv (fun M_17 h_17 => ?_))
    have hm9 := (h_17).symm
    subst hm9
    refine z_aast3 F (f := (fun _ => none)) rfl (a := 6) (fs := [.ref 7, .ref 8]) rfl (by decide) (by decide) (by decide) dX6_init_75 ?_
    refine z_iinc F 0 [(1, .int (zI 1)), (0, .ref 0)] dX6_init_76 rfl (by decide) rfl ?_
    refine z_goto F 58 dX6_init_79 (by decide) ?_
    refine z_iload_n F 0 dX6_init_58 rfl rfl ?_
    refine z_iconst (z := 4) F dX6_init_59 (by decide) ?_
    refine z_icmp_ge F 82 dX6_init_60 (by decide) ⟨by decide, by decide⟩ ⟨by decide, by decide⟩ (fun c_19 => ?_) (fun c_19 => ?_)
    · skip
      exact absurd c_19 (by decide)
    · skip
      refine z_aload_n F 1 dX6_init_63 rfl rfl ?_
      refine z_get F fl_X6_27 rfl rfl dX6_init_64 ?_
      refine z_iload_n F 0 dX6_init_67 rfl rfl ?_
      refine z_new (ci := 1) F 70 [.null, .null] rfl inlX0 tyX0 tyX0_ok (zr_1 _ (List.mem_of_getElem? (i := 16) rfl)) (zr_1 _ (List.mem_of_getElem? (i := 18) rfl)) (zr_1 _ (List.mem_of_getElem? (i := 19) rfl)) (fun j hj => by rcases (show j = 0 ∨ j = 1 by omega) with rfl | rfl <;> rfl) (by decide) rfl (by decide) (by decide) (by decide) dX6_init_68 ?_
      refine z_dup F dX6_init_71 rfl ?_
      refine z_callI F [] [.ref 70, .int (zI 1), .ref 3] (c_X0_init F.2.2.1 G (td := 70) (tv := 71) (tk := 72) (zu (zu (zu (zu (zu (zu (zu (zu (zu (zu (zu (zu (zu (zu (zu (zu (zu (zu (zu (zu (zu (fun _ => none) 0 (zOb 7 [.null, .null, .null, .null, .null, .null])) 1 (zOb 0 [.int (zI 0), .null, .int (zI 0)])) 1 (zOb 0 [.int (zI 0), .ref 63, .int (zI 0)])) 0 (zOb 7 [.ref 1, .null, .null, .null, .null, .null])) 65 (zOb 0 [.int (zI 0), .null, .int (zI 0)])) 65 (zOb 0 [.int (zI 0), .ref 63, .int (zI 0)])) 0 (zOb 7 [.ref 1, .ref 65, .null, .null, .null, .null])) 129 (zOb 0 [.int (zI 0), .null, .int (zI 0)])) 129 (zOb 0 [.int (zI 0), .ref 63, .int (zI 0)])) 0 (zOb 7 [.ref 1, .ref 65, .ref 129, .null, .null, .null])) 193 (zOb 0 [.int (zI 0), .null, .int (zI 0)])) 193 (zOb 0 [.int (zI 0), .ref 63, .int (zI 0)])) 0 (zOb 7 [.ref 1, .ref 65, .ref 129, .ref 193, .null, .null])) 3 (zAr 3 4 (fun _ => none))) 0 (zOb 7 [.ref 1, .ref 65, .ref 129, .ref 193, .ref 3, .null])) 6 (zOb 1 [.null, .null])) 6 (zOb 1 [.ref 7, .ref 8])) 7 (zAi 0 600 (fun _ => -1))) 8 (zAi 0 601 (zTk (fun _ => -1)))) 3 (zAr 3 4 (va_up (fun _ => none) (0 : Int).toNat (some 6)))) 70 (zOb 1 [.null, .null])) rfl rfl rfl (by decide) (by decide) (by decide) (by decide) (by decide)) ci_X6_31 rfl ⟨by decide, by decide⟩ ⟨by decide, by decide⟩ (Nat.le_of_ble_eq_true rfl) dX6_init_72 z_nx (z_kv (fun M_21 h_21 => ?_))
      have hm9 := (h_21).symm
      subst hm9
      refine z_aast3 F (f := (va_up (fun _ => none) (0 : Int).toNat (some 6))) rfl (a := 70) (fs := [.ref 71, .ref 72]) rfl (by decide) (by decide) (by decide) dX6_init_75 ?_
      refine z_iinc F 0 [(1, .int (zI 2)), (0, .ref 0)] dX6_init_76 rfl (by decide) rfl ?_
      refine z_goto F 58 dX6_init_79 (by decide) ?_
      refine z_iload_n F 0 dX6_init_58 rfl rfl ?_
      refine z_iconst (z := 4) F dX6_init_59 (by decide) ?_
      refine z_icmp_ge F 82 dX6_init_60 (by decide) ⟨by decide, by decide⟩ ⟨by decide, by decide⟩ (fun c_23 => ?_) (fun c_23 => ?_)
      · skip
        exact absurd c_23 (by decide)
      · skip
        refine z_aload_n F 1 dX6_init_63 rfl rfl ?_
        refine z_get F fl_X6_27 rfl rfl dX6_init_64 ?_
        refine z_iload_n F 0 dX6_init_67 rfl rfl ?_
        refine z_new (ci := 1) F 134 [.null, .null] rfl inlX0 tyX0 tyX0_ok (zr_1 _ (List.mem_of_getElem? (i := 16) rfl)) (zr_1 _ (List.mem_of_getElem? (i := 18) rfl)) (zr_1 _ (List.mem_of_getElem? (i := 19) rfl)) (fun j hj => by rcases (show j = 0 ∨ j = 1 by omega) with rfl | rfl <;> rfl) (by decide) rfl (by decide) (by decide) (by decide) dX6_init_68 ?_
        refine z_dup F dX6_init_71 rfl ?_
        refine z_callI F [] [.ref 134, .int (zI 2), .ref 3] (c_X0_init F.2.2.1 G (td := 134) (tv := 135) (tk := 136) (zu (zu (zu (zu (zu (zu (zu (zu (zu (zu (zu (zu (zu (zu (zu (zu (zu (zu (zu (zu (zu (zu (zu (zu (zu (zu (fun _ => none) 0 (zOb 7 [.null, .null, .null, .null, .null, .null])) 1 (zOb 0 [.int (zI 0), .null, .int (zI 0)])) 1 (zOb 0 [.int (zI 0), .ref 63, .int (zI 0)])) 0 (zOb 7 [.ref 1, .null, .null, .null, .null, .null])) 65 (zOb 0 [.int (zI 0), .null, .int (zI 0)])) 65 (zOb 0 [.int (zI 0), .ref 63, .int (zI 0)])) 0 (zOb 7 [.ref 1, .ref 65, .null, .null, .null, .null])) 129 (zOb 0 [.int (zI 0), .null, .int (zI 0)])) 129 (zOb 0 [.int (zI 0), .ref 63, .int (zI 0)])) 0 (zOb 7 [.ref 1, .ref 65, .ref 129, .null, .null, .null])) 193 (zOb 0 [.int (zI 0), .null, .int (zI 0)])) 193 (zOb 0 [.int (zI 0), .ref 63, .int (zI 0)])) 0 (zOb 7 [.ref 1, .ref 65, .ref 129, .ref 193, .null, .null])) 3 (zAr 3 4 (fun _ => none))) 0 (zOb 7 [.ref 1, .ref 65, .ref 129, .ref 193, .ref 3, .null])) 6 (zOb 1 [.null, .null])) 6 (zOb 1 [.ref 7, .ref 8])) 7 (zAi 0 600 (fun _ => -1))) 8 (zAi 0 601 (zTk (fun _ => -1)))) 3 (zAr 3 4 (va_up (fun _ => none) (0 : Int).toNat (some 6)))) 70 (zOb 1 [.null, .null])) 70 (zOb 1 [.ref 71, .ref 72])) 71 (zAi 0 600 (fun _ => -1))) 72 (zAi 0 601 (zTk (fun _ => -1)))) 3 (zAr 3 4 (va_up (va_up (fun _ => none) (0 : Int).toNat (some 6)) (1 : Int).toNat (some 70)))) 134 (zOb 1 [.null, .null])) rfl rfl rfl (by decide) (by decide) (by decide) (by decide) (by decide)) ci_X6_31 rfl ⟨by decide, by decide⟩ ⟨by decide, by decide⟩ (Nat.le_of_ble_eq_true rfl) dX6_init_72 z_nx (z_kv (fun M_25 h_25 => ?_))
        have hm9 := (h_25).symm
        subst hm9
        refine z_aast3 F (f := (va_up (va_up (fun _ => none) (0 : Int).toNat (some 6)) (1 : Int).toNat (some 70))) rfl (a := 134) (fs := [.ref 135, .ref 136]) rfl (by decide) (by decide) (by decide) dX6_init_75 ?_
        refine z_iinc F 0 [(1, .int (zI 3)), (0, .ref 0)] dX6_init_76 rfl (by decide) rfl ?_
        refine z_goto F 58 dX6_init_79 (by decide) ?_
        refine z_iload_n F 0 dX6_init_58 rfl rfl ?_
        refine z_iconst (z := 4) F dX6_init_59 (by decide) ?_
        refine z_icmp_ge F 82 dX6_init_60 (by decide) ⟨by decide, by decide⟩ ⟨by decide, by decide⟩ (fun c_27 => ?_) (fun c_27 => ?_)
        · skip
          exact absurd c_27 (by decide)
        · skip
          refine z_aload_n F 1 dX6_init_63 rfl rfl ?_
          refine z_get F fl_X6_27 rfl rfl dX6_init_64 ?_
          refine z_iload_n F 0 dX6_init_67 rfl rfl ?_
          refine z_new (ci := 1) F 198 [.null, .null] rfl inlX0 tyX0 tyX0_ok (zr_1 _ (List.mem_of_getElem? (i := 16) rfl)) (zr_1 _ (List.mem_of_getElem? (i := 18) rfl)) (zr_1 _ (List.mem_of_getElem? (i := 19) rfl)) (fun j hj => by rcases (show j = 0 ∨ j = 1 by omega) with rfl | rfl <;> rfl) (by decide) rfl (by decide) (by decide) (by decide) dX6_init_68 ?_
          refine z_dup F dX6_init_71 rfl ?_
          refine z_callI F [] [.ref 198, .int (zI 3), .ref 3] (c_X0_init F.2.2.1 G (td := 198) (tv := 199) (tk := 200) (zu (zu (zu (zu (zu (zu (zu (zu (zu (zu (zu (zu (zu (zu (zu (zu (zu (zu (zu (zu (zu (zu (zu (zu (zu (zu (zu (zu (zu (zu (zu (fun _ => none) 0 (zOb 7 [.null, .null, .null, .null, .null, .null])) 1 (zOb 0 [.int (zI 0), .null, .int (zI 0)])) 1 (zOb 0 [.int (zI 0), .ref 63, .int (zI 0)])) 0 (zOb 7 [.ref 1, .null, .null, .null, .null, .null])) 65 (zOb 0 [.int (zI 0), .null, .int (zI 0)])) 65 (zOb 0 [.int (zI 0), .ref 63, .int (zI 0)])) 0 (zOb 7 [.ref 1, .ref 65, .null, .null, .null, .null])) 129 (zOb 0 [.int (zI 0), .null, .int (zI 0)])) 129 (zOb 0 [.int (zI 0), .ref 63, .int (zI 0)])) 0 (zOb 7 [.ref 1, .ref 65, .ref 129, .null, .null, .null])) 193 (zOb 0 [.int (zI 0), .null, .int (zI 0)])) 193 (zOb 0 [.int (zI 0), .ref 63, .int (zI 0)])) 0 (zOb 7 [.ref 1, .ref 65, .ref 129, .ref 193, .null, .null])) 3 (zAr 3 4 (fun _ => none))) 0 (zOb 7 [.ref 1, .ref 65, .ref 129, .ref 193, .ref 3, .null])) 6 (zOb 1 [.null, .null])) 6 (zOb 1 [.ref 7, .ref 8])) 7 (zAi 0 600 (fun _ => -1))) 8 (zAi 0 601 (zTk (fun _ => -1)))) 3 (zAr 3 4 (va_up (fun _ => none) (0 : Int).toNat (some 6)))) 70 (zOb 1 [.null, .null])) 70 (zOb 1 [.ref 71, .ref 72])) 71 (zAi 0 600 (fun _ => -1))) 72 (zAi 0 601 (zTk (fun _ => -1)))) 3 (zAr 3 4 (va_up (va_up (fun _ => none) (0 : Int).toNat (some 6)) (1 : Int).toNat (some 70)))) 134 (zOb 1 [.null, .null])) 134 (zOb 1 [.ref 135, .ref 136])) 135 (zAi 0 600 (fun _ => -1))) 136 (zAi 0 601 (zTk (fun _ => -1)))) 3 (zAr 3 4 (va_up (va_up (va_up (fun _ => none) (0 : Int).toNat (some 6)) (1 : Int).toNat (some 70)) (2 : Int).toNat (some 134)))) 198 (zOb 1 [.null, .null])) rfl rfl rfl (by decide) (by decide) (by decide) (by decide) (by decide)) ci_X6_31 rfl ⟨by decide, by decide⟩ ⟨by decide, by decide⟩ (Nat.le_of_ble_eq_true rfl) dX6_init_72 z_nx (z_kv (fun M_29 h_29 => ?_))
          have hm9 := (h_29).symm
          subst hm9
          refine z_aast3 F (f := (va_up (va_up (va_up (fun _ => none) (0 : Int).toNat (some 6)) (1 : Int).toNat (some 70)) (2 : Int).toNat (some 134))) rfl (a := 198) (fs := [.ref 199, .ref 200]) rfl (by decide) (by decide) (by decide) dX6_init_75 ?_
          refine z_iinc F 0 [(1, .int (zI 4)), (0, .ref 0)] dX6_init_76 rfl (by decide) rfl ?_
          refine z_goto F 58 dX6_init_79 (by decide) ?_
          refine z_iload_n F 0 dX6_init_58 rfl rfl ?_
          refine z_iconst (z := 4) F dX6_init_59 (by decide) ?_
          refine z_icmp_ge F 82 dX6_init_60 (by decide) ⟨by decide, by decide⟩ ⟨by decide, by decide⟩ (fun c_31 => ?_) (fun c_31 => ?_)
          · skip
            refine z_extr (t := 3) (fun j => if j < 4 then some (64 * j + 6) else none) rfl (fun j hj => by rcases (show j = 0 ∨ j = 1 ∨ j = 2 ∨ j = 3 by omega) with e | e | e | e <;> subst e <;> rfl) (fun j hj => if_neg (by omega)) ?_
            refine z_M (M' := (zu (zu (zu (zu (zu (zu (zu (zu (zu (zu (zu (zu (zu (zu (zu (zu (zu (zu (zu (zu (zu (zu (zu (zu (zu (zu (zu (zu (zu (zu (zu (zu (zu (zu (zu (zu (fun _ => none) 0 (zOb 7 [.null, .null, .null, .null, .null, .null])) 1 (zOb 0 [.int (zI 0), .null, .int (zI 0)])) 1 (zOb 0 [.int (zI 0), .ref 63, .int (zI 0)])) 0 (zOb 7 [.ref 1, .null, .null, .null, .null, .null])) 65 (zOb 0 [.int (zI 0), .null, .int (zI 0)])) 65 (zOb 0 [.int (zI 0), .ref 63, .int (zI 0)])) 0 (zOb 7 [.ref 1, .ref 65, .null, .null, .null, .null])) 129 (zOb 0 [.int (zI 0), .null, .int (zI 0)])) 129 (zOb 0 [.int (zI 0), .ref 63, .int (zI 0)])) 0 (zOb 7 [.ref 1, .ref 65, .ref 129, .null, .null, .null])) 193 (zOb 0 [.int (zI 0), .null, .int (zI 0)])) 193 (zOb 0 [.int (zI 0), .ref 63, .int (zI 0)])) 0 (zOb 7 [.ref 1, .ref 65, .ref 129, .ref 193, .null, .null])) 3 (zAr 3 4 (fun _ => none))) 0 (zOb 7 [.ref 1, .ref 65, .ref 129, .ref 193, .ref 3, .null])) 6 (zOb 1 [.null, .null])) 6 (zOb 1 [.ref 7, .ref 8])) 7 (zAi 0 600 (fun _ => -1))) 8 (zAi 0 601 (zTk (fun _ => -1)))) 3 (zAr 3 4 (va_up (fun _ => none) (0 : Int).toNat (some 6)))) 70 (zOb 1 [.null, .null])) 70 (zOb 1 [.ref 71, .ref 72])) 71 (zAi 0 600 (fun _ => -1))) 72 (zAi 0 601 (zTk (fun _ => -1)))) 3 (zAr 3 4 (va_up (va_up (fun _ => none) (0 : Int).toNat (some 6)) (1 : Int).toNat (some 70)))) 134 (zOb 1 [.null, .null])) 134 (zOb 1 [.ref 135, .ref 136])) 135 (zAi 0 600 (fun _ => -1))) 136 (zAi 0 601 (zTk (fun _ => -1)))) 3 (zAr 3 4 (va_up (va_up (va_up (fun _ => none) (0 : Int).toNat (some 6)) (1 : Int).toNat (some 70)) (2 : Int).toNat (some 134)))) 198 (zOb 1 [.null, .null])) 198 (zOb 1 [.ref 199, .ref 200])) 199 (zAi 0 600 (fun _ => -1))) 200 (zAi 0 601 (zTk (fun _ => -1)))) 3 (zAr 3 4 (va_up (va_up (va_up (va_up (fun _ => none) (0 : Int).toNat (some 6)) (1 : Int).toNat (some 70)) (2 : Int).toNat (some 134)) (3 : Int).toNat (some 198)))) 3 (zAr 3 4 (fun j => if j < 4 then some (64 * j + 6) else none)))) rfl ?_
            refine z_aload_n F 1 dX6_init_82 rfl rfl ?_
            refine z_new (ci := 3) F 4 [.null] rfl inlX2 tyX2 tyX2_ok (zr_1 _ (List.mem_of_getElem? (i := 20) rfl)) (zr_1 _ (List.mem_of_getElem? (i := 21) rfl)) (zr_1 _ (List.mem_of_getElem? (i := 22) rfl)) (fun j hj => by rcases (show j = 0 by omega) with rfl <;> rfl) (by decide) rfl (by decide) (by decide) (by decide) dX6_init_83 ?_
            refine z_dup F dX6_init_86 rfl ?_
            refine z_callIN (n := 0) F [] [.ref 4, .ref 0] (c_X2_init F.2.2.1 G (th := 4) (tb := 5) (zu (zu (zu (zu (zu (zu (zu (zu (zu (zu (zu (zu (zu (zu (zu (zu (zu (zu (zu (zu (zu (zu (zu (zu (zu (zu (zu (zu (zu (zu (zu (zu (zu (zu (zu (zu (zu (fun _ => none) 0 (zOb 7 [.null, .null, .null, .null, .null, .null])) 1 (zOb 0 [.int (zI 0), .null, .int (zI 0)])) 1 (zOb 0 [.int (zI 0), .ref 63, .int (zI 0)])) 0 (zOb 7 [.ref 1, .null, .null, .null, .null, .null])) 65 (zOb 0 [.int (zI 0), .null, .int (zI 0)])) 65 (zOb 0 [.int (zI 0), .ref 63, .int (zI 0)])) 0 (zOb 7 [.ref 1, .ref 65, .null, .null, .null, .null])) 129 (zOb 0 [.int (zI 0), .null, .int (zI 0)])) 129 (zOb 0 [.int (zI 0), .ref 63, .int (zI 0)])) 0 (zOb 7 [.ref 1, .ref 65, .ref 129, .null, .null, .null])) 193 (zOb 0 [.int (zI 0), .null, .int (zI 0)])) 193 (zOb 0 [.int (zI 0), .ref 63, .int (zI 0)])) 0 (zOb 7 [.ref 1, .ref 65, .ref 129, .ref 193, .null, .null])) 3 (zAr 3 4 (fun _ => none))) 0 (zOb 7 [.ref 1, .ref 65, .ref 129, .ref 193, .ref 3, .null])) 6 (zOb 1 [.null, .null])) 6 (zOb 1 [.ref 7, .ref 8])) 7 (zAi 0 600 (fun _ => -1))) 8 (zAi 0 601 (zTk (fun _ => -1)))) 3 (zAr 3 4 (va_up (fun _ => none) (0 : Int).toNat (some 6)))) 70 (zOb 1 [.null, .null])) 70 (zOb 1 [.ref 71, .ref 72])) 71 (zAi 0 600 (fun _ => -1))) 72 (zAi 0 601 (zTk (fun _ => -1)))) 3 (zAr 3 4 (va_up (va_up (fun _ => none) (0 : Int).toNat (some 6)) (1 : Int).toNat (some 70)))) 134 (zOb 1 [.null, .null])) 134 (zOb 1 [.ref 135, .ref 136])) 135 (zAi 0 600 (fun _ => -1))) 136 (zAi 0 601 (zTk (fun _ => -1)))) 3 (zAr 3 4 (va_up (va_up (va_up (fun _ => none) (0 : Int).toNat (some 6)) (1 : Int).toNat (some 70)) (2 : Int).toNat (some 134)))) 198 (zOb 1 [.null, .null])) 198 (zOb 1 [.ref 199, .ref 200])) 199 (zAi 0 600 (fun _ => -1))) 200 (zAi 0 601 (zTk (fun _ => -1)))) 3 (zAr 3 4 (va_up (va_up (va_up (va_up (fun _ => none) (0 : Int).toNat (some 6)) (1 : Int).toNat (some 70)) (2 : Int).toNat (some 134)) (3 : Int).toNat (some 198)))) 3 (zAr 3 4 (fun j => if j < 4 then some (64 * j + 6) else none))) 4 (zOb 3 [.null])) rfl rfl (by decide) (by decide)) (List.mem_of_getElem? (i := 2) rfl) zq_MS (by decide) rfl ⟨by decide, by decide⟩ ⟨by decide, by decide⟩ (Nat.le_of_ble_eq_true rfl) dX6_init_87 z_nx (z_kv (fun M_33 h_33 => ?_))
            have hm9 := (h_33).symm
            subst hm9
            refine z_putF (ty := .object "SalonBook$MinuteSet") F [.ref 1, .ref 65, .ref 129, .ref 193, .ref 3, .ref 4] fl_X6_35 tyX6 tyX6_ok nmX6 rfl hinit rfl (by decide +kernel) rfl rfl rfl (Nat.le_of_ble_eq_true rfl) rfl dX6_init_90 ?_
            exact z_retv F rfl (by first | decide | assumption | omega) (by first | decide | assumption | omega) dX6_init_93 ⟨rfl, zC0_eq⟩
          · skip
            exact absurd c_31 (by decide)

theorem zC0_all (t : zS) : zC0 = zAll z0 t (0, fun _ => 0) := rfl
theorem z0_I : zInv z0 := by
  refine ⟨fun f i j => ?_, ⟨by decide, by decide, by decide, by decide, by decide, fun _ _ => (show (-1 : Int) ≤ 0 ∧ (0 : Int) < 4 by decide), fun _ _ => (show (0 : Int) ≤ 0 ∧ (0 : Int) ≤ 200 by decide), fun _ => (show (0 : Int) ≤ 0 ∧ (0 : Int) ≤ 5 by decide), fun _ => (show (0 : Int) ≤ 0 ∧ (0 : Int) ≤ 15 by decide), fun _ => Or.inl rfl, fun v h => ?_, fun v h => ?_, fun v h => ?_, fun v h => ?_, fun v h => ?_⟩, fun a k h => ?_, fun _ _ => ⟨rfl, rfl⟩, fun _ => Or.inl rfl, fun v h => ?_, fun v h => ?_, fun c m _ => ⟨Or.inl rfl, fun v => ⟨fun h => ?_, fun h => ?_⟩⟩, fun i m => ⟨Or.inl rfl, fun v => ⟨fun h => ?_, fun h => ?_⟩⟩⟩
  · show -1 ≤ (if f = 21 then (-1 : Int) else 0) ∧ (if f = 21 then (-1 : Int) else 0) ≤ 1000
    split <;> decide
  · exact absurd (show (v : Int) < 0 from h) (by omega)
  · exact absurd (show (v : Int) < 0 from h) (by omega)
  · exact absurd (show (v : Int) < 0 from h) (by omega)
  · exact absurd (show (v : Int) < 0 from h) (by omega)
  · exact absurd (show (v : Int) < 0 from h) (by omega)
  · exact absurd (show (k : Int) < 0 from h) (by omega)
  · exact absurd (show (v : Int) < 0 from h) (by omega)
  · exact absurd (show (v : Int) < 0 from h) (by omega)
  · exact absurd (show (-1 : Int) = (v : Int) from h) (by omega)
  · exact absurd (show (v : Int) < 0 from h.1) (by omega)
  · exact absurd (show (-1 : Int) = (v : Int) from h) (by omega)
  · exact absurd (show (v : Int) < 0 from h.1) (by omega)
