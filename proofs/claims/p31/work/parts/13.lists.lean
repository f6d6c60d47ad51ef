/-! ===== the JDK's lists ===== -/
theorem zRem1 {M : zM} {tl td : Nat} {a b c d : zO} (n1 : tl ≠ td) : zu (zu (zu (zu M tl a) td b) tl c) td d = zu (zu M td d) tl c := by
  funext q
  simp only [zu]
  by_cases h : q = tl
  · subst h; simp [n1]
  · by_cases h2 : q = td
    · subst h2; simp [h]
    · simp [h, h2]
theorem zDup {M : zM} {tl td : Nat} {a b c : zO} (n1 : tl ≠ td) : zu (zu (zu M tl a) td b) tl c = zu (zu M td b) tl c := by
  rw [zu_cm n1, zu_zu]
theorem zRem2 {M : zM} {tl td : Nat} {a c d : zO} (n1 : tl ≠ td) : zu (zu (zu M tl a) tl c) td d = zu (zu M td d) tl c := by
  rw [zu_zu, zu_cm n1]
abbrev rJ3_checkIndex_8e157 : Room := { frames := 0, cells := 0, slots := 0, locals := 0 }
set_option maxRecDepth 100000 in
set_option maxHeartbeats 4000000 in
theorem c_J3_checkIndex_8e157 {l : Launch} (hfl : l.stackTraces = false) (G : zG) {i n : Int} (M : zM) (h0 : 0 ≤ i) (h1 : i < n) (h2 : n < 1000) : zCn l G yJ3_checkIndex_8e157 (.code yJ3_checkIndex_8e157 cJ3_checkIndex_8e157 3 (some .int)) rJ3_checkIndex_8e157 [.int (zI i), .int (zI n), .null] M (zRi (fun xr M2 => xr = i ∧ M2 = M)) zN := by
  refine zStart hfl (by decide) (own := RJ3) rfl [(0, .int (zI i)), (1, .int (zI n)), (2, .null)] (Nat.le_of_ble_eq_true rfl) rfl (fun k hkl hinit hk0 F => ?_)
  refine z_iload_n F 0 dJ3_checkIndex_8e157_0 rfl rfl ?_
  refine z_if_lt F 9 dJ3_checkIndex_8e157_1 (by decide) (by omega) (fun c_1 => ?_) (fun c_1 => ?_)
  · skip
    exact absurd c_1 (by omega)
  · skip
    refine z_iload_n F 0 dJ3_checkIndex_8e157_4 rfl rfl ?_
    refine z_iload_n F 1 dJ3_checkIndex_8e157_5 rfl rfl ?_
    refine z_icmp_lt F 16 dJ3_checkIndex_8e157_6 (by decide) (by omega) (by omega) (fun c_2 => ?_) (fun c_2 => ?_)
    · skip
      refine z_iload_n F 0 dJ3_checkIndex_8e157_16 rfl rfl ?_
      exact z_reti F rfl (by first | decide | assumption | omega) (by first | decide | assumption | omega) dJ3_checkIndex_8e157_17 ⟨_, rfl, rfl, rfl⟩
    · skip
      exact absurd c_2 (by omega)

abbrev rJ15_checkIndex_7cf53 : Room := { frames := 1, cells := 0, slots := 0, locals := 22 }
set_option maxRecDepth 100000 in
set_option maxHeartbeats 4000000 in
theorem c_J15_checkIndex_7cf53 {l : Launch} (hfl : l.stackTraces = false) (G : zG) {i n : Int} (M : zM) (h0 : 0 ≤ i) (h1 : i < n) (h2 : n < 1000) : zCn l G yJ15_checkIndex_7cf53 (.code yJ15_checkIndex_7cf53 cJ15_checkIndex_7cf53 2 (some .int)) rJ15_checkIndex_7cf53 [.int (zI i), .int (zI n)] M (zRi (fun xr M2 => xr = i ∧ M2 = M)) zN := by
  refine zStart hfl (by decide) (own := RJ15) rfl [(0, .int (zI i)), (1, .int (zI n))] (Nat.le_of_ble_eq_true rfl) rfl (fun k hkl hinit hk0 F => ?_)
  refine z_iload_n F 0 dJ15_checkIndex_7cf53_0 rfl rfl ?_
  refine z_iload_n F 1 dJ15_checkIndex_7cf53_1 rfl rfl ?_
  refine z_null F dJ15_checkIndex_7cf53_2 ?_
  refine z_callS F [.int (zI i), .int (zI n), .null] [] (c_J3_checkIndex_8e157 F.2.2.1 G M h0 h1 h2) cs_J15_105 rfl ⟨by decide, by decide⟩ ⟨by decide, by decide⟩ (Nat.le_of_ble_eq_true rfl) dJ15_checkIndex_7cf53_3 z_nx (z_ki (fun x_1 M_1 h_1 => ?_))
  have hx9 := (h_1).1.symm
  have hm9 := (h_1).2.symm
  subst hx9
  subst hm9
  exact z_reti F rfl (by first | decide | assumption | omega) (by first | decide | assumption | omega) dJ15_checkIndex_7cf53_6 ⟨_, rfl, rfl, rfl⟩

abbrev rJx4a65c_size_8abf5 : Room := { frames := 0, cells := 0, slots := 0, locals := 0 }
set_option maxRecDepth 100000 in
set_option maxHeartbeats 4000000 in
theorem c_Jx4a65c_size_8abf5 {l : Launch} (hfl : l.stackTraces = false) (G : zG) {tl td : Nat} {mc n : Int}  (M : zM) (h0 : M tl = some (zOb 0 [.int (zI mc), .ref td, .int (zI n)])) : zCn l G yJx4a65c_size_8abf5 (.code yJx4a65c_size_8abf5 cJx4a65c_size_8abf5 1 (some .int)) rJx4a65c_size_8abf5 [.ref tl] M (zRi (fun xr M2 => xr = n ∧ M2 = M)) zN := by
  refine zStart hfl (by decide) (own := RJx4a65c) rfl [(0, .ref tl)] (Nat.le_of_ble_eq_true rfl) rfl (fun k hkl hinit hk0 F => ?_)
  refine z_aload_n F 0 dJx4a65c_size_8abf5_0 rfl rfl ?_
  refine z_get F fl_Jx4a65c_48 h0 rfl dJx4a65c_size_8abf5_1 ?_
  exact z_reti F rfl (by first | decide | assumption | omega) (by first | decide | assumption | omega) dJx4a65c_size_8abf5_4 ⟨_, rfl, rfl, rfl⟩

abbrev rJx4a65c_elementData_915e3 : Room := { frames := 0, cells := 0, slots := 0, locals := 0 }
set_option maxRecDepth 100000 in
set_option maxHeartbeats 4000000 in
theorem c_Jx4a65c_elementData_915e3 {l : Launch} (hfl : l.stackTraces = false) (G : zG) {tl td : Nat} {mc n : Int} {cap : Nat} {f : Nat → Option Nat} {i : Int} {a : Nat} (M : zM) (h0 : M tl = some (zOb 0 [.int (zI mc), .ref td, .int (zI n)])) (h1 : M td = some (zAr 4 cap f)) (hi : 0 ≤ i) (hi2 : i < cap) (hc : cap < 1000) (hf : f i.toNat = some a) : zCn l G yJx4a65c_elementData_915e3 (.code yJx4a65c_elementData_915e3 cJx4a65c_elementData_915e3 2 (some (.object "java/lang/Object"))) rJx4a65c_elementData_915e3 [.ref tl, .int (zI i)] M (zRr (fun xr M2 => xr = a ∧ M2 = M)) zN := by
  refine zStart hfl (by decide) (own := RJx4a65c) rfl [(0, .ref tl), (1, .int (zI i))] (Nat.le_of_ble_eq_true rfl) rfl (fun k hkl hinit hk0 F => ?_)
  refine z_aload_n F 0 dJx4a65c_elementData_915e3_0 rfl rfl ?_
  refine z_get F fl_Jx4a65c_9 h0 rfl dJx4a65c_elementData_915e3_1 ?_
  refine z_iload_n F 1 dJx4a65c_elementData_915e3_4 rfl rfl ?_
  have hc9 : cap < 2147483648 := by omega
  refine z_aald4 (a := a) F h1 hi hi2 hc9 hf dJx4a65c_elementData_915e3_5 ?_
  exact z_reta F rfl (Or.inl ⟨_, rfl⟩) (by first | decide | assumption | omega) (by first | decide | assumption | omega) dJx4a65c_elementData_915e3_6 ⟨_, rfl, rfl, rfl⟩

abbrev rJx4a65c_get_915e3 : Room := { frames := 2, cells := 0, slots := 0, locals := 43 }
set_option maxRecDepth 100000 in
set_option maxHeartbeats 4000000 in
theorem c_Jx4a65c_get_915e3 {l : Launch} (hfl : l.stackTraces = false) (G : zG) {tl td : Nat} {mc n : Int} {cap : Nat} {f : Nat → Option Nat} {i : Int} {a : Nat} (M : zM) (h0 : M tl = some (zOb 0 [.int (zI mc), .ref td, .int (zI n)])) (h1 : M td = some (zAr 4 cap f)) (hi : 0 ≤ i) (hi2 : i < n) (hn : n ≤ cap) (hc : cap < 1000) (hf : f i.toNat = some a) : zCn l G yJx4a65c_get_915e3 (.code yJx4a65c_get_915e3 cJx4a65c_get_915e3 2 (some (.object "java/lang/Object"))) rJx4a65c_get_915e3 [.ref tl, .int (zI i)] M (zRr (fun xr M2 => xr = a ∧ M2 = M)) zN := by
  refine zStart hfl (by decide) (own := RJx4a65c) rfl [(0, .ref tl), (1, .int (zI i))] (Nat.le_of_ble_eq_true rfl) rfl (fun k hkl hinit hk0 F => ?_)
  refine z_iload_n F 1 dJx4a65c_get_915e3_0 rfl rfl ?_
  refine z_aload_n F 0 dJx4a65c_get_915e3_1 rfl rfl ?_
  refine z_get F fl_Jx4a65c_48 h0 rfl dJx4a65c_get_915e3_2 ?_
  refine z_callS F [.int (zI i), .int (zI n)] [] (c_J15_checkIndex_7cf53 F.2.2.1 G M hi hi2 (by omega)) cs_Jx4a65c_118 rfl ⟨by decide, by decide⟩ ⟨by decide, by decide⟩ (Nat.le_of_ble_eq_true rfl) dJx4a65c_get_915e3_5 z_nx (z_ki (fun x_1 M_1 h_1 => ?_))
  have hx9 := (h_1).1.symm
  have hm9 := (h_1).2.symm
  subst hx9
  subst hm9
  refine z_pop F dJx4a65c_get_915e3_8 rfl ?_
  refine z_aload_n F 0 dJx4a65c_get_915e3_9 rfl rfl ?_
  refine z_iload_n F 1 dJx4a65c_get_915e3_10 rfl rfl ?_
  refine z_callV F [.int (zI i)] [] (c_Jx4a65c_elementData_915e3 F.2.2.1 G M h0 h1 hi (by omega) hc hf) cv_Jx4a65c_123 h0 rfl rfl rfl ⟨by decide, by decide⟩ ⟨by decide, by decide⟩ (Nat.le_of_ble_eq_true rfl) dJx4a65c_get_915e3_11 z_nx (z_kr (fun x_2 M_2 h_2 => ?_))
  have hx9 := (h_2).1.symm
  have hm9 := (h_2).2.symm
  subst hx9
  subst hm9
  exact z_reta F rfl (Or.inl ⟨_, rfl⟩) (by first | decide | assumption | omega) (by first | decide | assumption | omega) dJx4a65c_get_915e3_14 ⟨_, rfl, rfl, rfl⟩

abbrev rJ8_newLength_cabcc : Room := { frames := 1, cells := 0, slots := 0, locals := 30 }
set_option maxRecDepth 100000 in
set_option maxHeartbeats 4000000 in
theorem c_J8_newLength_cabcc {l : Launch} (hfl : l.stackTraces = false) (G : zG) {a b c : Int} (M : zM) (h0 : 0 ≤ a) (h1 : a < 1000) (h2 : 0 < b) (h3 : b < 1000) (h4 : 0 ≤ c) (h5 : c < 1000) : zCn l G yJ8_newLength_cabcc (.code yJ8_newLength_cabcc cJ8_newLength_cabcc 4 (some .int)) rJ8_newLength_cabcc [.int (zI a), .int (zI b), .int (zI c)] M (zRi (fun xr M2 => xr = a + (if b < c then c else b) ∧ M2 = M)) zN := by
  refine zStart hfl (by decide) (own := RJ8) rfl [(0, .int (zI a)), (1, .int (zI b)), (2, .int (zI c))] (Nat.le_of_ble_eq_true rfl) rfl (fun k hkl hinit hk0 F => ?_)
  refine z_iload_n F 0 dJ8_newLength_cabcc_0 rfl rfl ?_
  refine z_iload_n F 1 dJ8_newLength_cabcc_1 rfl rfl ?_
  refine z_iload_n F 2 dJ8_newLength_cabcc_2 rfl rfl ?_
  refine z_max F (zr_5 _ (List.mem_of_getElem? (i := 19) rfl)) (zr_5 _ (List.mem_of_getElem? (i := 11) rfl)) (zr_5 _ (List.mem_of_getElem? (i := 12) rfl)) (zr_5 _ (List.mem_of_getElem? (i := 13) rfl)) (by omega) (by omega) (by decide) (Nat.le_of_ble_eq_true rfl) (by first | decide | assumption | omega) (by first | decide | assumption | omega) dJ8_newLength_cabcc_3 ?_
  refine z_iadd F dJ8_newLength_cabcc_6 ?_
  have hr9 : 0 < a + (if b < c then c else b) ∧ a + (if b < c then c else b) < 2000 := by split <;> omega
  refine z_istore_n F [(3, .int (zI (a + ((if b < c then c else b))))), (0, .int (zI a)), (1, .int (zI b)), (2, .int (zI c))] dJ8_newLength_cabcc_7 rfl (by decide) rfl ?_
  refine z_iconst (z := 0) F dJ8_newLength_cabcc_8 (by decide) ?_
  refine z_iload_n F 0 dJ8_newLength_cabcc_9 rfl rfl ?_
  refine z_icmp_ge F 21 dJ8_newLength_cabcc_10 (by decide) ⟨by decide, by decide⟩ (by omega) (fun c_1 => ?_) (fun c_1 => ?_)
  · skip
    exact absurd c_1 (by omega)
  · skip
    refine z_iload_n F 0 dJ8_newLength_cabcc_13 rfl rfl ?_
    refine z_ldc (z := 2147483639) F (zr_5 _ (List.mem_of_getElem? (i := 20) rfl)) dJ8_newLength_cabcc_14 ?_
    refine z_icmp_gt F 21 dJ8_newLength_cabcc_16 (by decide) (by omega) ⟨by decide, by decide⟩ (fun c_2 => ?_) (fun c_2 => ?_)
    · skip
      exact absurd c_2 (by omega)
    · skip
      refine z_iload_n F 0 dJ8_newLength_cabcc_19 rfl rfl ?_
      exact z_reti F rfl (by first | decide | assumption | omega) (by first | decide | assumption | omega) dJ8_newLength_cabcc_20 ⟨_, rfl, rfl, rfl⟩

abbrev rJ7_copyOf_6403c : Room := { frames := 1, cells := 1, slots := 33, locals := 60 }
set_option maxRecDepth 100000 in
set_option maxHeartbeats 4000000 in
theorem c_J7_copyOf_6403c {l : Launch} (hfl : l.stackTraces = false) (G : zG) {td tn nl cap : Nat} {f : Nat → Option Nat} {ci : Nat} {C : String} {T : u_T} {NN : Nat} (M : zM) (h1 : M td = some (zAr 4 cap f)) (h2 : M tn = none) (m1 : tn % 64 ≠ 63) (hcap : cap ≤ nl) (hnl : nl ≤ 33) (hc : vwCl[ci]? = some (C, T, NN)) (hq : (C, "java/lang/Object") ∈ zNC) (hel : ∀ j x, f j = some x → ∃ fs, M x = some (zOb ci fs)) : zCn l G yJ7_copyOf_6403c (.code yJ7_copyOf_6403c cJ7_copyOf_6403c 4 (some (.array (.object "java/lang/Object")))) rJ7_copyOf_6403c [.ref td, .int (zI nl), .ref 191] M (zRr (fun xr M2 => xr = tn ∧ M2 = zu M tn (zAr 4 nl (va_cpy f (fun _ => none) 0 0 cap)))) zN := by
  refine zStart hfl (by decide) (own := RJ7) rfl [(0, .ref td), (1, .int (zI nl)), (2, .ref 191)] (Nat.le_of_ble_eq_true rfl) rfl (fun k hkl hinit hk0 F => ?_)
  have hsl9 : 0 + nl ≤ rJ7_copyOf_6403c.slots := by show 0 + nl ≤ 33; omega
  refine z_aload_n F 2 dJ7_copyOf_6403c_0 rfl rfl ?_
  refine z_ldcM F (zr_6 _ (List.mem_of_getElem? (i := 11) rfl)) dJ7_copyOf_6403c_1 ?_
  refine z_acmp_ne (tgt := 13) F dJ7_copyOf_6403c_3 (by decide) ?_
  refine z_iload_n F 1 dJ7_copyOf_6403c_6 rfl rfl ?_
  have n1 : tn ≠ td := fun h => by rw [h, h1] at h2; cases h2
  refine z_newr4 F tn nl rfl (by omega) h2 m1 (by decide) hsl9 (zr_6 _ (List.mem_of_getElem? (i := 12) rfl)) dJ7_copyOf_6403c_7 ?_
  have hel9 : ∀ j x, f j = some x → ∃ fs, zu M tn (zAr 4 nl (fun _ => none)) x = some (zOb ci fs) := fun j x hx => by
    obtain ⟨fs, h9⟩ := hel j x hx
    exact ⟨fs, (zu_n (fun e => by rw [e, h2] at h9; cases h9)).trans h9⟩
  have hm_1_0 := (zu_n (M := M) (t := tn) (q := td) (o := (zAr 4 nl (fun _ => none))) (by first | assumption | omega | (intro h9; omega))).trans h1
  have hm_1_s := zu_s M tn (zAr 4 nl (fun _ => none))
  refine z_goto F 24 dJ7_copyOf_6403c_10 (by decide) ?_
  refine z_astore_n F [(3, .ref tn), (0, .ref td), (1, .int (zI nl)), (2, .ref 191)] dJ7_copyOf_6403c_24 rfl (by decide) rfl ?_
  refine z_aload_n F 1 dJ7_copyOf_6403c_25 rfl rfl ?_
  refine z_iconst (z := 0) F dJ7_copyOf_6403c_26 (by decide) ?_
  refine z_aload_n F 0 dJ7_copyOf_6403c_27 rfl rfl ?_
  refine z_iconst (z := 0) F dJ7_copyOf_6403c_28 (by decide) ?_
  refine z_aload_n F 1 dJ7_copyOf_6403c_29 rfl rfl ?_
  refine z_alenr F hm_1_0 dJ7_copyOf_6403c_30 ?_
  refine z_iload_n F 2 dJ7_copyOf_6403c_31 rfl rfl ?_
  refine z_min F (zr_6 _ (List.mem_of_getElem? (i := 13) rfl)) (zr_6 _ (List.mem_of_getElem? (i := 14) rfl)) (zr_5 _ (List.mem_of_getElem? (i := 12) rfl)) (zr_6 _ (List.mem_of_getElem? (i := 15) rfl)) (by omega) (by omega) (by decide) (Nat.le_of_ble_eq_true rfl) (by first | decide | assumption | omega) (by first | decide | assumption | omega) dJ7_copyOf_6403c_32 ?_
  refine z_copyr F (zr_6 _ (List.mem_of_getElem? (i := 16) rfl)) (zr_6 _ (List.mem_of_getElem? (i := 17) rfl)) (zr_6 _ (List.mem_of_getElem? (i := 18) rfl)) (zr_6 _ (List.mem_of_getElem? (i := 19) rfl)) hm_1_0 hm_1_s hc hq hel9 (by omega) (by omega) (by omega) (by omega) (by omega) (by omega) (by omega) (by decide) (Nat.le_of_ble_eq_true rfl) dJ7_copyOf_6403c_35 ?_
  have hm_2_0 := (zu_n (M := (zu M tn (zAr 4 nl (fun _ => none)))) (t := tn) (q := td) (o := (zAr 4 nl (va_cpy f ((fun _ => none)) (0 : Int).toNat (0 : Int).toNat ((if nl < cap then nl else cap) : Int).toNat))) (by first | assumption | omega | (intro h9; omega))).trans hm_1_0
  have hm_2_s := zu_s (zu M tn (zAr 4 nl (fun _ => none))) tn (zAr 4 nl (va_cpy f ((fun _ => none)) (0 : Int).toNat (0 : Int).toNat ((if nl < cap then nl else cap) : Int).toNat))
  refine z_aload_n F 0 dJ7_copyOf_6403c_38 rfl rfl ?_
  exact z_reta F rfl (Or.inr ⟨_, rfl⟩) (by first | decide | assumption | omega) (by first | decide | assumption | omega) dJ7_copyOf_6403c_39 ⟨_, rfl, rfl, by rw [zu_zu, show (if (nl : Int) < (cap : Int) then (nl : Int) else (cap : Int)).toNat = cap by split <;> omega]; rfl⟩

abbrev rJ7_copyOf_1904c : Room := { frames := 2, cells := 1, slots := 33, locals := 83 }
set_option maxRecDepth 100000 in
set_option maxHeartbeats 4000000 in
theorem c_J7_copyOf_1904c {l : Launch} (hfl : l.stackTraces = false) (G : zG) {td tn nl cap : Nat} {f : Nat → Option Nat} {ci : Nat} {C : String} {T : u_T} {NN : Nat} (M : zM) (h1 : M td = some (zAr 4 cap f)) (h2 : M tn = none) (m1 : tn % 64 ≠ 63) (hcap : cap ≤ nl) (hnl : nl ≤ 33) (hc : vwCl[ci]? = some (C, T, NN)) (hq : (C, "java/lang/Object") ∈ zNC) (hel : ∀ j x, f j = some x → ∃ fs, M x = some (zOb ci fs)) : zCn l G yJ7_copyOf_1904c (.code yJ7_copyOf_1904c cJ7_copyOf_1904c 2 (some (.array (.object "java/lang/Object")))) rJ7_copyOf_1904c [.ref td, .int (zI nl)] M (zRr (fun xr M2 => xr = tn ∧ M2 = zu M tn (zAr 4 nl (va_cpy f (fun _ => none) 0 0 cap)))) zN := by
  refine zStart hfl (by decide) (own := RJ7) rfl [(0, .ref td), (1, .int (zI nl))] (Nat.le_of_ble_eq_true rfl) rfl (fun k hkl hinit hk0 F => ?_)
  refine z_aload_n F 0 dJ7_copyOf_1904c_0 rfl rfl ?_
  refine z_iload_n F 1 dJ7_copyOf_1904c_1 rfl rfl ?_
  refine z_aload_n F 0 dJ7_copyOf_1904c_2 rfl rfl ?_
  refine z_getC F (zr_6 _ (List.mem_of_getElem? (i := 4) rfl)) (zr_6 _ (List.mem_of_getElem? (i := 5) rfl)) (zr_6 _ (List.mem_of_getElem? (i := 6) rfl)) (zr_6 _ (List.mem_of_getElem? (i := 7) rfl)) h1 (by decide) (Nat.le_of_ble_eq_true rfl) dJ7_copyOf_1904c_3 ?_
  refine z_callS F [.ref td, .int (zI nl), .ref 191] [] (c_J7_copyOf_6403c F.2.2.1 G M h1 h2 m1 hcap hnl hc hq hel) cs_J7_300 rfl ⟨by decide, by decide⟩ ⟨by decide, by decide⟩ (Nat.le_of_ble_eq_true rfl) dJ7_copyOf_1904c_6 z_nx (z_kr (fun x_1 M_1 h_1 => ?_))
  have hx9 := (h_1).1.symm
  have hm9 := (h_1).2.symm
  subst hx9
  subst hm9
  exact z_reta F rfl (Or.inr ⟨_, rfl⟩) (by first | decide | assumption | omega) (by first | decide | assumption | omega) dJ7_copyOf_1904c_9 ⟨_, rfl, rfl, rfl⟩

abbrev rJx4a65c_grow_92f84 : Room := { frames := 3, cells := 1, slots := 33, locals := 104 }
set_option maxRecDepth 100000 in
set_option maxHeartbeats 4000000 in
theorem c_grow1 {l : Launch} (hfl : l.stackTraces = false) (G : zG) {tl tn : Nat} {mc n : Int} (M : zM) (h0 : M tl = some (zOb 0 [.int (zI mc), .ref 63, .int (zI n)])) (h2 : M tn = none) (m1 : tn % 64 ≠ 63) : zCn l G yJx4a65c_grow_92f84 (.code yJx4a65c_grow_92f84 cJx4a65c_grow_92f84 4 (some (.array (.object "java/lang/Object")))) rJx4a65c_grow_92f84 [.ref tl, .int (zI 1)] M (zRr (fun xr M2 => xr = tn ∧ M2 = zu (zu M tn (zAr 4 10 (fun _ => none))) tl (zOb 0 [.int (zI mc), .ref tn, .int (zI n)]))) zN := by
  refine zStart hfl (by decide) (own := RJx4a65c) rfl [(0, .ref tl), (1, .int (zI 1))] (Nat.le_of_ble_eq_true rfl) rfl (fun k hkl hinit hk0 F => ?_)
  have n1 : tl ≠ tn := fun h => by rw [h, h2] at h0; cases h0
  refine z_aload_n F 0 dJx4a65c_grow_92f84_0 rfl rfl ?_
  refine z_get F fl_Jx4a65c_9 h0 rfl dJx4a65c_grow_92f84_1 ?_
  refine z_alenE F dJx4a65c_grow_92f84_4 ?_
  refine z_istore_n F [(2, .int (zI 0)), (0, .ref tl), (1, .int (zI 1))] dJx4a65c_grow_92f84_5 rfl (by decide) rfl ?_
  refine z_iload_n F 0 dJx4a65c_grow_92f84_6 rfl rfl ?_
  refine z_if_gt F 20 dJx4a65c_grow_92f84_7 (by decide) ⟨by decide, by decide⟩ (fun c_1 => ?_) (fun c_1 => ?_)
  · skip
    exact absurd c_1 (by omega)
  · skip
    refine z_aload_n F 1 dJx4a65c_grow_92f84_10 rfl rfl ?_
    refine z_get F fl_Jx4a65c_9 h0 rfl dJx4a65c_grow_92f84_11 ?_
    refine z_gets F rfl (zr_2 _ (List.mem_of_getElem? (i := 3) rfl)) dJx4a65c_grow_92f84_14 ?_
    refine z_acmp_eq F 45 dJx4a65c_grow_92f84_17 (by decide) ?_
    refine z_aload_n F 1 dJx4a65c_grow_92f84_45 rfl rfl ?_
    refine z_bipush (z := 10) F dJx4a65c_grow_92f84_46 (by decide) ?_
    refine z_iload_n F 2 dJx4a65c_grow_92f84_48 rfl rfl ?_
    refine z_max F (zr_5 _ (List.mem_of_getElem? (i := 10) rfl)) (zr_5 _ (List.mem_of_getElem? (i := 11) rfl)) (zr_5 _ (List.mem_of_getElem? (i := 12) rfl)) (zr_5 _ (List.mem_of_getElem? (i := 13) rfl)) ⟨by decide, by decide⟩ ⟨by decide, by decide⟩ (by decide) (Nat.le_of_ble_eq_true rfl) (by first | decide | assumption | omega) (by first | decide | assumption | omega) dJx4a65c_grow_92f84_49 ?_
    refine z_ti (y := 10) (by decide) ?_
    refine z_newr4 F tn 10 (by decide) (by decide) h2 m1 (by decide) (by decide) (zr_5 _ (List.mem_of_getElem? (i := 14) rfl)) dJx4a65c_grow_92f84_52 ?_
    have hm_2_0 := (zu_n (M := M) (t := tn) (q := tl) (o := (zAr 4 10 (fun _ => none))) (by first | assumption | omega | (intro h9; omega))).trans h0
    have hm_2_s := zu_s M tn (zAr 4 10 (fun _ => none))
    refine z_dup_x1 F dJx4a65c_grow_92f84_55 rfl rfl ?_
    refine z_put (ty := .array (.object "java/lang/Object")) F [.int (zI mc), .ref tn, .int (zI n)] fl_Jx4a65c_9 tyJx4a65c tyJx4a65c_ok nmJx4a65c rfl (by decide +kernel) rfl rfl hm_2_0 (Nat.le_of_ble_eq_true rfl) rfl dJx4a65c_grow_92f84_56 ?_
    have hm_3_0 := (zu_n (M := (zu M tn (zAr 4 10 (fun _ => none)))) (t := tl) (q := tn) (o := (zOb 0 [.int (zI mc), .ref tn, .int (zI n)])) (by first | assumption | omega | (intro h9; omega))).trans hm_2_s
    have hm_3_s := zu_s (zu M tn (zAr 4 10 (fun _ => none))) tl (zOb 0 [.int (zI mc), .ref tn, .int (zI n)])
    exact z_reta F rfl (Or.inr ⟨_, rfl⟩) (by first | decide | assumption | omega) (by first | decide | assumption | omega) dJx4a65c_grow_92f84_59 ⟨_, rfl, rfl, rfl⟩

set_option maxRecDepth 100000 in
set_option maxHeartbeats 4000000 in
theorem c_grow2 {l : Launch} (hfl : l.stackTraces = false) (G : zG) {tl td tn cap : Nat} {mc n : Int} {f : Nat → Option Nat} {ci : Nat} {C : String} {T : u_T} {NN : Nat} (M : zM) (h0 : M tl = some (zOb 0 [.int (zI mc), .ref td, .int (zI n)])) (h1 : M td = some (zAr 4 cap f)) (h2 : M tn = none) (m1 : tn % 64 ≠ 63) (hc1 : 2 ≤ cap) (hc2 : cap ≤ 22) (hc : vwCl[ci]? = some (C, T, NN)) (hq : (C, "java/lang/Object") ∈ zNC) (hel : ∀ j x, f j = some x → ∃ fs, M x = some (zOb ci fs)) : zCn l G yJx4a65c_grow_92f84 (.code yJx4a65c_grow_92f84 cJx4a65c_grow_92f84 4 (some (.array (.object "java/lang/Object")))) rJx4a65c_grow_92f84 [.ref tl, .int (zI (cap + 1))] M (zRr (fun xr M2 => xr = tn ∧ M2 = zu (zu M tn (zAr 4 (cap + cap / 2) (va_cpy f (fun _ => none) 0 0 cap))) tl (zOb 0 [.int (zI mc), .ref tn, .int (zI n)]))) zN := by
  refine zStart hfl (by decide) (own := RJx4a65c) rfl [(0, .ref tl), (1, .int (zI (cap + 1)))] (Nat.le_of_ble_eq_true rfl) rfl (fun k hkl hinit hk0 F => ?_)
  have n1 : tl ≠ tn := fun h => by rw [h, h2] at h0; cases h0
  refine z_aload_n F 0 dJx4a65c_grow_92f84_0 rfl rfl ?_
  refine z_get F fl_Jx4a65c_9 h0 rfl dJx4a65c_grow_92f84_1 ?_
  refine z_alenr F h1 dJx4a65c_grow_92f84_4 ?_
  refine z_istore_n F [(2, .int (zI cap)), (0, .ref tl), (1, .int (zI (cap + 1)))] dJx4a65c_grow_92f84_5 rfl (by decide) rfl ?_
  refine z_iload_n F 0 dJx4a65c_grow_92f84_6 rfl rfl ?_
  refine z_if_gt F 20 dJx4a65c_grow_92f84_7 (by decide) (by omega) (fun c_1 => ?_) (fun c_1 => ?_)
  · skip
    refine z_iload_n F 0 dJx4a65c_grow_92f84_20 rfl rfl ?_
    refine z_iload_n F 2 dJx4a65c_grow_92f84_21 rfl rfl ?_
    refine z_iload_n F 0 dJx4a65c_grow_92f84_22 rfl rfl ?_
    refine z_isub F dJx4a65c_grow_92f84_23 ?_
    refine z_iload_n F 0 dJx4a65c_grow_92f84_24 rfl rfl ?_
    refine z_iconst (z := 1) F dJx4a65c_grow_92f84_25 (by decide) ?_
    refine z_ishr F (((cap / 2 : Nat) : Int)) dJx4a65c_grow_92f84_26 (by have h9 := zI_shrI (n := cap) (i := 1) (by omega) (by decide) (by decide); exact h9) ?_
    refine z_callS F [.int (zI cap), .int (zI ((cap + 1) - cap)), .int (zI (((cap / 2 : Nat) : Int)))] [] (c_J8_newLength_cabcc F.2.2.1 G M (a := (cap : Int)) (b := ((cap : Int) + 1 - cap)) (c := ((cap / 2 : Nat) : Int)) (by omega) (by omega) (by omega) (by omega) (by omega) (by omega)) cs_Jx4a65c_73 rfl ⟨by decide, by decide⟩ ⟨by decide, by decide⟩ (Nat.le_of_ble_eq_true rfl) dJx4a65c_grow_92f84_27 z_nx (z_ki (fun x_2 M_2 h_2 => ?_))
    have hx9 := (h_2).1.symm
    have hm9 := (h_2).2.symm
    subst hx9
    subst hm9
    refine z_ti (y := ((cap + cap / 2 : Nat) : Int)) (by split <;> omega) ?_
    refine z_istore_n F [(3, .int (zI (((cap + cap / 2 : Nat) : Int)))), (2, .int (zI cap)), (0, .ref tl), (1, .int (zI (cap + 1)))] dJx4a65c_grow_92f84_30 rfl (by decide) rfl ?_
    refine z_aload_n F 2 dJx4a65c_grow_92f84_31 rfl rfl ?_
    refine z_aload_n F 2 dJx4a65c_grow_92f84_32 rfl rfl ?_
    refine z_get F fl_Jx4a65c_9 h0 rfl dJx4a65c_grow_92f84_33 ?_
    refine z_iload_n F 0 dJx4a65c_grow_92f84_36 rfl rfl ?_
    refine z_callS F [.ref td, .int (zI (((cap + cap / 2 : Nat) : Int)))] [.ref tl] (c_J7_copyOf_1904c F.2.2.1 G (tn := tn) (nl := cap + cap / 2) M h1 h2 m1 (by omega) (by omega) hc hq hel) cs_Jx4a65c_66 rfl ⟨by decide, by decide⟩ ⟨by decide, by decide⟩ (Nat.le_of_ble_eq_true rfl) dJx4a65c_grow_92f84_37 z_nx (z_kr (fun x_3 M_3 h_3 => ?_))
    have hx9 := (h_3).1.symm
    have hm9 := (h_3).2.symm
    subst hx9
    subst hm9
    refine z_dup_x1 F dJx4a65c_grow_92f84_40 rfl rfl ?_
    refine z_put (ty := .array (.object "java/lang/Object")) F [.int (zI mc), .ref tn, .int (zI n)] fl_Jx4a65c_9 tyJx4a65c tyJx4a65c_ok nmJx4a65c rfl (by decide +kernel) rfl rfl ((zu_n n1).trans h0) (Nat.le_of_ble_eq_true rfl) rfl dJx4a65c_grow_92f84_41 ?_
    have hm_4_s := zu_s (zu M tn (zAr 4 (cap + cap / 2) (va_cpy f (fun _ => none) 0 0 cap))) tl (zOb 0 [.int (zI mc), .ref tn, .int (zI n)])
    exact z_reta F rfl (Or.inr ⟨_, rfl⟩) (by first | decide | assumption | omega) (by first | decide | assumption | omega) dJx4a65c_grow_92f84_44 ⟨_, rfl, rfl, rfl⟩
  · skip
    exact absurd c_1 (by omega)

abbrev rJx4a65c_grow_d5877 : Room := { frames := 4, cells := 1, slots := 33, locals := 127 }
set_option maxRecDepth 100000 in
set_option maxHeartbeats 4000000 in
theorem c_growA {l : Launch} (hfl : l.stackTraces = false) (G : zG) {tl tn : Nat} {mc : Int} (M : zM) (h0 : M tl = some (zOb 0 [.int (zI mc), .ref 63, .int (zI 0)])) (h2 : M tn = none) (m1 : tn % 64 ≠ 63) : zCn l G yJx4a65c_grow_d5877 (.code yJx4a65c_grow_d5877 cJx4a65c_grow_d5877 1 (some (.array (.object "java/lang/Object")))) rJx4a65c_grow_d5877 [.ref tl] M (zRr (fun xr M2 => xr = tn ∧ M2 = zu (zu M tn (zAr 4 10 (fun _ => none))) tl (zOb 0 [.int (zI mc), .ref tn, .int (zI 0)]))) zN := by
  refine zStart hfl (by decide) (own := RJx4a65c) rfl [(0, .ref tl)] (Nat.le_of_ble_eq_true rfl) rfl (fun k hkl hinit hk0 F => ?_)
  refine z_aload_n F 0 dJx4a65c_grow_d5877_0 rfl rfl ?_
  refine z_aload_n F 0 dJx4a65c_grow_d5877_1 rfl rfl ?_
  refine z_get F fl_Jx4a65c_48 h0 rfl dJx4a65c_grow_d5877_2 ?_
  refine z_iconst (z := 1) F dJx4a65c_grow_d5877_5 (by decide) ?_
  refine z_iadd F dJx4a65c_grow_d5877_6 ?_
  refine z_ti (y := 1) (by decide) ?_
  refine z_callV F [.int (zI 1)] [] (c_grow1 F.2.2.1 G M h0 h2 m1) cv_Jx4a65c_69 h0 rfl rfl rfl ⟨by decide, by decide⟩ ⟨by decide, by decide⟩ (Nat.le_of_ble_eq_true rfl) dJx4a65c_grow_d5877_7 z_nx (z_kr (fun x_1 M_1 h_1 => ?_))
  have hx9 := (h_1).1.symm
  have hm9 := (h_1).2.symm
  subst hx9
  subst hm9
  exact z_reta F rfl (Or.inr ⟨_, rfl⟩) (by first | decide | assumption | omega) (by first | decide | assumption | omega) dJx4a65c_grow_d5877_10 ⟨_, rfl, rfl, rfl⟩

set_option maxRecDepth 100000 in
set_option maxHeartbeats 4000000 in
theorem c_growB {l : Launch} (hfl : l.stackTraces = false) (G : zG) {tl td tn cap : Nat} {mc : Int} {f : Nat → Option Nat} {ci : Nat} {C : String} {T : u_T} {NN : Nat} (M : zM) (h0 : M tl = some (zOb 0 [.int (zI mc), .ref td, .int (zI cap)])) (h1 : M td = some (zAr 4 cap f)) (h2 : M tn = none) (m1 : tn % 64 ≠ 63) (hc1 : 2 ≤ cap) (hc2 : cap ≤ 22) (hc : vwCl[ci]? = some (C, T, NN)) (hq : (C, "java/lang/Object") ∈ zNC) (hel : ∀ j x, f j = some x → ∃ fs, M x = some (zOb ci fs)) : zCn l G yJx4a65c_grow_d5877 (.code yJx4a65c_grow_d5877 cJx4a65c_grow_d5877 1 (some (.array (.object "java/lang/Object")))) rJx4a65c_grow_d5877 [.ref tl] M (zRr (fun xr M2 => xr = tn ∧ M2 = zu (zu M tn (zAr 4 (cap + cap / 2) (va_cpy f (fun _ => none) 0 0 cap))) tl (zOb 0 [.int (zI mc), .ref tn, .int (zI cap)]))) zN := by
  refine zStart hfl (by decide) (own := RJx4a65c) rfl [(0, .ref tl)] (Nat.le_of_ble_eq_true rfl) rfl (fun k hkl hinit hk0 F => ?_)
  refine z_aload_n F 0 dJx4a65c_grow_d5877_0 rfl rfl ?_
  refine z_aload_n F 0 dJx4a65c_grow_d5877_1 rfl rfl ?_
  refine z_get F fl_Jx4a65c_48 h0 rfl dJx4a65c_grow_d5877_2 ?_
  refine z_iconst (z := 1) F dJx4a65c_grow_d5877_5 (by decide) ?_
  refine z_iadd F dJx4a65c_grow_d5877_6 ?_
  refine z_callV F [.int (zI (cap + 1))] [] (c_grow2 F.2.2.1 G M h0 h1 h2 m1 hc1 hc2 hc hq hel) cv_Jx4a65c_69 h0 rfl rfl rfl ⟨by decide, by decide⟩ ⟨by decide, by decide⟩ (Nat.le_of_ble_eq_true rfl) dJx4a65c_grow_d5877_7 z_nx (z_kr (fun x_1 M_1 h_1 => ?_))
  have hx9 := (h_1).1.symm
  have hm9 := (h_1).2.symm
  subst hx9
  subst hm9
  exact z_reta F rfl (Or.inr ⟨_, rfl⟩) (by first | decide | assumption | omega) (by first | decide | assumption | omega) dJx4a65c_grow_d5877_10 ⟨_, rfl, rfl, rfl⟩

abbrev rJx4a65c_add_72be8 : Room := { frames := 5, cells := 1, slots := 33, locals := 147 }
set_option maxRecDepth 100000 in
set_option maxHeartbeats 4000000 in
theorem c_add3A {l : Launch} (hfl : l.stackTraces = false) (G : zG) {tl td : Nat} {mc n : Int} {cap : Nat} {f : Nat → Option Nat} {te : Nat} {es : List Value} {ci : Nat} {C : String} {T : u_T} {NN : Nat} (M : zM) (h0 : M tl = some (zOb 0 [.int (zI mc), .ref td, .int (zI n)])) (h1 : M td = some (zAr 4 cap f)) (hn0 : 0 ≤ n) (hn : n < cap) (hcap : cap < 1000) (hn9 : te ≠ tl) (he : M te = some (zOb ci es)) (hc : vwCl[ci]? = some (C, T, NN)) (hq : (C, "java/lang/Object") ∈ zNC) : zCn l G yJx4a65c_add_72be8 (.code yJx4a65c_add_72be8 cJx4a65c_add_72be8 4 none) rJx4a65c_add_72be8 [.ref tl, .ref te, .ref td, .int (zI n)] M (zRv (fun M2 => M2 = zu (zu M td (zAr 4 cap (va_up f n.toNat (some te)))) tl (zOb 0 [.int (zI mc), .ref td, .int (zI (n + 1))]))) zN := by
  refine zStart hfl (by decide) (own := RJx4a65c) rfl [(0, .ref tl), (1, .ref te), (2, .ref td), (3, .int (zI n))] (Nat.le_of_ble_eq_true rfl) rfl (fun k hkl hinit hk0 F => ?_)
  have n1 : tl ≠ td := fun h => by rw [h, h1] at h0; cases h0
  have n2 : te ≠ td := fun h => by rw [h, h1] at he; cases he
  refine z_iload_n F 3 dJx4a65c_add_72be8_0 rfl rfl ?_
  refine z_aload_n F 2 dJx4a65c_add_72be8_1 rfl rfl ?_
  refine z_alenr F h1 dJx4a65c_add_72be8_2 ?_
  refine z_icmp_ne F 11 dJx4a65c_add_72be8_3 (by decide) (by omega) (by omega) (fun c_1 => ?_) (fun c_1 => ?_)
  · skip
    refine z_aload_n F 2 dJx4a65c_add_72be8_11 rfl rfl ?_
    refine z_iload_n F 3 dJx4a65c_add_72be8_12 rfl rfl ?_
    refine z_aload_n F 1 dJx4a65c_add_72be8_13 rfl rfl ?_
    refine z_aast4 F h1 he hc hq (by omega) (by omega) (by omega) dJx4a65c_add_72be8_14 ?_
    have hm_2_0 := (zu_n (M := M) (t := td) (q := tl) (o := (zAr 4 cap (va_up f (n : Int).toNat (some te)))) (by first | assumption | omega | (intro h9; omega))).trans h0
    have hm_2_1 := (zu_n (M := M) (t := td) (q := te) (o := (zAr 4 cap (va_up f (n : Int).toNat (some te)))) (by first | assumption | omega | (intro h9; omega))).trans he
    have hm_2_s := zu_s M td (zAr 4 cap (va_up f (n : Int).toNat (some te)))
    refine z_aload_n F 0 dJx4a65c_add_72be8_15 rfl rfl ?_
    refine z_iload_n F 3 dJx4a65c_add_72be8_16 rfl rfl ?_
    refine z_iconst (z := 1) F dJx4a65c_add_72be8_17 (by decide) ?_
    refine z_iadd F dJx4a65c_add_72be8_18 ?_
    refine z_put (ty := .int) F [.int (zI mc), .ref td, .int (zI (n + 1))] fl_Jx4a65c_48 tyJx4a65c tyJx4a65c_ok nmJx4a65c rfl (by decide +kernel) rfl rfl hm_2_0 (Nat.le_of_ble_eq_true rfl) rfl dJx4a65c_add_72be8_19 ?_
    have hm_3_0 := (zu_n (M := (zu M td (zAr 4 cap (va_up f (n : Int).toNat (some te))))) (t := tl) (q := te) (o := (zOb 0 [.int (zI mc), .ref td, .int (zI (n + 1))])) (by first | assumption | omega | (intro h9; omega))).trans hm_2_1
    have hm_3_1 := (zu_n (M := (zu M td (zAr 4 cap (va_up f (n : Int).toNat (some te))))) (t := tl) (q := td) (o := (zOb 0 [.int (zI mc), .ref td, .int (zI (n + 1))])) (by first | assumption | omega | (intro h9; omega))).trans hm_2_s
    have hm_3_s := zu_s (zu M td (zAr 4 cap (va_up f (n : Int).toNat (some te)))) tl (zOb 0 [.int (zI mc), .ref td, .int (zI (n + 1))])
    exact z_retv F rfl (by first | decide | assumption | omega) (by first | decide | assumption | omega) dJx4a65c_add_72be8_22 ⟨rfl, rfl⟩
  · skip
    exact absurd c_1 (by omega)

set_option maxRecDepth 100000 in
set_option maxHeartbeats 4000000 in
theorem c_add3B {l : Launch} (hfl : l.stackTraces = false) (G : zG) {tl tn : Nat} {mc : Int} {te : Nat} {es : List Value} {ci : Nat} {C : String} {T : u_T} {NN : Nat} (M : zM) (h0 : M tl = some (zOb 0 [.int (zI mc), .ref 63, .int (zI 0)])) (h2 : M tn = none) (m1 : tn % 64 ≠ 63) (hn9 : te ≠ tl) (he : M te = some (zOb ci es)) (hc : vwCl[ci]? = some (C, T, NN)) (hq : (C, "java/lang/Object") ∈ zNC) : zCn l G yJx4a65c_add_72be8 (.code yJx4a65c_add_72be8 cJx4a65c_add_72be8 4 none) rJx4a65c_add_72be8 [.ref tl, .ref te, .ref 63, .int (zI 0)] M (zRv (fun M2 => M2 = zu (zu M tn (zAr 4 10 (va_up (fun _ => none) 0 (some te)))) tl (zOb 0 [.int (zI mc), .ref tn, .int (zI 1)]))) zN := by
  refine zStart hfl (by decide) (own := RJx4a65c) rfl [(0, .ref tl), (1, .ref te), (2, .ref 63), (3, .int (zI 0))] (Nat.le_of_ble_eq_true rfl) rfl (fun k hkl hinit hk0 F => ?_)
  have n1 : tl ≠ tn := fun h => by rw [h, h2] at h0; cases h0
  have n2 : te ≠ tn := fun h => by rw [h, h2] at he; cases he
  refine z_iload_n F 3 dJx4a65c_add_72be8_0 rfl rfl ?_
  refine z_aload_n F 2 dJx4a65c_add_72be8_1 rfl rfl ?_
  refine z_alenE F dJx4a65c_add_72be8_2 ?_
  refine z_icmp_ne F 11 dJx4a65c_add_72be8_3 (by decide) ⟨by decide, by decide⟩ ⟨by decide, by decide⟩ (fun c_1 => ?_) (fun c_1 => ?_)
  · skip
    exact absurd rfl c_1
  · skip
    refine z_aload_n F 0 dJx4a65c_add_72be8_6 rfl rfl ?_
    refine z_callV F [] [] (c_growA F.2.2.1 G M h0 h2 m1) cv_Jx4a65c_129 h0 rfl rfl rfl ⟨by decide, by decide⟩ ⟨by decide, by decide⟩ (Nat.le_of_ble_eq_true rfl) dJx4a65c_add_72be8_7 z_nx (z_kr (fun x_2 M_2 h_2 => ?_))
    have hx9 := (h_2).1.symm
    have hm9 := (h_2).2.symm
    subst hx9
    subst hm9
    have n3 : te ≠ tl ∨ te = tl := (Classical.em (te = tl)).symm
    have he9 : ∃ es9, zu (zu M tn (zAr 4 10 (fun _ => none))) tl (zOb 0 [.int (zI mc), .ref tn, .int (zI 0)]) te = some (zOb ci es9) := by
      by_cases e9 : te = tl
      · have hci : ci = 0 := by
          rw [e9, h0] at he
          cases he
          rfl
        rw [e9, hci]
        exact ⟨_, zu_s _ _ _⟩
      · exact ⟨es, (zu_n e9).trans ((zu_n n2).trans he)⟩
    obtain ⟨es9, he9⟩ := he9
    refine z_astore_n F [(2, .ref tn), (0, .ref tl), (1, .ref te), (3, .int (zI 0))] dJx4a65c_add_72be8_10 rfl (by decide) rfl ?_
    refine z_aload_n F 0 dJx4a65c_add_72be8_11 rfl rfl ?_
    refine z_iload_n F 3 dJx4a65c_add_72be8_12 rfl rfl ?_
    refine z_aload_n F 2 dJx4a65c_add_72be8_13 rfl rfl ?_
    refine z_aast4 F ((zu_n (Ne.symm n1)).trans (zu_s _ _ _)) he9 hc hq (by omega) (by omega) (by omega) dJx4a65c_add_72be8_14 ?_
    have hm_3_0 := (zu_n (M := (zu (zu M tn (zAr 4 10 (fun _ => none))) tl (zOb 0 [.int (zI mc), .ref tn, .int (zI 0)]))) (t := tn) (q := tl) (o := (zAr 4 10 (va_up ((fun _ => none)) (0 : Int).toNat (some te)))) (by first | assumption | omega | (intro h9; omega))).trans (zu_s _ _ _)
    have hm_3_1 := (zu_n (M := (zu (zu M tn (zAr 4 10 (fun _ => none))) tl (zOb 0 [.int (zI mc), .ref tn, .int (zI 0)]))) (t := tn) (q := te) (o := (zAr 4 10 (va_up ((fun _ => none)) (0 : Int).toNat (some te)))) (by first | assumption | omega | (intro h9; omega))).trans he9
    have hm_3_s := zu_s (zu (zu M tn (zAr 4 10 (fun _ => none))) tl (zOb 0 [.int (zI mc), .ref tn, .int (zI 0)])) tn (zAr 4 10 (va_up ((fun _ => none)) (0 : Int).toNat (some te)))
    refine z_aload_n F 1 dJx4a65c_add_72be8_15 rfl rfl ?_
    refine z_iload_n F 3 dJx4a65c_add_72be8_16 rfl rfl ?_
    refine z_iconst (z := 1) F dJx4a65c_add_72be8_17 (by decide) ?_
    refine z_iadd F dJx4a65c_add_72be8_18 ?_
    refine z_put (ty := .int) F [.int (zI mc), .ref tn, .int (zI (0 + 1))] fl_Jx4a65c_48 tyJx4a65c tyJx4a65c_ok nmJx4a65c rfl (by decide +kernel) rfl rfl hm_3_0 (Nat.le_of_ble_eq_true rfl) rfl dJx4a65c_add_72be8_19 ?_
    have hm_4_0 := (zu_n (M := (zu (zu (zu M tn (zAr 4 10 (fun _ => none))) tl (zOb 0 [.int (zI mc), .ref tn, .int (zI 0)])) tn (zAr 4 10 (va_up ((fun _ => none)) (0 : Int).toNat (some te))))) (t := tl) (q := te) (o := (zOb 0 [.int (zI mc), .ref tn, .int (zI (0 + 1))])) (by first | assumption | omega | (intro h9; omega))).trans hm_3_1
    have hm_4_1 := (zu_n (M := (zu (zu (zu M tn (zAr 4 10 (fun _ => none))) tl (zOb 0 [.int (zI mc), .ref tn, .int (zI 0)])) tn (zAr 4 10 (va_up ((fun _ => none)) (0 : Int).toNat (some te))))) (t := tl) (q := tn) (o := (zOb 0 [.int (zI mc), .ref tn, .int (zI (0 + 1))])) (by first | assumption | omega | (intro h9; omega))).trans hm_3_s
    have hm_4_s := zu_s (zu (zu (zu M tn (zAr 4 10 (fun _ => none))) tl (zOb 0 [.int (zI mc), .ref tn, .int (zI 0)])) tn (zAr 4 10 (va_up ((fun _ => none)) (0 : Int).toNat (some te)))) tl (zOb 0 [.int (zI mc), .ref tn, .int (zI (0 + 1))])
    exact z_retv F rfl (by first | decide | assumption | omega) (by first | decide | assumption | omega) dJx4a65c_add_72be8_22 ⟨rfl, by rw [zu_cm (o := zOb 0 [.int (zI mc), .ref tn, .int (zI 0)]) n1, zu_zu, zu_zu]; rfl⟩

set_option maxRecDepth 100000 in
set_option maxHeartbeats 4000000 in
theorem c_add3C {l : Launch} (hfl : l.stackTraces = false) (G : zG) {tl td tn cap : Nat} {mc : Int} {f : Nat → Option Nat} {te : Nat} {es : List Value} {ci : Nat} {C : String} {T : u_T} {NN : Nat} (M : zM) (h0 : M tl = some (zOb 0 [.int (zI mc), .ref td, .int (zI cap)])) (h1 : M td = some (zAr 4 cap f)) (h2 : M tn = none) (m1 : tn % 64 ≠ 63) (hc1 : 2 ≤ cap) (hc2 : cap ≤ 22) (hn9 : te ≠ tl) (he : M te = some (zOb ci es)) (hc : vwCl[ci]? = some (C, T, NN)) (hq : (C, "java/lang/Object") ∈ zNC) (hel : ∀ j x, f j = some x → ∃ fs, M x = some (zOb ci fs)) : zCn l G yJx4a65c_add_72be8 (.code yJx4a65c_add_72be8 cJx4a65c_add_72be8 4 none) rJx4a65c_add_72be8 [.ref tl, .ref te, .ref td, .int (zI cap)] M (zRv (fun M2 => M2 = zu (zu M tn (zAr 4 (cap + cap / 2) (va_up (va_cpy f (fun _ => none) 0 0 cap) cap (some te)))) tl (zOb 0 [.int (zI mc), .ref tn, .int (zI ((cap : Int) + 1))]))) zN := by
  refine zStart hfl (by decide) (own := RJx4a65c) rfl [(0, .ref tl), (1, .ref te), (2, .ref td), (3, .int (zI cap))] (Nat.le_of_ble_eq_true rfl) rfl (fun k hkl hinit hk0 F => ?_)
  have n1 : tl ≠ tn := fun h => by rw [h, h2] at h0; cases h0
  have n2 : te ≠ tn := fun h => by rw [h, h2] at he; cases he
  refine z_iload_n F 3 dJx4a65c_add_72be8_0 rfl rfl ?_
  refine z_aload_n F 2 dJx4a65c_add_72be8_1 rfl rfl ?_
  refine z_alenr F h1 dJx4a65c_add_72be8_2 ?_
  refine z_icmp_ne F 11 dJx4a65c_add_72be8_3 (by decide) (by omega) (by omega) (fun c_1 => ?_) (fun c_1 => ?_)
  · skip
    exact absurd rfl c_1
  · skip
    refine z_aload_n F 0 dJx4a65c_add_72be8_6 rfl rfl ?_
    refine z_callV F [] [] (c_growB F.2.2.1 G M h0 h1 h2 m1 hc1 hc2 hc hq hel) cv_Jx4a65c_129 h0 rfl rfl rfl ⟨by decide, by decide⟩ ⟨by decide, by decide⟩ (Nat.le_of_ble_eq_true rfl) dJx4a65c_add_72be8_7 z_nx (z_kr (fun x_2 M_2 h_2 => ?_))
    have hx9 := (h_2).1.symm
    have hm9 := (h_2).2.symm
    subst hx9
    subst hm9
    have he9 : ∃ es9, zu (zu M tn (zAr 4 (cap + cap / 2) (va_cpy f (fun _ => none) 0 0 cap))) tl (zOb 0 [.int (zI mc), .ref tn, .int (zI cap)]) te = some (zOb ci es9) := by
      by_cases e9 : te = tl
      · have hci : ci = 0 := by
          rw [e9, h0] at he
          cases he
          rfl
        rw [e9, hci]
        exact ⟨_, zu_s _ _ _⟩
      · exact ⟨es, (zu_n e9).trans ((zu_n n2).trans he)⟩
    obtain ⟨es9, he9⟩ := he9
    refine z_astore_n F [(2, .ref tn), (0, .ref tl), (1, .ref te), (3, .int (zI cap))] dJx4a65c_add_72be8_10 rfl (by decide) rfl ?_
    refine z_aload_n F 0 dJx4a65c_add_72be8_11 rfl rfl ?_
    refine z_iload_n F 3 dJx4a65c_add_72be8_12 rfl rfl ?_
    refine z_aload_n F 2 dJx4a65c_add_72be8_13 rfl rfl ?_
    refine z_aast4 F ((zu_n (Ne.symm n1)).trans (zu_s _ _ _)) he9 hc hq (by omega) (by omega) (by omega) dJx4a65c_add_72be8_14 ?_
    have hm_3_0 := (zu_n (M := (zu (zu M tn (zAr 4 (cap + cap / 2) (va_cpy f (fun _ => none) 0 0 cap))) tl (zOb 0 [.int (zI mc), .ref tn, .int (zI cap)]))) (t := tn) (q := tl) (o := (zAr 4 (cap + cap / 2) (va_up ((va_cpy f (fun _ => none) 0 0 cap)) (cap : Int).toNat (some te)))) (by first | assumption | omega | (intro h9; omega))).trans (zu_s _ _ _)
    have hm_3_1 := (zu_n (M := (zu (zu M tn (zAr 4 (cap + cap / 2) (va_cpy f (fun _ => none) 0 0 cap))) tl (zOb 0 [.int (zI mc), .ref tn, .int (zI cap)]))) (t := tn) (q := te) (o := (zAr 4 (cap + cap / 2) (va_up ((va_cpy f (fun _ => none) 0 0 cap)) (cap : Int).toNat (some te)))) (by first | assumption | omega | (intro h9; omega))).trans he9
    have hm_3_s := zu_s (zu (zu M tn (zAr 4 (cap + cap / 2) (va_cpy f (fun _ => none) 0 0 cap))) tl (zOb 0 [.int (zI mc), .ref tn, .int (zI cap)])) tn (zAr 4 (cap + cap / 2) (va_up ((va_cpy f (fun _ => none) 0 0 cap)) (cap : Int).toNat (some te)))
    refine z_aload_n F 1 dJx4a65c_add_72be8_15 rfl rfl ?_
    refine z_iload_n F 3 dJx4a65c_add_72be8_16 rfl rfl ?_
    refine z_iconst (z := 1) F dJx4a65c_add_72be8_17 (by decide) ?_
    refine z_iadd F dJx4a65c_add_72be8_18 ?_
    refine z_put (ty := .int) F [.int (zI mc), .ref tn, .int (zI (cap + 1))] fl_Jx4a65c_48 tyJx4a65c tyJx4a65c_ok nmJx4a65c rfl (by decide +kernel) rfl rfl hm_3_0 (Nat.le_of_ble_eq_true rfl) rfl dJx4a65c_add_72be8_19 ?_
    have hm_4_0 := (zu_n (M := (zu (zu (zu M tn (zAr 4 (cap + cap / 2) (va_cpy f (fun _ => none) 0 0 cap))) tl (zOb 0 [.int (zI mc), .ref tn, .int (zI cap)])) tn (zAr 4 (cap + cap / 2) (va_up ((va_cpy f (fun _ => none) 0 0 cap)) (cap : Int).toNat (some te))))) (t := tl) (q := te) (o := (zOb 0 [.int (zI mc), .ref tn, .int (zI (cap + 1))])) (by first | assumption | omega | (intro h9; omega))).trans hm_3_1
    have hm_4_1 := (zu_n (M := (zu (zu (zu M tn (zAr 4 (cap + cap / 2) (va_cpy f (fun _ => none) 0 0 cap))) tl (zOb 0 [.int (zI mc), .ref tn, .int (zI cap)])) tn (zAr 4 (cap + cap / 2) (va_up ((va_cpy f (fun _ => none) 0 0 cap)) (cap : Int).toNat (some te))))) (t := tl) (q := tn) (o := (zOb 0 [.int (zI mc), .ref tn, .int (zI (cap + 1))])) (by first | assumption | omega | (intro h9; omega))).trans hm_3_s
    have hm_4_s := zu_s (zu (zu (zu M tn (zAr 4 (cap + cap / 2) (va_cpy f (fun _ => none) 0 0 cap))) tl (zOb 0 [.int (zI mc), .ref tn, .int (zI cap)])) tn (zAr 4 (cap + cap / 2) (va_up ((va_cpy f (fun _ => none) 0 0 cap)) (cap : Int).toNat (some te)))) tl (zOb 0 [.int (zI mc), .ref tn, .int (zI (cap + 1))])
    exact z_retv F rfl (by first | decide | assumption | omega) (by first | decide | assumption | omega) dJx4a65c_add_72be8_22 ⟨rfl, by rw [zu_cm (o := zOb 0 [.int (zI mc), .ref tn, .int (zI cap)]) n1, zu_zu, zu_zu]; rfl⟩

abbrev rJx4a65c_add_9ea2d : Room := { frames := 6, cells := 1, slots := 33, locals := 170 }
set_option maxRecDepth 100000 in
set_option maxHeartbeats 4000000 in
theorem c_addA {l : Launch} (hfl : l.stackTraces = false) (G : zG) {tl td : Nat} {mc n : Int} {cap : Nat} {f : Nat → Option Nat} {te : Nat} {es : List Value} {ci : Nat} {C : String} {T : u_T} {NN : Nat} (M : zM) (h0 : M tl = some (zOb 0 [.int (zI mc), .ref td, .int (zI n)])) (h1 : M td = some (zAr 4 cap f)) (hn0 : 0 ≤ n) (hn : n < cap) (hcap : cap < 1000) (hn9 : te ≠ tl) (he : M te = some (zOb ci es)) (hc : vwCl[ci]? = some (C, T, NN)) (hq : (C, "java/lang/Object") ∈ zNC) : zCn l G yJx4a65c_add_9ea2d (.code yJx4a65c_add_9ea2d cJx4a65c_add_9ea2d 2 (some .boolean)) rJx4a65c_add_9ea2d [.ref tl, .ref te] M (zRi (fun xr M2 => xr = 1 ∧ M2 = zu (zu M td (zAr 4 cap (va_up f n.toNat (some te)))) tl (zOb 0 [.int (zI (mc + 1)), .ref td, .int (zI (n + 1))]))) zN := by
  refine zStart hfl (by decide) (own := RJx4a65c) rfl [(0, .ref tl), (1, .ref te)] (Nat.le_of_ble_eq_true rfl) rfl (fun k hkl hinit hk0 F => ?_)
  have n1 : tl ≠ td := fun h => by rw [h, h1] at h0; cases h0
  have n2 : te ≠ td := fun h => by rw [h, h1] at he; cases he
  refine z_aload_n F 0 dJx4a65c_add_9ea2d_0 rfl rfl ?_
  refine z_dup F dJx4a65c_add_9ea2d_1 rfl ?_
  refine z_getS (kf := 0) (ref := "java/util/ArrayList") F rfl inlJx4a65c (by decide) (zr_4 _ (List.mem_of_getElem? (i := 20) rfl)) (zr_4 _ (List.mem_of_getElem? (i := 21) rfl)) h0 rfl dJx4a65c_add_9ea2d_2 ?_
  refine z_iconst (z := 1) F dJx4a65c_add_9ea2d_5 (by decide) ?_
  refine z_iadd F dJx4a65c_add_9ea2d_6 ?_
  refine z_putS (kf := 0) (ref := "java/util/ArrayList") (ty := .int) F [.int (zI (mc + 1)), .ref td, .int (zI n)] rfl inlJx4a65c (by decide) (zr_4 _ (List.mem_of_getElem? (i := 20) rfl)) (zr_4 _ (List.mem_of_getElem? (i := 21) rfl)) tyJx4a65c tyJx4a65c_ok nmJx4a65c rfl (by decide +kernel) rfl rfl h0 (Nat.le_of_ble_eq_true rfl) rfl dJx4a65c_add_9ea2d_7 ?_
  have hm_1_0 := (zu_n (M := M) (t := tl) (q := td) (o := (zOb 0 [.int (zI (mc + 1)), .ref td, .int (zI n)])) (by first | assumption | omega | (intro h9; omega))).trans h1
  have hm_1_s := zu_s M tl (zOb 0 [.int (zI (mc + 1)), .ref td, .int (zI n)])
  refine z_aload_n F 0 dJx4a65c_add_9ea2d_10 rfl rfl ?_
  refine z_aload_n F 1 dJx4a65c_add_9ea2d_11 rfl rfl ?_
  refine z_aload_n F 0 dJx4a65c_add_9ea2d_12 rfl rfl ?_
  refine z_get F fl_Jx4a65c_9 hm_1_s rfl dJx4a65c_add_9ea2d_13 ?_
  refine z_aload_n F 0 dJx4a65c_add_9ea2d_16 rfl rfl ?_
  refine z_get F fl_Jx4a65c_48 hm_1_s rfl dJx4a65c_add_9ea2d_17 ?_
  refine z_callV F [.ref te, .ref td, .int (zI n)] [] (c_add3A F.2.2.1 G _ (zu_s _ _ _) ((zu_n (Ne.symm n1)).trans h1) hn0 hn hcap hn9 ((zu_n hn9).trans he) hc hq) cv_Jx4a65c_131 hm_1_s rfl rfl rfl ⟨by decide, by decide⟩ ⟨by decide, by decide⟩ (Nat.le_of_ble_eq_true rfl) dJx4a65c_add_9ea2d_20 z_nx (z_kv (fun M_2 h_2 => ?_))
  have hm9 := (h_2).symm
  subst hm9
  refine z_iconst (z := 1) F dJx4a65c_add_9ea2d_23 (by decide) ?_
  exact z_retz F rfl (by decide) (by first | decide | assumption | omega) (by first | decide | assumption | omega) dJx4a65c_add_9ea2d_24 ⟨_, rfl, rfl, zDup n1⟩

set_option maxRecDepth 100000 in
set_option maxHeartbeats 4000000 in
theorem c_addB {l : Launch} (hfl : l.stackTraces = false) (G : zG) {tl tn : Nat} {mc : Int} {te : Nat} {es : List Value} {ci : Nat} {C : String} {T : u_T} {NN : Nat} (M : zM) (h0 : M tl = some (zOb 0 [.int (zI mc), .ref 63, .int (zI 0)])) (h2 : M tn = none) (m1 : tn % 64 ≠ 63) (hn9 : te ≠ tl) (he : M te = some (zOb ci es)) (hc : vwCl[ci]? = some (C, T, NN)) (hq : (C, "java/lang/Object") ∈ zNC) : zCn l G yJx4a65c_add_9ea2d (.code yJx4a65c_add_9ea2d cJx4a65c_add_9ea2d 2 (some .boolean)) rJx4a65c_add_9ea2d [.ref tl, .ref te] M (zRi (fun xr M2 => xr = 1 ∧ M2 = zu (zu M tn (zAr 4 10 (va_up (fun _ => none) 0 (some te)))) tl (zOb 0 [.int (zI (mc + 1)), .ref tn, .int (zI 1)]))) zN := by
  refine zStart hfl (by decide) (own := RJx4a65c) rfl [(0, .ref tl), (1, .ref te)] (Nat.le_of_ble_eq_true rfl) rfl (fun k hkl hinit hk0 F => ?_)
  have n1 : tl ≠ tn := fun h => by rw [h, h2] at h0; cases h0
  have n2 : te ≠ tn := fun h => by rw [h, h2] at he; cases he
  refine z_aload_n F 0 dJx4a65c_add_9ea2d_0 rfl rfl ?_
  refine z_dup F dJx4a65c_add_9ea2d_1 rfl ?_
  refine z_getS (kf := 0) (ref := "java/util/ArrayList") F rfl inlJx4a65c (by decide) (zr_4 _ (List.mem_of_getElem? (i := 20) rfl)) (zr_4 _ (List.mem_of_getElem? (i := 21) rfl)) h0 rfl dJx4a65c_add_9ea2d_2 ?_
  refine z_iconst (z := 1) F dJx4a65c_add_9ea2d_5 (by decide) ?_
  refine z_iadd F dJx4a65c_add_9ea2d_6 ?_
  refine z_putS (kf := 0) (ref := "java/util/ArrayList") (ty := .int) F [.int (zI (mc + 1)), .ref 63, .int (zI 0)] rfl inlJx4a65c (by decide) (zr_4 _ (List.mem_of_getElem? (i := 20) rfl)) (zr_4 _ (List.mem_of_getElem? (i := 21) rfl)) tyJx4a65c tyJx4a65c_ok nmJx4a65c rfl (by decide +kernel) rfl rfl h0 (Nat.le_of_ble_eq_true rfl) rfl dJx4a65c_add_9ea2d_7 ?_
  have hm_1_s := zu_s M tl (zOb 0 [.int (zI (mc + 1)), .ref 63, .int (zI 0)])
  refine z_aload_n F 0 dJx4a65c_add_9ea2d_10 rfl rfl ?_
  refine z_aload_n F 1 dJx4a65c_add_9ea2d_11 rfl rfl ?_
  refine z_aload_n F 0 dJx4a65c_add_9ea2d_12 rfl rfl ?_
  refine z_get F fl_Jx4a65c_9 hm_1_s rfl dJx4a65c_add_9ea2d_13 ?_
  refine z_aload_n F 0 dJx4a65c_add_9ea2d_16 rfl rfl ?_
  refine z_get F fl_Jx4a65c_48 hm_1_s rfl dJx4a65c_add_9ea2d_17 ?_
  refine z_callV F [.ref te, .ref 63, .int (zI 0)] [] (c_add3B F.2.2.1 G _ (zu_s _ _ _) ((zu_n (Ne.symm n1)).trans h2) m1 hn9 ((zu_n hn9).trans he) hc hq) cv_Jx4a65c_131 hm_1_s rfl rfl rfl ⟨by decide, by decide⟩ ⟨by decide, by decide⟩ (Nat.le_of_ble_eq_true rfl) dJx4a65c_add_9ea2d_20 z_nx (z_kv (fun M_2 h_2 => ?_))
  have hm9 := (h_2).symm
  subst hm9
  refine z_iconst (z := 1) F dJx4a65c_add_9ea2d_23 (by decide) ?_
  exact z_retz F rfl (by decide) (by first | decide | assumption | omega) (by first | decide | assumption | omega) dJx4a65c_add_9ea2d_24 ⟨_, rfl, rfl, zDup n1⟩

set_option maxRecDepth 100000 in
set_option maxHeartbeats 4000000 in
theorem c_addC {l : Launch} (hfl : l.stackTraces = false) (G : zG) {tl td tn cap : Nat} {mc : Int} {f : Nat → Option Nat} {te : Nat} {es : List Value} {ci : Nat} {C : String} {T : u_T} {NN : Nat} (M : zM) (h0 : M tl = some (zOb 0 [.int (zI mc), .ref td, .int (zI cap)])) (h1 : M td = some (zAr 4 cap f)) (h2 : M tn = none) (m1 : tn % 64 ≠ 63) (hc1 : 2 ≤ cap) (hc2 : cap ≤ 22) (hn9 : te ≠ tl) (he : M te = some (zOb ci es)) (hc : vwCl[ci]? = some (C, T, NN)) (hq : (C, "java/lang/Object") ∈ zNC) (hel : ∀ j x, f j = some x → ∃ fs, M x = some (zOb ci fs)) : zCn l G yJx4a65c_add_9ea2d (.code yJx4a65c_add_9ea2d cJx4a65c_add_9ea2d 2 (some .boolean)) rJx4a65c_add_9ea2d [.ref tl, .ref te] M (zRi (fun xr M2 => xr = 1 ∧ M2 = zu (zu M tn (zAr 4 (cap + cap / 2) (va_up (va_cpy f (fun _ => none) 0 0 cap) cap (some te)))) tl (zOb 0 [.int (zI (mc + 1)), .ref tn, .int (zI ((cap : Int) + 1))]))) zN := by
  refine zStart hfl (by decide) (own := RJx4a65c) rfl [(0, .ref tl), (1, .ref te)] (Nat.le_of_ble_eq_true rfl) rfl (fun k hkl hinit hk0 F => ?_)
  have n1 : tl ≠ tn := fun h => by rw [h, h2] at h0; cases h0
  have n2 : te ≠ tn := fun h => by rw [h, h2] at he; cases he
  have n3 : tl ≠ td := fun h => by rw [h, h1] at h0; cases h0
  refine z_aload_n F 0 dJx4a65c_add_9ea2d_0 rfl rfl ?_
  refine z_dup F dJx4a65c_add_9ea2d_1 rfl ?_
  refine z_getS (kf := 0) (ref := "java/util/ArrayList") F rfl inlJx4a65c (by decide) (zr_4 _ (List.mem_of_getElem? (i := 20) rfl)) (zr_4 _ (List.mem_of_getElem? (i := 21) rfl)) h0 rfl dJx4a65c_add_9ea2d_2 ?_
  refine z_iconst (z := 1) F dJx4a65c_add_9ea2d_5 (by decide) ?_
  refine z_iadd F dJx4a65c_add_9ea2d_6 ?_
  refine z_putS (kf := 0) (ref := "java/util/ArrayList") (ty := .int) F [.int (zI (mc + 1)), .ref td, .int (zI cap)] rfl inlJx4a65c (by decide) (zr_4 _ (List.mem_of_getElem? (i := 20) rfl)) (zr_4 _ (List.mem_of_getElem? (i := 21) rfl)) tyJx4a65c tyJx4a65c_ok nmJx4a65c rfl (by decide +kernel) rfl rfl h0 (Nat.le_of_ble_eq_true rfl) rfl dJx4a65c_add_9ea2d_7 ?_
  have hm_1_0 := (zu_n (M := M) (t := tl) (q := td) (o := (zOb 0 [.int (zI (mc + 1)), .ref td, .int (zI cap)])) (by first | assumption | omega | (intro h9; omega))).trans h1
  have hm_1_s := zu_s M tl (zOb 0 [.int (zI (mc + 1)), .ref td, .int (zI cap)])
  refine z_aload_n F 0 dJx4a65c_add_9ea2d_10 rfl rfl ?_
  refine z_aload_n F 1 dJx4a65c_add_9ea2d_11 rfl rfl ?_
  refine z_aload_n F 0 dJx4a65c_add_9ea2d_12 rfl rfl ?_
  refine z_get F fl_Jx4a65c_9 hm_1_s rfl dJx4a65c_add_9ea2d_13 ?_
  refine z_aload_n F 0 dJx4a65c_add_9ea2d_16 rfl rfl ?_
  refine z_get F fl_Jx4a65c_48 hm_1_s rfl dJx4a65c_add_9ea2d_17 ?_
  refine z_callV F [.ref te, .ref td, .int (zI cap)] [] (c_add3C F.2.2.1 G _ (zu_s _ _ _) ((zu_n (Ne.symm n3)).trans h1) ((zu_n (Ne.symm n1)).trans h2) m1 hc1 hc2 hn9 ((zu_n hn9).trans he) hc hq (fun j x hx => by
    obtain ⟨fs, h9⟩ := hel j x hx
    by_cases e9 : x = tl
    · have hci : ci = 0 := by
        rw [e9, h0] at h9
        cases h9
        rfl
      rw [e9, hci]
      exact ⟨_, zu_s _ _ _⟩
    · exact ⟨fs, (zu_n e9).trans h9⟩)) cv_Jx4a65c_131 hm_1_s rfl rfl rfl ⟨by decide, by decide⟩ ⟨by decide, by decide⟩ (Nat.le_of_ble_eq_true rfl) dJx4a65c_add_9ea2d_20 z_nx (z_kv (fun M_2 h_2 => ?_))
  have hm9 := (h_2).symm
  subst hm9
  refine z_iconst (z := 1) F dJx4a65c_add_9ea2d_23 (by decide) ?_
  exact z_retz F rfl (by decide) (by first | decide | assumption | omega) (by first | decide | assumption | omega) dJx4a65c_add_9ea2d_24 ⟨_, rfl, rfl, zDup n1⟩

abbrev rJx4a65c_fastRemove_b59b0 : Room := { frames := 1, cells := 0, slots := 0, locals := 60 }
set_option maxRecDepth 100000 in
set_option maxHeartbeats 4000000 in
theorem c_Jx4a65c_fastRemove_b59b0 {l : Launch} (hfl : l.stackTraces = false) (G : zG) {tl td : Nat} {mc n : Int} {cap : Nat} {f : Nat → Option Nat} {i : Int} {ci : Nat} {C : String} {T : u_T} {NN : Nat} (M : zM) (h0 : M tl = some (zOb 0 [.int (zI mc), .ref td, .int (zI n)])) (h1 : M td = some (zAr 4 cap f)) (hi : 0 ≤ i) (hi2 : i < n) (hn : n ≤ cap) (hcap : cap < 1000) (hc : vwCl[ci]? = some (C, T, NN)) (hq : (C, "java/lang/Object") ∈ zNC) (hel : ∀ j x, f j = some x → ∃ fs, M x = some (zOb ci fs)) : zCn l G yJx4a65c_fastRemove_b59b0 (.code yJx4a65c_fastRemove_b59b0 cJx4a65c_fastRemove_b59b0 4 none) rJx4a65c_fastRemove_b59b0 [.ref tl, .ref td, .int (zI i)] M (zRv (fun M2 => M2 = zu (zu M td (zAr 4 cap (va_up (if i < n - 1 then va_cpy f f (i + 1).toNat i.toNat (n - 1 - i).toNat else f) (n - 1).toNat none))) tl (zOb 0 [.int (zI (mc + 1)), .ref td, .int (zI (n - 1))]))) zN := by
  refine zStart hfl (by decide) (own := RJx4a65c) rfl [(0, .ref tl), (1, .ref td), (2, .int (zI i))] (Nat.le_of_ble_eq_true rfl) rfl (fun k hkl hinit hk0 F => ?_)
  have n1 : tl ≠ td := fun h => by rw [h, h1] at h0; cases h0
  have hel9 : ∀ j x, f j = some x → ∃ fs, zu M tl (zOb 0 [.int (zI (mc + 1)), .ref td, .int (zI n)]) x = some (zOb ci fs) := fun j x hx => by
    obtain ⟨fs, h9⟩ := hel j x hx
    by_cases e9 : x = tl
    · have hci : ci = 0 := by
        rw [e9, h0] at h9
        cases h9
        rfl
      rw [e9, hci]
      exact ⟨_, zu_s _ _ _⟩
    · exact ⟨fs, (zu_n e9).trans h9⟩
  refine z_aload_n F 0 dJx4a65c_fastRemove_b59b0_0 rfl rfl ?_
  refine z_dup F dJx4a65c_fastRemove_b59b0_1 rfl ?_
  refine z_getS (kf := 0) (ref := "java/util/ArrayList") F rfl inlJx4a65c (by decide) (zr_4 _ (List.mem_of_getElem? (i := 20) rfl)) (zr_4 _ (List.mem_of_getElem? (i := 21) rfl)) h0 rfl dJx4a65c_fastRemove_b59b0_2 ?_
  refine z_iconst (z := 1) F dJx4a65c_fastRemove_b59b0_5 (by decide) ?_
  refine z_iadd F dJx4a65c_fastRemove_b59b0_6 ?_
  refine z_putS (kf := 0) (ref := "java/util/ArrayList") (ty := .int) F [.int (zI (mc + 1)), .ref td, .int (zI n)] rfl inlJx4a65c (by decide) (zr_4 _ (List.mem_of_getElem? (i := 20) rfl)) (zr_4 _ (List.mem_of_getElem? (i := 21) rfl)) tyJx4a65c tyJx4a65c_ok nmJx4a65c rfl (by decide +kernel) rfl rfl h0 (Nat.le_of_ble_eq_true rfl) rfl dJx4a65c_fastRemove_b59b0_7 ?_
  have hm_1_0 := (zu_n (M := M) (t := tl) (q := td) (o := (zOb 0 [.int (zI (mc + 1)), .ref td, .int (zI n)])) (by first | assumption | omega | (intro h9; omega))).trans h1
  have hm_1_s := zu_s M tl (zOb 0 [.int (zI (mc + 1)), .ref td, .int (zI n)])
  refine z_aload_n F 0 dJx4a65c_fastRemove_b59b0_10 rfl rfl ?_
  refine z_get F fl_Jx4a65c_48 hm_1_s rfl dJx4a65c_fastRemove_b59b0_11 ?_
  refine z_iconst (z := 1) F dJx4a65c_fastRemove_b59b0_14 (by decide) ?_
  refine z_isub F dJx4a65c_fastRemove_b59b0_15 ?_
  refine z_dup F dJx4a65c_fastRemove_b59b0_16 rfl ?_
  refine z_istore_n F [(3, .int (zI (n - 1))), (0, .ref tl), (1, .ref td), (2, .int (zI i))] dJx4a65c_fastRemove_b59b0_17 rfl (by decide) rfl ?_
  refine z_iload_n F 3 dJx4a65c_fastRemove_b59b0_18 rfl rfl ?_
  refine z_icmp_le F 34 dJx4a65c_fastRemove_b59b0_19 (by decide) (by omega) (by omega) (fun c_2 => ?_) (fun c_2 => ?_)
  · skip
    refine z_aload_n F 2 dJx4a65c_fastRemove_b59b0_34 rfl rfl ?_
    refine z_aload_n F 1 dJx4a65c_fastRemove_b59b0_35 rfl rfl ?_
    refine z_iload_n F 0 dJx4a65c_fastRemove_b59b0_36 rfl rfl ?_
    refine z_dup_x1 F dJx4a65c_fastRemove_b59b0_37 rfl rfl ?_
    refine z_put (ty := .int) F [.int (zI (mc + 1)), .ref td, .int (zI (n - 1))] fl_Jx4a65c_48 tyJx4a65c tyJx4a65c_ok nmJx4a65c rfl (by decide +kernel) rfl rfl hm_1_s (Nat.le_of_ble_eq_true rfl) rfl dJx4a65c_fastRemove_b59b0_38 ?_
    have hm_3_0 := (zu_n (M := (zu M tl (zOb 0 [.int (zI (mc + 1)), .ref td, .int (zI n)]))) (t := tl) (q := td) (o := (zOb 0 [.int (zI (mc + 1)), .ref td, .int (zI (n - 1))])) (by first | assumption | omega | (intro h9; omega))).trans hm_1_0
    have hm_3_s := zu_s (zu M tl (zOb 0 [.int (zI (mc + 1)), .ref td, .int (zI n)])) tl (zOb 0 [.int (zI (mc + 1)), .ref td, .int (zI (n - 1))])
    refine z_null F dJx4a65c_fastRemove_b59b0_41 ?_
    refine z_aastN F hm_3_0 (by omega) (by omega) (by omega) dJx4a65c_fastRemove_b59b0_42 ?_
    have hm_4_0 := (zu_n (M := (zu (zu M tl (zOb 0 [.int (zI (mc + 1)), .ref td, .int (zI n)])) tl (zOb 0 [.int (zI (mc + 1)), .ref td, .int (zI (n - 1))]))) (t := td) (q := tl) (o := (zAr 4 cap (va_up f (n - 1 : Int).toNat none))) (by first | assumption | omega | (intro h9; omega))).trans hm_3_s
    have hm_4_s := zu_s (zu (zu M tl (zOb 0 [.int (zI (mc + 1)), .ref td, .int (zI n)])) tl (zOb 0 [.int (zI (mc + 1)), .ref td, .int (zI (n - 1))])) td (zAr 4 cap (va_up f (n - 1 : Int).toNat none))
    exact z_retv F rfl (by first | decide | assumption | omega) (by first | decide | assumption | omega) dJx4a65c_fastRemove_b59b0_43 ⟨rfl, by first | (rw [if_pos (show i < n - 1 by omega)]; exact zRem1 n1) | (rw [if_neg (show ¬ i < n - 1 by omega)]; exact zRem2 n1)⟩
  · skip
    refine z_aload_n F 2 dJx4a65c_fastRemove_b59b0_22 rfl rfl ?_
    refine z_iload_n F 3 dJx4a65c_fastRemove_b59b0_23 rfl rfl ?_
    refine z_iconst (z := 1) F dJx4a65c_fastRemove_b59b0_24 (by decide) ?_
    refine z_iadd F dJx4a65c_fastRemove_b59b0_25 ?_
    refine z_aload_n F 2 dJx4a65c_fastRemove_b59b0_26 rfl rfl ?_
    refine z_iload_n F 3 dJx4a65c_fastRemove_b59b0_27 rfl rfl ?_
    refine z_iload_n F 0 dJx4a65c_fastRemove_b59b0_28 rfl rfl ?_
    refine z_iload_n F 3 dJx4a65c_fastRemove_b59b0_29 rfl rfl ?_
    refine z_isub F dJx4a65c_fastRemove_b59b0_30 ?_
    refine z_copyr F (zr_18 _ (List.mem_of_getElem? (i := 14) rfl)) (zr_6 _ (List.mem_of_getElem? (i := 17) rfl)) (zr_6 _ (List.mem_of_getElem? (i := 18) rfl)) (zr_6 _ (List.mem_of_getElem? (i := 19) rfl)) hm_1_0 hm_1_0 hc hq hel9 (by omega) (by omega) (by omega) (by omega) (by omega) (by omega) (by omega) (by decide) (Nat.le_of_ble_eq_true rfl) dJx4a65c_fastRemove_b59b0_31 ?_
    have hm_5_0 := (zu_n (M := (zu M tl (zOb 0 [.int (zI (mc + 1)), .ref td, .int (zI n)]))) (t := td) (q := tl) (o := (zAr 4 cap (va_cpy f f (i + 1 : Int).toNat (i : Int).toNat ((n - 1) - i : Int).toNat))) (by first | assumption | omega | (intro h9; omega))).trans hm_1_s
    have hm_5_s := zu_s (zu M tl (zOb 0 [.int (zI (mc + 1)), .ref td, .int (zI n)])) td (zAr 4 cap (va_cpy f f (i + 1 : Int).toNat (i : Int).toNat ((n - 1) - i : Int).toNat))
    refine z_aload_n F 2 dJx4a65c_fastRemove_b59b0_34 rfl rfl ?_
    refine z_aload_n F 1 dJx4a65c_fastRemove_b59b0_35 rfl rfl ?_
    refine z_iload_n F 0 dJx4a65c_fastRemove_b59b0_36 rfl rfl ?_
    refine z_dup_x1 F dJx4a65c_fastRemove_b59b0_37 rfl rfl ?_
    refine z_put (ty := .int) F [.int (zI (mc + 1)), .ref td, .int (zI (n - 1))] fl_Jx4a65c_48 tyJx4a65c tyJx4a65c_ok nmJx4a65c rfl (by decide +kernel) rfl rfl hm_5_0 (Nat.le_of_ble_eq_true rfl) rfl dJx4a65c_fastRemove_b59b0_38 ?_
    have hm_6_0 := (zu_n (M := (zu (zu M tl (zOb 0 [.int (zI (mc + 1)), .ref td, .int (zI n)])) td (zAr 4 cap (va_cpy f f (i + 1 : Int).toNat (i : Int).toNat ((n - 1) - i : Int).toNat)))) (t := tl) (q := td) (o := (zOb 0 [.int (zI (mc + 1)), .ref td, .int (zI (n - 1))])) (by first | assumption | omega | (intro h9; omega))).trans hm_5_s
    have hm_6_s := zu_s (zu (zu M tl (zOb 0 [.int (zI (mc + 1)), .ref td, .int (zI n)])) td (zAr 4 cap (va_cpy f f (i + 1 : Int).toNat (i : Int).toNat ((n - 1) - i : Int).toNat))) tl (zOb 0 [.int (zI (mc + 1)), .ref td, .int (zI (n - 1))])
    refine z_null F dJx4a65c_fastRemove_b59b0_41 ?_
    refine z_aastN F hm_6_0 (by omega) (by omega) (by omega) dJx4a65c_fastRemove_b59b0_42 ?_
    have hm_7_0 := (zu_n (M := (zu (zu (zu M tl (zOb 0 [.int (zI (mc + 1)), .ref td, .int (zI n)])) td (zAr 4 cap (va_cpy f f (i + 1 : Int).toNat (i : Int).toNat ((n - 1) - i : Int).toNat))) tl (zOb 0 [.int (zI (mc + 1)), .ref td, .int (zI (n - 1))]))) (t := td) (q := tl) (o := (zAr 4 cap (va_up ((va_cpy f f (i + 1 : Int).toNat (i : Int).toNat ((n - 1) - i : Int).toNat)) (n - 1 : Int).toNat none))) (by first | assumption | omega | (intro h9; omega))).trans hm_6_s
    have hm_7_s := zu_s (zu (zu (zu M tl (zOb 0 [.int (zI (mc + 1)), .ref td, .int (zI n)])) td (zAr 4 cap (va_cpy f f (i + 1 : Int).toNat (i : Int).toNat ((n - 1) - i : Int).toNat))) tl (zOb 0 [.int (zI (mc + 1)), .ref td, .int (zI (n - 1))])) td (zAr 4 cap (va_up ((va_cpy f f (i + 1 : Int).toNat (i : Int).toNat ((n - 1) - i : Int).toNat)) (n - 1 : Int).toNat none))
    exact z_retv F rfl (by first | decide | assumption | omega) (by first | decide | assumption | omega) dJx4a65c_fastRemove_b59b0_43 ⟨rfl, by first | (rw [if_pos (show i < n - 1 by omega)]; exact zRem1 n1) | (rw [if_neg (show ¬ i < n - 1 by omega)]; exact zRem2 n1)⟩

abbrev rJx4a65c_remove_915e3 : Room := { frames := 2, cells := 0, slots := 0, locals := 83 }
set_option maxRecDepth 100000 in
set_option maxHeartbeats 4000000 in
theorem c_Jx4a65c_remove_915e3 {l : Launch} (hfl : l.stackTraces = false) (G : zG) {tl td : Nat} {mc n : Int} {cap : Nat} {f : Nat → Option Nat} {i : Int} {a : Nat} {ci : Nat} {C : String} {T : u_T} {NN : Nat} (M : zM) (h0 : M tl = some (zOb 0 [.int (zI mc), .ref td, .int (zI n)])) (h1 : M td = some (zAr 4 cap f)) (hi : 0 ≤ i) (hi2 : i < n) (hn : n ≤ cap) (hcap : cap < 1000) (hf : f i.toNat = some a) (hc : vwCl[ci]? = some (C, T, NN)) (hq : (C, "java/lang/Object") ∈ zNC) (hel : ∀ j x, f j = some x → ∃ fs, M x = some (zOb ci fs)) : zCn l G yJx4a65c_remove_915e3 (.code yJx4a65c_remove_915e3 cJx4a65c_remove_915e3 4 (some (.object "java/lang/Object"))) rJx4a65c_remove_915e3 [.ref tl, .int (zI i)] M (zRr (fun xr M2 => xr = a ∧ M2 = zu (zu M td (zAr 4 cap (va_up (if i < n - 1 then va_cpy f f (i + 1).toNat i.toNat (n - 1 - i).toNat else f) (n - 1).toNat none))) tl (zOb 0 [.int (zI (mc + 1)), .ref td, .int (zI (n - 1))]))) zN := by
  refine zStart hfl (by decide) (own := RJx4a65c) rfl [(0, .ref tl), (1, .int (zI i))] (Nat.le_of_ble_eq_true rfl) rfl (fun k hkl hinit hk0 F => ?_)
  have hc9 : cap < 2147483648 := by omega
  refine z_iload_n F 1 dJx4a65c_remove_915e3_0 rfl rfl ?_
  refine z_aload_n F 0 dJx4a65c_remove_915e3_1 rfl rfl ?_
  refine z_get F fl_Jx4a65c_48 h0 rfl dJx4a65c_remove_915e3_2 ?_
  refine z_callS F [.int (zI i), .int (zI n)] [] (c_J15_checkIndex_7cf53 F.2.2.1 G M hi hi2 (by omega)) cs_Jx4a65c_118 rfl ⟨by decide, by decide⟩ ⟨by decide, by decide⟩ (Nat.le_of_ble_eq_true rfl) dJx4a65c_remove_915e3_5 z_nx (z_ki (fun x_1 M_1 h_1 => ?_))
  have hx9 := (h_1).1.symm
  have hm9 := (h_1).2.symm
  subst hx9
  subst hm9
  refine z_pop F dJx4a65c_remove_915e3_8 rfl ?_
  refine z_aload_n F 0 dJx4a65c_remove_915e3_9 rfl rfl ?_
  refine z_get F fl_Jx4a65c_9 h0 rfl dJx4a65c_remove_915e3_10 ?_
  refine z_astore_n F [(2, .ref td), (0, .ref tl), (1, .int (zI i))] dJx4a65c_remove_915e3_13 rfl (by decide) rfl ?_
  refine z_aload_n F 0 dJx4a65c_remove_915e3_14 rfl rfl ?_
  refine z_iload_n F 2 dJx4a65c_remove_915e3_15 rfl rfl ?_
  refine z_aald4 (a := a) F h1 (by omega) (by omega) hc9 hf dJx4a65c_remove_915e3_16 ?_
  refine z_astore_n F [(3, .ref a), (2, .ref td), (0, .ref tl), (1, .int (zI i))] dJx4a65c_remove_915e3_17 rfl (by decide) rfl ?_
  refine z_aload_n F 2 dJx4a65c_remove_915e3_18 rfl rfl ?_
  refine z_aload_n F 1 dJx4a65c_remove_915e3_19 rfl rfl ?_
  refine z_iload_n F 3 dJx4a65c_remove_915e3_20 rfl rfl ?_
  refine z_callV F [.ref td, .int (zI i)] [] (c_Jx4a65c_fastRemove_b59b0 F.2.2.1 G M h0 h1 hi hi2 hn hcap hc hq hel) cv_Jx4a65c_144 h0 rfl rfl rfl ⟨by decide, by decide⟩ ⟨by decide, by decide⟩ (Nat.le_of_ble_eq_true rfl) dJx4a65c_remove_915e3_21 z_nx (z_kv (fun M_2 h_2 => ?_))
  have hm9 := (h_2).symm
  subst hm9
  refine z_aload_n F 0 dJx4a65c_remove_915e3_24 rfl rfl ?_
  exact z_reta F rfl (Or.inl ⟨_, rfl⟩) (by first | decide | assumption | omega) (by first | decide | assumption | omega) dJx4a65c_remove_915e3_25 ⟨_, rfl, rfl, rfl⟩

abbrev rJxa1e45_init_da8c8 : Room := { frames := 1, cells := 0, slots := 0, locals := 20 }
set_option maxRecDepth 100000 in
set_option maxHeartbeats 4000000 in
theorem c_Jxa1e45_init_da8c8 {l : Launch} (hfl : l.stackTraces = false) (G : zG) {tl : Nat} (M : zM)  : zCn l G yJxa1e45_init_da8c8 (.code yJxa1e45_init_da8c8 cJxa1e45_init_da8c8 1 none) rJxa1e45_init_da8c8 [.ref tl] M (zRv (fun M2 => M2 = M)) zN := by
  refine zStart hfl (by decide) (own := RJxa1e45) rfl [(0, .ref tl)] (Nat.le_of_ble_eq_true rfl) rfl (fun k hkl hinit hk0 F => ?_)
  refine z_aload_n F 0 dJxa1e45_init_da8c8_0 rfl rfl ?_
  refine z_objI F (zr_2 _ (List.mem_of_getElem? (i := 14) rfl)) (zr_1 _ (List.mem_of_getElem? (i := 7) rfl)) (zr_1 _ (List.mem_of_getElem? (i := 8) rfl)) (Nat.le_of_ble_eq_true rfl) (Nat.le_of_ble_eq_true rfl) dJxa1e45_init_da8c8_1 ?_
  exact z_retv F rfl (by first | decide | assumption | omega) (by first | decide | assumption | omega) dJxa1e45_init_da8c8_4 ⟨rfl, rfl⟩

abbrev rJxc12de_init_da8c8 : Room := { frames := 2, cells := 0, slots := 0, locals := 40 }
set_option maxRecDepth 100000 in
set_option maxHeartbeats 4000000 in
theorem c_Jxc12de_init_da8c8 {l : Launch} (hfl : l.stackTraces = false) (G : zG) {tl : Nat} {v : Value} {n : Int} (M : zM) (h0 : M tl = some (zOb 0 [.int (zI 0), v, .int (zI n)])) : zCn l G yJxc12de_init_da8c8 (.code yJxc12de_init_da8c8 cJxc12de_init_da8c8 1 none) rJxc12de_init_da8c8 [.ref tl] M (zRv (fun M2 => M2 = M)) zN := by
  refine zStart hfl (by decide) (own := RJxc12de) rfl [(0, .ref tl)] (Nat.le_of_ble_eq_true rfl) rfl (fun k hkl hinit hk0 F => ?_)
  refine z_aload_n F 0 dJxc12de_init_da8c8_0 rfl rfl ?_
  refine z_callI F [] [] (c_Jxa1e45_init_da8c8 F.2.2.1 G M) ci_Jxc12de_1 rfl ⟨by decide, by decide⟩ ⟨by decide, by decide⟩ (Nat.le_of_ble_eq_true rfl) dJxc12de_init_da8c8_1 z_nx (z_kv (fun M_1 h_1 => ?_))
  have hm9 := (h_1).symm
  subst hm9
  refine z_aload_n F 0 dJxc12de_init_da8c8_4 rfl rfl ?_
  refine z_iconst (z := 0) F dJxc12de_init_da8c8_5 (by decide) ?_
  refine z_put (ty := .int) F [.int (zI 0), v, .int (zI n)] fl_Jxc12de_7 tyJx4a65c tyJx4a65c_ok nmJx4a65c rfl (by decide +kernel) rfl rfl h0 (Nat.le_of_ble_eq_true rfl) rfl dJxc12de_init_da8c8_6 ?_
  have hm_2_s := zu_s M tl (zOb 0 [.int (zI 0), v, .int (zI n)])
  exact z_retv F rfl (by first | decide | assumption | omega) (by first | decide | assumption | omega) dJxc12de_init_da8c8_9 ⟨rfl, zu_id h0⟩

abbrev rJx4a65c_init_da8c8 : Room := { frames := 3, cells := 0, slots := 0, locals := 60 }
set_option maxRecDepth 100000 in
set_option maxHeartbeats 4000000 in
theorem c_Jx4a65c_init_da8c8 {l : Launch} (hfl : l.stackTraces = false) (G : zG) {tl : Nat} (M : zM) (h0 : M tl = some (zOb 0 [.int (zI 0), .null, .int (zI 0)])) : zCn l G yJx4a65c_init_da8c8 (.code yJx4a65c_init_da8c8 cJx4a65c_init_da8c8 1 none) rJx4a65c_init_da8c8 [.ref tl] M (zRv (fun M2 => M2 = zu M tl (zOb 0 [.int (zI 0), .ref 63, .int (zI 0)]))) zN := by
  refine zStart hfl (by decide) (own := RJx4a65c) rfl [(0, .ref tl)] (Nat.le_of_ble_eq_true rfl) rfl (fun k hkl hinit hk0 F => ?_)
  refine z_aload_n F 0 dJx4a65c_init_da8c8_0 rfl rfl ?_
  refine z_callI F [] [] (c_Jxc12de_init_da8c8 F.2.2.1 G M h0) ci_Jx4a65c_1 rfl ⟨by decide, by decide⟩ ⟨by decide, by decide⟩ (Nat.le_of_ble_eq_true rfl) dJx4a65c_init_da8c8_1 z_nx (z_kv (fun M_1 h_1 => ?_))
  have hm9 := (h_1).symm
  subst hm9
  refine z_aload_n F 0 dJx4a65c_init_da8c8_4 rfl rfl ?_
  refine z_gets F rfl (zr_2 _ (List.mem_of_getElem? (i := 3) rfl)) dJx4a65c_init_da8c8_5 ?_
  refine z_put (ty := .array (.object "java/lang/Object")) F [.int (zI 0), .ref 63, .int (zI 0)] fl_Jx4a65c_9 tyJx4a65c tyJx4a65c_ok nmJx4a65c rfl (by decide +kernel) rfl rfl h0 (Nat.le_of_ble_eq_true rfl) rfl dJx4a65c_init_da8c8_8 ?_
  have hm_2_s := zu_s M tl (zOb 0 [.int (zI 0), .ref 63, .int (zI 0)])
  exact z_retv F rfl (by first | decide | assumption | omega) (by first | decide | assumption | omega) dJx4a65c_init_da8c8_11 ⟨rfl, rfl⟩

