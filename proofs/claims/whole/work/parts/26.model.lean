/-! ===== the model: questions ===== -/
theorem zM_eq {s t t' : zS} {o : zOx} {q : Nat} {ob : zO} (hq : 16 ≤ q ∧ q < 32) (h1 : zMod t' q 0 = some ob) (h2 : ∀ kd, 16 ≤ kd → kd < 32 → kd ≠ q → zMod t' kd 0 = zMod t kd 0) : zu (zAll s t o) q ob = zAll s t' o := by
  funext a
  simp only [zu]
  by_cases e : a = q
  · rw [if_pos e, e]
    simp only [zAll]
    rw [if_neg (by omega), if_neg (by omega), if_neg (by omega), show q % 64 = q by omega, show q / 64 = 0 by omega, h1]
  · rw [if_neg e]
    simp only [zAll]
    by_cases h5 : a % 64 = 5
    · rw [if_pos h5, if_pos h5]
    · rw [if_neg h5, if_neg h5]
      by_cases h16 : a % 64 < 16
      · rw [if_pos h16, if_pos h16]
      · rw [if_neg h16, if_neg h16]
        by_cases h33 : a % 64 = 33
        · rw [if_pos h33, if_pos h33]
        · rw [if_neg h33, if_neg h33]
          by_cases h0 : a / 64 = 0
          · by_cases h32 : a % 64 < 32
            · rw [h0]
              exact (h2 (a % 64) (by omega) h32 (by omega)).symm
            · rw [h0]
              have key : ∀ u : zS, ∀ kd, 32 ≤ kd → zMod u kd 0 = none := fun u kd h => by
                obtain ⟨d, rfl⟩ : ∃ d, kd = d + 32 := ⟨kd - 32, by omega⟩
                rfl
              rw [key _ _ (by omega), key _ _ (by omega)]
          · have key : ∀ u : zS, zMod u (a % 64) (a / 64) = none := fun u => if_pos h0
            rw [key, key]
theorem zKm {P : Nat → Prop} (h : P 16 ∧ P 17 ∧ P 18 ∧ P 19 ∧ P 20 ∧ P 21 ∧ P 22 ∧ P 23 ∧ P 24 ∧ P 25 ∧ P 26 ∧ P 27 ∧ P 28 ∧ P 29 ∧ P 30 ∧ P 31) : ∀ kd, 16 ≤ kd → kd < 32 → P kd := fun kd ha hb => by
  obtain ⟨h0, h1, h2, h3, h4, h5, h6, h7, h8, h9, h10, h11, h12, h13, h14, h15⟩ := h
  rcases (show kd = 16 ∨ kd = 17 ∨ kd = 18 ∨ kd = 19 ∨ kd = 20 ∨ kd = 21 ∨ kd = 22 ∨ kd = 23 ∨ kd = 24 ∨ kd = 25 ∨ kd = 26 ∨ kd = 27 ∨ kd = 28 ∨ kd = 29 ∨ kd = 30 ∨ kd = 31 by omega) with e | e | e | e | e | e | e | e | e | e | e | e | e | e | e | e <;> subst e <;> assumption
theorem zAll_17 (s t : zS) (o : zOx) : zAll s t o 17 = some (zAi 0 5 (fun j => t 1 j 0)) := rfl
theorem zAll_18 (s t : zS) (o : zOx) : zAll s t o 18 = some (zAi 0 5 (fun j => t 2 j 0)) := rfl
theorem zAll_19 (s t : zS) (o : zOx) : zAll s t o 19 = some (zAi 0 5 (fun j => t 3 j 0)) := rfl
theorem zAll_20 (s t : zS) (o : zOx) : zAll s t o 20 = some (zAi 0 40 (fun j => t 6 (j / 5) (j % 5))) := rfl
theorem zAll_21 (s t : zS) (o : zOx) : zAll s t o 21 = some (zAi 0 40 (fun j => t 7 (j / 5) (j % 5))) := rfl
theorem zAll_22 (s t : zS) (o : zOx) : zAll s t o 22 = some (zAi 0 8 (fun j => t 5 j 0)) := rfl
theorem zAll_23 (s t : zS) (o : zOx) : zAll s t o 23 = some (zAi 1 8 (fun j => t 8 j 0)) := rfl
theorem zAll_24 (s t : zS) (o : zOx) : zAll s t o 24 = some (zAi 0 30 (fun j => t 10 j 0)) := rfl
theorem zAll_25 (s t : zS) (o : zOx) : zAll s t o 25 = some (zAi 0 30 (fun j => t 11 j 0)) := rfl
theorem zAll_26 (s t : zS) (o : zOx) : zAll s t o 26 = some (zAi 0 30 (fun j => t 12 j 0)) := rfl
theorem zAll_27 (s t : zS) (o : zOx) : zAll s t o 27 = some (zAi 0 30 (fun j => t 13 j 0)) := rfl
theorem zAll_28 (s t : zS) (o : zOx) : zAll s t o 28 = some (zAi 0 3000 (fun j => t 21 (j / 600 + 4) (j % 600))) := rfl
theorem zAll_29 (s t : zS) (o : zOx) : zAll s t o 29 = some (zAi 0 2400 (fun j => if j < 2400 then t 21 (j / 600) (j % 600) else 0)) := rfl
theorem zAll_30 (s t : zS) (o : zOx) : zAll s t o 30 = some (zAi 0 6 (fun j => t 15 j 0)) := rfl
theorem zAll_31 (s t : zS) (o : zOx) : zAll s t o 31 = some (zAi 0 6 (fun j => t 16 j 0)) := rfl
theorem zAll_16 (s t : zS) (o : zOx) : zAll s t o 16 = some (zOb 8 [.ref 17, .ref 18, .ref 19, .int (zI (t 0 0 0)), .ref 20, .ref 21, .ref 22, .ref 23, .int (zI (t 4 0 0)), .ref 24, .ref 25, .ref 26, .ref 27, .int (zI (t 9 0 0)), .ref 28, .ref 29, .ref 30, .ref 31, .int (zI (t 14 0 0)), .int (zI (t 23 0 0)), .int (zI (t 24 0 0)), .int (zI (t 25 0 0))]) := rfl
theorem zIf01 {c c' : Prop} [Decidable c] [Decidable c'] (h : c ↔ c') : (if c then (1 : Int) else 0) = if c' then 1 else 0 := by
  by_cases hc : c
  · rw [if_pos hc, if_pos (h.mp hc)]
  · rw [if_neg hc, if_neg (fun h2 => hc (h.mpr h2))]
abbrev rX7_in : Room := { frames := 0, cells := 0, slots := 0, locals := 0 }
set_option maxRecDepth 100000 in
set_option maxHeartbeats 4000000 in
theorem c_X7_in {l : Launch} (hfl : l.stackTraces = false) (G : zG) {a b c : Int} (ha : zR a) (hb : zR b) (hc : zR c) (M : zM)  : zCn l G yX7_in (.code yX7_in cX7_in 3 (some .boolean)) rX7_in [.int (zI a), .int (zI b), .int (zI c)] M (zRi (fun xr M2 => xr = (if b ≤ a ∧ a ≤ c then 1 else 0) ∧ M2 = M)) zN := by
  refine zStart hfl (by decide) (own := RX7) rfl [(0, .int (zI a)), (1, .int (zI b)), (2, .int (zI c))] (Nat.le_of_ble_eq_true rfl) rfl (fun k hkl hinit hk0 F => ?_)
  refine z_iload_n F 0 dX7_in_0 rfl rfl ?_
  refine z_iload_n F 1 dX7_in_1 rfl rfl ?_
  refine z_icmp_lt F 14 dX7_in_2 (by decide) (by omega) (by omega) (fun c_1 => ?_) (fun c_1 => ?_)
  · skip
    refine z_iconst (z := 0) F dX7_in_14 (by decide) ?_
    exact z_retz F rfl (by decide) (by first | decide | assumption | omega) (by first | decide | assumption | omega) dX7_in_15 ⟨_, rfl, (by split <;> omega), rfl⟩
  · skip
    refine z_iload_n F 0 dX7_in_5 rfl rfl ?_
    refine z_iload_n F 2 dX7_in_6 rfl rfl ?_
    refine z_icmp_gt F 14 dX7_in_7 (by decide) (by omega) (by omega) (fun c_2 => ?_) (fun c_2 => ?_)
    · skip
      refine z_iconst (z := 0) F dX7_in_14 (by decide) ?_
      exact z_retz F rfl (by decide) (by first | decide | assumption | omega) (by first | decide | assumption | omega) dX7_in_15 ⟨_, rfl, (by split <;> omega), rfl⟩
    · skip
      refine z_iconst (z := 1) F dX7_in_10 (by decide) ?_
      refine z_goto F 15 dX7_in_11 (by decide) ?_
      exact z_retz F rfl (by decide) (by first | decide | assumption | omega) (by first | decide | assumption | omega) dX7_in_15 ⟨_, rfl, (by split <;> omega), rfl⟩

theorem zMH_25 {s t : zS} {o : zOx} {p : Int} : zu (zAll s t o) 16 (zOb 8 [.ref 17, .ref 18, .ref 19, .int (zI (t 0 0 0)), .ref 20, .ref 21, .ref 22, .ref 23, .int (zI (t 4 0 0)), .ref 24, .ref 25, .ref 26, .ref 27, .int (zI (t 9 0 0)), .ref 28, .ref 29, .ref 30, .ref 31, .int (zI (t 14 0 0)), .int (zI (t 23 0 0)), .int (zI (t 24 0 0)), .int (zI p)]) = zAll s (zsu t 25 0 0 p) o := zM_eq (by decide) rfl (zKm (P := fun kd => kd ≠ 16 → zMod (zsu t 25 0 0 p) kd 0 = zMod t kd 0) ⟨fun h => absurd rfl h, fun _ => rfl, fun _ => rfl, fun _ => rfl, fun _ => rfl, fun _ => rfl, fun _ => rfl, fun _ => rfl, fun _ => rfl, fun _ => rfl, fun _ => rfl, fun _ => rfl, fun _ => rfl, fun _ => rfl, fun _ => rfl, fun _ => rfl⟩)
abbrev rX7_isFine : Room := { frames := 0, cells := 0, slots := 0, locals := 0 }
set_option maxRecDepth 100000 in
set_option maxHeartbeats 4000000 in
theorem c_X7_isFine {l : Launch} (hfl : l.stackTraces = false) (G : zG) {s t : zS} {o : zOx} {p : Int} (hp : zR p)  : zCn l G yX7_isFine (.code yX7_isFine cX7_isFine 2 (some .boolean)) rX7_isFine [.ref 16, .int (zI p)] (zAll s t o) (zRi (fun xr M2 => xr = (if p = 0 then 1 else 0) ∧ M2 = zAll s (zsu t 25 0 0 p) o)) zN := by
  refine zStart hfl (by decide) (own := RX7) rfl [(0, .ref 16), (1, .int (zI p))] (Nat.le_of_ble_eq_true rfl) rfl (fun k hkl hinit hk0 F => ?_)
  refine z_aload_n F 0 dX7_isFine_0 rfl rfl ?_
  refine z_iload_n F 1 dX7_isFine_1 rfl rfl ?_
  refine z_put (ty := .int) F [.ref 17, .ref 18, .ref 19, .int (zI (t 0 0 0)), .ref 20, .ref 21, .ref 22, .ref 23, .int (zI (t 4 0 0)), .ref 24, .ref 25, .ref 26, .ref 27, .int (zI (t 9 0 0)), .ref 28, .ref 29, .ref 30, .ref 31, .int (zI (t 14 0 0)), .int (zI (t 23 0 0)), .int (zI (t 24 0 0)), .int (zI p)] fl_X7_56 tyX7 tyX7_ok nmX7 rfl (by decide +kernel) rfl rfl (zAll_16 s t o) (Nat.le_of_ble_eq_true rfl) rfl dX7_isFine_2 ?_
  have hm_1_s := zu_s (zAll s t o) 16 (zOb 8 [.ref 17, .ref 18, .ref 19, .int (zI (t 0 0 0)), .ref 20, .ref 21, .ref 22, .ref 23, .int (zI (t 4 0 0)), .ref 24, .ref 25, .ref 26, .ref 27, .int (zI (t 9 0 0)), .ref 28, .ref 29, .ref 30, .ref 31, .int (zI (t 14 0 0)), .int (zI (t 23 0 0)), .int (zI (t 24 0 0)), .int (zI p)])
  refine z_iload_n F 1 dX7_isFine_5 rfl rfl ?_
  refine z_if_ne F 13 dX7_isFine_6 (by decide) (by omega) (fun c_2 => ?_) (fun c_2 => ?_)
  · skip
    refine z_iconst (z := 0) F dX7_isFine_13 (by decide) ?_
    exact z_retz F rfl (by decide) (by first | decide | assumption | omega) (by first | decide | assumption | omega) dX7_isFine_14 ⟨_, rfl, (by split <;> omega), zMH_25⟩
  · skip
    refine z_iconst (z := 1) F dX7_isFine_9 (by decide) ?_
    refine z_goto F 14 dX7_isFine_10 (by decide) ?_
    exact z_retz F rfl (by decide) (by first | decide | assumption | omega) (by first | decide | assumption | omega) dX7_isFine_14 ⟨_, rfl, (by split <;> omega), zMH_25⟩

abbrev rX7_isService : Room := { frames := 1, cells := 0, slots := 0, locals := 22 }
set_option maxRecDepth 100000 in
set_option maxHeartbeats 4000000 in
theorem c_X7_isService {l : Launch} (hfl : l.stackTraces = false) (G : zG) {s t : zS} {o : zOx} (hc : zC1 t) (hb9 : zB t) {a : Int} (ha : zR a)  : zCn l G yX7_isService (.code yX7_isService cX7_isService 2 (some .boolean)) rX7_isService [.ref 16, .int (zI a)] (zAll s t o) (zRi (fun xr M2 => xr = (if 0 ≤ a ∧ a < t 4 0 0 then 1 else 0) ∧ M2 = (zAll s t o))) zN := by
  refine zStart hfl (by decide) (own := RX7) rfl [(0, .ref 16), (1, .int (zI a))] (Nat.le_of_ble_eq_true rfl) rfl (fun k hkl hinit hk0 F => ?_)
  have hn0 := hc.1
  have hn4 := hc.2.1
  have hn9 := hc.2.2.1
  have hn14 := hc.2.2.2.1
  have hn18 := hc.2.2.2.2.1
  refine z_iload_n F 1 dX7_isService_0 rfl rfl ?_
  refine z_iconst (z := 0) F dX7_isService_1 (by decide) ?_
  refine z_aload_n F 0 dX7_isService_2 rfl rfl ?_
  refine z_get F fl_X7_60 (zAll_16 s t o) rfl dX7_isService_3 ?_
  refine z_iconst (z := 1) F dX7_isService_6 (by decide) ?_
  refine z_isub F dX7_isService_7 ?_
  refine z_callS F [.int (zI a), .int (zI 0), .int (zI ((t 4 0 0) - 1))] [] (c_X7_in F.2.2.1 G (a := a) (b := 0) (c := (t 4 0 0 - 1)) (by omega) (by omega) (by omega) (zAll s t o)) cs_X7_63 rfl ⟨by decide, by decide⟩ ⟨by decide, by decide⟩ (Nat.le_of_ble_eq_true rfl) dX7_isService_8 z_nx (z_ki (fun x_1 M_1 h_1 => ?_))
  have hx9 := (h_1).1.symm
  have hm9 := (h_1).2.symm
  subst hx9
  subst hm9
  refine z_ti (y := (if 0 ≤ a ∧ a < t 4 0 0 then 1 else 0)) (zIf01 (by omega)) ?_
  exact z_retz F rfl (by split <;> simp) (by first | decide | assumption | omega) (by first | decide | assumption | omega) dX7_isService_11 ⟨_, rfl, rfl, rfl⟩

abbrev rX7_isStaff : Room := { frames := 1, cells := 0, slots := 0, locals := 22 }
set_option maxRecDepth 100000 in
set_option maxHeartbeats 4000000 in
theorem c_X7_isStaff {l : Launch} (hfl : l.stackTraces = false) (G : zG) {s t : zS} {o : zOx} (hc : zC1 t) (hb9 : zB t) {a : Int} (ha : zR a)  : zCn l G yX7_isStaff (.code yX7_isStaff cX7_isStaff 2 (some .boolean)) rX7_isStaff [.ref 16, .int (zI a)] (zAll s t o) (zRi (fun xr M2 => xr = (if 0 ≤ a ∧ a < t 0 0 0 then 1 else 0) ∧ M2 = (zAll s t o))) zN := by
  refine zStart hfl (by decide) (own := RX7) rfl [(0, .ref 16), (1, .int (zI a))] (Nat.le_of_ble_eq_true rfl) rfl (fun k hkl hinit hk0 F => ?_)
  have hn0 := hc.1
  have hn4 := hc.2.1
  have hn9 := hc.2.2.1
  have hn14 := hc.2.2.2.1
  have hn18 := hc.2.2.2.2.1
  refine z_iload_n F 1 dX7_isStaff_0 rfl rfl ?_
  refine z_iconst (z := 0) F dX7_isStaff_1 (by decide) ?_
  refine z_aload_n F 0 dX7_isStaff_2 rfl rfl ?_
  refine z_get F fl_X7_67 (zAll_16 s t o) rfl dX7_isStaff_3 ?_
  refine z_iconst (z := 1) F dX7_isStaff_6 (by decide) ?_
  refine z_isub F dX7_isStaff_7 ?_
  refine z_callS F [.int (zI a), .int (zI 0), .int (zI ((t 0 0 0) - 1))] [] (c_X7_in F.2.2.1 G (a := a) (b := 0) (c := (t 0 0 0 - 1)) (by omega) (by omega) (by omega) (zAll s t o)) cs_X7_63 rfl ⟨by decide, by decide⟩ ⟨by decide, by decide⟩ (Nat.le_of_ble_eq_true rfl) dX7_isStaff_8 z_nx (z_ki (fun x_1 M_1 h_1 => ?_))
  have hx9 := (h_1).1.symm
  have hm9 := (h_1).2.symm
  subst hx9
  subst hm9
  refine z_ti (y := (if 0 ≤ a ∧ a < t 0 0 0 then 1 else 0)) (zIf01 (by omega)) ?_
  exact z_retz F rfl (by split <;> simp) (by first | decide | assumption | omega) (by first | decide | assumption | omega) dX7_isStaff_11 ⟨_, rfl, rfl, rfl⟩

abbrev rX7_isVisit : Room := { frames := 1, cells := 0, slots := 0, locals := 22 }
set_option maxRecDepth 100000 in
set_option maxHeartbeats 4000000 in
theorem c_X7_isVisit {l : Launch} (hfl : l.stackTraces = false) (G : zG) {s t : zS} {o : zOx} (hc : zC1 t) (hb9 : zB t) {a : Int} (ha : zR a)  : zCn l G yX7_isVisit (.code yX7_isVisit cX7_isVisit 2 (some .boolean)) rX7_isVisit [.ref 16, .int (zI a)] (zAll s t o) (zRi (fun xr M2 => xr = (if 0 ≤ a ∧ a < t 9 0 0 then 1 else 0) ∧ M2 = (zAll s t o))) zN := by
  refine zStart hfl (by decide) (own := RX7) rfl [(0, .ref 16), (1, .int (zI a))] (Nat.le_of_ble_eq_true rfl) rfl (fun k hkl hinit hk0 F => ?_)
  have hn0 := hc.1
  have hn4 := hc.2.1
  have hn9 := hc.2.2.1
  have hn14 := hc.2.2.2.1
  have hn18 := hc.2.2.2.2.1
  refine z_iload_n F 1 dX7_isVisit_0 rfl rfl ?_
  refine z_iconst (z := 0) F dX7_isVisit_1 (by decide) ?_
  refine z_aload_n F 0 dX7_isVisit_2 rfl rfl ?_
  refine z_get F fl_X7_70 (zAll_16 s t o) rfl dX7_isVisit_3 ?_
  refine z_iconst (z := 1) F dX7_isVisit_6 (by decide) ?_
  refine z_isub F dX7_isVisit_7 ?_
  refine z_callS F [.int (zI a), .int (zI 0), .int (zI ((t 9 0 0) - 1))] [] (c_X7_in F.2.2.1 G (a := a) (b := 0) (c := (t 9 0 0 - 1)) (by omega) (by omega) (by omega) (zAll s t o)) cs_X7_63 rfl ⟨by decide, by decide⟩ ⟨by decide, by decide⟩ (Nat.le_of_ble_eq_true rfl) dX7_isVisit_8 z_nx (z_ki (fun x_1 M_1 h_1 => ?_))
  have hx9 := (h_1).1.symm
  have hm9 := (h_1).2.symm
  subst hx9
  subst hm9
  refine z_ti (y := (if 0 ≤ a ∧ a < t 9 0 0 then 1 else 0)) (zIf01 (by omega)) ?_
  exact z_retz F rfl (by split <;> simp) (by first | decide | assumption | omega) (by first | decide | assumption | omega) dX7_isVisit_11 ⟨_, rfl, rfl, rfl⟩

abbrev rX7_length : Room := { frames := 0, cells := 0, slots := 0, locals := 0 }
set_option maxRecDepth 100000 in
set_option maxHeartbeats 4000000 in
theorem c_X7_length {l : Launch} (hfl : l.stackTraces = false) (G : zG) {s t : zS} {o : zOx} (hc : zC1 t) (hb9 : zB t) {a : Nat} (ha : a < 8)  : zCn l G yX7_length (.code yX7_length cX7_length 4 (some .int)) rX7_length [.ref 16, .int (zI ((a : Nat)))] (zAll s t o) (zRi (fun xr M2 => xr = zLen t a ∧ M2 = (zAll s t o))) zN := by
  refine zStart hfl (by decide) (own := RX7) rfl [(0, .ref 16), (1, .int (zI ((a : Nat))))] (Nat.le_of_ble_eq_true rfl) rfl (fun k hkl hinit hk0 F => ?_)
  have hn0 := hc.1
  have hn4 := hc.2.1
  have hn9 := hc.2.2.1
  have hn14 := hc.2.2.2.1
  have hn18 := hc.2.2.2.2.1
  have h5 := hc.2.2.2.2.2.2.2.1 a
  refine z_iconst (z := 0) F dX7_length_0 (by decide) ?_
  refine z_istore_n F [(2, .int (zI 0)), (0, .ref 16), (1, .int (zI ((a : Nat))))] dX7_length_1 rfl (by decide) rfl ?_
  refine z_iconst (z := 0) F dX7_length_2 (by decide) ?_
  refine z_istore_n F [(3, .int (zI 0)), (2, .int (zI 0)), (0, .ref 16), (1, .int (zI ((a : Nat))))] dX7_length_3 rfl (by decide) rfl ?_
  have L1 : ∀ (fuel : Nat) (w : Int) (z : Int), (t 5 a 0 - w).toNat < fuel → 0 ≤ w → w ≤ t 5 a 0 → z = zOff t a w.toNat → zJ k G rX7_length 4 (zMQ k G rX7_length (zRi (fun xr M2 => xr = zLen t a ∧ M2 = (zAll s t o))) zN) (zAll s t o) 0 0 4 [(0, .ref 16), (1, .int (zI ((a : Nat)))), (2, .int (zI z)), (3, .int (zI w))] [] := by
    intro fuel
    induction fuel with
    | zero => intros; omega
    | succ fuel L1_ih =>
      intro w z hfuel hk0 hk1 hz
      refine z_iload_n F 3 dX7_length_4 rfl rfl ?_
      refine z_aload_n F 0 dX7_length_5 rfl rfl ?_
      refine z_get F fl_X7_25 (zAll_16 s t o) rfl dX7_length_6 ?_
      refine z_iload_n F 1 dX7_length_9 rfl rfl ?_
      refine z_iald F (zAll_22 s t o) (by omega) (by omega) (by decide) dX7_length_10 ?_
      refine z_ti (y := t 5 a 0) (by rw [Int.toNat_natCast]) ?_
      refine z_icmp_ge F 33 dX7_length_11 (by decide) (by omega) (by omega) (fun c_1 => ?_) (fun c_1 => ?_)
      · skip
        have hke : w.toNat = zSc t a := by have := (hc.sc a).2; omega
        refine z_iload_n F 2 dX7_length_33 rfl rfl ?_
        exact z_reti F rfl (by first | decide | assumption | omega) (by first | decide | assumption | omega) dX7_length_34 ⟨_, rfl, by rw [hz, hke]; rfl, rfl⟩
      · skip
        refine z_iload_n F 2 dX7_length_14 rfl rfl ?_
        refine z_aload_n F 0 dX7_length_15 rfl rfl ?_
        refine z_get F fl_X7_22 (zAll_16 s t o) rfl dX7_length_16 ?_
        refine z_iconst (z := 5) F dX7_length_19 (by decide) ?_
        refine z_iload_n F 1 dX7_length_20 rfl rfl ?_
        refine z_imul F dX7_length_21 ?_
        refine z_iload_n F 3 dX7_length_22 rfl rfl ?_
        refine z_iadd F dX7_length_23 ?_
        refine z_iald F (zAll_21 s t o) (by omega) (by omega) (by decide) dX7_length_24 ?_
        refine z_ti (y := t 7 a w.toNat) (by rw [show (5 * ((a : Nat) : Int) + w).toNat / 5 = a by omega, show (5 * ((a : Nat) : Int) + w).toNat % 5 = w.toNat by omega]) ?_
        refine z_iadd F dX7_length_25 ?_
        refine z_istore_n F [(2, .int (zI (z + (t 7 a w.toNat)))), (0, .ref 16), (1, .int (zI ((a : Nat)))), (3, .int (zI w))] dX7_length_26 rfl (by decide) rfl ?_
        refine z_iinc F 3 [(3, .int (zI (w + 1))), (2, .int (zI (z + (t 7 a w.toNat)))), (0, .ref 16), (1, .int (zI ((a : Nat))))] dX7_length_27 rfl (by decide) rfl ?_
        refine z_goto F 4 dX7_length_30 (by decide) ?_
        refine z_lv [(0, .ref 16), (1, .int (zI ((a : Nat)))), (2, .int (zI (z + (t 7 a w.toNat)))), (3, .int (zI (w + 1)))] [2, 3, 1, 0] rfl ?_
        exact L1_ih (w + 1) (z + (t 7 a w.toNat)) (by omega) (by omega) (by omega) (by rw [hz, show (w + 1).toNat = w.toNat + 1 by omega]; rfl)
  refine z_lv [(0, .ref 16), (1, .int (zI ((a : Nat)))), (2, .int (zI 0)), (3, .int (zI 0))] [2, 3, 1, 0] rfl ?_
  exact L1 _ 0 0 (Nat.lt_succ_self _) (by omega) (by omega) rfl

abbrev rX7_work : Room := { frames := 0, cells := 0, slots := 0, locals := 0 }
set_option maxRecDepth 100000 in
set_option maxHeartbeats 4000000 in
theorem c_X7_work {l : Launch} (hfl : l.stackTraces = false) (G : zG) {s t : zS} {o : zOx} (hc : zC1 t) (hb9 : zB t) {a : Nat} (ha : a < 8)  : zCn l G yX7_work (.code yX7_work cX7_work 4 (some .int)) rX7_work [.ref 16, .int (zI ((a : Nat)))] (zAll s t o) (zRi (fun xr M2 => xr = zWork t a ∧ M2 = (zAll s t o))) zN := by
  refine zStart hfl (by decide) (own := RX7) rfl [(0, .ref 16), (1, .int (zI ((a : Nat))))] (Nat.le_of_ble_eq_true rfl) rfl (fun k hkl hinit hk0 F => ?_)
  have hn0 := hc.1
  have hn4 := hc.2.1
  have hn9 := hc.2.2.1
  have hn14 := hc.2.2.2.1
  have hn18 := hc.2.2.2.2.1
  have h5 := hc.2.2.2.2.2.2.2.1 a
  refine z_iconst (z := 0) F dX7_work_0 (by decide) ?_
  refine z_istore_n F [(2, .int (zI 0)), (0, .ref 16), (1, .int (zI ((a : Nat))))] dX7_work_1 rfl (by decide) rfl ?_
  refine z_iconst (z := 0) F dX7_work_2 (by decide) ?_
  refine z_istore_n F [(3, .int (zI 0)), (2, .int (zI 0)), (0, .ref 16), (1, .int (zI ((a : Nat))))] dX7_work_3 rfl (by decide) rfl ?_
  have L1 : ∀ (fuel : Nat) (w : Int) (z : Int), (t 5 a 0 - w).toNat < fuel → 0 ≤ w → w ≤ t 5 a 0 → z = zsm (fun j => if t 6 a j = -1 then 0 else t 7 a j) w.toNat → zJ k G rX7_work 4 (zMQ k G rX7_work (zRi (fun xr M2 => xr = zWork t a ∧ M2 = (zAll s t o))) zN) (zAll s t o) 0 0 4 [(0, .ref 16), (1, .int (zI ((a : Nat)))), (2, .int (zI z)), (3, .int (zI w))] [] := by
    intro fuel
    induction fuel with
    | zero => intros; omega
    | succ fuel L1_ih =>
      intro w z hfuel hk0 hk1 hz
      refine z_iload_n F 3 dX7_work_4 rfl rfl ?_
      refine z_aload_n F 0 dX7_work_5 rfl rfl ?_
      refine z_get F fl_X7_25 (zAll_16 s t o) rfl dX7_work_6 ?_
      refine z_iload_n F 1 dX7_work_9 rfl rfl ?_
      refine z_iald F (zAll_22 s t o) (by omega) (by omega) (by decide) dX7_work_10 ?_
      refine z_ti (y := t 5 a 0) (by rw [Int.toNat_natCast]) ?_
      refine z_icmp_ge F 51 dX7_work_11 (by decide) (by omega) (by omega) (fun c_1 => ?_) (fun c_1 => ?_)
      · skip
        have hke : w.toNat = zSc t a := by have := (hc.sc a).2; omega
        refine z_iload_n F 2 dX7_work_51 rfl rfl ?_
        exact z_reti F rfl (by first | decide | assumption | omega) (by first | decide | assumption | omega) dX7_work_52 ⟨_, rfl, by rw [hz, hke]; rfl, rfl⟩
      · skip
        have h6 := hc.2.2.2.2.2.1 a w.toNat
        refine z_iload_n F 2 dX7_work_14 rfl rfl ?_
        refine z_aload_n F 0 dX7_work_15 rfl rfl ?_
        refine z_get F fl_X7_19 (zAll_16 s t o) rfl dX7_work_16 ?_
        refine z_iconst (z := 5) F dX7_work_19 (by decide) ?_
        refine z_iload_n F 1 dX7_work_20 rfl rfl ?_
        refine z_imul F dX7_work_21 ?_
        refine z_iload_n F 3 dX7_work_22 rfl rfl ?_
        refine z_iadd F dX7_work_23 ?_
        refine z_iald F (zAll_20 s t o) (by omega) (by omega) (by decide) dX7_work_24 ?_
        refine z_ti (y := t 6 a w.toNat) (by rw [show (5 * ((a : Nat) : Int) + w).toNat / 5 = a by omega, show (5 * ((a : Nat) : Int) + w).toNat % 5 = w.toNat by omega]) ?_
        refine z_iconst (z := -1) F dX7_work_25 (by decide) ?_
        refine z_icmp_ne F 33 dX7_work_26 (by decide) (by omega) ⟨by decide, by decide⟩ (fun c_2 => ?_) (fun c_2 => ?_)
        · skip
          refine z_aload_n F 0 dX7_work_33 rfl rfl ?_
          refine z_get F fl_X7_22 (zAll_16 s t o) rfl dX7_work_34 ?_
          refine z_iconst (z := 5) F dX7_work_37 (by decide) ?_
          refine z_iload_n F 1 dX7_work_38 rfl rfl ?_
          refine z_imul F dX7_work_39 ?_
          refine z_iload_n F 3 dX7_work_40 rfl rfl ?_
          refine z_iadd F dX7_work_41 ?_
          refine z_iald F (zAll_21 s t o) (by omega) (by omega) (by decide) dX7_work_42 ?_
          refine z_ti (y := t 7 a w.toNat) (by rw [show (5 * ((a : Nat) : Int) + w).toNat / 5 = a by omega, show (5 * ((a : Nat) : Int) + w).toNat % 5 = w.toNat by omega]) ?_
          refine z_iadd F dX7_work_43 ?_
          refine z_istore_n F [(2, .int (zI (z + (t 7 a w.toNat)))), (0, .ref 16), (1, .int (zI ((a : Nat)))), (3, .int (zI w))] dX7_work_44 rfl (by decide) rfl ?_
          refine z_iinc F 3 [(3, .int (zI (w + 1))), (2, .int (zI (z + (t 7 a w.toNat)))), (0, .ref 16), (1, .int (zI ((a : Nat))))] dX7_work_45 rfl (by decide) rfl ?_
          refine z_goto F 4 dX7_work_48 (by decide) ?_
          refine z_lv [(0, .ref 16), (1, .int (zI ((a : Nat)))), (2, .int (zI (z + (t 7 a w.toNat)))), (3, .int (zI (w + 1)))] [2, 3, 1, 0] rfl ?_
          exact L1_ih (w + 1) (z + (t 7 a w.toNat)) (by omega) (by omega) (by omega) (by rw [hz, show (w + 1).toNat = w.toNat + 1 by omega, zsm]; first | rw [if_pos (show t 6 a w.toNat = -1 by omega)] | rw [if_neg (show ¬ t 6 a w.toNat = -1 by omega)])
        · skip
          refine z_iconst (z := 0) F dX7_work_29 (by decide) ?_
          refine z_goto F 43 dX7_work_30 (by decide) ?_
          refine z_iadd F dX7_work_43 ?_
          refine z_istore_n F [(2, .int (zI (z + 0))), (0, .ref 16), (1, .int (zI ((a : Nat)))), (3, .int (zI w))] dX7_work_44 rfl (by decide) rfl ?_
          refine z_iinc F 3 [(3, .int (zI (w + 1))), (2, .int (zI (z + 0))), (0, .ref 16), (1, .int (zI ((a : Nat))))] dX7_work_45 rfl (by decide) rfl ?_
          refine z_goto F 4 dX7_work_48 (by decide) ?_
          refine z_lv [(0, .ref 16), (1, .int (zI ((a : Nat)))), (2, .int (zI (z + 0))), (3, .int (zI (w + 1)))] [2, 3, 1, 0] rfl ?_
          exact L1_ih (w + 1) (z + 0) (by omega) (by omega) (by omega) (by rw [hz, show (w + 1).toNat = w.toNat + 1 by omega, zsm]; first | rw [if_pos (show t 6 a w.toNat = -1 by omega)] | rw [if_neg (show ¬ t 6 a w.toNat = -1 by omega)])
  refine z_lv [(0, .ref 16), (1, .int (zI ((a : Nat)))), (2, .int (zI 0)), (3, .int (zI 0))] [2, 3, 1, 0] rfl ?_
  exact L1 _ 0 0 (Nat.lt_succ_self _) (by omega) (by omega) rfl

abbrev rX7_asked : Room := { frames := 0, cells := 0, slots := 0, locals := 0 }
set_option maxRecDepth 100000 in
set_option maxHeartbeats 4000000 in
theorem c_X7_asked {l : Launch} (hfl : l.stackTraces = false) (G : zG) {s t : zS} {o : zOx} (hc : zC1 t) (hb9 : zB t) {a : Nat} (ha : a < 8)  : zCn l G yX7_asked (.code yX7_asked cX7_asked 5 (some .int)) rX7_asked [.ref 16, .int (zI ((a : Nat)))] (zAll s t o) (zRi (fun xr M2 => xr = zAsk t a ∧ M2 = (zAll s t o))) zN := by
  refine zStart hfl (by decide) (own := RX7) rfl [(0, .ref 16), (1, .int (zI ((a : Nat))))] (Nat.le_of_ble_eq_true rfl) rfl (fun k hkl hinit hk0 F => ?_)
  have hn0 := hc.1
  have hn4 := hc.2.1
  have hn9 := hc.2.2.1
  have hn14 := hc.2.2.2.1
  have hn18 := hc.2.2.2.2.1
  have h5 := hc.2.2.2.2.2.2.2.1 a
  refine z_iconst (z := 0) F dX7_asked_0 (by decide) ?_
  refine z_istore_n F [(2, .int (zI 0)), (0, .ref 16), (1, .int (zI ((a : Nat))))] dX7_asked_1 rfl (by decide) rfl ?_
  refine z_iconst (z := 0) F dX7_asked_2 (by decide) ?_
  refine z_istore_n F [(3, .int (zI 0)), (2, .int (zI 0)), (0, .ref 16), (1, .int (zI ((a : Nat))))] dX7_asked_3 rfl (by decide) rfl ?_
  have L1 : ∀ (fuel : Nat) (w : Int) (z : Int), (t 5 a 0 - w).toNat < fuel → 0 ≤ w → w ≤ t 5 a 0 → z = ((zAskN t a w.toNat : Nat) : Int) → zJ k G rX7_asked 5 (zMQ k G rX7_asked (zRi (fun xr M2 => xr = zAsk t a ∧ M2 = (zAll s t o))) zN) (zAll s t o) 0 0 4 [(0, .ref 16), (1, .int (zI ((a : Nat)))), (2, .int (zI z)), (3, .int (zI w))] [] := by
    intro fuel
    induction fuel with
    | zero => intros; omega
    | succ fuel L1_ih =>
      intro w z hfuel hk0 hk1 hz
      refine z_iload_n F 3 dX7_asked_4 rfl rfl ?_
      refine z_aload_n F 0 dX7_asked_5 rfl rfl ?_
      refine z_get F fl_X7_25 (zAll_16 s t o) rfl dX7_asked_6 ?_
      refine z_iload_n F 1 dX7_asked_9 rfl rfl ?_
      refine z_iald F (zAll_22 s t o) (by omega) (by omega) (by decide) dX7_asked_10 ?_
      refine z_ti (y := t 5 a 0) (by rw [Int.toNat_natCast]) ?_
      refine z_icmp_ge F 49 dX7_asked_11 (by decide) (by omega) (by omega) (fun c_1 => ?_) (fun c_1 => ?_)
      · skip
        have hke : w.toNat = zSc t a := by have := (hc.sc a).2; omega
        refine z_iload_n F 2 dX7_asked_49 rfl rfl ?_
        exact z_reti F rfl (by first | decide | assumption | omega) (by first | decide | assumption | omega) dX7_asked_50 ⟨_, rfl, by rw [hz, hke]; rfl, rfl⟩
      · skip
        have h6 := hc.2.2.2.2.2.1 a w.toNat
        refine z_aload_n F 0 dX7_asked_14 rfl rfl ?_
        refine z_get F fl_X7_19 (zAll_16 s t o) rfl dX7_asked_15 ?_
        refine z_iconst (z := 5) F dX7_asked_18 (by decide) ?_
        refine z_iload_n F 1 dX7_asked_19 rfl rfl ?_
        refine z_imul F dX7_asked_20 ?_
        refine z_iload_n F 3 dX7_asked_21 rfl rfl ?_
        refine z_iadd F dX7_asked_22 ?_
        refine z_iald F (zAll_20 s t o) (by omega) (by omega) (by decide) dX7_asked_23 ?_
        refine z_ti (y := t 6 a w.toNat) (by rw [show (5 * ((a : Nat) : Int) + w).toNat / 5 = a by omega, show (5 * ((a : Nat) : Int) + w).toNat % 5 = w.toNat by omega]) ?_
        refine z_istore F [(4, .int (zI (t 6 a w.toNat))), (0, .ref 16), (1, .int (zI ((a : Nat)))), (2, .int (zI z)), (3, .int (zI w))] dX7_asked_24 (by decide) rfl ?_
        refine z_iload_n F 3 dX7_asked_26 rfl rfl ?_
        refine z_iload F 0 dX7_asked_27 rfl ?_
        refine z_iconst (z := -1) F dX7_asked_29 (by decide) ?_
        refine z_icmp_ne F 37 dX7_asked_30 (by decide) (by omega) ⟨by decide, by decide⟩ (fun c_2 => ?_) (fun c_2 => ?_)
        · skip
          refine z_iconst (z := 1) F dX7_asked_37 (by decide) ?_
          refine z_iload F 0 dX7_asked_38 rfl ?_
          refine z_ishl F (((2 ^ (t 6 a w.toNat).toNat : Nat) : Int)) dX7_asked_40 (zI_bitI (by omega) (by omega)) ?_
          refine z_ior F (((zAskN t a w.toNat ||| 2 ^ (t 6 a w.toNat).toNat : Nat) : Int)) dX7_asked_41 (by rw [hz]; exact zI_or _ _) ?_
          refine z_istore_n F [(2, .int (zI (((zAskN t a w.toNat ||| 2 ^ (t 6 a w.toNat).toNat : Nat) : Int)))), (4, .int (zI (t 6 a w.toNat))), (0, .ref 16), (1, .int (zI ((a : Nat)))), (3, .int (zI w))] dX7_asked_42 rfl (by decide) rfl ?_
          refine z_iinc F 4 [(3, .int (zI (w + 1))), (2, .int (zI (((zAskN t a w.toNat ||| 2 ^ (t 6 a w.toNat).toNat : Nat) : Int)))), (4, .int (zI (t 6 a w.toNat))), (0, .ref 16), (1, .int (zI ((a : Nat))))] dX7_asked_43 rfl (by decide) rfl ?_
          refine z_goto F 4 dX7_asked_46 (by decide) ?_
          refine z_lv [(0, .ref 16), (1, .int (zI ((a : Nat)))), (2, .int (zI (((zAskN t a w.toNat ||| 2 ^ (t 6 a w.toNat).toNat : Nat) : Int)))), (3, .int (zI (w + 1)))] [3, 4, 1, 0] rfl ?_
          exact L1_ih (w + 1) (((zAskN t a w.toNat ||| 2 ^ (t 6 a w.toNat).toNat : Nat) : Int)) (by omega) (by omega) (by omega) (by rw [show (w + 1).toNat = w.toNat + 1 by omega, zAskN]; first | rw [if_pos (show t 6 a w.toNat = -1 by omega)] | rw [if_neg (show ¬ t 6 a w.toNat = -1 by omega)])
        · skip
          refine z_iconst (z := 0) F dX7_asked_33 (by decide) ?_
          refine z_goto F 41 dX7_asked_34 (by decide) ?_
          refine z_ior F (((zAskN t a w.toNat ||| 0 : Nat) : Int)) dX7_asked_41 (by rw [hz]; exact zI_or _ _) ?_
          refine z_istore_n F [(2, .int (zI (((zAskN t a w.toNat ||| 0 : Nat) : Int)))), (4, .int (zI (t 6 a w.toNat))), (0, .ref 16), (1, .int (zI ((a : Nat)))), (3, .int (zI w))] dX7_asked_42 rfl (by decide) rfl ?_
          refine z_iinc F 4 [(3, .int (zI (w + 1))), (2, .int (zI (((zAskN t a w.toNat ||| 0 : Nat) : Int)))), (4, .int (zI (t 6 a w.toNat))), (0, .ref 16), (1, .int (zI ((a : Nat))))] dX7_asked_43 rfl (by decide) rfl ?_
          refine z_goto F 4 dX7_asked_46 (by decide) ?_
          refine z_lv [(0, .ref 16), (1, .int (zI ((a : Nat)))), (2, .int (zI (((zAskN t a w.toNat ||| 0 : Nat) : Int)))), (3, .int (zI (w + 1)))] [3, 4, 1, 0] rfl ?_
          exact L1_ih (w + 1) (((zAskN t a w.toNat ||| 0 : Nat) : Int)) (by omega) (by omega) (by omega) (by rw [show (w + 1).toNat = w.toNat + 1 by omega, zAskN]; first | rw [if_pos (show t 6 a w.toNat = -1 by omega)] | rw [if_neg (show ¬ t 6 a w.toNat = -1 by omega)])
  refine z_lv [(0, .ref 16), (1, .int (zI ((a : Nat)))), (2, .int (zI 0)), (3, .int (zI 0))] [2, 3, 1, 0] rfl ?_
  exact L1 _ 0 0 (Nat.lt_succ_self _) (by omega) (by omega) rfl

abbrev rX7_load : Room := { frames := 1, cells := 0, slots := 0, locals := 23 }
set_option maxRecDepth 100000 in
set_option maxHeartbeats 4000000 in
theorem c_X7_load {l : Launch} (hfl : l.stackTraces = false) (G : zG) {s t : zS} {o : zOx} (hc : zC1 t) (hb9 : zB t) {i : Int} (hi : zR i)  : zCn l G yX7_load (.code yX7_load cX7_load 4 (some .int)) rX7_load [.ref 16, .int (zI i)] (zAll s t o) (zRi (fun xr M2 => xr = zLoad t i ∧ M2 = (zAll s t o))) zN := by
  refine zStart hfl (by decide) (own := RX7) rfl [(0, .ref 16), (1, .int (zI i))] (Nat.le_of_ble_eq_true rfl) rfl (fun k hkl hinit hk0 F => ?_)
  have hn0 := hc.1
  have hn4 := hc.2.1
  have hn9 := hc.2.2.1
  have hn14 := hc.2.2.2.1
  have hn18 := hc.2.2.2.2.1
  refine z_iconst (z := 0) F dX7_load_0 (by decide) ?_
  refine z_istore_n F [(2, .int (zI 0)), (0, .ref 16), (1, .int (zI i))] dX7_load_1 rfl (by decide) rfl ?_
  refine z_iconst (z := 0) F dX7_load_2 (by decide) ?_
  refine z_istore_n F [(3, .int (zI 0)), (2, .int (zI 0)), (0, .ref 16), (1, .int (zI i))] dX7_load_3 rfl (by decide) rfl ?_
  have L1 : ∀ (fuel : Nat) (w : Int) (z : Int), (t 9 0 0 - w).toNat < fuel → 0 ≤ w → w ≤ t 9 0 0 → z = zsm (fun v => if t 13 v 0 ≠ -1 ∧ t 11 v 0 = i then zWork t (t 10 v 0).toNat else 0) w.toNat → zJ k G rX7_load 4 (zMQ k G rX7_load (zRi (fun xr M2 => xr = zLoad t i ∧ M2 = (zAll s t o))) zN) (zAll s t o) 0 0 4 [(0, .ref 16), (1, .int (zI i)), (2, .int (zI z)), (3, .int (zI w))] [] := by
    intro fuel
    induction fuel with
    | zero => intros; omega
    | succ fuel L1_ih =>
      intro w z hfuel hk0 hk1 hz
      refine z_iload_n F 3 dX7_load_4 rfl rfl ?_
      refine z_aload_n F 0 dX7_load_5 rfl rfl ?_
      refine z_get F fl_X7_70 (zAll_16 s t o) rfl dX7_load_6 ?_
      refine z_icmp_ge F 55 dX7_load_9 (by decide) (by omega) (by omega) (fun c_1 => ?_) (fun c_1 => ?_)
      · skip
        have hke : w.toNat = (t 9 0 0).toNat := by omega
        refine z_iload_n F 2 dX7_load_55 rfl rfl ?_
        exact z_reti F rfl (by first | decide | assumption | omega) (by first | decide | assumption | omega) dX7_load_56 ⟨_, rfl, by rw [hz, hke]; rfl, rfl⟩
      · skip
        have hv9 := hc.2.2.2.2.2.2.2.2.2.2.1 w.toNat (by omega)
        have hb13 := hb9 13 w.toNat 0
        have hb11 := hb9 11 w.toNat 0
        refine z_iload_n F 2 dX7_load_12 rfl rfl ?_
        refine z_aload_n F 0 dX7_load_13 rfl rfl ?_
        refine z_get F fl_X7_41 (zAll_16 s t o) rfl dX7_load_14 ?_
        refine z_iload_n F 3 dX7_load_17 rfl rfl ?_
        refine z_iald F (zAll_27 s t o) (by omega) (by omega) (by decide) dX7_load_18 ?_
        refine z_iconst (z := -1) F dX7_load_19 (by decide) ?_
        refine z_icmp_eq F 46 dX7_load_20 (by decide) (by omega) ⟨by decide, by decide⟩ (fun c_2 => ?_) (fun c_2 => ?_)
        · skip
          refine z_iconst (z := 0) F dX7_load_46 (by decide) ?_
          refine z_iadd F dX7_load_47 ?_
          refine z_istore_n F [(2, .int (zI (z + 0))), (0, .ref 16), (1, .int (zI i)), (3, .int (zI w))] dX7_load_48 rfl (by decide) rfl ?_
          refine z_iinc F 3 [(3, .int (zI (w + 1))), (2, .int (zI (z + 0))), (0, .ref 16), (1, .int (zI i))] dX7_load_49 rfl (by decide) rfl ?_
          refine z_goto F 4 dX7_load_52 (by decide) ?_
          refine z_lv [(0, .ref 16), (1, .int (zI i)), (2, .int (zI (z + 0))), (3, .int (zI (w + 1)))] [2, 3, 1, 0] rfl ?_
          exact L1_ih (w + 1) (z + 0) (by omega) (by omega) (by omega) (by rw [hz, show (w + 1).toNat = w.toNat + 1 by omega, zsm]; first | rw [if_pos (show t 13 w.toNat 0 ≠ -1 ∧ t 11 w.toNat 0 = i by omega)] | rw [if_neg (show ¬ (t 13 w.toNat 0 ≠ -1 ∧ t 11 w.toNat 0 = i) by omega)])
        · skip
          refine z_aload_n F 0 dX7_load_23 rfl rfl ?_
          refine z_get F fl_X7_35 (zAll_16 s t o) rfl dX7_load_24 ?_
          refine z_iload_n F 3 dX7_load_27 rfl rfl ?_
          refine z_iald F (zAll_25 s t o) (by omega) (by omega) (by decide) dX7_load_28 ?_
          refine z_iload_n F 1 dX7_load_29 rfl rfl ?_
          refine z_icmp_ne F 46 dX7_load_30 (by decide) (by omega) (by omega) (fun c_3 => ?_) (fun c_3 => ?_)
          · skip
            refine z_iconst (z := 0) F dX7_load_46 (by decide) ?_
            refine z_iadd F dX7_load_47 ?_
            refine z_istore_n F [(2, .int (zI (z + 0))), (0, .ref 16), (1, .int (zI i)), (3, .int (zI w))] dX7_load_48 rfl (by decide) rfl ?_
            refine z_iinc F 3 [(3, .int (zI (w + 1))), (2, .int (zI (z + 0))), (0, .ref 16), (1, .int (zI i))] dX7_load_49 rfl (by decide) rfl ?_
            refine z_goto F 4 dX7_load_52 (by decide) ?_
            refine z_lv [(0, .ref 16), (1, .int (zI i)), (2, .int (zI (z + 0))), (3, .int (zI (w + 1)))] [2, 3, 1, 0] rfl ?_
            exact L1_ih (w + 1) (z + 0) (by omega) (by omega) (by omega) (by rw [hz, show (w + 1).toNat = w.toNat + 1 by omega, zsm]; first | rw [if_pos (show t 13 w.toNat 0 ≠ -1 ∧ t 11 w.toNat 0 = i by omega)] | rw [if_neg (show ¬ (t 13 w.toNat 0 ≠ -1 ∧ t 11 w.toNat 0 = i) by omega)])
          · skip
            refine z_aload_n F 0 dX7_load_33 rfl rfl ?_
            refine z_aload_n F 0 dX7_load_34 rfl rfl ?_
            refine z_get F fl_X7_32 (zAll_16 s t o) rfl dX7_load_35 ?_
            refine z_iload_n F 3 dX7_load_38 rfl rfl ?_
            refine z_iald F (zAll_24 s t o) (by omega) (by omega) (by decide) dX7_load_39 ?_
            refine z_ti (y := (((t 10 w.toNat 0).toNat : Nat) : Int)) (by omega) ?_
            refine z_callV F [.int (zI ((((t 10 w.toNat 0).toNat : Nat) : Int)))] [.int (zI z)] (c_X7_work F.2.2.1 G (s := s) (t := t) (o := o) hc hb9 (a := (t 10 w.toNat 0).toNat) (by omega)) cv_X7_94 (zAll_16 s t o) rfl rfl rfl ⟨by decide, by decide⟩ ⟨by decide, by decide⟩ (Nat.le_of_ble_eq_true rfl) dX7_load_40 z_nx (z_ki (fun x_4 M_4 h_4 => ?_))
            have hx9 := (h_4).1.symm
            have hm9 := (h_4).2.symm
            subst hx9
            subst hm9
            refine z_goto F 47 dX7_load_43 (by decide) ?_
            refine z_iadd F dX7_load_47 ?_
            refine z_istore_n F [(2, .int (zI (z + (zWork t (t 10 w.toNat 0).toNat)))), (0, .ref 16), (1, .int (zI i)), (3, .int (zI w))] dX7_load_48 rfl (by decide) rfl ?_
            refine z_iinc F 3 [(3, .int (zI (w + 1))), (2, .int (zI (z + (zWork t (t 10 w.toNat 0).toNat)))), (0, .ref 16), (1, .int (zI i))] dX7_load_49 rfl (by decide) rfl ?_
            refine z_goto F 4 dX7_load_52 (by decide) ?_
            refine z_lv [(0, .ref 16), (1, .int (zI i)), (2, .int (zI (z + (zWork t (t 10 w.toNat 0).toNat)))), (3, .int (zI (w + 1)))] [2, 3, 1, 0] rfl ?_
            exact L1_ih (w + 1) (z + (zWork t (t 10 w.toNat 0).toNat)) (by omega) (by omega) (by omega) (by rw [hz, show (w + 1).toNat = w.toNat + 1 by omega, zsm]; first | rw [if_pos (show t 13 w.toNat 0 ≠ -1 ∧ t 11 w.toNat 0 = i by omega)] | rw [if_neg (show ¬ (t 13 w.toNat 0 ≠ -1 ∧ t 11 w.toNat 0 = i) by omega)])
  refine z_lv [(0, .ref 16), (1, .int (zI i)), (2, .int (zI 0)), (3, .int (zI 0))] [2, 3, 1, 0] rfl ?_
  exact L1 _ 0 0 (Nat.lt_succ_self _) (by omega) (by omega) rfl

abbrev rX7_isMinute : Room := { frames := 1, cells := 0, slots := 0, locals := 22 }
set_option maxRecDepth 100000 in
set_option maxHeartbeats 4000000 in
theorem c_X7_isMinute {l : Launch} (hfl : l.stackTraces = false) (G : zG) {a : Int} (ha : zR a) (M : zM)  : zCn l G yX7_isMinute (.code yX7_isMinute cX7_isMinute 1 (some .boolean)) rX7_isMinute [.int (zI a)] M (zRi (fun xr M2 => xr = (if 0 ≤ a ∧ a < 600 then 1 else 0) ∧ M2 = M)) zN := by
  refine zStart hfl (by decide) (own := RX7) rfl [(0, .int (zI a))] (Nat.le_of_ble_eq_true rfl) rfl (fun k hkl hinit hk0 F => ?_)
  refine z_iload_n F 0 dX7_isMinute_0 rfl rfl ?_
  refine z_iconst (z := 0) F dX7_isMinute_1 (by decide) ?_
  refine z_sipush (z := 599) F dX7_isMinute_2 (by decide) ?_
  refine z_callS F [.int (zI a), .int (zI 0), .int (zI 599)] [] (c_X7_in F.2.2.1 G (a := a) (b := 0) (c := 599) (by omega) (by omega) (by omega) M) cs_X7_63 rfl ⟨by decide, by decide⟩ ⟨by decide, by decide⟩ (Nat.le_of_ble_eq_true rfl) dX7_isMinute_5 z_nx (z_ki (fun x_1 M_1 h_1 => ?_))
  have hx9 := (h_1).1.symm
  have hm9 := (h_1).2.symm
  subst hx9
  subst hm9
  refine z_ti (y := (if 0 ≤ a ∧ a < 600 then 1 else 0)) (zIf01 (by omega)) ?_
  exact z_retz F rfl (by split <;> simp) (by first | decide | assumption | omega) (by first | decide | assumption | omega) dX7_isMinute_8 ⟨_, rfl, rfl, rfl⟩

abbrev rX7_isThere : Room := { frames := 2, cells := 0, slots := 0, locals := 43 }
set_option maxRecDepth 100000 in
set_option maxHeartbeats 4000000 in
theorem c_X7_isThere {l : Launch} (hfl : l.stackTraces = false) (G : zG) {s t : zS} {o : zOx} (hc : zC1 t) (hb9 : zB t) {a : Int} (ha : zR a)  : zCn l G yX7_isThere (.code yX7_isThere cX7_isThere 2 (some .boolean)) rX7_isThere [.ref 16, .int (zI a)] (zAll s t o) (zRi (fun xr M2 => xr = (if (0 ≤ a ∧ a < t 9 0 0) ∧ ¬ t 13 a.toNat 0 = -1 then 1 else 0) ∧ M2 = (zAll s t o))) zN := by
  refine zStart hfl (by decide) (own := RX7) rfl [(0, .ref 16), (1, .int (zI a))] (Nat.le_of_ble_eq_true rfl) rfl (fun k hkl hinit hk0 F => ?_)
  have hn0 := hc.1
  have hn4 := hc.2.1
  have hn9 := hc.2.2.1
  have hn14 := hc.2.2.2.1
  have hn18 := hc.2.2.2.2.1
  have hb13 := hb9 13 a.toNat 0
  refine z_aload_n F 0 dX7_isThere_0 rfl rfl ?_
  refine z_iload_n F 1 dX7_isThere_1 rfl rfl ?_
  refine z_callV F [.int (zI a)] [] (c_X7_isVisit F.2.2.1 G (s := s) (t := t) (o := o) hc hb9 ha) cv_X7_73 (zAll_16 s t o) rfl rfl rfl ⟨by decide, by decide⟩ ⟨by decide, by decide⟩ (Nat.le_of_ble_eq_true rfl) dX7_isThere_2 z_nx (z_ki (fun x_1 M_1 h_1 => ?_))
  have hx9 := (h_1).1.symm
  have hm9 := (h_1).2.symm
  subst hx9
  subst hm9
  have hz : zR (if 0 ≤ a ∧ a < t 9 0 0 then 1 else 0) := zR_if
  refine z_if_eq F 22 dX7_isThere_5 (by decide) (by omega) (fun c_2 => ?_) (fun c_2 => ?_)
  · skip
    have hq9 : ¬ (0 ≤ a ∧ a < t 9 0 0) := fun h => by rw [if_pos h] at c_2; omega
    refine z_iconst (z := 0) F dX7_isThere_22 (by decide) ?_
    exact z_retz F rfl (by decide) (by first | decide | assumption | omega) (by first | decide | assumption | omega) dX7_isThere_23 ⟨_, rfl, (by split <;> omega), rfl⟩
  · skip
    have hq9 : 0 ≤ a ∧ a < t 9 0 0 := Classical.byContradiction fun h => by rw [if_neg h] at c_2; omega
    refine z_aload_n F 0 dX7_isThere_8 rfl rfl ?_
    refine z_get F fl_X7_41 (zAll_16 s t o) rfl dX7_isThere_9 ?_
    refine z_iload_n F 1 dX7_isThere_12 rfl rfl ?_
    refine z_iald F (zAll_27 s t o) (by omega) (by omega) (by decide) dX7_isThere_13 ?_
    refine z_iconst (z := -1) F dX7_isThere_14 (by decide) ?_
    refine z_icmp_eq F 22 dX7_isThere_15 (by decide) (by omega) ⟨by decide, by decide⟩ (fun c_3 => ?_) (fun c_3 => ?_)
    · skip
      refine z_iconst (z := 0) F dX7_isThere_22 (by decide) ?_
      exact z_retz F rfl (by decide) (by first | decide | assumption | omega) (by first | decide | assumption | omega) dX7_isThere_23 ⟨_, rfl, (by split <;> omega), rfl⟩
    · skip
      refine z_iconst (z := 1) F dX7_isThere_18 (by decide) ?_
      refine z_goto F 23 dX7_isThere_19 (by decide) ?_
      exact z_retz F rfl (by decide) (by first | decide | assumption | omega) (by first | decide | assumption | omega) dX7_isThere_23 ⟨_, rfl, (by split <;> omega), rfl⟩

abbrev rX7_lengthOf : Room := { frames := 2, cells := 0, slots := 0, locals := 43 }
set_option maxRecDepth 100000 in
set_option maxHeartbeats 4000000 in
theorem c_X7_lengthOf {l : Launch} (hfl : l.stackTraces = false) (G : zG) {s t : zS} {o : zOx} (hc : zC1 t) (hb9 : zB t) {a : Int} (ha : zR a)  : zCn l G yX7_lengthOf (.code yX7_lengthOf cX7_lengthOf 2 (some .int)) rX7_lengthOf [.ref 16, .int (zI a)] (zAll s t o) (zRi (fun xr M2 => ((0 ≤ a ∧ a < t 4 0 0) ∧ xr = zLen t a.toNat ∧ M2 = zAll s (zsu t 25 0 0 0) o) ∨ (¬ (0 ≤ a ∧ a < t 4 0 0) ∧ xr = 0 ∧ M2 = zAll s (zsu t 25 0 0 1) o))) zN := by
  refine zStart hfl (by decide) (own := RX7) rfl [(0, .ref 16), (1, .int (zI a))] (Nat.le_of_ble_eq_true rfl) rfl (fun k hkl hinit hk0 F => ?_)
  have hn0 := hc.1
  have hn4 := hc.2.1
  have hn9 := hc.2.2.1
  have hn14 := hc.2.2.2.1
  have hn18 := hc.2.2.2.2.1
  have hc0 : zC1 (zsu t 25 0 0 0) := hc
  have hb0 : zB (zsu t 25 0 0 0) := zB_u hb9 (by omega)
  refine z_aload_n F 0 dX7_lengthOf_0 rfl rfl ?_
  refine z_aload_n F 0 dX7_lengthOf_1 rfl rfl ?_
  refine z_iload_n F 1 dX7_lengthOf_2 rfl rfl ?_
  refine z_callV F [.int (zI a)] [.ref 16] (c_X7_isService F.2.2.1 G (s := s) (t := t) (o := o) hc hb9 ha) cv_X7_84 (zAll_16 s t o) rfl rfl rfl ⟨by decide, by decide⟩ ⟨by decide, by decide⟩ (Nat.le_of_ble_eq_true rfl) dX7_lengthOf_3 z_nx (z_ki (fun x_1 M_1 h_1 => ?_))
  have hx9 := (h_1).1.symm
  have hm9 := (h_1).2.symm
  subst hx9
  subst hm9
  have hz : zR (if 0 ≤ a ∧ a < t 4 0 0 then 1 else 0) := zR_if
  refine z_if_eq F 13 dX7_lengthOf_6 (by decide) (by omega) (fun c_2 => ?_) (fun c_2 => ?_)
  · skip
    have hq9 : ¬ (0 ≤ a ∧ a < t 4 0 0) := fun h => by rw [if_pos h] at c_2; omega
    refine z_iconst (z := 1) F dX7_lengthOf_13 (by decide) ?_
    refine z_callV F [.int (zI 1)] [] (c_X7_isFine F.2.2.1 G (s := s) (t := t) (o := o) (p := 1) ⟨by decide, by decide⟩) cv_X7_77 (zAll_16 s t o) rfl rfl rfl ⟨by decide, by decide⟩ ⟨by decide, by decide⟩ (Nat.le_of_ble_eq_true rfl) dX7_lengthOf_14 z_nx (z_ki (fun x_3 M_3 h_3 => ?_))
    have hx9 := (h_3).1.symm
    have hm9 := (h_3).2.symm
    subst hx9
    subst hm9
    refine z_ti (y := 0) (if_neg (by decide)) ?_
    refine z_if_eq F 28 dX7_lengthOf_17 (by decide) ⟨by decide, by decide⟩ (fun c_4 => ?_) (fun c_4 => ?_)
    · skip
      refine z_iconst (z := 0) F dX7_lengthOf_28 (by decide) ?_
      exact z_reti F rfl (by first | decide | assumption | omega) (by first | decide | assumption | omega) dX7_lengthOf_29 ⟨_, rfl, (by first | exact Or.inl ⟨hq9, rfl, rfl⟩ | exact Or.inr ⟨hq9, rfl, rfl⟩)⟩
    · skip
      exact absurd rfl c_4
  · skip
    have hq9 : 0 ≤ a ∧ a < t 4 0 0 := Classical.byContradiction fun h => by rw [if_neg h] at c_2; omega
    refine z_iconst (z := 0) F dX7_lengthOf_9 (by decide) ?_
    refine z_goto F 14 dX7_lengthOf_10 (by decide) ?_
    refine z_callV F [.int (zI 0)] [] (c_X7_isFine F.2.2.1 G (s := s) (t := t) (o := o) (p := 0) ⟨by decide, by decide⟩) cv_X7_77 (zAll_16 s t o) rfl rfl rfl ⟨by decide, by decide⟩ ⟨by decide, by decide⟩ (Nat.le_of_ble_eq_true rfl) dX7_lengthOf_14 z_nx (z_ki (fun x_5 M_5 h_5 => ?_))
    have hx9 := (h_5).1.symm
    have hm9 := (h_5).2.symm
    subst hx9
    subst hm9
    refine z_ti (y := 1) (if_pos rfl) ?_
    refine z_if_eq F 28 dX7_lengthOf_17 (by decide) ⟨by decide, by decide⟩ (fun c_6 => ?_) (fun c_6 => ?_)
    · skip
      exact absurd c_6 (by decide)
    · skip
      refine z_aload_n F 0 dX7_lengthOf_20 rfl rfl ?_
      refine z_iload_n F 1 dX7_lengthOf_21 rfl rfl ?_
      refine z_ti (y := ((a.toNat : Nat) : Int)) (by omega) ?_
      refine z_callV F [.int (zI (((a.toNat : Nat) : Int)))] [] (c_X7_length F.2.2.1 G (s := s) (t := (zsu t 25 0 0 0)) (o := o) hc0 hb0 (a := a.toNat) (by omega)) cv_X7_87 (zAll_16 s (zsu t 25 0 0 0) o) rfl rfl rfl ⟨by decide, by decide⟩ ⟨by decide, by decide⟩ (Nat.le_of_ble_eq_true rfl) dX7_lengthOf_22 z_nx (z_ki (fun x_7 M_7 h_7 => ?_))
      have hx9 := (h_7).1.symm
      have hm9 := (h_7).2.symm
      subst hx9
      subst hm9
      refine z_ti (y := zLen t a.toNat) rfl ?_
      refine z_goto F 29 dX7_lengthOf_25 (by decide) ?_
      exact z_reti F rfl (by first | decide | assumption | omega) (by first | decide | assumption | omega) dX7_lengthOf_29 ⟨_, rfl, (by first | exact Or.inl ⟨hq9, rfl, rfl⟩ | exact Or.inr ⟨hq9, rfl, rfl⟩)⟩

abbrev rX7_workOf : Room := { frames := 2, cells := 0, slots := 0, locals := 43 }
set_option maxRecDepth 100000 in
set_option maxHeartbeats 4000000 in
theorem c_X7_workOf {l : Launch} (hfl : l.stackTraces = false) (G : zG) {s t : zS} {o : zOx} (hc : zC1 t) (hb9 : zB t) {a : Int} (ha : zR a)  : zCn l G yX7_workOf (.code yX7_workOf cX7_workOf 2 (some .int)) rX7_workOf [.ref 16, .int (zI a)] (zAll s t o) (zRi (fun xr M2 => ((0 ≤ a ∧ a < t 4 0 0) ∧ xr = zWork t a.toNat ∧ M2 = zAll s (zsu t 25 0 0 0) o) ∨ (¬ (0 ≤ a ∧ a < t 4 0 0) ∧ xr = 0 ∧ M2 = zAll s (zsu t 25 0 0 1) o))) zN := by
  refine zStart hfl (by decide) (own := RX7) rfl [(0, .ref 16), (1, .int (zI a))] (Nat.le_of_ble_eq_true rfl) rfl (fun k hkl hinit hk0 F => ?_)
  have hn0 := hc.1
  have hn4 := hc.2.1
  have hn9 := hc.2.2.1
  have hn14 := hc.2.2.2.1
  have hn18 := hc.2.2.2.2.1
  have hc0 : zC1 (zsu t 25 0 0 0) := hc
  have hb0 : zB (zsu t 25 0 0 0) := zB_u hb9 (by omega)
  refine z_aload_n F 0 dX7_workOf_0 rfl rfl ?_
  refine z_aload_n F 0 dX7_workOf_1 rfl rfl ?_
  refine z_iload_n F 1 dX7_workOf_2 rfl rfl ?_
  refine z_callV F [.int (zI a)] [.ref 16] (c_X7_isService F.2.2.1 G (s := s) (t := t) (o := o) hc hb9 ha) cv_X7_84 (zAll_16 s t o) rfl rfl rfl ⟨by decide, by decide⟩ ⟨by decide, by decide⟩ (Nat.le_of_ble_eq_true rfl) dX7_workOf_3 z_nx (z_ki (fun x_1 M_1 h_1 => ?_))
  have hx9 := (h_1).1.symm
  have hm9 := (h_1).2.symm
  subst hx9
  subst hm9
  have hz : zR (if 0 ≤ a ∧ a < t 4 0 0 then 1 else 0) := zR_if
  refine z_if_eq F 13 dX7_workOf_6 (by decide) (by omega) (fun c_2 => ?_) (fun c_2 => ?_)
  · skip
    have hq9 : ¬ (0 ≤ a ∧ a < t 4 0 0) := fun h => by rw [if_pos h] at c_2; omega
    refine z_iconst (z := 1) F dX7_workOf_13 (by decide) ?_
    refine z_callV F [.int (zI 1)] [] (c_X7_isFine F.2.2.1 G (s := s) (t := t) (o := o) (p := 1) ⟨by decide, by decide⟩) cv_X7_77 (zAll_16 s t o) rfl rfl rfl ⟨by decide, by decide⟩ ⟨by decide, by decide⟩ (Nat.le_of_ble_eq_true rfl) dX7_workOf_14 z_nx (z_ki (fun x_3 M_3 h_3 => ?_))
    have hx9 := (h_3).1.symm
    have hm9 := (h_3).2.symm
    subst hx9
    subst hm9
    refine z_ti (y := 0) (if_neg (by decide)) ?_
    refine z_if_eq F 28 dX7_workOf_17 (by decide) ⟨by decide, by decide⟩ (fun c_4 => ?_) (fun c_4 => ?_)
    · skip
      refine z_iconst (z := 0) F dX7_workOf_28 (by decide) ?_
      exact z_reti F rfl (by first | decide | assumption | omega) (by first | decide | assumption | omega) dX7_workOf_29 ⟨_, rfl, (by first | exact Or.inl ⟨hq9, rfl, rfl⟩ | exact Or.inr ⟨hq9, rfl, rfl⟩)⟩
    · skip
      exact absurd rfl c_4
  · skip
    have hq9 : 0 ≤ a ∧ a < t 4 0 0 := Classical.byContradiction fun h => by rw [if_neg h] at c_2; omega
    refine z_iconst (z := 0) F dX7_workOf_9 (by decide) ?_
    refine z_goto F 14 dX7_workOf_10 (by decide) ?_
    refine z_callV F [.int (zI 0)] [] (c_X7_isFine F.2.2.1 G (s := s) (t := t) (o := o) (p := 0) ⟨by decide, by decide⟩) cv_X7_77 (zAll_16 s t o) rfl rfl rfl ⟨by decide, by decide⟩ ⟨by decide, by decide⟩ (Nat.le_of_ble_eq_true rfl) dX7_workOf_14 z_nx (z_ki (fun x_5 M_5 h_5 => ?_))
    have hx9 := (h_5).1.symm
    have hm9 := (h_5).2.symm
    subst hx9
    subst hm9
    refine z_ti (y := 1) (if_pos rfl) ?_
    refine z_if_eq F 28 dX7_workOf_17 (by decide) ⟨by decide, by decide⟩ (fun c_6 => ?_) (fun c_6 => ?_)
    · skip
      exact absurd c_6 (by decide)
    · skip
      refine z_aload_n F 0 dX7_workOf_20 rfl rfl ?_
      refine z_iload_n F 1 dX7_workOf_21 rfl rfl ?_
      refine z_ti (y := ((a.toNat : Nat) : Int)) (by omega) ?_
      refine z_callV F [.int (zI (((a.toNat : Nat) : Int)))] [] (c_X7_work F.2.2.1 G (s := s) (t := (zsu t 25 0 0 0)) (o := o) hc0 hb0 (a := a.toNat) (by omega)) cv_X7_94 (zAll_16 s (zsu t 25 0 0 0) o) rfl rfl rfl ⟨by decide, by decide⟩ ⟨by decide, by decide⟩ (Nat.le_of_ble_eq_true rfl) dX7_workOf_22 z_nx (z_ki (fun x_7 M_7 h_7 => ?_))
      have hx9 := (h_7).1.symm
      have hm9 := (h_7).2.symm
      subst hx9
      subst hm9
      refine z_ti (y := zWork t a.toNat) rfl ?_
      refine z_goto F 29 dX7_workOf_25 (by decide) ?_
      exact z_reti F rfl (by first | decide | assumption | omega) (by first | decide | assumption | omega) dX7_workOf_29 ⟨_, rfl, (by first | exact Or.inl ⟨hq9, rfl, rfl⟩ | exact Or.inr ⟨hq9, rfl, rfl⟩)⟩

abbrev rX7_skillsOf : Room := { frames := 2, cells := 0, slots := 0, locals := 43 }
set_option maxRecDepth 100000 in
set_option maxHeartbeats 4000000 in
theorem c_X7_skillsOf {l : Launch} (hfl : l.stackTraces = false) (G : zG) {s t : zS} {o : zOx} (hc : zC1 t) (hb9 : zB t) {a : Int} (ha : zR a)  : zCn l G yX7_skillsOf (.code yX7_skillsOf cX7_skillsOf 2 (some .int)) rX7_skillsOf [.ref 16, .int (zI a)] (zAll s t o) (zRi (fun xr M2 => ((0 ≤ a ∧ a < t 4 0 0) ∧ xr = zAsk t a.toNat ∧ M2 = zAll s (zsu t 25 0 0 0) o) ∨ (¬ (0 ≤ a ∧ a < t 4 0 0) ∧ xr = 0 ∧ M2 = zAll s (zsu t 25 0 0 1) o))) zN := by
  refine zStart hfl (by decide) (own := RX7) rfl [(0, .ref 16), (1, .int (zI a))] (Nat.le_of_ble_eq_true rfl) rfl (fun k hkl hinit hk0 F => ?_)
  have hn0 := hc.1
  have hn4 := hc.2.1
  have hn9 := hc.2.2.1
  have hn14 := hc.2.2.2.1
  have hn18 := hc.2.2.2.2.1
  have hc0 : zC1 (zsu t 25 0 0 0) := hc
  have hb0 : zB (zsu t 25 0 0 0) := zB_u hb9 (by omega)
  refine z_aload_n F 0 dX7_skillsOf_0 rfl rfl ?_
  refine z_aload_n F 0 dX7_skillsOf_1 rfl rfl ?_
  refine z_iload_n F 1 dX7_skillsOf_2 rfl rfl ?_
  refine z_callV F [.int (zI a)] [.ref 16] (c_X7_isService F.2.2.1 G (s := s) (t := t) (o := o) hc hb9 ha) cv_X7_84 (zAll_16 s t o) rfl rfl rfl ⟨by decide, by decide⟩ ⟨by decide, by decide⟩ (Nat.le_of_ble_eq_true rfl) dX7_skillsOf_3 z_nx (z_ki (fun x_1 M_1 h_1 => ?_))
  have hx9 := (h_1).1.symm
  have hm9 := (h_1).2.symm
  subst hx9
  subst hm9
  have hz : zR (if 0 ≤ a ∧ a < t 4 0 0 then 1 else 0) := zR_if
  refine z_if_eq F 13 dX7_skillsOf_6 (by decide) (by omega) (fun c_2 => ?_) (fun c_2 => ?_)
  · skip
    have hq9 : ¬ (0 ≤ a ∧ a < t 4 0 0) := fun h => by rw [if_pos h] at c_2; omega
    refine z_iconst (z := 1) F dX7_skillsOf_13 (by decide) ?_
    refine z_callV F [.int (zI 1)] [] (c_X7_isFine F.2.2.1 G (s := s) (t := t) (o := o) (p := 1) ⟨by decide, by decide⟩) cv_X7_77 (zAll_16 s t o) rfl rfl rfl ⟨by decide, by decide⟩ ⟨by decide, by decide⟩ (Nat.le_of_ble_eq_true rfl) dX7_skillsOf_14 z_nx (z_ki (fun x_3 M_3 h_3 => ?_))
    have hx9 := (h_3).1.symm
    have hm9 := (h_3).2.symm
    subst hx9
    subst hm9
    refine z_ti (y := 0) (if_neg (by decide)) ?_
    refine z_if_eq F 28 dX7_skillsOf_17 (by decide) ⟨by decide, by decide⟩ (fun c_4 => ?_) (fun c_4 => ?_)
    · skip
      refine z_iconst (z := 0) F dX7_skillsOf_28 (by decide) ?_
      exact z_reti F rfl (by first | decide | assumption | omega) (by first | decide | assumption | omega) dX7_skillsOf_29 ⟨_, rfl, (by first | exact Or.inl ⟨hq9, rfl, rfl⟩ | exact Or.inr ⟨hq9, rfl, rfl⟩)⟩
    · skip
      exact absurd rfl c_4
  · skip
    have hq9 : 0 ≤ a ∧ a < t 4 0 0 := Classical.byContradiction fun h => by rw [if_neg h] at c_2; omega
    refine z_iconst (z := 0) F dX7_skillsOf_9 (by decide) ?_
    refine z_goto F 14 dX7_skillsOf_10 (by decide) ?_
    refine z_callV F [.int (zI 0)] [] (c_X7_isFine F.2.2.1 G (s := s) (t := t) (o := o) (p := 0) ⟨by decide, by decide⟩) cv_X7_77 (zAll_16 s t o) rfl rfl rfl ⟨by decide, by decide⟩ ⟨by decide, by decide⟩ (Nat.le_of_ble_eq_true rfl) dX7_skillsOf_14 z_nx (z_ki (fun x_5 M_5 h_5 => ?_))
    have hx9 := (h_5).1.symm
    have hm9 := (h_5).2.symm
    subst hx9
    subst hm9
    refine z_ti (y := 1) (if_pos rfl) ?_
    refine z_if_eq F 28 dX7_skillsOf_17 (by decide) ⟨by decide, by decide⟩ (fun c_6 => ?_) (fun c_6 => ?_)
    · skip
      exact absurd c_6 (by decide)
    · skip
      refine z_aload_n F 0 dX7_skillsOf_20 rfl rfl ?_
      refine z_iload_n F 1 dX7_skillsOf_21 rfl rfl ?_
      refine z_ti (y := ((a.toNat : Nat) : Int)) (by omega) ?_
      refine z_callV F [.int (zI (((a.toNat : Nat) : Int)))] [] (c_X7_asked F.2.2.1 G (s := s) (t := (zsu t 25 0 0 0)) (o := o) hc0 hb0 (a := a.toNat) (by omega)) cv_X7_91 (zAll_16 s (zsu t 25 0 0 0) o) rfl rfl rfl ⟨by decide, by decide⟩ ⟨by decide, by decide⟩ (Nat.le_of_ble_eq_true rfl) dX7_skillsOf_22 z_nx (z_ki (fun x_7 M_7 h_7 => ?_))
      have hx9 := (h_7).1.symm
      have hm9 := (h_7).2.symm
      subst hx9
      subst hm9
      refine z_ti (y := zAsk t a.toNat) (by unfold zAsk; rw [(zSvc_cg (s := (zsu t 25 0 0 0)) (s' := t) (a := a.toNat) rfl rfl rfl).1, zAskN_cg (s := (zsu t 25 0 0 0)) (s' := t) rfl]) ?_
      refine z_goto F 29 dX7_skillsOf_25 (by decide) ?_
      exact z_reti F rfl (by first | decide | assumption | omega) (by first | decide | assumption | omega) dX7_skillsOf_29 ⟨_, rfl, (by first | exact Or.inl ⟨hq9, rfl, rfl⟩ | exact Or.inr ⟨hq9, rfl, rfl⟩)⟩

abbrev rX7_loadOf : Room := { frames := 2, cells := 0, slots := 0, locals := 46 }
set_option maxRecDepth 100000 in
set_option maxHeartbeats 4000000 in
theorem c_X7_loadOf {l : Launch} (hfl : l.stackTraces = false) (G : zG) {s t : zS} {o : zOx} (hc : zC1 t) (hb9 : zB t) {a : Int} (ha : zR a)  : zCn l G yX7_loadOf (.code yX7_loadOf cX7_loadOf 2 (some .int)) rX7_loadOf [.ref 16, .int (zI a)] (zAll s t o) (zRi (fun xr M2 => ((0 ≤ a ∧ a < t 0 0 0) ∧ xr = zLoad t a ∧ M2 = zAll s (zsu t 25 0 0 0) o) ∨ (¬ (0 ≤ a ∧ a < t 0 0 0) ∧ xr = 0 ∧ M2 = zAll s (zsu t 25 0 0 1) o))) zN := by
  refine zStart hfl (by decide) (own := RX7) rfl [(0, .ref 16), (1, .int (zI a))] (Nat.le_of_ble_eq_true rfl) rfl (fun k hkl hinit hk0 F => ?_)
  have hn0 := hc.1
  have hn4 := hc.2.1
  have hn9 := hc.2.2.1
  have hn14 := hc.2.2.2.1
  have hn18 := hc.2.2.2.2.1
  have hc0 : zC1 (zsu t 25 0 0 0) := hc
  have hb0 : zB (zsu t 25 0 0 0) := zB_u hb9 (by omega)
  refine z_aload_n F 0 dX7_loadOf_0 rfl rfl ?_
  refine z_aload_n F 0 dX7_loadOf_1 rfl rfl ?_
  refine z_iload_n F 1 dX7_loadOf_2 rfl rfl ?_
  refine z_callV F [.int (zI a)] [.ref 16] (c_X7_isStaff F.2.2.1 G (s := s) (t := t) (o := o) hc hb9 ha) cv_X7_133 (zAll_16 s t o) rfl rfl rfl ⟨by decide, by decide⟩ ⟨by decide, by decide⟩ (Nat.le_of_ble_eq_true rfl) dX7_loadOf_3 z_nx (z_ki (fun x_1 M_1 h_1 => ?_))
  have hx9 := (h_1).1.symm
  have hm9 := (h_1).2.symm
  subst hx9
  subst hm9
  have hz : zR (if 0 ≤ a ∧ a < t 0 0 0 then 1 else 0) := zR_if
  refine z_if_eq F 13 dX7_loadOf_6 (by decide) (by omega) (fun c_2 => ?_) (fun c_2 => ?_)
  · skip
    have hq9 : ¬ (0 ≤ a ∧ a < t 0 0 0) := fun h => by rw [if_pos h] at c_2; omega
    refine z_iconst (z := 1) F dX7_loadOf_13 (by decide) ?_
    refine z_callV F [.int (zI 1)] [] (c_X7_isFine F.2.2.1 G (s := s) (t := t) (o := o) (p := 1) ⟨by decide, by decide⟩) cv_X7_77 (zAll_16 s t o) rfl rfl rfl ⟨by decide, by decide⟩ ⟨by decide, by decide⟩ (Nat.le_of_ble_eq_true rfl) dX7_loadOf_14 z_nx (z_ki (fun x_3 M_3 h_3 => ?_))
    have hx9 := (h_3).1.symm
    have hm9 := (h_3).2.symm
    subst hx9
    subst hm9
    refine z_ti (y := 0) (if_neg (by decide)) ?_
    refine z_if_eq F 28 dX7_loadOf_17 (by decide) ⟨by decide, by decide⟩ (fun c_4 => ?_) (fun c_4 => ?_)
    · skip
      refine z_iconst (z := 0) F dX7_loadOf_28 (by decide) ?_
      exact z_reti F rfl (by first | decide | assumption | omega) (by first | decide | assumption | omega) dX7_loadOf_29 ⟨_, rfl, (by first | exact Or.inl ⟨hq9, rfl, rfl⟩ | exact Or.inr ⟨hq9, rfl, rfl⟩)⟩
    · skip
      exact absurd rfl c_4
  · skip
    have hq9 : 0 ≤ a ∧ a < t 0 0 0 := Classical.byContradiction fun h => by rw [if_neg h] at c_2; omega
    refine z_iconst (z := 0) F dX7_loadOf_9 (by decide) ?_
    refine z_goto F 14 dX7_loadOf_10 (by decide) ?_
    refine z_callV F [.int (zI 0)] [] (c_X7_isFine F.2.2.1 G (s := s) (t := t) (o := o) (p := 0) ⟨by decide, by decide⟩) cv_X7_77 (zAll_16 s t o) rfl rfl rfl ⟨by decide, by decide⟩ ⟨by decide, by decide⟩ (Nat.le_of_ble_eq_true rfl) dX7_loadOf_14 z_nx (z_ki (fun x_5 M_5 h_5 => ?_))
    have hx9 := (h_5).1.symm
    have hm9 := (h_5).2.symm
    subst hx9
    subst hm9
    refine z_ti (y := 1) (if_pos rfl) ?_
    refine z_if_eq F 28 dX7_loadOf_17 (by decide) ⟨by decide, by decide⟩ (fun c_6 => ?_) (fun c_6 => ?_)
    · skip
      exact absurd c_6 (by decide)
    · skip
      refine z_aload_n F 0 dX7_loadOf_20 rfl rfl ?_
      refine z_iload_n F 1 dX7_loadOf_21 rfl rfl ?_
      refine z_callV F [.int (zI a)] [] (c_X7_load F.2.2.1 G (s := s) (t := (zsu t 25 0 0 0)) (o := o) hc0 hb0 ha) cv_X7_100 (zAll_16 s (zsu t 25 0 0 0) o) rfl rfl rfl ⟨by decide, by decide⟩ ⟨by decide, by decide⟩ (Nat.le_of_ble_eq_true rfl) dX7_loadOf_22 z_nx (z_ki (fun x_7 M_7 h_7 => ?_))
      have hx9 := (h_7).1.symm
      have hm9 := (h_7).2.symm
      subst hx9
      subst hm9
      refine z_ti (y := zLoad t a) rfl ?_
      refine z_goto F 29 dX7_loadOf_25 (by decide) ?_
      exact z_reti F rfl (by first | decide | assumption | omega) (by first | decide | assumption | omega) dX7_loadOf_29 ⟨_, rfl, (by first | exact Or.inl ⟨hq9, rfl, rfl⟩ | exact Or.inr ⟨hq9, rfl, rfl⟩)⟩

abbrev rX7_startOf : Room := { frames := 2, cells := 0, slots := 0, locals := 43 }
set_option maxRecDepth 100000 in
set_option maxHeartbeats 4000000 in
theorem c_X7_startOf {l : Launch} (hfl : l.stackTraces = false) (G : zG) {s t : zS} {o : zOx} (hc : zC1 t) (hb9 : zB t) {a : Int} (ha : zR a)  : zCn l G yX7_startOf (.code yX7_startOf cX7_startOf 2 (some .int)) rX7_startOf [.ref 16, .int (zI a)] (zAll s t o) (zRi (fun xr M2 => ((0 ≤ a ∧ a < t 9 0 0) ∧ xr = t 13 a.toNat 0 ∧ M2 = zAll s (zsu t 25 0 0 0) o) ∨ (¬ (0 ≤ a ∧ a < t 9 0 0) ∧ xr = 0 ∧ M2 = zAll s (zsu t 25 0 0 1) o))) zN := by
  refine zStart hfl (by decide) (own := RX7) rfl [(0, .ref 16), (1, .int (zI a))] (Nat.le_of_ble_eq_true rfl) rfl (fun k hkl hinit hk0 F => ?_)
  have hn0 := hc.1
  have hn4 := hc.2.1
  have hn9 := hc.2.2.1
  have hn14 := hc.2.2.2.1
  have hn18 := hc.2.2.2.2.1
  have hc0 : zC1 (zsu t 25 0 0 0) := hc
  have hb0 : zB (zsu t 25 0 0 0) := zB_u hb9 (by omega)
  refine z_aload_n F 0 dX7_startOf_0 rfl rfl ?_
  refine z_aload_n F 0 dX7_startOf_1 rfl rfl ?_
  refine z_iload_n F 1 dX7_startOf_2 rfl rfl ?_
  refine z_callV F [.int (zI a)] [.ref 16] (c_X7_isVisit F.2.2.1 G (s := s) (t := t) (o := o) hc hb9 ha) cv_X7_73 (zAll_16 s t o) rfl rfl rfl ⟨by decide, by decide⟩ ⟨by decide, by decide⟩ (Nat.le_of_ble_eq_true rfl) dX7_startOf_3 z_nx (z_ki (fun x_1 M_1 h_1 => ?_))
  have hx9 := (h_1).1.symm
  have hm9 := (h_1).2.symm
  subst hx9
  subst hm9
  have hz : zR (if 0 ≤ a ∧ a < t 9 0 0 then 1 else 0) := zR_if
  refine z_if_eq F 13 dX7_startOf_6 (by decide) (by omega) (fun c_2 => ?_) (fun c_2 => ?_)
  · skip
    have hq9 : ¬ (0 ≤ a ∧ a < t 9 0 0) := fun h => by rw [if_pos h] at c_2; omega
    refine z_iconst (z := 1) F dX7_startOf_13 (by decide) ?_
    refine z_callV F [.int (zI 1)] [] (c_X7_isFine F.2.2.1 G (s := s) (t := t) (o := o) (p := 1) ⟨by decide, by decide⟩) cv_X7_77 (zAll_16 s t o) rfl rfl rfl ⟨by decide, by decide⟩ ⟨by decide, by decide⟩ (Nat.le_of_ble_eq_true rfl) dX7_startOf_14 z_nx (z_ki (fun x_3 M_3 h_3 => ?_))
    have hx9 := (h_3).1.symm
    have hm9 := (h_3).2.symm
    subst hx9
    subst hm9
    refine z_ti (y := 0) (if_neg (by decide)) ?_
    refine z_if_eq F 29 dX7_startOf_17 (by decide) ⟨by decide, by decide⟩ (fun c_4 => ?_) (fun c_4 => ?_)
    · skip
      refine z_iconst (z := 0) F dX7_startOf_29 (by decide) ?_
      exact z_reti F rfl (by first | decide | assumption | omega) (by first | decide | assumption | omega) dX7_startOf_30 ⟨_, rfl, (by first | exact Or.inl ⟨hq9, rfl, rfl⟩ | exact Or.inr ⟨hq9, rfl, rfl⟩)⟩
    · skip
      exact absurd rfl c_4
  · skip
    have hq9 : 0 ≤ a ∧ a < t 9 0 0 := Classical.byContradiction fun h => by rw [if_neg h] at c_2; omega
    refine z_iconst (z := 0) F dX7_startOf_9 (by decide) ?_
    refine z_goto F 14 dX7_startOf_10 (by decide) ?_
    refine z_callV F [.int (zI 0)] [] (c_X7_isFine F.2.2.1 G (s := s) (t := t) (o := o) (p := 0) ⟨by decide, by decide⟩) cv_X7_77 (zAll_16 s t o) rfl rfl rfl ⟨by decide, by decide⟩ ⟨by decide, by decide⟩ (Nat.le_of_ble_eq_true rfl) dX7_startOf_14 z_nx (z_ki (fun x_5 M_5 h_5 => ?_))
    have hx9 := (h_5).1.symm
    have hm9 := (h_5).2.symm
    subst hx9
    subst hm9
    refine z_ti (y := 1) (if_pos rfl) ?_
    refine z_if_eq F 29 dX7_startOf_17 (by decide) ⟨by decide, by decide⟩ (fun c_6 => ?_) (fun c_6 => ?_)
    · skip
      exact absurd c_6 (by decide)
    · skip
      refine z_aload_n F 0 dX7_startOf_20 rfl rfl ?_
      refine z_get F fl_X7_41 (zAll_16 s (zsu t 25 0 0 0) o) rfl dX7_startOf_21 ?_
      refine z_iload_n F 1 dX7_startOf_24 rfl rfl ?_
      refine z_iald F (zAll_27 s (zsu t 25 0 0 0) o) (by omega) (by omega) (by decide) dX7_startOf_25 ?_
      refine z_ti (y := t 13 a.toNat 0) rfl ?_
      refine z_goto F 30 dX7_startOf_26 (by decide) ?_
      exact z_reti F rfl (by first | decide | assumption | omega) (by first | decide | assumption | omega) dX7_startOf_30 ⟨_, rfl, (by first | exact Or.inl ⟨hq9, rfl, rfl⟩ | exact Or.inr ⟨hq9, rfl, rfl⟩)⟩

abbrev rX7_serviceOf : Room := { frames := 2, cells := 0, slots := 0, locals := 43 }
set_option maxRecDepth 100000 in
set_option maxHeartbeats 4000000 in
theorem c_X7_serviceOf {l : Launch} (hfl : l.stackTraces = false) (G : zG) {s t : zS} {o : zOx} (hc : zC1 t) (hb9 : zB t) {a : Int} (ha : zR a)  : zCn l G yX7_serviceOf (.code yX7_serviceOf cX7_serviceOf 2 (some .int)) rX7_serviceOf [.ref 16, .int (zI a)] (zAll s t o) (zRi (fun xr M2 => ((0 ≤ a ∧ a < t 9 0 0) ∧ xr = t 10 a.toNat 0 ∧ M2 = zAll s (zsu t 25 0 0 0) o) ∨ (¬ (0 ≤ a ∧ a < t 9 0 0) ∧ xr = 0 ∧ M2 = zAll s (zsu t 25 0 0 1) o))) zN := by
  refine zStart hfl (by decide) (own := RX7) rfl [(0, .ref 16), (1, .int (zI a))] (Nat.le_of_ble_eq_true rfl) rfl (fun k hkl hinit hk0 F => ?_)
  have hn0 := hc.1
  have hn4 := hc.2.1
  have hn9 := hc.2.2.1
  have hn14 := hc.2.2.2.1
  have hn18 := hc.2.2.2.2.1
  have hc0 : zC1 (zsu t 25 0 0 0) := hc
  have hb0 : zB (zsu t 25 0 0 0) := zB_u hb9 (by omega)
  refine z_aload_n F 0 dX7_serviceOf_0 rfl rfl ?_
  refine z_aload_n F 0 dX7_serviceOf_1 rfl rfl ?_
  refine z_iload_n F 1 dX7_serviceOf_2 rfl rfl ?_
  refine z_callV F [.int (zI a)] [.ref 16] (c_X7_isVisit F.2.2.1 G (s := s) (t := t) (o := o) hc hb9 ha) cv_X7_73 (zAll_16 s t o) rfl rfl rfl ⟨by decide, by decide⟩ ⟨by decide, by decide⟩ (Nat.le_of_ble_eq_true rfl) dX7_serviceOf_3 z_nx (z_ki (fun x_1 M_1 h_1 => ?_))
  have hx9 := (h_1).1.symm
  have hm9 := (h_1).2.symm
  subst hx9
  subst hm9
  have hz : zR (if 0 ≤ a ∧ a < t 9 0 0 then 1 else 0) := zR_if
  refine z_if_eq F 13 dX7_serviceOf_6 (by decide) (by omega) (fun c_2 => ?_) (fun c_2 => ?_)
  · skip
    have hq9 : ¬ (0 ≤ a ∧ a < t 9 0 0) := fun h => by rw [if_pos h] at c_2; omega
    refine z_iconst (z := 1) F dX7_serviceOf_13 (by decide) ?_
    refine z_callV F [.int (zI 1)] [] (c_X7_isFine F.2.2.1 G (s := s) (t := t) (o := o) (p := 1) ⟨by decide, by decide⟩) cv_X7_77 (zAll_16 s t o) rfl rfl rfl ⟨by decide, by decide⟩ ⟨by decide, by decide⟩ (Nat.le_of_ble_eq_true rfl) dX7_serviceOf_14 z_nx (z_ki (fun x_3 M_3 h_3 => ?_))
    have hx9 := (h_3).1.symm
    have hm9 := (h_3).2.symm
    subst hx9
    subst hm9
    refine z_ti (y := 0) (if_neg (by decide)) ?_
    refine z_if_eq F 29 dX7_serviceOf_17 (by decide) ⟨by decide, by decide⟩ (fun c_4 => ?_) (fun c_4 => ?_)
    · skip
      refine z_iconst (z := 0) F dX7_serviceOf_29 (by decide) ?_
      exact z_reti F rfl (by first | decide | assumption | omega) (by first | decide | assumption | omega) dX7_serviceOf_30 ⟨_, rfl, (by first | exact Or.inl ⟨hq9, rfl, rfl⟩ | exact Or.inr ⟨hq9, rfl, rfl⟩)⟩
    · skip
      exact absurd rfl c_4
  · skip
    have hq9 : 0 ≤ a ∧ a < t 9 0 0 := Classical.byContradiction fun h => by rw [if_neg h] at c_2; omega
    refine z_iconst (z := 0) F dX7_serviceOf_9 (by decide) ?_
    refine z_goto F 14 dX7_serviceOf_10 (by decide) ?_
    refine z_callV F [.int (zI 0)] [] (c_X7_isFine F.2.2.1 G (s := s) (t := t) (o := o) (p := 0) ⟨by decide, by decide⟩) cv_X7_77 (zAll_16 s t o) rfl rfl rfl ⟨by decide, by decide⟩ ⟨by decide, by decide⟩ (Nat.le_of_ble_eq_true rfl) dX7_serviceOf_14 z_nx (z_ki (fun x_5 M_5 h_5 => ?_))
    have hx9 := (h_5).1.symm
    have hm9 := (h_5).2.symm
    subst hx9
    subst hm9
    refine z_ti (y := 1) (if_pos rfl) ?_
    refine z_if_eq F 29 dX7_serviceOf_17 (by decide) ⟨by decide, by decide⟩ (fun c_6 => ?_) (fun c_6 => ?_)
    · skip
      exact absurd c_6 (by decide)
    · skip
      refine z_aload_n F 0 dX7_serviceOf_20 rfl rfl ?_
      refine z_get F fl_X7_32 (zAll_16 s (zsu t 25 0 0 0) o) rfl dX7_serviceOf_21 ?_
      refine z_iload_n F 1 dX7_serviceOf_24 rfl rfl ?_
      refine z_iald F (zAll_24 s (zsu t 25 0 0 0) o) (by omega) (by omega) (by decide) dX7_serviceOf_25 ?_
      refine z_ti (y := t 10 a.toNat 0) rfl ?_
      refine z_goto F 30 dX7_serviceOf_26 (by decide) ?_
      exact z_reti F rfl (by first | decide | assumption | omega) (by first | decide | assumption | omega) dX7_serviceOf_30 ⟨_, rfl, (by first | exact Or.inl ⟨hq9, rfl, rfl⟩ | exact Or.inr ⟨hq9, rfl, rfl⟩)⟩

abbrev rX7_staffOf : Room := { frames := 2, cells := 0, slots := 0, locals := 43 }
set_option maxRecDepth 100000 in
set_option maxHeartbeats 4000000 in
theorem c_X7_staffOf {l : Launch} (hfl : l.stackTraces = false) (G : zG) {s t : zS} {o : zOx} (hc : zC1 t) (hb9 : zB t) {a : Int} (ha : zR a)  : zCn l G yX7_staffOf (.code yX7_staffOf cX7_staffOf 2 (some .int)) rX7_staffOf [.ref 16, .int (zI a)] (zAll s t o) (zRi (fun xr M2 => ((0 ≤ a ∧ a < t 9 0 0) ∧ xr = (if t 13 a.toNat 0 = -1 then -1 else t 11 a.toNat 0) ∧ M2 = zAll s (zsu t 25 0 0 0) o) ∨ (¬ (0 ≤ a ∧ a < t 9 0 0) ∧ xr = 0 ∧ M2 = zAll s (zsu t 25 0 0 1) o))) zN := by
  refine zStart hfl (by decide) (own := RX7) rfl [(0, .ref 16), (1, .int (zI a))] (Nat.le_of_ble_eq_true rfl) rfl (fun k hkl hinit hk0 F => ?_)
  have hn0 := hc.1
  have hn4 := hc.2.1
  have hn9 := hc.2.2.1
  have hn14 := hc.2.2.2.1
  have hn18 := hc.2.2.2.2.1
  have hc0 : zC1 (zsu t 25 0 0 0) := hc
  have hb0 : zB (zsu t 25 0 0 0) := zB_u hb9 (by omega)
  have hb13 := hb9 13 a.toNat 0
  refine z_aload_n F 0 dX7_staffOf_0 rfl rfl ?_
  refine z_aload_n F 0 dX7_staffOf_1 rfl rfl ?_
  refine z_iload_n F 1 dX7_staffOf_2 rfl rfl ?_
  refine z_callV F [.int (zI a)] [.ref 16] (c_X7_isVisit F.2.2.1 G (s := s) (t := t) (o := o) hc hb9 ha) cv_X7_73 (zAll_16 s t o) rfl rfl rfl ⟨by decide, by decide⟩ ⟨by decide, by decide⟩ (Nat.le_of_ble_eq_true rfl) dX7_staffOf_3 z_nx (z_ki (fun x_1 M_1 h_1 => ?_))
  have hx9 := (h_1).1.symm
  have hm9 := (h_1).2.symm
  subst hx9
  subst hm9
  have hz : zR (if 0 ≤ a ∧ a < t 9 0 0 then 1 else 0) := zR_if
  refine z_if_eq F 13 dX7_staffOf_6 (by decide) (by omega) (fun c_2 => ?_) (fun c_2 => ?_)
  · skip
    have hq9 : ¬ (0 ≤ a ∧ a < t 9 0 0) := fun h => by rw [if_pos h] at c_2; omega
    refine z_iconst (z := 1) F dX7_staffOf_13 (by decide) ?_
    refine z_callV F [.int (zI 1)] [] (c_X7_isFine F.2.2.1 G (s := s) (t := t) (o := o) (p := 1) ⟨by decide, by decide⟩) cv_X7_77 (zAll_16 s t o) rfl rfl rfl ⟨by decide, by decide⟩ ⟨by decide, by decide⟩ (Nat.le_of_ble_eq_true rfl) dX7_staffOf_14 z_nx (z_ki (fun x_3 M_3 h_3 => ?_))
    have hx9 := (h_3).1.symm
    have hm9 := (h_3).2.symm
    subst hx9
    subst hm9
    refine z_ti (y := 0) (if_neg (by decide)) ?_
    refine z_if_ne F 24 dX7_staffOf_17 (by decide) ⟨by decide, by decide⟩ (fun c_4 => ?_) (fun c_4 => ?_)
    · skip
      omega
    · skip
      refine z_iconst (z := 0) F dX7_staffOf_20 (by decide) ?_
      refine z_goto F 44 dX7_staffOf_21 (by decide) ?_
      exact z_reti F rfl (by first | decide | assumption | omega) (by first | decide | assumption | omega) dX7_staffOf_44 ⟨_, rfl, (by first | exact Or.inr ⟨hq9, rfl, rfl⟩ | exact Or.inl ⟨hq9, (if_pos hk9).symm, rfl⟩ | exact Or.inl ⟨hq9, (if_neg hk9).symm, rfl⟩)⟩
  · skip
    have hq9 : 0 ≤ a ∧ a < t 9 0 0 := Classical.byContradiction fun h => by rw [if_neg h] at c_2; omega
    refine z_iconst (z := 0) F dX7_staffOf_9 (by decide) ?_
    refine z_goto F 14 dX7_staffOf_10 (by decide) ?_
    refine z_callV F [.int (zI 0)] [] (c_X7_isFine F.2.2.1 G (s := s) (t := t) (o := o) (p := 0) ⟨by decide, by decide⟩) cv_X7_77 (zAll_16 s t o) rfl rfl rfl ⟨by decide, by decide⟩ ⟨by decide, by decide⟩ (Nat.le_of_ble_eq_true rfl) dX7_staffOf_14 z_nx (z_ki (fun x_5 M_5 h_5 => ?_))
    have hx9 := (h_5).1.symm
    have hm9 := (h_5).2.symm
    subst hx9
    subst hm9
    refine z_ti (y := 1) (if_pos rfl) ?_
    refine z_if_ne F 24 dX7_staffOf_17 (by decide) ⟨by decide, by decide⟩ (fun c_6 => ?_) (fun c_6 => ?_)
    · skip
      refine z_aload_n F 0 dX7_staffOf_24 rfl rfl ?_
      refine z_get F fl_X7_41 (zAll_16 s (zsu t 25 0 0 0) o) rfl dX7_staffOf_25 ?_
      refine z_iload_n F 1 dX7_staffOf_28 rfl rfl ?_
      refine z_iald F (zAll_27 s (zsu t 25 0 0 0) o) (by omega) (by omega) (by decide) dX7_staffOf_29 ?_
      refine z_ti (y := t 13 a.toNat 0) rfl ?_
      refine z_iconst (z := -1) F dX7_staffOf_30 (by decide) ?_
      refine z_icmp_ne F 38 dX7_staffOf_31 (by decide) (by omega) ⟨by decide, by decide⟩ (fun c_7 => ?_) (fun c_7 => ?_)
      · skip
        have hk9 : ¬ t 13 a.toNat 0 = -1 := by omega
        refine z_aload_n F 0 dX7_staffOf_38 rfl rfl ?_
        refine z_get F fl_X7_35 (zAll_16 s (zsu t 25 0 0 0) o) rfl dX7_staffOf_39 ?_
        refine z_iload_n F 1 dX7_staffOf_42 rfl rfl ?_
        refine z_iald F (zAll_25 s (zsu t 25 0 0 0) o) (by omega) (by omega) (by decide) dX7_staffOf_43 ?_
        refine z_ti (y := t 11 a.toNat 0) rfl ?_
        exact z_reti F rfl (by first | decide | assumption | omega) (by first | decide | assumption | omega) dX7_staffOf_44 ⟨_, rfl, (by first | exact Or.inr ⟨hq9, rfl, rfl⟩ | exact Or.inl ⟨hq9, (if_pos hk9).symm, rfl⟩ | exact Or.inl ⟨hq9, (if_neg hk9).symm, rfl⟩)⟩
      · skip
        have hk9 : t 13 a.toNat 0 = -1 := by omega
        refine z_iconst (z := -1) F dX7_staffOf_34 (by decide) ?_
        refine z_goto F 44 dX7_staffOf_35 (by decide) ?_
        exact z_reti F rfl (by first | decide | assumption | omega) (by first | decide | assumption | omega) dX7_staffOf_44 ⟨_, rfl, (by first | exact Or.inr ⟨hq9, rfl, rfl⟩ | exact Or.inl ⟨hq9, (if_pos hk9).symm, rfl⟩ | exact Or.inl ⟨hq9, (if_neg hk9).symm, rfl⟩)⟩
    · skip
      omega

abbrev rX7_chairOf : Room := { frames := 2, cells := 0, slots := 0, locals := 43 }
set_option maxRecDepth 100000 in
set_option maxHeartbeats 4000000 in
theorem c_X7_chairOf {l : Launch} (hfl : l.stackTraces = false) (G : zG) {s t : zS} {o : zOx} (hc : zC1 t) (hb9 : zB t) {a : Int} (ha : zR a)  : zCn l G yX7_chairOf (.code yX7_chairOf cX7_chairOf 2 (some .int)) rX7_chairOf [.ref 16, .int (zI a)] (zAll s t o) (zRi (fun xr M2 => ((0 ≤ a ∧ a < t 9 0 0) ∧ xr = (if t 13 a.toNat 0 = -1 then -1 else t 12 a.toNat 0) ∧ M2 = zAll s (zsu t 25 0 0 0) o) ∨ (¬ (0 ≤ a ∧ a < t 9 0 0) ∧ xr = 0 ∧ M2 = zAll s (zsu t 25 0 0 1) o))) zN := by
  refine zStart hfl (by decide) (own := RX7) rfl [(0, .ref 16), (1, .int (zI a))] (Nat.le_of_ble_eq_true rfl) rfl (fun k hkl hinit hk0 F => ?_)
  have hn0 := hc.1
  have hn4 := hc.2.1
  have hn9 := hc.2.2.1
  have hn14 := hc.2.2.2.1
  have hn18 := hc.2.2.2.2.1
  have hc0 : zC1 (zsu t 25 0 0 0) := hc
  have hb0 : zB (zsu t 25 0 0 0) := zB_u hb9 (by omega)
  have hb13 := hb9 13 a.toNat 0
  refine z_aload_n F 0 dX7_chairOf_0 rfl rfl ?_
  refine z_aload_n F 0 dX7_chairOf_1 rfl rfl ?_
  refine z_iload_n F 1 dX7_chairOf_2 rfl rfl ?_
  refine z_callV F [.int (zI a)] [.ref 16] (c_X7_isVisit F.2.2.1 G (s := s) (t := t) (o := o) hc hb9 ha) cv_X7_73 (zAll_16 s t o) rfl rfl rfl ⟨by decide, by decide⟩ ⟨by decide, by decide⟩ (Nat.le_of_ble_eq_true rfl) dX7_chairOf_3 z_nx (z_ki (fun x_1 M_1 h_1 => ?_))
  have hx9 := (h_1).1.symm
  have hm9 := (h_1).2.symm
  subst hx9
  subst hm9
  have hz : zR (if 0 ≤ a ∧ a < t 9 0 0 then 1 else 0) := zR_if
  refine z_if_eq F 13 dX7_chairOf_6 (by decide) (by omega) (fun c_2 => ?_) (fun c_2 => ?_)
  · skip
    have hq9 : ¬ (0 ≤ a ∧ a < t 9 0 0) := fun h => by rw [if_pos h] at c_2; omega
    refine z_iconst (z := 1) F dX7_chairOf_13 (by decide) ?_
    refine z_callV F [.int (zI 1)] [] (c_X7_isFine F.2.2.1 G (s := s) (t := t) (o := o) (p := 1) ⟨by decide, by decide⟩) cv_X7_77 (zAll_16 s t o) rfl rfl rfl ⟨by decide, by decide⟩ ⟨by decide, by decide⟩ (Nat.le_of_ble_eq_true rfl) dX7_chairOf_14 z_nx (z_ki (fun x_3 M_3 h_3 => ?_))
    have hx9 := (h_3).1.symm
    have hm9 := (h_3).2.symm
    subst hx9
    subst hm9
    refine z_ti (y := 0) (if_neg (by decide)) ?_
    refine z_if_ne F 24 dX7_chairOf_17 (by decide) ⟨by decide, by decide⟩ (fun c_4 => ?_) (fun c_4 => ?_)
    · skip
      omega
    · skip
      refine z_iconst (z := 0) F dX7_chairOf_20 (by decide) ?_
      refine z_goto F 44 dX7_chairOf_21 (by decide) ?_
      exact z_reti F rfl (by first | decide | assumption | omega) (by first | decide | assumption | omega) dX7_chairOf_44 ⟨_, rfl, (by first | exact Or.inr ⟨hq9, rfl, rfl⟩ | exact Or.inl ⟨hq9, (if_pos hk9).symm, rfl⟩ | exact Or.inl ⟨hq9, (if_neg hk9).symm, rfl⟩)⟩
  · skip
    have hq9 : 0 ≤ a ∧ a < t 9 0 0 := Classical.byContradiction fun h => by rw [if_neg h] at c_2; omega
    refine z_iconst (z := 0) F dX7_chairOf_9 (by decide) ?_
    refine z_goto F 14 dX7_chairOf_10 (by decide) ?_
    refine z_callV F [.int (zI 0)] [] (c_X7_isFine F.2.2.1 G (s := s) (t := t) (o := o) (p := 0) ⟨by decide, by decide⟩) cv_X7_77 (zAll_16 s t o) rfl rfl rfl ⟨by decide, by decide⟩ ⟨by decide, by decide⟩ (Nat.le_of_ble_eq_true rfl) dX7_chairOf_14 z_nx (z_ki (fun x_5 M_5 h_5 => ?_))
    have hx9 := (h_5).1.symm
    have hm9 := (h_5).2.symm
    subst hx9
    subst hm9
    refine z_ti (y := 1) (if_pos rfl) ?_
    refine z_if_ne F 24 dX7_chairOf_17 (by decide) ⟨by decide, by decide⟩ (fun c_6 => ?_) (fun c_6 => ?_)
    · skip
      refine z_aload_n F 0 dX7_chairOf_24 rfl rfl ?_
      refine z_get F fl_X7_41 (zAll_16 s (zsu t 25 0 0 0) o) rfl dX7_chairOf_25 ?_
      refine z_iload_n F 1 dX7_chairOf_28 rfl rfl ?_
      refine z_iald F (zAll_27 s (zsu t 25 0 0 0) o) (by omega) (by omega) (by decide) dX7_chairOf_29 ?_
      refine z_ti (y := t 13 a.toNat 0) rfl ?_
      refine z_iconst (z := -1) F dX7_chairOf_30 (by decide) ?_
      refine z_icmp_ne F 38 dX7_chairOf_31 (by decide) (by omega) ⟨by decide, by decide⟩ (fun c_7 => ?_) (fun c_7 => ?_)
      · skip
        have hk9 : ¬ t 13 a.toNat 0 = -1 := by omega
        refine z_aload_n F 0 dX7_chairOf_38 rfl rfl ?_
        refine z_get F fl_X7_38 (zAll_16 s (zsu t 25 0 0 0) o) rfl dX7_chairOf_39 ?_
        refine z_iload_n F 1 dX7_chairOf_42 rfl rfl ?_
        refine z_iald F (zAll_26 s (zsu t 25 0 0 0) o) (by omega) (by omega) (by decide) dX7_chairOf_43 ?_
        refine z_ti (y := t 12 a.toNat 0) rfl ?_
        exact z_reti F rfl (by first | decide | assumption | omega) (by first | decide | assumption | omega) dX7_chairOf_44 ⟨_, rfl, (by first | exact Or.inr ⟨hq9, rfl, rfl⟩ | exact Or.inl ⟨hq9, (if_pos hk9).symm, rfl⟩ | exact Or.inl ⟨hq9, (if_neg hk9).symm, rfl⟩)⟩
      · skip
        have hk9 : t 13 a.toNat 0 = -1 := by omega
        refine z_iconst (z := -1) F dX7_chairOf_34 (by decide) ?_
        refine z_goto F 44 dX7_chairOf_35 (by decide) ?_
        exact z_reti F rfl (by first | decide | assumption | omega) (by first | decide | assumption | omega) dX7_chairOf_44 ⟨_, rfl, (by first | exact Or.inr ⟨hq9, rfl, rfl⟩ | exact Or.inl ⟨hq9, (if_pos hk9).symm, rfl⟩ | exact Or.inl ⟨hq9, (if_neg hk9).symm, rfl⟩)⟩
    · skip
      omega

abbrev rX7_requests : Room := { frames := 0, cells := 0, slots := 0, locals := 0 }
set_option maxRecDepth 100000 in
set_option maxHeartbeats 4000000 in
theorem c_X7_requests {l : Launch} (hfl : l.stackTraces = false) (G : zG) {s t : zS} {o : zOx} (hc : zC1 t) (hb9 : zB t)   : zCn l G yX7_requests (.code yX7_requests cX7_requests 1 (some .int)) rX7_requests [.ref 16] (zAll s t o) (zRi (fun xr M2 => xr = t 14 0 0 ∧ M2 = zAll s (zsu t 25 0 0 0) o)) zN := by
  refine zStart hfl (by decide) (own := RX7) rfl [(0, .ref 16)] (Nat.le_of_ble_eq_true rfl) rfl (fun k hkl hinit hk0 F => ?_)
  have hn0 := hc.1
  have hn4 := hc.2.1
  have hn9 := hc.2.2.1
  have hn14 := hc.2.2.2.1
  have hn18 := hc.2.2.2.2.1
  refine z_aload_n F 0 dX7_requests_0 rfl rfl ?_
  refine z_iconst (z := 0) F dX7_requests_1 (by decide) ?_
  refine z_put (ty := .int) F [.ref 17, .ref 18, .ref 19, .int (zI (t 0 0 0)), .ref 20, .ref 21, .ref 22, .ref 23, .int (zI (t 4 0 0)), .ref 24, .ref 25, .ref 26, .ref 27, .int (zI (t 9 0 0)), .ref 28, .ref 29, .ref 30, .ref 31, .int (zI (t 14 0 0)), .int (zI (t 23 0 0)), .int (zI (t 24 0 0)), .int (zI 0)] fl_X7_56 tyX7 tyX7_ok nmX7 rfl (by decide +kernel) rfl rfl (zAll_16 s t o) (Nat.le_of_ble_eq_true rfl) rfl dX7_requests_2 ?_
  have hm_1_s := zu_s (zAll s t o) 16 (zOb 8 [.ref 17, .ref 18, .ref 19, .int (zI (t 0 0 0)), .ref 20, .ref 21, .ref 22, .ref 23, .int (zI (t 4 0 0)), .ref 24, .ref 25, .ref 26, .ref 27, .int (zI (t 9 0 0)), .ref 28, .ref 29, .ref 30, .ref 31, .int (zI (t 14 0 0)), .int (zI (t 23 0 0)), .int (zI (t 24 0 0)), .int (zI 0)])
  refine z_M (M' := (zAll s (zsu t 25 0 0 0) o)) zMH_25 ?_
  refine z_aload_n F 0 dX7_requests_5 rfl rfl ?_
  refine z_get F fl_X7_136 (zAll_16 s (zsu t 25 0 0 0) o) rfl dX7_requests_6 ?_
  exact z_reti F rfl (by first | decide | assumption | omega) (by first | decide | assumption | omega) dX7_requests_9 ⟨_, rfl, rfl, rfl⟩

abbrev rX7_visits : Room := { frames := 0, cells := 0, slots := 0, locals := 0 }
set_option maxRecDepth 100000 in
set_option maxHeartbeats 4000000 in
theorem c_X7_visits {l : Launch} (hfl : l.stackTraces = false) (G : zG) {s t : zS} {o : zOx} (hc : zC1 t) (hb9 : zB t)   : zCn l G yX7_visits (.code yX7_visits cX7_visits 1 (some .int)) rX7_visits [.ref 16] (zAll s t o) (zRi (fun xr M2 => xr = t 9 0 0 ∧ M2 = zAll s (zsu t 25 0 0 0) o)) zN := by
  refine zStart hfl (by decide) (own := RX7) rfl [(0, .ref 16)] (Nat.le_of_ble_eq_true rfl) rfl (fun k hkl hinit hk0 F => ?_)
  have hn0 := hc.1
  have hn4 := hc.2.1
  have hn9 := hc.2.2.1
  have hn14 := hc.2.2.2.1
  have hn18 := hc.2.2.2.2.1
  refine z_aload_n F 0 dX7_visits_0 rfl rfl ?_
  refine z_iconst (z := 0) F dX7_visits_1 (by decide) ?_
  refine z_put (ty := .int) F [.ref 17, .ref 18, .ref 19, .int (zI (t 0 0 0)), .ref 20, .ref 21, .ref 22, .ref 23, .int (zI (t 4 0 0)), .ref 24, .ref 25, .ref 26, .ref 27, .int (zI (t 9 0 0)), .ref 28, .ref 29, .ref 30, .ref 31, .int (zI (t 14 0 0)), .int (zI (t 23 0 0)), .int (zI (t 24 0 0)), .int (zI 0)] fl_X7_56 tyX7 tyX7_ok nmX7 rfl (by decide +kernel) rfl rfl (zAll_16 s t o) (Nat.le_of_ble_eq_true rfl) rfl dX7_visits_2 ?_
  have hm_1_s := zu_s (zAll s t o) 16 (zOb 8 [.ref 17, .ref 18, .ref 19, .int (zI (t 0 0 0)), .ref 20, .ref 21, .ref 22, .ref 23, .int (zI (t 4 0 0)), .ref 24, .ref 25, .ref 26, .ref 27, .int (zI (t 9 0 0)), .ref 28, .ref 29, .ref 30, .ref 31, .int (zI (t 14 0 0)), .int (zI (t 23 0 0)), .int (zI (t 24 0 0)), .int (zI 0)])
  refine z_M (M' := (zAll s (zsu t 25 0 0 0) o)) zMH_25 ?_
  refine z_aload_n F 0 dX7_visits_5 rfl rfl ?_
  refine z_get F fl_X7_70 (zAll_16 s (zsu t 25 0 0 0) o) rfl dX7_visits_6 ?_
  exact z_reti F rfl (by first | decide | assumption | omega) (by first | decide | assumption | omega) dX7_visits_9 ⟨_, rfl, rfl, rfl⟩

abbrev rX7_thrown : Room := { frames := 0, cells := 0, slots := 0, locals := 0 }
set_option maxRecDepth 100000 in
set_option maxHeartbeats 4000000 in
theorem c_X7_thrown {l : Launch} (hfl : l.stackTraces = false) (G : zG) {s t : zS} {o : zOx} (hc : zC1 t) (hb9 : zB t)   : zCn l G yX7_thrown (.code yX7_thrown cX7_thrown 1 (some .int)) rX7_thrown [.ref 16] (zAll s t o) (zRi (fun xr M2 => xr = t 25 0 0 ∧ M2 = (zAll s t o))) zN := by
  refine zStart hfl (by decide) (own := RX7) rfl [(0, .ref 16)] (Nat.le_of_ble_eq_true rfl) rfl (fun k hkl hinit hk0 F => ?_)
  have hn0 := hc.1
  have hn4 := hc.2.1
  have hn9 := hc.2.2.1
  have hn14 := hc.2.2.2.1
  have hn18 := hc.2.2.2.2.1
  refine z_aload_n F 0 dX7_thrown_0 rfl rfl ?_
  refine z_get F fl_X7_56 (zAll_16 s t o) rfl dX7_thrown_1 ?_
  exact z_reti F rfl (by first | decide | assumption | omega) (by first | decide | assumption | omega) dX7_thrown_4 ⟨_, rfl, rfl, rfl⟩

abbrev rX7_requestAt : Room := { frames := 1, cells := 0, slots := 0, locals := 22 }
set_option maxRecDepth 100000 in
set_option maxHeartbeats 4000000 in
theorem c_X7_requestAt {l : Launch} (hfl : l.stackTraces = false) (G : zG) {s t : zS} {o : zOx} (hc : zC1 t) (hb9 : zB t) {a : Int} (ha : zR a)  : zCn l G yX7_requestAt (.code yX7_requestAt cX7_requestAt 2 (some .int)) rX7_requestAt [.ref 16, .int (zI a)] (zAll s t o) (zRi (fun xr M2 => ((0 ≤ a ∧ a < t 14 0 0) ∧ xr = t 15 a.toNat 0 ∧ M2 = zAll s (zsu t 25 0 0 0) o) ∨ (¬ (0 ≤ a ∧ a < t 14 0 0) ∧ xr = 0 ∧ M2 = zAll s (zsu t 25 0 0 1) o))) zN := by
  refine zStart hfl (by decide) (own := RX7) rfl [(0, .ref 16), (1, .int (zI a))] (Nat.le_of_ble_eq_true rfl) rfl (fun k hkl hinit hk0 F => ?_)
  have hn0 := hc.1
  have hn4 := hc.2.1
  have hn9 := hc.2.2.1
  have hn14 := hc.2.2.2.1
  have hn18 := hc.2.2.2.2.1
  have hc0 : zC1 (zsu t 25 0 0 0) := hc
  have hb0 : zB (zsu t 25 0 0 0) := zB_u hb9 (by omega)
  refine z_aload_n F 0 dX7_requestAt_0 rfl rfl ?_
  refine z_iload_n F 1 dX7_requestAt_1 rfl rfl ?_
  refine z_iconst (z := 0) F dX7_requestAt_2 (by decide) ?_
  refine z_aload_n F 0 dX7_requestAt_3 rfl rfl ?_
  refine z_get F fl_X7_136 (zAll_16 s t o) rfl dX7_requestAt_4 ?_
  refine z_iconst (z := 1) F dX7_requestAt_7 (by decide) ?_
  refine z_isub F dX7_requestAt_8 ?_
  refine z_callS F [.int (zI a), .int (zI 0), .int (zI ((t 14 0 0) - 1))] [.ref 16] (c_X7_in F.2.2.1 G (a := a) (b := 0) (c := (t 14 0 0 - 1)) (by omega) (by omega) (by omega) (zAll s t o)) cs_X7_63 rfl ⟨by decide, by decide⟩ ⟨by decide, by decide⟩ (Nat.le_of_ble_eq_true rfl) dX7_requestAt_9 z_nx (z_ki (fun x_1 M_1 h_1 => ?_))
  have hx9 := (h_1).1.symm
  have hm9 := (h_1).2.symm
  subst hx9
  subst hm9
  refine z_ti (y := (if 0 ≤ a ∧ a < t 14 0 0 then 1 else 0)) (zIf01 (by omega)) ?_
  have hz : zR (if 0 ≤ a ∧ a < t 14 0 0 then 1 else 0) := zR_if
  refine z_if_eq F 19 dX7_requestAt_12 (by decide) (by omega) (fun c_2 => ?_) (fun c_2 => ?_)
  · skip
    have hq9 : ¬ (0 ≤ a ∧ a < t 14 0 0) := fun h => by rw [if_pos h] at c_2; omega
    refine z_iconst (z := 1) F dX7_requestAt_19 (by decide) ?_
    refine z_callV F [.int (zI 1)] [] (c_X7_isFine F.2.2.1 G (s := s) (t := t) (o := o) (p := 1) ⟨by decide, by decide⟩) cv_X7_77 (zAll_16 s t o) rfl rfl rfl ⟨by decide, by decide⟩ ⟨by decide, by decide⟩ (Nat.le_of_ble_eq_true rfl) dX7_requestAt_20 z_nx (z_ki (fun x_3 M_3 h_3 => ?_))
    have hx9 := (h_3).1.symm
    have hm9 := (h_3).2.symm
    subst hx9
    subst hm9
    refine z_ti (y := 0) (if_neg (by decide)) ?_
    refine z_if_eq F 35 dX7_requestAt_23 (by decide) ⟨by decide, by decide⟩ (fun c_4 => ?_) (fun c_4 => ?_)
    · skip
      refine z_iconst (z := 0) F dX7_requestAt_35 (by decide) ?_
      exact z_reti F rfl (by first | decide | assumption | omega) (by first | decide | assumption | omega) dX7_requestAt_36 ⟨_, rfl, (by first | exact Or.inl ⟨hq9, rfl, rfl⟩ | exact Or.inr ⟨hq9, rfl, rfl⟩)⟩
    · skip
      exact absurd rfl c_4
  · skip
    have hq9 : 0 ≤ a ∧ a < t 14 0 0 := Classical.byContradiction fun h => by rw [if_neg h] at c_2; omega
    refine z_iconst (z := 0) F dX7_requestAt_15 (by decide) ?_
    refine z_goto F 20 dX7_requestAt_16 (by decide) ?_
    refine z_callV F [.int (zI 0)] [] (c_X7_isFine F.2.2.1 G (s := s) (t := t) (o := o) (p := 0) ⟨by decide, by decide⟩) cv_X7_77 (zAll_16 s t o) rfl rfl rfl ⟨by decide, by decide⟩ ⟨by decide, by decide⟩ (Nat.le_of_ble_eq_true rfl) dX7_requestAt_20 z_nx (z_ki (fun x_5 M_5 h_5 => ?_))
    have hx9 := (h_5).1.symm
    have hm9 := (h_5).2.symm
    subst hx9
    subst hm9
    refine z_ti (y := 1) (if_pos rfl) ?_
    refine z_if_eq F 35 dX7_requestAt_23 (by decide) ⟨by decide, by decide⟩ (fun c_6 => ?_) (fun c_6 => ?_)
    · skip
      exact absurd c_6 (by decide)
    · skip
      refine z_aload_n F 0 dX7_requestAt_26 rfl rfl ?_
      refine z_get F fl_X7_50 (zAll_16 s (zsu t 25 0 0 0) o) rfl dX7_requestAt_27 ?_
      refine z_iload_n F 1 dX7_requestAt_30 rfl rfl ?_
      refine z_iald F (zAll_30 s (zsu t 25 0 0 0) o) (by omega) (by omega) (by decide) dX7_requestAt_31 ?_
      refine z_ti (y := t 15 a.toNat 0) rfl ?_
      refine z_goto F 36 dX7_requestAt_32 (by decide) ?_
      exact z_reti F rfl (by first | decide | assumption | omega) (by first | decide | assumption | omega) dX7_requestAt_36 ⟨_, rfl, (by first | exact Or.inl ⟨hq9, rfl, rfl⟩ | exact Or.inr ⟨hq9, rfl, rfl⟩)⟩

abbrev rX7_staffAt : Room := { frames := 2, cells := 0, slots := 0, locals := 43 }
set_option maxRecDepth 100000 in
set_option maxHeartbeats 4000000 in
theorem c_X7_staffAt {l : Launch} (hfl : l.stackTraces = false) (G : zG) {s t : zS} {o : zOx} (hc : zC1 t) (hb9 : zB t) {a x : Int} (ha : zR a) (hx : zR x)  : zCn l G yX7_staffAt (.code yX7_staffAt cX7_staffAt 3 (some .int)) rX7_staffAt [.ref 16, .int (zI a), .int (zI x)] (zAll s t o) (zRi (fun xr M2 => (((0 ≤ a ∧ a < t 0 0 0) ∧ 0 ≤ x ∧ x < 600) ∧ xr = t 21 (a.toNat + 4) x.toNat ∧ M2 = zAll s (zsu t 25 0 0 0) o) ∨ (¬ ((0 ≤ a ∧ a < t 0 0 0) ∧ 0 ≤ x ∧ x < 600) ∧ xr = 0 ∧ M2 = zAll s (zsu t 25 0 0 1) o))) zN := by
  refine zStart hfl (by decide) (own := RX7) rfl [(0, .ref 16), (1, .int (zI a)), (2, .int (zI x))] (Nat.le_of_ble_eq_true rfl) rfl (fun k hkl hinit hk0 F => ?_)
  have hn0 := hc.1
  have hn4 := hc.2.1
  have hn9 := hc.2.2.1
  have hn14 := hc.2.2.2.1
  have hn18 := hc.2.2.2.2.1
  have hc0 : zC1 (zsu t 25 0 0 0) := hc
  have hb0 : zB (zsu t 25 0 0 0) := zB_u hb9 (by omega)
  refine z_aload_n F 0 dX7_staffAt_0 rfl rfl ?_
  refine z_aload_n F 0 dX7_staffAt_1 rfl rfl ?_
  refine z_iload_n F 1 dX7_staffAt_2 rfl rfl ?_
  refine z_callV F [.int (zI a)] [.ref 16] (c_X7_isStaff F.2.2.1 G (s := s) (t := t) (o := o) hc hb9 ha) cv_X7_133 (zAll_16 s t o) rfl rfl rfl ⟨by decide, by decide⟩ ⟨by decide, by decide⟩ (Nat.le_of_ble_eq_true rfl) dX7_staffAt_3 z_nx (z_ki (fun x_1 M_1 h_1 => ?_))
  have hx9 := (h_1).1.symm
  have hm9 := (h_1).2.symm
  subst hx9
  subst hm9
  have hz : zR (if 0 ≤ a ∧ a < t 0 0 0 then 1 else 0) := zR_if
  refine z_if_eq F 20 dX7_staffAt_6 (by decide) (by omega) (fun c_2 => ?_) (fun c_2 => ?_)
  · skip
    have hq9 : ¬ (0 ≤ a ∧ a < t 0 0 0) := fun h => by rw [if_pos h] at c_2; omega
    refine z_iconst (z := 1) F dX7_staffAt_20 (by decide) ?_
    refine z_callV F [.int (zI 1)] [] (c_X7_isFine F.2.2.1 G (s := s) (t := t) (o := o) (p := 1) ⟨by decide, by decide⟩) cv_X7_77 (zAll_16 s t o) rfl rfl rfl ⟨by decide, by decide⟩ ⟨by decide, by decide⟩ (Nat.le_of_ble_eq_true rfl) dX7_staffAt_21 z_nx (z_ki (fun x_3 M_3 h_3 => ?_))
    have hx9 := (h_3).1.symm
    have hm9 := (h_3).2.symm
    subst hx9
    subst hm9
    refine z_ti (y := 0) (if_neg (by decide)) ?_
    refine z_if_eq F 42 dX7_staffAt_24 (by decide) ⟨by decide, by decide⟩ (fun c_4 => ?_) (fun c_4 => ?_)
    · skip
      refine z_iconst (z := 0) F dX7_staffAt_42 (by decide) ?_
      exact z_reti F rfl (by first | decide | assumption | omega) (by first | decide | assumption | omega) dX7_staffAt_43 ⟨_, rfl, (by first | exact Or.inl ⟨⟨hq9, hq8⟩, rfl, rfl⟩ | exact Or.inr ⟨fun h => hq9 h.1, rfl, rfl⟩ | exact Or.inr ⟨fun h => hq8 h.2, rfl, rfl⟩)⟩
    · skip
      exact absurd rfl c_4
  · skip
    have hq9 : 0 ≤ a ∧ a < t 0 0 0 := Classical.byContradiction fun h => by rw [if_neg h] at c_2; omega
    refine z_iload_n F 2 dX7_staffAt_9 rfl rfl ?_
    refine z_callS F [.int (zI x)] [.ref 16] (c_X7_isMinute F.2.2.1 G hx (zAll s t o)) cs_X7_124 rfl ⟨by decide, by decide⟩ ⟨by decide, by decide⟩ (Nat.le_of_ble_eq_true rfl) dX7_staffAt_10 z_nx (z_ki (fun x_5 M_5 h_5 => ?_))
    have hx9 := (h_5).1.symm
    have hm9 := (h_5).2.symm
    subst hx9
    subst hm9
    have hz : zR (if 0 ≤ x ∧ x < 600 then 1 else 0) := zR_if
    refine z_if_eq F 20 dX7_staffAt_13 (by decide) (by omega) (fun c_6 => ?_) (fun c_6 => ?_)
    · skip
      have hq8 : ¬ (0 ≤ x ∧ x < 600) := fun h => by rw [if_pos h] at c_6; omega
      refine z_iconst (z := 1) F dX7_staffAt_20 (by decide) ?_
      refine z_callV F [.int (zI 1)] [] (c_X7_isFine F.2.2.1 G (s := s) (t := t) (o := o) (p := 1) ⟨by decide, by decide⟩) cv_X7_77 (zAll_16 s t o) rfl rfl rfl ⟨by decide, by decide⟩ ⟨by decide, by decide⟩ (Nat.le_of_ble_eq_true rfl) dX7_staffAt_21 z_nx (z_ki (fun x_7 M_7 h_7 => ?_))
      have hx9 := (h_7).1.symm
      have hm9 := (h_7).2.symm
      subst hx9
      subst hm9
      refine z_ti (y := 0) (if_neg (by decide)) ?_
      refine z_if_eq F 42 dX7_staffAt_24 (by decide) ⟨by decide, by decide⟩ (fun c_8 => ?_) (fun c_8 => ?_)
      · skip
        refine z_iconst (z := 0) F dX7_staffAt_42 (by decide) ?_
        exact z_reti F rfl (by first | decide | assumption | omega) (by first | decide | assumption | omega) dX7_staffAt_43 ⟨_, rfl, (by first | exact Or.inl ⟨⟨hq9, hq8⟩, rfl, rfl⟩ | exact Or.inr ⟨fun h => hq9 h.1, rfl, rfl⟩ | exact Or.inr ⟨fun h => hq8 h.2, rfl, rfl⟩)⟩
      · skip
        exact absurd rfl c_8
    · skip
      have hq8 : 0 ≤ x ∧ x < 600 := Classical.byContradiction fun h => by rw [if_neg h] at c_6; omega
      refine z_iconst (z := 0) F dX7_staffAt_16 (by decide) ?_
      refine z_goto F 21 dX7_staffAt_17 (by decide) ?_
      refine z_callV F [.int (zI 0)] [] (c_X7_isFine F.2.2.1 G (s := s) (t := t) (o := o) (p := 0) ⟨by decide, by decide⟩) cv_X7_77 (zAll_16 s t o) rfl rfl rfl ⟨by decide, by decide⟩ ⟨by decide, by decide⟩ (Nat.le_of_ble_eq_true rfl) dX7_staffAt_21 z_nx (z_ki (fun x_9 M_9 h_9 => ?_))
      have hx9 := (h_9).1.symm
      have hm9 := (h_9).2.symm
      subst hx9
      subst hm9
      refine z_ti (y := 1) (if_pos rfl) ?_
      refine z_if_eq F 42 dX7_staffAt_24 (by decide) ⟨by decide, by decide⟩ (fun c_10 => ?_) (fun c_10 => ?_)
      · skip
        exact absurd c_10 (by decide)
      · skip
        refine z_aload_n F 0 dX7_staffAt_27 rfl rfl ?_
        refine z_get F fl_X7_44 (zAll_16 s (zsu t 25 0 0 0) o) rfl dX7_staffAt_28 ?_
        refine z_sipush (z := 600) F dX7_staffAt_31 (by decide) ?_
        refine z_iload_n F 1 dX7_staffAt_34 rfl rfl ?_
        refine z_imul F dX7_staffAt_35 ?_
        refine z_iload_n F 2 dX7_staffAt_36 rfl rfl ?_
        refine z_iadd F dX7_staffAt_37 ?_
        refine z_iald F (zAll_28 s (zsu t 25 0 0 0) o) (by omega) (by omega) (by decide) dX7_staffAt_38 ?_
        refine z_ti (y := t 21 (a.toNat + 4) x.toNat) (by show t 21 _ _ = _; rw [show (600 * a + x).toNat / 600 = a.toNat by omega, show (600 * a + x).toNat % 600 = x.toNat by omega]) ?_
        refine z_goto F 43 dX7_staffAt_39 (by decide) ?_
        exact z_reti F rfl (by first | decide | assumption | omega) (by first | decide | assumption | omega) dX7_staffAt_43 ⟨_, rfl, (by first | exact Or.inl ⟨⟨hq9, hq8⟩, rfl, rfl⟩ | exact Or.inr ⟨fun h => hq9 h.1, rfl, rfl⟩ | exact Or.inr ⟨fun h => hq8 h.2, rfl, rfl⟩)⟩

