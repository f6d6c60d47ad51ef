/-! ===== the model: rests, sums, the peak; its questions as answers ===== -/
theorem zBit_1 : ∀ j : Nat, j < 5 → ∀ i : Nat, i < 5 → (zBit (2 ^ j) i = true ↔ i = j) := by decide +kernel
theorem zRoom_1 {s : zS} (hc : zC1 s) {i a : Nat} {x : Int} (hi : (i : Int) < s 0 0 0) : zRoomB s (zBit (2 ^ i)) a x = true ↔ zChair s a x ≠ -1 ∧ zCan s i a x = true := by
  have h5 := hc.1
  rw [zRoom_r]
  constructor
  · intro h
    obtain ⟨j, h1, _, h3, h4⟩ := zMem_none h.2
    have e := (zBit_1 i (by omega) j (by omega)).mp h3
    subst e
    exact ⟨h.1, h4⟩
  · intro h
    exact ⟨h.1, zMem_some ((zBit_1 i (by omega) i (by omega)).mpr rfl) h.2 (by omega)⟩
theorem zRoom_0 {s : zS} (hc : zC1 s) {i a : Nat} {x : Int} (hi : (i : Int) < s 0 0 0) (h : zChair s a x = -1 ∨ ¬ zCan s i a x = true) : zRoomB s (zBit (2 ^ i)) a x = false := by
  cases e : zRoomB s (zBit (2 ^ i)) a x
  · rfl
  · have h2 := (zRoom_1 hc hi).mp e
    rcases h with h3 | h3
    · exact absurd h3 h2.1
    · exact absurd h2.2 h3
abbrev rX7_inRest : Room := { frames := 3, cells := 0, slots := 0, locals := 64 }
set_option maxRecDepth 100000 in
set_option maxHeartbeats 4000000 in
theorem c_X7_inRest {l : Launch} (hfl : l.stackTraces = false) (G : zG) {s t c : zS} {o : zOx} (hc : zC1 t) (hb9 : zB t) (hI : zInv c) (hr : zRel c t) (h3 : ∀ j, t 3 j 0 ≤ 600) {a x : Int} (ha : zR a) (hx : zR x)  : zCn l G yX7_inRest (.code yX7_inRest cX7_inRest 8 (some .int)) rX7_inRest [.ref 16, .int (zI a), .int (zI x)] (zAll s t o) (zRi (zY s o (xAsk c (((0 ≤ a ∧ a < c 9 0 0) ∧ ¬ c 13 a.toNat 0 = -1) ∧ 0 ≤ x ∧ x < c 4 0 0) (zRest c a.toNat x.toNat)))) zN := by
  refine zStart hfl (by decide) (own := RX7) rfl [(0, .ref 16), (1, .int (zI a)), (2, .int (zI x))] (Nat.le_of_ble_eq_true rfl) rfl (fun k hkl hinit hk0 F => ?_)
  have hn0 := hc.1
  have hn4 := hc.2.1
  have hn9 := hc.2.2.1
  have hn14 := hc.2.2.2.1
  have hn18 := hc.2.2.2.2.1
  have e0 := hr.1 0 0 0 (by omega)
  have e4 := hr.1 4 0 0 (by omega)
  have e9 := hr.1 9 0 0 (by omega)
  have e14 := hr.2.1
  have e13 := hr.1 13 a.toNat 0 (by omega)
  have e10 := hr.1 10 a.toNat 0 (by omega)
  have e11 := hr.1 11 a.toNat 0 (by omega)
  have hcb13 := hI.b 13 a.toNat 0
  refine z_aload_n F 0 dX7_inRest_0 rfl rfl ?_
  refine z_aload_n F 0 dX7_inRest_1 rfl rfl ?_
  refine z_iload_n F 1 dX7_inRest_2 rfl rfl ?_
  refine z_callV F [.int (zI a)] [.ref 16] (c_X7_isThere F.2.2.1 G (s := s) (t := t) (o := o) hc hb9 ha) cv_X7_139 (zAll_16 s t o) rfl rfl rfl ⟨by decide, by decide⟩ ⟨by decide, by decide⟩ (Nat.le_of_ble_eq_true rfl) dX7_inRest_3 z_nx (z_ki (fun x_1 M_1 h_1 => ?_))
  have hx9 := (h_1).1.symm
  have hm9 := (h_1).2.symm
  subst hx9
  subst hm9
  have hz : zR (if (0 ≤ a ∧ a < t 9 0 0) ∧ ¬ t 13 a.toNat 0 = -1 then 1 else 0) := zR_if
  refine z_if_eq F 21 dX7_inRest_6 (by decide) (by omega) (fun c_2 => ?_) (fun c_2 => ?_)
  · skip
    have hq9 : ¬ ((0 ≤ a ∧ a < t 9 0 0) ∧ ¬ t 13 a.toNat 0 = -1) := fun h => by rw [if_pos h] at c_2; omega
    refine z_iconst (z := 1) F dX7_inRest_21 (by decide) ?_
    refine z_callV F [.int (zI 1)] [] (c_X7_isFine F.2.2.1 G (s := s) (t := t) (o := o) (p := 1) ⟨by decide, by decide⟩) cv_X7_77 (zAll_16 s t o) rfl rfl rfl ⟨by decide, by decide⟩ ⟨by decide, by decide⟩ (Nat.le_of_ble_eq_true rfl) dX7_inRest_22 z_nx (z_ki (fun x_3 M_3 h_3 => ?_))
    have hx9 := (h_3).1.symm
    have hm9 := (h_3).2.symm
    subst hx9
    subst hm9
    refine z_ti (y := 0) (if_neg (by decide)) ?_
    refine z_if_ne F 30 dX7_inRest_25 (by decide) ⟨by decide, by decide⟩ (fun c_4 => ?_) (fun c_4 => ?_)
    · skip
      omega
    · skip
      refine z_iconst (z := 0) F dX7_inRest_28 (by decide) ?_
      exact z_reti F rfl (by first | decide | assumption | omega) (by first | decide | assumption | omega) dX7_inRest_29 ⟨_, rfl, zY_of (k := 1) (v := 0) (if_neg (by omega)) (zB_u hb9 (by omega)) (hr.x (by omega) 0 0 1) rfl (fun h => absurd h (by decide))⟩
  · skip
    have hq9 : (0 ≤ a ∧ a < t 9 0 0) ∧ ¬ t 13 a.toNat 0 = -1 := Classical.byContradiction fun h => by rw [if_neg h] at c_2; omega
    refine z_aload_n F 0 dX7_inRest_9 rfl rfl ?_
    refine z_iload_n F 2 dX7_inRest_10 rfl rfl ?_
    refine z_callV F [.int (zI x)] [.ref 16] (c_X7_isService F.2.2.1 G (s := s) (t := t) (o := o) hc hb9 hx) cv_X7_84 (zAll_16 s t o) rfl rfl rfl ⟨by decide, by decide⟩ ⟨by decide, by decide⟩ (Nat.le_of_ble_eq_true rfl) dX7_inRest_11 z_nx (z_ki (fun x_5 M_5 h_5 => ?_))
    have hx9 := (h_5).1.symm
    have hm9 := (h_5).2.symm
    subst hx9
    subst hm9
    have hz : zR (if 0 ≤ x ∧ x < t 4 0 0 then 1 else 0) := zR_if
    refine z_if_eq F 21 dX7_inRest_14 (by decide) (by omega) (fun c_6 => ?_) (fun c_6 => ?_)
    · skip
      have hq8 : ¬ (0 ≤ x ∧ x < t 4 0 0) := fun h => by rw [if_pos h] at c_6; omega
      refine z_iconst (z := 1) F dX7_inRest_21 (by decide) ?_
      refine z_callV F [.int (zI 1)] [] (c_X7_isFine F.2.2.1 G (s := s) (t := t) (o := o) (p := 1) ⟨by decide, by decide⟩) cv_X7_77 (zAll_16 s t o) rfl rfl rfl ⟨by decide, by decide⟩ ⟨by decide, by decide⟩ (Nat.le_of_ble_eq_true rfl) dX7_inRest_22 z_nx (z_ki (fun x_7 M_7 h_7 => ?_))
      have hx9 := (h_7).1.symm
      have hm9 := (h_7).2.symm
      subst hx9
      subst hm9
      refine z_ti (y := 0) (if_neg (by decide)) ?_
      refine z_if_ne F 30 dX7_inRest_25 (by decide) ⟨by decide, by decide⟩ (fun c_8 => ?_) (fun c_8 => ?_)
      · skip
        omega
      · skip
        refine z_iconst (z := 0) F dX7_inRest_28 (by decide) ?_
        exact z_reti F rfl (by first | decide | assumption | omega) (by first | decide | assumption | omega) dX7_inRest_29 ⟨_, rfl, zY_of (k := 1) (v := 0) (if_neg (by omega)) (zB_u hb9 (by omega)) (hr.x (by omega) 0 0 1) rfl (fun h => absurd h (by decide))⟩
    · skip
      have hq8 : 0 ≤ x ∧ x < t 4 0 0 := Classical.byContradiction fun h => by rw [if_neg h] at c_6; omega
      refine z_iconst (z := 0) F dX7_inRest_17 (by decide) ?_
      refine z_goto F 22 dX7_inRest_18 (by decide) ?_
      refine z_callV F [.int (zI 0)] [] (c_X7_isFine F.2.2.1 G (s := s) (t := t) (o := o) (p := 0) ⟨by decide, by decide⟩) cv_X7_77 (zAll_16 s t o) rfl rfl rfl ⟨by decide, by decide⟩ ⟨by decide, by decide⟩ (Nat.le_of_ble_eq_true rfl) dX7_inRest_22 z_nx (z_ki (fun x_9 M_9 h_9 => ?_))
      have hx9 := (h_9).1.symm
      have hm9 := (h_9).2.symm
      subst hx9
      subst hm9
      refine z_ti (y := 1) (if_pos rfl) ?_
      refine z_if_ne F 30 dX7_inRest_25 (by decide) ⟨by decide, by decide⟩ (fun c_10 => ?_) (fun c_10 => ?_)
      · skip
        have hcu : ((0 ≤ a ∧ a < c 9 0 0) ∧ ¬ c 13 a.toNat 0 = -1) ∧ 0 ≤ x ∧ x < c 4 0 0 := by omega
        have hvv := hI.v (v := a.toNat) (by omega) hcu.1.2
        have hvs := hI.c.2.2.2.2.2.2.2.2.2.2.1 a.toNat (by omega)
        have hc40 := hI.c.2.1
        have hc00 := hI.c.1
        have hb0 : zB (zsu t 25 0 0 0) := zB_u hb9 (by omega)
        have hsm := (hr.x (f := 25) (by omega) 0 0 0).1
        have hscv := hI.c.sc (c 10 a.toNat 0).toNat
        have hlx := hI.c.len x.toNat
        have hlv := hI.c.len (c 10 a.toNat 0).toNat
        have h3c : ∀ j, c 3 j 0 ≤ 600 := fun j => (hr.1 3 j 0 (by omega)) ▸ h3 j
        refine z_aload_n F 0 dX7_inRest_30 rfl rfl ?_
        refine z_get F fl_X7_32 (zAll_16 s (zsu t 25 0 0 0) o) rfl dX7_inRest_31 ?_
        refine z_iload_n F 1 dX7_inRest_34 rfl rfl ?_
        refine z_iald F (zAll_24 s (zsu t 25 0 0 0) o) (by omega) (by omega) (by decide) dX7_inRest_35 ?_
        refine z_ti (y := ((((c 10 a.toNat 0).toNat) : Nat) : Int)) (by show t 10 a.toNat 0 = _; omega) ?_
        refine z_istore_n F [(3, .int (zI (((((c 10 a.toNat 0).toNat) : Nat) : Int)))), (0, .ref 16), (1, .int (zI a)), (2, .int (zI x))] dX7_inRest_36 rfl (by decide) rfl ?_
        refine z_aload_n F 1 dX7_inRest_37 rfl rfl ?_
        refine z_get F fl_X7_41 (zAll_16 s (zsu t 25 0 0 0) o) rfl dX7_inRest_38 ?_
        refine z_iload_n F 2 dX7_inRest_41 rfl rfl ?_
        refine z_iald F (zAll_27 s (zsu t 25 0 0 0) o) (by omega) (by omega) (by decide) dX7_inRest_42 ?_
        refine z_ti (y := c 13 a.toNat 0) (show t 13 a.toNat 0 = _ from e13) ?_
        refine z_istore F [(4, .int (zI (c 13 a.toNat 0))), (3, .int (zI (((((c 10 a.toNat 0).toNat) : Nat) : Int)))), (0, .ref 16), (1, .int (zI a)), (2, .int (zI x))] dX7_inRest_43 (by decide) rfl ?_
        refine z_iconst (z := 0) F dX7_inRest_45 (by decide) ?_
        refine z_istore F [(5, .int (zI 0)), (4, .int (zI (c 13 a.toNat 0))), (3, .int (zI (((((c 10 a.toNat 0).toNat) : Nat) : Int)))), (0, .ref 16), (1, .int (zI a)), (2, .int (zI x))] dX7_inRest_46 (by decide) rfl ?_
        have L1 : ∀ (fuel : Nat) (w : Int) (m : Int), (c 5 (c 10 a.toNat 0).toNat 0 - w).toNat < fuel → 0 ≤ w → w ≤ c 5 (c 10 a.toNat 0).toNat 0 → m = (c 13 a.toNat 0 + zOff c (c 10 a.toNat 0).toNat w.toNat) → zRest c a.toNat x.toNat = zIn c a.toNat x.toNat (zSc c (c 10 a.toNat 0).toNat - w.toNat) w.toNat → zJ k G rX7_inRest 8 (zMQ k G rX7_inRest (zRi (zY s o (xAsk c (((0 ≤ a ∧ a < c 9 0 0) ∧ ¬ c 13 a.toNat 0 = -1) ∧ 0 ≤ x ∧ x < c 4 0 0) (zRest c a.toNat x.toNat)))) zN) (zAll s (zsu t 25 0 0 0) o) 0 0 48 [(0, .ref 16), (1, .int (zI a)), (2, .int (zI x)), (3, .int (zI (((((c 10 a.toNat 0).toNat) : Nat) : Int)))), (4, .int (zI m)), (5, .int (zI w))] [] := by
          intro fuel
          induction fuel with
          | zero => intros; omega
          | succ fuel L1_ih =>
            intro w m hfuel hw1 hw2 hm hw3
            refine z_iload F 5 dX7_inRest_48 rfl ?_
            refine z_aload_n F 0 dX7_inRest_50 rfl rfl ?_
            refine z_get F fl_X7_25 (zAll_16 s (zsu t 25 0 0 0) o) rfl dX7_inRest_51 ?_
            refine z_iload_n F 3 dX7_inRest_54 rfl rfl ?_
            refine z_iald F (zAll_22 s (zsu t 25 0 0 0) o) (by omega) (by omega) (by decide) dX7_inRest_55 ?_
            refine z_ti (y := c 5 (c 10 a.toNat 0).toNat 0) (by rw [Int.toNat_natCast]; exact hr.1 5 _ 0 (by omega)) ?_
            refine z_icmp_ge F 153 dX7_inRest_56 (by decide) (by omega) (by omega) (fun c_11 => ?_) (fun c_11 => ?_)
            · skip
              refine z_iconst (z := -1) F dX7_inRest_153 (by decide) ?_
              exact z_reti F rfl (by first | decide | assumption | omega) (by first | decide | assumption | omega) dX7_inRest_154 ⟨_, rfl, zY_of (k := 0) (v := zRest c a.toNat x.toNat) (if_pos hcu) (zB_u hb9 (by omega)) (hr.x (by omega) 0 0 0) rfl (fun _ => (by rw [hw3, show zSc c (c 10 a.toNat 0).toNat - w.toNat = 0 by omega]; rfl))⟩
            · skip
              have ho1 := hI.c.off (c 10 a.toNat 0).toNat w.toNat
              have ho3 := hI.c.offl (a := (c 10 a.toNat 0).toNat) (k := w.toNat + 1) (by omega)
              have ho4 : zOff c (c 10 a.toNat 0).toNat (w.toNat + 1) = zOff c (c 10 a.toNat 0).toNat w.toNat + c 7 (c 10 a.toNat 0).toNat w.toNat := rfl
              have h7 := hI.c.2.2.2.2.2.2.1 (c 10 a.toNat 0).toNat w.toNat
              have h6 := hI.c.2.2.2.2.2.1 (c 10 a.toNat 0).toNat w.toNat
              refine z_iload F 4 dX7_inRest_59 rfl ?_
              refine z_aload_n F 0 dX7_inRest_61 rfl rfl ?_
              refine z_get F fl_X7_22 (zAll_16 s (zsu t 25 0 0 0) o) rfl dX7_inRest_62 ?_
              refine z_iconst (z := 5) F dX7_inRest_65 (by decide) ?_
              refine z_iload_n F 3 dX7_inRest_66 rfl rfl ?_
              refine z_imul F dX7_inRest_67 ?_
              refine z_iload F 5 dX7_inRest_68 rfl ?_
              refine z_iadd F dX7_inRest_70 ?_
              refine z_iald F (zAll_21 s (zsu t 25 0 0 0) o) (by omega) (by omega) (by decide) dX7_inRest_71 ?_
              refine z_ti (y := c 7 (c 10 a.toNat 0).toNat w.toNat) (by show t 7 ((5 * ((((c 10 a.toNat 0).toNat) : Nat) : Int) + w).toNat / 5) ((5 * ((((c 10 a.toNat 0).toNat) : Nat) : Int) + w).toNat % 5) = _; rw [show (5 * ((((c 10 a.toNat 0).toNat) : Nat) : Int) + w).toNat / 5 = (c 10 a.toNat 0).toNat by omega, show (5 * ((((c 10 a.toNat 0).toNat) : Nat) : Int) + w).toNat % 5 = w.toNat by omega]; exact hr.1 7 _ _ (by omega)) ?_
              refine z_iadd F dX7_inRest_72 ?_
              refine z_istore F [(6, .int (zI (m + (c 7 (c 10 a.toNat 0).toNat w.toNat)))), (0, .ref 16), (1, .int (zI a)), (2, .int (zI x)), (3, .int (zI (((((c 10 a.toNat 0).toNat) : Nat) : Int)))), (4, .int (zI m)), (5, .int (zI w))] dX7_inRest_73 (by decide) rfl ?_
              refine z_aload_n F 1 dX7_inRest_75 rfl rfl ?_
              refine z_get F fl_X7_19 (zAll_16 s (zsu t 25 0 0 0) o) rfl dX7_inRest_76 ?_
              refine z_iconst (z := 5) F dX7_inRest_79 (by decide) ?_
              refine z_iload_n F 4 dX7_inRest_80 rfl rfl ?_
              refine z_imul F dX7_inRest_81 ?_
              refine z_iload F 6 dX7_inRest_82 rfl ?_
              refine z_iadd F dX7_inRest_84 ?_
              refine z_iald F (zAll_20 s (zsu t 25 0 0 0) o) (by omega) (by omega) (by decide) dX7_inRest_85 ?_
              refine z_ti (y := c 6 (c 10 a.toNat 0).toNat w.toNat) (by show t 6 ((5 * ((((c 10 a.toNat 0).toNat) : Nat) : Int) + w).toNat / 5) ((5 * ((((c 10 a.toNat 0).toNat) : Nat) : Int) + w).toNat % 5) = _; rw [show (5 * ((((c 10 a.toNat 0).toNat) : Nat) : Int) + w).toNat / 5 = (c 10 a.toNat 0).toNat by omega, show (5 * ((((c 10 a.toNat 0).toNat) : Nat) : Int) + w).toNat % 5 = w.toNat by omega]; exact hr.1 6 _ _ (by omega)) ?_
              refine z_iconst (z := -1) F dX7_inRest_86 (by decide) ?_
              refine z_icmp_ne F 143 dX7_inRest_87 (by decide) (by omega) ⟨by decide, by decide⟩ (fun c_12 => ?_) (fun c_12 => ?_)
              · skip
                have hr9 : ¬ c 6 (c 10 a.toNat 0).toNat w.toNat = -1 := c_12
                have hst : zRest c a.toNat x.toNat = zIn c a.toNat x.toNat (zSc c (c 10 a.toNat 0).toNat - (w.toNat + 1)) (w.toNat + 1) := by
                  rw [hw3, show zSc c (c 10 a.toNat 0).toNat - w.toNat = (zSc c (c 10 a.toNat 0).toNat - (w.toNat + 1)) + 1 by omega, zIn, if_neg (fun h => hr9 h.1)]
                refine z_iload F 0 dX7_inRest_143 rfl ?_
                refine z_istore F [(4, .int (zI (m + (c 7 (c 10 a.toNat 0).toNat w.toNat)))), (6, .int (zI (m + (c 7 (c 10 a.toNat 0).toNat w.toNat)))), (0, .ref 16), (1, .int (zI a)), (2, .int (zI x)), (3, .int (zI (((((c 10 a.toNat 0).toNat) : Nat) : Int)))), (5, .int (zI w))] dX7_inRest_145 (by decide) rfl ?_
                refine z_iinc F 6 [(5, .int (zI (w + 1))), (4, .int (zI (m + (c 7 (c 10 a.toNat 0).toNat w.toNat)))), (6, .int (zI (m + (c 7 (c 10 a.toNat 0).toNat w.toNat)))), (0, .ref 16), (1, .int (zI a)), (2, .int (zI x)), (3, .int (zI (((((c 10 a.toNat 0).toNat) : Nat) : Int))))] dX7_inRest_147 rfl (by decide) rfl ?_
                refine z_goto F 48 dX7_inRest_150 (by decide) ?_
                refine z_lv [(0, .ref 16), (1, .int (zI a)), (2, .int (zI x)), (3, .int (zI (((((c 10 a.toNat 0).toNat) : Nat) : Int)))), (4, .int (zI (m + (c 7 (c 10 a.toNat 0).toNat w.toNat)))), (5, .int (zI (w + 1)))] [3, 4, 5, 6, 1, 0] rfl ?_
                exact L1_ih (w + 1) (m + (c 7 (c 10 a.toNat 0).toNat w.toNat)) (by omega) (by omega) (by omega) (by rw [show (w + 1).toNat = w.toNat + 1 by omega]; omega) (by rw [show (w + 1).toNat = w.toNat + 1 by omega]; exact hst)
              · skip
                have hr9 : c 6 (c 10 a.toNat 0).toNat w.toNat = -1 := c_12
                refine z_iload F 5 dX7_inRest_90 rfl ?_
                refine z_istore F [(7, .int (zI m)), (6, .int (zI (m + (c 7 (c 10 a.toNat 0).toNat w.toNat)))), (0, .ref 16), (1, .int (zI a)), (2, .int (zI x)), (3, .int (zI (((((c 10 a.toNat 0).toNat) : Nat) : Int)))), (4, .int (zI m)), (5, .int (zI w))] dX7_inRest_92 (by decide) rfl ?_
                have L2 : ∀ (fuel : Nat) (y : Int), ((c 13 a.toNat 0 + zOff c (c 10 a.toNat 0).toNat (w.toNat + 1)) + 1 - y).toNat < fuel → (c 13 a.toNat 0 + zOff c (c 10 a.toNat 0).toNat w.toNat) ≤ y → y ≤ (c 13 a.toNat 0 + zOff c (c 10 a.toNat 0).toNat (w.toNat + 1)) + 1 → zFind c (zBit (2 ^ (c 11 a.toNat 0).toNat)) x.toNat (c 13 a.toNat 0 + zOff c (c 10 a.toNat 0).toNat w.toNat) (c 13 a.toNat 0 + zOff c (c 10 a.toNat 0).toNat (w.toNat + 1)) = zFind c (zBit (2 ^ (c 11 a.toNat 0).toNat)) x.toNat y (c 13 a.toNat 0 + zOff c (c 10 a.toNat 0).toNat (w.toNat + 1)) → zJ k G rX7_inRest 8 (zMQ k G rX7_inRest (zRi (zY s o (xAsk c (((0 ≤ a ∧ a < c 9 0 0) ∧ ¬ c 13 a.toNat 0 = -1) ∧ 0 ≤ x ∧ x < c 4 0 0) (zRest c a.toNat x.toNat)))) zN) (zAll s (zsu t 25 0 0 0) o) 0 0 94 [(0, .ref 16), (1, .int (zI a)), (2, .int (zI x)), (3, .int (zI (((((c 10 a.toNat 0).toNat) : Nat) : Int)))), (4, .int (zI m)), (5, .int (zI w)), (6, .int (zI (m + c 7 (c 10 a.toNat 0).toNat w.toNat))), (7, .int (zI y))] [] := by
                  intro fuel
                  induction fuel with
                  | zero => intros; omega
                  | succ fuel L2_ih =>
                    intro y hfuel hy0 hy1 hff
                    refine z_iload F 7 dX7_inRest_94 rfl ?_
                    refine z_aload_n F 0 dX7_inRest_96 rfl rfl ?_
                    refine z_iload_n F 2 dX7_inRest_97 rfl rfl ?_
                    refine z_ti (y := ((x.toNat : Nat) : Int)) (by omega) ?_
                    refine z_callV F [.int (zI (((x.toNat : Nat) : Int)))] [.int (zI y)] (c_X7_length F.2.2.1 G (s := s) (t := (zsu t 25 0 0 0)) (o := o) hc hb0 (a := x.toNat) (by omega)) cv_X7_87 (zAll_16 s (zsu t 25 0 0 0) o) rfl rfl rfl ⟨by decide, by decide⟩ ⟨by decide, by decide⟩ (Nat.le_of_ble_eq_true rfl) dX7_inRest_98 z_nx (z_ki (fun x_13 M_13 h_13 => ?_))
                    have hx9 := (h_13).1.symm
                    have hm9 := (h_13).2.symm
                    subst hx9
                    subst hm9
                    refine z_ti (y := zLen c x.toNat) (hsm.le _) ?_
                    refine z_iadd F dX7_inRest_101 ?_
                    refine z_iload F 6 dX7_inRest_102 rfl ?_
                    refine z_icmp_gt F 143 dX7_inRest_104 (by decide) (by omega) (by omega) (fun c_14 => ?_) (fun c_14 => ?_)
                    · skip
                      have hst : zRest c a.toNat x.toNat = zIn c a.toNat x.toNat (zSc c (c 10 a.toNat 0).toNat - (w.toNat + 1)) (w.toNat + 1) := by
                        rw [hw3, show zSc c (c 10 a.toNat 0).toNat - w.toNat = (zSc c (c 10 a.toNat 0).toNat - (w.toNat + 1)) + 1 by omega, zIn, if_neg (fun h => h.2 (hff.trans (zScan_e (by omega))))]
                      refine z_iload F 6 dX7_inRest_143 rfl ?_
                      refine z_istore F [(4, .int (zI (m + c 7 (c 10 a.toNat 0).toNat w.toNat))), (0, .ref 16), (1, .int (zI a)), (2, .int (zI x)), (3, .int (zI (((((c 10 a.toNat 0).toNat) : Nat) : Int)))), (5, .int (zI w)), (6, .int (zI (m + c 7 (c 10 a.toNat 0).toNat w.toNat))), (7, .int (zI y))] dX7_inRest_145 (by decide) rfl ?_
                      refine z_iinc F 5 [(5, .int (zI (w + 1))), (4, .int (zI (m + c 7 (c 10 a.toNat 0).toNat w.toNat))), (0, .ref 16), (1, .int (zI a)), (2, .int (zI x)), (3, .int (zI (((((c 10 a.toNat 0).toNat) : Nat) : Int)))), (6, .int (zI (m + c 7 (c 10 a.toNat 0).toNat w.toNat))), (7, .int (zI y))] dX7_inRest_147 rfl (by decide) rfl ?_
                      refine z_goto F 48 dX7_inRest_150 (by decide) ?_
                      refine z_lv [(0, .ref 16), (1, .int (zI a)), (2, .int (zI x)), (3, .int (zI (((((c 10 a.toNat 0).toNat) : Nat) : Int)))), (4, .int (zI (m + c 7 (c 10 a.toNat 0).toNat w.toNat))), (5, .int (zI (w + 1)))] [2, 3, 4, 5, 1, 0] rfl ?_
                      exact L1_ih (w + 1) (m + c 7 (c 10 a.toNat 0).toNat w.toNat) (by omega) (by omega) (by omega) (by rw [show (w + 1).toNat = w.toNat + 1 by omega]; omega) (by rw [show (w + 1).toNat = w.toNat + 1 by omega]; exact hst)
                    · skip
                      refine z_aload_n F 0 dX7_inRest_107 rfl rfl ?_
                      refine z_aload_n F 0 dX7_inRest_108 rfl rfl ?_
                      refine z_get F fl_X7_35 (zAll_16 s (zsu t 25 0 0 0) o) rfl dX7_inRest_109 ?_
                      refine z_iload_n F 1 dX7_inRest_112 rfl rfl ?_
                      refine z_iald F (zAll_25 s (zsu t 25 0 0 0) o) (by omega) (by omega) (by decide) dX7_inRest_113 ?_
                      refine z_ti (y := ((((c 11 a.toNat 0).toNat) : Nat) : Int)) (by show t 11 a.toNat 0 = _; omega) ?_
                      refine z_iload_n F 2 dX7_inRest_114 rfl rfl ?_
                      refine z_ti (y := ((x.toNat : Nat) : Int)) (by omega) ?_
                      refine z_iload F 7 dX7_inRest_115 rfl ?_
                      refine z_callV F [.int (zI (((((c 11 a.toNat 0).toNat) : Nat) : Int))), .int (zI (((x.toNat : Nat) : Int))), .int (zI y)] [] (c_X7_canTake F.2.2.1 G (s := s) (t := (zsu t 25 0 0 0)) (o := o) hc hb0 (i := (c 11 a.toNat 0).toNat) (a := x.toNat) (x := y) (by omega) (by omega) (by omega) h3) cv_X7_97 (zAll_16 s (zsu t 25 0 0 0) o) rfl rfl rfl ⟨by decide, by decide⟩ ⟨by decide, by decide⟩ (Nat.le_of_ble_eq_true rfl) dX7_inRest_117 z_nx (z_ki (fun x_15 M_15 h_15 => ?_))
                      have hx9 := (h_15).1.symm
                      have hm9 := (h_15).2.symm
                      subst hx9
                      subst hm9
                      refine z_ti (y := (if zCan c (c 11 a.toNat 0).toNat x.toNat y = true then 1 else 0)) (by rw [hsm.can]) ?_
                      have hz : zR (if zCan c (c 11 a.toNat 0).toNat x.toNat y = true then 1 else 0) := zR_if
                      refine z_if_eq F 137 dX7_inRest_120 (by decide) (by omega) (fun c_16 => ?_) (fun c_16 => ?_)
                      · skip
                        have hk9 : ¬ (zCan c (c 11 a.toNat 0).toNat x.toNat y = true) := fun h => by rw [if_pos h] at c_16; omega
                        have hno : zRoomB c (zBit (2 ^ (c 11 a.toNat 0).toNat)) x.toNat y = false := zRoom_0 hI.c (by omega) (Or.inr hk9)
                        refine z_iinc F 7 [(7, .int (zI (y + 1))), (0, .ref 16), (1, .int (zI a)), (2, .int (zI x)), (3, .int (zI (((((c 10 a.toNat 0).toNat) : Nat) : Int)))), (4, .int (zI m)), (5, .int (zI w)), (6, .int (zI (m + c 7 (c 10 a.toNat 0).toNat w.toNat)))] dX7_inRest_137 rfl (by decide) rfl ?_
                        refine z_goto F 94 dX7_inRest_140 (by decide) ?_
                        refine z_lv [(0, .ref 16), (1, .int (zI a)), (2, .int (zI x)), (3, .int (zI (((((c 10 a.toNat 0).toNat) : Nat) : Int)))), (4, .int (zI m)), (5, .int (zI w)), (6, .int (zI (m + c 7 (c 10 a.toNat 0).toNat w.toNat))), (7, .int (zI (y + 1)))] [1, 2, 3, 4, 5, 6, 7, 0] rfl ?_
                        exact L2_ih (y + 1) (by omega) (by omega) (by omega) (by rw [hff]; exact zScan_s (by omega) (by omega) hno)
                      · skip
                        have hk9 : zCan c (c 11 a.toNat 0).toNat x.toNat y = true := Classical.byContradiction fun h => by rw [if_neg h] at c_16; omega
                        refine z_aload_n F 0 dX7_inRest_123 rfl rfl ?_
                        refine z_iload_n F 2 dX7_inRest_124 rfl rfl ?_
                        refine z_ti (y := ((x.toNat : Nat) : Int)) (by omega) ?_
                        refine z_iload F 7 dX7_inRest_125 rfl ?_
                        refine z_callV F [.int (zI (((x.toNat : Nat) : Int))), .int (zI y)] [] (c_X7_chairFor F.2.2.1 G (s := s) (t := (zsu t 25 0 0 0)) (o := o) hc hb0 (a := x.toNat) (x := y) (by omega) (by omega)) cv_X7_110 (zAll_16 s (zsu t 25 0 0 0) o) rfl rfl rfl ⟨by decide, by decide⟩ ⟨by decide, by decide⟩ (Nat.le_of_ble_eq_true rfl) dX7_inRest_127 z_nx (z_ki (fun x_17 M_17 h_17 => ?_))
                        have hx9 := (h_17).1.symm
                        have hm9 := (h_17).2.symm
                        subst hx9
                        subst hm9
                        refine z_ti (y := zChair c x.toNat y) (hsm.ch _ _) ?_
                        refine z_iconst (z := -1) F dX7_inRest_130 (by decide) ?_
                        have hcr := zChair_r c x.toNat y
                        refine z_icmp_eq F 137 dX7_inRest_131 (by decide) (by omega) ⟨by decide, by decide⟩ (fun c_18 => ?_) (fun c_18 => ?_)
                        · skip
                          have hno : zRoomB c (zBit (2 ^ (c 11 a.toNat 0).toNat)) x.toNat y = false := zRoom_0 hI.c (by omega) (Or.inl c_18)
                          refine z_iinc F 7 [(7, .int (zI (y + 1))), (0, .ref 16), (1, .int (zI a)), (2, .int (zI x)), (3, .int (zI (((((c 10 a.toNat 0).toNat) : Nat) : Int)))), (4, .int (zI m)), (5, .int (zI w)), (6, .int (zI (m + c 7 (c 10 a.toNat 0).toNat w.toNat)))] dX7_inRest_137 rfl (by decide) rfl ?_
                          refine z_goto F 94 dX7_inRest_140 (by decide) ?_
                          refine z_lv [(0, .ref 16), (1, .int (zI a)), (2, .int (zI x)), (3, .int (zI (((((c 10 a.toNat 0).toNat) : Nat) : Int)))), (4, .int (zI m)), (5, .int (zI w)), (6, .int (zI (m + c 7 (c 10 a.toNat 0).toNat w.toNat))), (7, .int (zI (y + 1)))] [1, 2, 3, 4, 5, 6, 7, 0] rfl ?_
                          exact L2_ih (y + 1) (by omega) (by omega) (by omega) (by rw [hff]; exact zScan_s (by omega) (by omega) hno)
                        · skip
                          have hyes : zRoomB c (zBit (2 ^ (c 11 a.toNat 0).toNat)) x.toNat y = true := (zRoom_1 hI.c (by omega)).mpr ⟨c_18, hk9⟩
                          have hfy : zFind c (zBit (2 ^ (c 11 a.toNat 0).toNat)) x.toNat (c 13 a.toNat 0 + zOff c (c 10 a.toNat 0).toNat w.toNat) (c 13 a.toNat 0 + zOff c (c 10 a.toNat 0).toNat (w.toNat + 1)) = y := hff.trans (zScan_y (by omega) (by omega) hyes)
                          have hst : zRest c a.toNat x.toNat = y := by
                            rw [hw3, show zSc c (c 10 a.toNat 0).toNat - w.toNat = (zSc c (c 10 a.toNat 0).toNat - (w.toNat + 1)) + 1 by omega, zIn, if_pos ⟨hr9, by omega⟩]
                            exact hfy
                          refine z_iload F 7 dX7_inRest_134 rfl ?_
                          exact z_reti F rfl (by first | decide | assumption | omega) (by first | decide | assumption | omega) dX7_inRest_136 ⟨_, rfl, zY_of (k := 0) (v := zRest c a.toNat x.toNat) (if_pos hcu) (zB_u hb9 (by omega)) (hr.x (by omega) 0 0 0) rfl (fun _ => hst.symm)⟩
                refine z_lv [(0, .ref 16), (1, .int (zI a)), (2, .int (zI x)), (3, .int (zI (((((c 10 a.toNat 0).toNat) : Nat) : Int)))), (4, .int (zI m)), (5, .int (zI w)), (6, .int (zI (m + (c 7 (c 10 a.toNat 0).toNat w.toNat)))), (7, .int (zI m))] [2, 3, 4, 5, 6, 7, 1, 0] rfl ?_
                exact L2 _ m (Nat.lt_succ_self _) (by omega) (by omega) (by rw [hm])
        refine z_lv [(0, .ref 16), (1, .int (zI a)), (2, .int (zI x)), (3, .int (zI (((((c 10 a.toNat 0).toNat) : Nat) : Int)))), (4, .int (zI (c 13 a.toNat 0))), (5, .int (zI 0))] [3, 4, 5, 2, 1, 0] rfl ?_
        exact L1 _ 0 ((c 13 a.toNat 0)) (Nat.lt_succ_self _) (by omega) (by omega) (show c 13 a.toNat 0 = c 13 a.toNat 0 + 0 by omega) rfl
      · skip
        omega

abbrev rX7_fill : Room := { frames := 1, cells := 0, slots := 0, locals := 23 }
set_option maxRecDepth 100000 in
set_option maxHeartbeats 4000000 in
theorem c_X7_fill {l : Launch} (hfl : l.stackTraces = false) (G : zG) {s t c : zS} {o : zOx} (hc : zC1 t) (hb9 : zB t) (hI : zInv c) (hr : zRel c t) (h3 : ∀ j, t 3 j 0 ≤ 600) {x : Int} (hx : zR x)  : zCn l G yX7_fill (.code yX7_fill cX7_fill 7 (some .int)) rX7_fill [.ref 16, .int (zI x)] (zAll s t o) (zRi (zY s o (xAsk c (0 ≤ x ∧ x ≤ 600) (zFil c x (2 ^ (c 4 0 0).toNat)).1))) zN := by
  refine zStart hfl (by decide) (own := RX7) rfl [(0, .ref 16), (1, .int (zI x))] (Nat.le_of_ble_eq_true rfl) rfl (fun k hkl hinit hk0 F => ?_)
  have hn0 := hc.1
  have hn4 := hc.2.1
  have hn9 := hc.2.2.1
  have hn14 := hc.2.2.2.1
  have hn18 := hc.2.2.2.2.1
  have e0 := hr.1 0 0 0 (by omega)
  have e4 := hr.1 4 0 0 (by omega)
  have e9 := hr.1 9 0 0 (by omega)
  have e14 := hr.2.1
  refine z_aload_n F 0 dX7_fill_0 rfl rfl ?_
  refine z_iload_n F 1 dX7_fill_1 rfl rfl ?_
  refine z_iconst (z := 0) F dX7_fill_2 (by decide) ?_
  refine z_sipush (z := 600) F dX7_fill_3 (by decide) ?_
  refine z_callS F [.int (zI x), .int (zI 0), .int (zI 600)] [.ref 16] (c_X7_in F.2.2.1 G (a := x) (b := 0) (c := 600) (by omega) (by omega) (by omega) (zAll s t o)) cs_X7_63 rfl ⟨by decide, by decide⟩ ⟨by decide, by decide⟩ (Nat.le_of_ble_eq_true rfl) dX7_fill_6 z_nx (z_ki (fun x_1 M_1 h_1 => ?_))
  have hx9 := (h_1).1.symm
  have hm9 := (h_1).2.symm
  subst hx9
  subst hm9
  have hz : zR (if 0 ≤ x ∧ x ≤ 600 then 1 else 0) := zR_if
  refine z_if_eq F 16 dX7_fill_9 (by decide) (by omega) (fun c_2 => ?_) (fun c_2 => ?_)
  · skip
    have hq9 : ¬ (0 ≤ x ∧ x ≤ 600) := fun h => by rw [if_pos h] at c_2; omega
    refine z_iconst (z := 1) F dX7_fill_16 (by decide) ?_
    refine z_callV F [.int (zI 1)] [] (c_X7_isFine F.2.2.1 G (s := s) (t := t) (o := o) (p := 1) ⟨by decide, by decide⟩) cv_X7_77 (zAll_16 s t o) rfl rfl rfl ⟨by decide, by decide⟩ ⟨by decide, by decide⟩ (Nat.le_of_ble_eq_true rfl) dX7_fill_17 z_nx (z_ki (fun x_3 M_3 h_3 => ?_))
    have hx9 := (h_3).1.symm
    have hm9 := (h_3).2.symm
    subst hx9
    subst hm9
    refine z_ti (y := 0) (if_neg (by decide)) ?_
    refine z_if_ne F 25 dX7_fill_20 (by decide) ⟨by decide, by decide⟩ (fun c_4 => ?_) (fun c_4 => ?_)
    · skip
      omega
    · skip
      refine z_iconst (z := 0) F dX7_fill_23 (by decide) ?_
      exact z_reti F rfl (by first | decide | assumption | omega) (by first | decide | assumption | omega) dX7_fill_24 ⟨_, rfl, zY_of (k := 1) (v := 0) (if_neg (by omega)) (zB_u hb9 (by omega)) (hr.x (by omega) 0 0 1) rfl (fun h => absurd h (by decide))⟩
  · skip
    have hq9 : 0 ≤ x ∧ x ≤ 600 := Classical.byContradiction fun h => by rw [if_neg h] at c_2; omega
    refine z_iconst (z := 0) F dX7_fill_12 (by decide) ?_
    refine z_goto F 17 dX7_fill_13 (by decide) ?_
    refine z_callV F [.int (zI 0)] [] (c_X7_isFine F.2.2.1 G (s := s) (t := t) (o := o) (p := 0) ⟨by decide, by decide⟩) cv_X7_77 (zAll_16 s t o) rfl rfl rfl ⟨by decide, by decide⟩ ⟨by decide, by decide⟩ (Nat.le_of_ble_eq_true rfl) dX7_fill_17 z_nx (z_ki (fun x_5 M_5 h_5 => ?_))
    have hx9 := (h_5).1.symm
    have hm9 := (h_5).2.symm
    subst hx9
    subst hm9
    refine z_ti (y := 1) (if_pos rfl) ?_
    refine z_if_ne F 25 dX7_fill_20 (by decide) ⟨by decide, by decide⟩ (fun c_6 => ?_) (fun c_6 => ?_)
    · skip
      have hpw : 2 ^ (c 4 0 0).toNat ≤ 256 := by
        have h9 : (2 : Nat) ^ (c 4 0 0).toNat ≤ 2 ^ 8 := Nat.pow_le_pow_right (by decide) (by omega)
        exact h9
      have hpw1 : 1 ≤ 2 ^ (c 4 0 0).toNat := Nat.one_le_two_pow
      have hb0 : zB (zsu t 25 0 0 0) := zB_u hb9 (by omega)
      have hsm := (hr.x (f := 25) (by omega) 0 0 0).1
      refine z_iconst (z := 0) F dX7_fill_25 (by decide) ?_
      refine z_istore_n F [(2, .int (zI 0)), (0, .ref 16), (1, .int (zI x))] dX7_fill_26 rfl (by decide) rfl ?_
      refine z_iconst (z := 0) F dX7_fill_27 (by decide) ?_
      refine z_istore_n F [(3, .int (zI 0)), (2, .int (zI 0)), (0, .ref 16), (1, .int (zI x))] dX7_fill_28 rfl (by decide) rfl ?_
      refine z_iconst (z := 0) F dX7_fill_29 (by decide) ?_
      refine z_istore F [(4, .int (zI 0)), (3, .int (zI 0)), (2, .int (zI 0)), (0, .ref 16), (1, .int (zI x))] dX7_fill_30 (by decide) rfl ?_
      have L1 : ∀ (fuel : Nat) (w : Int) (b : Int) (g : Int), (((2 ^ (c 4 0 0).toNat : Nat) : Int) - w).toNat < fuel → 0 ≤ w → w ≤ ((2 ^ (c 4 0 0).toNat : Nat) : Int) → zFil c x w.toNat = (b, g) → 0 ≤ g ∧ g ≤ 8000 → zJ k G rX7_fill 7 (zMQ k G rX7_fill (zRi (zY s o (xAsk c (0 ≤ x ∧ x ≤ 600) (zFil c x (2 ^ (c 4 0 0).toNat)).1))) zN) (zAll s (zsu t 25 0 0 0) o) 0 0 32 [(0, .ref 16), (1, .int (zI x)), (2, .int (zI b)), (3, .int (zI g)), (4, .int (zI w))] [] := by
        intro fuel
        induction fuel with
        | zero => intros; omega
        | succ fuel L1_ih =>
          intro w b g hfuel hw1 hw2 hw3 hg
          refine z_iload F 4 dX7_fill_32 rfl ?_
          refine z_iconst (z := 1) F dX7_fill_34 (by decide) ?_
          refine z_aload_n F 0 dX7_fill_35 rfl rfl ?_
          refine z_get F fl_X7_60 (zAll_16 s (zsu t 25 0 0 0) o) rfl dX7_fill_36 ?_
          refine z_ti (y := c 4 0 0) e4 ?_
          refine z_ishl F (((2 ^ (c 4 0 0).toNat : Nat) : Int)) dX7_fill_39 (zI_bitI (by omega) (by omega)) ?_
          refine z_icmp_ge F 114 dX7_fill_40 (by decide) (by omega) (by omega) (fun c_7 => ?_) (fun c_7 => ?_)
          · skip
            refine z_iload_n F 2 dX7_fill_114 rfl rfl ?_
            exact z_reti F rfl (by first | decide | assumption | omega) (by first | decide | assumption | omega) dX7_fill_115 ⟨_, rfl, zY_of (k := 0) (v := (zFil c x (2 ^ (c 4 0 0).toNat)).1) (if_pos (by omega)) (zB_u hb9 (by omega)) (hr.x (by omega) 0 0 0) rfl (fun _ => (by rw [show 2 ^ (c 4 0 0).toNat = w.toNat by omega, hw3]))⟩
          · skip
            have hwe : ((w.toNat : Nat) : Int) = w := by omega
            have hpr := zFil_r hI.c x w.toNat
            rw [hw3] at hpr
            dsimp only at hpr
            refine z_iconst (z := 0) F dX7_fill_43 (by decide) ?_
            refine z_istore F [(5, .int (zI 0)), (0, .ref 16), (1, .int (zI x)), (2, .int (zI b)), (3, .int (zI g)), (4, .int (zI w))] dX7_fill_44 (by decide) rfl ?_
            refine z_iconst (z := 0) F dX7_fill_46 (by decide) ?_
            refine z_istore F [(6, .int (zI 0)), (5, .int (zI 0)), (0, .ref 16), (1, .int (zI x)), (2, .int (zI b)), (3, .int (zI g)), (4, .int (zI w))] dX7_fill_47 (by decide) rfl ?_
            have L2 : ∀ (fuel : Nat) (i : Int) (u : Int), (c 4 0 0 - i).toNat < fuel → 0 ≤ i → i ≤ c 4 0 0 → u = zSum c w.toNat i.toNat → zJ k G rX7_fill 7 (zMQ k G rX7_fill (zRi (zY s o (xAsk c (0 ≤ x ∧ x ≤ 600) (zFil c x (2 ^ (c 4 0 0).toNat)).1))) zN) (zAll s (zsu t 25 0 0 0) o) 0 0 49 [(0, .ref 16), (1, .int (zI x)), (2, .int (zI b)), (3, .int (zI g)), (4, .int (zI w)), (5, .int (zI u)), (6, .int (zI i))] [] := by
              intro fuel
              induction fuel with
              | zero => intros; omega
              | succ fuel L2_ih =>
                intro i u hfuel hi1 hi2 hu
                refine z_iload F 6 dX7_fill_49 rfl ?_
                refine z_aload_n F 0 dX7_fill_51 rfl rfl ?_
                refine z_get F fl_X7_60 (zAll_16 s (zsu t 25 0 0 0) o) rfl dX7_fill_52 ?_
                refine z_ti (y := c 4 0 0) e4 ?_
                refine z_icmp_ge F 90 dX7_fill_55 (by decide) (by omega) (by omega) (fun c_8 => ?_) (fun c_8 => ?_)
                · skip
                  have hue : u = zSum c w.toNat (c 4 0 0).toNat := by rw [hu, show i = c 4 0 0 by omega]
                  have hur := zSum_r hI.c w.toNat (c 4 0 0).toNat
                  refine z_iload F 5 dX7_fill_90 rfl ?_
                  refine z_iload_n F 1 dX7_fill_92 rfl rfl ?_
                  refine z_icmp_gt F 108 dX7_fill_93 (by decide) (by omega) (by omega) (fun c_9 => ?_) (fun c_9 => ?_)
                  · skip
                    have hst : zFil c x (w + 1).toNat = (b, g) := by
                      rw [show (w + 1).toNat = w.toNat + 1 by omega, zFil, hw3, if_neg (by dsimp only; omega)]
                    refine z_iinc F 4 [(4, .int (zI (w + 1))), (0, .ref 16), (1, .int (zI x)), (2, .int (zI b)), (3, .int (zI g)), (5, .int (zI u)), (6, .int (zI i))] dX7_fill_108 rfl (by decide) rfl ?_
                    refine z_goto F 32 dX7_fill_111 (by decide) ?_
                    refine z_lv [(0, .ref 16), (1, .int (zI x)), (2, .int (zI b)), (3, .int (zI g)), (4, .int (zI (w + 1)))] [1, 2, 3, 4, 0] rfl ?_
                    exact L1_ih (w + 1) b g (by omega) (by omega) (by omega) hst (by omega)
                  · skip
                    refine z_iload F 5 dX7_fill_96 rfl ?_
                    refine z_iload_n F 3 dX7_fill_98 rfl rfl ?_
                    refine z_icmp_le F 108 dX7_fill_99 (by decide) (by omega) (by omega) (fun c_10 => ?_) (fun c_10 => ?_)
                    · skip
                      have hst : zFil c x (w + 1).toNat = (b, g) := by
                        rw [show (w + 1).toNat = w.toNat + 1 by omega, zFil, hw3, if_neg (by dsimp only; omega)]
                      refine z_iinc F 4 [(4, .int (zI (w + 1))), (0, .ref 16), (1, .int (zI x)), (2, .int (zI b)), (3, .int (zI g)), (5, .int (zI u)), (6, .int (zI i))] dX7_fill_108 rfl (by decide) rfl ?_
                      refine z_goto F 32 dX7_fill_111 (by decide) ?_
                      refine z_lv [(0, .ref 16), (1, .int (zI x)), (2, .int (zI b)), (3, .int (zI g)), (4, .int (zI (w + 1)))] [1, 2, 3, 4, 0] rfl ?_
                      exact L1_ih (w + 1) b g (by omega) (by omega) (by omega) hst (by omega)
                    · skip
                      have hst : zFil c x (w + 1).toNat = (w, u) := by
                        rw [show (w + 1).toNat = w.toNat + 1 by omega, zFil, hw3, if_pos (by dsimp only; omega), hwe, ← hue]
                      refine z_iload F 4 dX7_fill_102 rfl ?_
                      refine z_istore_n F [(2, .int (zI w)), (0, .ref 16), (1, .int (zI x)), (3, .int (zI g)), (4, .int (zI w)), (5, .int (zI u)), (6, .int (zI i))] dX7_fill_104 rfl (by decide) rfl ?_
                      refine z_iload F 5 dX7_fill_105 rfl ?_
                      refine z_istore_n F [(3, .int (zI u)), (2, .int (zI w)), (0, .ref 16), (1, .int (zI x)), (4, .int (zI w)), (5, .int (zI u)), (6, .int (zI i))] dX7_fill_107 rfl (by decide) rfl ?_
                      refine z_iinc F 4 [(4, .int (zI (w + 1))), (3, .int (zI u)), (2, .int (zI w)), (0, .ref 16), (1, .int (zI x)), (5, .int (zI u)), (6, .int (zI i))] dX7_fill_108 rfl (by decide) rfl ?_
                      refine z_goto F 32 dX7_fill_111 (by decide) ?_
                      refine z_lv [(0, .ref 16), (1, .int (zI x)), (2, .int (zI w)), (3, .int (zI u)), (4, .int (zI (w + 1)))] [3, 4, 2, 1, 0] rfl ?_
                      exact L1_ih (w + 1) w u (by omega) (by omega) (by omega) hst (by omega)
                · skip
                  have hur := zSum_r hI.c w.toNat i.toNat
                  have hli := hI.c.len i.toNat
                  refine z_iload F 5 dX7_fill_58 rfl ?_
                  refine z_iload F 4 dX7_fill_60 rfl ?_
                  refine z_ti (y := ((w.toNat : Nat) : Int)) (by omega) ?_
                  refine z_iload F 6 dX7_fill_62 rfl ?_
                  refine z_ishr F (((w.toNat / 2 ^ i.toNat : Nat) : Int)) dX7_fill_64 (zI_shrI (by omega) (by omega) (by omega)) ?_
                  refine z_iconst (z := 1) F dX7_fill_65 (by decide) ?_
                  refine z_iand F (((w.toNat / 2 ^ i.toNat % 2 : Nat) : Int)) dX7_fill_66 (zI_and1 _) ?_
                  refine z_iconst (z := 1) F dX7_fill_67 (by decide) ?_
                  have hbr : zR ((w.toNat / 2 ^ i.toNat % 2 : Nat) : Int) := by constructor <;> omega
                  refine z_icmp_ne F 80 dX7_fill_68 (by decide) (by omega) ⟨by decide, by decide⟩ (fun c_11 => ?_) (fun c_11 => ?_)
                  · skip
                    have hbit : ¬ zBit w.toNat i.toNat = true := fun h => by
                      have h9 := beq_iff_eq.mp h
                      rw [h9] at c_11
                      exact c_11 rfl
                    refine z_iconst (z := 0) F dX7_fill_80 (by decide) ?_
                    refine z_iadd F dX7_fill_81 ?_
                    refine z_istore F [(5, .int (zI (u + 0))), (0, .ref 16), (1, .int (zI x)), (2, .int (zI b)), (3, .int (zI g)), (4, .int (zI w)), (6, .int (zI i))] dX7_fill_82 (by decide) rfl ?_
                    refine z_iinc F 6 [(6, .int (zI (i + 1))), (5, .int (zI (u + 0))), (0, .ref 16), (1, .int (zI x)), (2, .int (zI b)), (3, .int (zI g)), (4, .int (zI w))] dX7_fill_84 rfl (by decide) rfl ?_
                    refine z_goto F 49 dX7_fill_87 (by decide) ?_
                    refine z_lv [(0, .ref 16), (1, .int (zI x)), (2, .int (zI b)), (3, .int (zI g)), (4, .int (zI w)), (5, .int (zI (u + 0))), (6, .int (zI (i + 1)))] [2, 3, 4, 5, 6, 1, 0] rfl ?_
                    exact L2_ih (i + 1) (u + 0) (by omega) (by omega) (by omega) (by rw [show (i + 1).toNat = i.toNat + 1 by omega, zSum, ← hu]; first | rw [if_pos hbit] | rw [if_neg hbit] | (rw [if_neg hbit]; omega))
                  · skip
                    have hbit : zBit w.toNat i.toNat = true := by unfold zBit; exact beq_iff_eq.mpr (by omega)
                    refine z_aload_n F 0 dX7_fill_71 rfl rfl ?_
                    refine z_iload F 6 dX7_fill_72 rfl ?_
                    refine z_ti (y := ((i.toNat : Nat) : Int)) (by omega) ?_
                    refine z_callV F [.int (zI (((i.toNat : Nat) : Int)))] [.int (zI u)] (c_X7_length F.2.2.1 G (s := s) (t := (zsu t 25 0 0 0)) (o := o) hc hb0 (a := i.toNat) (by omega)) cv_X7_87 (zAll_16 s (zsu t 25 0 0 0) o) rfl rfl rfl ⟨by decide, by decide⟩ ⟨by decide, by decide⟩ (Nat.le_of_ble_eq_true rfl) dX7_fill_74 z_nx (z_ki (fun x_12 M_12 h_12 => ?_))
                    have hx9 := (h_12).1.symm
                    have hm9 := (h_12).2.symm
                    subst hx9
                    subst hm9
                    refine z_ti (y := zLen c i.toNat) (hsm.le _) ?_
                    refine z_goto F 81 dX7_fill_77 (by decide) ?_
                    refine z_iadd F dX7_fill_81 ?_
                    refine z_istore F [(5, .int (zI (u + (zLen c i.toNat)))), (0, .ref 16), (1, .int (zI x)), (2, .int (zI b)), (3, .int (zI g)), (4, .int (zI w)), (6, .int (zI i))] dX7_fill_82 (by decide) rfl ?_
                    refine z_iinc F 6 [(6, .int (zI (i + 1))), (5, .int (zI (u + (zLen c i.toNat)))), (0, .ref 16), (1, .int (zI x)), (2, .int (zI b)), (3, .int (zI g)), (4, .int (zI w))] dX7_fill_84 rfl (by decide) rfl ?_
                    refine z_goto F 49 dX7_fill_87 (by decide) ?_
                    refine z_lv [(0, .ref 16), (1, .int (zI x)), (2, .int (zI b)), (3, .int (zI g)), (4, .int (zI w)), (5, .int (zI (u + (zLen c i.toNat)))), (6, .int (zI (i + 1)))] [2, 3, 4, 5, 6, 1, 0] rfl ?_
                    exact L2_ih (i + 1) (u + (zLen c i.toNat)) (by omega) (by omega) (by omega) (by rw [show (i + 1).toNat = i.toNat + 1 by omega, zSum, ← hu]; first | rw [if_pos hbit] | rw [if_neg hbit] | (rw [if_neg hbit]; omega))
            refine z_lv [(0, .ref 16), (1, .int (zI x)), (2, .int (zI b)), (3, .int (zI g)), (4, .int (zI w)), (5, .int (zI 0)), (6, .int (zI 0))] [2, 3, 4, 5, 6, 1, 0] rfl ?_
            exact L2 _ 0 0 (Nat.lt_succ_self _) (by omega) (by omega) rfl
      refine z_lv [(0, .ref 16), (1, .int (zI x)), (2, .int (zI 0)), (3, .int (zI 0)), (4, .int (zI 0))] [3, 4, 2, 1, 0] rfl ?_
      exact L1 _ 0 0 0 (Nat.lt_succ_self _) (by omega) (by omega) rfl (by omega)
    · skip
      omega

abbrev rX7_peak : Room := { frames := 0, cells := 0, slots := 0, locals := 0 }
set_option maxRecDepth 100000 in
set_option maxHeartbeats 4000000 in
theorem c_X7_peak {l : Launch} (hfl : l.stackTraces = false) (G : zG) {s t c : zS} {o : zOx} (hc : zC1 t) (hb9 : zB t) (hI : zInv c) (hr : zRel c t) (h3 : ∀ j, t 3 j 0 ≤ 600)   : zCn l G yX7_peak (.code yX7_peak cX7_peak 6 (some .int)) rX7_peak [.ref 16] (zAll s t o) (zRi (zY s o (0, (zPk c 600).1, c))) zN := by
  refine zStart hfl (by decide) (own := RX7) rfl [(0, .ref 16)] (Nat.le_of_ble_eq_true rfl) rfl (fun k hkl hinit hk0 F => ?_)
  have hn0 := hc.1
  have hn4 := hc.2.1
  have hn9 := hc.2.2.1
  have hn14 := hc.2.2.2.1
  have hn18 := hc.2.2.2.2.1
  have e0 := hr.1 0 0 0 (by omega)
  have e4 := hr.1 4 0 0 (by omega)
  have e9 := hr.1 9 0 0 (by omega)
  have e14 := hr.2.1
  refine z_aload_n F 0 dX7_peak_0 rfl rfl ?_
  refine z_iconst (z := 0) F dX7_peak_1 (by decide) ?_
  refine z_put (ty := .int) F [.ref 17, .ref 18, .ref 19, .int (zI (t 0 0 0)), .ref 20, .ref 21, .ref 22, .ref 23, .int (zI (t 4 0 0)), .ref 24, .ref 25, .ref 26, .ref 27, .int (zI (t 9 0 0)), .ref 28, .ref 29, .ref 30, .ref 31, .int (zI (t 14 0 0)), .int (zI (t 23 0 0)), .int (zI (t 24 0 0)), .int (zI 0)] fl_X7_56 tyX7 tyX7_ok nmX7 rfl (by decide +kernel) rfl rfl (zAll_16 s t o) (Nat.le_of_ble_eq_true rfl) rfl dX7_peak_2 ?_
  have hm_1_s := zu_s (zAll s t o) 16 (zOb 8 [.ref 17, .ref 18, .ref 19, .int (zI (t 0 0 0)), .ref 20, .ref 21, .ref 22, .ref 23, .int (zI (t 4 0 0)), .ref 24, .ref 25, .ref 26, .ref 27, .int (zI (t 9 0 0)), .ref 28, .ref 29, .ref 30, .ref 31, .int (zI (t 14 0 0)), .int (zI (t 23 0 0)), .int (zI (t 24 0 0)), .int (zI 0)])
  refine z_M (M' := (zAll s (zsu t 25 0 0 0) o)) zMH_25 ?_
  refine z_iconst (z := 0) F dX7_peak_5 (by decide) ?_
  refine z_istore_n F [(1, .int (zI 0)), (0, .ref 16)] dX7_peak_6 rfl (by decide) rfl ?_
  refine z_iconst (z := 0) F dX7_peak_7 (by decide) ?_
  refine z_istore_n F [(2, .int (zI 0)), (1, .int (zI 0)), (0, .ref 16)] dX7_peak_8 rfl (by decide) rfl ?_
  refine z_iconst (z := 0) F dX7_peak_9 (by decide) ?_
  refine z_istore_n F [(3, .int (zI 0)), (2, .int (zI 0)), (1, .int (zI 0)), (0, .ref 16)] dX7_peak_10 rfl (by decide) rfl ?_
  have L1 : ∀ (fuel : Nat) (w : Int) (b : Int) (m : Int), (600 - w).toNat < fuel → 0 ≤ w → w ≤ 600 → zPk c w.toNat = (b, m) → zJ k G rX7_peak 6 (zMQ k G rX7_peak (zRi (zY s o (0, (zPk c 600).1, c))) zN) (zAll s (zsu t 25 0 0 0) o) 0 0 11 [(0, .ref 16), (1, .int (zI b)), (2, .int (zI m)), (3, .int (zI w))] [] := by
    intro fuel
    induction fuel with
    | zero => intros; omega
    | succ fuel L1_ih =>
      intro w b m hfuel hw1 hw2 hw3
      refine z_iload_n F 3 dX7_peak_11 rfl rfl ?_
      refine z_sipush (z := 600) F dX7_peak_12 (by decide) ?_
      refine z_icmp_ge F 80 dX7_peak_15 (by decide) (by omega) ⟨by decide, by decide⟩ (fun c_2 => ?_) (fun c_2 => ?_)
      · skip
        refine z_iload_n F 1 dX7_peak_80 rfl rfl ?_
        exact z_reti F rfl (by first | decide | assumption | omega) (by first | decide | assumption | omega) dX7_peak_81 ⟨_, rfl, zY_of (k := 0) (v := (zPk c 600).1) rfl (zB_u hb9 (by omega)) (hr.x (by omega) 0 0 0) rfl (fun _ => by rw [show (600 : Nat) = w.toNat by omega, hw3])⟩
      · skip
        refine z_iconst (z := 0) F dX7_peak_18 (by decide) ?_
        refine z_istore F [(4, .int (zI 0)), (0, .ref 16), (1, .int (zI b)), (2, .int (zI m)), (3, .int (zI w))] dX7_peak_19 (by decide) rfl ?_
        refine z_iconst (z := 0) F dX7_peak_21 (by decide) ?_
        refine z_istore F [(5, .int (zI 0)), (4, .int (zI 0)), (0, .ref 16), (1, .int (zI b)), (2, .int (zI m)), (3, .int (zI w))] dX7_peak_22 (by decide) rfl ?_
        have L2 : ∀ (fuel : Nat) (i : Int) (u : Int), (4 - i).toNat < fuel → 0 ≤ i → i ≤ 4 → u = zTkn c w.toNat i.toNat → zJ k G rX7_peak 6 (zMQ k G rX7_peak (zRi (zY s o (0, (zPk c 600).1, c))) zN) (zAll s (zsu t 25 0 0 0) o) 0 0 24 [(0, .ref 16), (1, .int (zI b)), (2, .int (zI m)), (3, .int (zI w)), (4, .int (zI u)), (5, .int (zI i))] [] := by
          intro fuel
          induction fuel with
          | zero => intros; omega
          | succ fuel L2_ih =>
            intro i u hfuel hi1 hi2 hu
            refine z_iload F 5 dX7_peak_24 rfl ?_
            refine z_iconst (z := 4) F dX7_peak_26 (by decide) ?_
            refine z_icmp_ge F 63 dX7_peak_27 (by decide) (by omega) ⟨by decide, by decide⟩ (fun c_3 => ?_) (fun c_3 => ?_)
            · skip
              have hue : u = zTkn c w.toNat 4 := by rw [hu, show i = 4 by omega]; rfl
              have hur := zTkn_r c w.toNat 4
              have hpr := zPk_r c w.toNat
              rw [hw3] at hpr
              dsimp only at hpr
              refine z_iload F 4 dX7_peak_63 rfl ?_
              refine z_iload_n F 2 dX7_peak_65 rfl rfl ?_
              refine z_icmp_le F 74 dX7_peak_66 (by decide) (by omega) (by omega) (fun c_4 => ?_) (fun c_4 => ?_)
              · skip
                have hst : zPk c (w + 1).toNat = (b, m) := by
                  rw [show (w + 1).toNat = w.toNat + 1 by omega, zPk, hw3, if_neg (by dsimp only; omega)]
                refine z_iinc F 3 [(3, .int (zI (w + 1))), (0, .ref 16), (1, .int (zI b)), (2, .int (zI m)), (4, .int (zI u)), (5, .int (zI i))] dX7_peak_74 rfl (by decide) rfl ?_
                refine z_goto F 11 dX7_peak_77 (by decide) ?_
                refine z_lv [(0, .ref 16), (1, .int (zI b)), (2, .int (zI m)), (3, .int (zI (w + 1)))] [1, 2, 3, 0] rfl ?_
                exact L1_ih (w + 1) b m (by omega) (by omega) (by omega) hst
              · skip
                have hst : zPk c (w + 1).toNat = (w, u) := by
                  rw [show (w + 1).toNat = w.toNat + 1 by omega, zPk, hw3, if_pos (by dsimp only; omega), show ((w.toNat : Nat) : Int) = w by omega, ← hue]
                refine z_iload_n F 3 dX7_peak_69 rfl rfl ?_
                refine z_istore_n F [(1, .int (zI w)), (0, .ref 16), (2, .int (zI m)), (3, .int (zI w)), (4, .int (zI u)), (5, .int (zI i))] dX7_peak_70 rfl (by decide) rfl ?_
                refine z_iload F 4 dX7_peak_71 rfl ?_
                refine z_istore_n F [(2, .int (zI u)), (1, .int (zI w)), (0, .ref 16), (3, .int (zI w)), (4, .int (zI u)), (5, .int (zI i))] dX7_peak_73 rfl (by decide) rfl ?_
                refine z_iinc F 3 [(3, .int (zI (w + 1))), (2, .int (zI u)), (1, .int (zI w)), (0, .ref 16), (4, .int (zI u)), (5, .int (zI i))] dX7_peak_74 rfl (by decide) rfl ?_
                refine z_goto F 11 dX7_peak_77 (by decide) ?_
                refine z_lv [(0, .ref 16), (1, .int (zI w)), (2, .int (zI u)), (3, .int (zI (w + 1)))] [3, 2, 1, 0] rfl ?_
                exact L1_ih (w + 1) w u (by omega) (by omega) (by omega) hst
            · skip
              have hur := zTkn_r c w.toNat i.toNat
              refine z_iload F 4 dX7_peak_30 rfl ?_
              refine z_aload_n F 0 dX7_peak_32 rfl rfl ?_
              refine z_get F fl_X7_47 (zAll_16 s (zsu t 25 0 0 0) o) rfl dX7_peak_33 ?_
              refine z_sipush (z := 600) F dX7_peak_36 (by decide) ?_
              refine z_iload F 5 dX7_peak_39 rfl ?_
              refine z_imul F dX7_peak_41 ?_
              refine z_iload_n F 3 dX7_peak_42 rfl rfl ?_
              refine z_iadd F dX7_peak_43 ?_
              refine z_iald F (zAll_29 s (zsu t 25 0 0 0) o) (by omega) (by omega) (by decide) dX7_peak_44 ?_
              refine z_ti (y := c 21 i.toNat w.toNat) (by show (if _ then t 21 _ _ else 0) = _; rw [if_pos (show (600 * i + w).toNat < 2400 by omega), show (600 * i + w).toNat / 600 = i.toNat by omega, show (600 * i + w).toNat % 600 = w.toNat by omega]; exact hr.1 21 _ _ (by omega)) ?_
              refine z_iconst (z := -1) F dX7_peak_45 (by decide) ?_
              have hb21 := hI.b 21 i.toNat w.toNat
              refine z_icmp_ne F 53 dX7_peak_46 (by decide) (by omega) ⟨by decide, by decide⟩ (fun c_5 => ?_) (fun c_5 => ?_)
              · skip
                have hcd : ¬ c 21 i.toNat w.toNat = -1 := c_5
                refine z_iconst (z := 1) F dX7_peak_53 (by decide) ?_
                refine z_iadd F dX7_peak_54 ?_
                refine z_istore F [(4, .int (zI (u + 1))), (0, .ref 16), (1, .int (zI b)), (2, .int (zI m)), (3, .int (zI w)), (5, .int (zI i))] dX7_peak_55 (by decide) rfl ?_
                refine z_iinc F 5 [(5, .int (zI (i + 1))), (4, .int (zI (u + 1))), (0, .ref 16), (1, .int (zI b)), (2, .int (zI m)), (3, .int (zI w))] dX7_peak_57 rfl (by decide) rfl ?_
                refine z_goto F 24 dX7_peak_60 (by decide) ?_
                refine z_lv [(0, .ref 16), (1, .int (zI b)), (2, .int (zI m)), (3, .int (zI w)), (4, .int (zI (u + 1))), (5, .int (zI (i + 1)))] [2, 3, 4, 5, 1, 0] rfl ?_
                exact L2_ih (i + 1) (u + 1) (by omega) (by omega) (by omega) (by rw [show (i + 1).toNat = i.toNat + 1 by omega, zTkn, ← hu]; first | rw [if_neg hcd] | (rw [if_pos hcd]))
              · skip
                have hcd : c 21 i.toNat w.toNat = -1 := c_5
                refine z_iconst (z := 0) F dX7_peak_49 (by decide) ?_
                refine z_goto F 54 dX7_peak_50 (by decide) ?_
                refine z_iadd F dX7_peak_54 ?_
                refine z_istore F [(4, .int (zI (u + 0))), (0, .ref 16), (1, .int (zI b)), (2, .int (zI m)), (3, .int (zI w)), (5, .int (zI i))] dX7_peak_55 (by decide) rfl ?_
                refine z_iinc F 5 [(5, .int (zI (i + 1))), (4, .int (zI (u + 0))), (0, .ref 16), (1, .int (zI b)), (2, .int (zI m)), (3, .int (zI w))] dX7_peak_57 rfl (by decide) rfl ?_
                refine z_goto F 24 dX7_peak_60 (by decide) ?_
                refine z_lv [(0, .ref 16), (1, .int (zI b)), (2, .int (zI m)), (3, .int (zI w)), (4, .int (zI (u + 0))), (5, .int (zI (i + 1)))] [2, 3, 4, 5, 1, 0] rfl ?_
                exact L2_ih (i + 1) (u + 0) (by omega) (by omega) (by omega) (by rw [show (i + 1).toNat = i.toNat + 1 by omega, zTkn, ← hu]; first | rw [if_neg hcd] | (rw [if_pos hcd]))
        refine z_lv [(0, .ref 16), (1, .int (zI b)), (2, .int (zI m)), (3, .int (zI w)), (4, .int (zI 0)), (5, .int (zI 0))] [2, 3, 4, 5, 1, 0] rfl ?_
        exact L2 _ 0 0 (Nat.lt_succ_self _) (by omega) (by omega) rfl
  refine z_lv [(0, .ref 16), (1, .int (zI 0)), (2, .int (zI 0)), (3, .int (zI 0))] [3, 2, 1, 0] rfl ?_
  exact L1 _ 0 0 0 (Nat.lt_succ_self _) (by omega) (by omega) rfl

