/-! ===== the model: staff, services, steps, requests ===== -/
theorem zSm.H {c t : zS} (h : zSm c t) (a b d : Int) : zSm (zOpH c a b d) (zOpH t a b d) := by
  unfold zOpH
  rw [h 0 0 0 (by omega)]
  exact (((h.u _ _ _ _).u _ _ _ _).u _ _ _ _).u _ _ _ _
theorem zSm.P {c t : zS} (h : zSm c t) (a : Nat) (k m : Int) : zSm (zOpP c a k m) (zOpP t a k m) := by
  unfold zOpP
  rw [h 5 a 0 (by omega)]
  exact ((h.u _ _ _ _).u _ _ _ _).u _ _ _ _
theorem zPN {s : zS} {a : Nat} {k m v : Int} : zsu (zOpP s a k m) 4 0 0 v = zOpP (zsu s 4 0 0 v) a k m := by
  funext g p q
  show zsu (zsu (zsu (zsu s 6 a (s 5 a 0).toNat k) 7 a (s 5 a 0).toNat m) 5 a 0 (s 5 a 0 + 1)) 4 0 0 v g p q = zsu (zsu (zsu (zsu s 4 0 0 v) 6 a (s 5 a 0).toNat k) 7 a (s 5 a 0).toNat m) 5 a 0 (s 5 a 0 + 1) g p q
  by_cases h4 : g = 4 ∧ p = 0 ∧ q = 0
  · obtain ⟨rfl, rfl, rfl⟩ := h4
    rfl
  · unfold zsu
    rw [if_neg h4, if_neg h4]
theorem zRel.P {c t : zS} (h : zRel c t) (a : Nat) (k m : Int) : zRel (zOpP c a k m) (zOpP t a k m) := ⟨h.1.P a k m, h.2.1, h.2.2⟩
theorem zRel.N {c t : zS} (h : zRel c t) {v : Int} (hv : v = c 4 0 0 + 1) : zRel (zOpN c) (zsu t 4 0 0 v) := by
  subst hv
  exact ⟨h.1.u _ _ _ _, h.2.1, h.2.2⟩
theorem zB_P {t : zS} {a : Nat} {k m : Int} (h : zB t) (h5 : 0 ≤ t 5 a 0 ∧ t 5 a 0 < 5) (hk : -1 ≤ k ∧ k ≤ 3) (hm : 1 ≤ m ∧ m ≤ 200) : zB (zOpP t a k m) := zB_u (zB_u (zB_u h (by omega)) (by omega)) (by omega)
theorem zRel.Q {c t : zS} (h : zRel c t) {a : Nat} {b l v : Int} {n : Nat} (hb : b = (a : Int)) (hn : n = (c 14 0 0).toNat) (hv : v = c 14 0 0 + 1) (h0 : 0 ≤ c 14 0 0) : zRel (zOpQ c a l) (zsu (zsu (zsu (zsu t 15 n 0 b) 16 n 0 l) 8 a 0 1) 14 0 0 v) := by
  subst hb hn hv
  refine ⟨?_, rfl, fun i hi => ?_⟩
  · have hX := ((((((((h.1.l (f := 15) (by omega) (c 14 0 0).toNat 0 a).l (f := 16) (by omega) (c 14 0 0).toNat 0 l).l (f := 17) (by omega) (c 14 0 0).toNat 0 (c 18 0 0)).l (f := 19) (by omega) (c 18 0 0).toNat 0 a).l (f := 20) (by omega) (c 18 0 0).toNat 0 l).l (f := 18) (by omega) 0 0 (c 18 0 0 + 1)).l (f := 14) (by omega) 0 0 (c 14 0 0 + 1)).r (f := 15) (by omega) (c 14 0 0).toNat 0 a).r (f := 16) (by omega) (c 14 0 0).toNat 0 l
    exact (hX.u 8 a 0 1).r (by omega) 0 0 _
  · have hi2 : (i : Int) < c 14 0 0 + 1 := hi
    by_cases e : i = (c 14 0 0).toNat
    · subst e
      have n2 : ∀ u : zS, ∀ f : Nat, ∀ b : Int, zsu u f (c 14 0 0).toNat 0 b f (c 14 0 0).toNat 0 = b := fun u f b => zsu_s u f _ 0 b
      exact ⟨(n2 t 15 a).trans (n2 c 15 a).symm, (n2 t 16 l).trans (n2 c 16 l).symm⟩
    · have h2 := h.2.2 i (by omega)
      have n1 : ∀ u : zS, ∀ f : Nat, ∀ b : Int, zsu u f (c 14 0 0).toNat 0 b f i 0 = u f i 0 := fun u f b => if_neg (fun h => e h.2.1)
      exact ⟨(n1 t 15 a).trans (h2.1.trans (n1 c 15 a).symm), (n1 t 16 l).trans (h2.2.trans (n1 c 16 l).symm)⟩
abbrev rX7_hire : Room := { frames := 1, cells := 0, slots := 0, locals := 22 }
set_option maxRecDepth 100000 in
set_option maxHeartbeats 4000000 in
theorem c_X7_hire {l : Launch} (hfl : l.stackTraces = false) (G : zG) {s t c : zS} {o : zOx} (hc : zC1 t) (hb9 : zB t) (hI : zInv c) (hr : zRel c t) (h3 : ∀ j, t 3 j 0 ≤ 600) {a b d : Int} (ha : zR a) (hb : zR b) (hd : zR d)  : zCn l G yX7_hire (.code yX7_hire cX7_hire 5 (some .int)) rX7_hire [.ref 16, .int (zI a), .int (zI b), .int (zI d)] (zAll s t o) (zRi (zY s o (xHire c a b d))) zN := by
  refine zStart hfl (by decide) (own := RX7) rfl [(0, .ref 16), (1, .int (zI a)), (2, .int (zI b)), (3, .int (zI d))] (Nat.le_of_ble_eq_true rfl) rfl (fun k hkl hinit hk0 F => ?_)
  have hn0 := hc.1
  have hn4 := hc.2.1
  have hn9 := hc.2.2.1
  have hn14 := hc.2.2.2.1
  have hn18 := hc.2.2.2.2.1
  have e0 := hr.1 0 0 0 (by omega)
  have e4 := hr.1 4 0 0 (by omega)
  have e9 := hr.1 9 0 0 (by omega)
  have e14 := hr.2.1
  refine z_iload_n F 1 dX7_hire_0 rfl rfl ?_
  refine z_iconst (z := 1) F dX7_hire_1 (by decide) ?_
  refine z_bipush (z := 15) F dX7_hire_2 (by decide) ?_
  refine z_callS F [.int (zI a), .int (zI 1), .int (zI 15)] [] (c_X7_in F.2.2.1 G (a := a) (b := 1) (c := 15) (by omega) (by omega) (by omega) (zAll s t o)) cs_X7_63 rfl ⟨by decide, by decide⟩ ⟨by decide, by decide⟩ (Nat.le_of_ble_eq_true rfl) dX7_hire_4 z_nx (z_ki (fun x_1 M_1 h_1 => ?_))
  have hx9 := (h_1).1.symm
  have hm9 := (h_1).2.symm
  subst hx9
  subst hm9
  have hz : zR (if 1 ≤ a ∧ a ≤ 15 then 1 else 0) := zR_if
  refine z_if_eq F 37 dX7_hire_7 (by decide) (by omega) (fun c_2 => ?_) (fun c_2 => ?_)
  · skip
    have hq9 : ¬ (1 ≤ a ∧ a ≤ 15) := fun h => by rw [if_pos h] at c_2; omega
    refine z_iconst (z := 0) F dX7_hire_37 (by decide) ?_
    refine z_istore F [(4, .int (zI 0)), (0, .ref 16), (1, .int (zI a)), (2, .int (zI b)), (3, .int (zI d))] dX7_hire_38 (by decide) rfl ?_
    refine z_aload_n F 1 dX7_hire_40 rfl rfl ?_
    refine z_iload F 0 dX7_hire_41 rfl ?_
    refine z_if_ne F 50 dX7_hire_43 (by decide) ⟨by decide, by decide⟩ (fun c_3 => ?_) (fun c_3 => ?_)
    · skip
      omega
    · skip
      refine z_iconst (z := 1) F dX7_hire_46 (by decide) ?_
      refine z_goto F 63 dX7_hire_47 (by decide) ?_
      refine z_callV F [.int (zI 1)] [] (c_X7_isFine F.2.2.1 G (s := s) (t := t) (o := o) (p := 1) ⟨by decide, by decide⟩) cv_X7_77 (zAll_16 s t o) rfl rfl rfl ⟨by decide, by decide⟩ ⟨by decide, by decide⟩ (Nat.le_of_ble_eq_true rfl) dX7_hire_63 z_nx (z_ki (fun x_4 M_4 h_4 => ?_))
      have hx9 := (h_4).1.symm
      have hm9 := (h_4).2.symm
      subst hx9
      subst hm9
      refine z_ti (y := 0) (if_neg (by decide)) ?_
      refine z_if_ne F 71 dX7_hire_66 (by decide) ⟨by decide, by decide⟩ (fun c_5 => ?_) (fun c_5 => ?_)
      · skip
        omega
      · skip
        refine z_iconst (z := 0) F dX7_hire_69 (by decide) ?_
        exact z_reti F rfl (by first | decide | assumption | omega) (by first | decide | assumption | omega) dX7_hire_70 ⟨_, rfl, zY_of (k := 1) (v := 0) (by unfold xHire; rw [if_neg (by omega)]) (zB_u hb9 (by omega)) (hr.x (by omega) 0 0 1) rfl (fun h => absurd h (by decide))⟩
  · skip
    have hq9 : 1 ≤ a ∧ a ≤ 15 := Classical.byContradiction fun h => by rw [if_neg h] at c_2; omega
    refine z_iload_n F 2 dX7_hire_10 rfl rfl ?_
    refine z_iconst (z := 0) F dX7_hire_11 (by decide) ?_
    refine z_sipush (z := 599) F dX7_hire_12 (by decide) ?_
    refine z_callS F [.int (zI b), .int (zI 0), .int (zI 599)] [] (c_X7_in F.2.2.1 G (a := b) (b := 0) (c := 599) (by omega) (by omega) (by omega) (zAll s t o)) cs_X7_63 rfl ⟨by decide, by decide⟩ ⟨by decide, by decide⟩ (Nat.le_of_ble_eq_true rfl) dX7_hire_15 z_nx (z_ki (fun x_6 M_6 h_6 => ?_))
    have hx9 := (h_6).1.symm
    have hm9 := (h_6).2.symm
    subst hx9
    subst hm9
    have hz : zR (if 0 ≤ b ∧ b ≤ 599 then 1 else 0) := zR_if
    refine z_if_eq F 37 dX7_hire_18 (by decide) (by omega) (fun c_7 => ?_) (fun c_7 => ?_)
    · skip
      have hq8 : ¬ (0 ≤ b ∧ b ≤ 599) := fun h => by rw [if_pos h] at c_7; omega
      refine z_iconst (z := 0) F dX7_hire_37 (by decide) ?_
      refine z_istore F [(4, .int (zI 0)), (0, .ref 16), (1, .int (zI a)), (2, .int (zI b)), (3, .int (zI d))] dX7_hire_38 (by decide) rfl ?_
      refine z_aload_n F 1 dX7_hire_40 rfl rfl ?_
      refine z_iload F 0 dX7_hire_41 rfl ?_
      refine z_if_ne F 50 dX7_hire_43 (by decide) ⟨by decide, by decide⟩ (fun c_8 => ?_) (fun c_8 => ?_)
      · skip
        omega
      · skip
        refine z_iconst (z := 1) F dX7_hire_46 (by decide) ?_
        refine z_goto F 63 dX7_hire_47 (by decide) ?_
        refine z_callV F [.int (zI 1)] [] (c_X7_isFine F.2.2.1 G (s := s) (t := t) (o := o) (p := 1) ⟨by decide, by decide⟩) cv_X7_77 (zAll_16 s t o) rfl rfl rfl ⟨by decide, by decide⟩ ⟨by decide, by decide⟩ (Nat.le_of_ble_eq_true rfl) dX7_hire_63 z_nx (z_ki (fun x_9 M_9 h_9 => ?_))
        have hx9 := (h_9).1.symm
        have hm9 := (h_9).2.symm
        subst hx9
        subst hm9
        refine z_ti (y := 0) (if_neg (by decide)) ?_
        refine z_if_ne F 71 dX7_hire_66 (by decide) ⟨by decide, by decide⟩ (fun c_10 => ?_) (fun c_10 => ?_)
        · skip
          omega
        · skip
          refine z_iconst (z := 0) F dX7_hire_69 (by decide) ?_
          exact z_reti F rfl (by first | decide | assumption | omega) (by first | decide | assumption | omega) dX7_hire_70 ⟨_, rfl, zY_of (k := 1) (v := 0) (by unfold xHire; rw [if_neg (by omega)]) (zB_u hb9 (by omega)) (hr.x (by omega) 0 0 1) rfl (fun h => absurd h (by decide))⟩
    · skip
      have hq8 : 0 ≤ b ∧ b ≤ 599 := Classical.byContradiction fun h => by rw [if_neg h] at c_7; omega
      refine z_iload_n F 3 dX7_hire_21 rfl rfl ?_
      refine z_iload_n F 2 dX7_hire_22 rfl rfl ?_
      refine z_icmp_le F 37 dX7_hire_23 (by decide) (by omega) (by omega) (fun c_11 => ?_) (fun c_11 => ?_)
      · skip
        refine z_iconst (z := 0) F dX7_hire_37 (by decide) ?_
        refine z_istore F [(4, .int (zI 0)), (0, .ref 16), (1, .int (zI a)), (2, .int (zI b)), (3, .int (zI d))] dX7_hire_38 (by decide) rfl ?_
        refine z_aload_n F 1 dX7_hire_40 rfl rfl ?_
        refine z_iload F 0 dX7_hire_41 rfl ?_
        refine z_if_ne F 50 dX7_hire_43 (by decide) ⟨by decide, by decide⟩ (fun c_12 => ?_) (fun c_12 => ?_)
        · skip
          omega
        · skip
          refine z_iconst (z := 1) F dX7_hire_46 (by decide) ?_
          refine z_goto F 63 dX7_hire_47 (by decide) ?_
          refine z_callV F [.int (zI 1)] [] (c_X7_isFine F.2.2.1 G (s := s) (t := t) (o := o) (p := 1) ⟨by decide, by decide⟩) cv_X7_77 (zAll_16 s t o) rfl rfl rfl ⟨by decide, by decide⟩ ⟨by decide, by decide⟩ (Nat.le_of_ble_eq_true rfl) dX7_hire_63 z_nx (z_ki (fun x_13 M_13 h_13 => ?_))
          have hx9 := (h_13).1.symm
          have hm9 := (h_13).2.symm
          subst hx9
          subst hm9
          refine z_ti (y := 0) (if_neg (by decide)) ?_
          refine z_if_ne F 71 dX7_hire_66 (by decide) ⟨by decide, by decide⟩ (fun c_14 => ?_) (fun c_14 => ?_)
          · skip
            omega
          · skip
            refine z_iconst (z := 0) F dX7_hire_69 (by decide) ?_
            exact z_reti F rfl (by first | decide | assumption | omega) (by first | decide | assumption | omega) dX7_hire_70 ⟨_, rfl, zY_of (k := 1) (v := 0) (by unfold xHire; rw [if_neg (by omega)]) (zB_u hb9 (by omega)) (hr.x (by omega) 0 0 1) rfl (fun h => absurd h (by decide))⟩
      · skip
        refine z_iload_n F 3 dX7_hire_26 rfl rfl ?_
        refine z_sipush (z := 600) F dX7_hire_27 (by decide) ?_
        refine z_icmp_gt F 37 dX7_hire_30 (by decide) (by omega) ⟨by decide, by decide⟩ (fun c_15 => ?_) (fun c_15 => ?_)
        · skip
          refine z_iconst (z := 0) F dX7_hire_37 (by decide) ?_
          refine z_istore F [(4, .int (zI 0)), (0, .ref 16), (1, .int (zI a)), (2, .int (zI b)), (3, .int (zI d))] dX7_hire_38 (by decide) rfl ?_
          refine z_aload_n F 1 dX7_hire_40 rfl rfl ?_
          refine z_iload F 0 dX7_hire_41 rfl ?_
          refine z_if_ne F 50 dX7_hire_43 (by decide) ⟨by decide, by decide⟩ (fun c_16 => ?_) (fun c_16 => ?_)
          · skip
            omega
          · skip
            refine z_iconst (z := 1) F dX7_hire_46 (by decide) ?_
            refine z_goto F 63 dX7_hire_47 (by decide) ?_
            refine z_callV F [.int (zI 1)] [] (c_X7_isFine F.2.2.1 G (s := s) (t := t) (o := o) (p := 1) ⟨by decide, by decide⟩) cv_X7_77 (zAll_16 s t o) rfl rfl rfl ⟨by decide, by decide⟩ ⟨by decide, by decide⟩ (Nat.le_of_ble_eq_true rfl) dX7_hire_63 z_nx (z_ki (fun x_17 M_17 h_17 => ?_))
            have hx9 := (h_17).1.symm
            have hm9 := (h_17).2.symm
            subst hx9
            subst hm9
            refine z_ti (y := 0) (if_neg (by decide)) ?_
            refine z_if_ne F 71 dX7_hire_66 (by decide) ⟨by decide, by decide⟩ (fun c_18 => ?_) (fun c_18 => ?_)
            · skip
              omega
            · skip
              refine z_iconst (z := 0) F dX7_hire_69 (by decide) ?_
              exact z_reti F rfl (by first | decide | assumption | omega) (by first | decide | assumption | omega) dX7_hire_70 ⟨_, rfl, zY_of (k := 1) (v := 0) (by unfold xHire; rw [if_neg (by omega)]) (zB_u hb9 (by omega)) (hr.x (by omega) 0 0 1) rfl (fun h => absurd h (by decide))⟩
        · skip
          refine z_iconst (z := 1) F dX7_hire_33 (by decide) ?_
          refine z_goto F 38 dX7_hire_34 (by decide) ?_
          refine z_istore F [(4, .int (zI 1)), (0, .ref 16), (1, .int (zI a)), (2, .int (zI b)), (3, .int (zI d))] dX7_hire_38 (by decide) rfl ?_
          refine z_aload_n F 1 dX7_hire_40 rfl rfl ?_
          refine z_iload F 0 dX7_hire_41 rfl ?_
          refine z_if_ne F 50 dX7_hire_43 (by decide) ⟨by decide, by decide⟩ (fun c_19 => ?_) (fun c_19 => ?_)
          · skip
            refine z_aload_n F 1 dX7_hire_50 rfl rfl ?_
            refine z_get F fl_X7_67 (zAll_16 s t o) rfl dX7_hire_51 ?_
            refine z_iconst (z := 5) F dX7_hire_54 (by decide) ?_
            refine z_icmp_ne F 62 dX7_hire_55 (by decide) (by omega) ⟨by decide, by decide⟩ (fun c_20 => ?_) (fun c_20 => ?_)
            · skip
              refine z_iconst (z := 0) F dX7_hire_62 (by decide) ?_
              refine z_callV F [.int (zI 0)] [] (c_X7_isFine F.2.2.1 G (s := s) (t := t) (o := o) (p := 0) ⟨by decide, by decide⟩) cv_X7_77 (zAll_16 s t o) rfl rfl rfl ⟨by decide, by decide⟩ ⟨by decide, by decide⟩ (Nat.le_of_ble_eq_true rfl) dX7_hire_63 z_nx (z_ki (fun x_21 M_21 h_21 => ?_))
              have hx9 := (h_21).1.symm
              have hm9 := (h_21).2.symm
              subst hx9
              subst hm9
              refine z_ti (y := 1) (if_pos rfl) ?_
              refine z_if_ne F 71 dX7_hire_66 (by decide) ⟨by decide, by decide⟩ (fun c_22 => ?_) (fun c_22 => ?_)
              · skip
                refine z_aload_n F 1 dX7_hire_71 rfl rfl ?_
                refine z_get F fl_X7_7 (zAll_16 s (zsu t 25 0 0 0) o) rfl dX7_hire_72 ?_
                refine z_aload_n F 1 dX7_hire_75 rfl rfl ?_
                refine z_get F fl_X7_67 (zAll_16 s (zsu t 25 0 0 0) o) rfl dX7_hire_76 ?_
                refine z_ti (y := ((((t 0 0 0).toNat) : Nat) : Int)) (by show t 0 0 0 = _; omega) ?_
                refine z_iload_n F 2 dX7_hire_79 rfl rfl ?_
                refine z_iast F (zAll_17 s (zsu t 25 0 0 0) o) (by omega) (by omega) (by decide) dX7_hire_80 ?_
                have hm_23_s := zu_s (zAll s (zsu t 25 0 0 0) o) 17 (zAi 0 5 (zup (fun j => (zsu t 25 0 0 0) 1 j 0) (((((t 0 0 0).toNat) : Nat) : Int)).toNat a))
                refine z_M (M' := (zAll s (zsu (zsu t 25 0 0 0) 1 (t 0 0 0).toNat 0 a) o)) ((zMA_17 (t := (zsu t 25 0 0 0))).trans (by rw [Int.toNat_natCast])) ?_
                refine z_aload_n F 1 dX7_hire_81 rfl rfl ?_
                refine z_get F fl_X7_13 (zAll_16 s (zsu (zsu t 25 0 0 0) 1 (t 0 0 0).toNat 0 a) o) rfl dX7_hire_82 ?_
                refine z_aload_n F 1 dX7_hire_85 rfl rfl ?_
                refine z_get F fl_X7_67 (zAll_16 s (zsu (zsu t 25 0 0 0) 1 (t 0 0 0).toNat 0 a) o) rfl dX7_hire_86 ?_
                refine z_ti (y := ((((t 0 0 0).toNat) : Nat) : Int)) (by show t 0 0 0 = _; omega) ?_
                refine z_iload_n F 3 dX7_hire_89 rfl rfl ?_
                refine z_iast F (zAll_18 s (zsu (zsu t 25 0 0 0) 1 (t 0 0 0).toNat 0 a) o) (by omega) (by omega) (by decide) dX7_hire_90 ?_
                have hm_24_s := zu_s (zAll s (zsu (zsu t 25 0 0 0) 1 (t 0 0 0).toNat 0 a) o) 18 (zAi 0 5 (zup (fun j => (zsu (zsu t 25 0 0 0) 1 (t 0 0 0).toNat 0 a) 2 j 0) (((((t 0 0 0).toNat) : Nat) : Int)).toNat b))
                refine z_M (M' := (zAll s (zsu (zsu (zsu t 25 0 0 0) 1 (t 0 0 0).toNat 0 a) 2 (t 0 0 0).toNat 0 b) o)) ((zMA_18 (t := (zsu (zsu t 25 0 0 0) 1 (t 0 0 0).toNat 0 a))).trans (by rw [Int.toNat_natCast])) ?_
                refine z_aload_n F 1 dX7_hire_91 rfl rfl ?_
                refine z_get F fl_X7_16 (zAll_16 s (zsu (zsu (zsu t 25 0 0 0) 1 (t 0 0 0).toNat 0 a) 2 (t 0 0 0).toNat 0 b) o) rfl dX7_hire_92 ?_
                refine z_aload_n F 1 dX7_hire_95 rfl rfl ?_
                refine z_get F fl_X7_67 (zAll_16 s (zsu (zsu (zsu t 25 0 0 0) 1 (t 0 0 0).toNat 0 a) 2 (t 0 0 0).toNat 0 b) o) rfl dX7_hire_96 ?_
                refine z_ti (y := ((((t 0 0 0).toNat) : Nat) : Int)) (by show t 0 0 0 = _; omega) ?_
                refine z_iload_n F 4 dX7_hire_99 rfl rfl ?_
                refine z_iast F (zAll_19 s (zsu (zsu (zsu t 25 0 0 0) 1 (t 0 0 0).toNat 0 a) 2 (t 0 0 0).toNat 0 b) o) (by omega) (by omega) (by decide) dX7_hire_100 ?_
                have hm_25_s := zu_s (zAll s (zsu (zsu (zsu t 25 0 0 0) 1 (t 0 0 0).toNat 0 a) 2 (t 0 0 0).toNat 0 b) o) 19 (zAi 0 5 (zup (fun j => (zsu (zsu (zsu t 25 0 0 0) 1 (t 0 0 0).toNat 0 a) 2 (t 0 0 0).toNat 0 b) 3 j 0) (((((t 0 0 0).toNat) : Nat) : Int)).toNat d))
                refine z_M (M' := (zAll s (zsu (zsu (zsu (zsu t 25 0 0 0) 1 (t 0 0 0).toNat 0 a) 2 (t 0 0 0).toNat 0 b) 3 (t 0 0 0).toNat 0 d) o)) ((zMA_19 (t := (zsu (zsu (zsu t 25 0 0 0) 1 (t 0 0 0).toNat 0 a) 2 (t 0 0 0).toNat 0 b))).trans (by rw [Int.toNat_natCast])) ?_
                refine z_aload_n F 1 dX7_hire_101 rfl rfl ?_
                refine z_dup F dX7_hire_102 rfl ?_
                refine z_get F fl_X7_67 (zAll_16 s (zsu (zsu (zsu (zsu t 25 0 0 0) 1 (t 0 0 0).toNat 0 a) 2 (t 0 0 0).toNat 0 b) 3 (t 0 0 0).toNat 0 d) o) rfl dX7_hire_103 ?_
                refine z_ti (y := t 0 0 0) rfl ?_
                refine z_iconst (z := 1) F dX7_hire_106 (by decide) ?_
                refine z_iadd F dX7_hire_107 ?_
                refine z_put (ty := .int) F [.ref 17, .ref 18, .ref 19, .int (zI ((t 0 0 0) + 1)), .ref 20, .ref 21, .ref 22, .ref 23, .int (zI ((zsu (zsu (zsu (zsu t 25 0 0 0) 1 (t 0 0 0).toNat 0 a) 2 (t 0 0 0).toNat 0 b) 3 (t 0 0 0).toNat 0 d) 4 0 0)), .ref 24, .ref 25, .ref 26, .ref 27, .int (zI ((zsu (zsu (zsu (zsu t 25 0 0 0) 1 (t 0 0 0).toNat 0 a) 2 (t 0 0 0).toNat 0 b) 3 (t 0 0 0).toNat 0 d) 9 0 0)), .ref 28, .ref 29, .ref 30, .ref 31, .int (zI ((zsu (zsu (zsu (zsu t 25 0 0 0) 1 (t 0 0 0).toNat 0 a) 2 (t 0 0 0).toNat 0 b) 3 (t 0 0 0).toNat 0 d) 14 0 0)), .int (zI ((zsu (zsu (zsu (zsu t 25 0 0 0) 1 (t 0 0 0).toNat 0 a) 2 (t 0 0 0).toNat 0 b) 3 (t 0 0 0).toNat 0 d) 23 0 0)), .int (zI ((zsu (zsu (zsu (zsu t 25 0 0 0) 1 (t 0 0 0).toNat 0 a) 2 (t 0 0 0).toNat 0 b) 3 (t 0 0 0).toNat 0 d) 24 0 0)), .int (zI ((zsu (zsu (zsu (zsu t 25 0 0 0) 1 (t 0 0 0).toNat 0 a) 2 (t 0 0 0).toNat 0 b) 3 (t 0 0 0).toNat 0 d) 25 0 0))] fl_X7_67 tyX7 tyX7_ok nmX7 rfl (by decide +kernel) rfl rfl (zAll_16 s (zsu (zsu (zsu (zsu t 25 0 0 0) 1 (t 0 0 0).toNat 0 a) 2 (t 0 0 0).toNat 0 b) 3 (t 0 0 0).toNat 0 d) o) (Nat.le_of_ble_eq_true rfl) rfl dX7_hire_108 ?_
                have hm_26_s := zu_s (zAll s (zsu (zsu (zsu (zsu t 25 0 0 0) 1 (t 0 0 0).toNat 0 a) 2 (t 0 0 0).toNat 0 b) 3 (t 0 0 0).toNat 0 d) o) 16 (zOb 8 [.ref 17, .ref 18, .ref 19, .int (zI ((t 0 0 0) + 1)), .ref 20, .ref 21, .ref 22, .ref 23, .int (zI ((zsu (zsu (zsu (zsu t 25 0 0 0) 1 (t 0 0 0).toNat 0 a) 2 (t 0 0 0).toNat 0 b) 3 (t 0 0 0).toNat 0 d) 4 0 0)), .ref 24, .ref 25, .ref 26, .ref 27, .int (zI ((zsu (zsu (zsu (zsu t 25 0 0 0) 1 (t 0 0 0).toNat 0 a) 2 (t 0 0 0).toNat 0 b) 3 (t 0 0 0).toNat 0 d) 9 0 0)), .ref 28, .ref 29, .ref 30, .ref 31, .int (zI ((zsu (zsu (zsu (zsu t 25 0 0 0) 1 (t 0 0 0).toNat 0 a) 2 (t 0 0 0).toNat 0 b) 3 (t 0 0 0).toNat 0 d) 14 0 0)), .int (zI ((zsu (zsu (zsu (zsu t 25 0 0 0) 1 (t 0 0 0).toNat 0 a) 2 (t 0 0 0).toNat 0 b) 3 (t 0 0 0).toNat 0 d) 23 0 0)), .int (zI ((zsu (zsu (zsu (zsu t 25 0 0 0) 1 (t 0 0 0).toNat 0 a) 2 (t 0 0 0).toNat 0 b) 3 (t 0 0 0).toNat 0 d) 24 0 0)), .int (zI ((zsu (zsu (zsu (zsu t 25 0 0 0) 1 (t 0 0 0).toNat 0 a) 2 (t 0 0 0).toNat 0 b) 3 (t 0 0 0).toNat 0 d) 25 0 0))])
                refine z_M (M' := (zAll s (zOpH (zsu t 25 0 0 0) a b d) o)) zMA_s0 ?_
                refine z_aload_n F 1 dX7_hire_111 rfl rfl ?_
                refine z_get F fl_X7_67 (zAll_16 s (zOpH (zsu t 25 0 0 0) a b d) o) rfl dX7_hire_112 ?_
                refine z_ti (y := t 0 0 0 + 1) rfl ?_
                refine z_iconst (z := 1) F dX7_hire_115 (by decide) ?_
                refine z_isub F dX7_hire_116 ?_
                refine z_ti (y := t 0 0 0) (by omega) ?_
                exact z_reti F rfl (by first | decide | assumption | omega) (by first | decide | assumption | omega) dX7_hire_117 ⟨_, rfl, zY_of (k := 0) (v := c 0 0 0) (by unfold xHire; rw [if_pos (by omega), if_pos (by omega)]) (zB_u (zB_u (zB_u (zB_u (zB_u hb9 (by omega)) (by omega)) (by omega)) (by omega)) (show -1 ≤ t 0 0 0 + 1 ∧ t 0 0 0 + 1 ≤ 1000 by omega)) ⟨((hr.x (by omega) 0 0 0).1).H a b d, hr.2.1, hr.2.2⟩ rfl (fun _ => e0)⟩
              · skip
                omega
            · skip
              refine z_iconst (z := 2) F dX7_hire_58 (by decide) ?_
              refine z_goto F 63 dX7_hire_59 (by decide) ?_
              refine z_callV F [.int (zI 2)] [] (c_X7_isFine F.2.2.1 G (s := s) (t := t) (o := o) (p := 2) ⟨by decide, by decide⟩) cv_X7_77 (zAll_16 s t o) rfl rfl rfl ⟨by decide, by decide⟩ ⟨by decide, by decide⟩ (Nat.le_of_ble_eq_true rfl) dX7_hire_63 z_nx (z_ki (fun x_27 M_27 h_27 => ?_))
              have hx9 := (h_27).1.symm
              have hm9 := (h_27).2.symm
              subst hx9
              subst hm9
              refine z_ti (y := 0) (if_neg (by decide)) ?_
              refine z_if_ne F 71 dX7_hire_66 (by decide) ⟨by decide, by decide⟩ (fun c_28 => ?_) (fun c_28 => ?_)
              · skip
                omega
              · skip
                refine z_iconst (z := 0) F dX7_hire_69 (by decide) ?_
                exact z_reti F rfl (by first | decide | assumption | omega) (by first | decide | assumption | omega) dX7_hire_70 ⟨_, rfl, zY_of (k := 2) (v := 0) (by unfold xHire; rw [if_pos (by omega), if_neg (by omega)]) (zB_u hb9 (by omega)) (hr.x (by omega) 0 0 2) rfl (fun h => absurd h (by decide))⟩
          · skip
            omega

abbrev rX7_addService : Room := { frames := 1, cells := 0, slots := 0, locals := 23 }
set_option maxRecDepth 100000 in
set_option maxHeartbeats 4000000 in
theorem c_X7_addService {l : Launch} (hfl : l.stackTraces = false) (G : zG) {s t c : zS} {o : zOx} (hc : zC1 t) (hb9 : zB t) (hI : zInv c) (hr : zRel c t) (h3 : ∀ j, t 3 j 0 ≤ 600) {a b : Int} (ha : zR a) (hb : zR b)  : zCn l G yX7_addService (.code yX7_addService cX7_addService 3 (some .int)) rX7_addService [.ref 16, .int (zI a), .int (zI b)] (zAll s t o) (zRi (zY s o (xService c a b))) zN := by
  refine zStart hfl (by decide) (own := RX7) rfl [(0, .ref 16), (1, .int (zI a)), (2, .int (zI b))] (Nat.le_of_ble_eq_true rfl) rfl (fun k hkl hinit hk0 F => ?_)
  have hn0 := hc.1
  have hn4 := hc.2.1
  have hn9 := hc.2.2.1
  have hn14 := hc.2.2.2.1
  have hn18 := hc.2.2.2.2.1
  have e0 := hr.1 0 0 0 (by omega)
  have e4 := hr.1 4 0 0 (by omega)
  have e9 := hr.1 9 0 0 (by omega)
  have e14 := hr.2.1
  have hc00 := hI.c.1
  have hc40 := hI.c.2.1
  have h500 : t 4 0 0 < 8 → t 5 (t 4 0 0).toNat 0 = 0 := fun h => (hr.1 5 (t 4 0 0).toNat 0 (by omega)).trans (hI.2.2.2.1 (t 4 0 0).toNat (by omega)).1
  refine z_aload_n F 0 dX7_addService_0 rfl rfl ?_
  refine z_iload_n F 1 dX7_addService_1 rfl rfl ?_
  refine z_iconst (z := 0) F dX7_addService_2 (by decide) ?_
  refine z_iconst (z := 3) F dX7_addService_3 (by decide) ?_
  refine z_callS F [.int (zI a), .int (zI 0), .int (zI 3)] [.ref 16] (c_X7_in F.2.2.1 G (a := a) (b := 0) (c := 3) (by omega) (by omega) (by omega) (zAll s t o)) cs_X7_63 rfl ⟨by decide, by decide⟩ ⟨by decide, by decide⟩ (Nat.le_of_ble_eq_true rfl) dX7_addService_4 z_nx (z_ki (fun x_1 M_1 h_1 => ?_))
  have hx9 := (h_1).1.symm
  have hm9 := (h_1).2.symm
  subst hx9
  subst hm9
  have hz : zR (if 0 ≤ a ∧ a ≤ 3 then 1 else 0) := zR_if
  refine z_if_eq F 21 dX7_addService_7 (by decide) (by omega) (fun c_2 => ?_) (fun c_2 => ?_)
  · skip
    have hq9 : ¬ (0 ≤ a ∧ a ≤ 3) := fun h => by rw [if_pos h] at c_2; omega
    refine z_iconst (z := 1) F dX7_addService_21 (by decide) ?_
    refine z_goto F 39 dX7_addService_22 (by decide) ?_
    refine z_callV F [.int (zI 1)] [] (c_X7_isFine F.2.2.1 G (s := s) (t := t) (o := o) (p := 1) ⟨by decide, by decide⟩) cv_X7_77 (zAll_16 s t o) rfl rfl rfl ⟨by decide, by decide⟩ ⟨by decide, by decide⟩ (Nat.le_of_ble_eq_true rfl) dX7_addService_39 z_nx (z_ki (fun x_3 M_3 h_3 => ?_))
    have hx9 := (h_3).1.symm
    have hm9 := (h_3).2.symm
    subst hx9
    subst hm9
    refine z_ti (y := 0) (if_neg (by decide)) ?_
    refine z_if_ne F 47 dX7_addService_42 (by decide) ⟨by decide, by decide⟩ (fun c_4 => ?_) (fun c_4 => ?_)
    · skip
      omega
    · skip
      refine z_iconst (z := 0) F dX7_addService_45 (by decide) ?_
      exact z_reti F rfl (by first | decide | assumption | omega) (by first | decide | assumption | omega) dX7_addService_46 ⟨_, rfl, zY_of (k := 1) (v := 0) (by unfold xService; rw [if_neg (by omega)]) (zB_u hb9 (by omega)) (hr.x (by omega) 0 0 1) rfl (fun h => absurd h (by decide))⟩
  · skip
    have hq9 : 0 ≤ a ∧ a ≤ 3 := Classical.byContradiction fun h => by rw [if_neg h] at c_2; omega
    refine z_iload_n F 2 dX7_addService_10 rfl rfl ?_
    refine z_iconst (z := 1) F dX7_addService_11 (by decide) ?_
    refine z_sipush (z := 200) F dX7_addService_12 (by decide) ?_
    refine z_callS F [.int (zI b), .int (zI 1), .int (zI 200)] [.ref 16] (c_X7_in F.2.2.1 G (a := b) (b := 1) (c := 200) (by omega) (by omega) (by omega) (zAll s t o)) cs_X7_63 rfl ⟨by decide, by decide⟩ ⟨by decide, by decide⟩ (Nat.le_of_ble_eq_true rfl) dX7_addService_15 z_nx (z_ki (fun x_5 M_5 h_5 => ?_))
    have hx9 := (h_5).1.symm
    have hm9 := (h_5).2.symm
    subst hx9
    subst hm9
    have hz : zR (if 1 ≤ b ∧ b ≤ 200 then 1 else 0) := zR_if
    refine z_if_ne F 25 dX7_addService_18 (by decide) (by omega) (fun c_6 => ?_) (fun c_6 => ?_)
    · skip
      have hq8 : 1 ≤ b ∧ b ≤ 200 := Classical.byContradiction fun h => by rw [if_neg h] at c_6; omega
      refine z_aload_n F 0 dX7_addService_25 rfl rfl ?_
      refine z_get F fl_X7_60 (zAll_16 s t o) rfl dX7_addService_26 ?_
      refine z_bipush (z := 8) F dX7_addService_29 (by decide) ?_
      refine z_icmp_ne F 38 dX7_addService_31 (by decide) (by omega) ⟨by decide, by decide⟩ (fun c_7 => ?_) (fun c_7 => ?_)
      · skip
        refine z_iconst (z := 0) F dX7_addService_38 (by decide) ?_
        refine z_callV F [.int (zI 0)] [] (c_X7_isFine F.2.2.1 G (s := s) (t := t) (o := o) (p := 0) ⟨by decide, by decide⟩) cv_X7_77 (zAll_16 s t o) rfl rfl rfl ⟨by decide, by decide⟩ ⟨by decide, by decide⟩ (Nat.le_of_ble_eq_true rfl) dX7_addService_39 z_nx (z_ki (fun x_8 M_8 h_8 => ?_))
        have hx9 := (h_8).1.symm
        have hm9 := (h_8).2.symm
        subst hx9
        subst hm9
        refine z_ti (y := 1) (if_pos rfl) ?_
        refine z_if_ne F 47 dX7_addService_42 (by decide) ⟨by decide, by decide⟩ (fun c_9 => ?_) (fun c_9 => ?_)
        · skip
          refine z_aload_n F 0 dX7_addService_47 rfl rfl ?_
          refine z_aload_n F 0 dX7_addService_48 rfl rfl ?_
          refine z_get F fl_X7_60 (zAll_16 s (zsu t 25 0 0 0) o) rfl dX7_addService_49 ?_
          refine z_ti (y := ((((t 4 0 0).toNat) : Nat) : Int)) (by show t 4 0 0 = _; omega) ?_
          refine z_iload_n F 1 dX7_addService_52 rfl rfl ?_
          refine z_iload_n F 2 dX7_addService_53 rfl rfl ?_
          refine z_callV F [.int (zI (((((t 4 0 0).toNat) : Nat) : Int))), .int (zI a), .int (zI b)] [] (c_X7_puts F.2.2.1 G (s := s) (t := (zsu t 25 0 0 0)) (o := o) (a := (t 4 0 0).toNat) (sk := a) (mi := b) (by omega) (show 0 ≤ t 5 (t 4 0 0).toNat 0 by have := h500 (by omega); omega) (show t 5 (t 4 0 0).toNat 0 < 5 by have := h500 (by omega); omega)) cv_X7_80 (zAll_16 s (zsu t 25 0 0 0) o) rfl rfl rfl ⟨by decide, by decide⟩ ⟨by decide, by decide⟩ (Nat.le_of_ble_eq_true rfl) dX7_addService_54 z_nx (z_kv (fun M_10 h_10 => ?_))
          have hm9 := (h_10).symm
          subst hm9
          refine z_aload_n F 0 dX7_addService_57 rfl rfl ?_
          refine z_dup F dX7_addService_58 rfl ?_
          refine z_get F fl_X7_60 (zAll_16 s (zOpP (zsu t 25 0 0 0) (t 4 0 0).toNat a b) o) rfl dX7_addService_59 ?_
          refine z_ti (y := t 4 0 0) rfl ?_
          refine z_iconst (z := 1) F dX7_addService_62 (by decide) ?_
          refine z_iadd F dX7_addService_63 ?_
          refine z_put (ty := .int) F [.ref 17, .ref 18, .ref 19, .int (zI ((zOpP (zsu t 25 0 0 0) (t 4 0 0).toNat a b) 0 0 0)), .ref 20, .ref 21, .ref 22, .ref 23, .int (zI ((t 4 0 0) + 1)), .ref 24, .ref 25, .ref 26, .ref 27, .int (zI ((zOpP (zsu t 25 0 0 0) (t 4 0 0).toNat a b) 9 0 0)), .ref 28, .ref 29, .ref 30, .ref 31, .int (zI ((zOpP (zsu t 25 0 0 0) (t 4 0 0).toNat a b) 14 0 0)), .int (zI ((zOpP (zsu t 25 0 0 0) (t 4 0 0).toNat a b) 23 0 0)), .int (zI ((zOpP (zsu t 25 0 0 0) (t 4 0 0).toNat a b) 24 0 0)), .int (zI ((zOpP (zsu t 25 0 0 0) (t 4 0 0).toNat a b) 25 0 0))] fl_X7_60 tyX7 tyX7_ok nmX7 rfl (by decide +kernel) rfl rfl (zAll_16 s (zOpP (zsu t 25 0 0 0) (t 4 0 0).toNat a b) o) (Nat.le_of_ble_eq_true rfl) rfl dX7_addService_64 ?_
          have hm_11_s := zu_s (zAll s (zOpP (zsu t 25 0 0 0) (t 4 0 0).toNat a b) o) 16 (zOb 8 [.ref 17, .ref 18, .ref 19, .int (zI ((zOpP (zsu t 25 0 0 0) (t 4 0 0).toNat a b) 0 0 0)), .ref 20, .ref 21, .ref 22, .ref 23, .int (zI ((t 4 0 0) + 1)), .ref 24, .ref 25, .ref 26, .ref 27, .int (zI ((zOpP (zsu t 25 0 0 0) (t 4 0 0).toNat a b) 9 0 0)), .ref 28, .ref 29, .ref 30, .ref 31, .int (zI ((zOpP (zsu t 25 0 0 0) (t 4 0 0).toNat a b) 14 0 0)), .int (zI ((zOpP (zsu t 25 0 0 0) (t 4 0 0).toNat a b) 23 0 0)), .int (zI ((zOpP (zsu t 25 0 0 0) (t 4 0 0).toNat a b) 24 0 0)), .int (zI ((zOpP (zsu t 25 0 0 0) (t 4 0 0).toNat a b) 25 0 0))])
          refine z_M (M' := (zAll s (zsu (zOpP (zsu t 25 0 0 0) (t 4 0 0).toNat a b) 4 0 0 (t 4 0 0 + 1)) o)) zMA_s4 ?_
          refine z_aload_n F 0 dX7_addService_67 rfl rfl ?_
          refine z_get F fl_X7_60 (zAll_16 s (zsu (zOpP (zsu t 25 0 0 0) (t 4 0 0).toNat a b) 4 0 0 (t 4 0 0 + 1)) o) rfl dX7_addService_68 ?_
          refine z_ti (y := t 4 0 0 + 1) rfl ?_
          refine z_iconst (z := 1) F dX7_addService_71 (by decide) ?_
          refine z_isub F dX7_addService_72 ?_
          refine z_ti (y := t 4 0 0) (by omega) ?_
          exact z_reti F rfl (by first | decide | assumption | omega) (by first | decide | assumption | omega) dX7_addService_73 ⟨_, rfl, zY_of (k := 0) (v := c 4 0 0) (by unfold xService; rw [if_pos (by omega), if_pos (by omega)]) (zB_u (zB_P (t := (zsu t 25 0 0 0)) (a := (t 4 0 0).toNat) (zB_u hb9 (by omega)) (show 0 ≤ t 5 (t 4 0 0).toNat 0 ∧ t 5 (t 4 0 0).toNat 0 < 5 by have := h500 (by omega); omega) (by omega) (by omega)) (by omega)) (by rw [zPN, e4]; exact ((hr.x (by omega) 0 0 0).N (by rfl)).P _ a b) rfl (fun _ => e4)⟩
        · skip
          omega
      · skip
        refine z_iconst (z := 2) F dX7_addService_34 (by decide) ?_
        refine z_goto F 39 dX7_addService_35 (by decide) ?_
        refine z_callV F [.int (zI 2)] [] (c_X7_isFine F.2.2.1 G (s := s) (t := t) (o := o) (p := 2) ⟨by decide, by decide⟩) cv_X7_77 (zAll_16 s t o) rfl rfl rfl ⟨by decide, by decide⟩ ⟨by decide, by decide⟩ (Nat.le_of_ble_eq_true rfl) dX7_addService_39 z_nx (z_ki (fun x_12 M_12 h_12 => ?_))
        have hx9 := (h_12).1.symm
        have hm9 := (h_12).2.symm
        subst hx9
        subst hm9
        refine z_ti (y := 0) (if_neg (by decide)) ?_
        refine z_if_ne F 47 dX7_addService_42 (by decide) ⟨by decide, by decide⟩ (fun c_13 => ?_) (fun c_13 => ?_)
        · skip
          omega
        · skip
          refine z_iconst (z := 0) F dX7_addService_45 (by decide) ?_
          exact z_reti F rfl (by first | decide | assumption | omega) (by first | decide | assumption | omega) dX7_addService_46 ⟨_, rfl, zY_of (k := 2) (v := 0) (by unfold xService; rw [if_pos (by omega), if_neg (by omega)]) (zB_u hb9 (by omega)) (hr.x (by omega) 0 0 2) rfl (fun h => absurd h (by decide))⟩
    · skip
      have hq8 : ¬ (1 ≤ b ∧ b ≤ 200) := fun h => by rw [if_pos h] at c_6; omega
      refine z_iconst (z := 1) F dX7_addService_21 (by decide) ?_
      refine z_goto F 39 dX7_addService_22 (by decide) ?_
      refine z_callV F [.int (zI 1)] [] (c_X7_isFine F.2.2.1 G (s := s) (t := t) (o := o) (p := 1) ⟨by decide, by decide⟩) cv_X7_77 (zAll_16 s t o) rfl rfl rfl ⟨by decide, by decide⟩ ⟨by decide, by decide⟩ (Nat.le_of_ble_eq_true rfl) dX7_addService_39 z_nx (z_ki (fun x_14 M_14 h_14 => ?_))
      have hx9 := (h_14).1.symm
      have hm9 := (h_14).2.symm
      subst hx9
      subst hm9
      refine z_ti (y := 0) (if_neg (by decide)) ?_
      refine z_if_ne F 47 dX7_addService_42 (by decide) ⟨by decide, by decide⟩ (fun c_15 => ?_) (fun c_15 => ?_)
      · skip
        omega
      · skip
        refine z_iconst (z := 0) F dX7_addService_45 (by decide) ?_
        exact z_reti F rfl (by first | decide | assumption | omega) (by first | decide | assumption | omega) dX7_addService_46 ⟨_, rfl, zY_of (k := 1) (v := 0) (by unfold xService; rw [if_neg (by omega)]) (zB_u hb9 (by omega)) (hr.x (by omega) 0 0 1) rfl (fun h => absurd h (by decide))⟩

abbrev rX7_addStep : Room := { frames := 2, cells := 0, slots := 0, locals := 43 }
set_option maxRecDepth 100000 in
set_option maxHeartbeats 4000000 in
theorem c_X7_addStep {l : Launch} (hfl : l.stackTraces = false) (G : zG) {s t c : zS} {o : zOx} (hc : zC1 t) (hb9 : zB t) (hI : zInv c) (hr : zRel c t) (h3 : ∀ j, t 3 j 0 ≤ 600) {a b d : Int} (ha : zR a) (hb : zR b) (hd : zR d)  : zCn l G yX7_addStep (.code yX7_addStep cX7_addStep 5 (some .int)) rX7_addStep [.ref 16, .int (zI a), .int (zI b), .int (zI d)] (zAll s t o) (zRi (zY s o (xStep c a b d))) zN := by
  refine zStart hfl (by decide) (own := RX7) rfl [(0, .ref 16), (1, .int (zI a)), (2, .int (zI b)), (3, .int (zI d))] (Nat.le_of_ble_eq_true rfl) rfl (fun k hkl hinit hk0 F => ?_)
  have hn0 := hc.1
  have hn4 := hc.2.1
  have hn9 := hc.2.2.1
  have hn14 := hc.2.2.2.1
  have hn18 := hc.2.2.2.2.1
  have e0 := hr.1 0 0 0 (by omega)
  have e4 := hr.1 4 0 0 (by omega)
  have e9 := hr.1 9 0 0 (by omega)
  have e14 := hr.2.1
  have hc00 := hI.c.1
  have hc40 := hI.c.2.1
  have f5 := hr.1 5 a.toNat 0 (by omega)
  have f8 := hr.1 8 a.toNat 0 (by omega)
  have h58 := hc.2.2.2.2.2.2.2.1 a.toNat
  have h88 := hI.2.2.2.2.1 a.toNat
  refine z_aload_n F 0 dX7_addStep_0 rfl rfl ?_
  refine z_iload_n F 1 dX7_addStep_1 rfl rfl ?_
  refine z_callV F [.int (zI a)] [] (c_X7_isService F.2.2.1 G (s := s) (t := t) (o := o) hc hb9 ha) cv_X7_84 (zAll_16 s t o) rfl rfl rfl ⟨by decide, by decide⟩ ⟨by decide, by decide⟩ (Nat.le_of_ble_eq_true rfl) dX7_addStep_2 z_nx (z_ki (fun x_1 M_1 h_1 => ?_))
  have hx9 := (h_1).1.symm
  have hm9 := (h_1).2.symm
  subst hx9
  subst hm9
  have hz : zR (if 0 ≤ a ∧ a < t 4 0 0 then 1 else 0) := zR_if
  refine z_if_ne F 12 dX7_addStep_5 (by decide) (by omega) (fun c_2 => ?_) (fun c_2 => ?_)
  · skip
    have hq7 : 0 ≤ a ∧ a < t 4 0 0 := Classical.byContradiction fun h => by rw [if_neg h] at c_2; omega
    refine z_iload_n F 2 dX7_addStep_12 rfl rfl ?_
    refine z_iconst (z := -1) F dX7_addStep_13 (by decide) ?_
    refine z_iconst (z := 3) F dX7_addStep_14 (by decide) ?_
    refine z_callS F [.int (zI b), .int (zI (-1)), .int (zI 3)] [] (c_X7_in F.2.2.1 G (a := b) (b := (-1)) (c := 3) (by omega) (by omega) (by omega) (zAll s t o)) cs_X7_63 rfl ⟨by decide, by decide⟩ ⟨by decide, by decide⟩ (Nat.le_of_ble_eq_true rfl) dX7_addStep_15 z_nx (z_ki (fun x_3 M_3 h_3 => ?_))
    have hx9 := (h_3).1.symm
    have hm9 := (h_3).2.symm
    subst hx9
    subst hm9
    have hz : zR (if (-1) ≤ b ∧ b ≤ 3 then 1 else 0) := zR_if
    refine z_if_eq F 32 dX7_addStep_18 (by decide) (by omega) (fun c_4 => ?_) (fun c_4 => ?_)
    · skip
      have hq9 : ¬ ((-1) ≤ b ∧ b ≤ 3) := fun h => by rw [if_pos h] at c_4; omega
      refine z_iconst (z := 2) F dX7_addStep_32 (by decide) ?_
      refine z_goto F 37 dX7_addStep_33 (by decide) ?_
      refine z_istore F [(4, .int (zI 2)), (0, .ref 16), (1, .int (zI a)), (2, .int (zI b)), (3, .int (zI d))] dX7_addStep_37 (by decide) rfl ?_
      refine z_iload F 0 dX7_addStep_39 rfl ?_
      refine z_if_ne F 66 dX7_addStep_41 (by decide) ⟨by decide, by decide⟩ (fun c_5 => ?_) (fun c_5 => ?_)
      · skip
        refine z_aload_n F 1 dX7_addStep_66 rfl rfl ?_
        refine z_iload F 0 dX7_addStep_67 rfl ?_
        refine z_callV F [.int (zI 2)] [] (c_X7_isFine F.2.2.1 G (s := s) (t := t) (o := o) (p := 2) ⟨by decide, by decide⟩) cv_X7_77 (zAll_16 s t o) rfl rfl rfl ⟨by decide, by decide⟩ ⟨by decide, by decide⟩ (Nat.le_of_ble_eq_true rfl) dX7_addStep_69 z_nx (z_ki (fun x_6 M_6 h_6 => ?_))
        have hx9 := (h_6).1.symm
        have hm9 := (h_6).2.symm
        subst hx9
        subst hm9
        refine z_ti (y := 0) (if_neg (by decide)) ?_
        refine z_if_ne F 77 dX7_addStep_72 (by decide) ⟨by decide, by decide⟩ (fun c_7 => ?_) (fun c_7 => ?_)
        · skip
          omega
        · skip
          refine z_iconst (z := 0) F dX7_addStep_75 (by decide) ?_
          exact z_reti F rfl (by first | decide | assumption | omega) (by first | decide | assumption | omega) dX7_addStep_76 ⟨_, rfl, zY_of (k := 2) (v := 0) (by unfold xStep; rw [if_pos (by omega), if_neg (by omega)]) (zB_u hb9 (by omega)) (hr.x (by omega) 0 0 2) rfl (fun h => absurd h (by decide))⟩
      · skip
        omega
    · skip
      have hq9 : (-1) ≤ b ∧ b ≤ 3 := Classical.byContradiction fun h => by rw [if_neg h] at c_4; omega
      refine z_iload_n F 3 dX7_addStep_21 rfl rfl ?_
      refine z_iconst (z := 1) F dX7_addStep_22 (by decide) ?_
      refine z_sipush (z := 200) F dX7_addStep_23 (by decide) ?_
      refine z_callS F [.int (zI d), .int (zI 1), .int (zI 200)] [] (c_X7_in F.2.2.1 G (a := d) (b := 1) (c := 200) (by omega) (by omega) (by omega) (zAll s t o)) cs_X7_63 rfl ⟨by decide, by decide⟩ ⟨by decide, by decide⟩ (Nat.le_of_ble_eq_true rfl) dX7_addStep_26 z_nx (z_ki (fun x_8 M_8 h_8 => ?_))
      have hx9 := (h_8).1.symm
      have hm9 := (h_8).2.symm
      subst hx9
      subst hm9
      have hz : zR (if 1 ≤ d ∧ d ≤ 200 then 1 else 0) := zR_if
      refine z_if_ne F 36 dX7_addStep_29 (by decide) (by omega) (fun c_9 => ?_) (fun c_9 => ?_)
      · skip
        have hq8 : 1 ≤ d ∧ d ≤ 200 := Classical.byContradiction fun h => by rw [if_neg h] at c_9; omega
        refine z_iconst (z := 0) F dX7_addStep_36 (by decide) ?_
        refine z_istore F [(4, .int (zI 0)), (0, .ref 16), (1, .int (zI a)), (2, .int (zI b)), (3, .int (zI d))] dX7_addStep_37 (by decide) rfl ?_
        refine z_iload F 0 dX7_addStep_39 rfl ?_
        refine z_if_ne F 66 dX7_addStep_41 (by decide) ⟨by decide, by decide⟩ (fun c_10 => ?_) (fun c_10 => ?_)
        · skip
          omega
        · skip
          refine z_aload_n F 1 dX7_addStep_44 rfl rfl ?_
          refine z_get F fl_X7_25 (zAll_16 s t o) rfl dX7_addStep_45 ?_
          refine z_iload_n F 2 dX7_addStep_48 rfl rfl ?_
          refine z_iald F (zAll_22 s t o) (by omega) (by omega) (by decide) dX7_addStep_49 ?_
          refine z_iconst (z := 5) F dX7_addStep_50 (by decide) ?_
          refine z_icmp_eq F 63 dX7_addStep_51 (by decide) (by omega) ⟨by decide, by decide⟩ (fun c_11 => ?_) (fun c_11 => ?_)
          · skip
            refine z_iconst (z := 3) F dX7_addStep_63 (by decide) ?_
            refine z_istore F [(4, .int (zI 3)), (0, .ref 16), (1, .int (zI a)), (2, .int (zI b)), (3, .int (zI d))] dX7_addStep_64 (by decide) rfl ?_
            refine z_aload_n F 1 dX7_addStep_66 rfl rfl ?_
            refine z_iload F 0 dX7_addStep_67 rfl ?_
            refine z_callV F [.int (zI 3)] [] (c_X7_isFine F.2.2.1 G (s := s) (t := t) (o := o) (p := 3) ⟨by decide, by decide⟩) cv_X7_77 (zAll_16 s t o) rfl rfl rfl ⟨by decide, by decide⟩ ⟨by decide, by decide⟩ (Nat.le_of_ble_eq_true rfl) dX7_addStep_69 z_nx (z_ki (fun x_12 M_12 h_12 => ?_))
            have hx9 := (h_12).1.symm
            have hm9 := (h_12).2.symm
            subst hx9
            subst hm9
            refine z_ti (y := 0) (if_neg (by decide)) ?_
            refine z_if_ne F 77 dX7_addStep_72 (by decide) ⟨by decide, by decide⟩ (fun c_13 => ?_) (fun c_13 => ?_)
            · skip
              omega
            · skip
              refine z_iconst (z := 0) F dX7_addStep_75 (by decide) ?_
              exact z_reti F rfl (by first | decide | assumption | omega) (by first | decide | assumption | omega) dX7_addStep_76 ⟨_, rfl, zY_of (k := 3) (v := 0) (by unfold xStep; rw [if_pos (by omega), if_pos (by omega), if_neg (by omega)]) (zB_u hb9 (by omega)) (hr.x (by omega) 0 0 3) rfl (fun h => absurd h (by decide))⟩
          · skip
            refine z_aload_n F 1 dX7_addStep_54 rfl rfl ?_
            refine z_get F fl_X7_28 (zAll_16 s t o) rfl dX7_addStep_55 ?_
            refine z_iload_n F 2 dX7_addStep_58 rfl rfl ?_
            refine z_zald F (zAll_23 s t o) (by omega) (by omega) (by decide) dX7_addStep_59 ?_
            refine z_if_eq F 66 dX7_addStep_60 (by decide) (by omega) (fun c_14 => ?_) (fun c_14 => ?_)
            · skip
              refine z_aload_n F 1 dX7_addStep_66 rfl rfl ?_
              refine z_iload F 0 dX7_addStep_67 rfl ?_
              refine z_callV F [.int (zI 0)] [] (c_X7_isFine F.2.2.1 G (s := s) (t := t) (o := o) (p := 0) ⟨by decide, by decide⟩) cv_X7_77 (zAll_16 s t o) rfl rfl rfl ⟨by decide, by decide⟩ ⟨by decide, by decide⟩ (Nat.le_of_ble_eq_true rfl) dX7_addStep_69 z_nx (z_ki (fun x_15 M_15 h_15 => ?_))
              have hx9 := (h_15).1.symm
              have hm9 := (h_15).2.symm
              subst hx9
              subst hm9
              refine z_ti (y := 1) (if_pos rfl) ?_
              refine z_if_ne F 77 dX7_addStep_72 (by decide) ⟨by decide, by decide⟩ (fun c_16 => ?_) (fun c_16 => ?_)
              · skip
                refine z_aload_n F 1 dX7_addStep_77 rfl rfl ?_
                refine z_iload_n F 2 dX7_addStep_78 rfl rfl ?_
                refine z_ti (y := ((a.toNat : Nat) : Int)) (by omega) ?_
                refine z_iload_n F 3 dX7_addStep_79 rfl rfl ?_
                refine z_iload_n F 4 dX7_addStep_80 rfl rfl ?_
                refine z_callV F [.int (zI (((a.toNat : Nat) : Int))), .int (zI b), .int (zI d)] [] (c_X7_puts F.2.2.1 G (s := s) (t := (zsu t 25 0 0 0)) (o := o) (a := a.toNat) (sk := b) (mi := d) (by omega) (show 0 ≤ t 5 a.toNat 0 by omega) (show t 5 a.toNat 0 < 5 by omega)) cv_X7_80 (zAll_16 s (zsu t 25 0 0 0) o) rfl rfl rfl ⟨by decide, by decide⟩ ⟨by decide, by decide⟩ (Nat.le_of_ble_eq_true rfl) dX7_addStep_81 z_nx (z_kv (fun M_17 h_17 => ?_))
                have hm9 := (h_17).symm
                subst hm9
                refine z_aload_n F 1 dX7_addStep_84 rfl rfl ?_
                refine z_get F fl_X7_25 (zAll_16 s (zOpP (zsu t 25 0 0 0) a.toNat b d) o) rfl dX7_addStep_85 ?_
                refine z_iload_n F 2 dX7_addStep_88 rfl rfl ?_
                refine z_iald F (zAll_22 s (zOpP (zsu t 25 0 0 0) a.toNat b d) o) (by omega) (by omega) (by decide) dX7_addStep_89 ?_
                refine z_ti (y := t 5 a.toNat 0 + 1) (zP5 (zsu t 25 0 0 0) a.toNat b d) ?_
                exact z_reti F rfl (by first | decide | assumption | omega) (by first | decide | assumption | omega) dX7_addStep_90 ⟨_, rfl, zY_of (k := 0) (v := c 5 a.toNat 0 + 1) (by unfold xStep; rw [if_pos (by omega), if_pos (by omega), if_pos (by omega)]) (zB_P (zB_u hb9 (by omega)) (show 0 ≤ t 5 a.toNat 0 ∧ t 5 a.toNat 0 < 5 by omega) (by omega) (by omega)) ((hr.x (by omega) 0 0 0).P _ b d) rfl (fun _ => by omega)⟩
              · skip
                omega
            · skip
              refine z_iconst (z := 3) F dX7_addStep_63 (by decide) ?_
              refine z_istore F [(4, .int (zI 3)), (0, .ref 16), (1, .int (zI a)), (2, .int (zI b)), (3, .int (zI d))] dX7_addStep_64 (by decide) rfl ?_
              refine z_aload_n F 1 dX7_addStep_66 rfl rfl ?_
              refine z_iload F 0 dX7_addStep_67 rfl ?_
              refine z_callV F [.int (zI 3)] [] (c_X7_isFine F.2.2.1 G (s := s) (t := t) (o := o) (p := 3) ⟨by decide, by decide⟩) cv_X7_77 (zAll_16 s t o) rfl rfl rfl ⟨by decide, by decide⟩ ⟨by decide, by decide⟩ (Nat.le_of_ble_eq_true rfl) dX7_addStep_69 z_nx (z_ki (fun x_18 M_18 h_18 => ?_))
              have hx9 := (h_18).1.symm
              have hm9 := (h_18).2.symm
              subst hx9
              subst hm9
              refine z_ti (y := 0) (if_neg (by decide)) ?_
              refine z_if_ne F 77 dX7_addStep_72 (by decide) ⟨by decide, by decide⟩ (fun c_19 => ?_) (fun c_19 => ?_)
              · skip
                omega
              · skip
                refine z_iconst (z := 0) F dX7_addStep_75 (by decide) ?_
                exact z_reti F rfl (by first | decide | assumption | omega) (by first | decide | assumption | omega) dX7_addStep_76 ⟨_, rfl, zY_of (k := 3) (v := 0) (by unfold xStep; rw [if_pos (by omega), if_pos (by omega), if_neg (by omega)]) (zB_u hb9 (by omega)) (hr.x (by omega) 0 0 3) rfl (fun h => absurd h (by decide))⟩
      · skip
        have hq8 : ¬ (1 ≤ d ∧ d ≤ 200) := fun h => by rw [if_pos h] at c_9; omega
        refine z_iconst (z := 2) F dX7_addStep_32 (by decide) ?_
        refine z_goto F 37 dX7_addStep_33 (by decide) ?_
        refine z_istore F [(4, .int (zI 2)), (0, .ref 16), (1, .int (zI a)), (2, .int (zI b)), (3, .int (zI d))] dX7_addStep_37 (by decide) rfl ?_
        refine z_iload F 0 dX7_addStep_39 rfl ?_
        refine z_if_ne F 66 dX7_addStep_41 (by decide) ⟨by decide, by decide⟩ (fun c_20 => ?_) (fun c_20 => ?_)
        · skip
          refine z_aload_n F 1 dX7_addStep_66 rfl rfl ?_
          refine z_iload F 0 dX7_addStep_67 rfl ?_
          refine z_callV F [.int (zI 2)] [] (c_X7_isFine F.2.2.1 G (s := s) (t := t) (o := o) (p := 2) ⟨by decide, by decide⟩) cv_X7_77 (zAll_16 s t o) rfl rfl rfl ⟨by decide, by decide⟩ ⟨by decide, by decide⟩ (Nat.le_of_ble_eq_true rfl) dX7_addStep_69 z_nx (z_ki (fun x_21 M_21 h_21 => ?_))
          have hx9 := (h_21).1.symm
          have hm9 := (h_21).2.symm
          subst hx9
          subst hm9
          refine z_ti (y := 0) (if_neg (by decide)) ?_
          refine z_if_ne F 77 dX7_addStep_72 (by decide) ⟨by decide, by decide⟩ (fun c_22 => ?_) (fun c_22 => ?_)
          · skip
            omega
          · skip
            refine z_iconst (z := 0) F dX7_addStep_75 (by decide) ?_
            exact z_reti F rfl (by first | decide | assumption | omega) (by first | decide | assumption | omega) dX7_addStep_76 ⟨_, rfl, zY_of (k := 2) (v := 0) (by unfold xStep; rw [if_pos (by omega), if_neg (by omega)]) (zB_u hb9 (by omega)) (hr.x (by omega) 0 0 2) rfl (fun h => absurd h (by decide))⟩
        · skip
          omega
  · skip
    have hq7 : ¬ (0 ≤ a ∧ a < t 4 0 0) := fun h => by rw [if_pos h] at c_2; omega
    refine z_iconst (z := 1) F dX7_addStep_8 (by decide) ?_
    refine z_goto F 37 dX7_addStep_9 (by decide) ?_
    refine z_istore F [(4, .int (zI 1)), (0, .ref 16), (1, .int (zI a)), (2, .int (zI b)), (3, .int (zI d))] dX7_addStep_37 (by decide) rfl ?_
    refine z_iload F 0 dX7_addStep_39 rfl ?_
    refine z_if_ne F 66 dX7_addStep_41 (by decide) ⟨by decide, by decide⟩ (fun c_23 => ?_) (fun c_23 => ?_)
    · skip
      refine z_aload_n F 1 dX7_addStep_66 rfl rfl ?_
      refine z_iload F 0 dX7_addStep_67 rfl ?_
      refine z_callV F [.int (zI 1)] [] (c_X7_isFine F.2.2.1 G (s := s) (t := t) (o := o) (p := 1) ⟨by decide, by decide⟩) cv_X7_77 (zAll_16 s t o) rfl rfl rfl ⟨by decide, by decide⟩ ⟨by decide, by decide⟩ (Nat.le_of_ble_eq_true rfl) dX7_addStep_69 z_nx (z_ki (fun x_24 M_24 h_24 => ?_))
      have hx9 := (h_24).1.symm
      have hm9 := (h_24).2.symm
      subst hx9
      subst hm9
      refine z_ti (y := 0) (if_neg (by decide)) ?_
      refine z_if_ne F 77 dX7_addStep_72 (by decide) ⟨by decide, by decide⟩ (fun c_25 => ?_) (fun c_25 => ?_)
      · skip
        omega
      · skip
        refine z_iconst (z := 0) F dX7_addStep_75 (by decide) ?_
        exact z_reti F rfl (by first | decide | assumption | omega) (by first | decide | assumption | omega) dX7_addStep_76 ⟨_, rfl, zY_of (k := 1) (v := 0) (by unfold xStep; rw [if_neg (by omega)]) (zB_u hb9 (by omega)) (hr.x (by omega) 0 0 1) rfl (fun h => absurd h (by decide))⟩
    · skip
      omega

abbrev rX7_addUsual : Room := { frames := 1, cells := 0, slots := 0, locals := 23 }
set_option maxRecDepth 100000 in
set_option maxHeartbeats 4000000 in
theorem c_X7_addUsual {l : Launch} (hfl : l.stackTraces = false) (G : zG) {s t c : zS} {o : zOx} (hc : zC1 t) (hb9 : zB t) (hI : zInv c) (hr : zRel c t) (h3 : ∀ j, t 3 j 0 ≤ 600) {a : Int} (ha : zR a)  : zCn l G yX7_addUsual (.code yX7_addUsual cX7_addUsual 2 (some .int)) rX7_addUsual [.ref 16, .int (zI a)] (zAll s t o) (zRi (zY s o (xUsual c a))) zN := by
  refine zStart hfl (by decide) (own := RX7) rfl [(0, .ref 16), (1, .int (zI a))] (Nat.le_of_ble_eq_true rfl) rfl (fun k hkl hinit hk0 F => ?_)
  have hn0 := hc.1
  have hn4 := hc.2.1
  have hn9 := hc.2.2.1
  have hn14 := hc.2.2.2.1
  have hn18 := hc.2.2.2.2.1
  have e0 := hr.1 0 0 0 (by omega)
  have e4 := hr.1 4 0 0 (by omega)
  have e9 := hr.1 9 0 0 (by omega)
  have e14 := hr.2.1
  have hc00 := hI.c.1
  have hc40 := hI.c.2.1
  have h500 : t 4 0 0 < 8 → t 5 (t 4 0 0).toNat 0 = 0 := fun h => (hr.1 5 (t 4 0 0).toNat 0 (by omega)).trans (hI.2.2.2.1 (t 4 0 0).toNat (by omega)).1
  have h501 : t 4 0 0 < 8 → (zsu t 25 0 0 0) 5 (t 4 0 0).toNat 0 = 0 := h500
  refine z_aload_n F 0 dX7_addUsual_0 rfl rfl ?_
  refine z_iload_n F 1 dX7_addUsual_1 rfl rfl ?_
  refine z_iconst (z := 0) F dX7_addUsual_2 (by decide) ?_
  refine z_iconst (z := 3) F dX7_addUsual_3 (by decide) ?_
  refine z_callS F [.int (zI a), .int (zI 0), .int (zI 3)] [.ref 16] (c_X7_in F.2.2.1 G (a := a) (b := 0) (c := 3) (by omega) (by omega) (by omega) (zAll s t o)) cs_X7_63 rfl ⟨by decide, by decide⟩ ⟨by decide, by decide⟩ (Nat.le_of_ble_eq_true rfl) dX7_addUsual_4 z_nx (z_ki (fun x_1 M_1 h_1 => ?_))
  have hx9 := (h_1).1.symm
  have hm9 := (h_1).2.symm
  subst hx9
  subst hm9
  have hz : zR (if 0 ≤ a ∧ a ≤ 3 then 1 else 0) := zR_if
  refine z_if_ne F 14 dX7_addUsual_7 (by decide) (by omega) (fun c_2 => ?_) (fun c_2 => ?_)
  · skip
    have hq9 : 0 ≤ a ∧ a ≤ 3 := Classical.byContradiction fun h => by rw [if_neg h] at c_2; omega
    refine z_aload_n F 0 dX7_addUsual_14 rfl rfl ?_
    refine z_get F fl_X7_60 (zAll_16 s t o) rfl dX7_addUsual_15 ?_
    refine z_bipush (z := 8) F dX7_addUsual_18 (by decide) ?_
    refine z_icmp_ne F 27 dX7_addUsual_20 (by decide) (by omega) ⟨by decide, by decide⟩ (fun c_3 => ?_) (fun c_3 => ?_)
    · skip
      refine z_iconst (z := 0) F dX7_addUsual_27 (by decide) ?_
      refine z_callV F [.int (zI 0)] [] (c_X7_isFine F.2.2.1 G (s := s) (t := t) (o := o) (p := 0) ⟨by decide, by decide⟩) cv_X7_77 (zAll_16 s t o) rfl rfl rfl ⟨by decide, by decide⟩ ⟨by decide, by decide⟩ (Nat.le_of_ble_eq_true rfl) dX7_addUsual_28 z_nx (z_ki (fun x_4 M_4 h_4 => ?_))
      have hx9 := (h_4).1.symm
      have hm9 := (h_4).2.symm
      subst hx9
      subst hm9
      refine z_ti (y := 1) (if_pos rfl) ?_
      refine z_if_ne F 36 dX7_addUsual_31 (by decide) ⟨by decide, by decide⟩ (fun c_5 => ?_) (fun c_5 => ?_)
      · skip
        refine z_iload_n F 1 dX7_addUsual_36 rfl rfl ?_
        refine z_if_ne F 65 dX7_addUsual_37 (by decide) (by omega) (fun c_6 => ?_) (fun c_6 => ?_)
        · skip
          refine z_iload_n F 1 dX7_addUsual_65 rfl rfl ?_
          refine z_iconst (z := 1) F dX7_addUsual_66 (by decide) ?_
          refine z_icmp_ne F 117 dX7_addUsual_67 (by decide) (by omega) ⟨by decide, by decide⟩ (fun c_7 => ?_) (fun c_7 => ?_)
          · skip
            refine z_iload_n F 1 dX7_addUsual_117 rfl rfl ?_
            refine z_iconst (z := 2) F dX7_addUsual_118 (by decide) ?_
            refine z_icmp_ne F 158 dX7_addUsual_119 (by decide) (by omega) ⟨by decide, by decide⟩ (fun c_8 => ?_) (fun c_8 => ?_)
            · skip
              refine z_aload_n F 0 dX7_addUsual_158 rfl rfl ?_
              refine z_aload_n F 0 dX7_addUsual_159 rfl rfl ?_
              refine z_get F fl_X7_60 (zAll_16 s (zsu t 25 0 0 0) o) rfl dX7_addUsual_160 ?_
              refine z_ti (y := ((((t 4 0 0).toNat) : Nat) : Int)) (by show t 4 0 0 = _; omega) ?_
              refine z_iconst (z := 1) F dX7_addUsual_163 (by decide) ?_
              refine z_bipush (z := 20) F dX7_addUsual_164 (by decide) ?_
              refine z_callV F [.int (zI (((((t 4 0 0).toNat) : Nat) : Int))), .int (zI 1), .int (zI 20)] [] (c_X7_puts F.2.2.1 G (s := s) (t := (zsu t 25 0 0 0)) (o := o) (a := (t 4 0 0).toNat) (sk := 1) (mi := 20) (by omega) (by first | omega | (simp only [zP5]; omega)) (by first | omega | (simp only [zP5]; omega))) cv_X7_80 (zAll_16 s (zsu t 25 0 0 0) o) rfl rfl rfl ⟨by decide, by decide⟩ ⟨by decide, by decide⟩ (Nat.le_of_ble_eq_true rfl) dX7_addUsual_166 z_nx (z_kv (fun M_9 h_9 => ?_))
              have hm9 := (h_9).symm
              subst hm9
              refine z_aload_n F 0 dX7_addUsual_169 rfl rfl ?_
              refine z_dup F dX7_addUsual_170 rfl ?_
              refine z_get F fl_X7_60 (zAll_16 s (zOpP (zsu t 25 0 0 0) (t 4 0 0).toNat 1 20) o) rfl dX7_addUsual_171 ?_
              refine z_ti (y := t 4 0 0) rfl ?_
              refine z_iconst (z := 1) F dX7_addUsual_174 (by decide) ?_
              refine z_iadd F dX7_addUsual_175 ?_
              refine z_put (ty := .int) F [.ref 17, .ref 18, .ref 19, .int (zI ((zOpP (zsu t 25 0 0 0) (t 4 0 0).toNat 1 20) 0 0 0)), .ref 20, .ref 21, .ref 22, .ref 23, .int (zI ((t 4 0 0) + 1)), .ref 24, .ref 25, .ref 26, .ref 27, .int (zI ((zOpP (zsu t 25 0 0 0) (t 4 0 0).toNat 1 20) 9 0 0)), .ref 28, .ref 29, .ref 30, .ref 31, .int (zI ((zOpP (zsu t 25 0 0 0) (t 4 0 0).toNat 1 20) 14 0 0)), .int (zI ((zOpP (zsu t 25 0 0 0) (t 4 0 0).toNat 1 20) 23 0 0)), .int (zI ((zOpP (zsu t 25 0 0 0) (t 4 0 0).toNat 1 20) 24 0 0)), .int (zI ((zOpP (zsu t 25 0 0 0) (t 4 0 0).toNat 1 20) 25 0 0))] fl_X7_60 tyX7 tyX7_ok nmX7 rfl (by decide +kernel) rfl rfl (zAll_16 s (zOpP (zsu t 25 0 0 0) (t 4 0 0).toNat 1 20) o) (Nat.le_of_ble_eq_true rfl) rfl dX7_addUsual_176 ?_
              have hm_10_s := zu_s (zAll s (zOpP (zsu t 25 0 0 0) (t 4 0 0).toNat 1 20) o) 16 (zOb 8 [.ref 17, .ref 18, .ref 19, .int (zI ((zOpP (zsu t 25 0 0 0) (t 4 0 0).toNat 1 20) 0 0 0)), .ref 20, .ref 21, .ref 22, .ref 23, .int (zI ((t 4 0 0) + 1)), .ref 24, .ref 25, .ref 26, .ref 27, .int (zI ((zOpP (zsu t 25 0 0 0) (t 4 0 0).toNat 1 20) 9 0 0)), .ref 28, .ref 29, .ref 30, .ref 31, .int (zI ((zOpP (zsu t 25 0 0 0) (t 4 0 0).toNat 1 20) 14 0 0)), .int (zI ((zOpP (zsu t 25 0 0 0) (t 4 0 0).toNat 1 20) 23 0 0)), .int (zI ((zOpP (zsu t 25 0 0 0) (t 4 0 0).toNat 1 20) 24 0 0)), .int (zI ((zOpP (zsu t 25 0 0 0) (t 4 0 0).toNat 1 20) 25 0 0))])
              refine z_M (M' := (zAll s (zsu (zOpP (zsu t 25 0 0 0) (t 4 0 0).toNat 1 20) 4 0 0 (t 4 0 0 + 1)) o)) zMA_s4 ?_
              refine z_aload_n F 0 dX7_addUsual_179 rfl rfl ?_
              refine z_get F fl_X7_60 (zAll_16 s (zsu (zOpP (zsu t 25 0 0 0) (t 4 0 0).toNat 1 20) 4 0 0 (t 4 0 0 + 1)) o) rfl dX7_addUsual_180 ?_
              refine z_ti (y := t 4 0 0 + 1) rfl ?_
              refine z_iconst (z := 1) F dX7_addUsual_183 (by decide) ?_
              refine z_isub F dX7_addUsual_184 ?_
              refine z_ti (y := t 4 0 0) (by omega) ?_
              exact z_reti F rfl (by first | decide | assumption | omega) (by first | decide | assumption | omega) dX7_addUsual_185 ⟨_, rfl, zY_of (k := 0) (v := c 4 0 0) (by unfold xUsual; rw [if_pos (by omega), if_pos (by omega)]) (zB_u (zB_P (zB_u hb9 (by omega)) (by first | omega | (simp only [zP5]; omega)) (by decide) (by decide)) (by omega)) (by unfold zUs; rw [if_neg (show ¬ a = 0 by omega)]; rw [if_neg (show ¬ a = 1 by omega)]; rw [if_neg (show ¬ a = 2 by omega)]; simp only [zPN, e4]; exact (((hr.x (by omega) 0 0 0).N (by rfl)).P _ _ _)) rfl (fun _ => e4)⟩
            · skip
              refine z_aload_n F 0 dX7_addUsual_122 rfl rfl ?_
              refine z_aload_n F 0 dX7_addUsual_123 rfl rfl ?_
              refine z_get F fl_X7_60 (zAll_16 s (zsu t 25 0 0 0) o) rfl dX7_addUsual_124 ?_
              refine z_ti (y := ((((t 4 0 0).toNat) : Nat) : Int)) (by show t 4 0 0 = _; omega) ?_
              refine z_iconst (z := 3) F dX7_addUsual_127 (by decide) ?_
              refine z_bipush (z := 15) F dX7_addUsual_128 (by decide) ?_
              refine z_callV F [.int (zI (((((t 4 0 0).toNat) : Nat) : Int))), .int (zI 3), .int (zI 15)] [] (c_X7_puts F.2.2.1 G (s := s) (t := (zsu t 25 0 0 0)) (o := o) (a := (t 4 0 0).toNat) (sk := 3) (mi := 15) (by omega) (by first | omega | (simp only [zP5]; omega)) (by first | omega | (simp only [zP5]; omega))) cv_X7_80 (zAll_16 s (zsu t 25 0 0 0) o) rfl rfl rfl ⟨by decide, by decide⟩ ⟨by decide, by decide⟩ (Nat.le_of_ble_eq_true rfl) dX7_addUsual_130 z_nx (z_kv (fun M_11 h_11 => ?_))
              have hm9 := (h_11).symm
              subst hm9
              refine z_aload_n F 0 dX7_addUsual_133 rfl rfl ?_
              refine z_aload_n F 0 dX7_addUsual_134 rfl rfl ?_
              refine z_get F fl_X7_60 (zAll_16 s (zOpP (zsu t 25 0 0 0) (t 4 0 0).toNat 3 15) o) rfl dX7_addUsual_135 ?_
              refine z_ti (y := ((((t 4 0 0).toNat) : Nat) : Int)) (by show t 4 0 0 = _; omega) ?_
              refine z_iconst (z := -1) F dX7_addUsual_138 (by decide) ?_
              refine z_bipush (z := 20) F dX7_addUsual_139 (by decide) ?_
              refine z_callV F [.int (zI (((((t 4 0 0).toNat) : Nat) : Int))), .int (zI (-1)), .int (zI 20)] [] (c_X7_puts F.2.2.1 G (s := s) (t := (zOpP (zsu t 25 0 0 0) (t 4 0 0).toNat 3 15)) (o := o) (a := (t 4 0 0).toNat) (sk := (-1)) (mi := 20) (by omega) (by first | omega | (simp only [zP5]; omega)) (by first | omega | (simp only [zP5]; omega))) cv_X7_80 (zAll_16 s (zOpP (zsu t 25 0 0 0) (t 4 0 0).toNat 3 15) o) rfl rfl rfl ⟨by decide, by decide⟩ ⟨by decide, by decide⟩ (Nat.le_of_ble_eq_true rfl) dX7_addUsual_141 z_nx (z_kv (fun M_12 h_12 => ?_))
              have hm9 := (h_12).symm
              subst hm9
              refine z_aload_n F 0 dX7_addUsual_144 rfl rfl ?_
              refine z_aload_n F 0 dX7_addUsual_145 rfl rfl ?_
              refine z_get F fl_X7_60 (zAll_16 s (zOpP (zOpP (zsu t 25 0 0 0) (t 4 0 0).toNat 3 15) (t 4 0 0).toNat (-1) 20) o) rfl dX7_addUsual_146 ?_
              refine z_ti (y := ((((t 4 0 0).toNat) : Nat) : Int)) (by show t 4 0 0 = _; omega) ?_
              refine z_iconst (z := 0) F dX7_addUsual_149 (by decide) ?_
              refine z_bipush (z := 10) F dX7_addUsual_150 (by decide) ?_
              refine z_callV F [.int (zI (((((t 4 0 0).toNat) : Nat) : Int))), .int (zI 0), .int (zI 10)] [] (c_X7_puts F.2.2.1 G (s := s) (t := (zOpP (zOpP (zsu t 25 0 0 0) (t 4 0 0).toNat 3 15) (t 4 0 0).toNat (-1) 20)) (o := o) (a := (t 4 0 0).toNat) (sk := 0) (mi := 10) (by omega) (by first | omega | (simp only [zP5]; omega)) (by first | omega | (simp only [zP5]; omega))) cv_X7_80 (zAll_16 s (zOpP (zOpP (zsu t 25 0 0 0) (t 4 0 0).toNat 3 15) (t 4 0 0).toNat (-1) 20) o) rfl rfl rfl ⟨by decide, by decide⟩ ⟨by decide, by decide⟩ (Nat.le_of_ble_eq_true rfl) dX7_addUsual_152 z_nx (z_kv (fun M_13 h_13 => ?_))
              have hm9 := (h_13).symm
              subst hm9
              refine z_goto F 169 dX7_addUsual_155 (by decide) ?_
              refine z_aload_n F 0 dX7_addUsual_169 rfl rfl ?_
              refine z_dup F dX7_addUsual_170 rfl ?_
              refine z_get F fl_X7_60 (zAll_16 s (zOpP (zOpP (zOpP (zsu t 25 0 0 0) (t 4 0 0).toNat 3 15) (t 4 0 0).toNat (-1) 20) (t 4 0 0).toNat 0 10) o) rfl dX7_addUsual_171 ?_
              refine z_ti (y := t 4 0 0) rfl ?_
              refine z_iconst (z := 1) F dX7_addUsual_174 (by decide) ?_
              refine z_iadd F dX7_addUsual_175 ?_
              refine z_put (ty := .int) F [.ref 17, .ref 18, .ref 19, .int (zI ((zOpP (zOpP (zOpP (zsu t 25 0 0 0) (t 4 0 0).toNat 3 15) (t 4 0 0).toNat (-1) 20) (t 4 0 0).toNat 0 10) 0 0 0)), .ref 20, .ref 21, .ref 22, .ref 23, .int (zI ((t 4 0 0) + 1)), .ref 24, .ref 25, .ref 26, .ref 27, .int (zI ((zOpP (zOpP (zOpP (zsu t 25 0 0 0) (t 4 0 0).toNat 3 15) (t 4 0 0).toNat (-1) 20) (t 4 0 0).toNat 0 10) 9 0 0)), .ref 28, .ref 29, .ref 30, .ref 31, .int (zI ((zOpP (zOpP (zOpP (zsu t 25 0 0 0) (t 4 0 0).toNat 3 15) (t 4 0 0).toNat (-1) 20) (t 4 0 0).toNat 0 10) 14 0 0)), .int (zI ((zOpP (zOpP (zOpP (zsu t 25 0 0 0) (t 4 0 0).toNat 3 15) (t 4 0 0).toNat (-1) 20) (t 4 0 0).toNat 0 10) 23 0 0)), .int (zI ((zOpP (zOpP (zOpP (zsu t 25 0 0 0) (t 4 0 0).toNat 3 15) (t 4 0 0).toNat (-1) 20) (t 4 0 0).toNat 0 10) 24 0 0)), .int (zI ((zOpP (zOpP (zOpP (zsu t 25 0 0 0) (t 4 0 0).toNat 3 15) (t 4 0 0).toNat (-1) 20) (t 4 0 0).toNat 0 10) 25 0 0))] fl_X7_60 tyX7 tyX7_ok nmX7 rfl (by decide +kernel) rfl rfl (zAll_16 s (zOpP (zOpP (zOpP (zsu t 25 0 0 0) (t 4 0 0).toNat 3 15) (t 4 0 0).toNat (-1) 20) (t 4 0 0).toNat 0 10) o) (Nat.le_of_ble_eq_true rfl) rfl dX7_addUsual_176 ?_
              have hm_14_s := zu_s (zAll s (zOpP (zOpP (zOpP (zsu t 25 0 0 0) (t 4 0 0).toNat 3 15) (t 4 0 0).toNat (-1) 20) (t 4 0 0).toNat 0 10) o) 16 (zOb 8 [.ref 17, .ref 18, .ref 19, .int (zI ((zOpP (zOpP (zOpP (zsu t 25 0 0 0) (t 4 0 0).toNat 3 15) (t 4 0 0).toNat (-1) 20) (t 4 0 0).toNat 0 10) 0 0 0)), .ref 20, .ref 21, .ref 22, .ref 23, .int (zI ((t 4 0 0) + 1)), .ref 24, .ref 25, .ref 26, .ref 27, .int (zI ((zOpP (zOpP (zOpP (zsu t 25 0 0 0) (t 4 0 0).toNat 3 15) (t 4 0 0).toNat (-1) 20) (t 4 0 0).toNat 0 10) 9 0 0)), .ref 28, .ref 29, .ref 30, .ref 31, .int (zI ((zOpP (zOpP (zOpP (zsu t 25 0 0 0) (t 4 0 0).toNat 3 15) (t 4 0 0).toNat (-1) 20) (t 4 0 0).toNat 0 10) 14 0 0)), .int (zI ((zOpP (zOpP (zOpP (zsu t 25 0 0 0) (t 4 0 0).toNat 3 15) (t 4 0 0).toNat (-1) 20) (t 4 0 0).toNat 0 10) 23 0 0)), .int (zI ((zOpP (zOpP (zOpP (zsu t 25 0 0 0) (t 4 0 0).toNat 3 15) (t 4 0 0).toNat (-1) 20) (t 4 0 0).toNat 0 10) 24 0 0)), .int (zI ((zOpP (zOpP (zOpP (zsu t 25 0 0 0) (t 4 0 0).toNat 3 15) (t 4 0 0).toNat (-1) 20) (t 4 0 0).toNat 0 10) 25 0 0))])
              refine z_M (M' := (zAll s (zsu (zOpP (zOpP (zOpP (zsu t 25 0 0 0) (t 4 0 0).toNat 3 15) (t 4 0 0).toNat (-1) 20) (t 4 0 0).toNat 0 10) 4 0 0 (t 4 0 0 + 1)) o)) zMA_s4 ?_
              refine z_aload_n F 0 dX7_addUsual_179 rfl rfl ?_
              refine z_get F fl_X7_60 (zAll_16 s (zsu (zOpP (zOpP (zOpP (zsu t 25 0 0 0) (t 4 0 0).toNat 3 15) (t 4 0 0).toNat (-1) 20) (t 4 0 0).toNat 0 10) 4 0 0 (t 4 0 0 + 1)) o) rfl dX7_addUsual_180 ?_
              refine z_ti (y := t 4 0 0 + 1) rfl ?_
              refine z_iconst (z := 1) F dX7_addUsual_183 (by decide) ?_
              refine z_isub F dX7_addUsual_184 ?_
              refine z_ti (y := t 4 0 0) (by omega) ?_
              exact z_reti F rfl (by first | decide | assumption | omega) (by first | decide | assumption | omega) dX7_addUsual_185 ⟨_, rfl, zY_of (k := 0) (v := c 4 0 0) (by unfold xUsual; rw [if_pos (by omega), if_pos (by omega)]) (zB_u (zB_P (zB_P (zB_P (zB_u hb9 (by omega)) (by first | omega | (simp only [zP5]; omega)) (by decide) (by decide)) (by first | omega | (simp only [zP5]; omega)) (by decide) (by decide)) (by first | omega | (simp only [zP5]; omega)) (by decide) (by decide)) (by omega)) (by unfold zUs; rw [if_neg (show ¬ a = 0 by omega)]; rw [if_neg (show ¬ a = 1 by omega)]; rw [if_pos (show a = 2 by omega)]; simp only [zPN, e4]; exact (((((hr.x (by omega) 0 0 0).N (by rfl)).P _ _ _).P _ _ _).P _ _ _)) rfl (fun _ => e4)⟩
          · skip
            refine z_aload_n F 0 dX7_addUsual_70 rfl rfl ?_
            refine z_aload_n F 0 dX7_addUsual_71 rfl rfl ?_
            refine z_get F fl_X7_60 (zAll_16 s (zsu t 25 0 0 0) o) rfl dX7_addUsual_72 ?_
            refine z_ti (y := ((((t 4 0 0).toNat) : Nat) : Int)) (by show t 4 0 0 = _; omega) ?_
            refine z_iconst (z := 2) F dX7_addUsual_75 (by decide) ?_
            refine z_bipush (z := 40) F dX7_addUsual_76 (by decide) ?_
            refine z_callV F [.int (zI (((((t 4 0 0).toNat) : Nat) : Int))), .int (zI 2), .int (zI 40)] [] (c_X7_puts F.2.2.1 G (s := s) (t := (zsu t 25 0 0 0)) (o := o) (a := (t 4 0 0).toNat) (sk := 2) (mi := 40) (by omega) (by first | omega | (simp only [zP5]; omega)) (by first | omega | (simp only [zP5]; omega))) cv_X7_80 (zAll_16 s (zsu t 25 0 0 0) o) rfl rfl rfl ⟨by decide, by decide⟩ ⟨by decide, by decide⟩ (Nat.le_of_ble_eq_true rfl) dX7_addUsual_78 z_nx (z_kv (fun M_15 h_15 => ?_))
            have hm9 := (h_15).symm
            subst hm9
            refine z_aload_n F 0 dX7_addUsual_81 rfl rfl ?_
            refine z_aload_n F 0 dX7_addUsual_82 rfl rfl ?_
            refine z_get F fl_X7_60 (zAll_16 s (zOpP (zsu t 25 0 0 0) (t 4 0 0).toNat 2 40) o) rfl dX7_addUsual_83 ?_
            refine z_ti (y := ((((t 4 0 0).toNat) : Nat) : Int)) (by show t 4 0 0 = _; omega) ?_
            refine z_iconst (z := -1) F dX7_addUsual_86 (by decide) ?_
            refine z_bipush (z := 35) F dX7_addUsual_87 (by decide) ?_
            refine z_callV F [.int (zI (((((t 4 0 0).toNat) : Nat) : Int))), .int (zI (-1)), .int (zI 35)] [] (c_X7_puts F.2.2.1 G (s := s) (t := (zOpP (zsu t 25 0 0 0) (t 4 0 0).toNat 2 40)) (o := o) (a := (t 4 0 0).toNat) (sk := (-1)) (mi := 35) (by omega) (by first | omega | (simp only [zP5]; omega)) (by first | omega | (simp only [zP5]; omega))) cv_X7_80 (zAll_16 s (zOpP (zsu t 25 0 0 0) (t 4 0 0).toNat 2 40) o) rfl rfl rfl ⟨by decide, by decide⟩ ⟨by decide, by decide⟩ (Nat.le_of_ble_eq_true rfl) dX7_addUsual_89 z_nx (z_kv (fun M_16 h_16 => ?_))
            have hm9 := (h_16).symm
            subst hm9
            refine z_aload_n F 0 dX7_addUsual_92 rfl rfl ?_
            refine z_aload_n F 0 dX7_addUsual_93 rfl rfl ?_
            refine z_get F fl_X7_60 (zAll_16 s (zOpP (zOpP (zsu t 25 0 0 0) (t 4 0 0).toNat 2 40) (t 4 0 0).toNat (-1) 35) o) rfl dX7_addUsual_94 ?_
            refine z_ti (y := ((((t 4 0 0).toNat) : Nat) : Int)) (by show t 4 0 0 = _; omega) ?_
            refine z_iconst (z := 0) F dX7_addUsual_97 (by decide) ?_
            refine z_bipush (z := 10) F dX7_addUsual_98 (by decide) ?_
            refine z_callV F [.int (zI (((((t 4 0 0).toNat) : Nat) : Int))), .int (zI 0), .int (zI 10)] [] (c_X7_puts F.2.2.1 G (s := s) (t := (zOpP (zOpP (zsu t 25 0 0 0) (t 4 0 0).toNat 2 40) (t 4 0 0).toNat (-1) 35)) (o := o) (a := (t 4 0 0).toNat) (sk := 0) (mi := 10) (by omega) (by first | omega | (simp only [zP5]; omega)) (by first | omega | (simp only [zP5]; omega))) cv_X7_80 (zAll_16 s (zOpP (zOpP (zsu t 25 0 0 0) (t 4 0 0).toNat 2 40) (t 4 0 0).toNat (-1) 35) o) rfl rfl rfl ⟨by decide, by decide⟩ ⟨by decide, by decide⟩ (Nat.le_of_ble_eq_true rfl) dX7_addUsual_100 z_nx (z_kv (fun M_17 h_17 => ?_))
            have hm9 := (h_17).symm
            subst hm9
            refine z_aload_n F 0 dX7_addUsual_103 rfl rfl ?_
            refine z_aload_n F 0 dX7_addUsual_104 rfl rfl ?_
            refine z_get F fl_X7_60 (zAll_16 s (zOpP (zOpP (zOpP (zsu t 25 0 0 0) (t 4 0 0).toNat 2 40) (t 4 0 0).toNat (-1) 35) (t 4 0 0).toNat 0 10) o) rfl dX7_addUsual_105 ?_
            refine z_ti (y := ((((t 4 0 0).toNat) : Nat) : Int)) (by show t 4 0 0 = _; omega) ?_
            refine z_iconst (z := 1) F dX7_addUsual_108 (by decide) ?_
            refine z_bipush (z := 30) F dX7_addUsual_109 (by decide) ?_
            refine z_callV F [.int (zI (((((t 4 0 0).toNat) : Nat) : Int))), .int (zI 1), .int (zI 30)] [] (c_X7_puts F.2.2.1 G (s := s) (t := (zOpP (zOpP (zOpP (zsu t 25 0 0 0) (t 4 0 0).toNat 2 40) (t 4 0 0).toNat (-1) 35) (t 4 0 0).toNat 0 10)) (o := o) (a := (t 4 0 0).toNat) (sk := 1) (mi := 30) (by omega) (by first | omega | (simp only [zP5]; omega)) (by first | omega | (simp only [zP5]; omega))) cv_X7_80 (zAll_16 s (zOpP (zOpP (zOpP (zsu t 25 0 0 0) (t 4 0 0).toNat 2 40) (t 4 0 0).toNat (-1) 35) (t 4 0 0).toNat 0 10) o) rfl rfl rfl ⟨by decide, by decide⟩ ⟨by decide, by decide⟩ (Nat.le_of_ble_eq_true rfl) dX7_addUsual_111 z_nx (z_kv (fun M_18 h_18 => ?_))
            have hm9 := (h_18).symm
            subst hm9
            refine z_goto F 169 dX7_addUsual_114 (by decide) ?_
            refine z_aload_n F 0 dX7_addUsual_169 rfl rfl ?_
            refine z_dup F dX7_addUsual_170 rfl ?_
            refine z_get F fl_X7_60 (zAll_16 s (zOpP (zOpP (zOpP (zOpP (zsu t 25 0 0 0) (t 4 0 0).toNat 2 40) (t 4 0 0).toNat (-1) 35) (t 4 0 0).toNat 0 10) (t 4 0 0).toNat 1 30) o) rfl dX7_addUsual_171 ?_
            refine z_ti (y := t 4 0 0) rfl ?_
            refine z_iconst (z := 1) F dX7_addUsual_174 (by decide) ?_
            refine z_iadd F dX7_addUsual_175 ?_
            refine z_put (ty := .int) F [.ref 17, .ref 18, .ref 19, .int (zI ((zOpP (zOpP (zOpP (zOpP (zsu t 25 0 0 0) (t 4 0 0).toNat 2 40) (t 4 0 0).toNat (-1) 35) (t 4 0 0).toNat 0 10) (t 4 0 0).toNat 1 30) 0 0 0)), .ref 20, .ref 21, .ref 22, .ref 23, .int (zI ((t 4 0 0) + 1)), .ref 24, .ref 25, .ref 26, .ref 27, .int (zI ((zOpP (zOpP (zOpP (zOpP (zsu t 25 0 0 0) (t 4 0 0).toNat 2 40) (t 4 0 0).toNat (-1) 35) (t 4 0 0).toNat 0 10) (t 4 0 0).toNat 1 30) 9 0 0)), .ref 28, .ref 29, .ref 30, .ref 31, .int (zI ((zOpP (zOpP (zOpP (zOpP (zsu t 25 0 0 0) (t 4 0 0).toNat 2 40) (t 4 0 0).toNat (-1) 35) (t 4 0 0).toNat 0 10) (t 4 0 0).toNat 1 30) 14 0 0)), .int (zI ((zOpP (zOpP (zOpP (zOpP (zsu t 25 0 0 0) (t 4 0 0).toNat 2 40) (t 4 0 0).toNat (-1) 35) (t 4 0 0).toNat 0 10) (t 4 0 0).toNat 1 30) 23 0 0)), .int (zI ((zOpP (zOpP (zOpP (zOpP (zsu t 25 0 0 0) (t 4 0 0).toNat 2 40) (t 4 0 0).toNat (-1) 35) (t 4 0 0).toNat 0 10) (t 4 0 0).toNat 1 30) 24 0 0)), .int (zI ((zOpP (zOpP (zOpP (zOpP (zsu t 25 0 0 0) (t 4 0 0).toNat 2 40) (t 4 0 0).toNat (-1) 35) (t 4 0 0).toNat 0 10) (t 4 0 0).toNat 1 30) 25 0 0))] fl_X7_60 tyX7 tyX7_ok nmX7 rfl (by decide +kernel) rfl rfl (zAll_16 s (zOpP (zOpP (zOpP (zOpP (zsu t 25 0 0 0) (t 4 0 0).toNat 2 40) (t 4 0 0).toNat (-1) 35) (t 4 0 0).toNat 0 10) (t 4 0 0).toNat 1 30) o) (Nat.le_of_ble_eq_true rfl) rfl dX7_addUsual_176 ?_
            have hm_19_s := zu_s (zAll s (zOpP (zOpP (zOpP (zOpP (zsu t 25 0 0 0) (t 4 0 0).toNat 2 40) (t 4 0 0).toNat (-1) 35) (t 4 0 0).toNat 0 10) (t 4 0 0).toNat 1 30) o) 16 (zOb 8 [.ref 17, .ref 18, .ref 19, .int (zI ((zOpP (zOpP (zOpP (zOpP (zsu t 25 0 0 0) (t 4 0 0).toNat 2 40) (t 4 0 0).toNat (-1) 35) (t 4 0 0).toNat 0 10) (t 4 0 0).toNat 1 30) 0 0 0)), .ref 20, .ref 21, .ref 22, .ref 23, .int (zI ((t 4 0 0) + 1)), .ref 24, .ref 25, .ref 26, .ref 27, .int (zI ((zOpP (zOpP (zOpP (zOpP (zsu t 25 0 0 0) (t 4 0 0).toNat 2 40) (t 4 0 0).toNat (-1) 35) (t 4 0 0).toNat 0 10) (t 4 0 0).toNat 1 30) 9 0 0)), .ref 28, .ref 29, .ref 30, .ref 31, .int (zI ((zOpP (zOpP (zOpP (zOpP (zsu t 25 0 0 0) (t 4 0 0).toNat 2 40) (t 4 0 0).toNat (-1) 35) (t 4 0 0).toNat 0 10) (t 4 0 0).toNat 1 30) 14 0 0)), .int (zI ((zOpP (zOpP (zOpP (zOpP (zsu t 25 0 0 0) (t 4 0 0).toNat 2 40) (t 4 0 0).toNat (-1) 35) (t 4 0 0).toNat 0 10) (t 4 0 0).toNat 1 30) 23 0 0)), .int (zI ((zOpP (zOpP (zOpP (zOpP (zsu t 25 0 0 0) (t 4 0 0).toNat 2 40) (t 4 0 0).toNat (-1) 35) (t 4 0 0).toNat 0 10) (t 4 0 0).toNat 1 30) 24 0 0)), .int (zI ((zOpP (zOpP (zOpP (zOpP (zsu t 25 0 0 0) (t 4 0 0).toNat 2 40) (t 4 0 0).toNat (-1) 35) (t 4 0 0).toNat 0 10) (t 4 0 0).toNat 1 30) 25 0 0))])
            refine z_M (M' := (zAll s (zsu (zOpP (zOpP (zOpP (zOpP (zsu t 25 0 0 0) (t 4 0 0).toNat 2 40) (t 4 0 0).toNat (-1) 35) (t 4 0 0).toNat 0 10) (t 4 0 0).toNat 1 30) 4 0 0 (t 4 0 0 + 1)) o)) zMA_s4 ?_
            refine z_aload_n F 0 dX7_addUsual_179 rfl rfl ?_
            refine z_get F fl_X7_60 (zAll_16 s (zsu (zOpP (zOpP (zOpP (zOpP (zsu t 25 0 0 0) (t 4 0 0).toNat 2 40) (t 4 0 0).toNat (-1) 35) (t 4 0 0).toNat 0 10) (t 4 0 0).toNat 1 30) 4 0 0 (t 4 0 0 + 1)) o) rfl dX7_addUsual_180 ?_
            refine z_ti (y := t 4 0 0 + 1) rfl ?_
            refine z_iconst (z := 1) F dX7_addUsual_183 (by decide) ?_
            refine z_isub F dX7_addUsual_184 ?_
            refine z_ti (y := t 4 0 0) (by omega) ?_
            exact z_reti F rfl (by first | decide | assumption | omega) (by first | decide | assumption | omega) dX7_addUsual_185 ⟨_, rfl, zY_of (k := 0) (v := c 4 0 0) (by unfold xUsual; rw [if_pos (by omega), if_pos (by omega)]) (zB_u (zB_P (zB_P (zB_P (zB_P (zB_u hb9 (by omega)) (by first | omega | (simp only [zP5]; omega)) (by decide) (by decide)) (by first | omega | (simp only [zP5]; omega)) (by decide) (by decide)) (by first | omega | (simp only [zP5]; omega)) (by decide) (by decide)) (by first | omega | (simp only [zP5]; omega)) (by decide) (by decide)) (by omega)) (by unfold zUs; rw [if_neg (show ¬ a = 0 by omega)]; rw [if_pos (show a = 1 by omega)]; simp only [zPN, e4]; exact ((((((hr.x (by omega) 0 0 0).N (by rfl)).P _ _ _).P _ _ _).P _ _ _).P _ _ _)) rfl (fun _ => e4)⟩
        · skip
          refine z_aload_n F 0 dX7_addUsual_40 rfl rfl ?_
          refine z_aload_n F 0 dX7_addUsual_41 rfl rfl ?_
          refine z_get F fl_X7_60 (zAll_16 s (zsu t 25 0 0 0) o) rfl dX7_addUsual_42 ?_
          refine z_ti (y := ((((t 4 0 0).toNat) : Nat) : Int)) (by show t 4 0 0 = _; omega) ?_
          refine z_iconst (z := 0) F dX7_addUsual_45 (by decide) ?_
          refine z_bipush (z := 10) F dX7_addUsual_46 (by decide) ?_
          refine z_callV F [.int (zI (((((t 4 0 0).toNat) : Nat) : Int))), .int (zI 0), .int (zI 10)] [] (c_X7_puts F.2.2.1 G (s := s) (t := (zsu t 25 0 0 0)) (o := o) (a := (t 4 0 0).toNat) (sk := 0) (mi := 10) (by omega) (by first | omega | (simp only [zP5]; omega)) (by first | omega | (simp only [zP5]; omega))) cv_X7_80 (zAll_16 s (zsu t 25 0 0 0) o) rfl rfl rfl ⟨by decide, by decide⟩ ⟨by decide, by decide⟩ (Nat.le_of_ble_eq_true rfl) dX7_addUsual_48 z_nx (z_kv (fun M_20 h_20 => ?_))
          have hm9 := (h_20).symm
          subst hm9
          refine z_aload_n F 0 dX7_addUsual_51 rfl rfl ?_
          refine z_aload_n F 0 dX7_addUsual_52 rfl rfl ?_
          refine z_get F fl_X7_60 (zAll_16 s (zOpP (zsu t 25 0 0 0) (t 4 0 0).toNat 0 10) o) rfl dX7_addUsual_53 ?_
          refine z_ti (y := ((((t 4 0 0).toNat) : Nat) : Int)) (by show t 4 0 0 = _; omega) ?_
          refine z_iconst (z := 1) F dX7_addUsual_56 (by decide) ?_
          refine z_bipush (z := 30) F dX7_addUsual_57 (by decide) ?_
          refine z_callV F [.int (zI (((((t 4 0 0).toNat) : Nat) : Int))), .int (zI 1), .int (zI 30)] [] (c_X7_puts F.2.2.1 G (s := s) (t := (zOpP (zsu t 25 0 0 0) (t 4 0 0).toNat 0 10)) (o := o) (a := (t 4 0 0).toNat) (sk := 1) (mi := 30) (by omega) (by first | omega | (simp only [zP5]; omega)) (by first | omega | (simp only [zP5]; omega))) cv_X7_80 (zAll_16 s (zOpP (zsu t 25 0 0 0) (t 4 0 0).toNat 0 10) o) rfl rfl rfl ⟨by decide, by decide⟩ ⟨by decide, by decide⟩ (Nat.le_of_ble_eq_true rfl) dX7_addUsual_59 z_nx (z_kv (fun M_21 h_21 => ?_))
          have hm9 := (h_21).symm
          subst hm9
          refine z_goto F 169 dX7_addUsual_62 (by decide) ?_
          refine z_aload_n F 0 dX7_addUsual_169 rfl rfl ?_
          refine z_dup F dX7_addUsual_170 rfl ?_
          refine z_get F fl_X7_60 (zAll_16 s (zOpP (zOpP (zsu t 25 0 0 0) (t 4 0 0).toNat 0 10) (t 4 0 0).toNat 1 30) o) rfl dX7_addUsual_171 ?_
          refine z_ti (y := t 4 0 0) rfl ?_
          refine z_iconst (z := 1) F dX7_addUsual_174 (by decide) ?_
          refine z_iadd F dX7_addUsual_175 ?_
          refine z_put (ty := .int) F [.ref 17, .ref 18, .ref 19, .int (zI ((zOpP (zOpP (zsu t 25 0 0 0) (t 4 0 0).toNat 0 10) (t 4 0 0).toNat 1 30) 0 0 0)), .ref 20, .ref 21, .ref 22, .ref 23, .int (zI ((t 4 0 0) + 1)), .ref 24, .ref 25, .ref 26, .ref 27, .int (zI ((zOpP (zOpP (zsu t 25 0 0 0) (t 4 0 0).toNat 0 10) (t 4 0 0).toNat 1 30) 9 0 0)), .ref 28, .ref 29, .ref 30, .ref 31, .int (zI ((zOpP (zOpP (zsu t 25 0 0 0) (t 4 0 0).toNat 0 10) (t 4 0 0).toNat 1 30) 14 0 0)), .int (zI ((zOpP (zOpP (zsu t 25 0 0 0) (t 4 0 0).toNat 0 10) (t 4 0 0).toNat 1 30) 23 0 0)), .int (zI ((zOpP (zOpP (zsu t 25 0 0 0) (t 4 0 0).toNat 0 10) (t 4 0 0).toNat 1 30) 24 0 0)), .int (zI ((zOpP (zOpP (zsu t 25 0 0 0) (t 4 0 0).toNat 0 10) (t 4 0 0).toNat 1 30) 25 0 0))] fl_X7_60 tyX7 tyX7_ok nmX7 rfl (by decide +kernel) rfl rfl (zAll_16 s (zOpP (zOpP (zsu t 25 0 0 0) (t 4 0 0).toNat 0 10) (t 4 0 0).toNat 1 30) o) (Nat.le_of_ble_eq_true rfl) rfl dX7_addUsual_176 ?_
          have hm_22_s := zu_s (zAll s (zOpP (zOpP (zsu t 25 0 0 0) (t 4 0 0).toNat 0 10) (t 4 0 0).toNat 1 30) o) 16 (zOb 8 [.ref 17, .ref 18, .ref 19, .int (zI ((zOpP (zOpP (zsu t 25 0 0 0) (t 4 0 0).toNat 0 10) (t 4 0 0).toNat 1 30) 0 0 0)), .ref 20, .ref 21, .ref 22, .ref 23, .int (zI ((t 4 0 0) + 1)), .ref 24, .ref 25, .ref 26, .ref 27, .int (zI ((zOpP (zOpP (zsu t 25 0 0 0) (t 4 0 0).toNat 0 10) (t 4 0 0).toNat 1 30) 9 0 0)), .ref 28, .ref 29, .ref 30, .ref 31, .int (zI ((zOpP (zOpP (zsu t 25 0 0 0) (t 4 0 0).toNat 0 10) (t 4 0 0).toNat 1 30) 14 0 0)), .int (zI ((zOpP (zOpP (zsu t 25 0 0 0) (t 4 0 0).toNat 0 10) (t 4 0 0).toNat 1 30) 23 0 0)), .int (zI ((zOpP (zOpP (zsu t 25 0 0 0) (t 4 0 0).toNat 0 10) (t 4 0 0).toNat 1 30) 24 0 0)), .int (zI ((zOpP (zOpP (zsu t 25 0 0 0) (t 4 0 0).toNat 0 10) (t 4 0 0).toNat 1 30) 25 0 0))])
          refine z_M (M' := (zAll s (zsu (zOpP (zOpP (zsu t 25 0 0 0) (t 4 0 0).toNat 0 10) (t 4 0 0).toNat 1 30) 4 0 0 (t 4 0 0 + 1)) o)) zMA_s4 ?_
          refine z_aload_n F 0 dX7_addUsual_179 rfl rfl ?_
          refine z_get F fl_X7_60 (zAll_16 s (zsu (zOpP (zOpP (zsu t 25 0 0 0) (t 4 0 0).toNat 0 10) (t 4 0 0).toNat 1 30) 4 0 0 (t 4 0 0 + 1)) o) rfl dX7_addUsual_180 ?_
          refine z_ti (y := t 4 0 0 + 1) rfl ?_
          refine z_iconst (z := 1) F dX7_addUsual_183 (by decide) ?_
          refine z_isub F dX7_addUsual_184 ?_
          refine z_ti (y := t 4 0 0) (by omega) ?_
          exact z_reti F rfl (by first | decide | assumption | omega) (by first | decide | assumption | omega) dX7_addUsual_185 ⟨_, rfl, zY_of (k := 0) (v := c 4 0 0) (by unfold xUsual; rw [if_pos (by omega), if_pos (by omega)]) (zB_u (zB_P (zB_P (zB_u hb9 (by omega)) (by first | omega | (simp only [zP5]; omega)) (by decide) (by decide)) (by first | omega | (simp only [zP5]; omega)) (by decide) (by decide)) (by omega)) (by unfold zUs; rw [if_pos (show a = 0 by omega)]; simp only [zPN, e4]; exact ((((hr.x (by omega) 0 0 0).N (by rfl)).P _ _ _).P _ _ _)) rfl (fun _ => e4)⟩
      · skip
        omega
    · skip
      refine z_iconst (z := 2) F dX7_addUsual_23 (by decide) ?_
      refine z_goto F 28 dX7_addUsual_24 (by decide) ?_
      refine z_callV F [.int (zI 2)] [] (c_X7_isFine F.2.2.1 G (s := s) (t := t) (o := o) (p := 2) ⟨by decide, by decide⟩) cv_X7_77 (zAll_16 s t o) rfl rfl rfl ⟨by decide, by decide⟩ ⟨by decide, by decide⟩ (Nat.le_of_ble_eq_true rfl) dX7_addUsual_28 z_nx (z_ki (fun x_23 M_23 h_23 => ?_))
      have hx9 := (h_23).1.symm
      have hm9 := (h_23).2.symm
      subst hx9
      subst hm9
      refine z_ti (y := 0) (if_neg (by decide)) ?_
      refine z_if_ne F 36 dX7_addUsual_31 (by decide) ⟨by decide, by decide⟩ (fun c_24 => ?_) (fun c_24 => ?_)
      · skip
        omega
      · skip
        refine z_iconst (z := 0) F dX7_addUsual_34 (by decide) ?_
        exact z_reti F rfl (by first | decide | assumption | omega) (by first | decide | assumption | omega) dX7_addUsual_35 ⟨_, rfl, zY_of (k := 2) (v := 0) (by unfold xUsual; rw [if_pos (by omega), if_neg (by omega)]) (zB_u hb9 (by omega)) (hr.x (by omega) 0 0 2) rfl (fun h => absurd h (by decide))⟩
  · skip
    have hq9 : ¬ (0 ≤ a ∧ a ≤ 3) := fun h => by rw [if_pos h] at c_2; omega
    refine z_iconst (z := 1) F dX7_addUsual_10 (by decide) ?_
    refine z_goto F 28 dX7_addUsual_11 (by decide) ?_
    refine z_callV F [.int (zI 1)] [] (c_X7_isFine F.2.2.1 G (s := s) (t := t) (o := o) (p := 1) ⟨by decide, by decide⟩) cv_X7_77 (zAll_16 s t o) rfl rfl rfl ⟨by decide, by decide⟩ ⟨by decide, by decide⟩ (Nat.le_of_ble_eq_true rfl) dX7_addUsual_28 z_nx (z_ki (fun x_25 M_25 h_25 => ?_))
    have hx9 := (h_25).1.symm
    have hm9 := (h_25).2.symm
    subst hx9
    subst hm9
    refine z_ti (y := 0) (if_neg (by decide)) ?_
    refine z_if_ne F 36 dX7_addUsual_31 (by decide) ⟨by decide, by decide⟩ (fun c_26 => ?_) (fun c_26 => ?_)
    · skip
      omega
    · skip
      refine z_iconst (z := 0) F dX7_addUsual_34 (by decide) ?_
      exact z_reti F rfl (by first | decide | assumption | omega) (by first | decide | assumption | omega) dX7_addUsual_35 ⟨_, rfl, zY_of (k := 1) (v := 0) (by unfold xUsual; rw [if_neg (by omega)]) (zB_u hb9 (by omega)) (hr.x (by omega) 0 0 1) rfl (fun h => absurd h (by decide))⟩

abbrev rX7_request : Room := { frames := 2, cells := 0, slots := 0, locals := 43 }
set_option maxRecDepth 100000 in
set_option maxHeartbeats 4000000 in
theorem c_X7_request {l : Launch} (hfl : l.stackTraces = false) (G : zG) {s t c : zS} {o : zOx} (hc : zC1 t) (hb9 : zB t) (hI : zInv c) (hr : zRel c t) (h3 : ∀ j, t 3 j 0 ≤ 600) {a x : Int} (ha : zR a) (hx : zR x)  : zCn l G yX7_request (.code yX7_request cX7_request 3 (some .int)) rX7_request [.ref 16, .int (zI a), .int (zI x)] (zAll s t o) (zRi (zY s o (xReq c a x))) zN := by
  refine zStart hfl (by decide) (own := RX7) rfl [(0, .ref 16), (1, .int (zI a)), (2, .int (zI x))] (Nat.le_of_ble_eq_true rfl) rfl (fun k hkl hinit hk0 F => ?_)
  have hn0 := hc.1
  have hn4 := hc.2.1
  have hn9 := hc.2.2.1
  have hn14 := hc.2.2.2.1
  have hn18 := hc.2.2.2.2.1
  have e0 := hr.1 0 0 0 (by omega)
  have e4 := hr.1 4 0 0 (by omega)
  have e9 := hr.1 9 0 0 (by omega)
  have e14 := hr.2.1
  have hc00 := hI.c.1
  have hc40 := hI.c.2.1
  refine z_aload_n F 0 dX7_request_0 rfl rfl ?_
  refine z_aload_n F 0 dX7_request_1 rfl rfl ?_
  refine z_iload_n F 1 dX7_request_2 rfl rfl ?_
  refine z_callV F [.int (zI a)] [.ref 16] (c_X7_isService F.2.2.1 G (s := s) (t := t) (o := o) hc hb9 ha) cv_X7_84 (zAll_16 s t o) rfl rfl rfl ⟨by decide, by decide⟩ ⟨by decide, by decide⟩ (Nat.le_of_ble_eq_true rfl) dX7_request_3 z_nx (z_ki (fun x_1 M_1 h_1 => ?_))
  have hx9 := (h_1).1.symm
  have hm9 := (h_1).2.symm
  subst hx9
  subst hm9
  have hz : zR (if 0 ≤ a ∧ a < t 4 0 0 then 1 else 0) := zR_if
  refine z_if_eq F 16 dX7_request_6 (by decide) (by omega) (fun c_2 => ?_) (fun c_2 => ?_)
  · skip
    have hq9 : ¬ (0 ≤ a ∧ a < t 4 0 0) := fun h => by rw [if_pos h] at c_2; omega
    refine z_iconst (z := 1) F dX7_request_16 (by decide) ?_
    refine z_goto F 34 dX7_request_17 (by decide) ?_
    refine z_callV F [.int (zI 1)] [] (c_X7_isFine F.2.2.1 G (s := s) (t := t) (o := o) (p := 1) ⟨by decide, by decide⟩) cv_X7_77 (zAll_16 s t o) rfl rfl rfl ⟨by decide, by decide⟩ ⟨by decide, by decide⟩ (Nat.le_of_ble_eq_true rfl) dX7_request_34 z_nx (z_ki (fun x_3 M_3 h_3 => ?_))
    have hx9 := (h_3).1.symm
    have hm9 := (h_3).2.symm
    subst hx9
    subst hm9
    refine z_ti (y := 0) (if_neg (by decide)) ?_
    refine z_if_ne F 42 dX7_request_37 (by decide) ⟨by decide, by decide⟩ (fun c_4 => ?_) (fun c_4 => ?_)
    · skip
      omega
    · skip
      refine z_iconst (z := 0) F dX7_request_40 (by decide) ?_
      exact z_reti F rfl (by first | decide | assumption | omega) (by first | decide | assumption | omega) dX7_request_41 ⟨_, rfl, zY_of (k := 1) (v := 0) (by unfold xReq; rw [if_neg (by omega)]) (zB_u hb9 (by omega)) (hr.x (by omega) 0 0 1) rfl (fun h => absurd h (by decide))⟩
  · skip
    have hq9 : 0 ≤ a ∧ a < t 4 0 0 := Classical.byContradiction fun h => by rw [if_neg h] at c_2; omega
    refine z_iload_n F 2 dX7_request_9 rfl rfl ?_
    refine z_callS F [.int (zI x)] [.ref 16] (c_X7_isMinute F.2.2.1 G hx (zAll s t o)) cs_X7_124 rfl ⟨by decide, by decide⟩ ⟨by decide, by decide⟩ (Nat.le_of_ble_eq_true rfl) dX7_request_10 z_nx (z_ki (fun x_5 M_5 h_5 => ?_))
    have hx9 := (h_5).1.symm
    have hm9 := (h_5).2.symm
    subst hx9
    subst hm9
    have hz : zR (if 0 ≤ x ∧ x < 600 then 1 else 0) := zR_if
    refine z_if_ne F 20 dX7_request_13 (by decide) (by omega) (fun c_6 => ?_) (fun c_6 => ?_)
    · skip
      have hq8 : 0 ≤ x ∧ x < 600 := Classical.byContradiction fun h => by rw [if_neg h] at c_6; omega
      refine z_aload_n F 0 dX7_request_20 rfl rfl ?_
      refine z_get F fl_X7_136 (zAll_16 s t o) rfl dX7_request_21 ?_
      refine z_bipush (z := 6) F dX7_request_24 (by decide) ?_
      refine z_icmp_ne F 33 dX7_request_26 (by decide) (by omega) ⟨by decide, by decide⟩ (fun c_7 => ?_) (fun c_7 => ?_)
      · skip
        refine z_iconst (z := 0) F dX7_request_33 (by decide) ?_
        refine z_callV F [.int (zI 0)] [] (c_X7_isFine F.2.2.1 G (s := s) (t := t) (o := o) (p := 0) ⟨by decide, by decide⟩) cv_X7_77 (zAll_16 s t o) rfl rfl rfl ⟨by decide, by decide⟩ ⟨by decide, by decide⟩ (Nat.le_of_ble_eq_true rfl) dX7_request_34 z_nx (z_ki (fun x_8 M_8 h_8 => ?_))
        have hx9 := (h_8).1.symm
        have hm9 := (h_8).2.symm
        subst hx9
        subst hm9
        refine z_ti (y := 1) (if_pos rfl) ?_
        refine z_if_ne F 42 dX7_request_37 (by decide) ⟨by decide, by decide⟩ (fun c_9 => ?_) (fun c_9 => ?_)
        · skip
          refine z_aload_n F 0 dX7_request_42 rfl rfl ?_
          refine z_get F fl_X7_50 (zAll_16 s (zsu t 25 0 0 0) o) rfl dX7_request_43 ?_
          refine z_aload_n F 0 dX7_request_46 rfl rfl ?_
          refine z_get F fl_X7_136 (zAll_16 s (zsu t 25 0 0 0) o) rfl dX7_request_47 ?_
          refine z_ti (y := ((((t 14 0 0).toNat) : Nat) : Int)) (by show t 14 0 0 = _; omega) ?_
          refine z_iload_n F 1 dX7_request_50 rfl rfl ?_
          refine z_iast F (zAll_30 s (zsu t 25 0 0 0) o) (by omega) (by omega) (by decide) dX7_request_51 ?_
          have hm_10_s := zu_s (zAll s (zsu t 25 0 0 0) o) 30 (zAi 0 6 (zup (fun j => (zsu t 25 0 0 0) 15 j 0) (((((t 14 0 0).toNat) : Nat) : Int)).toNat a))
          refine z_M (M' := (zAll s (zsu (zsu t 25 0 0 0) 15 (t 14 0 0).toNat 0 a) o)) ((zMA_30 (t := (zsu t 25 0 0 0))).trans (by rw [Int.toNat_natCast])) ?_
          refine z_aload_n F 0 dX7_request_52 rfl rfl ?_
          refine z_get F fl_X7_53 (zAll_16 s (zsu (zsu t 25 0 0 0) 15 (t 14 0 0).toNat 0 a) o) rfl dX7_request_53 ?_
          refine z_aload_n F 0 dX7_request_56 rfl rfl ?_
          refine z_get F fl_X7_136 (zAll_16 s (zsu (zsu t 25 0 0 0) 15 (t 14 0 0).toNat 0 a) o) rfl dX7_request_57 ?_
          refine z_ti (y := ((((t 14 0 0).toNat) : Nat) : Int)) (by show t 14 0 0 = _; omega) ?_
          refine z_iload_n F 2 dX7_request_60 rfl rfl ?_
          refine z_iast F (zAll_31 s (zsu (zsu t 25 0 0 0) 15 (t 14 0 0).toNat 0 a) o) (by omega) (by omega) (by decide) dX7_request_61 ?_
          have hm_11_s := zu_s (zAll s (zsu (zsu t 25 0 0 0) 15 (t 14 0 0).toNat 0 a) o) 31 (zAi 0 6 (zup (fun j => (zsu (zsu t 25 0 0 0) 15 (t 14 0 0).toNat 0 a) 16 j 0) (((((t 14 0 0).toNat) : Nat) : Int)).toNat x))
          refine z_M (M' := (zAll s (zsu (zsu (zsu t 25 0 0 0) 15 (t 14 0 0).toNat 0 a) 16 (t 14 0 0).toNat 0 x) o)) ((zMA_31 (t := (zsu (zsu t 25 0 0 0) 15 (t 14 0 0).toNat 0 a))).trans (by rw [Int.toNat_natCast])) ?_
          refine z_aload_n F 0 dX7_request_62 rfl rfl ?_
          refine z_get F fl_X7_28 (zAll_16 s (zsu (zsu (zsu t 25 0 0 0) 15 (t 14 0 0).toNat 0 a) 16 (t 14 0 0).toNat 0 x) o) rfl dX7_request_63 ?_
          refine z_iload_n F 1 dX7_request_66 rfl rfl ?_
          refine z_iconst (z := 1) F dX7_request_67 (by decide) ?_
          refine z_zast F (zAll_23 s (zsu (zsu (zsu t 25 0 0 0) 15 (t 14 0 0).toNat 0 a) 16 (t 14 0 0).toNat 0 x) o) (by omega) (by omega) (by decide) (Or.inr rfl) dX7_request_68 ?_
          have hm_12_s := zu_s (zAll s (zsu (zsu (zsu t 25 0 0 0) 15 (t 14 0 0).toNat 0 a) 16 (t 14 0 0).toNat 0 x) o) 23 (zAi 1 8 (zup (fun j => (zsu (zsu (zsu t 25 0 0 0) 15 (t 14 0 0).toNat 0 a) 16 (t 14 0 0).toNat 0 x) 8 j 0) (a).toNat 1))
          refine z_M (M' := (zAll s (zsu (zsu (zsu (zsu t 25 0 0 0) 15 (t 14 0 0).toNat 0 a) 16 (t 14 0 0).toNat 0 x) 8 a.toNat 0 1) o)) zMA_23 ?_
          refine z_aload_n F 0 dX7_request_69 rfl rfl ?_
          refine z_dup F dX7_request_70 rfl ?_
          refine z_get F fl_X7_136 (zAll_16 s (zsu (zsu (zsu (zsu t 25 0 0 0) 15 (t 14 0 0).toNat 0 a) 16 (t 14 0 0).toNat 0 x) 8 a.toNat 0 1) o) rfl dX7_request_71 ?_
          refine z_ti (y := t 14 0 0) rfl ?_
          refine z_iconst (z := 1) F dX7_request_74 (by decide) ?_
          refine z_iadd F dX7_request_75 ?_
          refine z_put (ty := .int) F [.ref 17, .ref 18, .ref 19, .int (zI ((zsu (zsu (zsu (zsu t 25 0 0 0) 15 (t 14 0 0).toNat 0 a) 16 (t 14 0 0).toNat 0 x) 8 a.toNat 0 1) 0 0 0)), .ref 20, .ref 21, .ref 22, .ref 23, .int (zI ((zsu (zsu (zsu (zsu t 25 0 0 0) 15 (t 14 0 0).toNat 0 a) 16 (t 14 0 0).toNat 0 x) 8 a.toNat 0 1) 4 0 0)), .ref 24, .ref 25, .ref 26, .ref 27, .int (zI ((zsu (zsu (zsu (zsu t 25 0 0 0) 15 (t 14 0 0).toNat 0 a) 16 (t 14 0 0).toNat 0 x) 8 a.toNat 0 1) 9 0 0)), .ref 28, .ref 29, .ref 30, .ref 31, .int (zI ((t 14 0 0) + 1)), .int (zI ((zsu (zsu (zsu (zsu t 25 0 0 0) 15 (t 14 0 0).toNat 0 a) 16 (t 14 0 0).toNat 0 x) 8 a.toNat 0 1) 23 0 0)), .int (zI ((zsu (zsu (zsu (zsu t 25 0 0 0) 15 (t 14 0 0).toNat 0 a) 16 (t 14 0 0).toNat 0 x) 8 a.toNat 0 1) 24 0 0)), .int (zI ((zsu (zsu (zsu (zsu t 25 0 0 0) 15 (t 14 0 0).toNat 0 a) 16 (t 14 0 0).toNat 0 x) 8 a.toNat 0 1) 25 0 0))] fl_X7_136 tyX7 tyX7_ok nmX7 rfl (by decide +kernel) rfl rfl (zAll_16 s (zsu (zsu (zsu (zsu t 25 0 0 0) 15 (t 14 0 0).toNat 0 a) 16 (t 14 0 0).toNat 0 x) 8 a.toNat 0 1) o) (Nat.le_of_ble_eq_true rfl) rfl dX7_request_76 ?_
          have hm_13_s := zu_s (zAll s (zsu (zsu (zsu (zsu t 25 0 0 0) 15 (t 14 0 0).toNat 0 a) 16 (t 14 0 0).toNat 0 x) 8 a.toNat 0 1) o) 16 (zOb 8 [.ref 17, .ref 18, .ref 19, .int (zI ((zsu (zsu (zsu (zsu t 25 0 0 0) 15 (t 14 0 0).toNat 0 a) 16 (t 14 0 0).toNat 0 x) 8 a.toNat 0 1) 0 0 0)), .ref 20, .ref 21, .ref 22, .ref 23, .int (zI ((zsu (zsu (zsu (zsu t 25 0 0 0) 15 (t 14 0 0).toNat 0 a) 16 (t 14 0 0).toNat 0 x) 8 a.toNat 0 1) 4 0 0)), .ref 24, .ref 25, .ref 26, .ref 27, .int (zI ((zsu (zsu (zsu (zsu t 25 0 0 0) 15 (t 14 0 0).toNat 0 a) 16 (t 14 0 0).toNat 0 x) 8 a.toNat 0 1) 9 0 0)), .ref 28, .ref 29, .ref 30, .ref 31, .int (zI ((t 14 0 0) + 1)), .int (zI ((zsu (zsu (zsu (zsu t 25 0 0 0) 15 (t 14 0 0).toNat 0 a) 16 (t 14 0 0).toNat 0 x) 8 a.toNat 0 1) 23 0 0)), .int (zI ((zsu (zsu (zsu (zsu t 25 0 0 0) 15 (t 14 0 0).toNat 0 a) 16 (t 14 0 0).toNat 0 x) 8 a.toNat 0 1) 24 0 0)), .int (zI ((zsu (zsu (zsu (zsu t 25 0 0 0) 15 (t 14 0 0).toNat 0 a) 16 (t 14 0 0).toNat 0 x) 8 a.toNat 0 1) 25 0 0))])
          refine z_M (M' := (zAll s (zsu (zsu (zsu (zsu (zsu t 25 0 0 0) 15 (t 14 0 0).toNat 0 a) 16 (t 14 0 0).toNat 0 x) 8 a.toNat 0 1) 14 0 0 (t 14 0 0 + 1)) o)) zMA_s14 ?_
          refine z_aload_n F 0 dX7_request_79 rfl rfl ?_
          refine z_get F fl_X7_136 (zAll_16 s (zsu (zsu (zsu (zsu (zsu t 25 0 0 0) 15 (t 14 0 0).toNat 0 a) 16 (t 14 0 0).toNat 0 x) 8 a.toNat 0 1) 14 0 0 (t 14 0 0 + 1)) o) rfl dX7_request_80 ?_
          refine z_ti (y := t 14 0 0 + 1) rfl ?_
          exact z_reti F rfl (by first | decide | assumption | omega) (by first | decide | assumption | omega) dX7_request_83 ⟨_, rfl, zY_of (k := 0) (v := c 14 0 0 + 1) (by unfold xReq; rw [if_pos (by omega), if_pos (by omega)]) (zB_u (zB_u (zB_u (zB_u (zB_u hb9 (by omega)) (by omega)) (by omega)) (by omega)) (by omega)) ((hr.x (by omega) 0 0 0).Q (by omega) (by omega) (by omega) (by omega)) rfl (fun _ => by omega)⟩
        · skip
          omega
      · skip
        refine z_iconst (z := 2) F dX7_request_29 (by decide) ?_
        refine z_goto F 34 dX7_request_30 (by decide) ?_
        refine z_callV F [.int (zI 2)] [] (c_X7_isFine F.2.2.1 G (s := s) (t := t) (o := o) (p := 2) ⟨by decide, by decide⟩) cv_X7_77 (zAll_16 s t o) rfl rfl rfl ⟨by decide, by decide⟩ ⟨by decide, by decide⟩ (Nat.le_of_ble_eq_true rfl) dX7_request_34 z_nx (z_ki (fun x_14 M_14 h_14 => ?_))
        have hx9 := (h_14).1.symm
        have hm9 := (h_14).2.symm
        subst hx9
        subst hm9
        refine z_ti (y := 0) (if_neg (by decide)) ?_
        refine z_if_ne F 42 dX7_request_37 (by decide) ⟨by decide, by decide⟩ (fun c_15 => ?_) (fun c_15 => ?_)
        · skip
          omega
        · skip
          refine z_iconst (z := 0) F dX7_request_40 (by decide) ?_
          exact z_reti F rfl (by first | decide | assumption | omega) (by first | decide | assumption | omega) dX7_request_41 ⟨_, rfl, zY_of (k := 2) (v := 0) (by unfold xReq; rw [if_pos (by omega), if_neg (by omega)]) (zB_u hb9 (by omega)) (hr.x (by omega) 0 0 2) rfl (fun h => absurd h (by decide))⟩
    · skip
      have hq8 : ¬ (0 ≤ x ∧ x < 600) := fun h => by rw [if_pos h] at c_6; omega
      refine z_iconst (z := 1) F dX7_request_16 (by decide) ?_
      refine z_goto F 34 dX7_request_17 (by decide) ?_
      refine z_callV F [.int (zI 1)] [] (c_X7_isFine F.2.2.1 G (s := s) (t := t) (o := o) (p := 1) ⟨by decide, by decide⟩) cv_X7_77 (zAll_16 s t o) rfl rfl rfl ⟨by decide, by decide⟩ ⟨by decide, by decide⟩ (Nat.le_of_ble_eq_true rfl) dX7_request_34 z_nx (z_ki (fun x_16 M_16 h_16 => ?_))
      have hx9 := (h_16).1.symm
      have hm9 := (h_16).2.symm
      subst hx9
      subst hm9
      refine z_ti (y := 0) (if_neg (by decide)) ?_
      refine z_if_ne F 42 dX7_request_37 (by decide) ⟨by decide, by decide⟩ (fun c_17 => ?_) (fun c_17 => ?_)
      · skip
        omega
      · skip
        refine z_iconst (z := 0) F dX7_request_40 (by decide) ?_
        exact z_reti F rfl (by first | decide | assumption | omega) (by first | decide | assumption | omega) dX7_request_41 ⟨_, rfl, zY_of (k := 1) (v := 0) (by unfold xReq; rw [if_neg (by omega)]) (zB_u hb9 (by omega)) (hr.x (by omega) 0 0 1) rfl (fun h => absurd h (by decide))⟩

