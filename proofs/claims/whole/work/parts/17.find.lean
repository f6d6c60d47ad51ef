/-! ===== the book: searching ===== -/
theorem zss_r {s : zS} (hc : zC1 s) (a : Nat) : ∀ j : Nat, zR (if (j : Int) < s 5 a 0 then s 6 a j else 0) := fun j => by
  have := hc.2.2.2.2.2.1 a j
  split <;> constructor <;> omega
theorem zCan_of {s : zS} {i a : Nat} {x : Int} (h1 : zSk s i a = true) (h2 : s 2 i 0 ≤ x) (h3 : x + zLen s a ≤ s 3 i 0) (h4 : zStp s i a x (zSc s a) = true) : zCan s i a x = true := by
  simp [zCan, h1, h2, h3, h4]
theorem zCan_k {s : zS} {i a : Nat} {x : Int} (h1 : zSk s i a = false) : zCan s i a x = false := by simp [zCan, h1]
theorem zCan_2 {s : zS} {i a : Nat} {x : Int} (h : ¬ s 2 i 0 ≤ x) : zCan s i a x = false := by simp [zCan, h]
theorem zCan_3 {s : zS} {i a : Nat} {x : Int} (h : ¬ x + zLen s a ≤ s 3 i 0) : zCan s i a x = false := by simp [zCan, h]
theorem zStp_mono {s : zS} {i a : Nat} {x : Int} {k : Nat} : ∀ n, zStp s i a x (k + n) = true → zStp s i a x k = true
  | 0, h => h
  | n + 1, h => by
    rw [← Nat.add_assoc, zStp, Bool.and_eq_true] at h
    exact zStp_mono n h.1
theorem zCan_4 {s : zS} {i a : Nat} {x : Int} {k : Nat} (hk : k < zSc s a) (h1 : ¬ s 6 a k = -1) (h2 : ¬ zFr s (i + 4) (x + zOff s a k) (x + zOff s a (k + 1))) : zCan s i a x = false := by
  have h : zStp s i a x (zSc s a) = false := by
    cases h3 : zStp s i a x (zSc s a) with
    | false => rfl
    | true =>
      have h4 := zStp_mono (k := k + 1) (zSc s a - (k + 1)) (by rw [show k + 1 + (zSc s a - (k + 1)) = zSc s a by omega]; exact h3)
      rw [zStp, Bool.and_eq_true, Bool.or_eq_true, decide_eq_true_eq, decide_eq_true_eq] at h4
      rcases h4.2 with h5 | h5
      · exact absurd h5 h1
      · exact absurd h5 h2
  simp [zCan, h]
abbrev rX1_canTake : Room := { frames := 1, cells := 0, slots := 0, locals := 22 }
set_option maxRecDepth 100000 in
set_option maxHeartbeats 4000000 in
theorem c_X1_canTake {l : Launch} (hfl : l.stackTraces = false) (G : zG) {s t : zS} {o : zOx} (hc : zC1 s) (hb9 : zB s) {i a : Nat} {x : Int} (hi : (i : Int) < s 0 0 0) (ha : (a : Int) < s 4 0 0) (hx : -2000 ≤ x ∧ x ≤ 2000) : zCn l G yX1_canTake (.code yX1_canTake cX1_canTake 6 (some .boolean)) rX1_canTake [.ref (64 * i + 9), .ref (64 * a + 10), .int (zI x)] (zAll s t o) (zRi (fun xr M2 => xr = (if zCan s i a x = true then 1 else 0) ∧ M2 = (zAll s t o))) zN := by
  refine zStart hfl (by decide) (own := RX1) rfl [(0, .ref (64 * i + 9)), (1, .ref (64 * a + 10)), (2, .int (zI x))] (Nat.le_of_ble_eq_true rfl) rfl (fun k hkl hinit hk0 F => ?_)
  have hn0 := hc.1
  have hn4 := hc.2.1
  have hn9 := hc.2.2.1
  have hn14 := hc.2.2.2.1
  have hn18 := hc.2.2.2.2.1
  have hsc := hc.sc a
  have hln := hc.len a
  have hask := hc.ask a
  have hsk9 := hc.2.2.2.2.2.2.2.2.1 i
  have hb2 := hb9 2 i 0
  have hb3 := hb9 3 i 0
  refine z_aload_n F 0 dX1_canTake_0 rfl rfl ?_
  refine z_get F fl_X1_16 (zAll_m t o (i := i) (by omega)) rfl dX1_canTake_1 ?_
  refine z_aload_n F 1 dX1_canTake_4 rfl rfl ?_
  refine z_get F fl_X1_26 (zAll_s t o (i := a) (by omega)) rfl dX1_canTake_5 ?_
  refine z_iand F ((((s 1 i 0).toNat &&& zAskN s a (zSc s a) : Nat) : Int)) dX1_canTake_8 (by have h9 := zI_and (s 1 i 0).toNat (zAskN s a (zSc s a)); rwa [show (((s 1 i 0).toNat : Nat) : Int) = s 1 i 0 by omega] at h9) ?_
  refine z_aload_n F 1 dX1_canTake_9 rfl rfl ?_
  refine z_get F fl_X1_26 (zAll_s t o (i := a) (by omega)) rfl dX1_canTake_10 ?_
  have hr1 : zR (((s 1 i 0).toNat &&& zAskN s a (zSc s a) : Nat) : Int) := by
    have := Nat.and_le_left (n := (s 1 i 0).toNat) (m := zAskN s a (zSc s a))
    constructor <;> omega
  refine z_icmp_eq F 18 dX1_canTake_13 (by decide) (by omega) (by omega) (fun c_1 => ?_) (fun c_1 => ?_)
  · skip
    have hsk : zSk s i a = true := by
      have h9 : (((s 1 i 0).toNat &&& zAskN s a (zSc s a) : Nat) : Int) = ((zAskN s a (zSc s a) : Nat) : Int) := c_1
      unfold zSk
      rw [show (s 1 i 0).toNat &&& zAskN s a (zSc s a) = zAskN s a (zSc s a) by omega]
      exact beq_self_eq_true _
    refine z_iload_n F 2 dX1_canTake_18 rfl rfl ?_
    refine z_aload_n F 0 dX1_canTake_19 rfl rfl ?_
    refine z_get F fl_X1_20 (zAll_m t o (i := i) (by omega)) rfl dX1_canTake_20 ?_
    refine z_icmp_lt F 39 dX1_canTake_23 (by decide) (by omega) (by omega) (fun c_2 => ?_) (fun c_2 => ?_)
    · skip
      refine z_iconst (z := 0) F dX1_canTake_39 (by decide) ?_
      exact z_retz F rfl (by decide) (by first | decide | assumption | omega) (by first | decide | assumption | omega) dX1_canTake_40 ⟨_, rfl, by first | (rw [zCan_2 (show ¬ s 2 i 0 ≤ x by omega)]; rfl) | (rw [zCan_3 (show ¬ x + zLen s a ≤ s 3 i 0 by omega)]; rfl), rfl⟩
    · skip
      refine z_iload_n F 2 dX1_canTake_26 rfl rfl ?_
      refine z_aload_n F 1 dX1_canTake_27 rfl rfl ?_
      refine z_get F fl_X1_29 (zAll_s t o (i := a) (by omega)) rfl dX1_canTake_28 ?_
      refine z_iadd F dX1_canTake_31 ?_
      refine z_aload_n F 0 dX1_canTake_32 rfl rfl ?_
      refine z_get F fl_X1_23 (zAll_m t o (i := i) (by omega)) rfl dX1_canTake_33 ?_
      refine z_icmp_le F 41 dX1_canTake_36 (by decide) (by omega) (by omega) (fun c_3 => ?_) (fun c_3 => ?_)
      · skip
        refine z_iconst (z := 0) F dX1_canTake_41 (by decide) ?_
        refine z_istore_n F [(3, .int (zI 0)), (0, .ref (64 * i + 9)), (1, .ref (64 * a + 10)), (2, .int (zI x))] dX1_canTake_42 rfl (by decide) rfl ?_
        have L1 : ∀ (fuel : Nat) (w : Int), (s 5 a 0 - w).toNat < fuel → 0 ≤ w → w ≤ s 5 a 0 → zStp s i a x w.toNat = true → zJ k G rX1_canTake 6 (zMQ k G rX1_canTake (zRi (fun xr M2 => xr = (if zCan s i a x = true then 1 else 0) ∧ M2 = (zAll s t o))) zN) (zAll s t o) 0 0 43 [(0, .ref (64 * i + 9)), (1, .ref (64 * a + 10)), (2, .int (zI x)), (3, .int (zI w))] [] := by
          intro fuel
          induction fuel with
          | zero => intros; omega
          | succ fuel ih =>
            intro w hfuel hk1 hk2 hk3
            refine z_iload_n F 3 dX1_canTake_43 rfl rfl ?_
            refine z_aload_n F 1 dX1_canTake_44 rfl rfl ?_
            refine z_get F fl_X1_32 (zAll_s t o (i := a) (by omega)) rfl dX1_canTake_45 ?_
            refine z_icmp_ge F 99 dX1_canTake_48 (by decide) (by omega) (by omega) (fun c_4 => ?_) (fun c_4 => ?_)
            · skip
              refine z_iconst (z := 1) F dX1_canTake_99 (by decide) ?_
              exact z_retz F rfl (by decide) (by first | decide | assumption | omega) (by first | decide | assumption | omega) dX1_canTake_100 ⟨_, rfl, by rw [zCan_of hsk (by omega) (by omega) (by rw [show zSc s a = w.toNat by omega]; exact hk3)]; rfl, rfl⟩
            · skip
              refine z_iload_n F 2 dX1_canTake_51 rfl rfl ?_
              refine z_aload_n F 1 dX1_canTake_52 rfl rfl ?_
              refine z_iload_n F 3 dX1_canTake_53 rfl rfl ?_
              refine z_callV F [.int (zI w)] [.int (zI x)] (c_X4_stepFrom F.2.2.1 G (a := w) (by omega) (zAll s t o) (zAll_s t o (i := a) (by omega)) (zAll_s1 t o (i := a) (by omega)) (zAll_s2 t o (i := a) (by omega)) (zAll_s3 t o (i := a) (by omega))) cv_X1_35 (zAll_s t o (i := a) (by omega)) rfl rfl rfl ⟨by decide, by decide⟩ ⟨by decide, by decide⟩ (Nat.le_of_ble_eq_true rfl) dX1_canTake_54 z_nx (z_ki (fun x_5 M_5 h_5 => ?_))
              have hx9 := (h_5).1.symm
              have hm9 := (h_5).2.symm
              subst hx9
              subst hm9
              refine z_ti (y := zOff s a w.toNat) (by rw [if_pos (show 0 ≤ w ∧ w < 5 by omega)]; exact if_pos (by omega)) ?_
              refine z_iadd F dX1_canTake_57 ?_
              refine z_istore F [(4, .int (zI (x + (zOff s a w.toNat)))), (0, .ref (64 * i + 9)), (1, .ref (64 * a + 10)), (2, .int (zI x)), (3, .int (zI w))] dX1_canTake_58 (by decide) rfl ?_
              have ho1 := hc.off a w.toNat
              have ho2 := hc.off a (w.toNat + 1)
              refine z_iload_n F 3 dX1_canTake_60 rfl rfl ?_
              refine z_aload_n F 2 dX1_canTake_61 rfl rfl ?_
              refine z_iload_n F 4 dX1_canTake_62 rfl rfl ?_
              refine z_callV F [.int (zI w)] [.int (zI x)] (c_X4_stepTo F.2.2.1 G (a := w) (by omega) (zAll s t o) (zAll_s t o (i := a) (by omega)) (zAll_s1 t o (i := a) (by omega)) (zAll_s2 t o (i := a) (by omega)) (zAll_s3 t o (i := a) (by omega))) cv_X1_39 (zAll_s t o (i := a) (by omega)) rfl rfl rfl ⟨by decide, by decide⟩ ⟨by decide, by decide⟩ (Nat.le_of_ble_eq_true rfl) dX1_canTake_63 z_nx (z_ki (fun x_6 M_6 h_6 => ?_))
              have hx9 := (h_6).1.symm
              have hm9 := (h_6).2.symm
              subst hx9
              subst hm9
              refine z_ti (y := zOff s a (w.toNat + 1)) (by rw [if_pos (show 0 ≤ w ∧ w < 5 by omega)]; exact if_pos (by omega)) ?_
              refine z_iadd F dX1_canTake_66 ?_
              refine z_istore F [(5, .int (zI (x + (zOff s a (w.toNat + 1))))), (4, .int (zI (x + (zOff s a w.toNat)))), (0, .ref (64 * i + 9)), (1, .ref (64 * a + 10)), (2, .int (zI x)), (3, .int (zI w))] dX1_canTake_67 (by decide) rfl ?_
              refine z_aload_n F 3 dX1_canTake_69 rfl rfl ?_
              refine z_iload_n F 5 dX1_canTake_70 rfl rfl ?_
              refine z_callV F [.int (zI w)] [] (c_X4_isRest F.2.2.1 G (a := w) (by omega) (zAll s t o) (zAll_s t o (i := a) (by omega)) (zAll_s1 t o (i := a) (by omega)) (zAll_s2 t o (i := a) (by omega)) (zAll_s3 t o (i := a) (by omega)) (zss_r hc a)) cv_X1_42 (zAll_s t o (i := a) (by omega)) rfl rfl rfl ⟨by decide, by decide⟩ ⟨by decide, by decide⟩ (Nat.le_of_ble_eq_true rfl) dX1_canTake_71 z_nx (z_ki (fun x_7 M_7 h_7 => ?_))
              have hx9 := (h_7).1.symm
              have hm9 := (h_7).2.symm
              subst hx9
              subst hm9
              have hz : zR (if ((0 ≤ w ∧ w < 5) ∧ (if (((w.toNat : Nat)) : Int) < s 5 a 0 then s 6 a w.toNat else 0) = -1) then 1 else 0) := zR_if
              refine z_if_ne F 93 dX1_canTake_74 (by decide) (by omega) (fun c_8 => ?_) (fun c_8 => ?_)
              · skip
                have hr9 : s 6 a w.toNat = -1 := by
                  have h9 : ((0 ≤ w ∧ w < 5) ∧ (if (((w.toNat : Nat)) : Int) < s 5 a 0 then s 6 a w.toNat else 0) = -1) := Classical.byContradiction fun h => by rw [if_neg h] at c_8; omega
                  have h8 := h9.2
                  rwa [if_pos (by omega)] at h8
                refine z_iinc F 5 [(3, .int (zI (w + 1))), (5, .int (zI (x + (zOff s a (w.toNat + 1))))), (4, .int (zI (x + (zOff s a w.toNat)))), (0, .ref (64 * i + 9)), (1, .ref (64 * a + 10)), (2, .int (zI x))] dX1_canTake_93 rfl (by decide) rfl ?_
                refine z_goto F 43 dX1_canTake_96 (by decide) ?_
                refine z_lv [(0, .ref (64 * i + 9)), (1, .ref (64 * a + 10)), (2, .int (zI x)), (3, .int (zI (w + 1)))] [3, 4, 5, 0] rfl ?_
                exact ih (w + 1) (by omega) (by omega) (by omega) (by rw [show (w + 1).toNat = w.toNat + 1 by omega, zStp, hk3]; simp only [Bool.true_and, Bool.or_eq_true, decide_eq_true_eq]; first | exact Or.inl hr9 | exact Or.inr hfr)
              · skip
                have hr9 : ¬ s 6 a w.toNat = -1 := fun h => by
                  rw [if_pos ⟨⟨by omega, by omega⟩, by rw [if_pos (by omega)]; exact h⟩] at c_8
                  omega
                refine z_aload_n F 2 dX1_canTake_77 rfl rfl ?_
                refine z_get F fl_X1_10 (zAll_m t o (i := i) (by omega)) rfl dX1_canTake_78 ?_
                refine z_iload F 1 dX1_canTake_81 rfl ?_
                refine z_iload F 0 dX1_canTake_83 rfl ?_
                refine z_callV F [.int (zI (x + (zOff s a w.toNat))), .int (zI (x + (zOff s a (w.toNat + 1))))] [] (c_X0_isFree F.2.2.1 G (by omega) (by omega) (zAll s t o) (zAll_d6 t o (i := i + 4) (by omega)) (zAll_d7 t o (i := i + 4) (by omega)) (zAll_d8 t o (i := i + 4) (by omega))) cv_X1_46 (zAll_d6 t o (i := (i + 4)) (by omega)) rfl rfl rfl ⟨by decide, by decide⟩ ⟨by decide, by decide⟩ (Nat.le_of_ble_eq_true rfl) dX1_canTake_85 z_nx (z_ki (fun x_9 M_9 h_9 => ?_))
                have hx9 := (h_9).1.symm
                have hm9 := (h_9).2.symm
                subst hx9
                subst hm9
                have hz2 : zR (if zFr s (i + 4) (x + zOff s a w.toNat) (x + zOff s a (w.toNat + 1)) then 1 else 0) := zR_if
                refine z_if_ne F 93 dX1_canTake_88 (by decide) (by omega) (fun c_10 => ?_) (fun c_10 => ?_)
                · skip
                  have hfr : zFr s (i + 4) (x + zOff s a w.toNat) (x + zOff s a (w.toNat + 1)) := Classical.byContradiction fun h => by rw [if_neg h] at c_10; omega
                  refine z_iinc F 5 [(3, .int (zI (w + 1))), (5, .int (zI (x + (zOff s a (w.toNat + 1))))), (4, .int (zI (x + (zOff s a w.toNat)))), (0, .ref (64 * i + 9)), (1, .ref (64 * a + 10)), (2, .int (zI x))] dX1_canTake_93 rfl (by decide) rfl ?_
                  refine z_goto F 43 dX1_canTake_96 (by decide) ?_
                  refine z_lv [(0, .ref (64 * i + 9)), (1, .ref (64 * a + 10)), (2, .int (zI x)), (3, .int (zI (w + 1)))] [3, 4, 5, 0] rfl ?_
                  exact ih (w + 1) (by omega) (by omega) (by omega) (by rw [show (w + 1).toNat = w.toNat + 1 by omega, zStp, hk3]; simp only [Bool.true_and, Bool.or_eq_true, decide_eq_true_eq]; first | exact Or.inl hr9 | exact Or.inr hfr)
                · skip
                  have hfr : ¬ zFr s (i + 4) (x + zOff s a w.toNat) (x + zOff s a (w.toNat + 1)) := fun h => by rw [if_pos h] at c_10; omega
                  refine z_iconst (z := 0) F dX1_canTake_91 (by decide) ?_
                  exact z_retz F rfl (by decide) (by first | decide | assumption | omega) (by first | decide | assumption | omega) dX1_canTake_92 ⟨_, rfl, by rw [zCan_4 (k := w.toNat) (by omega) hr9 hfr]; rfl, rfl⟩
        refine z_lv [(0, .ref (64 * i + 9)), (1, .ref (64 * a + 10)), (2, .int (zI x)), (3, .int (zI 0))] [1, 2, 3, 0] rfl ?_
        exact L1 _ 0 (Nat.lt_succ_self _) (by omega) (by omega) rfl
      · skip
        refine z_iconst (z := 0) F dX1_canTake_39 (by decide) ?_
        exact z_retz F rfl (by decide) (by first | decide | assumption | omega) (by first | decide | assumption | omega) dX1_canTake_40 ⟨_, rfl, by first | (rw [zCan_2 (show ¬ s 2 i 0 ≤ x by omega)]; rfl) | (rw [zCan_3 (show ¬ x + zLen s a ≤ s 3 i 0 by omega)]; rfl), rfl⟩
  · skip
    have hsk : zSk s i a = false := by
      cases h9 : zSk s i a with
      | false => rfl
      | true =>
        unfold zSk at h9
        exact absurd (congrArg (fun z : Nat => (z : Int)) (eq_of_beq h9)) c_1
    refine z_iconst (z := 0) F dX1_canTake_16 (by decide) ?_
    exact z_retz F rfl (by decide) (by first | decide | assumption | omega) (by first | decide | assumption | omega) dX1_canTake_17 ⟨_, rfl, by rw [zCan_k hsk]; rfl, rfl⟩

