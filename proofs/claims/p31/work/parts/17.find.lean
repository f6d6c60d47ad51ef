/-! ===== the book: searching ===== -/
theorem zss_r {s : zS} (hc : zC1 s) (a : Nat) : ∀ j : Nat, zR (if (j : Int) < s 5 a 0 then s 6 a j else 0) := fun j => by
  have := hc.2.2.2.2.2.1 a j
  split <;> constructor <;> omega
theorem zCan_of {s : zS} {i a : Nat} {x : Int} (h1 : zSk s i a = true) (h2 : s 2 i 0 ≤ x) (h3 : x + zLen s a ≤ s 3 i 0) (h4 : zStp s i a x (zSc s a) = true) : zCan s i a x = true := by
  simp [zCan, h1, h2, h3, h4]
theorem zCan_k {s : zS} {i a : Nat} {x : Int} (h1 : zSk s i a = false) : zCan s i a x = false := by simp [zCan, h1]
theorem zCan_2 {s : zS} {i a : Nat} {x : Int} (h : ¬ s 2 i 0 ≤ x) : zCan s i a x = false := by simp [zCan, h]
theorem zCan_3 {s : zS} {i a : Nat} {x : Int} (h : ¬ x + zLen s a ≤ s 3 i 0) : zCan s i a x = false := by simp [zCan, h]
theorem zStp_mono {s : zS} {i a : Nat} {x : Int} {k : Nat} : ∀ n, zStp s i a x (k + n) = true → zStp s i a x k = true
  | 0, h => h
  | n + 1, h => by
    rw [← Nat.add_assoc, zStp, Bool.and_eq_true] at h
    exact zStp_mono n h.1
theorem zCan_4 {s : zS} {i a : Nat} {x : Int} {k : Nat} (hk : k < zSc s a) (h1 : ¬ s 6 a k = -1) (h2 : ¬ zFr s (i + 4) (x + zOff s a k) (x + zOff s a (k + 1))) : zCan s i a x = false := by
  have h : zStp s i a x (zSc s a) = false := by
    cases h3 : zStp s i a x (zSc s a) with
    | false => rfl
    | true =>
      have h4 := zStp_mono (k := k + 1) (zSc s a - (k + 1)) (by rw [show k + 1 + (zSc s a - (k + 1)) = zSc s a by omega]; exact h3)
      rw [zStp, Bool.and_eq_true, Bool.or_eq_true, decide_eq_true_eq, decide_eq_true_eq] at h4
      rcases h4.2 with h5 | h5
      · exact absurd h5 h1
      · exact absurd h5 h2
  simp [zCan, h]
abbrev rX1_canTake : Room := { frames := 1, cells := 0, slots := 0, locals := 22 }
set_option maxRecDepth 100000 in
set_option maxHeartbeats 4000000 in
theorem c_X1_canTake {l : Launch} (hfl : l.stackTraces = false) (G : zG) {s t : zS} {o : zOx} (hc : zC1 s) (hb9 : zB s) {i a : Nat} {x : Int} (hi : (i : Int) < s 0 0 0) (ha : (a : Int) < s 4 0 0) (hx : -2000 ≤ x ∧ x ≤ 2000) : zCn l G yX1_canTake (.code yX1_canTake cX1_canTake 6 (some .boolean)) rX1_canTake [.ref (64 * i + 9), .ref (64 * a + 10), .int (zI x)] (zAll s t o) (zRi (fun xr M2 => xr = (if zCan s i a x = true then 1 else 0) ∧ M2 = (zAll s t o))) zN := by
  refine zStart hfl (by decide) (own := RX1) rfl [(0, .ref (64 * i + 9)), (1, .ref (64 * a + 10)), (2, .int (zI x))] (Nat.le_of_ble_eq_true rfl) rfl (fun k hkl hinit hk0 F => ?_)
  have hn0 := hc.1
  have hn4 := hc.2.1
  have hn9 := hc.2.2.1
  have hn14 := hc.2.2.2.1
  have hn18 := hc.2.2.2.2.1
  have hsc := hc.sc a
  have hln := hc.len a
  have hask := hc.ask a
  have hsk9 := hc.2.2.2.2.2.2.2.2.1 i
  have hb2 := hb9 2 i 0
  have hb3 := hb9 3 i 0
  refine z_aload_n F 0 dX1_canTake_0 rfl rfl ?_
  refine z_get F fl_X1_16 (zAll_m t o (i := i) (by omega)) rfl dX1_canTake_1 ?_
  refine z_aload_n F 1 dX1_canTake_4 rfl rfl ?_
  refine z_get F fl_X1_26 (zAll_s t o (i := a) (by omega)) rfl dX1_canTake_5 ?_
  refine z_iand F ((((s 1 i 0).toNat &&& zAskN s a (zSc s a) : Nat) : Int)) dX1_canTake_8 (by have h9 := zI_and (s 1 i 0).toNat (zAskN s a (zSc s a)); rwa [show (((s 1 i 0).toNat : Nat) : Int) = s 1 i 0 by omega] at h9) ?_
  refine z_aload_n F 1 dX1_canTake_9 rfl rfl ?_
  refine z_get F fl_X1_26 (zAll_s t o (i := a) (by omega)) rfl dX1_canTake_10 ?_
  have hr1 : zR (((s 1 i 0).toNat &&& zAskN s a (zSc s a) : Nat) : Int) := by
    have := Nat.and_le_left (n := (s 1 i 0).toNat) (m := zAskN s a (zSc s a))
    constructor <;> omega
  refine z_icmp_eq F 18 dX1_canTake_13 (by decide) (by omega) (by omega) (fun c_1 => ?_) (fun c_1 => ?_)
  · skip
    have hsk : zSk s i a = true := by
      have h9 : (((s 1 i 0).toNat &&& zAskN s a (zSc s a) : Nat) : Int) = ((zAskN s a (zSc s a) : Nat) : Int) := c_1
      unfold zSk
      rw [show (s 1 i 0).toNat &&& zAskN s a (zSc s a) = zAskN s a (zSc s a) by omega]
      exact beq_self_eq_true _
    refine z_iload_n F 2 dX1_canTake_18 rfl rfl ?_
    refine z_aload_n F 0 dX1_canTake_19 rfl rfl ?_
    refine z_get F fl_X1_20 (zAll_m t o (i := i) (by omega)) rfl dX1_canTake_20 ?_
    refine z_icmp_lt F 39 dX1_canTake_23 (by decide) (by omega) (by omega) (fun c_2 => ?_) (fun c_2 => ?_)
    · skip
      refine z_iconst (z := 0) F dX1_canTake_39 (by decide) ?_
      exact z_retz F rfl (by decide) (by first | decide | assumption | omega) (by first | decide | assumption | omega) dX1_canTake_40 ⟨_, rfl, by first | (rw [zCan_2 (show ¬ s 2 i 0 ≤ x by omega)]; rfl) | (rw [zCan_3 (show ¬ x + zLen s a ≤ s 3 i 0 by omega)]; rfl), rfl⟩
    · skip
      refine z_iload_n F 2 dX1_canTake_26 rfl rfl ?_
      refine z_aload_n F 1 dX1_canTake_27 rfl rfl ?_
      refine z_get F fl_X1_29 (zAll_s t o (i := a) (by omega)) rfl dX1_canTake_28 ?_
      refine z_iadd F dX1_canTake_31 ?_
      refine z_aload_n F 0 dX1_canTake_32 rfl rfl ?_
      refine z_get F fl_X1_23 (zAll_m t o (i := i) (by omega)) rfl dX1_canTake_33 ?_
      refine z_icmp_le F 41 dX1_canTake_36 (by decide) (by omega) (by omega) (fun c_3 => ?_) (fun c_3 => ?_)
      · skip
        refine z_iconst (z := 0) F dX1_canTake_41 (by decide) ?_
        refine z_istore_n F [(3, .int (zI 0)), (0, .ref (64 * i + 9)), (1, .ref (64 * a + 10)), (2, .int (zI x))] dX1_canTake_42 rfl (by decide) rfl ?_
        have L1 : ∀ (fuel : Nat) (w : Int), (s 5 a 0 - w).toNat < fuel → 0 ≤ w → w ≤ s 5 a 0 → zStp s i a x w.toNat = true → zJ k G rX1_canTake 6 (zMQ k G rX1_canTake (zRi (fun xr M2 => xr = (if zCan s i a x = true then 1 else 0) ∧ M2 = (zAll s t o))) zN) (zAll s t o) 0 0 43 [(0, .ref (64 * i + 9)), (1, .ref (64 * a + 10)), (2, .int (zI x)), (3, .int (zI w))] [] := by
          intro fuel
          induction fuel with
          | zero => intros; omega
          | succ fuel L1_ih =>
            intro w hfuel hk1 hk2 hk3
            refine z_iload_n F 3 dX1_canTake_43 rfl rfl ?_
            refine z_aload_n F 1 dX1_canTake_44 rfl rfl ?_
            refine z_get F fl_X1_32 (zAll_s t o (i := a) (by omega)) rfl dX1_canTake_45 ?_
            refine z_icmp_ge F 99 dX1_canTake_48 (by decide) (by omega) (by omega) (fun c_4 => ?_) (fun c_4 => ?_)
            · skip
              refine z_iconst (z := 1) F dX1_canTake_99 (by decide) ?_
              exact z_retz F rfl (by decide) (by first | decide | assumption | omega) (by first | decide | assumption | omega) dX1_canTake_100 ⟨_, rfl, by rw [zCan_of hsk (by omega) (by omega) (by rw [show zSc s a = w.toNat by omega]; exact hk3)]; rfl, rfl⟩
            · skip
              refine z_iload_n F 2 dX1_canTake_51 rfl rfl ?_
              refine z_aload_n F 1 dX1_canTake_52 rfl rfl ?_
              refine z_iload_n F 3 dX1_canTake_53 rfl rfl ?_
              refine z_callV F [.int (zI w)] [.int (zI x)] (c_X4_stepFrom F.2.2.1 G (a := w) (by omega) (zAll s t o) (zAll_s t o (i := a) (by omega)) (zAll_s1 t o (i := a) (by omega)) (zAll_s2 t o (i := a) (by omega)) (zAll_s3 t o (i := a) (by omega))) cv_X1_35 (zAll_s t o (i := a) (by omega)) rfl rfl rfl ⟨by decide, by decide⟩ ⟨by decide, by decide⟩ (Nat.le_of_ble_eq_true rfl) dX1_canTake_54 z_nx (z_ki (fun x_5 M_5 h_5 => ?_))
              have hx9 := (h_5).1.symm
              have hm9 := (h_5).2.symm
              subst hx9
              subst hm9
              refine z_ti (y := zOff s a w.toNat) (by rw [if_pos (show 0 ≤ w ∧ w < 5 by omega)]; exact if_pos (by omega)) ?_
              refine z_iadd F dX1_canTake_57 ?_
              refine z_istore F [(4, .int (zI (x + (zOff s a w.toNat)))), (0, .ref (64 * i + 9)), (1, .ref (64 * a + 10)), (2, .int (zI x)), (3, .int (zI w))] dX1_canTake_58 (by decide) rfl ?_
              have ho1 := hc.off a w.toNat
              have ho2 := hc.off a (w.toNat + 1)
              refine z_iload_n F 3 dX1_canTake_60 rfl rfl ?_
              refine z_aload_n F 2 dX1_canTake_61 rfl rfl ?_
              refine z_iload_n F 4 dX1_canTake_62 rfl rfl ?_
              refine z_callV F [.int (zI w)] [.int (zI x)] (c_X4_stepTo F.2.2.1 G (a := w) (by omega) (zAll s t o) (zAll_s t o (i := a) (by omega)) (zAll_s1 t o (i := a) (by omega)) (zAll_s2 t o (i := a) (by omega)) (zAll_s3 t o (i := a) (by omega))) cv_X1_39 (zAll_s t o (i := a) (by omega)) rfl rfl rfl ⟨by decide, by decide⟩ ⟨by decide, by decide⟩ (Nat.le_of_ble_eq_true rfl) dX1_canTake_63 z_nx (z_ki (fun x_6 M_6 h_6 => ?_))
              have hx9 := (h_6).1.symm
              have hm9 := (h_6).2.symm
              subst hx9
              subst hm9
              refine z_ti (y := zOff s a (w.toNat + 1)) (by rw [if_pos (show 0 ≤ w ∧ w < 5 by omega)]; exact if_pos (by omega)) ?_
              refine z_iadd F dX1_canTake_66 ?_
              refine z_istore F [(5, .int (zI (x + (zOff s a (w.toNat + 1))))), (4, .int (zI (x + (zOff s a w.toNat)))), (0, .ref (64 * i + 9)), (1, .ref (64 * a + 10)), (2, .int (zI x)), (3, .int (zI w))] dX1_canTake_67 (by decide) rfl ?_
              refine z_aload_n F 3 dX1_canTake_69 rfl rfl ?_
              refine z_iload_n F 5 dX1_canTake_70 rfl rfl ?_
              refine z_callV F [.int (zI w)] [] (c_X4_isRest F.2.2.1 G (a := w) (by omega) (zAll s t o) (zAll_s t o (i := a) (by omega)) (zAll_s1 t o (i := a) (by omega)) (zAll_s2 t o (i := a) (by omega)) (zAll_s3 t o (i := a) (by omega)) (zss_r hc a)) cv_X1_42 (zAll_s t o (i := a) (by omega)) rfl rfl rfl ⟨by decide, by decide⟩ ⟨by decide, by decide⟩ (Nat.le_of_ble_eq_true rfl) dX1_canTake_71 z_nx (z_ki (fun x_7 M_7 h_7 => ?_))
              have hx9 := (h_7).1.symm
              have hm9 := (h_7).2.symm
              subst hx9
              subst hm9
              have hz : zR (if ((0 ≤ w ∧ w < 5) ∧ (if (((w.toNat : Nat)) : Int) < s 5 a 0 then s 6 a w.toNat else 0) = -1) then 1 else 0) := zR_if
              refine z_if_ne F 93 dX1_canTake_74 (by decide) (by omega) (fun c_8 => ?_) (fun c_8 => ?_)
              · skip
                have hr9 : s 6 a w.toNat = -1 := by
                  have h9 : ((0 ≤ w ∧ w < 5) ∧ (if (((w.toNat : Nat)) : Int) < s 5 a 0 then s 6 a w.toNat else 0) = -1) := Classical.byContradiction fun h => by rw [if_neg h] at c_8; omega
                  have h8 := h9.2
                  rwa [if_pos (by omega)] at h8
                refine z_iinc F 5 [(3, .int (zI (w + 1))), (5, .int (zI (x + (zOff s a (w.toNat + 1))))), (4, .int (zI (x + (zOff s a w.toNat)))), (0, .ref (64 * i + 9)), (1, .ref (64 * a + 10)), (2, .int (zI x))] dX1_canTake_93 rfl (by decide) rfl ?_
                refine z_goto F 43 dX1_canTake_96 (by decide) ?_
                refine z_lv [(0, .ref (64 * i + 9)), (1, .ref (64 * a + 10)), (2, .int (zI x)), (3, .int (zI (w + 1)))] [3, 4, 5, 0] rfl ?_
                exact L1_ih (w + 1) (by omega) (by omega) (by omega) (by rw [show (w + 1).toNat = w.toNat + 1 by omega, zStp, hk3]; simp only [Bool.true_and, Bool.or_eq_true, decide_eq_true_eq]; first | exact Or.inl hr9 | exact Or.inr hfr)
              · skip
                have hr9 : ¬ s 6 a w.toNat = -1 := fun h => by
                  rw [if_pos ⟨⟨by omega, by omega⟩, by rw [if_pos (by omega)]; exact h⟩] at c_8
                  omega
                refine z_aload_n F 2 dX1_canTake_77 rfl rfl ?_
                refine z_get F fl_X1_10 (zAll_m t o (i := i) (by omega)) rfl dX1_canTake_78 ?_
                refine z_iload F 1 dX1_canTake_81 rfl ?_
                refine z_iload F 0 dX1_canTake_83 rfl ?_
                refine z_callV F [.int (zI (x + (zOff s a w.toNat))), .int (zI (x + (zOff s a (w.toNat + 1))))] [] (c_X0_isFree F.2.2.1 G (by omega) (by omega) (zAll s t o) (zAll_d6 t o (i := i + 4) (by omega)) (zAll_d7 t o (i := i + 4) (by omega)) (zAll_d8 t o (i := i + 4) (by omega))) cv_X1_46 (zAll_d6 t o (i := (i + 4)) (by omega)) rfl rfl rfl ⟨by decide, by decide⟩ ⟨by decide, by decide⟩ (Nat.le_of_ble_eq_true rfl) dX1_canTake_85 z_nx (z_ki (fun x_9 M_9 h_9 => ?_))
                have hx9 := (h_9).1.symm
                have hm9 := (h_9).2.symm
                subst hx9
                subst hm9
                have hz2 : zR (if zFr s (i + 4) (x + zOff s a w.toNat) (x + zOff s a (w.toNat + 1)) then 1 else 0) := zR_if
                refine z_if_ne F 93 dX1_canTake_88 (by decide) (by omega) (fun c_10 => ?_) (fun c_10 => ?_)
                · skip
                  have hfr : zFr s (i + 4) (x + zOff s a w.toNat) (x + zOff s a (w.toNat + 1)) := Classical.byContradiction fun h => by rw [if_neg h] at c_10; omega
                  refine z_iinc F 5 [(3, .int (zI (w + 1))), (5, .int (zI (x + (zOff s a (w.toNat + 1))))), (4, .int (zI (x + (zOff s a w.toNat)))), (0, .ref (64 * i + 9)), (1, .ref (64 * a + 10)), (2, .int (zI x))] dX1_canTake_93 rfl (by decide) rfl ?_
                  refine z_goto F 43 dX1_canTake_96 (by decide) ?_
                  refine z_lv [(0, .ref (64 * i + 9)), (1, .ref (64 * a + 10)), (2, .int (zI x)), (3, .int (zI (w + 1)))] [3, 4, 5, 0] rfl ?_
                  exact L1_ih (w + 1) (by omega) (by omega) (by omega) (by rw [show (w + 1).toNat = w.toNat + 1 by omega, zStp, hk3]; simp only [Bool.true_and, Bool.or_eq_true, decide_eq_true_eq]; first | exact Or.inl hr9 | exact Or.inr hfr)
                · skip
                  have hfr : ¬ zFr s (i + 4) (x + zOff s a w.toNat) (x + zOff s a (w.toNat + 1)) := fun h => by rw [if_pos h] at c_10; omega
                  refine z_iconst (z := 0) F dX1_canTake_91 (by decide) ?_
                  exact z_retz F rfl (by decide) (by first | decide | assumption | omega) (by first | decide | assumption | omega) dX1_canTake_92 ⟨_, rfl, by rw [zCan_4 (k := w.toNat) (by omega) hr9 hfr]; rfl, rfl⟩
        refine z_lv [(0, .ref (64 * i + 9)), (1, .ref (64 * a + 10)), (2, .int (zI x)), (3, .int (zI 0))] [1, 2, 3, 0] rfl ?_
        exact L1 _ 0 (Nat.lt_succ_self _) (by omega) (by omega) rfl
      · skip
        refine z_iconst (z := 0) F dX1_canTake_39 (by decide) ?_
        exact z_retz F rfl (by decide) (by first | decide | assumption | omega) (by first | decide | assumption | omega) dX1_canTake_40 ⟨_, rfl, by first | (rw [zCan_2 (show ¬ s 2 i 0 ≤ x by omega)]; rfl) | (rw [zCan_3 (show ¬ x + zLen s a ≤ s 3 i 0 by omega)]; rfl), rfl⟩
  · skip
    have hsk : zSk s i a = false := by
      cases h9 : zSk s i a with
      | false => rfl
      | true =>
        unfold zSk at h9
        exact absurd (congrArg (fun z : Nat => (z : Int)) (eq_of_beq h9)) c_1
    refine z_iconst (z := 0) F dX1_canTake_16 (by decide) ?_
    exact z_retz F rfl (by decide) (by first | decide | assumption | omega) (by first | decide | assumption | omega) dX1_canTake_17 ⟨_, rfl, by rw [zCan_k hsk]; rfl, rfl⟩

theorem zChair_of {s : zS} {a : Nat} {x : Int} {c : Nat} (h4 : c < 4) (hno : ∀ d, d < c → ¬ zFr s d x (x + zLen s a)) (h : zFr s c x (x + zLen s a)) : zChair s a x = c := by
  unfold zChair
  rcases (show c = 0 ∨ c = 1 ∨ c = 2 ∨ c = 3 by omega) with rfl | rfl | rfl | rfl
  · rw [if_pos h]; rfl
  · rw [if_neg (hno 0 (by omega)), if_pos h]; rfl
  · rw [if_neg (hno 0 (by omega)), if_neg (hno 1 (by omega)), if_pos h]; rfl
  · rw [if_neg (hno 0 (by omega)), if_neg (hno 1 (by omega)), if_neg (hno 2 (by omega)), if_pos h]; rfl
theorem zChair_no {s : zS} {a : Nat} {x : Int} (hno : ∀ d, d < 4 → ¬ zFr s d x (x + zLen s a)) : zChair s a x = -1 := by
  unfold zChair
  rw [if_neg (hno 0 (by omega)), if_neg (hno 1 (by omega)), if_neg (hno 2 (by omega)), if_neg (hno 3 (by omega))]
theorem zChair_r (s : zS) (a : Nat) (x : Int) : -1 ≤ zChair s a x ∧ zChair s a x < 4 := by
  unfold zChair
  repeat' split
  all_goals decide
theorem zsm_b {f : Nat → Int} {c : Int} (hc : 0 ≤ c) (h : ∀ k, 0 ≤ f k ∧ f k ≤ c) (n : Nat) : 0 ≤ zsm f n ∧ zsm f n ≤ n * c := zsm_r hc h n
theorem zLoad_f {s : zS} (hc : zC1 s) (i : Int) (v : Nat) : 0 ≤ (if s 13 v 0 ≠ -1 ∧ s 11 v 0 = i then zWork s (s 10 v 0).toNat else 0) ∧ (if s 13 v 0 ≠ -1 ∧ s 11 v 0 = i then zWork s (s 10 v 0).toNat else 0) ≤ 1000 := by
  have := hc.work (s 10 v 0).toNat
  split <;> omega
theorem zLoad_r {s : zS} (hc : zC1 s) (i : Int) (n : Nat) : 0 ≤ zsm (fun v => if s 13 v 0 ≠ -1 ∧ s 11 v 0 = i then zWork s (s 10 v 0).toNat else 0) n ∧ zsm (fun v => if s 13 v 0 ≠ -1 ∧ s 11 v 0 = i then zWork s (s 10 v 0).toNat else 0) n ≤ n * 1000 := zsm_r (by decide) (zLoad_f hc i) n
abbrev rX6_chairFor : Room := { frames := 1, cells := 0, slots := 0, locals := 22 }
set_option maxRecDepth 100000 in
set_option maxHeartbeats 4000000 in
theorem c_X6_chairFor {l : Launch} (hfl : l.stackTraces = false) (G : zG) {s t : zS} {o : zOx} (hc : zC1 s) (hb9 : zB s) {a : Nat} {x : Int} (ha : (a : Int) < s 4 0 0) (hx : -2000 ≤ x ∧ x ≤ 2000) : zCn l G yX6_chairFor (.code yX6_chairFor cX6_chairFor 4 (some .int)) rX6_chairFor [.ref 0, .ref (64 * a + 10), .int (zI x)] (zAll s t o) (zRi (fun xr M2 => xr = zChair s a x ∧ M2 = (zAll s t o))) zN := by
  refine zStart hfl (by decide) (own := RX6) rfl [(0, .ref 0), (1, .ref (64 * a + 10)), (2, .int (zI x))] (Nat.le_of_ble_eq_true rfl) rfl (fun k hkl hinit hk0 F => ?_)
  have hn0 := hc.1
  have hn4 := hc.2.1
  have hn9 := hc.2.2.1
  have hn14 := hc.2.2.2.1
  have hn18 := hc.2.2.2.2.1
  have hsc := hc.sc a
  have hln := hc.len a
  have hask := hc.ask a
  refine z_iconst (z := 0) F dX6_chairFor_0 (by decide) ?_
  refine z_istore_n F [(3, .int (zI 0)), (0, .ref 0), (1, .ref (64 * a + 10)), (2, .int (zI x))] dX6_chairFor_1 rfl (by decide) rfl ?_
  have L1 : ∀ (fuel : Nat) (w : Int), (4 - w).toNat < fuel → 0 ≤ w → w ≤ 4 → (∀ d : Nat, (d : Int) < w → ¬ zFr s d x (x + zLen s a)) → zJ k G rX6_chairFor 4 (zMQ k G rX6_chairFor (zRi (fun xr M2 => xr = zChair s a x ∧ M2 = (zAll s t o))) zN) (zAll s t o) 0 0 2 [(0, .ref 0), (1, .ref (64 * a + 10)), (2, .int (zI x)), (3, .int (zI w))] [] := by
    intro fuel
    induction fuel with
    | zero => intros; omega
    | succ fuel L1_ih =>
      intro w hfuel hw1 hw2 hw3
      refine z_iload_n F 3 dX6_chairFor_2 rfl rfl ?_
      refine z_iconst (z := 4) F dX6_chairFor_3 (by decide) ?_
      refine z_icmp_ge F 34 dX6_chairFor_4 (by decide) (by omega) ⟨by decide, by decide⟩ (fun c_1 => ?_) (fun c_1 => ?_)
      · skip
        refine z_iconst (z := -1) F dX6_chairFor_34 (by decide) ?_
        exact z_reti F rfl (by first | decide | assumption | omega) (by first | decide | assumption | omega) dX6_chairFor_35 ⟨_, rfl, by rw [zChair_no (fun d hd => hw3 d (by omega))], rfl⟩
      · skip
        refine z_aload_n F 0 dX6_chairFor_7 rfl rfl ?_
        refine z_get F fl_X6_27 (zAll_0 s t o) rfl dX6_chairFor_8 ?_
        refine z_iload_n F 3 dX6_chairFor_11 rfl rfl ?_
        refine z_aald3 (a := 64 * w.toNat + 6) F (zAll_3 s t o) (by omega) (by omega) (by decide) (if_pos (by omega)) dX6_chairFor_12 ?_
        refine z_iload_n F 2 dX6_chairFor_13 rfl rfl ?_
        refine z_iload_n F 2 dX6_chairFor_14 rfl rfl ?_
        refine z_aload_n F 1 dX6_chairFor_15 rfl rfl ?_
        refine z_get F fl_X6_186 (zAll_s t o (i := a) (by omega)) rfl dX6_chairFor_16 ?_
        refine z_iadd F dX6_chairFor_19 ?_
        refine z_callV F [.int (zI x), .int (zI (x + (zLen s a)))] [] (c_X0_isFree F.2.2.1 G (by omega) (by omega) (zAll s t o) (zAll_d6 t o (i := w.toNat) (by omega)) (zAll_d7 t o (i := w.toNat) (by omega)) (zAll_d8 t o (i := w.toNat) (by omega))) cv_X6_312 (zAll_d6 t o (i := w.toNat) (by omega)) rfl rfl rfl ⟨by decide, by decide⟩ ⟨by decide, by decide⟩ (Nat.le_of_ble_eq_true rfl) dX6_chairFor_20 z_nx (z_ki (fun x_2 M_2 h_2 => ?_))
        have hx9 := (h_2).1.symm
        have hm9 := (h_2).2.symm
        subst hx9
        subst hm9
        have hz : zR (if zFr s w.toNat x (x + zLen s a) then 1 else 0) := zR_if
        refine z_if_eq F 28 dX6_chairFor_23 (by decide) (by omega) (fun c_3 => ?_) (fun c_3 => ?_)
        · skip
          have hfr : ¬ zFr s w.toNat x (x + zLen s a) := fun h => by rw [if_pos h] at c_3; omega
          refine z_iinc F 3 [(3, .int (zI (w + 1))), (0, .ref 0), (1, .ref (64 * a + 10)), (2, .int (zI x))] dX6_chairFor_28 rfl (by decide) rfl ?_
          refine z_goto F 2 dX6_chairFor_31 (by decide) ?_
          refine z_lv [(0, .ref 0), (1, .ref (64 * a + 10)), (2, .int (zI x)), (3, .int (zI (w + 1)))] [1, 2, 3, 0] rfl ?_
          exact L1_ih (w + 1) (by omega) (by omega) (by omega) (fun d h => by rcases (show (d : Int) < w ∨ d = w.toNat by omega) with h1 | h1; exact hw3 d h1; rw [h1]; exact hfr)
        · skip
          have hfr : zFr s w.toNat x (x + zLen s a) := Classical.byContradiction fun h => by rw [if_neg h] at c_3; omega
          refine z_iload_n F 3 dX6_chairFor_26 rfl rfl ?_
          exact z_reti F rfl (by first | decide | assumption | omega) (by first | decide | assumption | omega) dX6_chairFor_27 ⟨_, rfl, by rw [zChair_of (c := w.toNat) (by omega) (fun d hd => hw3 d (by omega)) hfr]; omega, rfl⟩
  refine z_lv [(0, .ref 0), (1, .ref (64 * a + 10)), (2, .int (zI x)), (3, .int (zI 0))] [1, 2, 3, 0] rfl ?_
  exact L1 _ 0 (Nat.lt_succ_self _) (by omega) (by omega) (fun d h => by omega)

abbrev rX6_workBookedWith : Room := { frames := 3, cells := 0, slots := 0, locals := 64 }
set_option maxRecDepth 100000 in
set_option maxHeartbeats 4000000 in
theorem c_X6_workBookedWith {l : Launch} (hfl : l.stackTraces = false) (G : zG) {s t : zS} {o : zOx} (hc : zC1 s) (hb9 : zB s) {i : Int} (hi : 0 ≤ i ∧ i < 1000) : zCn l G yX6_workBookedWith (.code yX6_workBookedWith cX6_workBookedWith 5 (some .int)) rX6_workBookedWith [.ref 0, .int (zI i)] (zAll s t o) (zRi (fun xr M2 => xr = zLoad s i ∧ M2 = (zAll s t o))) zN := by
  refine zStart hfl (by decide) (own := RX6) rfl [(0, .ref 0), (1, .int (zI i))] (Nat.le_of_ble_eq_true rfl) rfl (fun k hkl hinit hk0 F => ?_)
  have hn0 := hc.1
  have hn4 := hc.2.1
  have hn9 := hc.2.2.1
  have hn14 := hc.2.2.2.1
  have hn18 := hc.2.2.2.2.1
  refine z_iconst (z := 0) F dX6_workBookedWith_0 (by decide) ?_
  refine z_istore_n F [(2, .int (zI 0)), (0, .ref 0), (1, .int (zI i))] dX6_workBookedWith_1 rfl (by decide) rfl ?_
  refine z_iconst (z := 0) F dX6_workBookedWith_2 (by decide) ?_
  refine z_istore_n F [(3, .int (zI 0)), (2, .int (zI 0)), (0, .ref 0), (1, .int (zI i))] dX6_workBookedWith_3 rfl (by decide) rfl ?_
  have L1 : ∀ (fuel : Nat) (w : Int) (u : Int), (s 9 0 0 - w).toNat < fuel → 0 ≤ w → w ≤ s 9 0 0 → u = zsm (fun v => if s 13 v 0 ≠ -1 ∧ s 11 v 0 = i then zWork s (s 10 v 0).toNat else 0) w.toNat → zJ k G rX6_workBookedWith 5 (zMQ k G rX6_workBookedWith (zRi (fun xr M2 => xr = zLoad s i ∧ M2 = (zAll s t o))) zN) (zAll s t o) 0 0 4 [(0, .ref 0), (1, .int (zI i)), (2, .int (zI u)), (3, .int (zI w))] [] := by
    intro fuel
    induction fuel with
    | zero => intros; omega
    | succ fuel L1_ih =>
      intro w u hfuel hw1 hw2 hw3
      refine z_iload_n F 3 dX6_workBookedWith_4 rfl rfl ?_
      refine z_aload_n F 0 dX6_workBookedWith_5 rfl rfl ?_
      refine z_get F fl_X6_19 (zAll_0 s t o) rfl dX6_workBookedWith_6 ?_
      refine z_callV F [] [.int (zI w)] (c_Jx4a65c_size_8abf5 F.2.2.1 G (zAll s t o) (zAll_129 s t o)) cv_X6_52 (zAll_129 s t o) rfl rfl rfl ⟨by decide, by decide⟩ ⟨by decide, by decide⟩ (Nat.le_of_ble_eq_true rfl) dX6_workBookedWith_9 z_nx (z_ki (fun x_1 M_1 h_1 => ?_))
      have hx9 := (h_1).1.symm
      have hm9 := (h_1).2.symm
      subst hx9
      subst hm9
      refine z_icmp_ge F 54 dX6_workBookedWith_12 (by decide) (by omega) (by omega) (fun c_2 => ?_) (fun c_2 => ?_)
      · skip
        refine z_iload_n F 2 dX6_workBookedWith_54 rfl rfl ?_
        exact z_reti F rfl (by first | decide | assumption | omega) (by first | decide | assumption | omega) dX6_workBookedWith_55 ⟨_, rfl, by rw [hw3, show w = s 9 0 0 by omega]; rfl, rfl⟩
      · skip
        refine z_aload_n F 0 dX6_workBookedWith_15 rfl rfl ?_
        refine z_get F fl_X6_19 (zAll_0 s t o) rfl dX6_workBookedWith_16 ?_
        refine z_iload_n F 3 dX6_workBookedWith_19 rfl rfl ?_
        refine z_callV F [.int (zI w)] [] (g_v F.2.2.1 G hc (i := w) (by omega) (by omega)) cv_X6_99 (zAll_129 s t o) rfl rfl rfl ⟨by decide, by decide⟩ ⟨by decide, by decide⟩ (Nat.le_of_ble_eq_true rfl) dX6_workBookedWith_20 z_nx (z_kr (fun x_3 M_3 h_3 => ?_))
        have hx9 := (h_3).1.symm
        have hm9 := (h_3).2.symm
        subst hx9
        subst hm9
        refine z_cast (ci := 6) F (zr_10 _ (List.mem_of_getElem? (i := 9) rfl)) (zAll_v t o (i := w.toNat) (by omega)) rfl dX6_workBookedWith_23 ?_
        refine z_astore F [(4, .ref (64 * w.toNat + 14)), (0, .ref 0), (1, .int (zI i)), (2, .int (zI u)), (3, .int (zI w))] dX6_workBookedWith_26 (by decide) rfl ?_
        refine z_aload F 0 dX6_workBookedWith_28 rfl ?_
        have hvs := hc.2.2.2.2.2.2.2.2.2.2.1 w.toNat (by omega)
        have hvm := hb9 11 w.toNat 0
        have hri : zR (if s 13 w.toNat 0 = -1 then -1 else s 11 w.toNat 0) := by
          split
          · exact ⟨by decide, by decide⟩
          · constructor <;> omega
        refine z_get F fl_X6_138 (zAll_v t o (i := w.toNat) (by omega)) rfl dX6_workBookedWith_30 ?_
        refine z_iload_n F 2 dX6_workBookedWith_33 rfl rfl ?_
        refine z_icmp_ne F 48 dX6_workBookedWith_34 (by decide) (by omega) (by omega) (fun c_4 => ?_) (fun c_4 => ?_)
        · skip
          have hcd : ¬ (s 13 w.toNat 0 ≠ -1 ∧ s 11 w.toNat 0 = i) := fun h => by rw [if_neg h.1] at c_4; exact c_4 h.2
          refine z_iinc F 4 [(3, .int (zI (w + 1))), (4, .ref (64 * w.toNat + 14)), (0, .ref 0), (1, .int (zI i)), (2, .int (zI u))] dX6_workBookedWith_48 rfl (by decide) rfl ?_
          refine z_goto F 4 dX6_workBookedWith_51 (by decide) ?_
          refine z_lv [(0, .ref 0), (1, .int (zI i)), (2, .int (zI u)), (3, .int (zI (w + 1)))] [2, 3, 4, 0] rfl ?_
          exact L1_ih (w + 1) u (by omega) (by omega) (by omega) (by rw [show (w + 1).toNat = w.toNat + 1 by omega, zsm, ← hw3]; first | rw [if_pos hcd] | (rw [if_neg hcd]; omega))
        · skip
          have hcd : s 13 w.toNat 0 ≠ -1 ∧ s 11 w.toNat 0 = i := by
            by_cases h : s 13 w.toNat 0 = -1
            · rw [if_pos h] at c_4; omega
            · rw [if_neg h] at c_4; exact ⟨h, c_4⟩
          refine z_iload_n F 3 dX6_workBookedWith_37 rfl rfl ?_
          refine z_aload F 0 dX6_workBookedWith_38 rfl ?_
          refine z_get F fl_X6_151 (zAll_v t o (i := w.toNat) (by omega)) rfl dX6_workBookedWith_40 ?_
          refine z_get F fl_X6_189 (zAll_s t o (i := (s 10 w.toNat 0).toNat) (by omega)) rfl dX6_workBookedWith_43 ?_
          refine z_iadd F dX6_workBookedWith_46 ?_
          refine z_istore_n F [(2, .int (zI (u + (zWork s ((s 10 w.toNat 0).toNat))))), (4, .ref (64 * w.toNat + 14)), (0, .ref 0), (1, .int (zI i)), (3, .int (zI w))] dX6_workBookedWith_47 rfl (by decide) rfl ?_
          refine z_iinc F 4 [(3, .int (zI (w + 1))), (2, .int (zI (u + (zWork s ((s 10 w.toNat 0).toNat))))), (4, .ref (64 * w.toNat + 14)), (0, .ref 0), (1, .int (zI i))] dX6_workBookedWith_48 rfl (by decide) rfl ?_
          refine z_goto F 4 dX6_workBookedWith_51 (by decide) ?_
          refine z_lv [(0, .ref 0), (1, .int (zI i)), (2, .int (zI (u + (zWork s ((s 10 w.toNat 0).toNat))))), (3, .int (zI (w + 1)))] [3, 4, 1, 0] rfl ?_
          exact L1_ih (w + 1) (u + (zWork s ((s 10 w.toNat 0).toNat))) (by omega) (by omega) (by omega) (by rw [show (w + 1).toNat = w.toNat + 1 by omega, zsm, ← hw3]; first | rw [if_pos hcd] | (rw [if_neg hcd]; omega))
  refine z_lv [(0, .ref 0), (1, .int (zI i)), (2, .int (zI 0)), (3, .int (zI 0))] [2, 3, 1, 0] rfl ?_
  exact L1 _ 0 0 (Nat.lt_succ_self _) (by omega) (by omega) rfl

theorem zMem_r {s : zS} (hc : zC1 s) (who : Nat → Bool) (a : Nat) (x : Int) : ∀ n : Nat, -1 ≤ (zMem s who a x n).1 ∧ (zMem s who a x n).1 < (n : Int) ∧ 0 ≤ (zMem s who a x n).2 ∧ (zMem s who a x n).2 ≤ 30000
  | 0 => by simp [zMem]
  | n + 1 => by
    have ih := zMem_r hc who a x n
    have h1 := zLoad_r hc n (s 9 0 0).toNat
    have h2 := hc.2.2.1
    have h3 : 0 ≤ zLoad s n ∧ zLoad s n ≤ 30000 := by unfold zLoad; omega
    rw [zMem]
    split
    · split
      · dsimp only; omega
      · omega
    · omega
theorem zMem_no {s : zS} {who : Nat → Bool} {a : Nat} {x : Int} {n : Nat} (h : (who n && zCan s n a x) = false) : zMem s who a x (n + 1) = zMem s who a x n := by
  rw [zMem, if_neg (by rw [h]; decide)]
theorem zMem_y1 {s : zS} {who : Nat → Bool} {a : Nat} {x : Int} {n : Nat} (h : who n = true) (h2 : zCan s n a x = true) (h3 : (zMem s who a x n).1 = -1 ∨ zLoad s n < (zMem s who a x n).2) : zMem s who a x (n + 1) = ((n : Int), zLoad s n) := by
  rw [zMem, if_pos (by rw [h, h2]; rfl), if_pos h3]
theorem zMem_y2 {s : zS} {who : Nat → Bool} {a : Nat} {x : Int} {n : Nat} (h : who n = true) (h2 : zCan s n a x = true) (h3 : ¬ ((zMem s who a x n).1 = -1 ∨ zLoad s n < (zMem s who a x n).2)) : zMem s who a x (n + 1) = zMem s who a x n := by
  rw [zMem, if_pos (by rw [h, h2]; rfl), if_neg h3]
theorem zGet_r {s : zS} (hc : zC1 s) (who : Nat → Bool) (a : Nat) (x : Int) : -1 ≤ zGet s who a x ∧ zGet s who a x < s 0 0 0 := by
  have h1 := zMem_r hc who a x (s 0 0 0).toNat
  have h2 := hc.1
  unfold zGet
  omega
abbrev rX6_memberFor : Room := { frames := 4, cells := 0, slots := 0, locals := 88 }
set_option maxRecDepth 100000 in
set_option maxHeartbeats 4000000 in
theorem c_X6_memberFor {l : Launch} (hfl : l.stackTraces = false) (G : zG) {s t : zS} {o : zOx} (hc : zC1 s) (hb9 : zB s) {a wo : Nat} {x : Int} (ha : (a : Int) < s 4 0 0) (hwo : wo < 2 ^ 31) (hx : -2000 ≤ x ∧ x ≤ 2000) : zCn l G yX6_memberFor (.code yX6_memberFor cX6_memberFor 8 (some .int)) rX6_memberFor [.ref 0, .ref (64 * a + 10), .int (zI ((wo : Nat))), .int (zI x)] (zAll s t o) (zRi (fun xr M2 => xr = zGet s (zBit wo) a x ∧ M2 = (zAll s t o))) zN := by
  refine zStart hfl (by decide) (own := RX6) rfl [(0, .ref 0), (1, .ref (64 * a + 10)), (2, .int (zI ((wo : Nat)))), (3, .int (zI x))] (Nat.le_of_ble_eq_true rfl) rfl (fun k hkl hinit hk0 F => ?_)
  have hn0 := hc.1
  have hn4 := hc.2.1
  have hn9 := hc.2.2.1
  have hn14 := hc.2.2.2.1
  have hn18 := hc.2.2.2.2.1
  refine z_iconst (z := -1) F dX6_memberFor_0 (by decide) ?_
  refine z_istore F [(4, .int (zI (-1))), (0, .ref 0), (1, .ref (64 * a + 10)), (2, .int (zI ((wo : Nat)))), (3, .int (zI x))] dX6_memberFor_1 (by decide) rfl ?_
  refine z_iconst (z := 0) F dX6_memberFor_3 (by decide) ?_
  refine z_istore F [(5, .int (zI 0)), (4, .int (zI (-1))), (0, .ref 0), (1, .ref (64 * a + 10)), (2, .int (zI ((wo : Nat)))), (3, .int (zI x))] dX6_memberFor_4 (by decide) rfl ?_
  refine z_iconst (z := 0) F dX6_memberFor_6 (by decide) ?_
  refine z_istore F [(6, .int (zI 0)), (5, .int (zI 0)), (4, .int (zI (-1))), (0, .ref 0), (1, .ref (64 * a + 10)), (2, .int (zI ((wo : Nat)))), (3, .int (zI x))] dX6_memberFor_7 (by decide) rfl ?_
  have L1 : ∀ (fuel : Nat) (w : Int) (b : Int) (m : Int), (s 0 0 0 - w).toNat < fuel → 0 ≤ w → w ≤ s 0 0 0 → zMem s (zBit wo) a x w.toNat = (b, m) → zJ k G rX6_memberFor 8 (zMQ k G rX6_memberFor (zRi (fun xr M2 => xr = zGet s (zBit wo) a x ∧ M2 = (zAll s t o))) zN) (zAll s t o) 0 0 9 [(0, .ref 0), (1, .ref (64 * a + 10)), (2, .int (zI ((wo : Nat)))), (3, .int (zI x)), (4, .int (zI b)), (5, .int (zI m)), (6, .int (zI w))] [] := by
    intro fuel
    induction fuel with
    | zero => intros; omega
    | succ fuel L1_ih =>
      intro w b m hfuel hw1 hw2 hw3
      refine z_iload F 6 dX6_memberFor_9 rfl ?_
      refine z_aload_n F 0 dX6_memberFor_11 rfl rfl ?_
      refine z_get F fl_X6_10 (zAll_0 s t o) rfl dX6_memberFor_12 ?_
      refine z_callV F [] [.int (zI w)] (c_Jx4a65c_size_8abf5 F.2.2.1 G (zAll s t o) (zAll_1 s t o)) cv_X6_52 (zAll_1 s t o) rfl rfl rfl ⟨by decide, by decide⟩ ⟨by decide, by decide⟩ (Nat.le_of_ble_eq_true rfl) dX6_memberFor_15 z_nx (z_ki (fun x_1 M_1 h_1 => ?_))
      have hx9 := (h_1).1.symm
      have hm9 := (h_1).2.symm
      subst hx9
      subst hm9
      refine z_icmp_ge F 86 dX6_memberFor_18 (by decide) (by omega) (by omega) (fun c_2 => ?_) (fun c_2 => ?_)
      · skip
        refine z_iload F 4 dX6_memberFor_86 rfl ?_
        exact z_reti F rfl (by first | decide | assumption | omega) (by first | decide | assumption | omega) dX6_memberFor_88 ⟨_, rfl, by unfold zGet; rw [← show w = s 0 0 0 by omega, hw3], rfl⟩
      · skip
        refine z_iload_n F 2 dX6_memberFor_21 rfl rfl ?_
        refine z_iload F 6 dX6_memberFor_22 rfl ?_
        refine z_ishr F (((wo / 2 ^ w.toNat : Nat) : Int)) dX6_memberFor_24 (zI_shrI hwo (by omega) (by omega)) ?_
        refine z_iconst (z := 1) F dX6_memberFor_25 (by decide) ?_
        refine z_iand F (((wo / 2 ^ w.toNat % 2 : Nat) : Int)) dX6_memberFor_26 (zI_and1 _) ?_
        refine z_iconst (z := 1) F dX6_memberFor_27 (by decide) ?_
        have hbr : zR ((wo / 2 ^ w.toNat % 2 : Nat) : Int) := by constructor <;> omega
        refine z_icmp_ne F 80 dX6_memberFor_28 (by decide) (by omega) ⟨by decide, by decide⟩ (fun c_3 => ?_) (fun c_3 => ?_)
        · skip
          have hst1 : zMem s (zBit wo) a x (w + 1).toNat = (b, m) := by
            rw [show (w + 1).toNat = w.toNat + 1 by omega, zMem_no (by unfold zBit; rw [show (wo / 2 ^ w.toNat % 2 == 1) = false from beq_eq_false_iff_ne.mpr (fun h => by rw [h] at c_3; exact c_3 rfl)]; rfl)]
            exact hw3
          refine z_iinc F 6 [(6, .int (zI (w + 1))), (0, .ref 0), (1, .ref (64 * a + 10)), (2, .int (zI ((wo : Nat)))), (3, .int (zI x)), (4, .int (zI b)), (5, .int (zI m))] dX6_memberFor_80 rfl (by decide) rfl ?_
          refine z_goto F 9 dX6_memberFor_83 (by decide) ?_
          refine z_lv [(0, .ref 0), (1, .ref (64 * a + 10)), (2, .int (zI ((wo : Nat)))), (3, .int (zI x)), (4, .int (zI b)), (5, .int (zI m)), (6, .int (zI (w + 1)))] [1, 2, 3, 4, 5, 6, 0] rfl ?_
          exact L1_ih (w + 1) b m (by omega) (by omega) (by omega) (by first | exact hst1 | exact hst2)
        · skip
          have hbit : zBit wo w.toNat = true := by unfold zBit; exact beq_iff_eq.mpr (by omega)
          refine z_aload_n F 0 dX6_memberFor_31 rfl rfl ?_
          refine z_get F fl_X6_10 (zAll_0 s t o) rfl dX6_memberFor_32 ?_
          refine z_iload F 6 dX6_memberFor_35 rfl ?_
          refine z_callV F [.int (zI w)] [] (g_m F.2.2.1 G hc (i := w) (by omega) (by omega)) cv_X6_99 (zAll_1 s t o) rfl rfl rfl ⟨by decide, by decide⟩ ⟨by decide, by decide⟩ (Nat.le_of_ble_eq_true rfl) dX6_memberFor_37 z_nx (z_kr (fun x_4 M_4 h_4 => ?_))
          have hx9 := (h_4).1.symm
          have hm9 := (h_4).2.symm
          subst hx9
          subst hm9
          refine z_cast (ci := 2) F (zr_3 _ (List.mem_of_getElem? (i := 19) rfl)) (zAll_m t o (i := w.toNat) (by omega)) rfl dX6_memberFor_40 ?_
          refine z_aload_n F 1 dX6_memberFor_43 rfl rfl ?_
          refine z_iload_n F 3 dX6_memberFor_44 rfl rfl ?_
          refine z_callV F [.ref (64 * a + 10), .int (zI x)] [] (c_X1_canTake F.2.2.1 G hc hb9 (i := w.toNat) (by omega) ha hx) cv_X6_308 (zAll_m t o (i := w.toNat) (by omega)) rfl rfl rfl ⟨by decide, by decide⟩ ⟨by decide, by decide⟩ (Nat.le_of_ble_eq_true rfl) dX6_memberFor_45 z_nx (z_ki (fun x_5 M_5 h_5 => ?_))
          have hx9 := (h_5).1.symm
          have hm9 := (h_5).2.symm
          subst hx9
          subst hm9
          have hz : zR (if zCan s w.toNat a x = true then 1 else 0) := zR_if
          refine z_if_eq F 80 dX6_memberFor_48 (by decide) (by omega) (fun c_6 => ?_) (fun c_6 => ?_)
          · skip
            have hcan : zCan s w.toNat a x = false := by
              cases h : zCan s w.toNat a x with
              | false => rfl
              | true => rw [if_pos h] at c_6; omega
            have hst1 : zMem s (zBit wo) a x (w + 1).toNat = (b, m) := by
              rw [show (w + 1).toNat = w.toNat + 1 by omega, zMem_no (by rw [hcan, Bool.and_false])]
              exact hw3
            refine z_iinc F 6 [(6, .int (zI (w + 1))), (0, .ref 0), (1, .ref (64 * a + 10)), (2, .int (zI ((wo : Nat)))), (3, .int (zI x)), (4, .int (zI b)), (5, .int (zI m))] dX6_memberFor_80 rfl (by decide) rfl ?_
            refine z_goto F 9 dX6_memberFor_83 (by decide) ?_
            refine z_lv [(0, .ref 0), (1, .ref (64 * a + 10)), (2, .int (zI ((wo : Nat)))), (3, .int (zI x)), (4, .int (zI b)), (5, .int (zI m)), (6, .int (zI (w + 1)))] [1, 2, 3, 4, 5, 6, 0] rfl ?_
            exact L1_ih (w + 1) b m (by omega) (by omega) (by omega) (by first | exact hst1 | exact hst2)
          · skip
            have hcan : zCan s w.toNat a x = true := Classical.byContradiction fun h => by rw [if_neg h] at c_6; omega
            refine z_aload_n F 0 dX6_memberFor_51 rfl rfl ?_
            refine z_iload F 6 dX6_memberFor_52 rfl ?_
            refine z_callV F [.int (zI w)] [] (c_X6_workBookedWith F.2.2.1 G hc hb9 (by omega)) cv_X6_198 (zAll_0 s t o) rfl rfl rfl ⟨by decide, by decide⟩ ⟨by decide, by decide⟩ (Nat.le_of_ble_eq_true rfl) dX6_memberFor_54 z_nx (z_ki (fun x_7 M_7 h_7 => ?_))
            have hx9 := (h_7).1.symm
            have hm9 := (h_7).2.symm
            subst hx9
            subst hm9
            have hmr := zMem_r hc (zBit wo) a x w.toNat
            rw [hw3] at hmr
            dsimp only at hmr
            have hlr9 : 0 ≤ zLoad s w ∧ zLoad s w ≤ 30000 := by
              have := zLoad_r hc w (s 9 0 0).toNat
              unfold zLoad
              omega
            have hwe : ((w.toNat : Nat) : Int) = w := by omega
            refine z_istore F [(7, .int (zI (zLoad s w))), (0, .ref 0), (1, .ref (64 * a + 10)), (2, .int (zI ((wo : Nat)))), (3, .int (zI x)), (4, .int (zI b)), (5, .int (zI m)), (6, .int (zI w))] dX6_memberFor_57 (by decide) rfl ?_
            refine z_iload F 5 dX6_memberFor_59 rfl ?_
            refine z_iconst (z := -1) F dX6_memberFor_61 (by decide) ?_
            refine z_icmp_eq F 72 dX6_memberFor_62 (by decide) (by omega) ⟨by decide, by decide⟩ (fun c_8 => ?_) (fun c_8 => ?_)
            · skip
              have hst2 : zMem s (zBit wo) a x (w + 1).toNat = (w, zLoad s w) := by
                rw [show (w + 1).toNat = w.toNat + 1 by omega, zMem_y1 hbit hcan (by rw [hw3]; exact Or.inl c_8), hwe]
              refine z_iload F 7 dX6_memberFor_72 rfl ?_
              refine z_istore F [(4, .int (zI w)), (7, .int (zI (zLoad s w))), (0, .ref 0), (1, .ref (64 * a + 10)), (2, .int (zI ((wo : Nat)))), (3, .int (zI x)), (5, .int (zI m)), (6, .int (zI w))] dX6_memberFor_74 (by decide) rfl ?_
              refine z_iload F 1 dX6_memberFor_76 rfl ?_
              refine z_istore F [(5, .int (zI (zLoad s w))), (4, .int (zI w)), (7, .int (zI (zLoad s w))), (0, .ref 0), (1, .ref (64 * a + 10)), (2, .int (zI ((wo : Nat)))), (3, .int (zI x)), (6, .int (zI w))] dX6_memberFor_78 (by decide) rfl ?_
              refine z_iinc F 7 [(6, .int (zI (w + 1))), (5, .int (zI (zLoad s w))), (4, .int (zI w)), (7, .int (zI (zLoad s w))), (0, .ref 0), (1, .ref (64 * a + 10)), (2, .int (zI ((wo : Nat)))), (3, .int (zI x))] dX6_memberFor_80 rfl (by decide) rfl ?_
              refine z_goto F 9 dX6_memberFor_83 (by decide) ?_
              refine z_lv [(0, .ref 0), (1, .ref (64 * a + 10)), (2, .int (zI ((wo : Nat)))), (3, .int (zI x)), (4, .int (zI w)), (5, .int (zI (zLoad s w))), (6, .int (zI (w + 1)))] [4, 5, 6, 7, 2, 1, 0] rfl ?_
              exact L1_ih (w + 1) w (zLoad s w) (by omega) (by omega) (by omega) (by first | exact hst1 | exact hst2)
            · skip
              have hb1 : ¬ b = -1 := c_8
              refine z_iload F 0 dX6_memberFor_65 rfl ?_
              refine z_iload F 6 dX6_memberFor_67 rfl ?_
              refine z_icmp_ge F 80 dX6_memberFor_69 (by decide) (by omega) (by omega) (fun c_9 => ?_) (fun c_9 => ?_)
              · skip
                have hst1 : zMem s (zBit wo) a x (w + 1).toNat = (b, m) := by
                  rw [show (w + 1).toNat = w.toNat + 1 by omega, zMem_y2 hbit hcan (by rw [hw3, hwe]; dsimp only; omega)]
                  exact hw3
                refine z_iinc F 7 [(6, .int (zI (w + 1))), (7, .int (zI (zLoad s w))), (0, .ref 0), (1, .ref (64 * a + 10)), (2, .int (zI ((wo : Nat)))), (3, .int (zI x)), (4, .int (zI b)), (5, .int (zI m))] dX6_memberFor_80 rfl (by decide) rfl ?_
                refine z_goto F 9 dX6_memberFor_83 (by decide) ?_
                refine z_lv [(0, .ref 0), (1, .ref (64 * a + 10)), (2, .int (zI ((wo : Nat)))), (3, .int (zI x)), (4, .int (zI b)), (5, .int (zI m)), (6, .int (zI (w + 1)))] [2, 3, 4, 5, 6, 7, 0] rfl ?_
                exact L1_ih (w + 1) b m (by omega) (by omega) (by omega) (by first | exact hst1 | exact hst2)
              · skip
                have hst2 : zMem s (zBit wo) a x (w + 1).toNat = (w, zLoad s w) := by
                  rw [show (w + 1).toNat = w.toNat + 1 by omega, zMem_y1 hbit hcan (by rw [hw3, hwe]; exact Or.inr c_9), hwe]
                refine z_iload F 7 dX6_memberFor_72 rfl ?_
                refine z_istore F [(4, .int (zI w)), (7, .int (zI (zLoad s w))), (0, .ref 0), (1, .ref (64 * a + 10)), (2, .int (zI ((wo : Nat)))), (3, .int (zI x)), (5, .int (zI m)), (6, .int (zI w))] dX6_memberFor_74 (by decide) rfl ?_
                refine z_iload F 1 dX6_memberFor_76 rfl ?_
                refine z_istore F [(5, .int (zI (zLoad s w))), (4, .int (zI w)), (7, .int (zI (zLoad s w))), (0, .ref 0), (1, .ref (64 * a + 10)), (2, .int (zI ((wo : Nat)))), (3, .int (zI x)), (6, .int (zI w))] dX6_memberFor_78 (by decide) rfl ?_
                refine z_iinc F 7 [(6, .int (zI (w + 1))), (5, .int (zI (zLoad s w))), (4, .int (zI w)), (7, .int (zI (zLoad s w))), (0, .ref 0), (1, .ref (64 * a + 10)), (2, .int (zI ((wo : Nat)))), (3, .int (zI x))] dX6_memberFor_80 rfl (by decide) rfl ?_
                refine z_goto F 9 dX6_memberFor_83 (by decide) ?_
                refine z_lv [(0, .ref 0), (1, .ref (64 * a + 10)), (2, .int (zI ((wo : Nat)))), (3, .int (zI x)), (4, .int (zI w)), (5, .int (zI (zLoad s w))), (6, .int (zI (w + 1)))] [4, 5, 6, 7, 2, 1, 0] rfl ?_
                exact L1_ih (w + 1) w (zLoad s w) (by omega) (by omega) (by omega) (by first | exact hst1 | exact hst2)
  refine z_lv [(0, .ref 0), (1, .ref (64 * a + 10)), (2, .int (zI ((wo : Nat)))), (3, .int (zI x)), (4, .int (zI (-1))), (5, .int (zI 0)), (6, .int (zI 0))] [3, 4, 5, 6, 2, 1, 0] rfl ?_
  exact L1 _ 0 (-1) 0 (Nat.lt_succ_self _) (by omega) (by omega) rfl

abbrev rX6_hasRoom : Room := { frames := 5, cells := 0, slots := 0, locals := 115 }
set_option maxRecDepth 100000 in
set_option maxHeartbeats 4000000 in
theorem c_X6_hasRoom {l : Launch} (hfl : l.stackTraces = false) (G : zG) {s t : zS} {o : zOx} (hc : zC1 s) (hb9 : zB s) {a wo : Nat} {x : Int} (ha : (a : Int) < s 4 0 0) (hwo : wo < 2 ^ 31) (hx : -2000 ≤ x ∧ x ≤ 2000) : zCn l G yX6_hasRoom (.code yX6_hasRoom cX6_hasRoom 4 (some .boolean)) rX6_hasRoom [.ref 0, .ref (64 * a + 10), .int (zI ((wo : Nat))), .int (zI x)] (zAll s t o) (zRi (fun xr M2 => xr = (if zRoomB s (zBit wo) a x = true then 1 else 0) ∧ M2 = (zAll s t o))) zN := by
  refine zStart hfl (by decide) (own := RX6) rfl [(0, .ref 0), (1, .ref (64 * a + 10)), (2, .int (zI ((wo : Nat)))), (3, .int (zI x))] (Nat.le_of_ble_eq_true rfl) rfl (fun k hkl hinit hk0 F => ?_)
  have hn0 := hc.1
  have hn4 := hc.2.1
  have hn9 := hc.2.2.1
  have hn14 := hc.2.2.2.1
  have hn18 := hc.2.2.2.2.1
  have hcr := zChair_r s a x
  have hgr := zGet_r hc (zBit wo) a x
  refine z_aload_n F 0 dX6_hasRoom_0 rfl rfl ?_
  refine z_aload_n F 1 dX6_hasRoom_1 rfl rfl ?_
  refine z_iload_n F 3 dX6_hasRoom_2 rfl rfl ?_
  refine z_callV F [.ref (64 * a + 10), .int (zI x)] [] (c_X6_chairFor F.2.2.1 G hc hb9 ha hx) cv_X6_270 (zAll_0 s t o) rfl rfl rfl ⟨by decide, by decide⟩ ⟨by decide, by decide⟩ (Nat.le_of_ble_eq_true rfl) dX6_hasRoom_3 z_nx (z_ki (fun x_1 M_1 h_1 => ?_))
  have hx9 := (h_1).1.symm
  have hm9 := (h_1).2.symm
  subst hx9
  subst hm9
  refine z_iconst (z := -1) F dX6_hasRoom_6 (by decide) ?_
  refine z_icmp_eq F 25 dX6_hasRoom_7 (by decide) (by omega) ⟨by decide, by decide⟩ (fun c_2 => ?_) (fun c_2 => ?_)
  · skip
    have hc7 : zChair s a x = -1 := c_2
    refine z_iconst (z := 0) F dX6_hasRoom_25 (by decide) ?_
    exact z_retz F rfl (by decide) (by first | decide | assumption | omega) (by first | decide | assumption | omega) dX6_hasRoom_26 ⟨_, rfl, (by unfold zRoomB; first | (rw [decide_eq_false (show ¬ zChair s a x ≠ -1 from fun h => h hc7)]; rfl) | (rw [decide_eq_false (show ¬ zGet s (zBit wo) a x ≠ -1 from fun h => h hc8), Bool.and_false]; rfl) | (rw [decide_eq_true (show zChair s a x ≠ -1 from hc7), decide_eq_true (show zGet s (zBit wo) a x ≠ -1 from hc8)]; rfl)), rfl⟩
  · skip
    have hc7 : ¬ zChair s a x = -1 := c_2
    refine z_aload_n F 0 dX6_hasRoom_10 rfl rfl ?_
    refine z_aload_n F 1 dX6_hasRoom_11 rfl rfl ?_
    refine z_iload_n F 2 dX6_hasRoom_12 rfl rfl ?_
    refine z_iload_n F 3 dX6_hasRoom_13 rfl rfl ?_
    refine z_callV F [.ref (64 * a + 10), .int (zI ((wo : Nat))), .int (zI x)] [] (c_X6_memberFor F.2.2.1 G hc hb9 ha hwo hx) cv_X6_218 (zAll_0 s t o) rfl rfl rfl ⟨by decide, by decide⟩ ⟨by decide, by decide⟩ (Nat.le_of_ble_eq_true rfl) dX6_hasRoom_14 z_nx (z_ki (fun x_3 M_3 h_3 => ?_))
    have hx9 := (h_3).1.symm
    have hm9 := (h_3).2.symm
    subst hx9
    subst hm9
    refine z_iconst (z := -1) F dX6_hasRoom_17 (by decide) ?_
    refine z_icmp_eq F 25 dX6_hasRoom_18 (by decide) (by omega) ⟨by decide, by decide⟩ (fun c_4 => ?_) (fun c_4 => ?_)
    · skip
      have hc8 : zGet s (zBit wo) a x = -1 := c_4
      refine z_iconst (z := 0) F dX6_hasRoom_25 (by decide) ?_
      exact z_retz F rfl (by decide) (by first | decide | assumption | omega) (by first | decide | assumption | omega) dX6_hasRoom_26 ⟨_, rfl, (by unfold zRoomB; first | (rw [decide_eq_false (show ¬ zChair s a x ≠ -1 from fun h => h hc7)]; rfl) | (rw [decide_eq_false (show ¬ zGet s (zBit wo) a x ≠ -1 from fun h => h hc8), Bool.and_false]; rfl) | (rw [decide_eq_true (show zChair s a x ≠ -1 from hc7), decide_eq_true (show zGet s (zBit wo) a x ≠ -1 from hc8)]; rfl)), rfl⟩
    · skip
      have hc8 : ¬ zGet s (zBit wo) a x = -1 := c_4
      refine z_iconst (z := 1) F dX6_hasRoom_21 (by decide) ?_
      refine z_goto F 26 dX6_hasRoom_22 (by decide) ?_
      exact z_retz F rfl (by decide) (by first | decide | assumption | omega) (by first | decide | assumption | omega) dX6_hasRoom_26 ⟨_, rfl, (by unfold zRoomB; first | (rw [decide_eq_false (show ¬ zChair s a x ≠ -1 from fun h => h hc7)]; rfl) | (rw [decide_eq_false (show ¬ zGet s (zBit wo) a x ≠ -1 from fun h => h hc8), Bool.and_false]; rfl) | (rw [decide_eq_true (show zChair s a x ≠ -1 from hc7), decide_eq_true (show zGet s (zBit wo) a x ≠ -1 from hc8)]; rfl)), rfl⟩

theorem zScan_s {s : zS} {who : Nat → Bool} {a : Nat} {x to : Int} (h1 : x + zLen s a ≤ to) (h0 : 0 ≤ zLen s a) (h2 : zRoomB s who a x = false) : zFind s who a x to = zFind s who a (x + 1) to := by
  unfold zFind
  rw [show (to - x + 1).toNat = (to - (x + 1) + 1).toNat + 1 by omega, zScan, if_neg (by omega), if_neg (by rw [h2]; decide)]
theorem zScan_y {s : zS} {who : Nat → Bool} {a : Nat} {x to : Int} (h1 : x + zLen s a ≤ to) (h0 : 0 ≤ zLen s a) (h2 : zRoomB s who a x = true) : zFind s who a x to = x := by
  unfold zFind
  rw [show (to - x + 1).toNat = (to - (x + 1) + 1).toNat + 1 by omega, zScan, if_neg (by omega), if_pos h2]
theorem zScan_e {s : zS} {who : Nat → Bool} {a : Nat} {x to : Int} (h1 : to < x + zLen s a) : zFind s who a x to = -1 := by
  unfold zFind
  cases h : (to - x + 1).toNat with
  | zero => rfl
  | succ n => rw [zScan, if_pos h1]
theorem zScan_r (s : zS) (who : Nat → Bool) (a : Nat) (to : Int) : ∀ (n : Nat) (x : Int), zScan s who a to n x = -1 ∨ (x ≤ zScan s who a to n x ∧ zScan s who a to n x + zLen s a ≤ to ∧ zRoomB s who a (zScan s who a to n x) = true)
  | 0, _ => Or.inl rfl
  | n + 1, x => by
    rw [zScan]
    split
    · exact Or.inl rfl
    · split
      · rename_i h1 h2
        exact Or.inr ⟨Int.le_refl _, by omega, h2⟩
      · rcases zScan_r s who a to n (x + 1) with h | ⟨h1, h2⟩
        · exact Or.inl h
        · exact Or.inr ⟨by omega, h2⟩
theorem zFind_r (s : zS) (who : Nat → Bool) (a : Nat) (x to : Int) : zFind s who a x to = -1 ∨ (x ≤ zFind s who a x to ∧ zFind s who a x to + zLen s a ≤ to ∧ zRoomB s who a (zFind s who a x to) = true) := zScan_r s who a to _ x
abbrev rX6_firstStartByScan : Room := { frames := 6, cells := 0, slots := 0, locals := 138 }
set_option maxRecDepth 100000 in
set_option maxHeartbeats 4000000 in
theorem c_X6_firstStartByScan {l : Launch} (hfl : l.stackTraces = false) (G : zG) {s t : zS} {o : zOx} (hc : zC1 s) (hb9 : zB s) {a wo : Nat} {x y : Int} (ha : (a : Int) < s 4 0 0) (hwo : wo < 2 ^ 31) (hx : 0 ≤ x ∧ x ≤ 1000) (hy : 0 ≤ y ∧ y ≤ 1700) : zCn l G yX6_firstStartByScan (.code yX6_firstStartByScan cX6_firstStartByScan 6 (some .int)) rX6_firstStartByScan [.ref 0, .ref (64 * a + 10), .int (zI ((wo : Nat))), .int (zI x), .int (zI y)] (zAll s t o) (zRi (fun xr M2 => xr = zFind s (zBit wo) a x y ∧ M2 = (zAll s t o))) zN := by
  refine zStart hfl (by decide) (own := RX6) rfl [(0, .ref 0), (1, .ref (64 * a + 10)), (2, .int (zI ((wo : Nat)))), (3, .int (zI x)), (4, .int (zI y))] (Nat.le_of_ble_eq_true rfl) rfl (fun k hkl hinit hk0 F => ?_)
  have hn0 := hc.1
  have hn4 := hc.2.1
  have hn9 := hc.2.2.1
  have hn14 := hc.2.2.2.1
  have hn18 := hc.2.2.2.2.1
  have hln := hc.len a
  refine z_iload_n F 3 dX6_firstStartByScan_0 rfl rfl ?_
  refine z_istore F [(5, .int (zI x)), (0, .ref 0), (1, .ref (64 * a + 10)), (2, .int (zI ((wo : Nat)))), (3, .int (zI x)), (4, .int (zI y))] dX6_firstStartByScan_1 (by decide) rfl ?_
  have L1 : ∀ (fuel : Nat) (w : Int), (1801 - w).toNat < fuel → 0 ≤ w → w ≤ 1800 → zFind s (zBit wo) a x y = zFind s (zBit wo) a w y → zJ k G rX6_firstStartByScan 6 (zMQ k G rX6_firstStartByScan (zRi (fun xr M2 => xr = zFind s (zBit wo) a x y ∧ M2 = (zAll s t o))) zN) (zAll s t o) 0 0 3 [(0, .ref 0), (1, .ref (64 * a + 10)), (2, .int (zI ((wo : Nat)))), (3, .int (zI x)), (4, .int (zI y)), (5, .int (zI w))] [] := by
    intro fuel
    induction fuel with
    | zero => intros; omega
    | succ fuel L1_ih =>
      intro w hfuel hw1 hw2 hw3
      refine z_iload F 5 dX6_firstStartByScan_3 rfl ?_
      refine z_aload_n F 1 dX6_firstStartByScan_5 rfl rfl ?_
      refine z_get F fl_X6_186 (zAll_s t o (i := a) (by omega)) rfl dX6_firstStartByScan_6 ?_
      refine z_iadd F dX6_firstStartByScan_9 ?_
      refine z_iload F 4 dX6_firstStartByScan_10 rfl ?_
      refine z_icmp_gt F 35 dX6_firstStartByScan_12 (by decide) (by omega) (by omega) (fun c_1 => ?_) (fun c_1 => ?_)
      · skip
        refine z_iconst (z := -1) F dX6_firstStartByScan_35 (by decide) ?_
        exact z_reti F rfl (by first | decide | assumption | omega) (by first | decide | assumption | omega) dX6_firstStartByScan_36 ⟨_, rfl, by rw [hw3, zScan_e (by omega)], rfl⟩
      · skip
        refine z_aload_n F 0 dX6_firstStartByScan_15 rfl rfl ?_
        refine z_aload_n F 1 dX6_firstStartByScan_16 rfl rfl ?_
        refine z_iload_n F 2 dX6_firstStartByScan_17 rfl rfl ?_
        refine z_iload F 5 dX6_firstStartByScan_18 rfl ?_
        refine z_callV F [.ref (64 * a + 10), .int (zI ((wo : Nat))), .int (zI w)] [] (c_X6_hasRoom F.2.2.1 G hc hb9 ha hwo (by omega)) cv_X6_292 (zAll_0 s t o) rfl rfl rfl ⟨by decide, by decide⟩ ⟨by decide, by decide⟩ (Nat.le_of_ble_eq_true rfl) dX6_firstStartByScan_20 z_nx (z_ki (fun x_2 M_2 h_2 => ?_))
        have hx9 := (h_2).1.symm
        have hm9 := (h_2).2.symm
        subst hx9
        subst hm9
        have hz : zR (if zRoomB s (zBit wo) a w = true then 1 else 0) := zR_if
        refine z_if_eq F 29 dX6_firstStartByScan_23 (by decide) (by omega) (fun c_3 => ?_) (fun c_3 => ?_)
        · skip
          have hrm : zRoomB s (zBit wo) a w = false := by
            cases h : zRoomB s (zBit wo) a w with
            | false => rfl
            | true => rw [if_pos h] at c_3; omega
          refine z_iinc F 5 [(5, .int (zI (w + 1))), (0, .ref 0), (1, .ref (64 * a + 10)), (2, .int (zI ((wo : Nat)))), (3, .int (zI x)), (4, .int (zI y))] dX6_firstStartByScan_29 rfl (by decide) rfl ?_
          refine z_goto F 3 dX6_firstStartByScan_32 (by decide) ?_
          refine z_lv [(0, .ref 0), (1, .ref (64 * a + 10)), (2, .int (zI ((wo : Nat)))), (3, .int (zI x)), (4, .int (zI y)), (5, .int (zI (w + 1)))] [1, 2, 3, 4, 5, 0] rfl ?_
          exact L1_ih (w + 1) (by omega) (by omega) (by omega) (hw3.trans (zScan_s (by omega) hln.1 hrm))
        · skip
          have hrm : zRoomB s (zBit wo) a w = true := Classical.byContradiction fun h => by rw [if_neg h] at c_3; omega
          refine z_iload F 5 dX6_firstStartByScan_26 rfl ?_
          exact z_reti F rfl (by first | decide | assumption | omega) (by first | decide | assumption | omega) dX6_firstStartByScan_28 ⟨_, rfl, by rw [hw3, zScan_y (by omega) hln.1 hrm], rfl⟩
  refine z_lv [(0, .ref 0), (1, .ref (64 * a + 10)), (2, .int (zI ((wo : Nat)))), (3, .int (zI x)), (4, .int (zI y)), (5, .int (zI x))] [1, 2, 3, 4, 5, 0] rfl ?_
  exact L1 _ x (Nat.lt_succ_self _) (by omega) (by omega) rfl

/-- a start that the search must look at: the minute asked for, a shift's beginning, behind a visit, behind a step of a visit a step of the service -/
def zCd1 (s : zS) (v a : Nat) (x : Int) : Prop := ∃ p q : Nat, p < zSc s (s 10 v 0).toNat ∧ q < zSc s a ∧ ¬ s 6 (s 10 v 0).toNat p = -1 ∧ ¬ s 6 a q = -1 ∧ x = s 13 v 0 + zOff s (s 10 v 0).toNat (p + 1) - zOff s a q
theorem zup01 {f : Nat → Int} {i : Nat} (h : ∀ m, f m = 0 ∨ f m = 1) : ∀ m, zup f i 1 m = 0 ∨ zup f i 1 m = 1 := fun m => by
  simp only [zup]
  split
  · exact Or.inr rfl
  · exact h m
theorem zup1 {f : Nat → Int} {i m : Nat} (h : f m = 1) : zup f i 1 m = 1 := by
  simp only [zup]
  split
  · rfl
  · exact h
/-- in the range of the day, and held -/
def zHd (c : Nat → Int) (x : Int) : Prop := 0 ≤ x → x < 600 → c x.toNat = 1
theorem zHd_up {c : Nat → Int} {x y : Int} (h : zHd c x) : zHd (if 0 ≤ y ∧ y < 600 then zup c y.toNat 1 else c) x := by
  split
  · exact fun h0 h1 => zup1 (h h0 h1)
  · exact h
theorem zHd_new {c : Nat → Int} {y : Int} : zHd (if 0 ≤ y ∧ y < 600 then zup c y.toNat 1 else c) y := fun h0 h1 => by
  rw [if_pos ⟨h0, h1⟩, zup_s]
theorem z01_up {c : Nat → Int} {y : Int} (h : ∀ m, c m = 0 ∨ c m = 1) : ∀ m, (if 0 ≤ y ∧ y < 600 then zup c y.toNat 1 else c) m = 0 ∨ (if 0 ≤ y ∧ y < 600 then zup c y.toNat 1 else c) m = 1 := by
  split
  · exact zup01 h
  · exact h
theorem zAll_ch {s t : zS} {o : zOx} (f : Nat → Int) : zu (zAll s t o) 5 (zAi 1 600 f) = zAll s t (o.1, f) := by
  refine zu_ext rfl fun q hq => ?_
  have hq2 : ¬ (q % 64 = 5 ∧ q / 64 = 0) := fun h => hq (by omega)
  simp only [zAll]
  by_cases h : q % 64 = 5
  · rw [if_pos h, if_pos h, if_neg (fun h2 => hq2 ⟨h, h2⟩), if_neg (fun h2 => hq2 ⟨h, h2⟩)]
  · rw [if_neg h, if_neg h]
theorem zAll_chI {s t : zS} {o : zOx} {y : Int} : (if 0 ≤ y ∧ y < 600 then zu (zAll s t o) 5 (zAi 1 600 (zup o.2 y.toNat 1)) else zAll s t o) = zAll s t (o.1, if 0 ≤ y ∧ y < 600 then zup o.2 y.toNat 1 else o.2) := by
  split
  · exact zAll_ch _
  · rfl
theorem c_msadd {l : Launch} (hfl : l.stackTraces = false) (G : zG) {s t : zS} {o : zOx} {y : Int} (hy : zR y) : zCn l G yX2_add (.code yX2_add cX2_add 2 none) rX2_add [.ref 4, .int (zI y)] (zAll s t o) (zRv (fun M2 => M2 = zAll s t (o.1, if 0 ≤ y ∧ y < 600 then zup o.2 y.toNat 1 else o.2))) zN := by
  have h := c_X2_add hfl G hy (zAll s t o) (zAll_4 s t o) (zAll_5 s t o) (by decide)
  rw [zAll_chI] at h
  exact h
abbrev rX6_addStartsBehindSteps : Room := { frames := 2, cells := 0, slots := 0, locals := 41 }
set_option maxRecDepth 100000 in
set_option maxHeartbeats 4000000 in
theorem c_X6_addStartsBehindSteps {l : Launch} (hfl : l.stackTraces = false) (G : zG) {s t : zS} {o : zOx} (hc : zC1 s) (hb9 : zB s) {v a : Nat} (hv : (v : Int) < s 9 0 0) (ha : (a : Int) < s 4 0 0) (h01 : ∀ m, o.2 m = 0 ∨ o.2 m = 1) : zCn l G yX6_addStartsBehindSteps (.code yX6_addStartsBehindSteps cX6_addStartsBehindSteps 6 none) rX6_addStartsBehindSteps [.ref 0, .ref (64 * v + 14), .ref (64 * a + 10)] (zAll s t o) (zRv (fun M2 => ∃ c9 : Nat → Int, M2 = zAll s t (o.1, c9) ∧ (∀ m, c9 m = 0 ∨ c9 m = 1) ∧ (∀ x, zHd o.2 x → zHd c9 x) ∧ ∀ x, zCd1 s v a x → zHd c9 x)) zN := by
  refine zStart hfl (by decide) (own := RX6) rfl [(0, .ref 0), (1, .ref (64 * v + 14)), (2, .ref (64 * a + 10))] (Nat.le_of_ble_eq_true rfl) rfl (fun k hkl hinit hk0 F => ?_)
  have hn0 := hc.1
  have hn4 := hc.2.1
  have hn9 := hc.2.2.1
  have hn14 := hc.2.2.2.1
  have hn18 := hc.2.2.2.2.1
  have hvs := hc.2.2.2.2.2.2.2.2.2.2.1 v hv
  have hva : (((s 10 v 0).toNat : Nat) : Int) < s 4 0 0 := by omega
  have hscv := hc.sc (s 10 v 0).toNat
  have hsca := hc.sc a
  have hbs := hb9 13 v 0
  refine z_iconst (z := 0) F dX6_addStartsBehindSteps_0 (by decide) ?_
  refine z_istore_n F [(3, .int (zI 0)), (0, .ref 0), (1, .ref (64 * v + 14)), (2, .ref (64 * a + 10))] dX6_addStartsBehindSteps_1 rfl (by decide) rfl ?_
  have L1 : ∀ (fuel : Nat) (w : Int) (c : Nat → Int), (s 5 (s 10 v 0).toNat 0 - w).toNat < fuel → 0 ≤ w → w ≤ s 5 (s 10 v 0).toNat 0 → (∀ m, c m = 0 ∨ c m = 1) → (∀ x, zHd o.2 x → zHd c x) → (∀ (p q : Nat), (p : Int) < w → q < zSc s a → ¬ s 6 (s 10 v 0).toNat p = -1 → ¬ s 6 a q = -1 → zHd c (s 13 v 0 + zOff s (s 10 v 0).toNat (p + 1) - zOff s a q)) → zJ k G rX6_addStartsBehindSteps 6 (zMQ k G rX6_addStartsBehindSteps (zRv (fun M2 => ∃ c9 : Nat → Int, M2 = zAll s t (o.1, c9) ∧ (∀ m, c9 m = 0 ∨ c9 m = 1) ∧ (∀ x, zHd o.2 x → zHd c9 x) ∧ ∀ x, zCd1 s v a x → zHd c9 x)) zN) (zAll s t (o.1, c)) 0 0 2 [(0, .ref 0), (1, .ref (64 * v + 14)), (2, .ref (64 * a + 10)), (3, .int (zI w))] [] := by
    intro fuel
    induction fuel with
    | zero => intros; omega
    | succ fuel L1_ih =>
      intro w c hfuel hw1 hw2 hw3 hw4 hw5
      refine z_iload_n F 3 dX6_addStartsBehindSteps_2 rfl rfl ?_
      refine z_aload_n F 1 dX6_addStartsBehindSteps_3 rfl rfl ?_
      refine z_get F fl_X6_151 (zAll_v t (o.1, c) (i := v) (by omega)) rfl dX6_addStartsBehindSteps_4 ?_
      refine z_get F fl_X6_103 (zAll_s t (o.1, c) (i := (s 10 v 0).toNat) (by omega)) rfl dX6_addStartsBehindSteps_7 ?_
      refine z_icmp_ge F 88 dX6_addStartsBehindSteps_10 (by decide) (by omega) (by omega) (fun c_1 => ?_) (fun c_1 => ?_)
      · skip
        exact z_retv F rfl (by first | decide | assumption | omega) (by first | decide | assumption | omega) dX6_addStartsBehindSteps_88 ⟨rfl, c, rfl, hw3, hw4, fun x hx => by obtain ⟨p, q, h1, h2, h3, h4, rfl⟩ := hx; exact hw5 p q (by omega) h2 h3 h4⟩
      · skip
        refine z_aload_n F 1 dX6_addStartsBehindSteps_13 rfl rfl ?_
        refine z_get F fl_X6_144 (zAll_v t (o.1, c) (i := v) (by omega)) rfl dX6_addStartsBehindSteps_14 ?_
        refine z_aload_n F 1 dX6_addStartsBehindSteps_17 rfl rfl ?_
        refine z_get F fl_X6_151 (zAll_v t (o.1, c) (i := v) (by omega)) rfl dX6_addStartsBehindSteps_18 ?_
        refine z_iload_n F 3 dX6_addStartsBehindSteps_21 rfl rfl ?_
        refine z_callV F [.int (zI w)] [.int (zI (s 13 v 0))] (c_X4_stepTo F.2.2.1 G (a := w) (by omega) (zAll s t (o.1, c)) (zAll_s t (o.1, c) (i := (s 10 v 0).toNat) (by omega)) (zAll_s1 t (o.1, c) (i := (s 10 v 0).toNat) (by omega)) (zAll_s2 t (o.1, c) (i := (s 10 v 0).toNat) (by omega)) (zAll_s3 t (o.1, c) (i := (s 10 v 0).toNat) (by omega))) cv_X6_227 (zAll_s t (o.1, c) (i := (s 10 v 0).toNat) (by omega)) rfl rfl rfl ⟨by decide, by decide⟩ ⟨by decide, by decide⟩ (Nat.le_of_ble_eq_true rfl) dX6_addStartsBehindSteps_22 z_nx (z_ki (fun x_2 M_2 h_2 => ?_))
        have hx9 := (h_2).1.symm
        have hm9 := (h_2).2.symm
        subst hx9
        subst hm9
        refine z_ti (y := zOff s ((s 10 v 0).toNat) (w.toNat + 1)) (by rw [if_pos (show 0 ≤ w ∧ w < 5 by omega)]; exact if_pos (by omega)) ?_
        refine z_iadd F dX6_addStartsBehindSteps_25 ?_
        have ho1 := hc.off (s 10 v 0).toNat (w.toNat + 1)
        refine z_istore F [(4, .int (zI ((s 13 v 0) + (zOff s ((s 10 v 0).toNat) (w.toNat + 1))))), (0, .ref 0), (1, .ref (64 * v + 14)), (2, .ref (64 * a + 10)), (3, .int (zI w))] dX6_addStartsBehindSteps_26 (by decide) rfl ?_
        refine z_iconst (z := 0) F dX6_addStartsBehindSteps_28 (by decide) ?_
        refine z_istore F [(5, .int (zI 0)), (4, .int (zI ((s 13 v 0) + (zOff s ((s 10 v 0).toNat) (w.toNat + 1))))), (0, .ref 0), (1, .ref (64 * v + 14)), (2, .ref (64 * a + 10)), (3, .int (zI w))] dX6_addStartsBehindSteps_29 (by decide) rfl ?_
        have L2 : ∀ (fuel : Nat) (u : Int) (c : Nat → Int), (s 5 a 0 - u).toNat < fuel → 0 ≤ u → u ≤ s 5 a 0 → (∀ m, c m = 0 ∨ c m = 1) → (∀ x, zHd o.2 x → zHd c x) → (∀ (p q : Nat), ((p : Int) < w ∨ ((p : Int) = w ∧ (q : Int) < u)) → q < zSc s a → ¬ s 6 (s 10 v 0).toNat p = -1 → ¬ s 6 a q = -1 → zHd c (s 13 v 0 + zOff s (s 10 v 0).toNat (p + 1) - zOff s a q)) → zJ k G rX6_addStartsBehindSteps 6 (zMQ k G rX6_addStartsBehindSteps (zRv (fun M2 => ∃ c9 : Nat → Int, M2 = zAll s t (o.1, c9) ∧ (∀ m, c9 m = 0 ∨ c9 m = 1) ∧ (∀ x, zHd o.2 x → zHd c9 x) ∧ ∀ x, zCd1 s v a x → zHd c9 x)) zN) (zAll s t (o.1, c)) 0 0 31 [(0, .ref 0), (1, .ref (64 * v + 14)), (2, .ref (64 * a + 10)), (3, .int (zI w)), (4, .int (zI (s 13 v 0 + zOff s (s 10 v 0).toNat (w.toNat + 1)))), (5, .int (zI u))] [] := by
          intro fuel
          induction fuel with
          | zero => intros; omega
          | succ fuel L2_ih =>
            intro u c hfuel hu1 hu2 hc01 hkeep hu5
            refine z_iload F 5 dX6_addStartsBehindSteps_31 rfl ?_
            refine z_aload_n F 2 dX6_addStartsBehindSteps_33 rfl rfl ?_
            refine z_get F fl_X6_103 (zAll_s t (o.1, c) (i := a) (by omega)) rfl dX6_addStartsBehindSteps_34 ?_
            refine z_icmp_ge F 82 dX6_addStartsBehindSteps_37 (by decide) (by omega) (by omega) (fun c_3 => ?_) (fun c_3 => ?_)
            · skip
              refine z_iinc F 3 [(3, .int (zI (w + 1))), (0, .ref 0), (1, .ref (64 * v + 14)), (2, .ref (64 * a + 10)), (4, .int (zI (s 13 v 0 + zOff s (s 10 v 0).toNat (w.toNat + 1)))), (5, .int (zI u))] dX6_addStartsBehindSteps_82 rfl (by decide) rfl ?_
              refine z_goto F 2 dX6_addStartsBehindSteps_85 (by decide) ?_
              refine z_lv [(0, .ref 0), (1, .ref (64 * v + 14)), (2, .ref (64 * a + 10)), (3, .int (zI (w + 1)))] [1, 2, 3, 0] rfl ?_
              exact L1_ih (w + 1) c (by omega) (by omega) (by omega) hc01 hkeep (fun p q h1 h2 h3 h4 => hu5 p q (by omega) (by omega) h3 h4)
            · skip
              refine z_aload_n F 1 dX6_addStartsBehindSteps_40 rfl rfl ?_
              refine z_get F fl_X6_151 (zAll_v t (o.1, c) (i := v) (by omega)) rfl dX6_addStartsBehindSteps_41 ?_
              refine z_iload_n F 3 dX6_addStartsBehindSteps_44 rfl rfl ?_
              refine z_callV F [.int (zI w)] [] (c_X4_isRest F.2.2.1 G (a := w) (by omega) (zAll s t (o.1, c)) (zAll_s t (o.1, c) (i := (s 10 v 0).toNat) (by omega)) (zAll_s1 t (o.1, c) (i := (s 10 v 0).toNat) (by omega)) (zAll_s2 t (o.1, c) (i := (s 10 v 0).toNat) (by omega)) (zAll_s3 t (o.1, c) (i := (s 10 v 0).toNat) (by omega)) (zss_r hc ((s 10 v 0).toNat))) cv_X6_221 (zAll_s t (o.1, c) (i := (s 10 v 0).toNat) (by omega)) rfl rfl rfl ⟨by decide, by decide⟩ ⟨by decide, by decide⟩ (Nat.le_of_ble_eq_true rfl) dX6_addStartsBehindSteps_45 z_nx (z_ki (fun x_4 M_4 h_4 => ?_))
              have hx9 := (h_4).1.symm
              have hm9 := (h_4).2.symm
              subst hx9
              subst hm9
              have hz : zR (if ((0 ≤ w ∧ w < 5) ∧ (if (((w.toNat : Nat)) : Int) < s 5 ((s 10 v 0).toNat) 0 then s 6 ((s 10 v 0).toNat) w.toNat else 0) = -1) then 1 else 0) := zR_if
              refine z_if_ne F 76 dX6_addStartsBehindSteps_48 (by decide) (by omega) (fun c_5 => ?_) (fun c_5 => ?_)
              · skip
                have hrw : s 6 ((s 10 v 0).toNat) w.toNat = -1 := by
                  have h9 : ((0 ≤ w ∧ w < 5) ∧ (if (((w.toNat : Nat)) : Int) < s 5 ((s 10 v 0).toNat) 0 then s 6 ((s 10 v 0).toNat) w.toNat else 0) = -1) := Classical.byContradiction fun h => by rw [if_neg h] at c_5; omega
                  have h8 := h9.2
                  rwa [if_pos (by omega)] at h8
                refine z_iinc F 5 [(5, .int (zI (u + 1))), (0, .ref 0), (1, .ref (64 * v + 14)), (2, .ref (64 * a + 10)), (3, .int (zI w)), (4, .int (zI (s 13 v 0 + zOff s (s 10 v 0).toNat (w.toNat + 1))))] dX6_addStartsBehindSteps_76 rfl (by decide) rfl ?_
                refine z_goto F 31 dX6_addStartsBehindSteps_79 (by decide) ?_
                refine z_lv [(0, .ref 0), (1, .ref (64 * v + 14)), (2, .ref (64 * a + 10)), (3, .int (zI w)), (4, .int (zI (s 13 v 0 + zOff s (s 10 v 0).toNat (w.toNat + 1)))), (5, .int (zI (u + 1)))] [1, 2, 3, 4, 5, 0] rfl ?_
                exact L2_ih (u + 1) c (by omega) (by omega) (by omega) (by first | exact z01_up hc01 | exact hc01) (by first | exact fun x h => zHd_up (hkeep x h) | exact hkeep) (fun p q h1 h2 h3 h4 => by rcases (show ((p : Int) < w ∨ ((p : Int) = w ∧ (q : Int) < u)) ∨ (p = w.toNat ∧ q = u.toNat) by omega) with h9 | ⟨h9, h8⟩; (first | exact zHd_up (hu5 p q h9 h2 h3 h4) | exact hu5 p q h9 h2 h3 h4); subst h9; subst h8; (first | exact absurd hrw h3 | exact absurd hru h4 | exact zHd_new))
              · skip
                have hrw : ¬ s 6 ((s 10 v 0).toNat) w.toNat = -1 := fun h => by
                  rw [if_pos ⟨⟨by omega, by omega⟩, by rw [if_pos (by omega)]; exact h⟩] at c_5
                  omega
                refine z_aload_n F 2 dX6_addStartsBehindSteps_51 rfl rfl ?_
                refine z_iload F 5 dX6_addStartsBehindSteps_52 rfl ?_
                refine z_callV F [.int (zI u)] [] (c_X4_isRest F.2.2.1 G (a := u) (by omega) (zAll s t (o.1, c)) (zAll_s t (o.1, c) (i := a) (by omega)) (zAll_s1 t (o.1, c) (i := a) (by omega)) (zAll_s2 t (o.1, c) (i := a) (by omega)) (zAll_s3 t (o.1, c) (i := a) (by omega)) (zss_r hc a)) cv_X6_221 (zAll_s t (o.1, c) (i := a) (by omega)) rfl rfl rfl ⟨by decide, by decide⟩ ⟨by decide, by decide⟩ (Nat.le_of_ble_eq_true rfl) dX6_addStartsBehindSteps_54 z_nx (z_ki (fun x_6 M_6 h_6 => ?_))
                have hx9 := (h_6).1.symm
                have hm9 := (h_6).2.symm
                subst hx9
                subst hm9
                have hz : zR (if ((0 ≤ u ∧ u < 5) ∧ (if (((u.toNat : Nat)) : Int) < s 5 a 0 then s 6 a u.toNat else 0) = -1) then 1 else 0) := zR_if
                refine z_if_ne F 76 dX6_addStartsBehindSteps_57 (by decide) (by omega) (fun c_7 => ?_) (fun c_7 => ?_)
                · skip
                  have hru : s 6 a u.toNat = -1 := by
                    have h9 : ((0 ≤ u ∧ u < 5) ∧ (if (((u.toNat : Nat)) : Int) < s 5 a 0 then s 6 a u.toNat else 0) = -1) := Classical.byContradiction fun h => by rw [if_neg h] at c_7; omega
                    have h8 := h9.2
                    rwa [if_pos (by omega)] at h8
                  refine z_iinc F 5 [(5, .int (zI (u + 1))), (0, .ref 0), (1, .ref (64 * v + 14)), (2, .ref (64 * a + 10)), (3, .int (zI w)), (4, .int (zI (s 13 v 0 + zOff s (s 10 v 0).toNat (w.toNat + 1))))] dX6_addStartsBehindSteps_76 rfl (by decide) rfl ?_
                  refine z_goto F 31 dX6_addStartsBehindSteps_79 (by decide) ?_
                  refine z_lv [(0, .ref 0), (1, .ref (64 * v + 14)), (2, .ref (64 * a + 10)), (3, .int (zI w)), (4, .int (zI (s 13 v 0 + zOff s (s 10 v 0).toNat (w.toNat + 1)))), (5, .int (zI (u + 1)))] [1, 2, 3, 4, 5, 0] rfl ?_
                  exact L2_ih (u + 1) c (by omega) (by omega) (by omega) (by first | exact z01_up hc01 | exact hc01) (by first | exact fun x h => zHd_up (hkeep x h) | exact hkeep) (fun p q h1 h2 h3 h4 => by rcases (show ((p : Int) < w ∨ ((p : Int) = w ∧ (q : Int) < u)) ∨ (p = w.toNat ∧ q = u.toNat) by omega) with h9 | ⟨h9, h8⟩; (first | exact zHd_up (hu5 p q h9 h2 h3 h4) | exact hu5 p q h9 h2 h3 h4); subst h9; subst h8; (first | exact absurd hrw h3 | exact absurd hru h4 | exact zHd_new))
                · skip
                  have hru : ¬ s 6 a u.toNat = -1 := fun h => by
                    rw [if_pos ⟨⟨by omega, by omega⟩, by rw [if_pos (by omega)]; exact h⟩] at c_7
                    omega
                  refine z_aload_n F 0 dX6_addStartsBehindSteps_60 rfl rfl ?_
                  refine z_get F fl_X6_35 (zAll_0 s t (o.1, c)) rfl dX6_addStartsBehindSteps_61 ?_
                  refine z_iload F 4 dX6_addStartsBehindSteps_64 rfl ?_
                  refine z_aload_n F 2 dX6_addStartsBehindSteps_66 rfl rfl ?_
                  refine z_iload F 5 dX6_addStartsBehindSteps_67 rfl ?_
                  refine z_callV F [.int (zI u)] [.int (zI (s 13 v 0 + zOff s (s 10 v 0).toNat (w.toNat + 1))), .ref 4] (c_X4_stepFrom F.2.2.1 G (a := u) (by omega) (zAll s t (o.1, c)) (zAll_s t (o.1, c) (i := a) (by omega)) (zAll_s1 t (o.1, c) (i := a) (by omega)) (zAll_s2 t (o.1, c) (i := a) (by omega)) (zAll_s3 t (o.1, c) (i := a) (by omega))) cv_X6_224 (zAll_s t (o.1, c) (i := a) (by omega)) rfl rfl rfl ⟨by decide, by decide⟩ ⟨by decide, by decide⟩ (Nat.le_of_ble_eq_true rfl) dX6_addStartsBehindSteps_69 z_nx (z_ki (fun x_8 M_8 h_8 => ?_))
                  have hx9 := (h_8).1.symm
                  have hm9 := (h_8).2.symm
                  subst hx9
                  subst hm9
                  refine z_ti (y := zOff s a u.toNat) (by rw [if_pos (show 0 ≤ u ∧ u < 5 by omega)]; exact if_pos (by omega)) ?_
                  refine z_isub F dX6_addStartsBehindSteps_72 ?_
                  have ho2 := hc.off a u.toNat
                  refine z_callV F [.int (zI ((s 13 v 0 + zOff s (s 10 v 0).toNat (w.toNat + 1)) - (zOff s a u.toNat)))] [] (c_msadd F.2.2.1 G (o := (o.1, c)) (by omega)) cv_X6_299 (zAll_4 s t (o.1, c)) rfl rfl rfl ⟨by decide, by decide⟩ ⟨by decide, by decide⟩ (Nat.le_of_ble_eq_true rfl) dX6_addStartsBehindSteps_73 z_nx (z_kv (fun M_9 h_9 => ?_))
                  have hm9 := (h_9).symm
                  subst hm9
                  refine z_iinc F 5 [(5, .int (zI (u + 1))), (0, .ref 0), (1, .ref (64 * v + 14)), (2, .ref (64 * a + 10)), (3, .int (zI w)), (4, .int (zI (s 13 v 0 + zOff s (s 10 v 0).toNat (w.toNat + 1))))] dX6_addStartsBehindSteps_76 rfl (by decide) rfl ?_
                  refine z_goto F 31 dX6_addStartsBehindSteps_79 (by decide) ?_
                  refine z_lv [(0, .ref 0), (1, .ref (64 * v + 14)), (2, .ref (64 * a + 10)), (3, .int (zI w)), (4, .int (zI (s 13 v 0 + zOff s (s 10 v 0).toNat (w.toNat + 1)))), (5, .int (zI (u + 1)))] [1, 2, 3, 4, 5, 0] rfl ?_
                  exact L2_ih (u + 1) (if 0 ≤ s 13 v 0 + zOff s (s 10 v 0).toNat (w.toNat + 1) - zOff s a u.toNat ∧ s 13 v 0 + zOff s (s 10 v 0).toNat (w.toNat + 1) - zOff s a u.toNat < 600 then zup c (s 13 v 0 + zOff s (s 10 v 0).toNat (w.toNat + 1) - zOff s a u.toNat).toNat 1 else c) (by omega) (by omega) (by omega) (by first | exact z01_up hc01 | exact hc01) (by first | exact fun x h => zHd_up (hkeep x h) | exact hkeep) (fun p q h1 h2 h3 h4 => by rcases (show ((p : Int) < w ∨ ((p : Int) = w ∧ (q : Int) < u)) ∨ (p = w.toNat ∧ q = u.toNat) by omega) with h9 | ⟨h9, h8⟩; (first | exact zHd_up (hu5 p q h9 h2 h3 h4) | exact hu5 p q h9 h2 h3 h4); subst h9; subst h8; (first | exact absurd hrw h3 | exact absurd hru h4 | exact zHd_new))
        refine z_lv [(0, .ref 0), (1, .ref (64 * v + 14)), (2, .ref (64 * a + 10)), (3, .int (zI w)), (4, .int (zI ((s 13 v 0) + (zOff s ((s 10 v 0).toNat) (w.toNat + 1))))), (5, .int (zI 0))] [2, 3, 4, 5, 1, 0] rfl ?_
        exact L2 _ 0 c (Nat.lt_succ_self _) (by omega) (by omega) hw3 hw4 (fun p q h1 h2 h3 h4 => hw5 p q (by omega) h2 h3 h4)
  refine z_lv [(0, .ref 0), (1, .ref (64 * v + 14)), (2, .ref (64 * a + 10)), (3, .int (zI 0))] [1, 2, 3, 0] rfl ?_
  refine z_M (M' := zAll s t (o.1, o.2)) rfl ?_
  exact L1 _ 0 o.2 (Nat.lt_succ_self _) (by omega) (by omega) h01 (fun x h => h) (fun p q h => by omega)

def zCand (s : zS) (a : Nat) (f x : Int) : Prop := x = f ∨ (∃ i : Nat, (i : Int) < s 0 0 0 ∧ x = s 2 i 0) ∨ ∃ v : Nat, (v : Int) < s 9 0 0 ∧ ¬ s 13 v 0 = -1 ∧ (x = s 13 v 0 + zLen s (s 10 v 0).toNat ∨ zCd1 s v a x)
/-- the searches may leave out the other starts -/
def zHc (s : zS) (wo a : Nat) (f : Int) : Prop := ∀ x, f ≤ x → x + zLen s a ≤ 600 → zRoomB s (zBit wo) a x = true → (∀ y, f ≤ y → y < x → zRoomB s (zBit wo) a y = false) → zCand s a f x
abbrev rX6_gatherCandidates : Room := { frames := 3, cells := 0, slots := 0, locals := 66 }
set_option maxRecDepth 100000 in
set_option maxHeartbeats 4000000 in
theorem c_X6_gatherCandidates {l : Launch} (hfl : l.stackTraces = false) (G : zG) {s t : zS} {o : zOx} (hc : zC1 s) (hb9 : zB s) {a : Nat} {x : Int} (ha : (a : Int) < s 4 0 0) (hxr : zR x) : zCn l G yX6_gatherCandidates (.code yX6_gatherCandidates cX6_gatherCandidates 5 none) rX6_gatherCandidates [.ref 0, .ref (64 * a + 10), .int (zI x)] (zAll s t o) (zRv (fun M2 => ∃ c9 : Nat → Int, M2 = zAll s t (o.1, c9) ∧ (∀ m, c9 m = 0 ∨ c9 m = 1) ∧ ∀ y, zCand s a x y → zHd c9 y)) zN := by
  refine zStart hfl (by decide) (own := RX6) rfl [(0, .ref 0), (1, .ref (64 * a + 10)), (2, .int (zI x))] (Nat.le_of_ble_eq_true rfl) rfl (fun k hkl hinit hk0 F => ?_)
  have hn0 := hc.1
  have hn4 := hc.2.1
  have hn9 := hc.2.2.1
  have hn14 := hc.2.2.2.1
  have hn18 := hc.2.2.2.2.1
  refine z_aload_n F 0 dX6_gatherCandidates_0 rfl rfl ?_
  refine z_get F fl_X6_35 (zAll_0 s t o) rfl dX6_gatherCandidates_1 ?_
  refine z_callV F [] [] (c_X2_clear F.2.2.1 G (zAll s t o) (zAll_4 s t o) (zAll_5 s t o) (by decide)) cv_X6_296 (zAll_4 s t o) rfl rfl rfl ⟨by decide, by decide⟩ ⟨by decide, by decide⟩ (Nat.le_of_ble_eq_true rfl) dX6_gatherCandidates_4 z_nx (z_kv (fun M_1 h_1 => ?_))
  have hm9 := (h_1).symm
  rw [zAll_ch] at hm9
  subst hm9
  refine z_aload_n F 0 dX6_gatherCandidates_7 rfl rfl ?_
  refine z_get F fl_X6_35 (zAll_0 s t (o.1, fun _ => 0)) rfl dX6_gatherCandidates_8 ?_
  refine z_iload_n F 2 dX6_gatherCandidates_11 rfl rfl ?_
  refine z_callV F [.int (zI x)] [] (c_msadd F.2.2.1 G (t := t) (o := (o.1, fun _ => 0)) hxr) cv_X6_299 (zAll_4 s t (o.1, fun _ => 0)) rfl rfl rfl ⟨by decide, by decide⟩ ⟨by decide, by decide⟩ (Nat.le_of_ble_eq_true rfl) dX6_gatherCandidates_12 z_nx (z_kv (fun M_2 h_2 => ?_))
  have hm9 := (h_2).symm
  subst hm9
  refine z_iconst (z := 0) F dX6_gatherCandidates_15 (by decide) ?_
  refine z_istore_n F [(3, .int (zI 0)), (0, .ref 0), (1, .ref (64 * a + 10)), (2, .int (zI x))] dX6_gatherCandidates_16 rfl (by decide) rfl ?_
  have L1 : ∀ (fuel : Nat) (w : Int) (c : Nat → Int), (s 0 0 0 - w).toNat < fuel → 0 ≤ w → w ≤ s 0 0 0 → (∀ m, c m = 0 ∨ c m = 1) → zHd c x → (∀ i : Nat, (i : Int) < w → zHd c (s 2 i 0)) → zJ k G rX6_gatherCandidates 5 (zMQ k G rX6_gatherCandidates (zRv (fun M2 => ∃ c9 : Nat → Int, M2 = zAll s t (o.1, c9) ∧ (∀ m, c9 m = 0 ∨ c9 m = 1) ∧ ∀ y, zCand s a x y → zHd c9 y)) zN) (zAll s t (o.1, c)) 0 0 17 [(0, .ref 0), (1, .ref (64 * a + 10)), (2, .int (zI x)), (3, .int (zI w))] [] := by
    intro fuel
    induction fuel with
    | zero => intros; omega
    | succ fuel L1_ih =>
      intro w c hfuel hw1 hw2 hw3 hw4 hw5
      refine z_iload_n F 3 dX6_gatherCandidates_17 rfl rfl ?_
      refine z_aload_n F 0 dX6_gatherCandidates_18 rfl rfl ?_
      refine z_get F fl_X6_10 (zAll_0 s t (o.1, c)) rfl dX6_gatherCandidates_19 ?_
      refine z_callV F [] [.int (zI w)] (c_Jx4a65c_size_8abf5 F.2.2.1 G (zAll s t (o.1, c)) (zAll_1 s t (o.1, c))) cv_X6_52 (zAll_1 s t (o.1, c)) rfl rfl rfl ⟨by decide, by decide⟩ ⟨by decide, by decide⟩ (Nat.le_of_ble_eq_true rfl) dX6_gatherCandidates_22 z_nx (z_ki (fun x_3 M_3 h_3 => ?_))
      have hx9 := (h_3).1.symm
      have hm9 := (h_3).2.symm
      subst hx9
      subst hm9
      refine z_icmp_ge F 55 dX6_gatherCandidates_25 (by decide) (by omega) (by omega) (fun c_4 => ?_) (fun c_4 => ?_)
      · skip
        refine z_iconst (z := 0) F dX6_gatherCandidates_55 (by decide) ?_
        refine z_istore_n F [(3, .int (zI 0)), (0, .ref 0), (1, .ref (64 * a + 10)), (2, .int (zI x))] dX6_gatherCandidates_56 rfl (by decide) rfl ?_
        have L2 : ∀ (fuel : Nat) (w : Int) (c : Nat → Int), (s 9 0 0 - w).toNat < fuel → 0 ≤ w → w ≤ s 9 0 0 → (∀ m, c m = 0 ∨ c m = 1) → zHd c x → (∀ i : Nat, (i : Int) < s 0 0 0 → zHd c (s 2 i 0)) → (∀ v : Nat, (v : Int) < w → ¬ s 13 v 0 = -1 → ∀ y, (y = s 13 v 0 + zLen s (s 10 v 0).toNat ∨ zCd1 s v a y) → zHd c y) → zJ k G rX6_gatherCandidates 5 (zMQ k G rX6_gatherCandidates (zRv (fun M2 => ∃ c9 : Nat → Int, M2 = zAll s t (o.1, c9) ∧ (∀ m, c9 m = 0 ∨ c9 m = 1) ∧ ∀ y, zCand s a x y → zHd c9 y)) zN) (zAll s t (o.1, c)) 0 0 57 [(0, .ref 0), (1, .ref (64 * a + 10)), (2, .int (zI x)), (3, .int (zI w))] [] := by
          intro fuel
          induction fuel with
          | zero => intros; omega
          | succ fuel L2_ih =>
            intro w c hfuel hv1 hv2 hv3 hv4 hv5 hv6
            refine z_iload_n F 3 dX6_gatherCandidates_57 rfl rfl ?_
            refine z_aload_n F 0 dX6_gatherCandidates_58 rfl rfl ?_
            refine z_get F fl_X6_19 (zAll_0 s t (o.1, c)) rfl dX6_gatherCandidates_59 ?_
            refine z_callV F [] [.int (zI w)] (c_Jx4a65c_size_8abf5 F.2.2.1 G (zAll s t (o.1, c)) (zAll_129 s t (o.1, c))) cv_X6_52 (zAll_129 s t (o.1, c)) rfl rfl rfl ⟨by decide, by decide⟩ ⟨by decide, by decide⟩ (Nat.le_of_ble_eq_true rfl) dX6_gatherCandidates_62 z_nx (z_ki (fun x_5 M_5 h_5 => ?_))
            have hx9 := (h_5).1.symm
            have hm9 := (h_5).2.symm
            subst hx9
            subst hm9
            refine z_icmp_ge F 123 dX6_gatherCandidates_65 (by decide) (by omega) (by omega) (fun c_6 => ?_) (fun c_6 => ?_)
            · skip
              exact z_retv F rfl (by first | decide | assumption | omega) (by first | decide | assumption | omega) dX6_gatherCandidates_123 ⟨rfl, c, rfl, hv3, fun y hy => by rcases hy with rfl | ⟨i, h1, rfl⟩ | ⟨v, h1, h2, h3⟩; exact hv4; exact hv5 i h1; exact hv6 v (by omega) h2 y h3⟩
            · skip
              refine z_aload_n F 0 dX6_gatherCandidates_68 rfl rfl ?_
              refine z_get F fl_X6_19 (zAll_0 s t (o.1, c)) rfl dX6_gatherCandidates_69 ?_
              refine z_iload_n F 3 dX6_gatherCandidates_72 rfl rfl ?_
              refine z_callV F [.int (zI w)] [] (g_v F.2.2.1 G (t := t) (o := (o.1, c)) hc (i := w) (by omega) (by omega)) cv_X6_99 (zAll_129 s t (o.1, c)) rfl rfl rfl ⟨by decide, by decide⟩ ⟨by decide, by decide⟩ (Nat.le_of_ble_eq_true rfl) dX6_gatherCandidates_73 z_nx (z_kr (fun x_7 M_7 h_7 => ?_))
              have hx9 := (h_7).1.symm
              have hm9 := (h_7).2.symm
              subst hx9
              subst hm9
              refine z_cast (ci := 6) F (zr_10 _ (List.mem_of_getElem? (i := 9) rfl)) (zAll_v t (o.1, c) (i := w.toNat) (by omega)) rfl dX6_gatherCandidates_76 ?_
              refine z_astore F [(4, .ref (64 * w.toNat + 14)), (0, .ref 0), (1, .ref (64 * a + 10)), (2, .int (zI x)), (3, .int (zI w))] dX6_gatherCandidates_79 (by decide) rfl ?_
              refine z_aload F 0 dX6_gatherCandidates_81 rfl ?_
              refine z_callV F [] [] (c_X5_isDropped F.2.2.1 G (hb9.r 13 w.toNat 0) (zAll s t (o.1, c)) (zAll_v t (o.1, c) (by omega))) cv_X6_249 (zAll_v t (o.1, c) (i := w.toNat) (by omega)) rfl rfl rfl ⟨by decide, by decide⟩ ⟨by decide, by decide⟩ (Nat.le_of_ble_eq_true rfl) dX6_gatherCandidates_83 z_nx (z_ki (fun x_8 M_8 h_8 => ?_))
              have hx9 := (h_8).1.symm
              have hm9 := (h_8).2.symm
              subst hx9
              subst hm9
              have hz : zR (if s 13 w.toNat 0 = -1 then 1 else 0) := zR_if
              have hvs := hc.2.2.2.2.2.2.2.2.2.2.1 w.toNat (by omega)
              have hva : (((s 10 w.toNat 0).toNat : Nat) : Int) < s 4 0 0 := by omega
              have hlv := hc.len (s 10 w.toNat 0).toNat
              have hb13 := hb9 13 w.toNat 0
              refine z_if_ne F 117 dX6_gatherCandidates_86 (by decide) (by omega) (fun c_9 => ?_) (fun c_9 => ?_)
              · skip
                have hdr : s 13 w.toNat 0 = -1 := Classical.byContradiction fun h => by rw [if_neg h] at c_9; omega
                refine z_iinc F 4 [(3, .int (zI (w + 1))), (4, .ref (64 * w.toNat + 14)), (0, .ref 0), (1, .ref (64 * a + 10)), (2, .int (zI x))] dX6_gatherCandidates_117 rfl (by decide) rfl ?_
                refine z_goto F 57 dX6_gatherCandidates_120 (by decide) ?_
                refine z_lv [(0, .ref 0), (1, .ref (64 * a + 10)), (2, .int (zI x)), (3, .int (zI (w + 1)))] [2, 3, 4, 0] rfl ?_
                exact L2_ih (w + 1) c (by omega) (by omega) (by omega) (by first | exact hk1 | exact hv3) (by first | exact hk2 x (zHd_up hv4) | exact hv4) (by first | exact fun i h => hk2 _ (zHd_up (hv5 i h)) | exact hv5) (fun v h h1 y h2 => by rcases (show (v : Int) < w ∨ v = w.toNat by omega) with h9 | h9; (first | exact hk2 _ (zHd_up (hv6 v h9 h1 y h2)) | exact hv6 v h9 h1 y h2); subst h9; (first | exact absurd hdr h1 | (rcases h2 with rfl | h2; exact hk2 _ zHd_new; exact hk3 _ h2)))
              · skip
                have hdr : ¬ s 13 w.toNat 0 = -1 := fun h => by rw [if_pos h] at c_9; omega
                refine z_aload_n F 1 dX6_gatherCandidates_89 rfl rfl ?_
                refine z_get F fl_X6_35 (zAll_0 s t (o.1, c)) rfl dX6_gatherCandidates_90 ?_
                refine z_aload F 0 dX6_gatherCandidates_93 rfl ?_
                refine z_get F fl_X6_144 (zAll_v t (o.1, c) (i := w.toNat) (by omega)) rfl dX6_gatherCandidates_95 ?_
                refine z_aload F 0 dX6_gatherCandidates_98 rfl ?_
                refine z_get F fl_X6_151 (zAll_v t (o.1, c) (i := w.toNat) (by omega)) rfl dX6_gatherCandidates_100 ?_
                refine z_get F fl_X6_186 (zAll_s t (o.1, c) (i := (s 10 w.toNat 0).toNat) (by omega)) rfl dX6_gatherCandidates_103 ?_
                refine z_iadd F dX6_gatherCandidates_106 ?_
                refine z_callV F [.int (zI ((s 13 w.toNat 0) + (zLen s ((s 10 w.toNat 0).toNat))))] [] (c_msadd F.2.2.1 G (t := t) (o := (o.1, c)) (by omega)) cv_X6_299 (zAll_4 s t (o.1, c)) rfl rfl rfl ⟨by decide, by decide⟩ ⟨by decide, by decide⟩ (Nat.le_of_ble_eq_true rfl) dX6_gatherCandidates_107 z_nx (z_kv (fun M_10 h_10 => ?_))
                have hm9 := (h_10).symm
                subst hm9
                refine z_aload_n F 1 dX6_gatherCandidates_110 rfl rfl ?_
                refine z_aload F 0 dX6_gatherCandidates_111 rfl ?_
                refine z_aload_n F 2 dX6_gatherCandidates_113 rfl rfl ?_
                refine z_callV F [.ref (64 * w.toNat + 14), .ref (64 * a + 10)] [] (c_X6_addStartsBehindSteps F.2.2.1 G (t := t) (o := (o.1, if 0 ≤ s 13 w.toNat 0 + zLen s (s 10 w.toNat 0).toNat ∧ s 13 w.toNat 0 + zLen s (s 10 w.toNat 0).toNat < 600 then zup c (s 13 w.toNat 0 + zLen s (s 10 w.toNat 0).toNat).toNat 1 else c)) hc hb9 (v := w.toNat) (by omega) ha (z01_up hv3)) cv_X6_304 (zAll_0 s t (o.1, if 0 ≤ s 13 w.toNat 0 + zLen s (s 10 w.toNat 0).toNat ∧ s 13 w.toNat 0 + zLen s (s 10 w.toNat 0).toNat < 600 then zup c (s 13 w.toNat 0 + zLen s (s 10 w.toNat 0).toNat).toNat 1 else c)) rfl rfl rfl ⟨by decide, by decide⟩ ⟨by decide, by decide⟩ (Nat.le_of_ble_eq_true rfl) dX6_gatherCandidates_114 z_nx (z_kv (fun M_11 h_11 => ?_))
                obtain ⟨ck, hm9, hk1, hk2, hk3⟩ := h_11
                subst hm9
                dsimp only at hk2
                refine z_iinc F 4 [(3, .int (zI (w + 1))), (4, .ref (64 * w.toNat + 14)), (0, .ref 0), (1, .ref (64 * a + 10)), (2, .int (zI x))] dX6_gatherCandidates_117 rfl (by decide) rfl ?_
                refine z_goto F 57 dX6_gatherCandidates_120 (by decide) ?_
                refine z_lv [(0, .ref 0), (1, .ref (64 * a + 10)), (2, .int (zI x)), (3, .int (zI (w + 1)))] [2, 3, 4, 0] rfl ?_
                exact L2_ih (w + 1) ck (by omega) (by omega) (by omega) (by first | exact hk1 | exact hv3) (by first | exact hk2 x (zHd_up hv4) | exact hv4) (by first | exact fun i h => hk2 _ (zHd_up (hv5 i h)) | exact hv5) (fun v h h1 y h2 => by rcases (show (v : Int) < w ∨ v = w.toNat by omega) with h9 | h9; (first | exact hk2 _ (zHd_up (hv6 v h9 h1 y h2)) | exact hv6 v h9 h1 y h2); subst h9; (first | exact absurd hdr h1 | (rcases h2 with rfl | h2; exact hk2 _ zHd_new; exact hk3 _ h2)))
        refine z_lv [(0, .ref 0), (1, .ref (64 * a + 10)), (2, .int (zI x)), (3, .int (zI 0))] [1, 2, 3, 0] rfl ?_
        exact L2 _ 0 c (Nat.lt_succ_self _) (by omega) (by omega) hw3 hw4 (fun i h => hw5 i (by omega)) (fun v h => by omega)
      · skip
        refine z_aload_n F 0 dX6_gatherCandidates_28 rfl rfl ?_
        refine z_get F fl_X6_35 (zAll_0 s t (o.1, c)) rfl dX6_gatherCandidates_29 ?_
        refine z_aload_n F 0 dX6_gatherCandidates_32 rfl rfl ?_
        refine z_get F fl_X6_10 (zAll_0 s t (o.1, c)) rfl dX6_gatherCandidates_33 ?_
        refine z_iload_n F 3 dX6_gatherCandidates_36 rfl rfl ?_
        refine z_callV F [.int (zI w)] [.ref 4] (g_m F.2.2.1 G (t := t) (o := (o.1, c)) hc (i := w) (by omega) (by omega)) cv_X6_99 (zAll_1 s t (o.1, c)) rfl rfl rfl ⟨by decide, by decide⟩ ⟨by decide, by decide⟩ (Nat.le_of_ble_eq_true rfl) dX6_gatherCandidates_37 z_nx (z_kr (fun x_12 M_12 h_12 => ?_))
        have hx9 := (h_12).1.symm
        have hm9 := (h_12).2.symm
        subst hx9
        subst hm9
        refine z_cast (ci := 2) F (zr_3 _ (List.mem_of_getElem? (i := 19) rfl)) (zAll_m t (o.1, c) (i := w.toNat) (by omega)) rfl dX6_gatherCandidates_40 ?_
        refine z_get F fl_X6_301 (zAll_m t (o.1, c) (i := w.toNat) (by omega)) rfl dX6_gatherCandidates_43 ?_
        have hb2 := hb9 2 w.toNat 0
        refine z_callV F [.int (zI (s 2 w.toNat 0))] [] (c_msadd F.2.2.1 G (t := t) (o := (o.1, c)) (by omega)) cv_X6_299 (zAll_4 s t (o.1, c)) rfl rfl rfl ⟨by decide, by decide⟩ ⟨by decide, by decide⟩ (Nat.le_of_ble_eq_true rfl) dX6_gatherCandidates_46 z_nx (z_kv (fun M_13 h_13 => ?_))
        have hm9 := (h_13).symm
        subst hm9
        refine z_iinc F 3 [(3, .int (zI (w + 1))), (0, .ref 0), (1, .ref (64 * a + 10)), (2, .int (zI x))] dX6_gatherCandidates_49 rfl (by decide) rfl ?_
        refine z_goto F 17 dX6_gatherCandidates_52 (by decide) ?_
        refine z_lv [(0, .ref 0), (1, .ref (64 * a + 10)), (2, .int (zI x)), (3, .int (zI (w + 1)))] [1, 2, 3, 0] rfl ?_
        exact L1_ih (w + 1) (if 0 ≤ s 2 w.toNat 0 ∧ s 2 w.toNat 0 < 600 then zup c (s 2 w.toNat 0).toNat 1 else c) (by omega) (by omega) (by omega) (z01_up hw3) (zHd_up hw4) (fun i h => by rcases (show (i : Int) < w ∨ i = w.toNat by omega) with h9 | h9; exact zHd_up (hw5 i h9); subst h9; exact zHd_new)
  refine z_lv [(0, .ref 0), (1, .ref (64 * a + 10)), (2, .int (zI x)), (3, .int (zI 0))] [1, 2, 3, 0] rfl ?_
  exact L1 _ 0 (if 0 ≤ x ∧ x < 600 then zup (fun _ => 0) (x).toNat 1 else fun _ => 0) (Nat.lt_succ_self _) (by omega) (by omega) (z01_up (fun _ => Or.inl rfl)) zHd_new (fun i h => by omega)

abbrev rX6_firstStart : Room := { frames := 6, cells := 0, slots := 0, locals := 138 }
set_option maxRecDepth 100000 in
set_option maxHeartbeats 4000000 in
theorem c_X6_firstStart {l : Launch} (hfl : l.stackTraces = false) (G : zG) {s t : zS} {o : zOx} (hc : zC1 s) (hb9 : zB s) {a wo : Nat} {x : Int} (ha : (a : Int) < s 4 0 0) (hwo : wo < 2 ^ 31) (hx : 0 ≤ x ∧ x ≤ 600) (hcd : zHc s wo a x) : zCn l G yX6_firstStart (.code yX6_firstStart cX6_firstStart 5 (some .int)) rX6_firstStart [.ref 0, .ref (64 * a + 10), .int (zI ((wo : Nat))), .int (zI x)] (zAll s t o) (zRi (fun xr M2 => xr = zFind s (zBit wo) a x 600 ∧ ∃ c9 : Nat → Int, M2 = zAll s t (o.1, c9) ∧ (∀ m, c9 m = 0 ∨ c9 m = 1))) zN := by
  refine zStart hfl (by decide) (own := RX6) rfl [(0, .ref 0), (1, .ref (64 * a + 10)), (2, .int (zI ((wo : Nat)))), (3, .int (zI x))] (Nat.le_of_ble_eq_true rfl) rfl (fun k hkl hinit hk0 F => ?_)
  have hn0 := hc.1
  have hn4 := hc.2.1
  have hn9 := hc.2.2.1
  have hn14 := hc.2.2.2.1
  have hn18 := hc.2.2.2.2.1
  have hln := hc.len a
  have hl1 := hc.2.2.2.2.2.2.2.2.2.2.2.2.2.2 a ha
  refine z_aload_n F 0 dX6_firstStart_0 rfl rfl ?_
  refine z_aload_n F 1 dX6_firstStart_1 rfl rfl ?_
  refine z_iload_n F 3 dX6_firstStart_2 rfl rfl ?_
  refine z_callV F [.ref (64 * a + 10), .int (zI x)] [] (c_X6_gatherCandidates F.2.2.1 G (t := t) (o := o) hc hb9 ha (by omega)) cv_X6_286 (zAll_0 s t o) rfl rfl rfl ⟨by decide, by decide⟩ ⟨by decide, by decide⟩ (Nat.le_of_ble_eq_true rfl) dX6_firstStart_3 z_nx (z_kv (fun M_1 h_1 => ?_))
  obtain ⟨c, hm9, hk1, hk2⟩ := h_1
  subst hm9
  refine z_iload_n F 3 dX6_firstStart_6 rfl rfl ?_
  refine z_istore F [(4, .int (zI x)), (0, .ref 0), (1, .ref (64 * a + 10)), (2, .int (zI ((wo : Nat)))), (3, .int (zI x))] dX6_firstStart_7 (by decide) rfl ?_
  have L1 : ∀ (fuel : Nat) (w : Int), (1001 - w).toNat < fuel → x ≤ w → w ≤ 1000 → zFind s (zBit wo) a x 600 = zFind s (zBit wo) a w 600 → (∀ y, x ≤ y → y < w → zRoomB s (zBit wo) a y = false) → zJ k G rX6_firstStart 5 (zMQ k G rX6_firstStart (zRi (fun xr M2 => xr = zFind s (zBit wo) a x 600 ∧ ∃ c9 : Nat → Int, M2 = zAll s t (o.1, c9) ∧ (∀ m, c9 m = 0 ∨ c9 m = 1))) zN) (zAll s t (o.1, c)) 0 0 9 [(0, .ref 0), (1, .ref (64 * a + 10)), (2, .int (zI ((wo : Nat)))), (3, .int (zI x)), (4, .int (zI w))] [] := by
    intro fuel
    induction fuel with
    | zero => intros; omega
    | succ fuel L1_ih =>
      intro w hfuel hw1 hw2 hw3 hw4
      refine z_iload F 4 dX6_firstStart_9 rfl ?_
      refine z_aload_n F 1 dX6_firstStart_11 rfl rfl ?_
      refine z_get F fl_X6_186 (zAll_s t (o.1, c) (i := a) (by omega)) rfl dX6_firstStart_12 ?_
      refine z_iadd F dX6_firstStart_15 ?_
      refine z_sipush (z := 600) F dX6_firstStart_16 (by decide) ?_
      refine z_icmp_gt F 54 dX6_firstStart_19 (by decide) (by omega) ⟨by decide, by decide⟩ (fun c_2 => ?_) (fun c_2 => ?_)
      · skip
        refine z_iconst (z := -1) F dX6_firstStart_54 (by decide) ?_
        exact z_reti F rfl (by first | decide | assumption | omega) (by first | decide | assumption | omega) dX6_firstStart_55 ⟨_, rfl, by rw [hw3, zScan_e (by omega)], c, rfl, hk1⟩
      · skip
        refine z_aload_n F 0 dX6_firstStart_22 rfl rfl ?_
        refine z_get F fl_X6_35 (zAll_0 s t (o.1, c)) rfl dX6_firstStart_23 ?_
        refine z_iload F 4 dX6_firstStart_26 rfl ?_
        refine z_callV F [.int (zI w)] [] (c_X2_has F.2.2.1 G (by omega) (zAll s t (o.1, c)) (zAll_4 s t (o.1, c)) (zAll_5 s t (o.1, c)) hk1) cv_X6_289 (zAll_4 s t (o.1, c)) rfl rfl rfl ⟨by decide, by decide⟩ ⟨by decide, by decide⟩ (Nat.le_of_ble_eq_true rfl) dX6_firstStart_28 z_nx (z_ki (fun x_3 M_3 h_3 => ?_))
        have hx9 := (h_3).1.symm
        have hm9 := (h_3).2.symm
        subst hx9
        subst hm9
        have hz : zR (if (0 ≤ w ∧ w < 600) ∧ c w.toNat ≠ 0 then 1 else 0) := zR_if
        refine z_if_eq F 48 dX6_firstStart_31 (by decide) (by omega) (fun c_4 => ?_) (fun c_4 => ?_)
        · skip
          have hhas : ¬ ((0 ≤ w ∧ w < 600) ∧ c w.toNat ≠ 0) := fun h => by rw [if_pos h] at c_4; omega
          have hrm : zRoomB s (zBit wo) a w = false := by
            cases h : zRoomB s (zBit wo) a w with
            | false => rfl
            | true =>
              have h8 := hk2 w (hcd w hw1 (by omega) h hw4)
              exact absurd ⟨⟨by omega, by omega⟩, by rw [h8 (by omega) (by omega)]; decide⟩ hhas
          refine z_iinc F 4 [(4, .int (zI (w + 1))), (0, .ref 0), (1, .ref (64 * a + 10)), (2, .int (zI ((wo : Nat)))), (3, .int (zI x))] dX6_firstStart_48 rfl (by decide) rfl ?_
          refine z_goto F 9 dX6_firstStart_51 (by decide) ?_
          refine z_lv [(0, .ref 0), (1, .ref (64 * a + 10)), (2, .int (zI ((wo : Nat)))), (3, .int (zI x)), (4, .int (zI (w + 1)))] [1, 2, 3, 4, 0] rfl ?_
          exact L1_ih (w + 1) (by omega) (by omega) (by omega) (hw3.trans (zScan_s (by omega) hln.1 hrm)) (fun y h1 h2 => by rcases (show y < w ∨ y = w by omega) with h9 | h9; exact hw4 y h1 h9; rw [h9]; exact hrm)
        · skip
          refine z_aload_n F 0 dX6_firstStart_34 rfl rfl ?_
          refine z_aload_n F 1 dX6_firstStart_35 rfl rfl ?_
          refine z_iload_n F 2 dX6_firstStart_36 rfl rfl ?_
          refine z_iload F 4 dX6_firstStart_37 rfl ?_
          refine z_callV F [.ref (64 * a + 10), .int (zI ((wo : Nat))), .int (zI w)] [] (c_X6_hasRoom F.2.2.1 G (t := t) (o := (o.1, c)) hc hb9 ha hwo (by omega)) cv_X6_292 (zAll_0 s t (o.1, c)) rfl rfl rfl ⟨by decide, by decide⟩ ⟨by decide, by decide⟩ (Nat.le_of_ble_eq_true rfl) dX6_firstStart_39 z_nx (z_ki (fun x_5 M_5 h_5 => ?_))
          have hx9 := (h_5).1.symm
          have hm9 := (h_5).2.symm
          subst hx9
          subst hm9
          have hz : zR (if zRoomB s (zBit wo) a w = true then 1 else 0) := zR_if
          refine z_if_eq F 48 dX6_firstStart_42 (by decide) (by omega) (fun c_6 => ?_) (fun c_6 => ?_)
          · skip
            have hrm : zRoomB s (zBit wo) a w = false := by
              cases h : zRoomB s (zBit wo) a w with
              | false => rfl
              | true => rw [if_pos h] at c_6; omega
            refine z_iinc F 4 [(4, .int (zI (w + 1))), (0, .ref 0), (1, .ref (64 * a + 10)), (2, .int (zI ((wo : Nat)))), (3, .int (zI x))] dX6_firstStart_48 rfl (by decide) rfl ?_
            refine z_goto F 9 dX6_firstStart_51 (by decide) ?_
            refine z_lv [(0, .ref 0), (1, .ref (64 * a + 10)), (2, .int (zI ((wo : Nat)))), (3, .int (zI x)), (4, .int (zI (w + 1)))] [1, 2, 3, 4, 0] rfl ?_
            exact L1_ih (w + 1) (by omega) (by omega) (by omega) (hw3.trans (zScan_s (by omega) hln.1 hrm)) (fun y h1 h2 => by rcases (show y < w ∨ y = w by omega) with h9 | h9; exact hw4 y h1 h9; rw [h9]; exact hrm)
          · skip
            have hrm : zRoomB s (zBit wo) a w = true := Classical.byContradiction fun h => by rw [if_neg h] at c_6; omega
            refine z_iload F 4 dX6_firstStart_45 rfl ?_
            exact z_reti F rfl (by first | decide | assumption | omega) (by first | decide | assumption | omega) dX6_firstStart_47 ⟨_, rfl, by rw [hw3, zScan_y (by omega) hln.1 hrm], c, rfl, hk1⟩
  refine z_lv [(0, .ref 0), (1, .ref (64 * a + 10)), (2, .int (zI ((wo : Nat)))), (3, .int (zI x)), (4, .int (zI x))] [1, 2, 3, 4, 0] rfl ?_
  exact L1 _ x (Nat.lt_succ_self _) (by omega) (by omega) rfl (fun y h1 h2 => by omega)

