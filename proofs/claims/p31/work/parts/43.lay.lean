/-! ===== the law: its script's numbers, and how it lays the book ===== -/
theorem zGd_P {s : zS} {a b : Nat} {k m : Int} (h : b ≠ a) (hg : zGd s b) : zGd (zOpP s a k m) b := by
  unfold zGd at hg ⊢
  rw [zP5n h, zSc_Pn h, zP6n h]
  exact hg
theorem zGd_N {s : zS} {b : Nat} (hg : zGd s b) : zGd (zOpN s) b := by
  have e : ∀ g, g ≠ 4 → zOpN s g = s g := fun g h => zsu_g h
  unfold zGd zSc at hg ⊢
  rw [e 5 (by decide), e 6 (by decide)]
  exact hg
/-- n steps so far, the first of them no rest -/
def zG0 (s : zS) (p n : Nat) : Prop := s 5 p 0 = (n : Int) ∧ s 6 p 0 ≠ -1
theorem zG0_1 {u : zS} {p : Nat} {k m : Int} (h5 : u 5 p 0 = 0) (hk : k ≠ -1) : zG0 (zOpP u p k m) p 1 := by
  refine ⟨by rw [zP5, h5]; rfl, ?_⟩
  rw [zP6, if_pos (by rw [h5]; rfl)]
  exact hk
theorem zG0_s {u : zS} {p n : Nat} {k m : Int} (h : zG0 u p n) (hn : 1 ≤ n) : zG0 (zOpP u p k m) p (n + 1) := by
  refine ⟨by rw [zP5, h.1]; omega, ?_⟩
  rw [zP6, if_neg (by rw [h.1]; omega)]
  exact h.2
theorem zGd_1 {u : zS} {p : Nat} {k m : Int} (h5 : u 5 p 0 = 0) (hk : k ≠ -1) : zGd (zOpP u p k m) p := by
  have h := zG0_1 (m := m) h5 hk
  refine ⟨by rw [h.1]; decide, h.2, ?_⟩
  rw [zSc_P (by omega), h5]
  exact h.2
theorem zGd_of {u : zS} {p n : Nat} {k m : Int} (h : zG0 u p n) (hn : 1 ≤ n) (hk : k ≠ -1) : zGd (zOpP u p k m) p := by
  have h1 := zG0_s (k := k) (m := m) h hn
  refine ⟨by rw [h1.1]; omega, h1.2, ?_⟩
  rw [zSc_P (by rw [h.1]; omega), Nat.add_sub_cancel, zP6, if_pos rfl]
  exact hk
theorem zUs_k {s : zS} (h : zInv s) {a : Int} (hn : s 4 0 0 < 8) (ha : 0 ≤ a ∧ a < 4) : zInv (zUs (zOpN s) (s 4 0 0).toNat a) ∧ zUs (zOpN s) (s 4 0 0).toNat a 0 0 0 = s 0 0 0 ∧ zUs (zOpN s) (s 4 0 0).toNat a 4 0 0 = s 4 0 0 + 1 ∧ zUs (zOpN s) (s 4 0 0).toNat a 18 0 0 = s 18 0 0 ∧ (∀ b : Nat, (b : Int) < s 4 0 0 → zGd s b → zGd (zUs (zOpN s) (s 4 0 0).toNat a) b) ∧ zGd (zUs (zOpN s) (s 4 0 0).toNat a) (s 4 0 0).toNat := by
  have h4 := h.c.2.1
  have h52 := h.2.2.2.1 (s 4 0 0).toNat (by omega)
  have hl : (((s 4 0 0).toNat : Nat) : Int) < s 4 0 0 + 1 := by omega
  have st : ∀ u k m, zInv u → u 4 0 0 = s 4 0 0 + 1 → u 8 (s 4 0 0).toNat 0 = 0 → u 5 (s 4 0 0).toNat 0 < 5 → -1 ≤ k ∧ k < 4 → 1 ≤ m ∧ m ≤ 200 → zInv (zOpP u (s 4 0 0).toNat k m) := fun u k m hu u4 u8 u5 hk hm => hu.step (by rw [u4]; exact hl) u8 u5 hk hm
  have f5 : ∀ u k m, zOpP u (s 4 0 0).toNat k m 5 (s 4 0 0).toNat 0 = u 5 (s 4 0 0).toNat 0 + 1 := fun u k m => zP5 u _ k m
  have i1 : ∀ k m, -1 ≤ k ∧ k < 4 → 1 ≤ m ∧ m ≤ 200 → zInv (zOpP (zOpN s) (s 4 0 0).toNat k m) := fun k m hk hm => h.svc hn hk hm
  have b5 : zOpN s 5 (s 4 0 0).toNat 0 = 0 := h52.1
  have hne : ∀ b : Nat, (b : Int) < s 4 0 0 → b ≠ (s 4 0 0).toNat := fun b hb => by omega
  rcases (show a = 0 ∨ a = 1 ∨ a = 2 ∨ a = 3 by omega) with e | e | e | e <;> subst e
  · exact ⟨st _ _ _ (i1 _ _ (by decide) (by decide)) rfl h52.2 (by rw [f5, b5]; decide) (by decide) (by decide), rfl, rfl, rfl, fun b hb hg => zGd_P (hne b hb) (zGd_P (hne b hb) (zGd_N hg)), zGd_of (zG0_1 b5 (by decide)) (by decide) (by decide)⟩
  · exact ⟨st _ _ _ (st _ _ _ (st _ _ _ (i1 _ _ (by decide) (by decide)) rfl h52.2 (by rw [f5, b5]; decide) (by decide) (by decide)) rfl h52.2 (by rw [f5, f5, b5]; decide) (by decide) (by decide)) rfl h52.2 (by rw [f5, f5, f5, b5]; decide) (by decide) (by decide), rfl, rfl, rfl, fun b hb hg => zGd_P (hne b hb) (zGd_P (hne b hb) (zGd_P (hne b hb) (zGd_P (hne b hb) (zGd_N hg)))), zGd_of (zG0_s (zG0_s (zG0_1 b5 (by decide)) (by decide)) (by decide)) (by decide) (by decide)⟩
  · exact ⟨st _ _ _ (st _ _ _ (i1 _ _ (by decide) (by decide)) rfl h52.2 (by rw [f5, b5]; decide) (by decide) (by decide)) rfl h52.2 (by rw [f5, f5, b5]; decide) (by decide) (by decide), rfl, rfl, rfl, fun b hb hg => zGd_P (hne b hb) (zGd_P (hne b hb) (zGd_P (hne b hb) (zGd_N hg))), zGd_of (zG0_s (zG0_1 b5 (by decide)) (by decide)) (by decide) (by decide)⟩
  · exact ⟨i1 _ _ (by decide) (by decide), rfl, rfl, rfl, fun b hb hg => zGd_P (hne b hb) (zGd_N hg), zGd_1 b5 (by decide)⟩
theorem zLay1 {d : zS} (hI : zInv d) (h4 : d 4 0 0 = 4) {a b : Int} (ha : 0 ≤ a ∧ a < 4) (hb : 1 ≤ b ∧ b ≤ 200) (hg : ∀ c : Nat, (c : Int) < 4 → zGd d c) : zInv (zOpP (zOpN d) (d 4 0 0).toNat a b) ∧ zOpP (zOpN d) (d 4 0 0).toNat a b 0 0 0 = d 0 0 0 ∧ zOpP (zOpN d) (d 4 0 0).toNat a b 4 0 0 = 5 ∧ zOpP (zOpN d) (d 4 0 0).toNat a b 18 0 0 = d 18 0 0 ∧ (∀ c : Nat, (c : Int) < 4 → zGd (zOpP (zOpN d) (d 4 0 0).toNat a b) c) ∧ zG0 (zOpP (zOpN d) (d 4 0 0).toNat a b) 4 1 ∧ zOpP (zOpN d) (d 4 0 0).toNat a b 8 4 0 = 0 := by
  have h52 := hI.2.2.2.1 4 (by omega)
  refine ⟨hI.svc (by omega) (by omega) hb, rfl, ?_, rfl, fun c hc => zGd_P (by omega) (zGd_N (hg c hc)), ?_, h52.2⟩
  · show d 4 0 0 + 1 = 5
    omega
  · rw [show (d 4 0 0).toNat = 4 by omega]
    exact zG0_1 h52.1 (by omega)
theorem zLay2 {e : zS} (hI : zInv e) (h4 : e 4 0 0 = 5) {n : Nat} (hn : 1 ≤ n ∧ n < 5) {b d : Int} (hb : -1 ≤ b ∧ b < 4) (hd : 1 ≤ d ∧ d ≤ 200) (hg : ∀ c : Nat, (c : Int) < 4 → zGd e c) (h0 : zG0 e 4 n) (h8 : e 8 4 0 = 0) : zInv (zOpP e (4 : Int).toNat b d) ∧ zOpP e (4 : Int).toNat b d 0 0 0 = e 0 0 0 ∧ zOpP e (4 : Int).toNat b d 4 0 0 = 5 ∧ zOpP e (4 : Int).toNat b d 18 0 0 = e 18 0 0 ∧ (∀ c : Nat, (c : Int) < 4 → zGd (zOpP e (4 : Int).toNat b d) c) ∧ zG0 (zOpP e (4 : Int).toNat b d) 4 (n + 1) ∧ zOpP e (4 : Int).toNat b d 8 4 0 = 0 ∧ (b ≠ -1 → zGd (zOpP e (4 : Int).toNat b d) 4) := by
  rw [show (4 : Int).toNat = 4 from rfl]
  have h5 := h0.1
  exact ⟨hI.step (by omega) h8 (by omega) hb hd, rfl, h4, rfl, fun c hc => zGd_P (by omega) (hg c hc), zG0_s h0 hn.1, h8, fun hb9 => zGd_of h0 hn.1 hb9⟩
abbrev rL_told : Room := { frames := 1, cells := 0, slots := 0, locals := 20 }
set_option maxRecDepth 100000 in
set_option maxHeartbeats 4000000 in
theorem c_L_told {l : Launch} (hfl : l.stackTraces = false) (G : zG) {M : zM} {j : Int} (h : 0 ≤ j ∧ j ≤ 100)  : zCn l G yL_told (.code yL_told cL_told 2 (some .int)) rL_told [.ref 127, .int (zI j)] M (zRi (fun xr M2 => (0 ≤ xr ∧ xr < 2147483648) ∧ M2 = M)) zN := by
  refine zStart hfl (by decide) (own := RL) rfl [(0, .ref 127), (1, .int (zI j))] (Nat.le_of_ble_eq_true rfl) rfl (fun k hkl hinit hk0 F => ?_)
  obtain ⟨n, xs, hX⟩ := z_scr F
  have hn := hX.2.2.2
  refine z_iload_n F 1 dL_told_0 rfl rfl ?_
  refine z_aload_n F 0 dL_told_1 rfl rfl ?_
  refine z_slen F hX dL_told_2 ?_
  refine z_icmp_ge F 12 dL_told_3 (by decide) (by omega) (by omega) (fun c_1 => ?_) (fun c_1 => ?_)
  · skip
    refine z_sipush (z := 22013) F dL_told_12 (by decide) ?_
    refine z_iload_n F 1 dL_told_15 rfl rfl ?_
    refine z_iconst (z := 4) F dL_told_16 (by decide) ?_
    refine z_iadd F dL_told_17 ?_
    refine z_imul F dL_told_18 ?_
    refine z_iload_n F 1 dL_told_19 rfl rfl ?_
    refine z_bipush (z := 13) F dL_told_20 (by decide) ?_
    refine z_iadd F dL_told_22 ?_
    refine z_imul F dL_told_23 ?_
    refine z_ldc (z := 2147483647) F (show Cond.constant RL 7 (zI 2147483647) ∈ wsL_law from zr_3 _ (List.mem_of_getElem? (i := 7) rfl)) dL_told_24 ?_
    obtain ⟨r, hr, er⟩ := zI_mask ((22013 * (j + 4)) * (j + 13))
    refine z_iand F r dL_told_26 er ?_
    exact z_reti F rfl (by first | decide | assumption | omega) (by first | decide | assumption | omega) dL_told_27 ⟨_, rfl, hr, rfl⟩
  · skip
    refine z_aload_n F 0 dL_told_6 rfl rfl ?_
    refine z_iload_n F 1 dL_told_7 rfl rfl ?_
    refine z_sld F hX (by omega) (by omega) dL_told_8 ?_
    refine z_goto F 24 dL_told_9 (by decide) ?_
    refine z_ldc (z := 2147483647) F (show Cond.constant RL 7 (zI 2147483647) ∈ wsL_law from zr_3 _ (List.mem_of_getElem? (i := 7) rfl)) dL_told_24 ?_
    obtain ⟨r, hr, er⟩ := zI_mask ((xs j.toNat).toInt)
    refine z_iand F r dL_told_26 er ?_
    exact z_reti F rfl (by first | decide | assumption | omega) (by first | decide | assumption | omega) dL_told_27 ⟨_, rfl, hr, rfl⟩

abbrev rL_lay : Room := { frames := 9, cells := 60, slots := 5330, locals := 235 }
set_option maxRecDepth 100000 in
set_option maxHeartbeats 4000000 in
theorem c_L_lay {l : Launch} (hfl : l.stackTraces = false) (G : zG) {s t : zS} {o : zOx} (hI : zInv s) {v : Int} (hv : 0 ≤ v ∧ v < 2147483648) (h0 : s 0 0 0 = 0) (h4 : s 4 0 0 = 0)  : zCn l G yL_lay (.code yL_lay cL_lay 5 none) rL_lay [.ref 0, .int (zI v)] (zAll s t o) (zRv (fun M2 => ∃ N : zS, M2 = zAll N t o ∧ zInv N ∧ N 0 0 0 = 1 + v % 4 ∧ N 4 0 0 = 5 ∧ (∀ b : Nat, b < 5 → zGd N b) ∧ N 18 0 0 = s 18 0 0)) zN := by
  refine zStart hfl (by decide) (own := RL) rfl [(0, .ref 0), (1, .int (zI v))] (Nat.le_of_ble_eq_true rfl) rfl (fun k hkl hinit hk0 F => ?_)
  refine z_iconst (z := 1) F dL_lay_0 (by decide) ?_
  refine z_iload_n F 1 dL_lay_1 rfl rfl ?_
  refine z_iconst (z := 4) F dL_lay_2 (by decide) ?_
  refine z_irem F (v % 4) ⟨by decide, by decide⟩ (by decide) (zI_rem (by omega) (by omega) (by decide) (by decide)) dL_lay_3 ?_
  refine z_iadd F dL_lay_4 ?_
  refine z_istore_n F [(2, .int (zI (1 + (v % 4)))), (0, .ref 0), (1, .int (zI v))] dL_lay_5 rfl (by decide) rfl ?_
  refine z_iconst (z := 0) F dL_lay_6 (by decide) ?_
  refine z_istore_n F [(3, .int (zI 0)), (2, .int (zI (1 + (v % 4)))), (0, .ref 0), (1, .int (zI v))] dL_lay_7 rfl (by decide) rfl ?_
  have L1 : ∀ (fuel : Nat) (c : zS) (w : Int), (5 - w).toNat < fuel → zInv c → c 0 0 0 = w → c 4 0 0 = 0 → c 18 0 0 = s 18 0 0 → 0 ≤ w → w ≤ 1 + v % 4 → zJ k G rL_lay 5 (zMQ k G rL_lay (zRv (fun M2 => ∃ N : zS, M2 = zAll N t o ∧ zInv N ∧ N 0 0 0 = 1 + v % 4 ∧ N 4 0 0 = 5 ∧ (∀ b : Nat, b < 5 → zGd N b) ∧ N 18 0 0 = s 18 0 0)) zN) (zAll c t o) (5 * w.toNat) (1240 * w.toNat) 8 [(0, .ref 0), (1, .int (zI v)), (2, .int (zI (1 + v % 4))), (3, .int (zI w))] [] := by
    intro fuel
    induction fuel with
    | zero => intros; omega
    | succ fuel L1_ih =>
      intro c w hfuel hIc h0c h4c h18c hw0 hw1
      refine z_iload_n F 3 dL_lay_8 rfl rfl ?_
      refine z_iload_n F 2 dL_lay_9 rfl rfl ?_
      refine z_icmp_ge F 78 dL_lay_10 (by decide) (by omega) (by omega) (fun c_1 => ?_) (fun c_1 => ?_)
      · skip
        have h0d : c 0 0 0 = 1 + v % 4 := by omega
        refine z_iconst (z := 0) F dL_lay_78 (by decide) ?_
        refine z_istore_n F [(3, .int (zI 0)), (0, .ref 0), (1, .int (zI v)), (2, .int (zI (1 + v % 4)))] dL_lay_79 rfl (by decide) rfl ?_
        have L2 : ∀ (fuel : Nat) (c : zS) (u : Int), (5 - u).toNat < fuel → zInv c → c 0 0 0 = 1 + v % 4 → c 4 0 0 = u → c 18 0 0 = s 18 0 0 → (∀ b : Nat, (b : Int) < u → zGd c b) → 0 ≤ u → u ≤ 4 → zJ k G rL_lay 5 (zMQ k G rL_lay (zRv (fun M2 => ∃ N : zS, M2 = zAll N t o ∧ zInv N ∧ N 0 0 0 = 1 + v % 4 ∧ N 4 0 0 = 5 ∧ (∀ b : Nat, b < 5 → zGd N b) ∧ N 18 0 0 = s 18 0 0)) zN) (zAll c t o) (20 + 6 * u.toNat) (4960 + 63 * u.toNat) 80 [(0, .ref 0), (1, .int (zI v)), (3, .int (zI u))] [] := by
          intro fuel
          induction fuel with
          | zero => intros; omega
          | succ fuel L2_ih =>
            intro c u hfuel hIc h0d h4c h18c hGd hw0u hw1u
            refine z_iload_n F 2 dL_lay_80 rfl rfl ?_
            refine z_iconst (z := 4) F dL_lay_81 (by decide) ?_
            refine z_icmp_ge F 97 dL_lay_82 (by decide) (by omega) ⟨by decide, by decide⟩ (fun c_2 => ?_) (fun c_2 => ?_)
            · skip
              have h4d : c 4 0 0 = 4 := by omega
              have hGd : ∀ b : Nat, (b : Int) < 4 → zGd c b := fun b hb9 => hGd b (by omega)
              refine z_aload_n F 0 dL_lay_97 rfl rfl ?_
              refine z_iload_n F 1 dL_lay_98 rfl rfl ?_
              refine z_iconst (z := 4) F dL_lay_99 (by decide) ?_
              refine z_irem F (v % 4) ⟨by decide, by decide⟩ (by decide) (zI_rem (by omega) (by omega) (by decide) (by decide)) dL_lay_100 ?_
              refine z_iconst (z := 5) F dL_lay_101 (by decide) ?_
              refine z_iload_n F 1 dL_lay_102 rfl rfl ?_
              refine z_iconst (z := 4) F dL_lay_103 (by decide) ?_
              refine z_idiv F (v / 4) ⟨by decide, by decide⟩ (by decide) (zI_div (by omega) (by omega) (by decide) (by decide)) dL_lay_104 ?_
              refine z_bipush (z := 60) F dL_lay_105 (by decide) ?_
              refine z_irem F ((v / 4) % 60) ⟨by decide, by decide⟩ (by decide) (zI_rem (by omega) (by omega) (by decide) (by decide)) dL_lay_107 ?_
              refine z_iadd F dL_lay_108 ?_
              refine z_callV F [.int (zI (v % 4)), .int (zI (5 + ((v / 4) % 60)))] [] (q_addService F.2.2.1 G (s := c) (t := t) (o := o) hIc (a := v % 4) (b := 5 + ((v / 4) % 60)) ⟨⟨by omega, by omega⟩, by omega, by omega⟩ (by omega)) cv_L_18 (zAll_0 c t o) rfl rfl rfl ⟨by decide, by decide⟩ ⟨show (20 + 6 * u.toNat) + 7 ≤ 60 by omega, show (4960 + 63 * u.toNat) + 69 ≤ 5330 by omega⟩ (Nat.le_of_ble_eq_true rfl) dL_lay_109 z_nx (z_ki (fun x_3 M_3 h_3 => ?_))
              have hx9 := (h_3).1.symm
              have hm9 := (h_3).2.symm
              subst hx9
              subst hm9
              obtain ⟨j1, j2, j3, j4, j5, j6, j7⟩ := zLay1 hIc h4d (a := v % 4) (b := 5 + ((v / 4) % 60)) ⟨by omega, by omega⟩ ⟨by omega, by omega⟩ hGd
              generalize zOpP (zOpN c) (c 4 0 0).toNat (v % 4) (5 + ((v / 4) % 60)) = e1 at j1 j2 j3 j4 j5 j6 j7 ⊢
              refine z_pop F dL_lay_112 rfl ?_
              refine z_aload_n F 0 dL_lay_113 rfl rfl ?_
              refine z_iconst (z := 4) F dL_lay_114 (by decide) ?_
              refine z_iconst (z := -1) F dL_lay_115 (by decide) ?_
              refine z_bipush (z := 10) F dL_lay_116 (by decide) ?_
              refine z_iload_n F 1 dL_lay_118 rfl rfl ?_
              refine z_bipush (z := 7) F dL_lay_119 (by decide) ?_
              refine z_idiv F (v / 7) ⟨by decide, by decide⟩ (by decide) (zI_div (by omega) (by omega) (by decide) (by decide)) dL_lay_121 ?_
              refine z_bipush (z := 50) F dL_lay_122 (by decide) ?_
              refine z_irem F ((v / 7) % 50) ⟨by decide, by decide⟩ (by decide) (zI_rem (by omega) (by omega) (by decide) (by decide)) dL_lay_124 ?_
              refine z_iadd F dL_lay_125 ?_
              refine z_callV F [.int (zI 4), .int (zI (-1)), .int (zI (10 + ((v / 7) % 50)))] [] (q_addStep F.2.2.1 G (s := e1) (t := t) (o := o) j1 (a := 4) (b := -1) (d := 10 + ((v / 7) % 50)) ⟨by omega, by omega⟩ ⟨by omega, by omega⟩ ⟨by rw [show (4 : Int).toNat = 4 from rfl, j6.1]; decide, j7⟩) cv_L_22 (zAll_0 e1 t o) rfl rfl rfl ⟨by decide, by decide⟩ ⟨show (20 + 6 * u.toNat) + 7 + 3 ≤ 60 by omega, show (4960 + 63 * u.toNat) + 69 + 18 ≤ 5330 by omega⟩ (Nat.le_of_ble_eq_true rfl) dL_lay_126 z_nx (z_ki (fun x_4 M_4 h_4 => ?_))
              have hx9 := (h_4).1.symm
              have hm9 := (h_4).2.symm
              subst hx9
              subst hm9
              obtain ⟨y1, y2, y3, y4, y5, y6, y7, y8⟩ := zLay2 j1 j3 (n := 1) (by decide) (b := -1) (d := 10 + ((v / 7) % 50)) ⟨by omega, by omega⟩ ⟨by omega, by omega⟩ j5 j6 j7
              generalize zOpP e1 (4 : Int).toNat (-1) (10 + ((v / 7) % 50)) = ye1 at y1 y2 y3 y4 y5 y6 y7 y8 ⊢
              refine z_pop F dL_lay_129 rfl ?_
              refine z_aload_n F 0 dL_lay_130 rfl rfl ?_
              refine z_iconst (z := 4) F dL_lay_131 (by decide) ?_
              refine z_iload_n F 1 dL_lay_132 rfl rfl ?_
              refine z_bipush (z := 9) F dL_lay_133 (by decide) ?_
              refine z_idiv F (v / 9) ⟨by decide, by decide⟩ (by decide) (zI_div (by omega) (by omega) (by decide) (by decide)) dL_lay_135 ?_
              refine z_iconst (z := 4) F dL_lay_136 (by decide) ?_
              refine z_irem F ((v / 9) % 4) ⟨by decide, by decide⟩ (by decide) (zI_rem (by omega) (by omega) (by decide) (by decide)) dL_lay_137 ?_
              refine z_iconst (z := 5) F dL_lay_138 (by decide) ?_
              refine z_iload_n F 1 dL_lay_139 rfl rfl ?_
              refine z_bipush (z := 11) F dL_lay_140 (by decide) ?_
              refine z_idiv F (v / 11) ⟨by decide, by decide⟩ (by decide) (zI_div (by omega) (by omega) (by decide) (by decide)) dL_lay_142 ?_
              refine z_bipush (z := 30) F dL_lay_143 (by decide) ?_
              refine z_irem F ((v / 11) % 30) ⟨by decide, by decide⟩ (by decide) (zI_rem (by omega) (by omega) (by decide) (by decide)) dL_lay_145 ?_
              refine z_iadd F dL_lay_146 ?_
              refine z_callV F [.int (zI 4), .int (zI ((v / 9) % 4)), .int (zI (5 + ((v / 11) % 30)))] [] (q_addStep F.2.2.1 G (s := ye1) (t := t) (o := o) y1 (a := 4) (b := (v / 9) % 4) (d := 5 + ((v / 11) % 30)) ⟨by omega, by omega⟩ ⟨by omega, by omega⟩ ⟨by rw [show (4 : Int).toNat = 4 from rfl, y6.1]; decide, y7⟩) cv_L_22 (zAll_0 ye1 t o) rfl rfl rfl ⟨by decide, by decide⟩ ⟨show (20 + 6 * u.toNat) + 7 + 3 + 3 ≤ 60 by omega, show (4960 + 63 * u.toNat) + 69 + 18 + 18 ≤ 5330 by omega⟩ (Nat.le_of_ble_eq_true rfl) dL_lay_147 z_nx (z_ki (fun x_5 M_5 h_5 => ?_))
              have hx9 := (h_5).1.symm
              have hm9 := (h_5).2.symm
              subst hx9
              subst hm9
              obtain ⟨x1, x2, x3, x4, x5, x6, x7, x8⟩ := zLay2 y1 y3 (n := 2) (by decide) (b := (v / 9) % 4) (d := 5 + ((v / 11) % 30)) ⟨by omega, by omega⟩ ⟨by omega, by omega⟩ y5 y6 y7
              generalize zOpP ye1 (4 : Int).toNat ((v / 9) % 4) (5 + ((v / 11) % 30)) = xe1 at x1 x2 x3 x4 x5 x6 x7 x8 ⊢
              refine z_pop F dL_lay_150 rfl ?_
              exact z_retv F rfl (show (20 + 6 * u.toNat) + 7 + 3 + 3 ≤ 60 by omega) (show (4960 + 63 * u.toNat) + 69 + 18 + 18 ≤ 5330 by omega) dL_lay_151 ⟨rfl, _, rfl, x1, x2.trans (y2.trans (j2.trans h0d)), x3, (fun b hb9 => by rcases (show (b : Int) < 4 ∨ b = 4 by omega) with e9 | e9; exact x5 b e9; rw [e9]; exact x8 (by omega)), x4.trans (y4.trans (j4.trans h18c))⟩
            · skip
              refine z_aload_n F 0 dL_lay_85 rfl rfl ?_
              refine z_iload_n F 2 dL_lay_86 rfl rfl ?_
              refine z_callV F [.int (zI u)] [] (q_addUsual F.2.2.1 G (s := c) (t := t) (o := o) hIc (a := u) ⟨by omega, by omega⟩ (by omega)) cv_L_14 (zAll_0 c t o) rfl rfl rfl ⟨by decide, by decide⟩ ⟨show (20 + 6 * u.toNat) + 6 ≤ 60 by omega, show (4960 + 63 * u.toNat) + 63 ≤ 5330 by omega⟩ (Nat.le_of_ble_eq_true rfl) dL_lay_87 z_nx (z_ki (fun x_6 M_6 h_6 => ?_))
              have hx9 := (h_6).1.symm
              have hm9 := (h_6).2.symm
              subst hx9
              subst hm9
              have hU := zUs_k hIc (a := u) (by omega) ⟨by omega, by omega⟩
              refine z_pop F dL_lay_90 rfl ?_
              refine z_iinc F 2 [(3, .int (zI (u + 1))), (0, .ref 0), (1, .int (zI v))] dL_lay_91 rfl (by decide) rfl ?_
              refine z_goto F 80 dL_lay_94 (by decide) ?_
              refine z_lv [(0, .ref 0), (1, .int (zI v)), (3, .int (zI (u + 1)))] [1, 2, 0] rfl ?_
              refine z_wd (20 + 6 * (u + 1).toNat) (4960 + 63 * (u + 1).toNat) (show (20 + 6 * u.toNat) + 6 ≤ (20 + 6 * (u + 1).toNat) by omega) (show (4960 + 63 * u.toNat) + 63 ≤ (4960 + 63 * (u + 1).toNat) by omega) ?_
              exact L2_ih ((zUs (zOpN c) (c 4 0 0).toNat u)) (u + 1) (by omega) hU.1 (hU.2.1.trans h0d) (hU.2.2.1.trans (by omega)) (hU.2.2.2.1.trans h18c) (fun b hb9 => by rcases (show (b : Int) < c 4 0 0 ∨ b = (c 4 0 0).toNat by omega) with e9 | e9; exact hU.2.2.2.2.1 b e9 (hGd b (by omega)); rw [e9]; exact hU.2.2.2.2.2) (by omega) (by omega)
        refine z_lv [(0, .ref 0), (1, .int (zI v)), (3, .int (zI 0))] [1, 2, 0] rfl ?_
        refine z_wd (20 + 6 * (0 : Int).toNat) (4960 + 63 * (0 : Int).toNat) (show 5 * w.toNat ≤ 20 + 6 * 0 by omega) (show 1240 * w.toNat ≤ 4960 + 63 * 0 by omega) ?_
        exact L2 _ c 0 (Nat.lt_succ_self _) hIc h0d h4c h18c (fun b hb9 => absurd hb9 (by omega)) (by omega) (by omega)
      · skip
        refine z_iload_n F 1 dL_lay_13 rfl rfl ?_
        refine z_iconst (z := 3) F dL_lay_14 (by decide) ?_
        refine z_iload_n F 3 dL_lay_15 rfl rfl ?_
        refine z_imul F dL_lay_16 ?_
        refine z_iconst (z := 2) F dL_lay_17 (by decide) ?_
        refine z_iadd F dL_lay_18 ?_
        obtain ⟨q1, hq1, eq1⟩ := zI_ushr (x := v) ((3 * w) + 2) (by omega) (by omega)
        refine z_iushr F q1 eq1 dL_lay_19 ?_
        refine z_sipush (z := 150) F dL_lay_20 (by decide) ?_
        refine z_irem F (q1 % 150) ⟨by decide, by decide⟩ (by decide) (zI_rem (by omega) (by omega) (by decide) (by decide)) dL_lay_23 ?_
        refine z_istore F [(4, .int (zI (q1 % 150))), (0, .ref 0), (1, .int (zI v)), (2, .int (zI (1 + v % 4))), (3, .int (zI w))] dL_lay_24 (by decide) rfl ?_
        refine z_aload_n F 1 dL_lay_26 rfl rfl ?_
        refine z_iload_n F 2 dL_lay_27 rfl rfl ?_
        refine z_iconst (z := 2) F dL_lay_28 (by decide) ?_
        refine z_iload_n F 4 dL_lay_29 rfl rfl ?_
        refine z_imul F dL_lay_30 ?_
        obtain ⟨q2, hq2, eq2⟩ := zI_ushr (x := v) (2 * w) (by omega) (by omega)
        refine z_iushr F q2 eq2 dL_lay_31 ?_
        refine z_iconst (z := 3) F dL_lay_32 (by decide) ?_
        refine z_irem F (q2 % 3) ⟨by decide, by decide⟩ (by decide) (zI_rem (by omega) (by omega) (by decide) (by decide)) dL_lay_33 ?_
        refine z_if_ne F 42 dL_lay_34 (by decide) (by omega) (fun c_7 => ?_) (fun c_7 => ?_)
        · skip
          refine z_iconst (z := 1) F dL_lay_42 (by decide) ?_
          refine z_iload_n F 2 dL_lay_43 rfl rfl ?_
          refine z_iload_n F 4 dL_lay_44 rfl rfl ?_
          obtain ⟨q3, hq3, eq3⟩ := zI_ushr (x := v) (w) (by omega) (by omega)
          refine z_iushr F q3 eq3 dL_lay_45 ?_
          refine z_bipush (z := 15) F dL_lay_46 (by decide) ?_
          refine z_irem F (q3 % 15) ⟨by decide, by decide⟩ (by decide) (zI_rem (by omega) (by omega) (by decide) (by decide)) dL_lay_48 ?_
          refine z_iadd F dL_lay_49 ?_
          refine z_iload F 0 dL_lay_50 rfl ?_
          refine z_iload F 0 dL_lay_52 rfl ?_
          refine z_sipush (z := 200) F dL_lay_54 (by decide) ?_
          refine z_iadd F dL_lay_57 ?_
          refine z_iload_n F 2 dL_lay_58 rfl rfl ?_
          refine z_iload_n F 4 dL_lay_59 rfl rfl ?_
          refine z_iconst (z := 4) F dL_lay_60 (by decide) ?_
          refine z_iadd F dL_lay_61 ?_
          obtain ⟨q4, hq4, eq4⟩ := zI_ushr (x := v) (w + 4) (by omega) (by omega)
          refine z_iushr F q4 eq4 dL_lay_62 ?_
          refine z_sipush (z := 251) F dL_lay_63 (by decide) ?_
          refine z_irem F (q4 % 251) ⟨by decide, by decide⟩ (by decide) (zI_rem (by omega) (by omega) (by decide) (by decide)) dL_lay_66 ?_
          refine z_iadd F dL_lay_67 ?_
          refine z_callV F [.int (zI (1 + (q3 % 15))), .int (zI (q1 % 150)), .int (zI (((q1 % 150) + 200) + (q4 % 251)))] [] (q_hire F.2.2.1 G (s := c) (t := t) (o := o) hIc (a := 1 + (q3 % 15)) (b := q1 % 150) (d := ((q1 % 150) + 200) + (q4 % 251)) ⟨by omega, by omega, by omega, by omega⟩ (by omega)) cv_L_8 (zAll_0 c t o) rfl rfl rfl ⟨by decide, by decide⟩ ⟨show (5 * w.toNat) + 5 ≤ 60 by omega, show (1240 * w.toNat) + 1240 ≤ 5330 by omega⟩ (Nat.le_of_ble_eq_true rfl) dL_lay_68 z_nx (z_ki (fun x_8 M_8 h_8 => ?_))
          have hx9 := (h_8).1.symm
          have hm9 := (h_8).2.symm
          subst hx9
          subst hm9
          refine z_pop F dL_lay_71 rfl ?_
          refine z_iinc F 4 [(3, .int (zI (w + 1))), (4, .int (zI (q1 % 150))), (0, .ref 0), (1, .int (zI v)), (2, .int (zI (1 + v % 4)))] dL_lay_72 rfl (by decide) rfl ?_
          refine z_goto F 8 dL_lay_75 (by decide) ?_
          refine z_lv [(0, .ref 0), (1, .int (zI v)), (2, .int (zI (1 + v % 4))), (3, .int (zI (w + 1)))] [2, 3, 4, 0] rfl ?_
          refine z_wd (5 * (w + 1).toNat) (1240 * (w + 1).toNat) (show (5 * w.toNat) + 5 ≤ (5 * (w + 1).toNat) by omega) (show (1240 * w.toNat) + 1240 ≤ (1240 * (w + 1).toNat) by omega) ?_
          exact L1_ih ((zOpH c (1 + (q3 % 15)) (q1 % 150) (((q1 % 150) + 200) + (q4 % 251)))) (w + 1) (by omega) (hIc.hire (by omega) (by omega) (by omega) (by omega)) (show c 0 0 0 + 1 = w + 1 by omega) h4c h18c (by omega) (by omega)
        · skip
          refine z_bipush (z := 15) F dL_lay_37 (by decide) ?_
          refine z_goto F 50 dL_lay_39 (by decide) ?_
          refine z_iload F 0 dL_lay_50 rfl ?_
          refine z_iload F 0 dL_lay_52 rfl ?_
          refine z_sipush (z := 200) F dL_lay_54 (by decide) ?_
          refine z_iadd F dL_lay_57 ?_
          refine z_iload_n F 2 dL_lay_58 rfl rfl ?_
          refine z_iload_n F 4 dL_lay_59 rfl rfl ?_
          refine z_iconst (z := 4) F dL_lay_60 (by decide) ?_
          refine z_iadd F dL_lay_61 ?_
          obtain ⟨q4, hq4, eq4⟩ := zI_ushr (x := v) (w + 4) (by omega) (by omega)
          refine z_iushr F q4 eq4 dL_lay_62 ?_
          refine z_sipush (z := 251) F dL_lay_63 (by decide) ?_
          refine z_irem F (q4 % 251) ⟨by decide, by decide⟩ (by decide) (zI_rem (by omega) (by omega) (by decide) (by decide)) dL_lay_66 ?_
          refine z_iadd F dL_lay_67 ?_
          refine z_callV F [.int (zI 15), .int (zI (q1 % 150)), .int (zI (((q1 % 150) + 200) + (q4 % 251)))] [] (q_hire F.2.2.1 G (s := c) (t := t) (o := o) hIc (a := 15) (b := q1 % 150) (d := ((q1 % 150) + 200) + (q4 % 251)) ⟨by omega, by omega, by omega, by omega⟩ (by omega)) cv_L_8 (zAll_0 c t o) rfl rfl rfl ⟨by decide, by decide⟩ ⟨show (5 * w.toNat) + 5 ≤ 60 by omega, show (1240 * w.toNat) + 1240 ≤ 5330 by omega⟩ (Nat.le_of_ble_eq_true rfl) dL_lay_68 z_nx (z_ki (fun x_9 M_9 h_9 => ?_))
          have hx9 := (h_9).1.symm
          have hm9 := (h_9).2.symm
          subst hx9
          subst hm9
          refine z_pop F dL_lay_71 rfl ?_
          refine z_iinc F 4 [(3, .int (zI (w + 1))), (4, .int (zI (q1 % 150))), (0, .ref 0), (1, .int (zI v)), (2, .int (zI (1 + v % 4)))] dL_lay_72 rfl (by decide) rfl ?_
          refine z_goto F 8 dL_lay_75 (by decide) ?_
          refine z_lv [(0, .ref 0), (1, .int (zI v)), (2, .int (zI (1 + v % 4))), (3, .int (zI (w + 1)))] [2, 3, 4, 0] rfl ?_
          refine z_wd (5 * (w + 1).toNat) (1240 * (w + 1).toNat) (show (5 * w.toNat) + 5 ≤ (5 * (w + 1).toNat) by omega) (show (1240 * w.toNat) + 1240 ≤ (1240 * (w + 1).toNat) by omega) ?_
          exact L1_ih ((zOpH c 15 (q1 % 150) (((q1 % 150) + 200) + (q4 % 251)))) (w + 1) (by omega) (hIc.hire (by omega) (by omega) (by omega) (by omega)) (show c 0 0 0 + 1 = w + 1 by omega) h4c h18c (by omega) (by omega)
  refine z_lv [(0, .ref 0), (1, .int (zI v)), (2, .int (zI (1 + (v % 4)))), (3, .int (zI 0))] [2, 3, 1, 0] rfl ?_
  refine z_wd (5 * (0 : Int).toNat) (1240 * (0 : Int).toNat) (by decide) (by decide) ?_
  exact L1 _ s 0 (Nat.lt_succ_self _) hI h0 h4 rfl (by omega) (by omega)

