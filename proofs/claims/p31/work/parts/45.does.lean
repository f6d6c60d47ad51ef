/-! ===== the law: one change, and what must hold of it ===== -/
theorem zSw_pos : ∀ (n : Nat) (c : zS) (p : Nat) (m : Int), m ≤ (zSw n c p m).2
  | 0, c, p, m => Int.le_refl m
  | n + 1, c, p, m => by
    rw [zSw]
    split
    · exact zSw_pos n c (p + 1) m
    · have h := zSw_pos n (zSwB c p) p (m + 1)
      omega
abbrev rL_does : Room := { frames := 10, cells := 6200, slots := 37300, locals := 269 }
set_option maxRecDepth 100000 in
set_option maxHeartbeats 4000000 in
theorem does_104 {k : zC} {G : zG} (F : zF k G cL_does 12 RL wsL_law (some .boolean) []) {s t : zS} {o : zOx} (hI : zInv s) (hob : ∀ m, o.2 m = 0 ∨ o.2 m = 1) (h4 : s 4 0 0 = 5) (hG : ∀ b : Nat, b < 5 → zGd s b) (h18 : s 18 0 0 < 1000) {v w a x : Int} (hv : 0 ≤ v ∧ v < 2147483648) (ha : 0 ≤ a ∧ a < 5) (hx : 0 ≤ x ∧ x < 400) : zJ k G rL_does 12 (zMQ k G rL_does (zRi (fun xr M2 => xr = 1 ∧ ∃ (N : zS) (ox : zOx), M2 = zAll N t ox ∧ zNx s N ∧ ∀ m, ox.2 m = 0 ∨ ox.2 m = 1)) zN) (zAll s t o) 1 6 104 [(0, .ref 0), (1, .int (zI v)), (2, .int (zI w)), (3, .int (zI a)), (4, .int (zI x))] [] := by
  refine z_aload_n F 0 dL_does_104 rfl rfl ?_
  refine z_iload_n F 3 dL_does_105 rfl rfl ?_
  refine z_iload F 4 dL_does_106 rfl ?_
  refine z_callV F [.int (zI a), .int (zI x)] [] (q_earliest F.2.2.1 G (s := s) (t := t) (o := o) hI (a := a) (x := x) ⟨⟨by omega, by omega⟩, by omega, by omega⟩) cv_L_32 (zAll_0 s t o) rfl rfl rfl ⟨by decide, by decide⟩ ⟨by decide, by decide⟩ (Nat.le_of_ble_eq_true rfl) dL_does_108 z_nx (z_ki (fun x_1 M_1 h_1 => ?_))
  obtain ⟨hx9, ck1, hm9, hck1⟩ := h_1
  subst hx9
  subst hm9
  have hfr := zFind_r s (zBit 31) a.toNat x 600
  have hlna := hI.c.len a.toNat
  have hn9 := hI.c.2.2.1
  have hrD : zR (zFind s (zBit 31) a.toNat x 600) := by rcases hfr with h9 | h9 <;> constructor <;> omega
  refine z_istore F [(7, .int (zI ((zFind s (zBit 31) a.toNat x 600)))), (0, .ref 0), (1, .int (zI v)), (2, .int (zI w)), (3, .int (zI a)), (4, .int (zI x))] dL_does_111 (by decide) rfl ?_
  refine z_aload_n F 1 dL_does_113 rfl rfl ?_
  refine z_iload_n F 4 dL_does_114 rfl rfl ?_
  refine z_iload F 5 dL_does_115 rfl ?_
  refine z_callV F [.int (zI a), .int (zI x)] [] (q_staffFor F.2.2.1 G (s := s) (t := t) (o := (o.1, ck1)) hI (a := a) (x := x) ⟨⟨by omega, by omega⟩, by omega, by omega⟩) cv_L_35 (zAll_0 s t (o.1, ck1)) rfl rfl rfl ⟨by decide, by decide⟩ ⟨by decide, by decide⟩ (Nat.le_of_ble_eq_true rfl) dL_does_117 z_nx (z_ki (fun x_2 M_2 h_2 => ?_))
  obtain ⟨hx9, ck2, hm9, hck2⟩ := h_2
  subst hx9
  subst hm9
  refine z_istore F [(8, .int (zI ((if (zFind s (zBit 31) a.toNat x 600) = -1 then -1 else (zGet s (zBit 31) a.toNat (zFind s (zBit 31) a.toNat x 600)))))), (7, .int (zI ((zFind s (zBit 31) a.toNat x 600)))), (0, .ref 0), (1, .int (zI v)), (2, .int (zI w)), (3, .int (zI a)), (4, .int (zI x))] dL_does_120 (by decide) rfl ?_
  refine z_iload F 1 dL_does_122 rfl ?_
  refine z_if_lt F 208 dL_does_124 (by decide) (by omega) (fun c_3 => ?_) (fun c_3 => ?_)
  · skip
    have hD : (zFind s (zBit 31) a.toNat x 600) = -1 := by rcases hfr with h9 | h9 <;> omega
    refine z_iload F 1 dL_does_208 rfl ?_
    refine z_if_ge F 217 dL_does_210 (by decide) (by omega) (fun c_4 => ?_) (fun c_4 => ?_)
    · skip
      exfalso; omega
    · skip
      refine z_iconst (z := 1) F dL_does_213 (by decide) ?_
      refine z_goto F 218 dL_does_214 (by decide) ?_
      refine z_iload F 0 dL_does_218 rfl ?_
      refine z_ti (y := (-1)) (if_pos hD) ?_
      refine z_if_ge F 227 dL_does_220 (by decide) (by omega) (fun c_5 => ?_) (fun c_5 => ?_)
      · skip
        exact absurd c_5 (by decide)
      · skip
        refine z_iconst (z := 1) F dL_does_223 (by decide) ?_
        refine z_goto F 228 dL_does_224 (by decide) ?_
        refine z_icmp_eq F 240 dL_does_228 (by decide) ⟨by decide, by decide⟩ ⟨by decide, by decide⟩ (fun c_6 => ?_) (fun c_6 => ?_)
        · skip
          refine z_iconst (z := 1) F dL_does_240 (by decide) ?_
          refine z_goto F 245 dL_does_241 (by decide) ?_
          exact z_retz F rfl (by decide) (by first | decide | assumption | omega) (by first | decide | assumption | omega) dL_does_245 ⟨_, rfl, rfl, s, _, rfl, zNx_rf hI, hck2⟩
        · skip
          exact absurd rfl c_6
  · skip
    have hD : ¬ (zFind s (zBit 31) a.toNat x 600) = -1 := by omega
    have hfo := (zFind_r s (zBit 31) a.toNat x 600).resolve_left hD
    have hro := hfo.2.2
    rw [zRoomB, Bool.and_eq_true, decide_eq_true_iff, decide_eq_true_iff] at hro
    have hgr := zGet_r hI.c (zBit 31) a.toNat (zFind s (zBit 31) a.toNat x 600)
    have hld := hI.load (zGet s (zBit 31) a.toNat (zFind s (zBit 31) a.toNat x 600)).toNat
    rw [show (((zGet s (zBit 31) a.toNat (zFind s (zBit 31) a.toNat x 600)).toNat : Nat) : Int) = (zGet s (zBit 31) a.toNat (zFind s (zBit 31) a.toNat x 600)) by omega] at hld
    have hrl := zTk_r (s 21 ((zGet s (zBit 31) a.toNat (zFind s (zBit 31) a.toNat x 600)).toNat + 4)) 600
    have hwk := hI.c.work a.toNat
    have hn0 := hI.c.1
    refine z_aload_n F 2 dL_does_127 rfl rfl ?_
    refine z_callV F [] [] (c_X6_visits F.2.2.1 G (s := s) (t := t) (o := (o.1, ck2)) hI.c hI.b) cv_L_25 (zAll_0 s t (o.1, ck2)) rfl rfl rfl ⟨by decide, by decide⟩ ⟨by decide, by decide⟩ (Nat.le_of_ble_eq_true rfl) dL_does_128 z_nx (z_ki (fun x_7 M_7 h_7 => ?_))
    have hx9 := (h_7).1.symm
    have hm9 := (h_7).2.symm
    subst hx9
    subst hm9
    refine z_bipush (z := 30) F dL_does_131 (by decide) ?_
    refine z_icmp_ge F 208 dL_does_133 (by decide) (by omega) ⟨by decide, by decide⟩ (fun c_8 => ?_) (fun c_8 => ?_)
    · skip
      refine z_iload F 1 dL_does_208 rfl ?_
      refine z_if_ge F 217 dL_does_210 (by decide) (by omega) (fun c_9 => ?_) (fun c_9 => ?_)
      · skip
        refine z_iconst (z := 0) F dL_does_217 (by decide) ?_
        refine z_iload F 0 dL_does_218 rfl ?_
        refine z_ti (y := (zGet s (zBit 31) a.toNat (zFind s (zBit 31) a.toNat x 600))) (if_neg hD) ?_
        refine z_if_ge F 227 dL_does_220 (by decide) (by omega) (fun c_10 => ?_) (fun c_10 => ?_)
        · skip
          refine z_iconst (z := 0) F dL_does_227 (by decide) ?_
          refine z_icmp_eq F 240 dL_does_228 (by decide) ⟨by decide, by decide⟩ ⟨by decide, by decide⟩ (fun c_11 => ?_) (fun c_11 => ?_)
          · skip
            refine z_iconst (z := 1) F dL_does_240 (by decide) ?_
            refine z_goto F 245 dL_does_241 (by decide) ?_
            exact z_retz F rfl (by decide) (by first | decide | assumption | omega) (by first | decide | assumption | omega) dL_does_245 ⟨_, rfl, rfl, s, _, rfl, zNx_rf hI, hck2⟩
          · skip
            exact absurd rfl c_11
        · skip
          exfalso; omega
      · skip
        exfalso; omega
    · skip
      refine z_aload_n F 2 dL_does_136 rfl rfl ?_
      refine z_iload F 0 dL_does_137 rfl ?_
      refine z_ti (y := (zGet s (zBit 31) a.toNat (zFind s (zBit 31) a.toNat x 600))) (if_neg hD) ?_
      refine z_callV F [.int (zI ((zGet s (zBit 31) a.toNat (zFind s (zBit 31) a.toNat x 600))))] [] (q_loadOf F.2.2.1 G (s := s) (t := t) (o := (o.1, ck2)) hI (a := (zGet s (zBit 31) a.toNat (zFind s (zBit 31) a.toNat x 600))) ⟨by omega, by omega⟩) cv_L_38 (zAll_0 s t (o.1, ck2)) rfl rfl rfl ⟨by decide, by decide⟩ ⟨by decide, by decide⟩ (Nat.le_of_ble_eq_true rfl) dL_does_139 z_nx (z_ki (fun x_12 M_12 h_12 => ?_))
      have hx9 := (h_12).1.symm
      have hm9 := (h_12).2.symm
      subst hx9
      subst hm9
      refine z_istore F [(9, .int (zI (zLoad s ((zGet s (zBit 31) a.toNat (zFind s (zBit 31) a.toNat x 600)))))), (8, .int (zI ((if (zFind s (zBit 31) a.toNat x 600) = -1 then -1 else (zGet s (zBit 31) a.toNat (zFind s (zBit 31) a.toNat x 600)))))), (7, .int (zI ((zFind s (zBit 31) a.toNat x 600)))), (0, .ref 0), (1, .int (zI v)), (2, .int (zI w)), (3, .int (zI a)), (4, .int (zI x))] dL_does_142 (by decide) rfl ?_
      refine z_aload_n F 3 dL_does_144 rfl rfl ?_
      refine z_iload_n F 6 dL_does_145 rfl rfl ?_
      refine z_iload F 7 dL_does_146 rfl ?_
      refine z_callV F [.int (zI a), .int (zI x)] [] (q_book F.2.2.1 G (s := s) (t := t) (o := (o.1, ck2)) hI (a := a) (x := x) ⟨⟨by omega, by omega⟩, by omega, by omega⟩ (by omega) hD) cv_L_41 (zAll_0 s t (o.1, ck2)) rfl rfl rfl ⟨by decide, by decide⟩ ⟨by decide, by decide⟩ (Nat.le_of_ble_eq_true rfl) dL_does_148 z_nx (z_ki (fun x_13 M_13 h_13 => ?_))
      obtain ⟨hx9, ck3, hm9, hck3⟩ := h_13
      subst hx9
      subst hm9
      have hI2 : zInv (zOpB s a.toNat (zGet s (zBit 31) a.toNat (zFind s (zBit 31) a.toNat x 600)) (zChair s a.toNat (zFind s (zBit 31) a.toNat x 600)) (zFind s (zBit 31) a.toNat x 600)) := hI.bookB (by omega) (by omega) (by omega) hfo.2.1 hfo.2.2
      have hN : zNx s (zOpB s a.toNat (zGet s (zBit 31) a.toNat (zFind s (zBit 31) a.toNat x 600)) (zChair s a.toNat (zFind s (zBit 31) a.toNat x 600)) (zFind s (zBit 31) a.toNat x 600)) := ⟨hI2, fun g hg => zOpB_g (Or.inl hg), by rw [zOpB_g (by omega)]; omega⟩
      have e9 : (zOpB s a.toNat (zGet s (zBit 31) a.toNat (zFind s (zBit 31) a.toNat x 600)) (zChair s a.toNat (zFind s (zBit 31) a.toNat x 600)) (zFind s (zBit 31) a.toNat x 600)) 9 0 0 = s 9 0 0 + 1 := zOpB_9
      have e0 : (zOpB s a.toNat (zGet s (zBit 31) a.toNat (zFind s (zBit 31) a.toNat x 600)) (zChair s a.toNat (zFind s (zBit 31) a.toNat x 600)) (zFind s (zBit 31) a.toNat x 600)) 0 0 0 = s 0 0 0 := by rw [zOpB_g (by omega)]
      have e4 : (zOpB s a.toNat (zGet s (zBit 31) a.toNat (zFind s (zBit 31) a.toNat x 600)) (zChair s a.toNat (zFind s (zBit 31) a.toNat x 600)) (zFind s (zBit 31) a.toNat x 600)) 4 0 0 = s 4 0 0 := by rw [zOpB_g (by omega)]
      have e13 : (zOpB s a.toNat (zGet s (zBit 31) a.toNat (zFind s (zBit 31) a.toNat x 600)) (zChair s a.toNat (zFind s (zBit 31) a.toNat x 600)) (zFind s (zBit 31) a.toNat x 600)) 13 (s 9 0 0).toNat 0 = (zFind s (zBit 31) a.toNat x 600) := zOpB_13
      have e11 : (zOpB s a.toNat (zGet s (zBit 31) a.toNat (zFind s (zBit 31) a.toNat x 600)) (zChair s a.toNat (zFind s (zBit 31) a.toNat x 600)) (zFind s (zBit 31) a.toNat x 600)) 11 (s 9 0 0).toNat 0 = (zGet s (zBit 31) a.toNat (zFind s (zBit 31) a.toNat x 600)) := zOpB_11
      have e10 : (zOpB s a.toNat (zGet s (zBit 31) a.toNat (zFind s (zBit 31) a.toNat x 600)) (zChair s a.toNat (zFind s (zBit 31) a.toNat x 600)) (zFind s (zBit 31) a.toNat x 600)) 10 (s 9 0 0).toNat 0 = (a.toNat : Nat) := zOpB_10
      have eL : zLoad (zOpB s a.toNat (zGet s (zBit 31) a.toNat (zFind s (zBit 31) a.toNat x 600)) (zChair s a.toNat (zFind s (zBit 31) a.toNat x 600)) (zFind s (zBit 31) a.toNat x 600)) (zGet s (zBit 31) a.toNat (zFind s (zBit 31) a.toNat x 600)) = zLoad s (zGet s (zBit 31) a.toNat (zFind s (zBit 31) a.toNat x 600)) + zWork s a.toNat := zLoad_B hI.c.2.2.1.1 hD
      have eW : zWork (zOpB s a.toNat (zGet s (zBit 31) a.toNat (zFind s (zBit 31) a.toNat x 600)) (zChair s a.toNat (zFind s (zBit 31) a.toNat x 600)) (zFind s (zBit 31) a.toNat x 600)) a.toNat = zWork s a.toNat := (zSvc_f hN.2.1 a.toNat).2.2.2.1
      generalize (zOpB s a.toNat (zGet s (zBit 31) a.toNat (zFind s (zBit 31) a.toNat x 600)) (zChair s a.toNat (zFind s (zBit 31) a.toNat x 600)) (zFind s (zBit 31) a.toNat x 600)) = N at hI2 hN e9 e0 e4 e13 e11 e10 eL eW ⊢
      refine z_istore F [(10, .int (zI (s 9 0 0))), (9, .int (zI (zLoad s ((zGet s (zBit 31) a.toNat (zFind s (zBit 31) a.toNat x 600)))))), (8, .int (zI ((if (zFind s (zBit 31) a.toNat x 600) = -1 then -1 else (zGet s (zBit 31) a.toNat (zFind s (zBit 31) a.toNat x 600)))))), (7, .int (zI ((zFind s (zBit 31) a.toNat x 600)))), (0, .ref 0), (1, .int (zI v)), (2, .int (zI w)), (3, .int (zI a)), (4, .int (zI x))] dL_does_151 (by decide) rfl ?_
      refine z_aload_n F 4 dL_does_153 rfl rfl ?_
      refine z_iload F 0 dL_does_154 rfl ?_
      refine z_callV F [.int (zI (s 9 0 0))] [] (q_startOf F.2.2.1 G (s := N) (t := t) (o := (o.1, ck3)) hI2 (a := s 9 0 0) ⟨by omega, by omega⟩) cv_L_29 (zAll_0 N t (o.1, ck3)) rfl rfl rfl ⟨by decide, by decide⟩ ⟨by decide, by decide⟩ (Nat.le_of_ble_eq_true rfl) dL_does_156 z_nx (z_ki (fun x_14 M_14 h_14 => ?_))
      have hx9 := (h_14).1.symm
      have hm9 := (h_14).2.symm
      subst hx9
      subst hm9
      refine z_ti (y := (zFind s (zBit 31) a.toNat x 600)) e13 ?_
      refine z_iload F 3 dL_does_159 rfl ?_
      refine z_icmp_ne F 206 dL_does_161 (by decide) (by omega) (by omega) (fun c_15 => ?_) (fun c_15 => ?_)
      · skip
        exact absurd rfl c_15
      · skip
        refine z_aload_n F 4 dL_does_164 rfl rfl ?_
        refine z_iload F 0 dL_does_165 rfl ?_
        refine z_callV F [.int (zI (s 9 0 0))] [] (q_staffOf F.2.2.1 G (s := N) (t := t) (o := (o.1, ck3)) hI2 (a := s 9 0 0) ⟨by omega, by omega⟩) cv_L_44 (zAll_0 N t (o.1, ck3)) rfl rfl rfl ⟨by decide, by decide⟩ ⟨by decide, by decide⟩ (Nat.le_of_ble_eq_true rfl) dL_does_167 z_nx (z_ki (fun x_16 M_16 h_16 => ?_))
        have hx9 := (h_16).1.symm
        have hm9 := (h_16).2.symm
        subst hx9
        subst hm9
        refine z_ti (y := (zGet s (zBit 31) a.toNat (zFind s (zBit 31) a.toNat x 600))) (by rw [e13, if_neg hD]; exact e11) ?_
        refine z_iload F 2 dL_does_170 rfl ?_
        refine z_ti (y := (zGet s (zBit 31) a.toNat (zFind s (zBit 31) a.toNat x 600))) (if_neg hD) ?_
        refine z_icmp_ne F 206 dL_does_172 (by decide) (by omega) (by omega) (fun c_17 => ?_) (fun c_17 => ?_)
        · skip
          exact absurd rfl c_17
        · skip
          refine z_aload_n F 4 dL_does_175 rfl rfl ?_
          refine z_iload F 0 dL_does_176 rfl ?_
          refine z_callV F [.int (zI (s 9 0 0))] [] (q_serviceOf F.2.2.1 G (s := N) (t := t) (o := (o.1, ck3)) hI2 (a := s 9 0 0) ⟨by omega, by omega⟩) cv_L_47 (zAll_0 N t (o.1, ck3)) rfl rfl rfl ⟨by decide, by decide⟩ ⟨by decide, by decide⟩ (Nat.le_of_ble_eq_true rfl) dL_does_178 z_nx (z_ki (fun x_18 M_18 h_18 => ?_))
          have hx9 := (h_18).1.symm
          have hm9 := (h_18).2.symm
          subst hx9
          subst hm9
          refine z_ti (y := a) (e10.trans (by omega)) ?_
          refine z_iload_n F 7 dL_does_181 rfl rfl ?_
          refine z_icmp_ne F 206 dL_does_182 (by decide) (by omega) (by omega) (fun c_19 => ?_) (fun c_19 => ?_)
          · skip
            exact absurd rfl c_19
          · skip
            refine z_aload_n F 4 dL_does_185 rfl rfl ?_
            refine z_iload F 2 dL_does_186 rfl ?_
            refine z_ti (y := (zGet s (zBit 31) a.toNat (zFind s (zBit 31) a.toNat x 600))) (if_neg hD) ?_
            refine z_callV F [.int (zI ((zGet s (zBit 31) a.toNat (zFind s (zBit 31) a.toNat x 600))))] [] (q_loadOf F.2.2.1 G (s := N) (t := t) (o := (o.1, ck3)) hI2 (a := (zGet s (zBit 31) a.toNat (zFind s (zBit 31) a.toNat x 600))) ⟨by omega, by omega⟩) cv_L_38 (zAll_0 N t (o.1, ck3)) rfl rfl rfl ⟨by decide, by decide⟩ ⟨by decide, by decide⟩ (Nat.le_of_ble_eq_true rfl) dL_does_188 z_nx (z_ki (fun x_20 M_20 h_20 => ?_))
            have hx9 := (h_20).1.symm
            have hm9 := (h_20).2.symm
            subst hx9
            subst hm9
            refine z_ti (y := zLoad s (zGet s (zBit 31) a.toNat (zFind s (zBit 31) a.toNat x 600)) + zWork s a.toNat) eL ?_
            refine z_iload F 1 dL_does_191 rfl ?_
            refine z_aload_n F 4 dL_does_193 rfl rfl ?_
            refine z_iload_n F 7 dL_does_194 rfl rfl ?_
            refine z_callV F [.int (zI a)] [.int (zI (zLoad s ((zGet s (zBit 31) a.toNat (zFind s (zBit 31) a.toNat x 600))))), .int (zI (zLoad s (zGet s (zBit 31) a.toNat (zFind s (zBit 31) a.toNat x 600)) + zWork s a.toNat))] (q_workOf F.2.2.1 G (s := N) (t := t) (o := (o.1, ck3)) hI2 (a := a) ⟨by omega, by omega⟩) cv_L_50 (zAll_0 N t (o.1, ck3)) rfl rfl rfl ⟨by decide, by decide⟩ ⟨by decide, by decide⟩ (Nat.le_of_ble_eq_true rfl) dL_does_195 z_nx (z_ki (fun x_21 M_21 h_21 => ?_))
            have hx9 := (h_21).1.symm
            have hm9 := (h_21).2.symm
            subst hx9
            subst hm9
            refine z_ti (y := zWork s a.toNat) eW ?_
            refine z_iadd F dL_does_198 ?_
            refine z_icmp_ne F 206 dL_does_199 (by decide) (by omega) (by omega) (fun c_22 => ?_) (fun c_22 => ?_)
            · skip
              exact absurd rfl c_22
            · skip
              refine z_iconst (z := 1) F dL_does_202 (by decide) ?_
              refine z_goto F 207 dL_does_203 (by decide) ?_
              exact z_retz F rfl (by decide) (by first | decide | assumption | omega) (by first | decide | assumption | omega) dL_does_207 ⟨_, rfl, rfl, N, _, rfl, hN, hck3⟩
set_option maxRecDepth 100000 in
set_option maxHeartbeats 4000000 in
theorem does_246 {k : zC} {G : zG} (F : zF k G cL_does 12 RL wsL_law (some .boolean) []) {s t : zS} {o : zOx} (hI : zInv s) (hob : ∀ m, o.2 m = 0 ∨ o.2 m = 1) (h4 : s 4 0 0 = 5) (hG : ∀ b : Nat, b < 5 → zGd s b) (h18 : s 18 0 0 < 1000) {v w a x : Int} (hv : 0 ≤ v ∧ v < 2147483648) (ha : 0 ≤ a ∧ a < 5) (hx : 0 ≤ x ∧ x < 400) {b th : Int} (hb : 0 ≤ b ∧ b ≤ 30) (hth : th = 0 ∨ th = 1 ∧ b < s 9 0 0 ∧ ¬ s 13 b.toNat 0 = -1) : zJ k G rL_does 12 (zMQ k G rL_does (zRi (fun xr M2 => xr = 1 ∧ ∃ (N : zS) (ox : zOx), M2 = zAll N t ox ∧ zNx s N ∧ ∀ m, ox.2 m = 0 ∨ ox.2 m = 1)) zN) (zAll s t o) 1 6 246 [(0, .ref 0), (1, .int (zI v)), (2, .int (zI w)), (3, .int (zI a)), (4, .int (zI x)), (5, .int (zI b)), (6, .int (zI th))] [] := by
  refine z_iload F 6 dL_does_246 rfl ?_
  refine z_if_eq F 300 dL_does_248 (by decide) (by omega) (fun c_1 => ?_) (fun c_1 => ?_)
  · skip
    have ht0 : th = 0 := c_1
    refine z_iconst (z := 1) F dL_does_300 (by decide) ?_
    exact z_retz F rfl (by decide) (by first | decide | assumption | omega) (by first | decide | assumption | omega) dL_does_301 ⟨_, rfl, rfl, s, _, rfl, zNx_rf hI, hob⟩
  · skip
    have ht : th = 1 ∧ b < s 9 0 0 ∧ ¬ s 13 b.toNat 0 = -1 := hth.resolve_left c_1
    have hn9 := hI.c.2.2.1
    have hvs := hI.c.2.2.2.2.2.2.2.2.2.2.1 b.toNat (by omega)
    refine z_aload_n F 0 dL_does_251 rfl rfl ?_
    refine z_aload_n F 0 dL_does_252 rfl rfl ?_
    refine z_iload F 5 dL_does_253 rfl ?_
    refine z_callV F [.int (zI b)] [.ref 0] (q_serviceOf F.2.2.1 G (s := s) (t := t) (o := o) hI (a := b) ⟨by omega, by omega⟩) cv_L_47 (zAll_0 s t o) rfl rfl rfl ⟨by decide, by decide⟩ ⟨by decide, by decide⟩ (Nat.le_of_ble_eq_true rfl) dL_does_255 z_nx (z_ki (fun x_2 M_2 h_2 => ?_))
    have hx9 := (h_2).1.symm
    have hm9 := (h_2).2.symm
    subst hx9
    subst hm9
    refine z_iload F 4 dL_does_258 rfl ?_
    refine z_callV F [.int (zI (s 10 b.toNat 0)), .int (zI x)] [] (q_earliest F.2.2.1 G (s := s) (t := t) (o := o) hI (a := s 10 b.toNat 0) (x := x) ⟨⟨by omega, by omega⟩, by omega, by omega⟩) cv_L_32 (zAll_0 s t o) rfl rfl rfl ⟨by decide, by decide⟩ ⟨by decide, by decide⟩ (Nat.le_of_ble_eq_true rfl) dL_does_260 z_nx (z_ki (fun x_3 M_3 h_3 => ?_))
    obtain ⟨hx9, ck1, hm9, hck1⟩ := h_3
    subst hx9
    subst hm9
    have hfr := zFind_r s (zBit 31) (s 10 b.toNat 0).toNat x 600
    have hlna := hI.c.len (s 10 b.toNat 0).toNat
    have hrD : zR (zFind s (zBit 31) (s 10 b.toNat 0).toNat x 600) := by rcases hfr with h9 | h9 <;> constructor <;> omega
    refine z_if_lt F 300 dL_does_263 (by decide) (by omega) (fun c_4 => ?_) (fun c_4 => ?_)
    · skip
      refine z_iconst (z := 1) F dL_does_300 (by decide) ?_
      exact z_retz F rfl (by decide) (by first | decide | assumption | omega) (by first | decide | assumption | omega) dL_does_301 ⟨_, rfl, rfl, s, _, rfl, zNx_rf hI, hck1⟩
    · skip
      have hFm : ¬ (zFind (zOpO s b.toNat) (zBit 31) (s 10 b.toNat 0).toNat x 600) = -1 := zFind_out hI (v := b.toNat) (by omega) ht.2.2 (by omega) (by omega)
      refine z_aload_n F 0 dL_does_266 rfl rfl ?_
      refine z_iload F 5 dL_does_267 rfl ?_
      refine z_iload F 4 dL_does_269 rfl ?_
      refine z_callV F [.int (zI b), .int (zI x)] [] (q_move F.2.2.1 G (s := s) (t := t) (o := (o.1, ck1)) hI (by first | exact hck1 | exact hob) (a := b) (x := x) ⟨⟨⟨by omega, by omega⟩, ht.2.2⟩, by omega, by omega⟩ hFm) cv_L_53 (zAll_0 s t (o.1, ck1)) rfl rfl rfl ⟨by decide, by decide⟩ ⟨by decide, by decide⟩ (Nat.le_of_ble_eq_true rfl) dL_does_271 z_nx (z_ki (fun x_5 M_5 h_5 => ?_))
      obtain ⟨hx9, ck3, hm9, hck3⟩ := h_5
      subst hx9
      subst hm9
      have hio := hI.out (v := b.toNat) (by omega) ht.2.2
      have hfo := (zFind_r (zOpO s b.toNat) (zBit 31) (s 10 b.toNat 0).toNat x 600).resolve_left hFm
      have hov : (((s 10 b.toNat 0).toNat : Nat) : Int) = s 10 b.toNat 0 := by omega
      have hpl := hio.place (v := b.toNat) (a := (s 10 b.toNat 0).toNat) (who := zBit 31) (x := (zFind (zOpO s b.toNat) (zBit 31) (s 10 b.toNat 0).toNat x 600)) (show ((b.toNat : Nat) : Int) < s 9 0 0 by omega) (if_pos ⟨rfl, rfl, rfl⟩) hov.symm (by omega) hfo.2.1 hfo.2.2
      have hlz : zLen (zOpO s b.toNat) (s 10 b.toNat 0).toNat = zLen s (s 10 b.toNat 0).toNat := (zSvc_f (fun g hg => zOpO_g (by omega)) (s 10 b.toNat 0).toNat).2.2.1
      have hlr := hI.c.len (s 10 b.toNat 0).toNat
      have e13p : (zOpL (zOpO s b.toNat) b.toNat (zGet (zOpO s b.toNat) (zBit 31) (s 10 b.toNat 0).toNat (zFind (zOpO s b.toNat) (zBit 31) (s 10 b.toNat 0).toNat x 600)) (zChair (zOpO s b.toNat) (s 10 b.toNat 0).toNat (zFind (zOpO s b.toNat) (zBit 31) (s 10 b.toNat 0).toNat x 600)) (zFind (zOpO s b.toNat) (zBit 31) (s 10 b.toNat 0).toNat x 600)) 13 b.toNat 0 = (zFind (zOpO s b.toNat) (zBit 31) (s 10 b.toNat 0).toNat x 600) := by
        unfold zOpL zOpA
        rw [zOpM_g (by omega), zsu_s]
      have hgp : ∀ g, g < 8 → (zOpL (zOpO s b.toNat) b.toNat (zGet (zOpO s b.toNat) (zBit 31) (s 10 b.toNat 0).toNat (zFind (zOpO s b.toNat) (zBit 31) (s 10 b.toNat 0).toNat x 600)) (zChair (zOpO s b.toNat) (s 10 b.toNat 0).toNat (zFind (zOpO s b.toNat) (zBit 31) (s 10 b.toNat 0).toNat x 600)) (zFind (zOpO s b.toNat) (zBit 31) (s 10 b.toNat 0).toNat x 600)) g = s g := fun g hg => by
        unfold zOpL zOpA
        rw [zOpM_g (by omega), zsu_g (by omega), zsu_g (by omega), zsu_g (by omega), zOpO_g (by omega)]
      have hN : zNx s (zSrv (zOpL (zOpO s b.toNat) b.toNat (zGet (zOpO s b.toNat) (zBit 31) (s 10 b.toNat 0).toNat (zFind (zOpO s b.toNat) (zBit 31) (s 10 b.toNat 0).toNat x 600)) (zChair (zOpO s b.toNat) (s 10 b.toNat 0).toNat (zFind (zOpO s b.toNat) (zBit 31) (s 10 b.toNat 0).toNat x 600)) (zFind (zOpO s b.toNat) (zBit 31) (s 10 b.toNat 0).toNat x 600))).1 := zSrv_nx hpl hgp (show s 18 0 0 ≤ s 18 0 0 + 1 by omega)
      have hsw := zSw_f ((zOpL (zOpO s b.toNat) b.toNat (zGet (zOpO s b.toNat) (zBit 31) (s 10 b.toNat 0).toNat (zFind (zOpO s b.toNat) (zBit 31) (s 10 b.toNat 0).toNat x 600)) (zChair (zOpO s b.toNat) (s 10 b.toNat 0).toNat (zFind (zOpO s b.toNat) (zBit 31) (s 10 b.toNat 0).toNat x 600)) (zFind (zOpO s b.toNat) (zBit 31) (s 10 b.toNat 0).toNat x 600)) 14 0 0).toNat (zOpL (zOpO s b.toNat) b.toNat (zGet (zOpO s b.toNat) (zBit 31) (s 10 b.toNat 0).toNat (zFind (zOpO s b.toNat) (zBit 31) (s 10 b.toNat 0).toNat x 600)) (zChair (zOpO s b.toNat) (s 10 b.toNat 0).toNat (zFind (zOpO s b.toNat) (zBit 31) (s 10 b.toNat 0).toNat x 600)) (zFind (zOpO s b.toNat) (zBit 31) (s 10 b.toNat 0).toNat x 600)) 0 0 hpl.c.2.2.1.1
      have e13 : (zSrv (zOpL (zOpO s b.toNat) b.toNat (zGet (zOpO s b.toNat) (zBit 31) (s 10 b.toNat 0).toNat (zFind (zOpO s b.toNat) (zBit 31) (s 10 b.toNat 0).toNat x 600)) (zChair (zOpO s b.toNat) (s 10 b.toNat 0).toNat (zFind (zOpO s b.toNat) (zBit 31) (s 10 b.toNat 0).toNat x 600)) (zFind (zOpO s b.toNat) (zBit 31) (s 10 b.toNat 0).toNat x 600))).1 13 b.toNat 0 = (zFind (zOpO s b.toNat) (zBit 31) (s 10 b.toNat 0).toNat x 600) := (hsw.2.2.2.2 b.toNat (show ((b.toNat : Nat) : Int) < s 9 0 0 by omega)).trans e13p
      have e9b : (zSrv (zOpL (zOpO s b.toNat) b.toNat (zGet (zOpO s b.toNat) (zBit 31) (s 10 b.toNat 0).toNat (zFind (zOpO s b.toNat) (zBit 31) (s 10 b.toNat 0).toNat x 600)) (zChair (zOpO s b.toNat) (s 10 b.toNat 0).toNat (zFind (zOpO s b.toNat) (zBit 31) (s 10 b.toNat 0).toNat x 600)) (zFind (zOpO s b.toNat) (zBit 31) (s 10 b.toNat 0).toNat x 600))).1 9 0 0 + 0 = s 9 0 0 + (zSrv (zOpL (zOpO s b.toNat) b.toNat (zGet (zOpO s b.toNat) (zBit 31) (s 10 b.toNat 0).toNat (zFind (zOpO s b.toNat) (zBit 31) (s 10 b.toNat 0).toNat x 600)) (zChair (zOpO s b.toNat) (s 10 b.toNat 0).toNat (zFind (zOpO s b.toNat) (zBit 31) (s 10 b.toNat 0).toNat x 600)) (zFind (zOpO s b.toNat) (zBit 31) (s 10 b.toNat 0).toNat x 600))).2 := hsw.2.2.2.1
      have e9c : 0 ≤ (zSrv (zOpL (zOpO s b.toNat) b.toNat (zGet (zOpO s b.toNat) (zBit 31) (s 10 b.toNat 0).toNat (zFind (zOpO s b.toNat) (zBit 31) (s 10 b.toNat 0).toNat x 600)) (zChair (zOpO s b.toNat) (s 10 b.toNat 0).toNat (zFind (zOpO s b.toNat) (zBit 31) (s 10 b.toNat 0).toNat x 600)) (zFind (zOpO s b.toNat) (zBit 31) (s 10 b.toNat 0).toNat x 600))).2 := zSw_pos _ _ 0 0
      have e9 : s 9 0 0 ≤ (zSrv (zOpL (zOpO s b.toNat) b.toNat (zGet (zOpO s b.toNat) (zBit 31) (s 10 b.toNat 0).toNat (zFind (zOpO s b.toNat) (zBit 31) (s 10 b.toNat 0).toNat x 600)) (zChair (zOpO s b.toNat) (s 10 b.toNat 0).toNat (zFind (zOpO s b.toNat) (zBit 31) (s 10 b.toNat 0).toNat x 600)) (zFind (zOpO s b.toNat) (zBit 31) (s 10 b.toNat 0).toNat x 600))).1 9 0 0 := by omega
      have hrF : zR (zFind (zOpO s b.toNat) (zBit 31) (s 10 b.toNat 0).toNat x 600) := ⟨by omega, by omega⟩
      generalize (zSrv (zOpL (zOpO s b.toNat) b.toNat (zGet (zOpO s b.toNat) (zBit 31) (s 10 b.toNat 0).toNat (zFind (zOpO s b.toNat) (zBit 31) (s 10 b.toNat 0).toNat x 600)) (zChair (zOpO s b.toNat) (s 10 b.toNat 0).toNat (zFind (zOpO s b.toNat) (zBit 31) (s 10 b.toNat 0).toNat x 600)) (zFind (zOpO s b.toNat) (zBit 31) (s 10 b.toNat 0).toNat x 600))).1 = N at hN e13 e9 ⊢
      refine z_istore F [(9, .int (zI ((zFind (zOpO s b.toNat) (zBit 31) (s 10 b.toNat 0).toNat x 600)))), (0, .ref 0), (1, .int (zI v)), (2, .int (zI w)), (3, .int (zI a)), (4, .int (zI x)), (5, .int (zI b)), (6, .int (zI th))] dL_does_274 (by decide) rfl ?_
      refine z_iload F 0 dL_does_276 rfl ?_
      refine z_iload F 5 dL_does_278 rfl ?_
      refine z_icmp_lt F 298 dL_does_280 (by decide) (by omega) (by omega) (fun c_6 => ?_) (fun c_6 => ?_)
      · skip
        exfalso; omega
      · skip
        refine z_aload_n F 1 dL_does_283 rfl rfl ?_
        refine z_iload F 6 dL_does_284 rfl ?_
        refine z_callV F [.int (zI b)] [] (q_startOf F.2.2.1 G (s := N) (t := t) (o := (o.1, ck3)) hN.1 (a := b) ⟨by omega, by omega⟩) cv_L_29 (zAll_0 N t (o.1, ck3)) rfl rfl rfl ⟨by decide, by decide⟩ ⟨by decide, by decide⟩ (Nat.le_of_ble_eq_true rfl) dL_does_286 z_nx (z_ki (fun x_7 M_7 h_7 => ?_))
        have hx9 := (h_7).1.symm
        have hm9 := (h_7).2.symm
        subst hx9
        subst hm9
        refine z_ti (y := (zFind (zOpO s b.toNat) (zBit 31) (s 10 b.toNat 0).toNat x 600)) e13 ?_
        refine z_iload F 0 dL_does_289 rfl ?_
        refine z_icmp_ne F 298 dL_does_291 (by decide) (by omega) (by omega) (fun c_8 => ?_) (fun c_8 => ?_)
        · skip
          exact absurd rfl c_8
        · skip
          refine z_iconst (z := 1) F dL_does_294 (by decide) ?_
          refine z_goto F 299 dL_does_295 (by decide) ?_
          exact z_retz F rfl (by decide) (by first | decide | assumption | omega) (by first | decide | assumption | omega) dL_does_299 ⟨_, rfl, rfl, N, _, rfl, hN, hck3⟩
set_option maxRecDepth 100000 in
set_option maxHeartbeats 4000000 in
theorem does_302 {k : zC} {G : zG} (F : zF k G cL_does 12 RL wsL_law (some .boolean) []) {s t : zS} {o : zOx} (hI : zInv s) (hob : ∀ m, o.2 m = 0 ∨ o.2 m = 1) (h4 : s 4 0 0 = 5) (hG : ∀ b : Nat, b < 5 → zGd s b) (h18 : s 18 0 0 < 1000) {v w a x : Int} (hv : 0 ≤ v ∧ v < 2147483648) (ha : 0 ≤ a ∧ a < 5) (hx : 0 ≤ x ∧ x < 400) {b th : Int} (hb : 0 ≤ b ∧ b ≤ 30) (hth : th = 0 ∨ th = 1 ∧ b < s 9 0 0 ∧ ¬ s 13 b.toNat 0 = -1) : zJ k G rL_does 12 (zMQ k G rL_does (zRi (fun xr M2 => xr = 1 ∧ ∃ (N : zS) (ox : zOx), M2 = zAll N t ox ∧ zNx s N ∧ ∀ m, ox.2 m = 0 ∨ ox.2 m = 1)) zN) (zAll s t o) 1 6 302 [(0, .ref 0), (1, .int (zI v)), (2, .int (zI w)), (3, .int (zI a)), (4, .int (zI x)), (5, .int (zI b)), (6, .int (zI th))] [] := by
  refine z_iload F 6 dL_does_302 rfl ?_
  refine z_if_eq F 377 dL_does_304 (by decide) (by omega) (fun c_1 => ?_) (fun c_1 => ?_)
  · skip
    have ht0 : th = 0 := c_1
    refine z_iconst (z := 1) F dL_does_377 (by decide) ?_
    exact z_retz F rfl (by decide) (by first | decide | assumption | omega) (by first | decide | assumption | omega) dL_does_378 ⟨_, rfl, rfl, s, _, rfl, zNx_rf hI, hob⟩
  · skip
    have ht : th = 1 ∧ b < s 9 0 0 ∧ ¬ s 13 b.toNat 0 = -1 := hth.resolve_left c_1
    have hn9 := hI.c.2.2.1
    refine z_aload_n F 0 dL_does_307 rfl rfl ?_
    refine z_callV F [] [] (c_X6_requests F.2.2.1 G (s := s) (t := t) (o := o) hI.c hI.b) cv_L_56 (zAll_0 s t o) rfl rfl rfl ⟨by decide, by decide⟩ ⟨by decide, by decide⟩ (Nat.le_of_ble_eq_true rfl) dL_does_308 z_nx (z_ki (fun x_2 M_2 h_2 => ?_))
    have hx9 := (h_2).1.symm
    have hm9 := (h_2).2.symm
    subst hx9
    subst hm9
    refine z_istore F [(9, .int (zI (s 14 0 0))), (0, .ref 0), (1, .int (zI v)), (2, .int (zI w)), (3, .int (zI a)), (4, .int (zI x)), (5, .int (zI b)), (6, .int (zI th))] dL_does_311 (by decide) rfl ?_
    refine z_aload_n F 1 dL_does_313 rfl rfl ?_
    refine z_callV F [] [] (c_X6_visits F.2.2.1 G (s := s) (t := t) (o := o) hI.c hI.b) cv_L_25 (zAll_0 s t o) rfl rfl rfl ⟨by decide, by decide⟩ ⟨by decide, by decide⟩ (Nat.le_of_ble_eq_true rfl) dL_does_314 z_nx (z_ki (fun x_3 M_3 h_3 => ?_))
    have hx9 := (h_3).1.symm
    have hm9 := (h_3).2.symm
    subst hx9
    subst hm9
    refine z_istore F [(10, .int (zI (s 9 0 0))), (9, .int (zI (s 14 0 0))), (0, .ref 0), (1, .int (zI v)), (2, .int (zI w)), (3, .int (zI a)), (4, .int (zI x)), (5, .int (zI b)), (6, .int (zI th))] dL_does_317 (by decide) rfl ?_
    refine z_aload_n F 2 dL_does_319 rfl rfl ?_
    refine z_iload F 7 dL_does_320 rfl ?_
    refine z_callV F [.int (zI b)] [] (q_drop F.2.2.1 G (s := s) (t := t) (o := o) hI hob (a := b) ⟨⟨by omega, by omega⟩, ht.2.2⟩) cv_L_59 (zAll_0 s t o) rfl rfl rfl ⟨by decide, by decide⟩ ⟨by decide, by decide⟩ (Nat.le_of_ble_eq_true rfl) dL_does_322 z_nx (z_ki (fun x_4 M_4 h_4 => ?_))
    obtain ⟨hx9, ck3, hm9, hck3⟩ := h_4
    subst hx9
    subst hm9
    have hio := hI.out (v := b.toNat) (by omega) ht.2.2
    have hN : zNx s (zSrv (zOpO s b.toNat)).1 := zSrv_nx hio (fun g hg => zOpO_g (by omega)) (show s 18 0 0 ≤ s 18 0 0 + 1 by omega)
    have hsw := zSw_f ((zOpO s b.toNat) 14 0 0).toNat (zOpO s b.toNat) 0 0 hio.c.2.2.1.1
    have e13 : (zSrv (zOpO s b.toNat)).1 13 b.toNat 0 = -1 := (hsw.2.2.2.2 b.toNat (show ((b.toNat : Nat) : Int) < s 9 0 0 by omega)).trans (by unfold zOpO; rw [zsu_s])
    have e14 : (zSrv (zOpO s b.toNat)).1 14 0 0 + (zSrv (zOpO s b.toNat)).2 = s 14 0 0 + 0 := hsw.2.2.1
    have e9 : (zSrv (zOpO s b.toNat)).1 9 0 0 + 0 = s 9 0 0 + (zSrv (zOpO s b.toNat)).2 := hsw.2.2.2.1
    have hp0 : 0 ≤ (zSrv (zOpO s b.toNat)).2 := zSw_pos _ _ 0 0
    have hn14 := hI.c.2.2.2.1
    have hm14 := hN.1.c.2.2.2.1
    have hm9 := hN.1.c.2.2.1
    generalize (zSrv (zOpO s b.toNat)).2 = kk at e14 e9 hp0 ⊢
    generalize (zSrv (zOpO s b.toNat)).1 = N at hN e13 e14 e9 hm14 hm9 ⊢
    refine z_istore F [(11, .int (zI kk)), (10, .int (zI (s 9 0 0))), (9, .int (zI (s 14 0 0))), (0, .ref 0), (1, .int (zI v)), (2, .int (zI w)), (3, .int (zI a)), (4, .int (zI x)), (5, .int (zI b)), (6, .int (zI th))] dL_does_325 (by decide) rfl ?_
    refine z_aload_n F 3 dL_does_327 rfl rfl ?_
    refine z_iload F 8 dL_does_328 rfl ?_
    refine z_callV F [.int (zI b)] [] (q_startOf F.2.2.1 G (s := N) (t := t) (o := (o.1, ck3)) hN.1 (a := b) ⟨by omega, by omega⟩) cv_L_29 (zAll_0 N t (o.1, ck3)) rfl rfl rfl ⟨by decide, by decide⟩ ⟨by decide, by decide⟩ (Nat.le_of_ble_eq_true rfl) dL_does_330 z_nx (z_ki (fun x_5 M_5 h_5 => ?_))
    have hx9 := (h_5).1.symm
    have hm9 := (h_5).2.symm
    subst hx9
    subst hm9
    refine z_ti (y := (-1)) e13 ?_
    refine z_iconst (z := -1) F dL_does_333 (by decide) ?_
    refine z_icmp_ne F 375 dL_does_334 (by decide) (by omega) ⟨by decide, by decide⟩ (fun c_6 => ?_) (fun c_6 => ?_)
    · skip
      exact absurd rfl c_6
    · skip
      refine z_aload_n F 3 dL_does_337 rfl rfl ?_
      refine z_iload F 8 dL_does_338 rfl ?_
      refine z_callV F [.int (zI b)] [] (q_chairOf F.2.2.1 G (s := N) (t := t) (o := (o.1, ck3)) hN.1 (a := b) ⟨by omega, by omega⟩) cv_L_62 (zAll_0 N t (o.1, ck3)) rfl rfl rfl ⟨by decide, by decide⟩ ⟨by decide, by decide⟩ (Nat.le_of_ble_eq_true rfl) dL_does_340 z_nx (z_ki (fun x_7 M_7 h_7 => ?_))
      have hx9 := (h_7).1.symm
      have hm9 := (h_7).2.symm
      subst hx9
      subst hm9
      refine z_ti (y := (-1)) (if_pos e13) ?_
      refine z_iconst (z := -1) F dL_does_343 (by decide) ?_
      refine z_icmp_ne F 375 dL_does_344 (by decide) (by omega) ⟨by decide, by decide⟩ (fun c_8 => ?_) (fun c_8 => ?_)
      · skip
        exact absurd rfl c_8
      · skip
        refine z_aload_n F 3 dL_does_347 rfl rfl ?_
        refine z_callV F [] [] (c_X6_requests F.2.2.1 G (s := N) (t := t) (o := (o.1, ck3)) hN.1.c hN.1.b) cv_L_56 (zAll_0 N t (o.1, ck3)) rfl rfl rfl ⟨by decide, by decide⟩ ⟨by decide, by decide⟩ (Nat.le_of_ble_eq_true rfl) dL_does_348 z_nx (z_ki (fun x_9 M_9 h_9 => ?_))
        have hx9 := (h_9).1.symm
        have hm9 := (h_9).2.symm
        subst hx9
        subst hm9
        refine z_iload F 2 dL_does_351 rfl ?_
        refine z_iload F 0 dL_does_353 rfl ?_
        refine z_isub F dL_does_355 ?_
        refine z_icmp_ne F 375 dL_does_356 (by decide) (by omega) (by omega) (fun c_10 => ?_) (fun c_10 => ?_)
        · skip
          exfalso; omega
        · skip
          refine z_aload_n F 3 dL_does_359 rfl rfl ?_
          refine z_callV F [] [] (c_X6_visits F.2.2.1 G (s := N) (t := t) (o := (o.1, ck3)) hN.1.c hN.1.b) cv_L_25 (zAll_0 N t (o.1, ck3)) rfl rfl rfl ⟨by decide, by decide⟩ ⟨by decide, by decide⟩ (Nat.le_of_ble_eq_true rfl) dL_does_360 z_nx (z_ki (fun x_11 M_11 h_11 => ?_))
          have hx9 := (h_11).1.symm
          have hm9 := (h_11).2.symm
          subst hx9
          subst hm9
          refine z_iload F 1 dL_does_363 rfl ?_
          refine z_iload F 0 dL_does_365 rfl ?_
          refine z_iadd F dL_does_367 ?_
          refine z_icmp_ne F 375 dL_does_368 (by decide) (by omega) (by omega) (fun c_12 => ?_) (fun c_12 => ?_)
          · skip
            exfalso; omega
          · skip
            refine z_iconst (z := 1) F dL_does_371 (by decide) ?_
            refine z_goto F 376 dL_does_372 (by decide) ?_
            exact z_retz F rfl (by decide) (by first | decide | assumption | omega) (by first | decide | assumption | omega) dL_does_376 ⟨_, rfl, rfl, N, _, rfl, hN, hck3⟩
set_option maxRecDepth 100000 in
set_option maxHeartbeats 4000000 in
theorem does_379 {k : zC} {G : zG} (F : zF k G cL_does 12 RL wsL_law (some .boolean) []) {s t : zS} {o : zOx} (hI : zInv s) (hob : ∀ m, o.2 m = 0 ∨ o.2 m = 1) (h4 : s 4 0 0 = 5) (hG : ∀ b : Nat, b < 5 → zGd s b) (h18 : s 18 0 0 < 1000) {v w a x : Int} (hv : 0 ≤ v ∧ v < 2147483648) (ha : 0 ≤ a ∧ a < 5) (hx : 0 ≤ x ∧ x < 400) : zJ k G rL_does 12 (zMQ k G rL_does (zRi (fun xr M2 => xr = 1 ∧ ∃ (N : zS) (ox : zOx), M2 = zAll N t ox ∧ zNx s N ∧ ∀ m, ox.2 m = 0 ∨ ox.2 m = 1)) zN) (zAll s t o) 1 6 379 [(0, .ref 0), (1, .int (zI v)), (2, .int (zI w)), (3, .int (zI a)), (4, .int (zI x))] [] := by
  have hn14 := hI.c.2.2.2.1
  refine z_aload_n F 0 dL_does_379 rfl rfl ?_
  refine z_callV F [] [] (c_X6_requests F.2.2.1 G (s := s) (t := t) (o := o) hI.c hI.b) cv_L_56 (zAll_0 s t o) rfl rfl rfl ⟨by decide, by decide⟩ ⟨by decide, by decide⟩ (Nat.le_of_ble_eq_true rfl) dL_does_380 z_nx (z_ki (fun x_1 M_1 h_1 => ?_))
  have hx9 := (h_1).1.symm
  have hm9 := (h_1).2.symm
  subst hx9
  subst hm9
  refine z_bipush (z := 6) F dL_does_383 (by decide) ?_
  refine z_icmp_ge F 424 dL_does_385 (by decide) (by omega) ⟨by decide, by decide⟩ (fun c_2 => ?_) (fun c_2 => ?_)
  · skip
    refine z_iconst (z := 1) F dL_does_424 (by decide) ?_
    exact z_retz F rfl (by decide) (by first | decide | assumption | omega) (by first | decide | assumption | omega) dL_does_425 ⟨_, rfl, rfl, s, _, rfl, zNx_rf hI, hob⟩
  · skip
    refine z_aload_n F 0 dL_does_388 rfl rfl ?_
    refine z_callV F [] [] (c_X6_requests F.2.2.1 G (s := s) (t := t) (o := o) hI.c hI.b) cv_L_56 (zAll_0 s t o) rfl rfl rfl ⟨by decide, by decide⟩ ⟨by decide, by decide⟩ (Nat.le_of_ble_eq_true rfl) dL_does_389 z_nx (z_ki (fun x_3 M_3 h_3 => ?_))
    have hx9 := (h_3).1.symm
    have hm9 := (h_3).2.symm
    subst hx9
    subst hm9
    refine z_istore F [(9, .int (zI (s 14 0 0))), (0, .ref 0), (1, .int (zI v)), (2, .int (zI w)), (3, .int (zI a)), (4, .int (zI x))] dL_does_392 (by decide) rfl ?_
    refine z_aload_n F 1 dL_does_394 rfl rfl ?_
    refine z_iload_n F 4 dL_does_395 rfl rfl ?_
    refine z_iload F 5 dL_does_396 rfl ?_
    refine z_callV F [.int (zI a), .int (zI x)] [] (q_request F.2.2.1 G (s := s) (t := t) (o := o) hI (a := a) (x := x) ⟨⟨by omega, by omega⟩, by omega, by omega⟩ (by omega)) cv_L_65 (zAll_0 s t o) rfl rfl rfl ⟨by decide, by decide⟩ ⟨by decide, by decide⟩ (Nat.le_of_ble_eq_true rfl) dL_does_398 z_nx (z_ki (fun x_4 M_4 h_4 => ?_))
    have hx9 := (h_4).1.symm
    have hm9 := (h_4).2.symm
    subst hx9
    subst hm9
    have hI2 : zInv (zOpQ s a.toNat x) := hI.req (by omega) (by omega) (by omega) (by omega)
    have hN : zNx s (zOpQ s a.toNat x) := ⟨hI2, fun g hg => by unfold zOpQ; rw [zsu_g (by omega), zsu_g (by omega), zsu_g (by omega), zsu_g (by omega), zsu_g (by omega), zsu_g (by omega), zsu_g (by omega), zsu_g (by omega)], show s 18 0 0 + 1 ≤ s 18 0 0 + 1 by omega⟩
    have e14 : (zOpQ s a.toNat x) 14 0 0 = s 14 0 0 + 1 := rfl
    have e17 : (zOpQ s a.toNat x) 17 (s 14 0 0).toNat 0 = s 18 0 0 := if_pos ⟨rfl, rfl, rfl⟩
    have e19 : (zOpQ s a.toNat x) 19 (s 18 0 0).toNat 0 = a.toNat := if_pos ⟨rfl, rfl, rfl⟩
    generalize (zOpQ s a.toNat x) = N at hI2 hN e14 e17 e19 ⊢
    refine z_iload F 0 dL_does_401 rfl ?_
    refine z_iconst (z := 1) F dL_does_403 (by decide) ?_
    refine z_iadd F dL_does_404 ?_
    refine z_icmp_ne F 422 dL_does_405 (by decide) (by omega) (by omega) (fun c_5 => ?_) (fun c_5 => ?_)
    · skip
      exact absurd rfl c_5
    · skip
      refine z_aload_n F 1 dL_does_408 rfl rfl ?_
      refine z_iload F 0 dL_does_409 rfl ?_
      refine z_callV F [.int (zI (s 14 0 0))] [] (q_requestAt F.2.2.1 G (s := N) (t := t) (o := o) hI2 (a := s 14 0 0) ⟨by omega, by omega⟩) cv_L_68 (zAll_0 N t o) rfl rfl rfl ⟨by decide, by decide⟩ ⟨by decide, by decide⟩ (Nat.le_of_ble_eq_true rfl) dL_does_411 z_nx (z_ki (fun x_6 M_6 h_6 => ?_))
      have hx9 := (h_6).1.symm
      have hm9 := (h_6).2.symm
      subst hx9
      subst hm9
      refine z_ti (y := a) (by rw [e17, e19]; omega) ?_
      refine z_iload_n F 4 dL_does_414 rfl rfl ?_
      refine z_icmp_ne F 422 dL_does_415 (by decide) (by omega) (by omega) (fun c_7 => ?_) (fun c_7 => ?_)
      · skip
        exact absurd rfl c_7
      · skip
        refine z_iconst (z := 1) F dL_does_418 (by decide) ?_
        refine z_goto F 423 dL_does_419 (by decide) ?_
        exact z_retz F rfl (by decide) (by first | decide | assumption | omega) (by first | decide | assumption | omega) dL_does_423 ⟨_, rfl, rfl, N, _, rfl, hN, hob⟩
set_option maxRecDepth 100000 in
set_option maxHeartbeats 4000000 in
theorem does_426 {k : zC} {G : zG} (F : zF k G cL_does 12 RL wsL_law (some .boolean) []) {s t : zS} {o : zOx} (hI : zInv s) (hob : ∀ m, o.2 m = 0 ∨ o.2 m = 1) (h4 : s 4 0 0 = 5) (hG : ∀ b : Nat, b < 5 → zGd s b) (h18 : s 18 0 0 < 1000) {v w a x : Int} (hv : 0 ≤ v ∧ v < 2147483648) (ha : 0 ≤ a ∧ a < 5) (hx : 0 ≤ x ∧ x < 400) {b th : Int} (hb : 0 ≤ b ∧ b ≤ 30) (hth : th = 0 ∨ th = 1 ∧ b < s 9 0 0 ∧ ¬ s 13 b.toNat 0 = -1) : zJ k G rL_does 12 (zMQ k G rL_does (zRi (fun xr M2 => xr = 1 ∧ ∃ (N : zS) (ox : zOx), M2 = zAll N t ox ∧ zNx s N ∧ ∀ m, ox.2 m = 0 ∨ ox.2 m = 1)) zN) (zAll s t o) 1 6 426 [(0, .ref 0), (1, .int (zI v)), (2, .int (zI w)), (3, .int (zI a)), (4, .int (zI x)), (5, .int (zI b)), (6, .int (zI th))] [] := by
  refine z_iload F 6 dL_does_426 rfl ?_
  refine z_if_eq F 441 dL_does_428 (by decide) (by omega) (fun c_1 => ?_) (fun c_1 => ?_)
  · skip
    have ht0 : th = 0 := c_1
    refine z_iconst (z := 1) F dL_does_441 (by decide) ?_
    exact z_retz F rfl (by decide) (by first | decide | assumption | omega) (by first | decide | assumption | omega) dL_does_442 ⟨_, rfl, rfl, s, _, rfl, zNx_rf hI, hob⟩
  · skip
    have ht : th = 1 ∧ b < s 9 0 0 ∧ ¬ s 13 b.toNat 0 = -1 := hth.resolve_left c_1
    have hn9 := hI.c.2.2.1
    have hvs := hI.c.2.2.2.2.2.2.2.2.2.2.1 b.toNat (by omega)
    refine z_aload_n F 0 dL_does_431 rfl rfl ?_
    refine z_iload F 5 dL_does_432 rfl ?_
    refine z_iload_n F 3 dL_does_434 rfl rfl ?_
    refine z_callS F [.ref 0, .int (zI b), .int (zI a)] [] (c_L_isInRest F.2.2.1 G (s := s) (t := t) (o := o) hI (a := b) (b := a) ⟨by omega, by omega⟩ ht.2.2 ⟨by omega, by omega⟩ (hG _ (by omega))) cs_L_71 rfl ⟨by decide, by decide⟩ ⟨by decide, by decide⟩ (Nat.le_of_ble_eq_true rfl) dL_does_435 z_nx (z_ki (fun x_2 M_2 h_2 => ?_))
    have hx9 := (h_2).1.symm
    have hm9 := (h_2).2.symm
    subst hx9
    subst hm9
    refine z_goto F 442 dL_does_438 (by decide) ?_
    exact z_retz F rfl (by decide) (by first | decide | assumption | omega) (by first | decide | assumption | omega) dL_does_442 ⟨_, rfl, rfl, s, _, rfl, zNx_rf hI, hob⟩
set_option maxRecDepth 100000 in
set_option maxHeartbeats 4000000 in
theorem does_58 {k : zC} {G : zG} (F : zF k G cL_does 12 RL wsL_law (some .boolean) []) {s t : zS} {o : zOx} (hI : zInv s) (hob : ∀ m, o.2 m = 0 ∨ o.2 m = 1) (h4 : s 4 0 0 = 5) (hG : ∀ b : Nat, b < 5 → zGd s b) (h18 : s 18 0 0 < 1000) {v w a x : Int} (hv : 0 ≤ v ∧ v < 2147483648) (ha : 0 ≤ a ∧ a < 5) (hx : 0 ≤ x ∧ x < 400) {b th : Int} (hb : 0 ≤ b ∧ b ≤ 30) (hth : th = 0 ∨ th = 1 ∧ b < s 9 0 0 ∧ ¬ s 13 b.toNat 0 = -1) : zJ k G rL_does 12 (zMQ k G rL_does (zRi (fun xr M2 => xr = 1 ∧ ∃ (N : zS) (ox : zOx), M2 = zAll N t ox ∧ zNx s N ∧ ∀ m, ox.2 m = 0 ∨ ox.2 m = 1)) zN) (zAll s t o) 1 6 58 [(0, .ref 0), (1, .int (zI v)), (2, .int (zI w)), (3, .int (zI a)), (4, .int (zI x)), (5, .int (zI b)), (6, .int (zI th))] [] := by
  refine z_iload_n F 1 dL_does_58 rfl rfl ?_
  refine z_bipush (z := 8) F dL_does_59 (by decide) ?_
  refine z_irem F (v % 8) ⟨by decide, by decide⟩ (by decide) (zI_rem (by omega) (by omega) (by decide) (by decide)) dL_does_61 ?_
  refine z_lv [(0, .ref 0), (1, .int (zI v)), (2, .int (zI w)), (3, .int (zI a)), (4, .int (zI x)), (5, .int (zI b)), (6, .int (zI th))] [0, 1, 2, 3, 4, 5, 6] rfl ?_
  rcases (show v % 8 = 0 ∨ v % 8 = 1 ∨ v % 8 = 2 ∨ v % 8 = 3 ∨ v % 8 = 4 ∨ v % 8 = 5 ∨ v % 8 = 6 ∨ v % 8 = 7 by omega) with e | e | e | e | e | e | e | e
  · refine z_ti (y := 0) e ?_
    refine z_tswIn F 104 ⟨by decide, by decide⟩ dL_does_62 (by decide) (by decide) rfl (by decide) ?_
    refine z_lv [(0, .ref 0), (1, .int (zI v)), (2, .int (zI w)), (3, .int (zI a)), (4, .int (zI x))] [0, 1, 2, 3, 4] rfl ?_
    exact does_104 F hI hob h4 hG h18 hv ha hx
  · refine z_ti (y := 1) e ?_
    refine z_tswIn F 104 ⟨by decide, by decide⟩ dL_does_62 (by decide) (by decide) rfl (by decide) ?_
    refine z_lv [(0, .ref 0), (1, .int (zI v)), (2, .int (zI w)), (3, .int (zI a)), (4, .int (zI x))] [0, 1, 2, 3, 4] rfl ?_
    exact does_104 F hI hob h4 hG h18 hv ha hx
  · refine z_ti (y := 2) e ?_
    refine z_tswIn F 104 ⟨by decide, by decide⟩ dL_does_62 (by decide) (by decide) rfl (by decide) ?_
    refine z_lv [(0, .ref 0), (1, .int (zI v)), (2, .int (zI w)), (3, .int (zI a)), (4, .int (zI x))] [0, 1, 2, 3, 4] rfl ?_
    exact does_104 F hI hob h4 hG h18 hv ha hx
  · refine z_ti (y := 3) e ?_
    refine z_tswIn F 246 ⟨by decide, by decide⟩ dL_does_62 (by decide) (by decide) rfl (by decide) ?_
    exact does_246 F hI hob h4 hG h18 hv ha hx hb hth
  · refine z_ti (y := 4) e ?_
    refine z_tswIn F 246 ⟨by decide, by decide⟩ dL_does_62 (by decide) (by decide) rfl (by decide) ?_
    exact does_246 F hI hob h4 hG h18 hv ha hx hb hth
  · refine z_ti (y := 5) e ?_
    refine z_tswIn F 302 ⟨by decide, by decide⟩ dL_does_62 (by decide) (by decide) rfl (by decide) ?_
    exact does_302 F hI hob h4 hG h18 hv ha hx hb hth
  · refine z_ti (y := 6) e ?_
    refine z_tswIn F 379 ⟨by decide, by decide⟩ dL_does_62 (by decide) (by decide) rfl (by decide) ?_
    refine z_lv [(0, .ref 0), (1, .int (zI v)), (2, .int (zI w)), (3, .int (zI a)), (4, .int (zI x))] [0, 1, 2, 3, 4] rfl ?_
    exact does_379 F hI hob h4 hG h18 hv ha hx
  · refine z_ti (y := 7) e ?_
    refine z_tswOut F 426 ⟨by decide, by decide⟩ dL_does_62 (Or.inr (by decide)) (by decide) ?_
    exact does_426 F hI hob h4 hG h18 hv ha hx hb hth
set_option maxRecDepth 100000 in
set_option maxHeartbeats 4000000 in
theorem c_L_does {l : Launch} (hfl : l.stackTraces = false) (G : zG) {s t : zS} {o : zOx} (hI : zInv s) (hob : ∀ m, o.2 m = 0 ∨ o.2 m = 1) (h4 : s 4 0 0 = 5) (hG : ∀ b : Nat, b < 5 → zGd s b) (h18 : s 18 0 0 < 1000) {v w : Int} (hv : 0 ≤ v ∧ v < 2147483648) (hw : 0 ≤ w ∧ w < 2147483648)  : zCn l G yL_does (.code yL_does cL_does 12 (some .boolean)) rL_does [.ref 0, .int (zI v), .int (zI w)] (zAll s t o) (zRi (fun xr M2 => xr = 1 ∧ ∃ (N : zS) (ox : zOx), M2 = zAll N t ox ∧ zNx s N ∧ ∀ m, ox.2 m = 0 ∨ ox.2 m = 1)) zN := by
  refine zStart hfl (by decide) (own := RL) rfl [(0, .ref 0), (1, .int (zI v)), (2, .int (zI w))] (Nat.le_of_ble_eq_true rfl) rfl (fun k hkl hinit hk0 F => ?_)
  have hn9 := hI.c.2.2.1
  refine z_iload_n F 2 dL_does_0 rfl rfl ?_
  refine z_iconst (z := 5) F dL_does_1 (by decide) ?_
  refine z_irem F (w % 5) ⟨by decide, by decide⟩ (by decide) (zI_rem (by omega) (by omega) (by decide) (by decide)) dL_does_2 ?_
  refine z_istore_n F [(3, .int (zI (w % 5))), (0, .ref 0), (1, .int (zI v)), (2, .int (zI w))] dL_does_3 rfl (by decide) rfl ?_
  refine z_iload_n F 3 dL_does_4 rfl rfl ?_
  refine z_iconst (z := 5) F dL_does_5 (by decide) ?_
  refine z_idiv F (w / 5) ⟨by decide, by decide⟩ (by decide) (zI_div (by omega) (by omega) (by decide) (by decide)) dL_does_6 ?_
  refine z_sipush (z := 400) F dL_does_7 (by decide) ?_
  refine z_irem F ((w / 5) % 400) ⟨by decide, by decide⟩ (by decide) (zI_rem (by omega) (by omega) (by decide) (by decide)) dL_does_10 ?_
  refine z_istore F [(4, .int (zI ((w / 5) % 400))), (3, .int (zI (w % 5))), (0, .ref 0), (1, .int (zI v)), (2, .int (zI w))] dL_does_11 (by decide) rfl ?_
  refine z_aload_n F 2 dL_does_13 rfl rfl ?_
  refine z_callV F [] [] (c_X6_visits F.2.2.1 G (s := s) (t := t) (o := o) hI.c hI.b) cv_L_25 (zAll_0 s t o) rfl rfl rfl ⟨by decide, by decide⟩ ⟨by decide, by decide⟩ (Nat.le_of_ble_eq_true rfl) dL_does_14 z_nx (z_ki (fun x_1 M_1 h_1 => ?_))
  have hx9 := (h_1).1.symm
  have hm9 := (h_1).2.symm
  subst hx9
  subst hm9
  refine z_if_ne F 24 dL_does_17 (by decide) (by omega) (fun c_2 => ?_) (fun c_2 => ?_)
  · skip
    have hz : ¬ s 9 0 0 = 0 := c_2
    refine z_iload_n F 3 dL_does_24 rfl rfl ?_
    refine z_bipush (z := 8) F dL_does_25 (by decide) ?_
    refine z_idiv F (v / 8) ⟨by decide, by decide⟩ (by decide) (zI_div (by omega) (by omega) (by decide) (by decide)) dL_does_27 ?_
    refine z_aload_n F 2 dL_does_28 rfl rfl ?_
    refine z_callV F [] [.int (zI (v / 8))] (c_X6_visits F.2.2.1 G (s := s) (t := t) (o := o) hI.c hI.b) cv_L_25 (zAll_0 s t o) rfl rfl rfl ⟨by decide, by decide⟩ ⟨by decide, by decide⟩ (Nat.le_of_ble_eq_true rfl) dL_does_29 z_nx (z_ki (fun x_3 M_3 h_3 => ?_))
    have hx9 := (h_3).1.symm
    have hm9 := (h_3).2.symm
    subst hx9
    subst hm9
    obtain ⟨b, hbq⟩ : ∃ b, v / 8 % s 9 0 0 = b := ⟨_, rfl⟩
    have hm0 := Int.emod_nonneg (v / 8) (show s 9 0 0 ≠ 0 by omega)
    have hm1 := Int.emod_lt_of_pos (v / 8) (show 0 < s 9 0 0 by omega)
    rw [hbq] at hm0 hm1
    refine z_irem F b (by omega) (by omega) ((zI_rem (by omega) (by omega) (by omega) (by omega)).trans (congrArg zI hbq)) dL_does_32 ?_
    refine z_istore F [(5, .int (zI b)), (4, .int (zI ((w / 5) % 400))), (3, .int (zI (w % 5))), (0, .ref 0), (1, .int (zI v)), (2, .int (zI w))] dL_does_33 (by decide) rfl ?_
    refine z_aload_n F 3 dL_does_35 rfl rfl ?_
    refine z_callV F [] [] (c_X6_visits F.2.2.1 G (s := s) (t := t) (o := o) hI.c hI.b) cv_L_25 (zAll_0 s t o) rfl rfl rfl ⟨by decide, by decide⟩ ⟨by decide, by decide⟩ (Nat.le_of_ble_eq_true rfl) dL_does_36 z_nx (z_ki (fun x_4 M_4 h_4 => ?_))
    have hx9 := (h_4).1.symm
    have hm9 := (h_4).2.symm
    subst hx9
    subst hm9
    refine z_if_le F 55 dL_does_39 (by decide) (by omega) (fun c_5 => ?_) (fun c_5 => ?_)
    · skip
      refine z_iconst (z := 0) F dL_does_55 (by decide) ?_
      refine z_istore F [(6, .int (zI 0)), (5, .int (zI b)), (4, .int (zI ((w / 5) % 400))), (3, .int (zI (w % 5))), (0, .ref 0), (1, .int (zI v)), (2, .int (zI w))] dL_does_56 (by decide) rfl ?_
      refine z_lv [(0, .ref 0), (1, .int (zI v)), (2, .int (zI w)), (3, .int (zI (w % 5))), (4, .int (zI (w / 5 % 400))), (5, .int (zI b)), (6, .int (zI 0))] [4, 5, 6, 3, 2, 1, 0] rfl ?_
      refine z_wd 1 6 (by decide) (by decide) ?_
      exact does_58 F hI hob h4 hG h18 hv (by omega) (by omega) (b := b) (th := 0) (by omega) (Or.inl rfl)
    · skip
      refine z_aload_n F 3 dL_does_42 rfl rfl ?_
      refine z_iload F 0 dL_does_43 rfl ?_
      refine z_callV F [.int (zI b)] [] (q_startOf F.2.2.1 G (s := s) (t := t) (o := o) hI (a := b) ⟨by omega, by omega⟩) cv_L_29 (zAll_0 s t o) rfl rfl rfl ⟨by decide, by decide⟩ ⟨by decide, by decide⟩ (Nat.le_of_ble_eq_true rfl) dL_does_45 z_nx (z_ki (fun x_6 M_6 h_6 => ?_))
      have hx9 := (h_6).1.symm
      have hm9 := (h_6).2.symm
      subst hx9
      subst hm9
      have hb13 := hI.b 13 b.toNat 0
      refine z_if_lt F 55 dL_does_48 (by decide) (by omega) (fun c_7 => ?_) (fun c_7 => ?_)
      · skip
        refine z_iconst (z := 0) F dL_does_55 (by decide) ?_
        refine z_istore F [(6, .int (zI 0)), (5, .int (zI b)), (4, .int (zI ((w / 5) % 400))), (3, .int (zI (w % 5))), (0, .ref 0), (1, .int (zI v)), (2, .int (zI w))] dL_does_56 (by decide) rfl ?_
        refine z_lv [(0, .ref 0), (1, .int (zI v)), (2, .int (zI w)), (3, .int (zI (w % 5))), (4, .int (zI (w / 5 % 400))), (5, .int (zI b)), (6, .int (zI 0))] [4, 5, 6, 3, 2, 1, 0] rfl ?_
        refine z_wd 1 6 (by decide) (by decide) ?_
        exact does_58 F hI hob h4 hG h18 hv (by omega) (by omega) (b := b) (th := 0) (by omega) (Or.inl rfl)
      · skip
        refine z_iconst (z := 1) F dL_does_51 (by decide) ?_
        refine z_goto F 56 dL_does_52 (by decide) ?_
        refine z_istore F [(6, .int (zI 1)), (5, .int (zI b)), (4, .int (zI ((w / 5) % 400))), (3, .int (zI (w % 5))), (0, .ref 0), (1, .int (zI v)), (2, .int (zI w))] dL_does_56 (by decide) rfl ?_
        refine z_lv [(0, .ref 0), (1, .int (zI v)), (2, .int (zI w)), (3, .int (zI (w % 5))), (4, .int (zI (w / 5 % 400))), (5, .int (zI b)), (6, .int (zI 1))] [4, 5, 6, 3, 2, 1, 0] rfl ?_
        refine z_wd 1 6 (by decide) (by decide) ?_
        exact does_58 F hI hob h4 hG h18 hv (by omega) (by omega) (b := b) (th := 1) (by omega) (Or.inr ⟨rfl, by omega, by omega⟩)
  · skip
    have hz : s 9 0 0 = 0 := by omega
    refine z_iconst (z := 0) F dL_does_20 (by decide) ?_
    refine z_goto F 33 dL_does_21 (by decide) ?_
    refine z_istore F [(5, .int (zI 0)), (4, .int (zI ((w / 5) % 400))), (3, .int (zI (w % 5))), (0, .ref 0), (1, .int (zI v)), (2, .int (zI w))] dL_does_33 (by decide) rfl ?_
    refine z_aload_n F 3 dL_does_35 rfl rfl ?_
    refine z_callV F [] [] (c_X6_visits F.2.2.1 G (s := s) (t := t) (o := o) hI.c hI.b) cv_L_25 (zAll_0 s t o) rfl rfl rfl ⟨by decide, by decide⟩ ⟨by decide, by decide⟩ (Nat.le_of_ble_eq_true rfl) dL_does_36 z_nx (z_ki (fun x_8 M_8 h_8 => ?_))
    have hx9 := (h_8).1.symm
    have hm9 := (h_8).2.symm
    subst hx9
    subst hm9
    refine z_if_le F 55 dL_does_39 (by decide) (by omega) (fun c_9 => ?_) (fun c_9 => ?_)
    · skip
      refine z_iconst (z := 0) F dL_does_55 (by decide) ?_
      refine z_istore F [(6, .int (zI 0)), (5, .int (zI 0)), (4, .int (zI ((w / 5) % 400))), (3, .int (zI (w % 5))), (0, .ref 0), (1, .int (zI v)), (2, .int (zI w))] dL_does_56 (by decide) rfl ?_
      refine z_lv [(0, .ref 0), (1, .int (zI v)), (2, .int (zI w)), (3, .int (zI (w % 5))), (4, .int (zI (w / 5 % 400))), (5, .int (zI 0)), (6, .int (zI 0))] [4, 5, 6, 3, 2, 1, 0] rfl ?_
      refine z_wd 1 6 (by decide) (by decide) ?_
      exact does_58 F hI hob h4 hG h18 hv (by omega) (by omega) (b := 0) (th := 0) (by omega) (Or.inl rfl)
    · skip
      refine z_aload_n F 3 dL_does_42 rfl rfl ?_
      refine z_iload F 0 dL_does_43 rfl ?_
      refine z_callV F [.int (zI 0)] [] (q_startOf F.2.2.1 G (s := s) (t := t) (o := o) hI (a := 0) ⟨by omega, by omega⟩) cv_L_29 (zAll_0 s t o) rfl rfl rfl ⟨by decide, by decide⟩ ⟨by decide, by decide⟩ (Nat.le_of_ble_eq_true rfl) dL_does_45 z_nx (z_ki (fun x_10 M_10 h_10 => ?_))
      have hx9 := (h_10).1.symm
      have hm9 := (h_10).2.symm
      subst hx9
      subst hm9
      have hb13 := hI.b 13 (0 : Int).toNat 0
      refine z_if_lt F 55 dL_does_48 (by decide) (by omega) (fun c_11 => ?_) (fun c_11 => ?_)
      · skip
        refine z_iconst (z := 0) F dL_does_55 (by decide) ?_
        refine z_istore F [(6, .int (zI 0)), (5, .int (zI 0)), (4, .int (zI ((w / 5) % 400))), (3, .int (zI (w % 5))), (0, .ref 0), (1, .int (zI v)), (2, .int (zI w))] dL_does_56 (by decide) rfl ?_
        refine z_lv [(0, .ref 0), (1, .int (zI v)), (2, .int (zI w)), (3, .int (zI (w % 5))), (4, .int (zI (w / 5 % 400))), (5, .int (zI 0)), (6, .int (zI 0))] [4, 5, 6, 3, 2, 1, 0] rfl ?_
        refine z_wd 1 6 (by decide) (by decide) ?_
        exact does_58 F hI hob h4 hG h18 hv (by omega) (by omega) (b := 0) (th := 0) (by omega) (Or.inl rfl)
      · skip
        refine z_iconst (z := 1) F dL_does_51 (by decide) ?_
        refine z_goto F 56 dL_does_52 (by decide) ?_
        refine z_istore F [(6, .int (zI 1)), (5, .int (zI 0)), (4, .int (zI ((w / 5) % 400))), (3, .int (zI (w % 5))), (0, .ref 0), (1, .int (zI v)), (2, .int (zI w))] dL_does_56 (by decide) rfl ?_
        refine z_lv [(0, .ref 0), (1, .int (zI v)), (2, .int (zI w)), (3, .int (zI (w % 5))), (4, .int (zI (w / 5 % 400))), (5, .int (zI 0)), (6, .int (zI 1))] [4, 5, 6, 3, 2, 1, 0] rfl ?_
        refine z_wd 1 6 (by decide) (by decide) ?_
        exact does_58 F hI hob h4 hG h18 hv (by omega) (by omega) (b := 0) (th := 1) (by omega) (Or.inr ⟨rfl, by omega, by omega⟩)

