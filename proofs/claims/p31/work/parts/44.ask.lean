/-! ===== the law: what it asks of a minute, of a member, of a rest ===== -/
abbrev rL_isRight : Room := { frames := 8, cells := 775, slots := 4650, locals := 135 }
set_option maxRecDepth 100000 in
set_option maxHeartbeats 4000000 in
theorem right_61 {k : zC} {G : zG} (F : zF k G cL_isRight 7 RL wsL_law (some .boolean) []) {s t : zS} {o : zOx} (hI : zInv s) {n x : Int} (hn : 0 ≤ n ∧ n ≤ s 0 0 0 ∧ n ≤ 4) (hx : 0 ≤ x ∧ x < 600) {w on : Int} (hw : 0 ≤ w ∧ w < s 9 0 0) (hon : on = 0 ∧ ¬ (¬ s 13 w.toNat 0 = -1 ∧ s 13 w.toNat 0 ≤ x ∧ x < s 13 w.toNat 0 + zLen s (s 10 w.toNat 0).toNat) ∨ on = 1 ∧ (¬ s 13 w.toNat 0 = -1 ∧ s 13 w.toNat 0 ≤ x ∧ x < s 13 w.toNat 0 + zLen s (s 10 w.toNat 0).toNat)) {cl0 sl0 : Nat} (hcl : cl0 + 20 ≤ 775) (hsl : sl0 + 120 ≤ 4650) (hnext : zJ k G rL_isRight 7 (zMQ k G rL_isRight (zRi (fun xr M2 => xr = 1 ∧ M2 = (zAll s t o))) zN) (zAll s t o) (cl0 + 20) (sl0 + 120) 180 [(0, .ref 0), (1, .int (zI n)), (2, .int (zI x)), (3, .int (zI 1)), (4, .int (zI w))] []) : zJ k G rL_isRight 7 (zMQ k G rL_isRight (zRi (fun xr M2 => xr = 1 ∧ M2 = (zAll s t o))) zN) (zAll s t o) cl0 sl0 61 [(0, .ref 0), (1, .int (zI n)), (2, .int (zI x)), (3, .int (zI 1)), (4, .int (zI w)), (5, .int (zI on))] [] := by
  have hn9 := hI.c.2.2.1
  refine z_iconst (z := 0) F dL_isRight_61 (by decide) ?_
  refine z_istore F [(6, .int (zI 0)), (0, .ref 0), (1, .int (zI n)), (2, .int (zI x)), (3, .int (zI 1)), (4, .int (zI w)), (5, .int (zI on))] dL_isRight_62 (by decide) rfl ?_
  have L1 : ∀ (fuel : Nat) (c : Int), (5 - c).toNat < fuel → 0 ≤ c → c ≤ 4 → zJ k G rL_isRight 7 (zMQ k G rL_isRight (zRi (fun xr M2 => xr = 1 ∧ M2 = (zAll s t o))) zN) (zAll s t o) (cl0 + 2 * c.toNat) (sl0 + 12 * c.toNat) 64 [(0, .ref 0), (1, .int (zI n)), (2, .int (zI x)), (3, .int (zI 1)), (4, .int (zI w)), (5, .int (zI on)), (6, .int (zI c))] [] := by
    intro fuel
    induction fuel with
    | zero => intros; omega
    | succ fuel L1_ih =>
      intro c hfuel hc0 hc4
      refine z_iload F 6 dL_isRight_64 rfl ?_
      refine z_iconst (z := 4) F dL_isRight_66 (by decide) ?_
      refine z_icmp_ge F 127 dL_isRight_67 (by decide) (by omega) ⟨by decide, by decide⟩ (fun c_1 => ?_) (fun c_1 => ?_)
      · skip
        refine z_iconst (z := 0) F dL_isRight_127 (by decide) ?_
        refine z_istore F [(6, .int (zI 0)), (0, .ref 0), (1, .int (zI n)), (2, .int (zI x)), (3, .int (zI 1)), (4, .int (zI w)), (5, .int (zI on))] dL_isRight_128 (by decide) rfl ?_
        have L2 : ∀ (fuel : Nat) (m : Int), (5 - m).toNat < fuel → 0 ≤ m → m ≤ n → zJ k G rL_isRight 7 (zMQ k G rL_isRight (zRi (fun xr M2 => xr = 1 ∧ M2 = (zAll s t o))) zN) (zAll s t o) (cl0 + 8 + 3 * m.toNat) (sl0 + 48 + 18 * m.toNat) 130 [(0, .ref 0), (1, .int (zI n)), (2, .int (zI x)), (3, .int (zI 1)), (4, .int (zI w)), (5, .int (zI on)), (6, .int (zI m))] [] := by
          intro fuel
          induction fuel with
          | zero => intros; omega
          | succ fuel L2_ih =>
            intro m hfuel hm0 hm1
            refine z_iload F 6 dL_isRight_130 rfl ?_
            refine z_iload_n F 1 dL_isRight_132 rfl rfl ?_
            refine z_icmp_ge F 180 dL_isRight_133 (by decide) (by omega) (by omega) (fun c_2 => ?_) (fun c_2 => ?_)
            · skip
              refine z_lv [(0, .ref 0), (1, .int (zI n)), (2, .int (zI x)), (3, .int (zI 1)), (4, .int (zI w))] [0, 1, 2, 3, 4] rfl ?_
              refine z_wd (cl0 + 20) (sl0 + 120) (show cl0 + 8 + 3 * m.toNat ≤ cl0 + 20 by omega) (show sl0 + 48 + 18 * m.toNat ≤ sl0 + 120 by omega) ?_
              exact hnext
            · skip
              have hkey : s 21 (m.toNat + 4) x.toNat = w → (¬ s 13 w.toNat 0 = -1 ∧ s 13 w.toNat 0 ≤ x ∧ x < s 13 w.toNat 0 + zLen s (s 10 w.toNat 0).toNat) ∧ s 11 w.toNat 0 = m := fun h9 => by
                have e9 := ((hI.2.2.2.2.2.2.2.2 m.toNat x.toNat).2 w.toNat).mp (by omega)
                have e8 := zOnM_on hI.c e9
                obtain ⟨a1, a2, a3, a4⟩ := e9
                exact ⟨⟨a2, by omega, by omega⟩, by omega⟩
              refine z_iload_n F 3 dL_isRight_136 rfl rfl ?_
              refine z_if_eq F 172 dL_isRight_137 (by decide) ⟨by decide, by decide⟩ (fun c_3 => ?_) (fun c_3 => ?_)
              · skip
                exact absurd c_3 (by decide)
              · skip
                refine z_aload_n F 0 dL_isRight_140 rfl rfl ?_
                refine z_iload F 6 dL_isRight_141 rfl ?_
                refine z_iload_n F 2 dL_isRight_143 rfl rfl ?_
                refine z_callV F [.int (zI m), .int (zI x)] [] (q_staffAt F.2.2.1 G (s := s) (t := t) (o := o) hI (a := m) (x := x) ⟨⟨by omega, by omega⟩, by omega, by omega⟩) cv_L_83 (zAll_0 s t o) rfl rfl rfl ⟨by decide, by decide⟩ ⟨show (cl0 + 8 + 3 * m.toNat) + 2 ≤ 775 by omega, show (sl0 + 48 + 18 * m.toNat) + 12 ≤ 4650 by omega⟩ (Nat.le_of_ble_eq_true rfl) dL_isRight_144 z_nx (z_ki (fun x_4 M_4 h_4 => ?_))
                have hx9 := (h_4).1.symm
                have hm9 := (h_4).2.symm
                subst hx9
                subst hm9
                have hb21 := hI.b 21 (m.toNat + 4) x.toNat
                refine z_iload F 4 dL_isRight_147 rfl ?_
                refine z_icmp_ne F 168 dL_isRight_149 (by decide) (by omega) (by omega) (fun c_5 => ?_) (fun c_5 => ?_)
                · skip
                  have ha : ¬ s 21 (m.toNat + 4) x.toNat = w := c_5
                  refine z_iconst (z := 1) F dL_isRight_168 (by decide) ?_
                  refine z_goto F 173 dL_isRight_169 (by decide) ?_
                  refine z_istore_n F [(3, .int (zI 1)), (0, .ref 0), (1, .int (zI n)), (2, .int (zI x)), (4, .int (zI w)), (5, .int (zI on)), (6, .int (zI m))] dL_isRight_173 rfl (by decide) rfl ?_
                  refine z_iinc F 6 [(6, .int (zI (m + 1))), (3, .int (zI 1)), (0, .ref 0), (1, .int (zI n)), (2, .int (zI x)), (4, .int (zI w)), (5, .int (zI on))] dL_isRight_174 rfl (by decide) rfl ?_
                  refine z_goto F 130 dL_isRight_177 (by decide) ?_
                  refine z_lv [(0, .ref 0), (1, .int (zI n)), (2, .int (zI x)), (3, .int (zI 1)), (4, .int (zI w)), (5, .int (zI on)), (6, .int (zI (m + 1)))] [2, 3, 4, 1, 5, 6, 0] rfl ?_
                  refine z_wd (cl0 + 8 + 3 * (m + 1).toNat) (sl0 + 48 + 18 * (m + 1).toNat) (show (cl0 + 8 + 3 * m.toNat) + 2 ≤ (cl0 + 8 + 3 * (m + 1).toNat) by omega) (show (sl0 + 48 + 18 * m.toNat) + 12 ≤ (sl0 + 48 + 18 * (m + 1).toNat) by omega) ?_
                  exact L2_ih (m + 1) (by omega) (by omega) (by omega)
                · skip
                  have ha : s 21 (m.toNat + 4) x.toNat = w := by omega
                  have hkk := hkey ha
                  refine z_iload F 5 dL_isRight_152 rfl ?_
                  refine z_if_eq F 172 dL_isRight_154 (by decide) (by omega) (fun c_6 => ?_) (fun c_6 => ?_)
                  · skip
                    exfalso; omega
                  · skip
                    refine z_aload_n F 0 dL_isRight_157 rfl rfl ?_
                    refine z_iload F 4 dL_isRight_158 rfl ?_
                    refine z_callV F [.int (zI w)] [] (q_staffOf F.2.2.1 G (s := s) (t := t) (o := o) hI (a := w) ⟨by omega, by omega⟩) cv_L_44 (zAll_0 s t o) rfl rfl rfl ⟨by decide, by decide⟩ ⟨show (cl0 + 8 + 3 * m.toNat) + 2 + 1 ≤ 775 by omega, show (sl0 + 48 + 18 * m.toNat) + 12 + 6 ≤ 4650 by omega⟩ (Nat.le_of_ble_eq_true rfl) dL_isRight_160 z_nx (z_ki (fun x_7 M_7 h_7 => ?_))
                    have hx9 := (h_7).1.symm
                    have hm9 := (h_7).2.symm
                    subst hx9
                    subst hm9
                    have hb11 := hI.b 11 w.toNat 0
                    refine z_ti (y := s 11 w.toNat 0) (if_neg hkk.1.1) ?_
                    refine z_iload F 6 dL_isRight_163 rfl ?_
                    refine z_icmp_ne F 172 dL_isRight_165 (by decide) (by omega) (by omega) (fun c_8 => ?_) (fun c_8 => ?_)
                    · skip
                      exact absurd hkk.2 c_8
                    · skip
                      refine z_iconst (z := 1) F dL_isRight_168 (by decide) ?_
                      refine z_goto F 173 dL_isRight_169 (by decide) ?_
                      refine z_istore_n F [(3, .int (zI 1)), (0, .ref 0), (1, .int (zI n)), (2, .int (zI x)), (4, .int (zI w)), (5, .int (zI on)), (6, .int (zI m))] dL_isRight_173 rfl (by decide) rfl ?_
                      refine z_iinc F 6 [(6, .int (zI (m + 1))), (3, .int (zI 1)), (0, .ref 0), (1, .int (zI n)), (2, .int (zI x)), (4, .int (zI w)), (5, .int (zI on))] dL_isRight_174 rfl (by decide) rfl ?_
                      refine z_goto F 130 dL_isRight_177 (by decide) ?_
                      refine z_lv [(0, .ref 0), (1, .int (zI n)), (2, .int (zI x)), (3, .int (zI 1)), (4, .int (zI w)), (5, .int (zI on)), (6, .int (zI (m + 1)))] [2, 3, 4, 1, 5, 6, 0] rfl ?_
                      refine z_wd (cl0 + 8 + 3 * (m + 1).toNat) (sl0 + 48 + 18 * (m + 1).toNat) (show (cl0 + 8 + 3 * m.toNat) + 2 + 1 ≤ (cl0 + 8 + 3 * (m + 1).toNat) by omega) (show (sl0 + 48 + 18 * m.toNat) + 12 + 6 ≤ (sl0 + 48 + 18 * (m + 1).toNat) by omega) ?_
                      exact L2_ih (m + 1) (by omega) (by omega) (by omega)
        refine z_lv [(0, .ref 0), (1, .int (zI n)), (2, .int (zI x)), (3, .int (zI 1)), (4, .int (zI w)), (5, .int (zI on)), (6, .int (zI 0))] [1, 2, 3, 4, 5, 6, 0] rfl ?_
        refine z_wd (cl0 + 8 + 3 * (0 : Int).toNat) (sl0 + 48 + 18 * (0 : Int).toNat) (show cl0 + 2 * c.toNat ≤ cl0 + 8 + 3 * 0 by omega) (show sl0 + 12 * c.toNat ≤ sl0 + 48 + 18 * 0 by omega) ?_
        exact L2 _ 0 (Nat.lt_succ_self _) (by omega) (by omega)
      · skip
        have hkey : s 21 c.toNat x.toNat = w ↔ (¬ s 13 w.toNat 0 = -1 ∧ s 13 w.toNat 0 ≤ x ∧ x < s 13 w.toNat 0 + zLen s (s 10 w.toNat 0).toNat) ∧ s 12 w.toNat 0 = c := by
          have e9 := (hI.2.2.2.2.2.2.2.1 c.toNat x.toNat (by omega)).2 w.toNat
          rw [show ((w.toNat : Nat) : Int) = w by omega] at e9
          rw [e9]
          unfold zOnC
          constructor
          · intro h9; obtain ⟨a1, a2, a3, a4, a5⟩ := h9; omega
          · intro h9; obtain ⟨⟨a1, a2, a3⟩, a4⟩ := h9; refine ⟨?_, a1, ?_, ?_, ?_⟩ <;> omega
        refine z_iload_n F 3 dL_isRight_70 rfl rfl ?_
        refine z_if_eq F 119 dL_isRight_71 (by decide) ⟨by decide, by decide⟩ (fun c_9 => ?_) (fun c_9 => ?_)
        · skip
          exact absurd c_9 (by decide)
        · skip
          refine z_aload_n F 0 dL_isRight_74 rfl rfl ?_
          refine z_iload F 6 dL_isRight_75 rfl ?_
          refine z_iload_n F 2 dL_isRight_77 rfl rfl ?_
          refine z_callV F [.int (zI c), .int (zI x)] [] (q_chairAt F.2.2.1 G (s := s) (t := t) (o := o) hI (a := c) (x := x) ⟨⟨by omega, by omega⟩, by omega, by omega⟩) cv_L_86 (zAll_0 s t o) rfl rfl rfl ⟨by decide, by decide⟩ ⟨show (cl0 + 2 * c.toNat) + 1 ≤ 775 by omega, show (sl0 + 12 * c.toNat) + 6 ≤ 4650 by omega⟩ (Nat.le_of_ble_eq_true rfl) dL_isRight_78 z_nx (z_ki (fun x_10 M_10 h_10 => ?_))
          have hx9 := (h_10).1.symm
          have hm9 := (h_10).2.symm
          subst hx9
          subst hm9
          have hb21 := hI.b 21 c.toNat x.toNat
          refine z_iload F 4 dL_isRight_81 rfl ?_
          refine z_icmp_ne F 90 dL_isRight_83 (by decide) (by omega) (by omega) (fun c_11 => ?_) (fun c_11 => ?_)
          · skip
            have ha : ¬ s 21 c.toNat x.toNat = w := c_11
            refine z_iconst (z := 0) F dL_isRight_90 (by decide) ?_
            refine z_iload F 5 dL_isRight_91 rfl ?_
            refine z_if_eq F 111 dL_isRight_93 (by decide) (by omega) (fun c_12 => ?_) (fun c_12 => ?_)
            · skip
              have hb : on = 0 := c_12
              refine z_iconst (z := 0) F dL_isRight_111 (by decide) ?_
              refine z_icmp_ne F 119 dL_isRight_112 (by decide) ⟨by decide, by decide⟩ ⟨by decide, by decide⟩ (fun c_13 => ?_) (fun c_13 => ?_)
              · skip
                exact absurd rfl c_13
              · skip
                refine z_iconst (z := 1) F dL_isRight_115 (by decide) ?_
                refine z_goto F 120 dL_isRight_116 (by decide) ?_
                refine z_istore_n F [(3, .int (zI 1)), (0, .ref 0), (1, .int (zI n)), (2, .int (zI x)), (4, .int (zI w)), (5, .int (zI on)), (6, .int (zI c))] dL_isRight_120 rfl (by decide) rfl ?_
                refine z_iinc F 6 [(6, .int (zI (c + 1))), (3, .int (zI 1)), (0, .ref 0), (1, .int (zI n)), (2, .int (zI x)), (4, .int (zI w)), (5, .int (zI on))] dL_isRight_121 rfl (by decide) rfl ?_
                refine z_goto F 64 dL_isRight_124 (by decide) ?_
                refine z_lv [(0, .ref 0), (1, .int (zI n)), (2, .int (zI x)), (3, .int (zI 1)), (4, .int (zI w)), (5, .int (zI on)), (6, .int (zI (c + 1)))] [2, 3, 4, 1, 5, 6, 0] rfl ?_
                refine z_wd (cl0 + 2 * (c + 1).toNat) (sl0 + 12 * (c + 1).toNat) (show (cl0 + 2 * c.toNat) + 1 ≤ (cl0 + 2 * (c + 1).toNat) by omega) (show (sl0 + 12 * c.toNat) + 6 ≤ (sl0 + 12 * (c + 1).toNat) by omega) ?_
                exact L1_ih (c + 1) (by omega) (by omega) (by omega)
            · skip
              have hb : on = 1 := by omega
              refine z_aload_n F 0 dL_isRight_96 rfl rfl ?_
              refine z_iload F 4 dL_isRight_97 rfl ?_
              refine z_callV F [.int (zI w)] [.int (zI 0)] (q_chairOf F.2.2.1 G (s := s) (t := t) (o := o) hI (a := w) ⟨by omega, by omega⟩) cv_L_62 (zAll_0 s t o) rfl rfl rfl ⟨by decide, by decide⟩ ⟨show (cl0 + 2 * c.toNat) + 1 + 1 ≤ 775 by omega, show (sl0 + 12 * c.toNat) + 6 + 6 ≤ 4650 by omega⟩ (Nat.le_of_ble_eq_true rfl) dL_isRight_99 z_nx (z_ki (fun x_14 M_14 h_14 => ?_))
              have hx9 := (h_14).1.symm
              have hm9 := (h_14).2.symm
              subst hx9
              subst hm9
              have hb12 := hI.b 12 w.toNat 0
              refine z_ti (y := s 12 w.toNat 0) (if_neg (by omega)) ?_
              refine z_iload F 6 dL_isRight_102 rfl ?_
              refine z_icmp_ne F 111 dL_isRight_104 (by decide) (by omega) (by omega) (fun c_15 => ?_) (fun c_15 => ?_)
              · skip
                have hd : ¬ s 12 w.toNat 0 = c := c_15
                refine z_iconst (z := 0) F dL_isRight_111 (by decide) ?_
                refine z_icmp_ne F 119 dL_isRight_112 (by decide) ⟨by decide, by decide⟩ ⟨by decide, by decide⟩ (fun c_16 => ?_) (fun c_16 => ?_)
                · skip
                  exact absurd rfl c_16
                · skip
                  refine z_iconst (z := 1) F dL_isRight_115 (by decide) ?_
                  refine z_goto F 120 dL_isRight_116 (by decide) ?_
                  refine z_istore_n F [(3, .int (zI 1)), (0, .ref 0), (1, .int (zI n)), (2, .int (zI x)), (4, .int (zI w)), (5, .int (zI on)), (6, .int (zI c))] dL_isRight_120 rfl (by decide) rfl ?_
                  refine z_iinc F 6 [(6, .int (zI (c + 1))), (3, .int (zI 1)), (0, .ref 0), (1, .int (zI n)), (2, .int (zI x)), (4, .int (zI w)), (5, .int (zI on))] dL_isRight_121 rfl (by decide) rfl ?_
                  refine z_goto F 64 dL_isRight_124 (by decide) ?_
                  refine z_lv [(0, .ref 0), (1, .int (zI n)), (2, .int (zI x)), (3, .int (zI 1)), (4, .int (zI w)), (5, .int (zI on)), (6, .int (zI (c + 1)))] [2, 3, 4, 1, 5, 6, 0] rfl ?_
                  refine z_wd (cl0 + 2 * (c + 1).toNat) (sl0 + 12 * (c + 1).toNat) (show (cl0 + 2 * c.toNat) + 1 + 1 ≤ (cl0 + 2 * (c + 1).toNat) by omega) (show (sl0 + 12 * c.toNat) + 6 + 6 ≤ (sl0 + 12 * (c + 1).toNat) by omega) ?_
                  exact L1_ih (c + 1) (by omega) (by omega) (by omega)
              · skip
                have hd : s 12 w.toNat 0 = c := by omega
                refine z_iconst (z := 1) F dL_isRight_107 (by decide) ?_
                refine z_goto F 112 dL_isRight_108 (by decide) ?_
                refine z_icmp_ne F 119 dL_isRight_112 (by decide) ⟨by decide, by decide⟩ ⟨by decide, by decide⟩ (fun c_17 => ?_) (fun c_17 => ?_)
                · skip
                  exfalso; omega
                · skip
                  exact absurd c_17 (by decide)
          · skip
            have ha : s 21 c.toNat x.toNat = w := by omega
            refine z_iconst (z := 1) F dL_isRight_86 (by decide) ?_
            refine z_goto F 91 dL_isRight_87 (by decide) ?_
            refine z_iload F 5 dL_isRight_91 rfl ?_
            refine z_if_eq F 111 dL_isRight_93 (by decide) (by omega) (fun c_18 => ?_) (fun c_18 => ?_)
            · skip
              have hb : on = 0 := c_18
              refine z_iconst (z := 0) F dL_isRight_111 (by decide) ?_
              refine z_icmp_ne F 119 dL_isRight_112 (by decide) ⟨by decide, by decide⟩ ⟨by decide, by decide⟩ (fun c_19 => ?_) (fun c_19 => ?_)
              · skip
                exfalso; omega
              · skip
                exact absurd c_19 (by decide)
            · skip
              have hb : on = 1 := by omega
              refine z_aload_n F 0 dL_isRight_96 rfl rfl ?_
              refine z_iload F 4 dL_isRight_97 rfl ?_
              refine z_callV F [.int (zI w)] [.int (zI 1)] (q_chairOf F.2.2.1 G (s := s) (t := t) (o := o) hI (a := w) ⟨by omega, by omega⟩) cv_L_62 (zAll_0 s t o) rfl rfl rfl ⟨by decide, by decide⟩ ⟨show (cl0 + 2 * c.toNat) + 1 + 1 ≤ 775 by omega, show (sl0 + 12 * c.toNat) + 6 + 6 ≤ 4650 by omega⟩ (Nat.le_of_ble_eq_true rfl) dL_isRight_99 z_nx (z_ki (fun x_20 M_20 h_20 => ?_))
              have hx9 := (h_20).1.symm
              have hm9 := (h_20).2.symm
              subst hx9
              subst hm9
              have hb12 := hI.b 12 w.toNat 0
              refine z_ti (y := s 12 w.toNat 0) (if_neg (by omega)) ?_
              refine z_iload F 6 dL_isRight_102 rfl ?_
              refine z_icmp_ne F 111 dL_isRight_104 (by decide) (by omega) (by omega) (fun c_21 => ?_) (fun c_21 => ?_)
              · skip
                have hd : ¬ s 12 w.toNat 0 = c := c_21
                refine z_iconst (z := 0) F dL_isRight_111 (by decide) ?_
                refine z_icmp_ne F 119 dL_isRight_112 (by decide) ⟨by decide, by decide⟩ ⟨by decide, by decide⟩ (fun c_22 => ?_) (fun c_22 => ?_)
                · skip
                  exfalso; omega
                · skip
                  exact absurd c_22 (by decide)
              · skip
                have hd : s 12 w.toNat 0 = c := by omega
                refine z_iconst (z := 1) F dL_isRight_107 (by decide) ?_
                refine z_goto F 112 dL_isRight_108 (by decide) ?_
                refine z_icmp_ne F 119 dL_isRight_112 (by decide) ⟨by decide, by decide⟩ ⟨by decide, by decide⟩ (fun c_23 => ?_) (fun c_23 => ?_)
                · skip
                  exact absurd rfl c_23
                · skip
                  refine z_iconst (z := 1) F dL_isRight_115 (by decide) ?_
                  refine z_goto F 120 dL_isRight_116 (by decide) ?_
                  refine z_istore_n F [(3, .int (zI 1)), (0, .ref 0), (1, .int (zI n)), (2, .int (zI x)), (4, .int (zI w)), (5, .int (zI on)), (6, .int (zI c))] dL_isRight_120 rfl (by decide) rfl ?_
                  refine z_iinc F 6 [(6, .int (zI (c + 1))), (3, .int (zI 1)), (0, .ref 0), (1, .int (zI n)), (2, .int (zI x)), (4, .int (zI w)), (5, .int (zI on))] dL_isRight_121 rfl (by decide) rfl ?_
                  refine z_goto F 64 dL_isRight_124 (by decide) ?_
                  refine z_lv [(0, .ref 0), (1, .int (zI n)), (2, .int (zI x)), (3, .int (zI 1)), (4, .int (zI w)), (5, .int (zI on)), (6, .int (zI (c + 1)))] [2, 3, 4, 1, 5, 6, 0] rfl ?_
                  refine z_wd (cl0 + 2 * (c + 1).toNat) (sl0 + 12 * (c + 1).toNat) (show (cl0 + 2 * c.toNat) + 1 + 1 ≤ (cl0 + 2 * (c + 1).toNat) by omega) (show (sl0 + 12 * c.toNat) + 6 + 6 ≤ (sl0 + 12 * (c + 1).toNat) by omega) ?_
                  exact L1_ih (c + 1) (by omega) (by omega) (by omega)
  refine z_lv [(0, .ref 0), (1, .int (zI n)), (2, .int (zI x)), (3, .int (zI 1)), (4, .int (zI w)), (5, .int (zI on)), (6, .int (zI 0))] [1, 2, 3, 4, 5, 6, 0] rfl ?_
  refine z_wd (cl0 + 2 * (0 : Int).toNat) (sl0 + 12 * (0 : Int).toNat) (Nat.le_refl _) (Nat.le_refl _) ?_
  exact L1 _ 0 (Nat.lt_succ_self _) (by omega) (by omega)
set_option maxRecDepth 100000 in
set_option maxHeartbeats 4000000 in
theorem c_L_isRight {l : Launch} (hfl : l.stackTraces = false) (G : zG) {s t : zS} {o : zOx} (hI : zInv s) {n x : Int} (hn : 0 ≤ n ∧ n ≤ s 0 0 0 ∧ n ≤ 4) (hx : 0 ≤ x ∧ x < 600)  : zCn l G yL_isRight (.code yL_isRight cL_isRight 7 (some .boolean)) rL_isRight [.ref 0, .int (zI n), .int (zI x)] (zAll s t o) (zRi (fun xr M2 => xr = 1 ∧ M2 = (zAll s t o))) zN := by
  refine zStart hfl (by decide) (own := RL) rfl [(0, .ref 0), (1, .int (zI n)), (2, .int (zI x))] (Nat.le_of_ble_eq_true rfl) rfl (fun k hkl hinit hk0 F => ?_)
  have hn9 := hI.c.2.2.1
  refine z_iconst (z := 1) F dL_isRight_0 (by decide) ?_
  refine z_istore_n F [(3, .int (zI 1)), (0, .ref 0), (1, .int (zI n)), (2, .int (zI x))] dL_isRight_1 rfl (by decide) rfl ?_
  refine z_iconst (z := 0) F dL_isRight_2 (by decide) ?_
  refine z_istore F [(4, .int (zI 0)), (3, .int (zI 1)), (0, .ref 0), (1, .int (zI n)), (2, .int (zI x))] dL_isRight_3 (by decide) rfl ?_
  have L1 : ∀ (fuel : Nat) (w : Int), (s 9 0 0 - w).toNat < fuel → 0 ≤ w → w ≤ s 9 0 0 → zJ k G rL_isRight 7 (zMQ k G rL_isRight (zRi (fun xr M2 => xr = 1 ∧ M2 = (zAll s t o))) zN) (zAll s t o) (25 * w.toNat) (150 * w.toNat) 5 [(0, .ref 0), (1, .int (zI n)), (2, .int (zI x)), (3, .int (zI 1)), (4, .int (zI w))] [] := by
    intro fuel
    induction fuel with
    | zero => intros; omega
    | succ fuel L1_ih =>
      intro w hfuel hw0 hw1
      refine z_iload F 4 dL_isRight_5 rfl ?_
      refine z_aload_n F 0 dL_isRight_7 rfl rfl ?_
      refine z_callV F [] [.int (zI w)] (c_X6_visits F.2.2.1 G (s := s) (t := t) (o := o) hI.c hI.b) cv_L_25 (zAll_0 s t o) rfl rfl rfl ⟨by decide, by decide⟩ ⟨show (25 * w.toNat) + 0 ≤ 775 by omega, show (150 * w.toNat) + 0 ≤ 4650 by omega⟩ (Nat.le_of_ble_eq_true rfl) dL_isRight_8 z_nx (z_ki (fun x_1 M_1 h_1 => ?_))
      have hx9 := (h_1).1.symm
      have hm9 := (h_1).2.symm
      subst hx9
      subst hm9
      refine z_icmp_ge F 186 dL_isRight_11 (by decide) (by omega) (by omega) (fun c_2 => ?_) (fun c_2 => ?_)
      · skip
        refine z_iload_n F 3 dL_isRight_186 rfl rfl ?_
        exact z_retz F rfl (by decide) (show (25 * w.toNat) + 0 ≤ 775 by omega) (show (150 * w.toNat) + 0 ≤ 4650 by omega) dL_isRight_187 ⟨_, rfl, rfl, rfl⟩
      · skip
        have hb13 := hI.b 13 w.toNat 0
        have hvs := hI.c.2.2.2.2.2.2.2.2.2.2.1 w.toNat (by omega)
        have hln := hI.c.len (s 10 w.toNat 0).toNat
        have hvd := hI.c.2.2.2.2.2.2.2.2.2.2.2.2.2.1 w.toNat (by omega)
        refine z_aload_n F 0 dL_isRight_14 rfl rfl ?_
        refine z_iload F 4 dL_isRight_15 rfl ?_
        refine z_callV F [.int (zI w)] [] (q_startOf F.2.2.1 G (s := s) (t := t) (o := o) hI (a := w) ⟨by omega, by omega⟩) cv_L_29 (zAll_0 s t o) rfl rfl rfl ⟨by decide, by decide⟩ ⟨show (25 * w.toNat) + 0 + 1 ≤ 775 by omega, show (150 * w.toNat) + 0 + 6 ≤ 4650 by omega⟩ (Nat.le_of_ble_eq_true rfl) dL_isRight_17 z_nx (z_ki (fun x_3 M_3 h_3 => ?_))
        have hx9 := (h_3).1.symm
        have hm9 := (h_3).2.symm
        subst hx9
        subst hm9
        refine z_if_lt F 58 dL_isRight_20 (by decide) (by omega) (fun c_4 => ?_) (fun c_4 => ?_)
        · skip
          refine z_iconst (z := 0) F dL_isRight_58 (by decide) ?_
          refine z_istore F [(5, .int (zI 0)), (0, .ref 0), (1, .int (zI n)), (2, .int (zI x)), (3, .int (zI 1)), (4, .int (zI w))] dL_isRight_59 (by decide) rfl ?_
          refine z_lv [(0, .ref 0), (1, .int (zI n)), (2, .int (zI x)), (3, .int (zI 1)), (4, .int (zI w)), (5, .int (zI 0))] [1, 2, 3, 4, 5, 0] rfl ?_
          refine right_61 F hI hn hx (w := w) (on := 0) ⟨by omega, by omega⟩ (Or.inl ⟨rfl, by omega⟩) (cl0 := (25 * w.toNat) + 0 + 1) (sl0 := (150 * w.toNat) + 0 + 6) (by omega) (by omega) ?_
          refine z_iinc F 4 [(4, .int (zI (w + 1))), (0, .ref 0), (1, .int (zI n)), (2, .int (zI x)), (3, .int (zI 1))] dL_isRight_180 rfl (by decide) rfl ?_
          refine z_goto F 5 dL_isRight_183 (by decide) ?_
          refine z_lv [(0, .ref 0), (1, .int (zI n)), (2, .int (zI x)), (3, .int (zI 1)), (4, .int (zI (w + 1)))] [1, 2, 3, 4, 0] rfl ?_
          refine z_wd (25 * (w + 1).toNat) (150 * (w + 1).toNat) (show (25 * w.toNat) + 0 + 1 + 20 ≤ (25 * (w + 1).toNat) by omega) (show (150 * w.toNat) + 0 + 6 + 120 ≤ (150 * (w + 1).toNat) by omega) ?_
          exact L1_ih (w + 1) (by omega) (by omega) (by omega)
        · skip
          refine z_iload_n F 2 dL_isRight_23 rfl rfl ?_
          refine z_aload_n F 0 dL_isRight_24 rfl rfl ?_
          refine z_iload F 4 dL_isRight_25 rfl ?_
          refine z_callV F [.int (zI w)] [.int (zI x)] (q_startOf F.2.2.1 G (s := s) (t := t) (o := o) hI (a := w) ⟨by omega, by omega⟩) cv_L_29 (zAll_0 s t o) rfl rfl rfl ⟨by decide, by decide⟩ ⟨show (25 * w.toNat) + 0 + 1 + 1 ≤ 775 by omega, show (150 * w.toNat) + 0 + 6 + 6 ≤ 4650 by omega⟩ (Nat.le_of_ble_eq_true rfl) dL_isRight_27 z_nx (z_ki (fun x_5 M_5 h_5 => ?_))
          have hx9 := (h_5).1.symm
          have hm9 := (h_5).2.symm
          subst hx9
          subst hm9
          refine z_icmp_lt F 58 dL_isRight_30 (by decide) (by omega) (by omega) (fun c_6 => ?_) (fun c_6 => ?_)
          · skip
            refine z_iconst (z := 0) F dL_isRight_58 (by decide) ?_
            refine z_istore F [(5, .int (zI 0)), (0, .ref 0), (1, .int (zI n)), (2, .int (zI x)), (3, .int (zI 1)), (4, .int (zI w))] dL_isRight_59 (by decide) rfl ?_
            refine z_lv [(0, .ref 0), (1, .int (zI n)), (2, .int (zI x)), (3, .int (zI 1)), (4, .int (zI w)), (5, .int (zI 0))] [1, 2, 3, 4, 5, 0] rfl ?_
            refine right_61 F hI hn hx (w := w) (on := 0) ⟨by omega, by omega⟩ (Or.inl ⟨rfl, by omega⟩) (cl0 := (25 * w.toNat) + 0 + 1 + 1) (sl0 := (150 * w.toNat) + 0 + 6 + 6) (by omega) (by omega) ?_
            refine z_iinc F 4 [(4, .int (zI (w + 1))), (0, .ref 0), (1, .int (zI n)), (2, .int (zI x)), (3, .int (zI 1))] dL_isRight_180 rfl (by decide) rfl ?_
            refine z_goto F 5 dL_isRight_183 (by decide) ?_
            refine z_lv [(0, .ref 0), (1, .int (zI n)), (2, .int (zI x)), (3, .int (zI 1)), (4, .int (zI (w + 1)))] [1, 2, 3, 4, 0] rfl ?_
            refine z_wd (25 * (w + 1).toNat) (150 * (w + 1).toNat) (show (25 * w.toNat) + 0 + 1 + 1 + 20 ≤ (25 * (w + 1).toNat) by omega) (show (150 * w.toNat) + 0 + 6 + 6 + 120 ≤ (150 * (w + 1).toNat) by omega) ?_
            exact L1_ih (w + 1) (by omega) (by omega) (by omega)
          · skip
            refine z_iload_n F 2 dL_isRight_33 rfl rfl ?_
            refine z_aload_n F 0 dL_isRight_34 rfl rfl ?_
            refine z_iload F 4 dL_isRight_35 rfl ?_
            refine z_callV F [.int (zI w)] [.int (zI x)] (q_startOf F.2.2.1 G (s := s) (t := t) (o := o) hI (a := w) ⟨by omega, by omega⟩) cv_L_29 (zAll_0 s t o) rfl rfl rfl ⟨by decide, by decide⟩ ⟨show (25 * w.toNat) + 0 + 1 + 1 + 1 ≤ 775 by omega, show (150 * w.toNat) + 0 + 6 + 6 + 6 ≤ 4650 by omega⟩ (Nat.le_of_ble_eq_true rfl) dL_isRight_37 z_nx (z_ki (fun x_7 M_7 h_7 => ?_))
            have hx9 := (h_7).1.symm
            have hm9 := (h_7).2.symm
            subst hx9
            subst hm9
            refine z_aload_n F 0 dL_isRight_40 rfl rfl ?_
            refine z_aload_n F 0 dL_isRight_41 rfl rfl ?_
            refine z_iload F 4 dL_isRight_42 rfl ?_
            refine z_callV F [.int (zI w)] [.ref 0, .int (zI (s 13 w.toNat 0)), .int (zI x)] (q_serviceOf F.2.2.1 G (s := s) (t := t) (o := o) hI (a := w) ⟨by omega, by omega⟩) cv_L_47 (zAll_0 s t o) rfl rfl rfl ⟨by decide, by decide⟩ ⟨show (25 * w.toNat) + 0 + 1 + 1 + 1 + 1 ≤ 775 by omega, show (150 * w.toNat) + 0 + 6 + 6 + 6 + 6 ≤ 4650 by omega⟩ (Nat.le_of_ble_eq_true rfl) dL_isRight_44 z_nx (z_ki (fun x_8 M_8 h_8 => ?_))
            have hx9 := (h_8).1.symm
            have hm9 := (h_8).2.symm
            subst hx9
            subst hm9
            refine z_callV F [.int (zI (s 10 w.toNat 0))] [.int (zI (s 13 w.toNat 0)), .int (zI x)] (q_lengthOf F.2.2.1 G (s := s) (t := t) (o := o) hI (a := s 10 w.toNat 0) ⟨by omega, by omega⟩) cv_L_80 (zAll_0 s t o) rfl rfl rfl ⟨by decide, by decide⟩ ⟨show (25 * w.toNat) + 0 + 1 + 1 + 1 + 1 + 1 ≤ 775 by omega, show (150 * w.toNat) + 0 + 6 + 6 + 6 + 6 + 6 ≤ 4650 by omega⟩ (Nat.le_of_ble_eq_true rfl) dL_isRight_47 z_nx (z_ki (fun x_9 M_9 h_9 => ?_))
            have hx9 := (h_9).1.symm
            have hm9 := (h_9).2.symm
            subst hx9
            subst hm9
            refine z_iadd F dL_isRight_50 ?_
            refine z_icmp_ge F 58 dL_isRight_51 (by decide) (by omega) (by omega) (fun c_10 => ?_) (fun c_10 => ?_)
            · skip
              refine z_iconst (z := 0) F dL_isRight_58 (by decide) ?_
              refine z_istore F [(5, .int (zI 0)), (0, .ref 0), (1, .int (zI n)), (2, .int (zI x)), (3, .int (zI 1)), (4, .int (zI w))] dL_isRight_59 (by decide) rfl ?_
              refine z_lv [(0, .ref 0), (1, .int (zI n)), (2, .int (zI x)), (3, .int (zI 1)), (4, .int (zI w)), (5, .int (zI 0))] [1, 2, 3, 4, 5, 0] rfl ?_
              refine right_61 F hI hn hx (w := w) (on := 0) ⟨by omega, by omega⟩ (Or.inl ⟨rfl, by omega⟩) (cl0 := (25 * w.toNat) + 0 + 1 + 1 + 1 + 1 + 1) (sl0 := (150 * w.toNat) + 0 + 6 + 6 + 6 + 6 + 6) (by omega) (by omega) ?_
              refine z_iinc F 4 [(4, .int (zI (w + 1))), (0, .ref 0), (1, .int (zI n)), (2, .int (zI x)), (3, .int (zI 1))] dL_isRight_180 rfl (by decide) rfl ?_
              refine z_goto F 5 dL_isRight_183 (by decide) ?_
              refine z_lv [(0, .ref 0), (1, .int (zI n)), (2, .int (zI x)), (3, .int (zI 1)), (4, .int (zI (w + 1)))] [1, 2, 3, 4, 0] rfl ?_
              refine z_wd (25 * (w + 1).toNat) (150 * (w + 1).toNat) (show (25 * w.toNat) + 0 + 1 + 1 + 1 + 1 + 1 + 20 ≤ (25 * (w + 1).toNat) by omega) (show (150 * w.toNat) + 0 + 6 + 6 + 6 + 6 + 6 + 120 ≤ (150 * (w + 1).toNat) by omega) ?_
              exact L1_ih (w + 1) (by omega) (by omega) (by omega)
            · skip
              refine z_iconst (z := 1) F dL_isRight_54 (by decide) ?_
              refine z_goto F 59 dL_isRight_55 (by decide) ?_
              refine z_istore F [(5, .int (zI 1)), (0, .ref 0), (1, .int (zI n)), (2, .int (zI x)), (3, .int (zI 1)), (4, .int (zI w))] dL_isRight_59 (by decide) rfl ?_
              refine z_lv [(0, .ref 0), (1, .int (zI n)), (2, .int (zI x)), (3, .int (zI 1)), (4, .int (zI w)), (5, .int (zI 1))] [1, 2, 3, 4, 5, 0] rfl ?_
              refine right_61 F hI hn hx (w := w) (on := 1) ⟨by omega, by omega⟩ (Or.inr ⟨rfl, by omega⟩) (cl0 := (25 * w.toNat) + 0 + 1 + 1 + 1 + 1 + 1) (sl0 := (150 * w.toNat) + 0 + 6 + 6 + 6 + 6 + 6) (by omega) (by omega) ?_
              refine z_iinc F 4 [(4, .int (zI (w + 1))), (0, .ref 0), (1, .int (zI n)), (2, .int (zI x)), (3, .int (zI 1))] dL_isRight_180 rfl (by decide) rfl ?_
              refine z_goto F 5 dL_isRight_183 (by decide) ?_
              refine z_lv [(0, .ref 0), (1, .int (zI n)), (2, .int (zI x)), (3, .int (zI 1)), (4, .int (zI (w + 1)))] [1, 2, 3, 4, 0] rfl ?_
              refine z_wd (25 * (w + 1).toNat) (150 * (w + 1).toNat) (show (25 * w.toNat) + 0 + 1 + 1 + 1 + 1 + 1 + 20 ≤ (25 * (w + 1).toNat) by omega) (show (150 * w.toNat) + 0 + 6 + 6 + 6 + 6 + 6 + 120 ≤ (150 * (w + 1).toNat) by omega) ?_
              exact L1_ih (w + 1) (by omega) (by omega) (by omega)
  refine z_lv [(0, .ref 0), (1, .int (zI n)), (2, .int (zI x)), (3, .int (zI 1)), (4, .int (zI 0))] [2, 3, 4, 1, 0] rfl ?_
  refine z_wd (25 * (0 : Int).toNat) (150 * (0 : Int).toNat) (by decide) (by decide) ?_
  exact L1 _ 0 (Nat.lt_succ_self _) (by omega) (by omega)

abbrev rL_isWorked : Room := { frames := 8, cells := 1210, slots := 7260, locals := 135 }
set_option maxRecDepth 100000 in
set_option maxHeartbeats 4000000 in
theorem c_L_isWorked {l : Launch} (hfl : l.stackTraces = false) (G : zG) {s t : zS} {o : zOx} (hI : zInv s) {a : Int} (ha : 0 ≤ a ∧ a < s 0 0 0)  : zCn l G yL_isWorked (.code yL_isWorked cL_isWorked 4 (some .boolean)) rL_isWorked [.ref 0, .int (zI a)] (zAll s t o) (zRi (fun xr M2 => xr = 1 ∧ M2 = (zAll s t o))) zN := by
  refine zStart hfl (by decide) (own := RL) rfl [(0, .ref 0), (1, .int (zI a))] (Nat.le_of_ble_eq_true rfl) rfl (fun k hkl hinit hk0 F => ?_)
  refine z_iconst (z := 0) F dL_isWorked_0 (by decide) ?_
  refine z_istore_n F [(2, .int (zI 0)), (0, .ref 0), (1, .int (zI a))] dL_isWorked_1 rfl (by decide) rfl ?_
  refine z_iconst (z := 0) F dL_isWorked_2 (by decide) ?_
  refine z_istore_n F [(3, .int (zI 0)), (2, .int (zI 0)), (0, .ref 0), (1, .int (zI a))] dL_isWorked_3 rfl (by decide) rfl ?_
  have L1 : ∀ (fuel : Nat) (m : Int) (u : Int), (601 - m).toNat < fuel → 0 ≤ m → m ≤ 600 → u = zTk (s 21 (a.toNat + 4)) m.toNat → zJ k G rL_isWorked 4 (zMQ k G rL_isWorked (zRi (fun xr M2 => xr = 1 ∧ M2 = (zAll s t o))) zN) (zAll s t o) (2 * m.toNat) (12 * m.toNat) 4 [(0, .ref 0), (1, .int (zI a)), (2, .int (zI u)), (3, .int (zI m))] [] := by
    intro fuel
    induction fuel with
    | zero => intros; omega
    | succ fuel L1_ih =>
      intro m u hfuel hm0 hm1 hu
      refine z_iload_n F 3 dL_isWorked_4 rfl rfl ?_
      refine z_sipush (z := 600) F dL_isWorked_5 (by decide) ?_
      refine z_icmp_ge F 34 dL_isWorked_8 (by decide) (by omega) ⟨by decide, by decide⟩ (fun c_1 => ?_) (fun c_1 => ?_)
      · skip
        have hld := hI.load a.toNat
        rw [show ((a.toNat : Nat) : Int) = a by omega] at hld
        have hrr := zTk_r (s 21 (a.toNat + 4)) 600
        rw [show m.toNat = 600 by omega] at hu
        refine z_iload_n F 2 dL_isWorked_34 rfl rfl ?_
        refine z_aload_n F 0 dL_isWorked_35 rfl rfl ?_
        refine z_iload_n F 1 dL_isWorked_36 rfl rfl ?_
        refine z_callV F [.int (zI a)] [.int (zI u)] (q_loadOf F.2.2.1 G (s := s) (t := t) (o := o) hI (a := a) ⟨by omega, by omega⟩) cv_L_38 (zAll_0 s t o) rfl rfl rfl ⟨by decide, by decide⟩ ⟨show (2 * m.toNat) + 1 ≤ 1210 by omega, show (12 * m.toNat) + 6 ≤ 7260 by omega⟩ (Nat.le_of_ble_eq_true rfl) dL_isWorked_37 z_nx (z_ki (fun x_2 M_2 h_2 => ?_))
        have hx9 := (h_2).1.symm
        have hm9 := (h_2).2.symm
        subst hx9
        subst hm9
        refine z_icmp_ne F 47 dL_isWorked_40 (by decide) (by omega) (by omega) (fun c_3 => ?_) (fun c_3 => ?_)
        · skip
          exact absurd (hu.trans hld) c_3
        · skip
          refine z_iconst (z := 1) F dL_isWorked_43 (by decide) ?_
          refine z_goto F 48 dL_isWorked_44 (by decide) ?_
          exact z_retz F rfl (by decide) (show (2 * m.toNat) + 1 ≤ 1210 by omega) (show (12 * m.toNat) + 6 ≤ 7260 by omega) dL_isWorked_48 ⟨_, rfl, rfl, rfl⟩
      · skip
        refine z_iload_n F 2 dL_isWorked_11 rfl rfl ?_
        refine z_aload_n F 0 dL_isWorked_12 rfl rfl ?_
        refine z_iload_n F 1 dL_isWorked_13 rfl rfl ?_
        refine z_iload_n F 3 dL_isWorked_14 rfl rfl ?_
        refine z_callV F [.int (zI a), .int (zI m)] [.int (zI u)] (q_staffAt F.2.2.1 G (s := s) (t := t) (o := o) hI (a := a) (x := m) ⟨⟨by omega, by omega⟩, by omega, by omega⟩) cv_L_83 (zAll_0 s t o) rfl rfl rfl ⟨by decide, by decide⟩ ⟨show (2 * m.toNat) + 2 ≤ 1210 by omega, show (12 * m.toNat) + 12 ≤ 7260 by omega⟩ (Nat.le_of_ble_eq_true rfl) dL_isWorked_15 z_nx (z_ki (fun x_4 M_4 h_4 => ?_))
        have hx9 := (h_4).1.symm
        have hm9 := (h_4).2.symm
        subst hx9
        subst hm9
        have hb21 := hI.b 21 (a.toNat + 4) m.toNat
        refine z_if_lt F 25 dL_isWorked_18 (by decide) (by omega) (fun c_5 => ?_) (fun c_5 => ?_)
        · skip
          have hst : u + 0 = zTk (s 21 (a.toNat + 4)) (m + 1).toNat := by
            rw [show (m + 1).toNat = m.toNat + 1 by omega, zTk, if_pos (by omega), hu]
          refine z_iconst (z := 0) F dL_isWorked_25 (by decide) ?_
          refine z_iadd F dL_isWorked_26 ?_
          refine z_istore_n F [(2, .int (zI (u + 0))), (0, .ref 0), (1, .int (zI a)), (3, .int (zI m))] dL_isWorked_27 rfl (by decide) rfl ?_
          refine z_iinc F 3 [(3, .int (zI (m + 1))), (2, .int (zI (u + 0))), (0, .ref 0), (1, .int (zI a))] dL_isWorked_28 rfl (by decide) rfl ?_
          refine z_goto F 4 dL_isWorked_31 (by decide) ?_
          refine z_lv [(0, .ref 0), (1, .int (zI a)), (2, .int (zI (u + 0))), (3, .int (zI (m + 1)))] [2, 3, 1, 0] rfl ?_
          refine z_wd (2 * (m + 1).toNat) (12 * (m + 1).toNat) (show (2 * m.toNat) + 2 ≤ (2 * (m + 1).toNat) by omega) (show (12 * m.toNat) + 12 ≤ (12 * (m + 1).toNat) by omega) ?_
          exact L1_ih (m + 1) (u + 0) (by omega) (by omega) (by omega) hst
        · skip
          have hst : u + 1 = zTk (s 21 (a.toNat + 4)) (m + 1).toNat := by
            rw [show (m + 1).toNat = m.toNat + 1 by omega, zTk, if_neg (by omega), hu]
          refine z_iconst (z := 1) F dL_isWorked_21 (by decide) ?_
          refine z_goto F 26 dL_isWorked_22 (by decide) ?_
          refine z_iadd F dL_isWorked_26 ?_
          refine z_istore_n F [(2, .int (zI (u + 1))), (0, .ref 0), (1, .int (zI a)), (3, .int (zI m))] dL_isWorked_27 rfl (by decide) rfl ?_
          refine z_iinc F 3 [(3, .int (zI (m + 1))), (2, .int (zI (u + 1))), (0, .ref 0), (1, .int (zI a))] dL_isWorked_28 rfl (by decide) rfl ?_
          refine z_goto F 4 dL_isWorked_31 (by decide) ?_
          refine z_lv [(0, .ref 0), (1, .int (zI a)), (2, .int (zI (u + 1))), (3, .int (zI (m + 1)))] [2, 3, 1, 0] rfl ?_
          refine z_wd (2 * (m + 1).toNat) (12 * (m + 1).toNat) (show (2 * m.toNat) + 2 ≤ (2 * (m + 1).toNat) by omega) (show (12 * m.toNat) + 12 ≤ (12 * (m + 1).toNat) by omega) ?_
          exact L1_ih (m + 1) (u + 1) (by omega) (by omega) (by omega) hst
  refine z_lv [(0, .ref 0), (1, .int (zI a)), (2, .int (zI 0)), (3, .int (zI 0))] [2, 3, 1, 0] rfl ?_
  refine z_wd (2 * (0 : Int).toNat) (12 * (0 : Int).toNat) (by decide) (by decide) ?_
  exact L1 _ 0 0 (Nat.lt_succ_self _) (by omega) (by omega) rfl

abbrev rL_isInRest : Room := { frames := 9, cells := 6020, slots := 36120, locals := 191 }
set_option maxRecDepth 100000 in
set_option maxHeartbeats 4000000 in
theorem c_L_isInRest {l : Launch} (hfl : l.stackTraces = false) (G : zG) {s t : zS} {o : zOx} (hI : zInv s) {a b : Int} (ha : 0 ≤ a ∧ a < s 9 0 0) (hd : ¬ s 13 a.toNat 0 = -1) (hb : 0 ≤ b ∧ b < s 4 0 0) (hg : zGd s (s 10 a.toNat 0).toNat)  : zCn l G yL_isInRest (.code yL_isInRest cL_isInRest 6 (some .boolean)) rL_isInRest [.ref 0, .int (zI a), .int (zI b)] (zAll s t o) (zRi (fun xr M2 => xr = 1 ∧ M2 = (zAll s t o))) zN := by
  refine zStart hfl (by decide) (own := RL) rfl [(0, .ref 0), (1, .int (zI a)), (2, .int (zI b))] (Nat.le_of_ble_eq_true rfl) rfl (fun k hkl hinit hk0 F => ?_)
  have hn9 := hI.c.2.2.1
  have hn4 := hI.c.2.1
  refine z_aload_n F 0 dL_isInRest_0 rfl rfl ?_
  refine z_iload_n F 1 dL_isInRest_1 rfl rfl ?_
  refine z_iload_n F 2 dL_isInRest_2 rfl rfl ?_
  refine z_callV F [.int (zI a), .int (zI b)] [] (q_inRest F.2.2.1 G (s := s) (t := t) (o := o) hI (a := a) (x := b) ⟨⟨⟨by omega, by omega⟩, hd⟩, by omega, by omega⟩) cv_L_77 (zAll_0 s t o) rfl rfl rfl ⟨by decide, by decide⟩ ⟨by decide, by decide⟩ (Nat.le_of_ble_eq_true rfl) dL_isInRest_3 z_nx (z_ki (fun x_1 M_1 h_1 => ?_))
  have hx9 := (h_1).1.symm
  have hm9 := (h_1).2.symm
  subst hx9
  subst hm9
  refine z_istore_n F [(3, .int (zI (zRest s a.toNat b.toNat))), (0, .ref 0), (1, .int (zI a)), (2, .int (zI b))] dL_isInRest_6 rfl (by decide) rfl ?_
  have hvv := hI.v (v := a.toNat) (by omega) hd
  have hvs := hI.c.2.2.2.2.2.2.2.2.2.2.1 a.toNat (by omega)
  have hlb := hI.c.len b.toNat
  have hla := hI.c.len (s 10 a.toNat 0).toNat
  have hr9 := zRest_r hI (v := a.toNat) (a := b.toNat) (by omega) hd hg
  have hrr : zR (zRest s a.toNat b.toNat) ∧ -1 ≤ zRest s a.toNat b.toNat := by
    rcases hr9 with h9 | ⟨h9, h8, _⟩
    · rw [h9]; exact ⟨⟨by decide, by decide⟩, by decide⟩
    · exact ⟨⟨by omega, by omega⟩, by omega⟩
  have hrz := hrr.1
  refine z_iload_n F 0 dL_isInRest_7 rfl rfl ?_
  refine z_iconst (z := -1) F dL_isInRest_8 (by decide) ?_
  refine z_icmp_eq F 46 dL_isInRest_9 (by decide) (by omega) ⟨by decide, by decide⟩ (fun c_2 => ?_) (fun c_2 => ?_)
  · skip
    have hz : zRest s a.toNat b.toNat = -1 := c_2
    refine z_iconst (z := 1) F dL_isInRest_46 (by decide) ?_
    refine z_goto F 51 dL_isInRest_47 (by decide) ?_
    refine z_istore F [(4, .int (zI 1)), (3, .int (zI (zRest s a.toNat b.toNat))), (0, .ref 0), (1, .int (zI a)), (2, .int (zI b))] dL_isInRest_51 (by decide) rfl ?_
    refine z_iload_n F 1 dL_isInRest_53 rfl rfl ?_
    refine z_istore F [(5, .int (zI (zRest s a.toNat b.toNat))), (4, .int (zI 1)), (3, .int (zI (zRest s a.toNat b.toNat))), (0, .ref 0), (1, .int (zI a)), (2, .int (zI b))] dL_isInRest_54 (by decide) rfl ?_
    have L1 : ∀ (fuel : Nat) (m : Int), (zRest s a.toNat b.toNat + zLen s b.toNat + 1 - m).toNat < fuel → zRest s a.toNat b.toNat ≤ m → m ≤ zRest s a.toNat b.toNat + zLen s b.toNat → zJ k G rL_isInRest 6 (zMQ k G rL_isInRest (zRi (fun xr M2 => xr = 1 ∧ M2 = (zAll s t o))) zN) (zAll s t o) (10 + 6 * (m - zRest s a.toNat b.toNat).toNat) (60 + 36 * (m - zRest s a.toNat b.toNat).toNat) 56 [(0, .ref 0), (1, .int (zI a)), (2, .int (zI b)), (3, .int (zI (zRest s a.toNat b.toNat))), (4, .int (zI 1)), (5, .int (zI m))] [] := by
      intro fuel
      induction fuel with
      | zero => intros; omega
      | succ fuel L1_ih =>
        intro m hfuel hm0 hm1
        refine z_iload F 4 dL_isInRest_56 rfl ?_
        refine z_if_eq F 120 dL_isInRest_58 (by decide) ⟨by decide, by decide⟩ (fun c_3 => ?_) (fun c_3 => ?_)
        · skip
          exact absurd c_3 (by decide)
        · skip
          refine z_iload_n F 3 dL_isInRest_61 rfl rfl ?_
          refine z_if_lt F 120 dL_isInRest_62 (by decide) (by omega) (fun c_4 => ?_) (fun c_4 => ?_)
          · skip
            refine z_iload F 4 dL_isInRest_120 rfl ?_
            exact z_retz F rfl (by decide) (show (10 + 6 * (m - zRest s a.toNat b.toNat).toNat) ≤ 6020 by omega) (show (60 + 36 * (m - zRest s a.toNat b.toNat).toNat) ≤ 36120 by omega) dL_isInRest_122 ⟨_, rfl, rfl, rfl⟩
          · skip
            have hz9 : ¬ zRest s a.toNat b.toNat = -1 := by omega
            have hr7 := (hr9.resolve_left hz9).2.2 m.toNat
            refine z_iload F 5 dL_isInRest_65 rfl ?_
            refine z_iload_n F 3 dL_isInRest_67 rfl rfl ?_
            refine z_aload_n F 0 dL_isInRest_68 rfl rfl ?_
            refine z_iload_n F 2 dL_isInRest_69 rfl rfl ?_
            refine z_callV F [.int (zI b)] [.int (zI (zRest s a.toNat b.toNat)), .int (zI m)] (q_lengthOf F.2.2.1 G (s := s) (t := t) (o := o) hI (a := b) ⟨by omega, by omega⟩) cv_L_80 (zAll_0 s t o) rfl rfl rfl ⟨by decide, by decide⟩ ⟨show (10 + 6 * (m - zRest s a.toNat b.toNat).toNat) + 1 ≤ 6020 by omega, show (60 + 36 * (m - zRest s a.toNat b.toNat).toNat) + 6 ≤ 36120 by omega⟩ (Nat.le_of_ble_eq_true rfl) dL_isInRest_70 z_nx (z_ki (fun x_5 M_5 h_5 => ?_))
            have hx9 := (h_5).1.symm
            have hm9 := (h_5).2.symm
            subst hx9
            subst hm9
            refine z_iadd F dL_isInRest_73 ?_
            refine z_icmp_ge F 120 dL_isInRest_74 (by decide) (by omega) (by omega) (fun c_6 => ?_) (fun c_6 => ?_)
            · skip
              refine z_iload F 4 dL_isInRest_120 rfl ?_
              exact z_retz F rfl (by decide) (show (10 + 6 * (m - zRest s a.toNat b.toNat).toNat) + 1 ≤ 6020 by omega) (show (60 + 36 * (m - zRest s a.toNat b.toNat).toNat) + 6 ≤ 36120 by omega) dL_isInRest_122 ⟨_, rfl, rfl, rfl⟩
            · skip
              have hr6 := hr7 (by omega) (by omega)
              have hb1 := hI.b 21 ((s 11 a.toNat 0).toNat + 4) m.toNat
              have hb2 := hI.b 21 (s 12 a.toNat 0).toNat m.toNat
              have haa : ((a.toNat : Nat) : Int) = a := by omega
              refine z_aload_n F 0 dL_isInRest_77 rfl rfl ?_
              refine z_aload_n F 0 dL_isInRest_78 rfl rfl ?_
              refine z_iload_n F 1 dL_isInRest_79 rfl rfl ?_
              refine z_callV F [.int (zI a)] [.ref 0] (q_staffOf F.2.2.1 G (s := s) (t := t) (o := o) hI (a := a) ⟨by omega, by omega⟩) cv_L_44 (zAll_0 s t o) rfl rfl rfl ⟨by decide, by decide⟩ ⟨show (10 + 6 * (m - zRest s a.toNat b.toNat).toNat) + 1 + 1 ≤ 6020 by omega, show (60 + 36 * (m - zRest s a.toNat b.toNat).toNat) + 6 + 6 ≤ 36120 by omega⟩ (Nat.le_of_ble_eq_true rfl) dL_isInRest_80 z_nx (z_ki (fun x_7 M_7 h_7 => ?_))
              have hx9 := (h_7).1.symm
              have hm9 := (h_7).2.symm
              subst hx9
              subst hm9
              refine z_ti (y := s 11 a.toNat 0) (if_neg hd) ?_
              refine z_iload F 5 dL_isInRest_83 rfl ?_
              refine z_callV F [.int (zI (s 11 a.toNat 0)), .int (zI m)] [] (q_staffAt F.2.2.1 G (s := s) (t := t) (o := o) hI (a := s 11 a.toNat 0) (x := m) ⟨⟨by omega, by omega⟩, by omega, by omega⟩) cv_L_83 (zAll_0 s t o) rfl rfl rfl ⟨by decide, by decide⟩ ⟨show (10 + 6 * (m - zRest s a.toNat b.toNat).toNat) + 1 + 1 + 2 ≤ 6020 by omega, show (60 + 36 * (m - zRest s a.toNat b.toNat).toNat) + 6 + 6 + 12 ≤ 36120 by omega⟩ (Nat.le_of_ble_eq_true rfl) dL_isInRest_85 z_nx (z_ki (fun x_8 M_8 h_8 => ?_))
              have hx9 := (h_8).1.symm
              have hm9 := (h_8).2.symm
              subst hx9
              subst hm9
              refine z_iload_n F 1 dL_isInRest_88 rfl rfl ?_
              refine z_icmp_eq F 111 dL_isInRest_89 (by decide) (by omega) (by omega) (fun c_9 => ?_) (fun c_9 => ?_)
              · skip
                exact absurd (c_9.trans haa.symm) hr6.1
              · skip
                refine z_aload_n F 0 dL_isInRest_92 rfl rfl ?_
                refine z_aload_n F 0 dL_isInRest_93 rfl rfl ?_
                refine z_iload_n F 1 dL_isInRest_94 rfl rfl ?_
                refine z_callV F [.int (zI a)] [.ref 0] (q_chairOf F.2.2.1 G (s := s) (t := t) (o := o) hI (a := a) ⟨by omega, by omega⟩) cv_L_62 (zAll_0 s t o) rfl rfl rfl ⟨by decide, by decide⟩ ⟨show (10 + 6 * (m - zRest s a.toNat b.toNat).toNat) + 1 + 1 + 2 + 1 ≤ 6020 by omega, show (60 + 36 * (m - zRest s a.toNat b.toNat).toNat) + 6 + 6 + 12 + 6 ≤ 36120 by omega⟩ (Nat.le_of_ble_eq_true rfl) dL_isInRest_95 z_nx (z_ki (fun x_10 M_10 h_10 => ?_))
                have hx9 := (h_10).1.symm
                have hm9 := (h_10).2.symm
                subst hx9
                subst hm9
                refine z_ti (y := s 12 a.toNat 0) (if_neg hd) ?_
                refine z_iload F 5 dL_isInRest_98 rfl ?_
                refine z_callV F [.int (zI (s 12 a.toNat 0)), .int (zI m)] [] (q_chairAt F.2.2.1 G (s := s) (t := t) (o := o) hI (a := s 12 a.toNat 0) (x := m) ⟨⟨by omega, by omega⟩, by omega, by omega⟩) cv_L_86 (zAll_0 s t o) rfl rfl rfl ⟨by decide, by decide⟩ ⟨show (10 + 6 * (m - zRest s a.toNat b.toNat).toNat) + 1 + 1 + 2 + 1 + 1 ≤ 6020 by omega, show (60 + 36 * (m - zRest s a.toNat b.toNat).toNat) + 6 + 6 + 12 + 6 + 6 ≤ 36120 by omega⟩ (Nat.le_of_ble_eq_true rfl) dL_isInRest_100 z_nx (z_ki (fun x_11 M_11 h_11 => ?_))
                have hx9 := (h_11).1.symm
                have hm9 := (h_11).2.symm
                subst hx9
                subst hm9
                refine z_iload_n F 1 dL_isInRest_103 rfl rfl ?_
                refine z_icmp_ne F 111 dL_isInRest_104 (by decide) (by omega) (by omega) (fun c_12 => ?_) (fun c_12 => ?_)
                · skip
                  exact absurd (hr6.2.trans haa) c_12
                · skip
                  refine z_iconst (z := 1) F dL_isInRest_107 (by decide) ?_
                  refine z_goto F 112 dL_isInRest_108 (by decide) ?_
                  refine z_istore F [(4, .int (zI 1)), (0, .ref 0), (1, .int (zI a)), (2, .int (zI b)), (3, .int (zI (zRest s a.toNat b.toNat))), (5, .int (zI m))] dL_isInRest_112 (by decide) rfl ?_
                  refine z_iinc F 5 [(5, .int (zI (m + 1))), (4, .int (zI 1)), (0, .ref 0), (1, .int (zI a)), (2, .int (zI b)), (3, .int (zI (zRest s a.toNat b.toNat)))] dL_isInRest_114 rfl (by decide) rfl ?_
                  refine z_goto F 56 dL_isInRest_117 (by decide) ?_
                  refine z_lv [(0, .ref 0), (1, .int (zI a)), (2, .int (zI b)), (3, .int (zI (zRest s a.toNat b.toNat))), (4, .int (zI 1)), (5, .int (zI (m + 1)))] [2, 3, 4, 5, 1, 0] rfl ?_
                  refine z_wd (10 + 6 * (m + 1 - zRest s a.toNat b.toNat).toNat) (60 + 36 * (m + 1 - zRest s a.toNat b.toNat).toNat) (show (10 + 6 * (m - zRest s a.toNat b.toNat).toNat) + 1 + 1 + 2 + 1 + 1 ≤ (10 + 6 * (m + 1 - zRest s a.toNat b.toNat).toNat) by omega) (show (60 + 36 * (m - zRest s a.toNat b.toNat).toNat) + 6 + 6 + 12 + 6 + 6 ≤ (60 + 36 * (m + 1 - zRest s a.toNat b.toNat).toNat) by omega) ?_
                  exact L1_ih (m + 1) (by omega) (by omega) (by omega)
    refine z_lv [(0, .ref 0), (1, .int (zI a)), (2, .int (zI b)), (3, .int (zI (zRest s a.toNat b.toNat))), (4, .int (zI 1)), (5, .int (zI (zRest s a.toNat b.toNat)))] [3, 4, 5, 2, 1, 0] rfl ?_
    refine z_wd (10 + 6 * (zRest s a.toNat b.toNat - zRest s a.toNat b.toNat).toNat) (60 + 36 * (zRest s a.toNat b.toNat - zRest s a.toNat b.toNat).toNat) (Nat.le_trans (m := 10) (by decide) (Nat.le_add_right _ _)) (Nat.le_trans (m := 60) (by decide) (Nat.le_add_right _ _)) ?_
    exact L1 _ (zRest s a.toNat b.toNat) (Nat.lt_succ_self _) (Int.le_refl _) (by omega)
  · skip
    have hz : ¬ zRest s a.toNat b.toNat = -1 := c_2
    have hr8 := hr9.resolve_left hz
    refine z_iload_n F 0 dL_isInRest_12 rfl rfl ?_
    refine z_aload_n F 1 dL_isInRest_13 rfl rfl ?_
    refine z_iload_n F 2 dL_isInRest_14 rfl rfl ?_
    refine z_callV F [.int (zI a)] [.int (zI (zRest s a.toNat b.toNat))] (q_startOf F.2.2.1 G (s := s) (t := t) (o := o) hI (a := a) ⟨by omega, by omega⟩) cv_L_29 (zAll_0 s t o) rfl rfl rfl ⟨by decide, by decide⟩ ⟨by decide, by decide⟩ (Nat.le_of_ble_eq_true rfl) dL_isInRest_15 z_nx (z_ki (fun x_13 M_13 h_13 => ?_))
    have hx9 := (h_13).1.symm
    have hm9 := (h_13).2.symm
    subst hx9
    subst hm9
    refine z_icmp_le F 50 dL_isInRest_18 (by decide) (by omega) (by omega) (fun c_14 => ?_) (fun c_14 => ?_)
    · skip
      exact absurd hr8.1 (by omega)
    · skip
      refine z_iload_n F 0 dL_isInRest_21 rfl rfl ?_
      refine z_aload_n F 1 dL_isInRest_22 rfl rfl ?_
      refine z_iload_n F 3 dL_isInRest_23 rfl rfl ?_
      refine z_callV F [.int (zI b)] [.int (zI (zRest s a.toNat b.toNat))] (q_lengthOf F.2.2.1 G (s := s) (t := t) (o := o) hI (a := b) ⟨by omega, by omega⟩) cv_L_80 (zAll_0 s t o) rfl rfl rfl ⟨by decide, by decide⟩ ⟨by decide, by decide⟩ (Nat.le_of_ble_eq_true rfl) dL_isInRest_24 z_nx (z_ki (fun x_15 M_15 h_15 => ?_))
      have hx9 := (h_15).1.symm
      have hm9 := (h_15).2.symm
      subst hx9
      subst hm9
      refine z_iadd F dL_isInRest_27 ?_
      refine z_aload_n F 1 dL_isInRest_28 rfl rfl ?_
      refine z_iload_n F 2 dL_isInRest_29 rfl rfl ?_
      refine z_callV F [.int (zI a)] [.int (zI ((zRest s a.toNat b.toNat) + (zLen s b.toNat)))] (q_startOf F.2.2.1 G (s := s) (t := t) (o := o) hI (a := a) ⟨by omega, by omega⟩) cv_L_29 (zAll_0 s t o) rfl rfl rfl ⟨by decide, by decide⟩ ⟨by decide, by decide⟩ (Nat.le_of_ble_eq_true rfl) dL_isInRest_30 z_nx (z_ki (fun x_16 M_16 h_16 => ?_))
      have hx9 := (h_16).1.symm
      have hm9 := (h_16).2.symm
      subst hx9
      subst hm9
      refine z_aload_n F 1 dL_isInRest_33 rfl rfl ?_
      refine z_aload_n F 1 dL_isInRest_34 rfl rfl ?_
      refine z_iload_n F 2 dL_isInRest_35 rfl rfl ?_
      refine z_callV F [.int (zI a)] [.ref 0, .int (zI (s 13 a.toNat 0)), .int (zI ((zRest s a.toNat b.toNat) + (zLen s b.toNat)))] (q_serviceOf F.2.2.1 G (s := s) (t := t) (o := o) hI (a := a) ⟨by omega, by omega⟩) cv_L_47 (zAll_0 s t o) rfl rfl rfl ⟨by decide, by decide⟩ ⟨by decide, by decide⟩ (Nat.le_of_ble_eq_true rfl) dL_isInRest_36 z_nx (z_ki (fun x_17 M_17 h_17 => ?_))
      have hx9 := (h_17).1.symm
      have hm9 := (h_17).2.symm
      subst hx9
      subst hm9
      refine z_callV F [.int (zI (s 10 a.toNat 0))] [.int (zI (s 13 a.toNat 0)), .int (zI ((zRest s a.toNat b.toNat) + (zLen s b.toNat)))] (q_lengthOf F.2.2.1 G (s := s) (t := t) (o := o) hI (a := s 10 a.toNat 0) ⟨by omega, by omega⟩) cv_L_80 (zAll_0 s t o) rfl rfl rfl ⟨by decide, by decide⟩ ⟨by decide, by decide⟩ (Nat.le_of_ble_eq_true rfl) dL_isInRest_39 z_nx (z_ki (fun x_18 M_18 h_18 => ?_))
      have hx9 := (h_18).1.symm
      have hm9 := (h_18).2.symm
      subst hx9
      subst hm9
      refine z_iadd F dL_isInRest_42 ?_
      refine z_icmp_ge F 50 dL_isInRest_43 (by decide) (by omega) (by omega) (fun c_19 => ?_) (fun c_19 => ?_)
      · skip
        exact absurd hr8.2.1 (by omega)
      · skip
        refine z_iconst (z := 1) F dL_isInRest_46 (by decide) ?_
        refine z_goto F 51 dL_isInRest_47 (by decide) ?_
        refine z_istore F [(4, .int (zI 1)), (3, .int (zI (zRest s a.toNat b.toNat))), (0, .ref 0), (1, .int (zI a)), (2, .int (zI b))] dL_isInRest_51 (by decide) rfl ?_
        refine z_iload_n F 1 dL_isInRest_53 rfl rfl ?_
        refine z_istore F [(5, .int (zI (zRest s a.toNat b.toNat))), (4, .int (zI 1)), (3, .int (zI (zRest s a.toNat b.toNat))), (0, .ref 0), (1, .int (zI a)), (2, .int (zI b))] dL_isInRest_54 (by decide) rfl ?_
        have L1 : ∀ (fuel : Nat) (m : Int), (zRest s a.toNat b.toNat + zLen s b.toNat + 1 - m).toNat < fuel → zRest s a.toNat b.toNat ≤ m → m ≤ zRest s a.toNat b.toNat + zLen s b.toNat → zJ k G rL_isInRest 6 (zMQ k G rL_isInRest (zRi (fun xr M2 => xr = 1 ∧ M2 = (zAll s t o))) zN) (zAll s t o) (10 + 6 * (m - zRest s a.toNat b.toNat).toNat) (60 + 36 * (m - zRest s a.toNat b.toNat).toNat) 56 [(0, .ref 0), (1, .int (zI a)), (2, .int (zI b)), (3, .int (zI (zRest s a.toNat b.toNat))), (4, .int (zI 1)), (5, .int (zI m))] [] := by
          intro fuel
          induction fuel with
          | zero => intros; omega
          | succ fuel L1_ih =>
            intro m hfuel hm0 hm1
            refine z_iload F 4 dL_isInRest_56 rfl ?_
            refine z_if_eq F 120 dL_isInRest_58 (by decide) ⟨by decide, by decide⟩ (fun c_20 => ?_) (fun c_20 => ?_)
            · skip
              exact absurd c_20 (by decide)
            · skip
              refine z_iload_n F 3 dL_isInRest_61 rfl rfl ?_
              refine z_if_lt F 120 dL_isInRest_62 (by decide) (by omega) (fun c_21 => ?_) (fun c_21 => ?_)
              · skip
                refine z_iload F 4 dL_isInRest_120 rfl ?_
                exact z_retz F rfl (by decide) (show (10 + 6 * (m - zRest s a.toNat b.toNat).toNat) ≤ 6020 by omega) (show (60 + 36 * (m - zRest s a.toNat b.toNat).toNat) ≤ 36120 by omega) dL_isInRest_122 ⟨_, rfl, rfl, rfl⟩
              · skip
                have hz9 : ¬ zRest s a.toNat b.toNat = -1 := by omega
                have hr7 := (hr9.resolve_left hz9).2.2 m.toNat
                refine z_iload F 5 dL_isInRest_65 rfl ?_
                refine z_iload_n F 3 dL_isInRest_67 rfl rfl ?_
                refine z_aload_n F 0 dL_isInRest_68 rfl rfl ?_
                refine z_iload_n F 2 dL_isInRest_69 rfl rfl ?_
                refine z_callV F [.int (zI b)] [.int (zI (zRest s a.toNat b.toNat)), .int (zI m)] (q_lengthOf F.2.2.1 G (s := s) (t := t) (o := o) hI (a := b) ⟨by omega, by omega⟩) cv_L_80 (zAll_0 s t o) rfl rfl rfl ⟨by decide, by decide⟩ ⟨show (10 + 6 * (m - zRest s a.toNat b.toNat).toNat) + 1 ≤ 6020 by omega, show (60 + 36 * (m - zRest s a.toNat b.toNat).toNat) + 6 ≤ 36120 by omega⟩ (Nat.le_of_ble_eq_true rfl) dL_isInRest_70 z_nx (z_ki (fun x_22 M_22 h_22 => ?_))
                have hx9 := (h_22).1.symm
                have hm9 := (h_22).2.symm
                subst hx9
                subst hm9
                refine z_iadd F dL_isInRest_73 ?_
                refine z_icmp_ge F 120 dL_isInRest_74 (by decide) (by omega) (by omega) (fun c_23 => ?_) (fun c_23 => ?_)
                · skip
                  refine z_iload F 4 dL_isInRest_120 rfl ?_
                  exact z_retz F rfl (by decide) (show (10 + 6 * (m - zRest s a.toNat b.toNat).toNat) + 1 ≤ 6020 by omega) (show (60 + 36 * (m - zRest s a.toNat b.toNat).toNat) + 6 ≤ 36120 by omega) dL_isInRest_122 ⟨_, rfl, rfl, rfl⟩
                · skip
                  have hr6 := hr7 (by omega) (by omega)
                  have hb1 := hI.b 21 ((s 11 a.toNat 0).toNat + 4) m.toNat
                  have hb2 := hI.b 21 (s 12 a.toNat 0).toNat m.toNat
                  have haa : ((a.toNat : Nat) : Int) = a := by omega
                  refine z_aload_n F 0 dL_isInRest_77 rfl rfl ?_
                  refine z_aload_n F 0 dL_isInRest_78 rfl rfl ?_
                  refine z_iload_n F 1 dL_isInRest_79 rfl rfl ?_
                  refine z_callV F [.int (zI a)] [.ref 0] (q_staffOf F.2.2.1 G (s := s) (t := t) (o := o) hI (a := a) ⟨by omega, by omega⟩) cv_L_44 (zAll_0 s t o) rfl rfl rfl ⟨by decide, by decide⟩ ⟨show (10 + 6 * (m - zRest s a.toNat b.toNat).toNat) + 1 + 1 ≤ 6020 by omega, show (60 + 36 * (m - zRest s a.toNat b.toNat).toNat) + 6 + 6 ≤ 36120 by omega⟩ (Nat.le_of_ble_eq_true rfl) dL_isInRest_80 z_nx (z_ki (fun x_24 M_24 h_24 => ?_))
                  have hx9 := (h_24).1.symm
                  have hm9 := (h_24).2.symm
                  subst hx9
                  subst hm9
                  refine z_ti (y := s 11 a.toNat 0) (if_neg hd) ?_
                  refine z_iload F 5 dL_isInRest_83 rfl ?_
                  refine z_callV F [.int (zI (s 11 a.toNat 0)), .int (zI m)] [] (q_staffAt F.2.2.1 G (s := s) (t := t) (o := o) hI (a := s 11 a.toNat 0) (x := m) ⟨⟨by omega, by omega⟩, by omega, by omega⟩) cv_L_83 (zAll_0 s t o) rfl rfl rfl ⟨by decide, by decide⟩ ⟨show (10 + 6 * (m - zRest s a.toNat b.toNat).toNat) + 1 + 1 + 2 ≤ 6020 by omega, show (60 + 36 * (m - zRest s a.toNat b.toNat).toNat) + 6 + 6 + 12 ≤ 36120 by omega⟩ (Nat.le_of_ble_eq_true rfl) dL_isInRest_85 z_nx (z_ki (fun x_25 M_25 h_25 => ?_))
                  have hx9 := (h_25).1.symm
                  have hm9 := (h_25).2.symm
                  subst hx9
                  subst hm9
                  refine z_iload_n F 1 dL_isInRest_88 rfl rfl ?_
                  refine z_icmp_eq F 111 dL_isInRest_89 (by decide) (by omega) (by omega) (fun c_26 => ?_) (fun c_26 => ?_)
                  · skip
                    exact absurd (c_26.trans haa.symm) hr6.1
                  · skip
                    refine z_aload_n F 0 dL_isInRest_92 rfl rfl ?_
                    refine z_aload_n F 0 dL_isInRest_93 rfl rfl ?_
                    refine z_iload_n F 1 dL_isInRest_94 rfl rfl ?_
                    refine z_callV F [.int (zI a)] [.ref 0] (q_chairOf F.2.2.1 G (s := s) (t := t) (o := o) hI (a := a) ⟨by omega, by omega⟩) cv_L_62 (zAll_0 s t o) rfl rfl rfl ⟨by decide, by decide⟩ ⟨show (10 + 6 * (m - zRest s a.toNat b.toNat).toNat) + 1 + 1 + 2 + 1 ≤ 6020 by omega, show (60 + 36 * (m - zRest s a.toNat b.toNat).toNat) + 6 + 6 + 12 + 6 ≤ 36120 by omega⟩ (Nat.le_of_ble_eq_true rfl) dL_isInRest_95 z_nx (z_ki (fun x_27 M_27 h_27 => ?_))
                    have hx9 := (h_27).1.symm
                    have hm9 := (h_27).2.symm
                    subst hx9
                    subst hm9
                    refine z_ti (y := s 12 a.toNat 0) (if_neg hd) ?_
                    refine z_iload F 5 dL_isInRest_98 rfl ?_
                    refine z_callV F [.int (zI (s 12 a.toNat 0)), .int (zI m)] [] (q_chairAt F.2.2.1 G (s := s) (t := t) (o := o) hI (a := s 12 a.toNat 0) (x := m) ⟨⟨by omega, by omega⟩, by omega, by omega⟩) cv_L_86 (zAll_0 s t o) rfl rfl rfl ⟨by decide, by decide⟩ ⟨show (10 + 6 * (m - zRest s a.toNat b.toNat).toNat) + 1 + 1 + 2 + 1 + 1 ≤ 6020 by omega, show (60 + 36 * (m - zRest s a.toNat b.toNat).toNat) + 6 + 6 + 12 + 6 + 6 ≤ 36120 by omega⟩ (Nat.le_of_ble_eq_true rfl) dL_isInRest_100 z_nx (z_ki (fun x_28 M_28 h_28 => ?_))
                    have hx9 := (h_28).1.symm
                    have hm9 := (h_28).2.symm
                    subst hx9
                    subst hm9
                    refine z_iload_n F 1 dL_isInRest_103 rfl rfl ?_
                    refine z_icmp_ne F 111 dL_isInRest_104 (by decide) (by omega) (by omega) (fun c_29 => ?_) (fun c_29 => ?_)
                    · skip
                      exact absurd (hr6.2.trans haa) c_29
                    · skip
                      refine z_iconst (z := 1) F dL_isInRest_107 (by decide) ?_
                      refine z_goto F 112 dL_isInRest_108 (by decide) ?_
                      refine z_istore F [(4, .int (zI 1)), (0, .ref 0), (1, .int (zI a)), (2, .int (zI b)), (3, .int (zI (zRest s a.toNat b.toNat))), (5, .int (zI m))] dL_isInRest_112 (by decide) rfl ?_
                      refine z_iinc F 5 [(5, .int (zI (m + 1))), (4, .int (zI 1)), (0, .ref 0), (1, .int (zI a)), (2, .int (zI b)), (3, .int (zI (zRest s a.toNat b.toNat)))] dL_isInRest_114 rfl (by decide) rfl ?_
                      refine z_goto F 56 dL_isInRest_117 (by decide) ?_
                      refine z_lv [(0, .ref 0), (1, .int (zI a)), (2, .int (zI b)), (3, .int (zI (zRest s a.toNat b.toNat))), (4, .int (zI 1)), (5, .int (zI (m + 1)))] [2, 3, 4, 5, 1, 0] rfl ?_
                      refine z_wd (10 + 6 * (m + 1 - zRest s a.toNat b.toNat).toNat) (60 + 36 * (m + 1 - zRest s a.toNat b.toNat).toNat) (show (10 + 6 * (m - zRest s a.toNat b.toNat).toNat) + 1 + 1 + 2 + 1 + 1 ≤ (10 + 6 * (m + 1 - zRest s a.toNat b.toNat).toNat) by omega) (show (60 + 36 * (m - zRest s a.toNat b.toNat).toNat) + 6 + 6 + 12 + 6 + 6 ≤ (60 + 36 * (m + 1 - zRest s a.toNat b.toNat).toNat) by omega) ?_
                      exact L1_ih (m + 1) (by omega) (by omega) (by omega)
        refine z_lv [(0, .ref 0), (1, .int (zI a)), (2, .int (zI b)), (3, .int (zI (zRest s a.toNat b.toNat))), (4, .int (zI 1)), (5, .int (zI (zRest s a.toNat b.toNat)))] [3, 4, 5, 2, 1, 0] rfl ?_
        refine z_wd (10 + 6 * (zRest s a.toNat b.toNat - zRest s a.toNat b.toNat).toNat) (60 + 36 * (zRest s a.toNat b.toNat - zRest s a.toNat b.toNat).toNat) (Nat.le_trans (m := 10) (by decide) (Nat.le_add_right _ _)) (Nat.le_trans (m := 60) (by decide) (Nat.le_add_right _ _)) ?_
        exact L1 _ (zRest s a.toNat b.toNat) (Nat.lt_succ_self _) (Int.le_refl _) (by omega)

