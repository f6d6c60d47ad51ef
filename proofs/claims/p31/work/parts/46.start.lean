/-! THE CLAIM OUT OF ONE WALK OF THE LAW'S BODY. Your part is whole_start (and what it stands on); all else here is the same for every law, but numbers. -/
def R_law : String := "SalonBookLaw"
def lw_P (b : Addr) (xs : List Int32) (args : Array Value) (s : State) : Prop := args = #[.ref b] ∧ s.IntsAt b xs ∧ xs.length ≤ 260 ∧ (Jvm.Cond.and given_1 narrow_1).before args s = true
def lw_Q (_ : Array Value) (s : State) (o : Outcome) (t : State) : Prop := o = .returned (some (.int 1)) ∧ Framed s o t [] 600130 7301080
def lw_Z (below : List Frame) (a : Array Value) (s : State) : State → Prop := fun t => ∃ o, t.status = .running ∧ Ended t below o ∧ lw_Q a s o t
/-- the law's own end, with 1 on the stack, nothing written that was there before, its room as the claim has it -/
theorem lw_ret {p : Program} {l : Launch} {e : Env} {s : State} {m : MethodId} {below : List Frame} {meth : Method} {c : Code} {b : Nat} (hx : p.tables.exec = Jvm.exec) (hb : c.code = code) (hr : meth.sig.returnType = ret) (hlocks : meth.locks = false) {pc : Nat} {H : Heap} {ls : Array Slot} (hdg : decode code pc = .ok (.ireturn, 1)) : W p l e room_1 s m #[Value.ref b] below meth c H [] 600130 7301080 (lw_Z below #[Value.ref b] s) (F0 m pc ls [.int 1]) := by
  intro T hT X
  obtain ⟨fs, hret, hrun, hended, hW, hframe⟩ := X.leave (v := some (.int 1)) (hlocks := hlocks) (fun h => by rw [hr] at h; cases h)
  have hmeth' : T.vm.method? m = some meth := X.method'
  refine ⟨T.setFrames fs, ?_, .returned (some (.int 1)), hrun, hended, rfl, ⟨_, rfl⟩, hW, hframe⟩
  jvm_step X.here [X.here.top, hx, hb, hdg, hmeth', hr, ret, narrow_b1]
  (try refine ⟨rfl, ?_⟩); (try refine ⟨rfl, ?_⟩)
  first | (intro acts; rw [hret _ acts rfl rfl rfl]) | rw [hret _ _ rfl rfl rfl]
  exact Steps.refl _
/-- what holds at the law's entry: the machine, the code, the tables' words (any of lw_tbl by 'hts w (by decide +kernel)'), the script of L ints xs at the cell b, what the Statement gives of the start (any of its parts by flat_of_before) -/
def lw_At (p : Program) (s : State) (m : MethodId) (meth : Method) (c : Code) (b L : Nat) (xs : Nat → Int32) : Prop :=
  p.tables.exec = Jvm.exec ∧ c.code = code ∧ meth.sig.returnType = ret ∧ c.maxLocals = 6 ∧ s.vm.findClass R_law = some m.cls ∧ (∀ w ∈ lw_tbl, w.before #[Value.ref b] s = true) ∧ va_X b L xs s s.heap ∧ b < s.heap.size ∧ meth.locks = false ∧ (Jvm.Cond.and given_1 narrow_1).before #[Value.ref b] s = true
section ZLW
variable {k : zC} {G : zG} {M : zM} {cl sl : Nat} {lv : List (Nat × Value)}
theorem z_lawret {b : Nat} {tb : List ExceptionTableEntry} (F : zF k G cL_law 6 RL wsL_law (some .boolean) tb) (ha : k.2.1.1 = #[Value.ref b]) (hGb : k.1.2.2.2.1.heap.size ≤ G.2.2.1) (hcl : cl ≤ 600130) (hsl : sl ≤ 7301080) : zJ k G room_1 6 (lw_Z k.2.1.2.1 #[Value.ref b] k.1.2.2.2.1) M cl sl 174 lv [.int (zI 1)] := by
  obtain ⟨⟨p, l, e, s, m⟩, ⟨args, below, meth, c⟩, L0, M0⟩ := k
  obtain ⟨⟨hx, hb, hml, hown, hts⟩, hLow, hfl, hlk, hrt, htb⟩ := F
  have ha2 : args = #[Value.ref b] := ha
  subst ha2
  intro L H locs ls hR hA hv hs hS hl
  refine va_forget (fun q hq => Nat.le_trans hGb (hS.2.2 q hq)) ?_
  refine W.widen hcl hsl ?_
  exact lw_ret hx hb hrt hlk dL_law_174
end ZLW
set_option maxRecDepth 100000 in
set_option maxHeartbeats 4000000 in
theorem law_loop {k : zC} {G : zG} {Q : State → Prop} {tb : List ExceptionTableEntry} (F : zF k G cL_law 6 RL wsL_law (some .boolean) tb) {N : zS} {v g : Int} (hNI : zInv N) (e0 : N 0 0 0 = g) (hg : 1 ≤ g ∧ g ≤ 4) (e4 : N 4 0 0 = 5) (hGN : ∀ b : Nat, b < 5 → zGd N b) (h18N : N 18 0 0 = 0) (hv : 0 ≤ v ∧ v < 2147483648) (hend : ∀ (M : zM) (cl sl : Nat) (lv : List (Nat × Value)), cl ≤ 600130 → sl ≤ 7301080 → zJ k G room_1 6 Q M cl sl 174 lv [.int (zI 1)]) {cl0 sl0 : Nat} (hcl0 : cl0 ≤ 7860) (hsl0 : sl0 ≤ 58700) : zJ k G room_1 6 Q (zAll N z0 (0, fun _ => 0)) cl0 sl0 31 [(0, .ref 127), (1, .ref 0), (2, .int (zI v)), (3, .int (zI g)), (4, .int (zI 1)), (5, .int (zI 1))] [] := by
  have hck : ∀ m : Nat, (fun _ : Nat => (0 : Int)) m = 0 ∨ (fun _ : Nat => (0 : Int)) m = 1 := fun _ => Or.inl rfl
  have L1 : ∀ (fuel : Nat) (c : zS) (oa : Int) (ck : Nat → Int) (v : Int) (e : Int), (41 - e).toNat < fuel → zInv c → (∀ m, ck m = 0 ∨ ck m = 1) → c 0 0 0 = g → c 4 0 0 = 5 → (∀ b : Nat, b < 5 → zGd c b) → c 18 0 0 < e → 0 ≤ v ∧ v < 2147483648 → 1 ≤ e → e ≤ 40 → zJ k G room_1 6 Q (zAll c z0 (oa, ck)) (100 + 7760 * e.toNat) (12000 + 46700 * e.toNat) 31 [(0, .ref 127), (1, .ref 0), (2, .int (zI v)), (3, .int (zI g)), (4, .int (zI 1)), (5, .int (zI e))] [] := by
    intro fuel
    induction fuel with
    | zero => intros; omega
    | succ fuel L1_ih =>
      intro c oa ck v e hfuel hIc hck h0c h4 hG h18 hv he0 he1
      refine z_iload F 5 dL_law_31 rfl ?_
      refine z_bipush (z := 40) F dL_law_33 (by decide) ?_
      refine z_icmp_ge F 154 dL_law_35 (by decide) (by omega) ⟨by decide, by decide⟩ (fun c_1 => ?_) (fun c_1 => ?_)
      · skip
        refine z_iload F 4 dL_law_154 rfl ?_
        refine z_if_eq F 173 dL_law_156 (by decide) ⟨by decide, by decide⟩ (fun c_2 => ?_) (fun c_2 => ?_)
        · skip
          exact absurd c_2 (by decide)
        · skip
          refine z_aload_n F 1 dL_law_159 rfl rfl ?_
          refine z_iload_n F 2 dL_law_160 rfl rfl ?_
          refine z_iload_n F 3 dL_law_161 rfl rfl ?_
          obtain ⟨mb, hmb⟩ : ∃ mb, v % g = mb := ⟨_, rfl⟩
          have hm0 := Int.emod_nonneg v (show g ≠ 0 by omega)
          have hm1 := Int.emod_lt_of_pos v (show 0 < g by omega)
          rw [hmb] at hm0 hm1
          refine z_irem F mb (by omega) (by omega) ((zI_rem (by omega) (by omega) (by omega) (by omega)).trans (congrArg zI hmb)) dL_law_162 ?_
          refine z_callS F [.ref 0, .int (zI mb)] [] (c_L_isWorked F.2.2.1 G (s := c) (t := z0) (o := (oa, ck)) hIc (a := mb) (by omega)) cs_L_110 rfl ⟨by decide, by decide⟩ ⟨show (100 + 7760 * e.toNat) + 1210 ≤ 600130 by omega, show (12000 + 46700 * e.toNat) + 7260 ≤ 7301080 by omega⟩ (Nat.le_of_ble_eq_true rfl) dL_law_163 z_nx (z_ki (fun x_3 M_3 h_3 => ?_))
          have hx9 := (h_3).1.symm
          have hm9 := (h_3).2.symm
          subst hx9
          subst hm9
          refine z_if_eq F 173 dL_law_166 (by decide) ⟨by decide, by decide⟩ (fun c_4 => ?_) (fun c_4 => ?_)
          · skip
            exact absurd c_4 (by decide)
          · skip
            refine z_iconst (z := 1) F dL_law_169 (by decide) ?_
            refine z_goto F 174 dL_law_170 (by decide) ?_
            exact hend _ _ _ _ (show (100 + 7760 * e.toNat) + 1210 ≤ 600130 by omega) (show (12000 + 46700 * e.toNat) + 7260 ≤ 7301080 by omega)
      · skip
        refine z_iload F 4 dL_law_38 rfl ?_
        refine z_if_eq F 154 dL_law_40 (by decide) ⟨by decide, by decide⟩ (fun c_5 => ?_) (fun c_5 => ?_)
        · skip
          exact absurd c_5 (by decide)
        · skip
          refine z_aload_n F 0 dL_law_43 rfl rfl ?_
          refine z_iload F 5 dL_law_44 rfl ?_
          refine z_callS F [.ref 127, .int (zI e)] [] (c_L_told F.2.2.1 G (M := (zAll c z0 (oa, ck))) (j := e) (by omega)) cs_L_90 rfl ⟨by decide, by decide⟩ ⟨show (100 + 7760 * e.toNat) + 0 ≤ 600130 by omega, show (12000 + 46700 * e.toNat) + 0 ≤ 7301080 by omega⟩ (Nat.le_of_ble_eq_true rfl) dL_law_46 z_nx (z_ki (fun x_6 M_6 h_6 => ?_))
          obtain ⟨hr9, hm9⟩ := h_6
          subst hm9
          have hq1 : 0 ≤ x_6 ∧ x_6 < 2147483648 := hr9
          refine z_istore_n F [(2, .int (zI x_6)), (0, .ref 127), (1, .ref 0), (3, .int (zI g)), (4, .int (zI 1)), (5, .int (zI e))] dL_law_49 rfl (by decide) rfl ?_
          refine z_aload_n F 2 dL_law_50 rfl rfl ?_
          refine z_iload_n F 0 dL_law_51 rfl rfl ?_
          refine z_aload_n F 1 dL_law_52 rfl rfl ?_
          refine z_iload F 5 dL_law_53 rfl ?_
          refine z_iconst (z := 3) F dL_law_55 (by decide) ?_
          refine z_iadd F dL_law_56 ?_
          refine z_callS F [.ref 127, .int (zI (e + 3))] [.int (zI x_6), .ref 0] (c_L_told F.2.2.1 G (M := (zAll c z0 (oa, ck))) (j := e + 3) (by omega)) cs_L_90 rfl ⟨by decide, by decide⟩ ⟨show (100 + 7760 * e.toNat) + 0 + 0 ≤ 600130 by omega, show (12000 + 46700 * e.toNat) + 0 + 0 ≤ 7301080 by omega⟩ (Nat.le_of_ble_eq_true rfl) dL_law_57 z_nx (z_ki (fun x_7 M_7 h_7 => ?_))
          obtain ⟨hr9, hm9⟩ := h_7
          subst hm9
          have hq2 : 0 ≤ x_7 ∧ x_7 < 2147483648 := hr9
          refine z_callS F [.ref 0, .int (zI x_6), .int (zI x_7)] [] (c_L_does F.2.2.1 G (s := c) (t := z0) (o := (oa, ck)) hIc hck h4 hG (by omega) (v := x_6) (w := x_7) (by omega) (by omega)) cs_L_98 rfl ⟨by decide, by decide⟩ ⟨show (100 + 7760 * e.toNat) + 0 + 0 + 6200 ≤ 600130 by omega, show (12000 + 46700 * e.toNat) + 0 + 0 + 37300 ≤ 7301080 by omega⟩ (Nat.le_of_ble_eq_true rfl) dL_law_60 z_nx (z_ki (fun x_8 M_8 h_8 => ?_))
          obtain ⟨hx9, N, ox, hm9, hN, hox⟩ := h_8
          subst hx9
          subst hm9
          have e0 : N 0 0 0 = c 0 0 0 := by rw [hN.2.1 0 (by decide)]
          have e4 : N 4 0 0 = 5 := by rw [hN.2.1 4 (by decide)]; exact h4
          have hNI := hN.1
          have hN18 := hN.2.2
          have hGN : ∀ b : Nat, b < 5 → zGd N b := fun b hb9 => by
            have h9 := hG b hb9
            unfold zGd zSc at h9 ⊢
            rw [hN.2.1 5 (by decide), hN.2.1 6 (by decide)]
            exact h9
          obtain ⟨oa, ob⟩ := ox
          refine z_istore F [(4, .int (zI 1)), (2, .int (zI x_6)), (0, .ref 127), (1, .ref 0), (3, .int (zI g)), (5, .int (zI e))] dL_law_63 (by decide) rfl ?_
          refine z_iload F 0 dL_law_65 rfl ?_
          refine z_if_eq F 102 dL_law_67 (by decide) ⟨by decide, by decide⟩ (fun c_9 => ?_) (fun c_9 => ?_)
          · skip
            exact absurd c_9 (by decide)
          · skip
            refine z_aload_n F 3 dL_law_70 rfl rfl ?_
            refine z_iload_n F 4 dL_law_71 rfl rfl ?_
            refine z_iload_n F 1 dL_law_72 rfl rfl ?_
            refine z_bipush (z := 16) F dL_law_73 (by decide) ?_
            refine z_idiv F (x_6 / 16) ⟨by decide, by decide⟩ (by decide) (zI_div (by omega) (by omega) (by decide) (by decide)) dL_law_75 ?_
            refine z_sipush (z := 600) F dL_law_76 (by decide) ?_
            refine z_irem F ((x_6 / 16) % 600) ⟨by decide, by decide⟩ (by decide) (zI_rem (by omega) (by omega) (by decide) (by decide)) dL_law_79 ?_
            refine z_callS F [.ref 0, .int (zI g), .int (zI ((x_6 / 16) % 600))] [] (c_L_isRight F.2.2.1 G (s := N) (t := z0) (o := (oa, ob)) hNI (n := g) (x := (x_6 / 16) % 600) (by omega) (by omega)) cs_L_101 rfl ⟨by decide, by decide⟩ ⟨show (100 + 7760 * e.toNat) + 0 + 0 + 6200 + 775 ≤ 600130 by omega, show (12000 + 46700 * e.toNat) + 0 + 0 + 37300 + 4650 ≤ 7301080 by omega⟩ (Nat.le_of_ble_eq_true rfl) dL_law_80 z_nx (z_ki (fun x_10 M_10 h_10 => ?_))
            have hx9 := (h_10).1.symm
            have hm9 := (h_10).2.symm
            subst hx9
            subst hm9
            refine z_if_eq F 102 dL_law_83 (by decide) ⟨by decide, by decide⟩ (fun c_11 => ?_) (fun c_11 => ?_)
            · skip
              exact absurd c_11 (by decide)
            · skip
              refine z_aload_n F 3 dL_law_86 rfl rfl ?_
              refine z_iload_n F 4 dL_law_87 rfl rfl ?_
              refine z_aload_n F 3 dL_law_88 rfl rfl ?_
              refine z_callV F [] [.int (zI g), .ref 0] (c_X6_peak F.2.2.1 G (s := N) (t := z0) (o := (oa, ob)) hNI.c hNI.b) cv_L_104 (zAll_0 N z0 (oa, ob)) rfl rfl rfl ⟨by decide, by decide⟩ ⟨show (100 + 7760 * e.toNat) + 0 + 0 + 6200 + 775 + 0 ≤ 600130 by omega, show (12000 + 46700 * e.toNat) + 0 + 0 + 37300 + 4650 + 0 ≤ 7301080 by omega⟩ (Nat.le_of_ble_eq_true rfl) dL_law_89 z_nx (z_ki (fun x_12 M_12 h_12 => ?_))
              have hx9 := (h_12).1.symm
              have hm9 := (h_12).2.symm
              subst hx9
              subst hm9
              have hpk0 := (zPk_r N 600).1
              have hpk1 : (zPk N 600).1 ≤ ((599 : Nat) : Int) := zPk_lt N 599
              refine z_callS F [.ref 0, .int (zI g), .int (zI ((zPk N 600).1))] [] (c_L_isRight F.2.2.1 G (s := N) (t := z0) (o := (oa, ob)) hNI (n := g) (x := (zPk N 600).1) (by omega) (by omega)) cs_L_101 rfl ⟨by decide, by decide⟩ ⟨show (100 + 7760 * e.toNat) + 0 + 0 + 6200 + 775 + 0 + 775 ≤ 600130 by omega, show (12000 + 46700 * e.toNat) + 0 + 0 + 37300 + 4650 + 0 + 4650 ≤ 7301080 by omega⟩ (Nat.le_of_ble_eq_true rfl) dL_law_92 z_nx (z_ki (fun x_13 M_13 h_13 => ?_))
              have hx9 := (h_13).1.symm
              have hm9 := (h_13).2.symm
              subst hx9
              subst hm9
              refine z_if_eq F 102 dL_law_95 (by decide) ⟨by decide, by decide⟩ (fun c_14 => ?_) (fun c_14 => ?_)
              · skip
                exact absurd c_14 (by decide)
              · skip
                refine z_iconst (z := 1) F dL_law_98 (by decide) ?_
                refine z_goto F 103 dL_law_99 (by decide) ?_
                refine z_istore F [(4, .int (zI 1)), (2, .int (zI x_6)), (0, .ref 127), (1, .ref 0), (3, .int (zI g)), (5, .int (zI e))] dL_law_103 (by decide) rfl ?_
                refine z_iload F 0 dL_law_105 rfl ?_
                refine z_if_eq F 145 dL_law_107 (by decide) ⟨by decide, by decide⟩ (fun c_15 => ?_) (fun c_15 => ?_)
                · skip
                  exact absurd c_15 (by decide)
                · skip
                  refine z_aload_n F 3 dL_law_110 rfl rfl ?_
                  refine z_iload_n F 1 dL_law_111 rfl rfl ?_
                  refine z_iconst (z := 5) F dL_law_112 (by decide) ?_
                  refine z_irem F (x_6 % 5) ⟨by decide, by decide⟩ (by decide) (zI_rem (by omega) (by omega) (by decide) (by decide)) dL_law_113 ?_
                  refine z_iload_n F 1 dL_law_114 rfl rfl ?_
                  refine z_iconst (z := 5) F dL_law_115 (by decide) ?_
                  refine z_idiv F (x_6 / 5) ⟨by decide, by decide⟩ (by decide) (zI_div (by omega) (by omega) (by decide) (by decide)) dL_law_116 ?_
                  refine z_sipush (z := 600) F dL_law_117 (by decide) ?_
                  refine z_irem F ((x_6 / 5) % 600) ⟨by decide, by decide⟩ (by decide) (zI_rem (by omega) (by omega) (by decide) (by decide)) dL_law_120 ?_
                  refine z_callV F [.int (zI (x_6 % 5)), .int (zI ((x_6 / 5) % 600))] [] (q_earliest F.2.2.1 G (s := N) (t := z0) (o := (oa, ob)) hNI (a := x_6 % 5) (x := (x_6 / 5) % 600) ⟨⟨by omega, by omega⟩, by omega, by omega⟩) cv_L_32 (zAll_0 N z0 (oa, ob)) rfl rfl rfl ⟨by decide, by decide⟩ ⟨show (100 + 7760 * e.toNat) + 0 + 0 + 6200 + 775 + 0 + 775 + 2 ≤ 600130 by omega, show (12000 + 46700 * e.toNat) + 0 + 0 + 37300 + 4650 + 0 + 4650 + 12 ≤ 7301080 by omega⟩ (Nat.le_of_ble_eq_true rfl) dL_law_121 z_nx (z_ki (fun x_16 M_16 h_16 => ?_))
                  obtain ⟨hx9, ck2, hm9, hck2⟩ := h_16
                  subst hx9
                  subst hm9
                  refine z_aload_n F 3 dL_law_124 rfl rfl ?_
                  refine z_iload_n F 1 dL_law_125 rfl rfl ?_
                  refine z_iconst (z := 5) F dL_law_126 (by decide) ?_
                  refine z_irem F (x_6 % 5) ⟨by decide, by decide⟩ (by decide) (zI_rem (by omega) (by omega) (by decide) (by decide)) dL_law_127 ?_
                  refine z_iload_n F 1 dL_law_128 rfl rfl ?_
                  refine z_iconst (z := 5) F dL_law_129 (by decide) ?_
                  refine z_idiv F (x_6 / 5) ⟨by decide, by decide⟩ (by decide) (zI_div (by omega) (by omega) (by decide) (by decide)) dL_law_130 ?_
                  refine z_sipush (z := 600) F dL_law_131 (by decide) ?_
                  refine z_irem F ((x_6 / 5) % 600) ⟨by decide, by decide⟩ (by decide) (zI_rem (by omega) (by omega) (by decide) (by decide)) dL_law_134 ?_
                  refine z_callV F [.int (zI (x_6 % 5)), .int (zI ((x_6 / 5) % 600))] [.int (zI (zFind N (zBit 31) (x_6 % 5).toNat ((x_6 / 5) % 600) 600))] (q_earliestByScan F.2.2.1 G (s := N) (t := z0) (o := (oa, ck2)) hNI (a := x_6 % 5) (x := (x_6 / 5) % 600) ⟨⟨by omega, by omega⟩, by omega, by omega⟩) cv_L_107 (zAll_0 N z0 (oa, ck2)) rfl rfl rfl ⟨by decide, by decide⟩ ⟨show (100 + 7760 * e.toNat) + 0 + 0 + 6200 + 775 + 0 + 775 + 2 + 2 ≤ 600130 by omega, show (12000 + 46700 * e.toNat) + 0 + 0 + 37300 + 4650 + 0 + 4650 + 12 + 12 ≤ 7301080 by omega⟩ (Nat.le_of_ble_eq_true rfl) dL_law_135 z_nx (z_ki (fun x_17 M_17 h_17 => ?_))
                  have hx9 := (h_17).1.symm
                  have hm9 := (h_17).2.symm
                  subst hx9
                  subst hm9
                  have hfr9 := zFind_r N (zBit 31) (x_6 % 5).toNat ((x_6 / 5) % 600) 600
                  have hln9 := hNI.c.len (x_6 % 5).toNat
                  have hrf : zR (zFind N (zBit 31) (x_6 % 5).toNat ((x_6 / 5) % 600) 600) := by rcases hfr9 with h9 | h9 <;> constructor <;> omega
                  refine z_icmp_ne F 145 dL_law_138 (by decide) (by omega) (by omega) (fun c_18 => ?_) (fun c_18 => ?_)
                  · skip
                    exact absurd rfl c_18
                  · skip
                    refine z_iconst (z := 1) F dL_law_141 (by decide) ?_
                    refine z_goto F 146 dL_law_142 (by decide) ?_
                    refine z_istore F [(4, .int (zI 1)), (2, .int (zI x_6)), (0, .ref 127), (1, .ref 0), (3, .int (zI g)), (5, .int (zI e))] dL_law_146 (by decide) rfl ?_
                    refine z_iinc F 5 [(5, .int (zI (e + 1))), (4, .int (zI 1)), (2, .int (zI x_6)), (0, .ref 127), (1, .ref 0), (3, .int (zI g))] dL_law_148 rfl (by decide) rfl ?_
                    refine z_goto F 31 dL_law_151 (by decide) ?_
                    refine z_lv [(0, .ref 127), (1, .ref 0), (2, .int (zI x_6)), (3, .int (zI g)), (4, .int (zI 1)), (5, .int (zI (e + 1)))] [3, 4, 2, 5, 1, 0] rfl ?_
                    refine z_wd (100 + 7760 * (e + 1).toNat) (12000 + 46700 * (e + 1).toNat) (show (100 + 7760 * e.toNat) + 0 + 0 + 6200 + 775 + 0 + 775 + 2 + 2 ≤ (100 + 7760 * (e + 1).toNat) by omega) (show (12000 + 46700 * e.toNat) + 0 + 0 + 37300 + 4650 + 0 + 4650 + 12 + 12 ≤ (12000 + 46700 * (e + 1).toNat) by omega) ?_
                    exact L1_ih N oa ck2 x_6 (e + 1) (by omega) hNI hck2 (e0.trans h0c) e4 hGN (by omega) hq1 (by omega) (by omega)
  refine z_lv [(0, .ref 127), (1, .ref 0), (2, .int (zI v)), (3, .int (zI g)), (4, .int (zI 1)), (5, .int (zI 1))] [0, 1, 2, 3, 4, 5] rfl ?_
  refine z_wd (100 + 7760 * (1 : Int).toNat) (12000 + 46700 * (1 : Int).toNat) (show cl0 ≤ 100 + 7760 * 1 by omega) (show sl0 ≤ 12000 + 46700 * 1 by omega) ?_
  exact L1 _ N 0 ((fun _ => 0)) v 1 (Nat.lt_succ_self _) hNI hck e0 e4 hGN (by omega) hv (by omega) (by omega)
set_option maxRecDepth 100000 in
set_option maxHeartbeats 4000000 in
theorem law_first {k : zC} {G : zG} {Q : State → Prop} {tb : List ExceptionTableEntry} (F : zF k G cL_law 6 RL wsL_law (some .boolean) tb) (hend : ∀ (M : zM) (cl sl : Nat) (lv : List (Nat × Value)), cl ≤ 600130 → sl ≤ 7301080 → zJ k G room_1 6 Q M cl sl 174 lv [.int (zI 1)]) : zJ k G room_1 6 Q (fun _ => none) 0 0 0 [(0, .ref 127)] [] := by
  refine z_new (ci := 7) F 0 [.null, .null, .null, .null, .null, .null] rfl inlX6 tyX6 tyX6_ok (zr_1 _ (List.mem_of_getElem? (i := 0) rfl)) (zr_1 _ (List.mem_of_getElem? (i := 1) rfl)) (zr_1 _ (List.mem_of_getElem? (i := 2) rfl)) (fun j hj => by rcases (show j = 0 ∨ j = 1 ∨ j = 2 ∨ j = 3 ∨ j = 4 ∨ j = 5 by omega) with rfl | rfl | rfl | rfl | rfl | rfl <;> rfl) (by decide) rfl (by decide) (by decide) (by decide) dL_law_0 ?_
  refine z_dup F dL_law_3 rfl ?_
  refine z_callI F [] [.ref 0] (c_X6_init F.2.2.1 G) ci_L_89 rfl ⟨by decide, by decide⟩ ⟨by decide, by decide⟩ (Nat.le_of_ble_eq_true rfl) dL_law_4 z_nx (z_kv (fun M_2 h_2 => ?_))
  have hm9 := (h_2).symm
  subst hm9
  refine z_astore_n F [(1, .ref 0), (0, .ref 127)] dL_law_7 rfl (by decide) rfl ?_
  refine z_M (M' := (zAll z0 z0 (0, fun _ => 0))) (zC0_all z0) ?_
  refine z_aload_n F 1 dL_law_8 rfl rfl ?_
  refine z_iconst (z := 0) F dL_law_9 (by decide) ?_
  refine z_callS F [.ref 127, .int (zI 0)] [] (c_L_told F.2.2.1 G (M := (zAll z0 z0 (0, fun _ => 0))) (j := 0) (by omega)) cs_L_90 rfl ⟨by decide, by decide⟩ ⟨by decide, by decide⟩ (Nat.le_of_ble_eq_true rfl) dL_law_10 z_nx (z_ki (fun x_3 M_3 h_3 => ?_))
  obtain ⟨hr9, hm9⟩ := h_3
  subst hm9
  have hv : 0 ≤ x_3 ∧ x_3 < 2147483648 := hr9
  refine z_istore_n F [(2, .int (zI x_3)), (1, .ref 0), (0, .ref 127)] dL_law_13 rfl (by decide) rfl ?_
  refine z_aload_n F 1 dL_law_14 rfl rfl ?_
  refine z_iload_n F 0 dL_law_15 rfl rfl ?_
  refine z_callS F [.ref 0, .int (zI x_3)] [] (c_L_lay F.2.2.1 G (s := z0) (t := z0) (o := (0, fun _ => 0)) z0_I (v := x_3) hv rfl rfl) cs_L_94 rfl ⟨by decide, by decide⟩ ⟨by decide, by decide⟩ (Nat.le_of_ble_eq_true rfl) dL_law_16 z_nx (z_kv (fun M_4 h_4 => ?_))
  obtain ⟨N, hm9, hNI, e0, e4, hGN, h18N⟩ := h_4
  subst hm9
  refine z_iconst (z := 1) F dL_law_19 (by decide) ?_
  refine z_iload_n F 0 dL_law_20 rfl rfl ?_
  refine z_iconst (z := 4) F dL_law_21 (by decide) ?_
  refine z_irem F (x_3 % 4) ⟨by decide, by decide⟩ (by decide) (zI_rem (by omega) (by omega) (by decide) (by decide)) dL_law_22 ?_
  refine z_iadd F dL_law_23 ?_
  refine z_istore_n F [(3, .int (zI (1 + (x_3 % 4)))), (2, .int (zI x_3)), (1, .ref 0), (0, .ref 127)] dL_law_24 rfl (by decide) rfl ?_
  refine z_iconst (z := 1) F dL_law_25 (by decide) ?_
  refine z_istore F [(4, .int (zI 1)), (3, .int (zI (1 + (x_3 % 4)))), (2, .int (zI x_3)), (1, .ref 0), (0, .ref 127)] dL_law_26 (by decide) rfl ?_
  refine z_iconst (z := 1) F dL_law_28 (by decide) ?_
  refine z_istore F [(5, .int (zI 1)), (4, .int (zI 1)), (3, .int (zI (1 + (x_3 % 4)))), (2, .int (zI x_3)), (1, .ref 0), (0, .ref 127)] dL_law_29 (by decide) rfl ?_
  refine z_lv [(0, .ref 127), (1, .ref 0), (2, .int (zI x_3)), (3, .int (zI (1 + x_3 % 4))), (4, .int (zI 1)), (5, .int (zI 1))] [5, 4, 3, 2, 1, 0] rfl ?_
  exact law_loop F hNI e0 (by omega) e4 hGN (h18N.trans rfl) hv hend (by decide) (by decide)
set_option maxRecDepth 100000 in
set_option maxHeartbeats 4000000 in
/-- THE LAW, from its entry -/
theorem whole_start {p : Program} {e : Env} {s : State} {m : MethodId} {below : List Frame} {meth : Method} {c : Code} (l : Launch) (hflags : l.flags = flags0) {b L : Nat} {xs : Nat → Int32} (hL : L ≤ 260) (C0 : lw_At p s m meth c b L xs) : W p l e room_1 s m #[Value.ref b] below meth c s.heap [] 0 0 (lw_Z below #[Value.ref b] s) (entryFrame m ([Value.ref b] : List Value).toArray 6) := by
  obtain ⟨hx, hb, hr, hml, hown, hts, hX, hbl, hlocks, hgv⟩ := id C0
  have hwl : ∀ w ∈ wsL_law, w.before #[Value.ref b] s = true := fun w h => hts w (wsL_law_in w h)
  have hflg : l.stackTraces = false := by
    unfold Launch.stackTraces
    rw [hflags]
    decide +kernel
  have hs := flat_of_before _ hgv
  have hbA : ∀ a : Nat, a < s.heap.size → ¬ s.heap.size ≤ a := fun a h => Nat.not_le.mpr h
  obtain ⟨c0, i0, h0⟩ := u_known (C := RJx4a65c) (T := TJx4a65c) (N := 3) (n := 3) hwl inlJx4a65c (hwl _ (zr_1 _ (List.mem_of_getElem? (i := 10) rfl)))
  obtain ⟨c1, i1, h1⟩ := u_known (C := RX0) (T := TX0) (N := 2) (n := 2) hwl inlX0 (hwl _ (zr_1 _ (List.mem_of_getElem? (i := 18) rfl)))
  obtain ⟨c2, i2, h2⟩ := u_known (C := RX1) (T := TX1) (N := 4) (n := 4) hwl inlX1 (hwl _ (zr_3 _ (List.mem_of_getElem? (i := 20) rfl)))
  obtain ⟨c3, i3, h3⟩ := u_known (C := RX2) (T := TX2) (N := 1) (n := 1) hwl inlX2 (hwl _ (zr_1 _ (List.mem_of_getElem? (i := 21) rfl)))
  obtain ⟨c4, i4, h4⟩ := u_known (C := RX3) (T := TX3) (N := 2) (n := 2) hwl inlX3 (hwl _ (zr_19 _ (List.mem_of_getElem? (i := 8) rfl)))
  obtain ⟨c5, i5, h5⟩ := u_known (C := RX4) (T := TX4) (N := 9) (n := 9) hwl inlX4 (hwl _ (zr_7 _ (List.mem_of_getElem? (i := 10) rfl)))
  obtain ⟨c6, i6, h6⟩ := u_known (C := RX5) (T := TX5) (N := 5) (n := 5) hwl inlX5 (hwl _ (zr_15 _ (List.mem_of_getElem? (i := 16) rfl)))
  obtain ⟨c7, i7, h7⟩ := u_known (C := RX6) (T := TX6) (N := 6) (n := 6) hwl inlX6 (hwl _ (zr_1 _ (List.mem_of_getElem? (i := 1) rfl)))
  obtain ⟨dC, dI, hKc⟩ : ∃ (dC : Nat → ClassId) (dI : Nat → Nat → Nat), ∀ (k : Nat) (q : vw_C), vwCl[k]? = some q → u_Kn s q.1 q.2.1 q.2.2 (dC k) (dI k) := by
    refine ⟨fun k => match k with | 0 => c0 | 1 => c1 | 2 => c2 | 3 => c3 | 4 => c4 | 5 => c5 | 6 => c6 | _ => c7, fun k => match k with | 0 => i0 | 1 => i1 | 2 => i2 | 3 => i3 | 4 => i4 | 5 => i5 | 6 => i6 | _ => i7, ?_⟩
    intro k q hq
    match k, hq with
    | 0, hq => cases hq; exact h0
    | 1, hq => cases hq; exact h1
    | 2, hq => cases hq; exact h2
    | 3, hq => cases hq; exact h3
    | 4, hq => cases hq; exact h4
    | 5, hq => cases hq; exact h5
    | 6, hq => cases hq; exact h6
    | 7, hq => cases hq; exact h7
    | k + 8, hq => simp [vwCl] at hq
  obtain ⟨a0, k0, p0, f0, g0, e0⟩ := Cond.arrayClass_spec (hwl _ (zr_2 _ (List.mem_of_getElem? (i := 19) rfl)))
  obtain ⟨a1, k1, p1, f1, g1, e1⟩ := Cond.arrayClass_spec (hwl _ (zr_3 _ (List.mem_of_getElem? (i := 1) rfl)))
  have hao3 : (Cond.arrayOver (.object "SalonBook$Diary")).before #[Value.ref b] s = true := hts _ (by decide +kernel)
  have hao4 : (Cond.arrayOver (.object "java/lang/Object")).before #[Value.ref b] s = true := hts _ (by decide +kernel)
  obtain ⟨p3, a3, k3, f3, _, g3, e3, n3⟩ := Cond.arrayOver_spec hao3
  obtain ⟨p4, a4, k4, f4, _, g4, e4, n4⟩ := Cond.arrayOver_spec hao4
  have hlen : (Term.length (.static "java/util/ArrayList" "DEFAULTCAPACITY_EMPTY_ELEMENTDATA" "[Ljava/lang/Object;")).eval #[Value.ref b] s none [] s = some (.int (Int32.ofNat 0)) := by
    have h9 : (Cond.eq (Term.length (.static "java/util/ArrayList" "DEFAULTCAPACITY_EMPTY_ELEMENTDATA" "[Ljava/lang/Object;")) (Term.int 0)).before #[Value.ref b] s = true := hs _ (by decide +kernel)
    obtain ⟨y, y1, y2⟩ := Cond.eq_one h9
    cases (Option.some.inj y2 : Value.int 0 = y)
    exact y1
  obtain ⟨q63, hv63, hT63⟩ := va_Tof (s := s) (args := #[Value.ref b]) (tm := .static "java/util/ArrayList" "DEFAULTCAPACITY_EMPTY_ELEMENTDATA" "[Ljava/lang/Object;") (ty := .object "java/lang/Object") (N := 0) (f := fun _ => .null) (A := fun q : Nat => s.heap.size ≤ q) (by decide) (hs _ (by decide +kernel)) hlen (fun j hj => absurd hj (Nat.not_lt_zero _)) hbA
  obtain ⟨q191, hM191⟩ := va_Mi.of (hs (.isRef (.mirror "[Ljava/lang/Object;")) (by decide +kernel))
  obtain ⟨G, hG⟩ : ∃ G : zG, G = ((dC, dI), (fun k => match k with | 0 => a0 | 1 => a1 | 2 => a0 | 3 => a3 | _ => a4), s.heap.size, (fun q => if q = 63 then q63 else if q = 127 then b else q191)) := ⟨_, rfl⟩
  have st : ∀ (i : Nat) (tx : String), Cond.stringRef "SalonBook" i tx ∈ lw_tbl → Cond.exactly (Term.string "SalonBook" i) "java/lang/String" ∈ flatC (Jvm.Cond.and given_1 narrow_1) → ∃ a, vk_R "SalonBook" i tx a s := fun i tx w1 w2 => by
    obtain ⟨a, _, _, _, he, _⟩ := Cond.exactly_spec (hs _ w2)
    exact ⟨a, vk_R.of (hts _ w1) he⟩
  have hLow : zLow G s := by
    subst hG
    refine ⟨⟨hKc, fun k q hq => ?_⟩, vx_Zqof (hts _ (by decide +kernel)) (hts _ (by decide +kernel)) (hs _ (by decide +kernel)) hbA, vx_Zqof (hts _ (by decide +kernel)) (hts _ (by decide +kernel)) (hs _ (by decide +kernel)) hbA, va_Zof (hts _ (by decide +kernel)) (hts _ (by decide +kernel)) hv63 hbA, hT63, ?_, va_AO.of hao3, va_AO.of hao4, Nat.le_refl _, ?_, ?_, hM191, va_Dc.of (hts _ (by decide +kernel)), ?_, ?_⟩
    · match k, hq with
      | 0, hq => cases hq; exact ⟨fun n z => ⟨fun k h => (by cases h), k0, g0, p0, e0⟩, f0⟩
      | 1, hq => cases hq; exact ⟨fun n z => ⟨fun k h => (by cases h), k1, g1, p1, e1⟩, f1⟩
      | 2, hq => cases hq; exact ⟨fun n z => ⟨fun k h => (by cases h), k0, g0, p0, e0⟩, f0⟩
      | 3, hq => cases hq; exact ⟨fun n z => ⟨fun k h => (by cases h), k3, g3, p3, e3⟩, k3, p3, g3, e3, f3, n3⟩
      | 4, hq => cases hq; exact ⟨fun n z => ⟨fun k h => (by cases h), k4, g4, p4, e4⟩, k4, p4, g4, e4, f4, n4⟩
      | k + 5, hq => simp [zTy] at hq
    · exact List.forall_mem_cons.mpr ⟨st 106 "no more steps" (by decide +kernel) (by decide +kernel), List.forall_mem_cons.mpr ⟨st 112 "service was booked or requested" (by decide +kernel) (by decide +kernel), List.forall_mem_cons.mpr ⟨st 114 "usual service out of range" (by decide +kernel) (by decide +kernel), List.forall_mem_cons.mpr ⟨st 164 "no place for the visit" (by decide +kernel) (by decide +kernel), List.forall_mem_cons.mpr ⟨st 174 "no more requests" (by decide +kernel) (by decide +kernel), List.forall_mem_cons.mpr ⟨st 182 "no such request" (by decide +kernel) (by decide +kernel), List.forall_mem_cons.mpr ⟨st 212 "no such chair" (by decide +kernel) (by decide +kernel), List.forall_mem_cons.mpr ⟨st 230 "minutes out of range" (by decide +kernel) (by decide +kernel), List.forall_mem_cons.mpr ⟨st 238 "no such minute" (by decide +kernel) (by decide +kernel), List.forall_mem_cons.mpr ⟨st 240 "no such service" (by decide +kernel) (by decide +kernel), List.forall_mem_cons.mpr ⟨st 245 "no such member of staff" (by decide +kernel) (by decide +kernel), List.forall_mem_cons.mpr ⟨st 247 "no such visit" (by decide +kernel) (by decide +kernel), List.forall_mem_cons.mpr ⟨st 253 "visit was dropped" (by decide +kernel) (by decide +kernel), List.forall_mem_cons.mpr ⟨st 255 "no more services" (by decide +kernel) (by decide +kernel), List.forall_mem_cons.mpr ⟨st 257 "no more visits" (by decide +kernel) (by decide +kernel), List.forall_mem_cons.mpr ⟨st 261 "no such place" (by decide +kernel) (by decide +kernel), List.forall_mem_cons.mpr ⟨st 41 "skills out of range" (by decide +kernel) (by decide +kernel), List.forall_mem_cons.mpr ⟨st 50 "shift out of range" (by decide +kernel) (by decide +kernel), List.forall_mem_cons.mpr ⟨st 58 "no more staff" (by decide +kernel) (by decide +kernel), List.forall_mem_cons.mpr ⟨st 73 "skill out of range" (by decide +kernel) (by decide +kernel), fun _ h => absurd h List.not_mem_nil⟩⟩⟩⟩⟩⟩⟩⟩⟩⟩⟩⟩⟩⟩⟩⟩⟩⟩⟩⟩
    · exact List.forall_mem_cons.mpr ⟨va_Nw.of rfl (hts _ (by decide +kernel)), List.forall_mem_cons.mpr ⟨va_Nw.of rfl (hts _ (by decide +kernel)), List.forall_mem_cons.mpr ⟨va_Nw.of rfl (hts _ (by decide +kernel)), fun _ h => absurd h List.not_mem_nil⟩⟩⟩
    · exact List.forall_mem_cons.mpr ⟨va_Nw.of rfl (hts _ (by decide +kernel)), List.forall_mem_cons.mpr ⟨va_Nw.of rfl (hts _ (by decide +kernel)), List.forall_mem_cons.mpr ⟨va_Nw.of rfl (hts _ (by decide +kernel)), List.forall_mem_cons.mpr ⟨va_Nw.of rfl (hts _ (by decide +kernel)), List.forall_mem_cons.mpr ⟨va_Nw.of rfl (hts _ (by decide +kernel)), List.forall_mem_cons.mpr ⟨va_Nw.of rfl (hts _ (by decide +kernel)), List.forall_mem_cons.mpr ⟨va_Nw.of rfl (hts _ (by decide +kernel)), List.forall_mem_cons.mpr ⟨va_Nw.of rfl (hts _ (by decide +kernel)), fun _ h => absurd h List.not_mem_nil⟩⟩⟩⟩⟩⟩⟩⟩
    · exact List.forall_mem_cons.mpr ⟨va_Nw.of rfl (hts _ (by decide +kernel)), List.forall_mem_cons.mpr ⟨va_Nw.of rfl (hts _ (by decide +kernel)), List.forall_mem_cons.mpr ⟨va_Nw.of rfl (hts _ (by decide +kernel)), fun _ h => absurd h List.not_mem_nil⟩⟩⟩
    · exact ⟨L, xs, hX, hbl, hbA b hbl, Nat.le_trans hL (by decide)⟩
  have e127 : G.2.2.2 127 = b := by subst hG; rfl
  have eA : G.2.2.1 = s.heap.size := by subst hG; rfl
  have F : zF ((p, l, e, s, m), (#[Value.ref b], below, meth, c), G.2.2.2, fun _ => none) G cL_law 6 RL wsL_law (some .boolean) c.exceptionTable.toList := ⟨⟨hx, hb, hml, hown, hwl⟩, hLow, hflg, hlocks, hr, rfl⟩
  have key := law_first (Q := lw_Z below #[Value.ref b] s) F (fun M cl sl lv h1 h2 => z_lawret (b := b) F rfl (Nat.le_of_eq eA.symm) h1 h2)
  have hl := lv_entry ([.ref b]) (n := 6) (Nat.le_of_ble_eq_true rfl)
  rw [lg_entry_eq]
  generalize (lg_sl ([.ref b]) ++ List.replicate (6 - (lg_sl ([.ref b])).length) Slot.unset).toArray = ls at hl ⊢
  have hl : lv_has ls 6 ([((0 : Nat), Value.ref 127)].map (zmq G.2.2.2)) := by
    show lv_has ls 6 [(0, Value.ref (G.2.2.2 127))]
    rw [e127]
    exact hl
  exact key G.2.2.2 s.heap [] ls ⟨fun a h => ⟨rfl, rfl⟩, fun t o h => (nomatch h), fun t u h => (nomatch h), [], fun k q h => by simp at h, ⟨fun i j p q h => by simp at h, fun k q h => by simp at h⟩, fun t o h => (nomatch h)⟩ (fun a ha => ⟨ha, rfl⟩) (fun q hq a h => by cases List.mem_singleton.mp hq; cases h; exact Or.inr rfl) (fun v h => (nomatch h)) va_S.rf hl
-- ===== YOUR PART ENDS =====
set_option maxHeartbeats 4000000 in
theorem lw_walk (l : Launch) (hflags : l.flags = flags0) (b : Addr) (xs : List Int32) : MetFree l x (headSpec (Jvm.Cond.code x code maxLocals ret :: tables_1) room_1) (lw_P b xs) (fun _ _ _ _ _ => True) lw_Q := by
  refine MetFree.of_bodyS (code := code) (maxLocals := maxLocals) (ret := ret) (by decide) ?_ ?_
  · intro args s m h hn
    obtain ⟨meth, c, h1, h2, h3, h4, h5, h6, -, -⟩ := Cond.code_spec hn (atoms_spec (ws := Jvm.Cond.code x code maxLocals ret :: tables_1) h _ List.mem_cons_self)
    exact ⟨meth, c, h1, h2, h3, h4, h5, h6⟩
  · intro p e s m args below meth c s₁ B hml0 hP _
    obtain ⟨rfl, hx, hbd, hgv⟩ := hP
    obtain ⟨scr, harrAt, hlist, hof, hsmall⟩ := hx
    obtain ⟨hcb, hkn, -, -⟩ := State.arrayAt?_spec harrAt
    have hown : s.vm.findClass R_law = some m.cls := findClass_of_methodNamed B.named
    have hts0 : ∀ c ∈ (Jvm.Cond.code x code maxLocals ret :: tables_1), c.before #[Value.ref b] s = true := atoms_spec (ws := Jvm.Cond.code x code maxLocals ret :: tables_1) B.pre
    have hts : ∀ w ∈ lw_tbl, w.before #[Value.ref b] s = true := k2_hts_sels lw_privs (fun w hw => hts0 w (List.mem_cons_of_mem _ hw)) lw_privs_ok
    have hml : c.maxLocals = 6 := B.maxLocals_eq (hts0 _ List.mem_cons_self)
    have X₀ : Stand p l e room_1 s m #[Value.ref b] below meth c s₁ [] 0 0 := Stand.of_body B
    have hh0 : s₁.heap = s.heap := by rw [B.state]; rfl
    have hsz : scr.slots.size = xs.length := by rw [← Array.length_toList, hlist, List.length_map]
    have hval : ∀ j : Nat, j < xs.length → scr.slots[j]? = some (.int (xs.getD j 0)) := fun j hj => by
      rw [← Array.getElem?_toList, hlist]
      simp [hj]
    have hbl : b < s.heap.size := (Array.getElem?_eq_some_iff.mp hcb).1
    have hX : va_X b xs.length (fun j => xs.getD j 0) s s.heap := ⟨scr, hcb, hof, hkn, hsz, hval⟩
    have K : W p l e room_1 s m #[Value.ref b] below meth c s₁.heap [] 0 0 (lw_Z below #[Value.ref b] s) (entryFrame m ([Value.ref b] : List Value).toArray 6) := by
      rw [hh0]
      exact whole_start l hflags hbd ⟨B.exec, B.bytes, B.returns, hml, hown, hts, hX, hbl, B.notSynchronized, hgv⟩
    obtain ⟨t, a1, o, b1, b2, b3⟩ := K s₁ rfl X₀
    exact ⟨t, o, a1, b1, b2, b3⟩
theorem lw_pre_spec {args : Array Value} {s : State} (h : (Jvm.Cond.and given_1 narrow_1).before args s = true) (hr : rest_1_c.before args s = true) : ∃ (b : Addr) (xs : List Int32), lw_P b xs args s := by
  have hs := flat_of_before _ h
  have hq := flat_of_before _ hr
  have hc : (Cond.count 1).before args s = true := hs _ (by decide +kernel)
  have harr : (Cond.arrayOf (.arg 0) .int).before args s = true := hs _ (by decide +kernel)
  have hle : (Cond.le (.length (.arg 0)) (.int 260)).before args s = true := hs _ (by decide +kernel)
  have hlen : (Cond.isInt (.length (.arg 0))).before args s = true := hq _ (by decide +kernel)
  have hall : (Cond.all (.arg 0) (.isInt (.elem (.arg 0) (.index 0)))).before args s = true := hq _ (by decide +kernel)
  obtain ⟨b, xs, hb, hx⟩ := State.ints_of_pre rfl harr hlen hall
  have hsm : xs.length < 2 ^ 31 := hx.choose_spec.2.2.2
  have hev : (Term.length (.arg 0)).eval args s none [] s = some (.int xs.length.toInt32) := hx.length_eval hb
  have hv := Cond.le_ints hev (show (Term.int 260).eval args s none [] s = some (.int 260) from rfl)
  have hd : xs.length.toInt32 ≤ 260 := by
    simpa [Cond.before, Cond.holds, hv] using hle
  have hN : xs.length ≤ 260 := (Int32.ofNat_le_ofNat hsm (by decide)).mp (show Int32.ofNat xs.length ≤ Int32.ofNat 260 from hd)
  exact ⟨b, xs, Cond.one_arg hc (show args[0]? = some (.ref b) from hb), hx, hN, h⟩
theorem lw_comes (l : Launch) (hflags : l.flags = flags0) : Comes l x (Jvm.Cond.code x code maxLocals ret :: tables_1) room_1 (fun tb e args s => Calls_1 tb e args s ∧ rest_1 tb e args s ∧ Pre_1 tb e args s)
    (fun _ _ args s o t => lw_Q args s o t) := by
  intro p e ha hc hk s m args below hf hfit hheap happ hpre
  obtain ⟨b, xs, hP⟩ := lw_pre_spec hpre.2.2 hpre.2.1
  obtain ⟨k, o, h1, h2, h3, hQ⟩ := lw_walk l hflags b xs p e ha hc hk s m args below hf ((Spec.applies_iff_loose hf).mp happ).1 hP trivial
  exact ⟨k, o, h1, h2, h3, hQ⟩
theorem lw_frame {s t : State} {o : Outcome} {args : Array Value} (h : Framed s o t [] 600130 7301080) :
    Framed s o t (fieldLocs frame_1_writes args s ++ arrayLocs frame_1_arrays args s ++ staticLocs frame_1_statics s) 600130 7301080 := h
theorem lw_limb (L : Cond) (hL : ∀ (args : Array Value) (s t : State), L.after args s (.returned (some (.int 1))) t = true) :
    ArmFor flags0 classFile x code maxLocals ret World_1 tables_1 room_1 Calls_1 rest_1 Pre_1
      (fun tb e a s o t => postC L tb e a s o t ∧ Framed s o t (fieldLocs frame_1_writes a s ++ arrayLocs frame_1_arrays a s ++ staticLocs frame_1_statics s) 600130 7301080) := by
  intro l hflags _ _ p e ha hc hk s m args below hf hfit hheap happ hpre
  obtain ⟨k, o, h1, h2, h3, rfl, hF⟩ := lw_comes l hflags p e ha hc hk s m args below hf hfit hheap happ hpre
  exact ⟨k, _, h1, h2, h3, hL args s _, lw_frame hF⟩
theorem i_vc : Claimed_1_1 ∧ Claimed_1_2 := ⟨lw_limb limb_1_1 (fun args s t => by simp [limb_1_1, Cond.after, Cond.holds, Cond.value]), lw_limb limb_1_2 (fun args s t => Cond.after_iff.mpr (by
  first | (rw [show limb_1_2 = Cond.eq .result (.int 1) from rfl, Cond.eq_ints (x := 1) (y := 1) rfl rfl]; simp; done) | (simp [limb_1_2, Cond.value, Term.eval]; done)))⟩

