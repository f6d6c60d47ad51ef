/-! ===== contracts may say more; methods with handlers; the script ===== -/
theorem zCn.mono {l : Launch} {G : zG} {y : MethodName} {cw : Cond} {R : Room} {av : List Value} {M : zM} {Rc Rc' : Option Value → zM → Prop} {Xc : String → zM → Prop} (h : zCn l G y cw R av M Rc Xc) (hR : ∀ v M', Rc v M' → Rc' v M') : zCn l G y cw R av M Rc' Xc := by
  intro L0 p e ha hc hk s m args below hf hS hP hK
  obtain ⟨n, o, h1, h2, h3, h4⟩ := h L0 p e ha hc hk s m args below hf hS hP hK
  refine ⟨n, o, h1, h2, h3, ?_⟩
  rcases h4 with ⟨⟨⟨r, M', L', q1, q2, q3⟩, q4⟩, q5⟩ | h5
  · exact Or.inl ⟨⟨⟨r, M', L', q1, hR r M' q2, q3⟩, q4⟩, q5⟩
  · exact Or.inr h5
theorem zStartH {l : Launch} {G : zG} {y : MethodName} {cc : ByteArray} {nL : Nat} {ret : Option FieldType} {R : Room} {av : List Value} {M : zM} {Rc : Option Value → zM → Prop} {Xc : String → zM → Prop} {hh : List (Nat × Nat × Nat × Nat)} (hfl : l.stackTraces = false) (hy : plainName y.cls = true) {own : String} (ho : y.cls = own) (lv : List (Nat × Value)) (hav : (lg_sl av).length ≤ nL) (hlv : lv_args 0 av = lv)
    (body : ∀ k : zC, k.1.2.1 = l → k.2.1.2.2.1.name = y.name → k.2.2.2 = M → zF k G cc nL own wsL_law ret (tableOf hh) → zJ k G R nL (zMQ k G R Rc Xc) M 0 0 0 lv []) : zCn l G y (.codeWith y cc nL ret hh) R av M Rc Xc := by
  intro L0
  refine vx_ofWH (cc := cc) (maxL := nL) (ret := ret) (hh := hh) hy rfl (fun p e s m args below meth c s₁ B hml hv => ?_)
  obtain ⟨rfl, hLow, hR, hok⟩ := hv
  have hts := atoms_spec (ws := .codeWith y cc nL ret hh :: wsL_law) B.pre
  subst ho
  have key := body ((p, l, e, s, m), ((av.map (zmr L0)).toArray, below, meth, c), L0, M) rfl (name_of_methodNamed B.named B.method).1 rfl ⟨⟨B.exec, B.bytes, hml, findClass_of_methodNamed B.named, fun w h => hts w (List.mem_cons_of_mem _ h)⟩, hLow, hfl, B.notSynchronized, B.returns, vx_table (x := y) B (hts _ List.mem_cons_self)⟩
  have hcat : (lg_sl (av.map (zmr L0))).length = (lg_sl av).length := zlen av L0
  have hl := lv_entry (av.map (zmr L0)) (n := nL) (by rw [hcat]; exact hav)
  rw [zargs av L0 0, hlv] at hl
  rw [lg_entry_eq]
  have hvv : ∀ q ∈ lv, zok M q.2 := fun q hq => hok q.2 (zargs_mem av 0 q (hlv ▸ hq))
  exact key L0 s.heap [] _ hR zAg_rf hvv (fun v h => by cases h) va_S.rf hl
/-- a static method with handlers, at a call -/
def zCSH (own : String) (index : Nat) (y : MethodName) (bytes : ByteArray) (maxL : Nat) (ret' : Option FieldType) (hh : List (Nat × Nat × Nat × Nat)) (n : Nat) : Prop := Cond.methodLink own index y ∈ wsL_law ∧ Cond.codeWith y bytes maxL ret' hh ∈ wsL_law ∧ Cond.initialized y.cls ∈ wsL_law ∧ Cond.static y ∈ wsL_law ∧ (y.cls ≠ "java/lang/invoke/MethodHandle" ∧ y.cls ≠ "java/lang/invoke/VarHandle" ∧ (parseMethodDescriptor y.desc).map (fun d => d.parameters.length) = some n)
section ZH
variable {k : zC} {G : zG} {R : Room} {nL : Nat} {Q : State → Prop} {M : zM} {cl sl pc : Nat} {lv : List (Nat × Value)} {st rest : List Value} {cc : ByteArray} {own : String} {ret : Option FieldType} {tb : List ExceptionTableEntry} {Rc Rc' : Option Value → zM → Prop} {Xc Xc' : String → zM → Prop}
theorem z_callSH (F : zF k G cc nL own wsL_law ret tb) {y : MethodName} {bytes : ByteArray} {maxL index n : Nat} {ret' : Option FieldType} {hh : List (Nat × Nat × Nat × Nat)} {R' : Room} (As rest : List Value) (hM : zCn k.1.2.1 G y (.codeWith y bytes maxL ret' hh) R' As M Rc' Xc') (hw : zCSH own index y bytes maxL ret' hh n) (hn : As.length = n) (hR : R'.frames + 1 ≤ R.frames ∧ 8 + (maxL + 11) + R'.locals ≤ R.locals) (hcs : cl + R'.cells ≤ R.cells ∧ sl + R'.slots ≤ R.slots) (hrest : (rest.map fun v => v.category).sum ≤ 8) (d : decode cc pc = .ok (.invokestatic index, 3))
    (kx : ∀ (E : String) (M' : zM), Xc' E M' → zJx k G R nL Q M' (cl + R'.cells) (sl + R'.slots) pc lv E) (kk : ∀ (r : Option Value) (M' : zM), Rc' r M' → zJ k G R nL Q M' (cl + R'.cells) (sl + R'.slots) (pc + 3) lv (r.toList ++ rest)) : zJ k G R nL Q M (cl) (sl) (pc) lv (As.reverse ++ rest) := by
  obtain ⟨⟨p, l, e, s, m⟩, ⟨args, below, meth, c⟩, L0, M0⟩ := k
  have F' := F
  obtain ⟨⟨hx, hb, hml, hown, hts⟩, hLow, hfl, hlk, hrt, htb⟩ := F
  refine z_run (a := #[]) (R' := R') (rest := rest) (Rc' := Rc') (Xc' := Xc') F' (fun L H locs ls hRep hs hS hls => ?_) (fun v hv => List.mem_append_right _ hv) kx kk
  have hst : (As.reverse ++ rest).map (zmr L) = (As.map (zmr L)).reverse ++ rest.map (zmr L) := by
    rw [List.map_append, List.map_reverse]
  refine ⟨(As.map (zmr L)).toArray, ?_⟩
  rw [hst]
  obtain ⟨w1, w2, w3, w4, w5, w6, w7⟩ := hw
  have hG : GoodIn wsL_law (Cond.codeWith y bytes maxL ret' hh :: wsL_law) := fun w h => by
    rcases List.mem_cons.mp h with rfl | h
    · exact zGood _ w2
    · exact zGood w h
  have cw : vx_CSW R s args own index y bytes maxL ret' hh (Cond.codeWith y bytes maxL ret' hh :: wsL_law) R' R'.cells R'.slots n := ⟨⟨rfl, rfl, hR.1, hR.2, pay_in hts hG, List.mem_cons_self⟩, hts _ w2, hts _ w3, ⟨w5, w6⟩, fun sig h => by rw [h] at w7; exact (Option.some.inj w7).symm, hts _ w1, hts _ w4⟩
  exact vx_runSX (As := As.map (zmr L)) (rest := rest.map (zmr L)) ⟨hx, hb, hml, hown, hts⟩ (hM L) cw ⟨zBlind G L _ M, fun U hU hW => ⟨rfl, hLow.warm hS hU hW, by rw [hU]; exact hRep, fun v hv => hs v (List.mem_append_left _ (List.mem_reverse.mpr hv))⟩⟩ rfl ((List.length_map _).trans hn) hls rfl (lv_room (by rw [zmap_cat]; exact hrest)) d hcs
/-- caught by the row x: the answer is a number -/
theorem z_catch (F : zF k G cc nL own wsL_law ret tb) {E : String} {n z : Int} {i : Nat} (pre : List ExceptionTableEntry) (x : ExceptionTableEntry) (suf : List ExceptionTableEntry) (hsplit : tb = pre ++ x :: suf) (hpass : ∀ z ∈ pre, z.catchType ≠ 0 ∧ ∃ nm : String, Cond.classLink own z.catchType nm ∈ wsL_law ∧ (E, nm) ∈ zNX) (hcov : covers x pc = true) (h0 : x.catchType ≠ 0) (hlink : Cond.classLink own x.catchType E ∈ wsL_law) (hcast : (E, E) ∈ zNC) (hi : i < nL) (d1 : decode cc x.handlerPc = .ok (.astore i, 2)) (d2 : decode cc (x.handlerPc + 2) = .ok (.iconst n, 1)) (hz : Int32.ofInt n = zI z) (d3 : decode cc (x.handlerPc + 2 + 1) = .ok (.ireturn, 1)) (hr : ret = some .int) (hcl : cl ≤ R.cells) (hsl : sl ≤ R.slots) (h : Rc (some (.int (zI z))) M) : zJx k G R nL (zMQ k G R Rc Xc) M cl sl pc lv E := by
  obtain ⟨⟨p, l, e, s, m⟩, ⟨args, below, meth, c⟩, L0, M0⟩ := k
  obtain ⟨⟨hx, hb, hml, hown, hts⟩, hLow, hfl, hlk, hrt, htb⟩ := F
  intro L H locs ls st q ce hR hA hv hS hl hce hcv hcl9
  refine vx_catch (own := own) (name := E) hown pre x suf (htb.trans hsplit) (fun z9 hz9 => by obtain ⟨g1, nm, g2, g3⟩ := hpass z9 hz9; exact Or.inr ⟨g1, nm, hts _ g2, hLow.2.2.2.2.2.2.2.2.2.2.2.2.2.2 _ g3⟩) hcov h0 (hts _ hlink) (va_Nw.use rfl (hLow.2.2.2.2.2.2.2.2.2.2.1 _ hcast)) hce hcv hcl9 ?_
  refine lv_astore hx hb d1 hl hi rfl (fun ls' hl' => ?_)
  refine lv_iconst (v := zI z) hx hb d2 hz ?_
  refine vx_ret ?_
  refine W.widen hcl hsl ?_
  exact W.iret (v := zI z) hx hb (hrt.trans hr) (fun t ht hW => ⟨⟨some (.int (zI z)), M, L, rfl, h, by rw [ht]; exact hR, hA, fun v e a e2 => by cases e; cases e2⟩, hS.F ht⟩) hS.2.2 d3
/-- caught by the row x: the answer is a number -/
theorem z_catch_n (F : zF k G cc nL own wsL_law ret tb) {E : String} {n z : Int} {i : Nat} {jf : Fin 4} (pre : List ExceptionTableEntry) (x : ExceptionTableEntry) (suf : List ExceptionTableEntry) (hsplit : tb = pre ++ x :: suf) (hpass : ∀ z ∈ pre, z.catchType ≠ 0 ∧ ∃ nm : String, Cond.classLink own z.catchType nm ∈ wsL_law ∧ (E, nm) ∈ zNX) (hcov : covers x pc = true) (h0 : x.catchType ≠ 0) (hlink : Cond.classLink own x.catchType E ∈ wsL_law) (hcast : (E, E) ∈ zNC) (hj : (jf : Nat) = i) (hi : i < nL) (d1 : decode cc x.handlerPc = .ok (.astore_n jf, 1)) (d2 : decode cc (x.handlerPc + 1) = .ok (.iconst n, 1)) (hz : Int32.ofInt n = zI z) (d3 : decode cc (x.handlerPc + 1 + 1) = .ok (.ireturn, 1)) (hr : ret = some .int) (hcl : cl ≤ R.cells) (hsl : sl ≤ R.slots) (h : Rc (some (.int (zI z))) M) : zJx k G R nL (zMQ k G R Rc Xc) M cl sl pc lv E := by
  obtain ⟨⟨p, l, e, s, m⟩, ⟨args, below, meth, c⟩, L0, M0⟩ := k
  obtain ⟨⟨hx, hb, hml, hown, hts⟩, hLow, hfl, hlk, hrt, htb⟩ := F
  intro L H locs ls st q ce hR hA hv hS hl hce hcv hcl9
  refine vx_catch (own := own) (name := E) hown pre x suf (htb.trans hsplit) (fun z9 hz9 => by obtain ⟨g1, nm, g2, g3⟩ := hpass z9 hz9; exact Or.inr ⟨g1, nm, hts _ g2, hLow.2.2.2.2.2.2.2.2.2.2.2.2.2.2 _ g3⟩) hcov h0 (hts _ hlink) (va_Nw.use rfl (hLow.2.2.2.2.2.2.2.2.2.2.1 _ hcast)) hce hcv hcl9 ?_
  refine lv_astore_n hx hb d1 hj hl hi rfl (fun ls' hl' => ?_)
  refine lv_iconst (v := zI z) hx hb d2 hz ?_
  refine vx_ret ?_
  refine W.widen hcl hsl ?_
  exact W.iret (v := zI z) hx hb (hrt.trans hr) (fun t ht hW => ⟨⟨some (.int (zI z)), M, L, rfl, h, by rw [ht]; exact hR, hA, fun v e a e2 => by cases e; cases e2⟩, hS.F ht⟩) hS.2.2 d3
/-- the script, as the law reads it -/
def zSX (k : zC) (G : zG) (n : Nat) (xs : Nat → Int32) : Prop := va_X (G.2.2.2 127) n xs k.1.2.2.2.1 k.1.2.2.2.1.heap ∧ G.2.2.2 127 < k.1.2.2.2.1.heap.size ∧ ¬ zA G (G.2.2.2 127) ∧ n ≤ 2048
theorem z_slen (F : zF k G cc nL own wsL_law ret tb) {n : Nat} {xs : Nat → Int32} (hX : zSX k G n xs) (d : decode cc pc = .ok (.arraylength, 1)) (kk : zJ k G R nL Q M cl sl (pc + 1) lv (.int (zI (n : Nat)) :: st)) : zJ k G R nL Q M cl sl pc lv (.ref 127 :: st) := by
  obtain ⟨⟨p, l, e, s, m⟩, ⟨args, below, meth, c⟩, L0, M0⟩ := k
  obtain ⟨⟨hx, hb, hml, hown, hts⟩, hLow, hfl, hlk, hrt, htb⟩ := F
  obtain ⟨h1, h2, h3, h4⟩ := hX
  intro L H locs ls hR hA hv hs hS hl
  have e127 : L 127 = G.2.2.2 127 := (hR.1 127 (by decide)).1
  have key := kk L H locs ls hR hA hv (zs_i (zs_t hs)) hS hl
  show W p l e R s m args below meth c H locs cl sl Q (F0 m pc ls (.ref (L 127) :: st.map (zmr L)))
  rw [e127]
  exact va_slen hx hb h1 h2 h3 hS d (by rw [zI_nat n] at key; exact key)
theorem z_sld (F : zF k G cc nL own wsL_law ret tb) {n : Nat} {xs : Nat → Int32} {i : Int} (hX : zSX k G n xs) (h0 : 0 ≤ i) (hn : i < n) (d : decode cc pc = .ok (.iaload, 1)) (kk : zJ k G R nL Q M cl sl (pc + 1) lv (.int (zI (xs i.toNat).toInt) :: st)) : zJ k G R nL Q M cl sl pc lv (.int (zI i) :: .ref 127 :: st) := by
  obtain ⟨⟨p, l, e, s, m⟩, ⟨args, below, meth, c⟩, L0, M0⟩ := k
  obtain ⟨⟨hx, hb, hml, hown, hts⟩, hLow, hfl, hlk, hrt, htb⟩ := F
  obtain ⟨h1, h2, h3, h4⟩ := hX
  intro L H locs ls hR hA hv hs hS hl
  have e127 : L 127 = G.2.2.2 127 := (hR.1 127 (by decide)).1
  have key := kk L H locs ls hR hA hv (zs_i (zs_t (zs_t hs))) hS hl
  show W p l e R s m args below meth c H locs cl sl Q (F0 m pc ls (.int (zI i) :: .ref (L 127) :: st.map (zmr L)))
  rw [e127]
  refine va_sld hx hb h1 h2 h3 hS (zI_in h0 hn (by omega)) d ?_
  rw [zI_c h0 (by omega)]
  rw [zI_x] at key
  exact key
theorem z_lcmpE (F : zF k G cc nL own wsL_law ret tb) {x y : Int} (h : x = y) (d : decode cc pc = .ok (.lcmp, 1)) (kk : zJ k G R nL Q M cl sl (pc + 1) lv (.int (zI 0) :: st)) : zJ k G R nL Q M cl sl pc lv (.long (zL y) :: .long (zL x) :: st) := by
  obtain ⟨⟨p, l, e, s, m⟩, ⟨args, below, meth, c⟩, L0, M0⟩ := k
  obtain ⟨⟨hx, hb, hml, hown, hts⟩, hLow, hfl, hlk, hrt, htb⟩ := F
  subst h
  intro L H locs ls hR hA hv hs hS hl
  refine W.lcmp hx hb d ?_
  rw [show lg_cmp (zL x) (zL x) = zI 0 by simp [lg_cmp]; rfl]
  exact kk L H locs ls hR hA hv (zs_i (zs_t (zs_t hs))) hS hl
end ZH
theorem csh_L_99 : zCSH RL 99 yL_hire cL_hire 6 (some .int) [(0, 12, 15, 13), (0, 12, 19, 15)] 5 := ⟨zr_4 _ (List.mem_of_getElem? (i := 2) rfl), zr_4 _ (List.mem_of_getElem? (i := 5) rfl), zr_4 _ (List.mem_of_getElem? (i := 4) rfl), zr_4 _ (List.mem_of_getElem? (i := 3) rfl), by decide⟩
theorem csh_L_109 : zCSH RL 109 yL_addService cL_addService 5 (some .int) [(0, 10, 13, 13), (0, 10, 17, 15)] 4 := ⟨zr_8 _ (List.mem_of_getElem? (i := 10) rfl), zr_8 _ (List.mem_of_getElem? (i := 12) rfl), zr_4 _ (List.mem_of_getElem? (i := 4) rfl), zr_8 _ (List.mem_of_getElem? (i := 11) rfl), by decide⟩
theorem csh_L_113 : zCSH RL 113 yL_addStep cL_addStep 6 (some .int) [(0, 12, 15, 24), (0, 12, 19, 13), (0, 12, 23, 15)] 5 := ⟨zr_10 _ (List.mem_of_getElem? (i := 12) rfl), zr_10 _ (List.mem_of_getElem? (i := 14) rfl), zr_4 _ (List.mem_of_getElem? (i := 4) rfl), zr_10 _ (List.mem_of_getElem? (i := 13) rfl), by decide⟩
theorem csh_L_116 : zCSH RL 116 yL_addUsual cL_addUsual 4 (some .int) [(0, 9, 12, 13), (0, 9, 15, 15)] 3 := ⟨zr_12 _ (List.mem_of_getElem? (i := 5) rfl), zr_12 _ (List.mem_of_getElem? (i := 7) rfl), zr_4 _ (List.mem_of_getElem? (i := 4) rfl), zr_12 _ (List.mem_of_getElem? (i := 6) rfl), by decide⟩
theorem csh_L_120 : zCSH RL 120 yL_book cL_book 5 (some .int) [(0, 10, 13, 24), (0, 10, 17, 15), (0, 10, 21, 33)] 4 := ⟨zr_12 _ (List.mem_of_getElem? (i := 19) rfl), zr_12 _ (List.mem_of_getElem? (i := 21) rfl), zr_4 _ (List.mem_of_getElem? (i := 4) rfl), zr_12 _ (List.mem_of_getElem? (i := 20) rfl), by decide⟩
theorem csh_L_123 : zCSH RL 123 yL_bookWith cL_bookWith 6 (some .int) [(0, 12, 15, 24), (0, 12, 19, 15), (0, 12, 23, 33)] 5 := ⟨zr_20 _ (List.mem_of_getElem? (i := 23) rfl), zr_21 _ (List.mem_of_getElem? (i := 1) rfl), zr_4 _ (List.mem_of_getElem? (i := 4) rfl), zr_21 _ (List.mem_of_getElem? (i := 0) rfl), by decide⟩
theorem csh_L_126 : zCSH RL 126 yL_move cL_move 5 (some .int) [(0, 10, 13, 24), (0, 10, 17, 33)] 4 := ⟨zr_21 _ (List.mem_of_getElem? (i := 18) rfl), zr_21 _ (List.mem_of_getElem? (i := 20) rfl), zr_4 _ (List.mem_of_getElem? (i := 4) rfl), zr_21 _ (List.mem_of_getElem? (i := 19) rfl), by decide⟩
theorem csh_L_129 : zCSH RL 129 yL_drop cL_drop 4 (some .int) [(0, 9, 12, 24)] 3 := ⟨zr_23 _ (List.mem_of_getElem? (i := 22) rfl), zr_24 _ (List.mem_of_getElem? (i := 0) rfl), zr_4 _ (List.mem_of_getElem? (i := 4) rfl), zr_23 _ (List.mem_of_getElem? (i := 23) rfl), by decide⟩
theorem csh_L_132 : zCSH RL 132 yL_request cL_request 5 (some .int) [(0, 10, 13, 24), (0, 10, 17, 15)] 4 := ⟨zr_24 _ (List.mem_of_getElem? (i := 9) rfl), zr_24 _ (List.mem_of_getElem? (i := 11) rfl), zr_4 _ (List.mem_of_getElem? (i := 4) rfl), zr_24 _ (List.mem_of_getElem? (i := 10) rfl), by decide⟩
theorem csh_L_139 : zCSH RL 139 yL_requestAt cL_requestAt 4 (some .int) [(0, 9, 12, 24)] 3 := ⟨zr_25 _ (List.mem_of_getElem? (i := 13) rfl), zr_25 _ (List.mem_of_getElem? (i := 15) rfl), zr_4 _ (List.mem_of_getElem? (i := 4) rfl), zr_25 _ (List.mem_of_getElem? (i := 14) rfl), by decide⟩
theorem csh_L_142 : zCSH RL 142 yL_lengthOf cL_lengthOf 4 (some .int) [(0, 9, 12, 24)] 3 := ⟨zr_26 _ (List.mem_of_getElem? (i := 0) rfl), zr_26 _ (List.mem_of_getElem? (i := 2) rfl), zr_4 _ (List.mem_of_getElem? (i := 4) rfl), zr_26 _ (List.mem_of_getElem? (i := 1) rfl), by decide⟩
theorem csh_L_145 : zCSH RL 145 yL_workOf cL_workOf 4 (some .int) [(0, 9, 12, 24)] 3 := ⟨zr_26 _ (List.mem_of_getElem? (i := 11) rfl), zr_26 _ (List.mem_of_getElem? (i := 13) rfl), zr_4 _ (List.mem_of_getElem? (i := 4) rfl), zr_26 _ (List.mem_of_getElem? (i := 12) rfl), by decide⟩
theorem csh_L_148 : zCSH RL 148 yL_skillsOf cL_skillsOf 4 (some .int) [(0, 9, 12, 24)] 3 := ⟨zr_26 _ (List.mem_of_getElem? (i := 22) rfl), zr_27 _ (List.mem_of_getElem? (i := 0) rfl), zr_4 _ (List.mem_of_getElem? (i := 4) rfl), zr_26 _ (List.mem_of_getElem? (i := 23) rfl), by decide⟩
theorem csh_L_155 : zCSH RL 155 yL_startOf cL_startOf 4 (some .int) [(0, 9, 12, 24)] 3 := ⟨zr_27 _ (List.mem_of_getElem? (i := 18) rfl), zr_27 _ (List.mem_of_getElem? (i := 20) rfl), zr_4 _ (List.mem_of_getElem? (i := 4) rfl), zr_27 _ (List.mem_of_getElem? (i := 19) rfl), by decide⟩
theorem csh_L_158 : zCSH RL 158 yL_staffOf cL_staffOf 4 (some .int) [(0, 9, 12, 24)] 3 := ⟨zr_28 _ (List.mem_of_getElem? (i := 5) rfl), zr_28 _ (List.mem_of_getElem? (i := 7) rfl), zr_4 _ (List.mem_of_getElem? (i := 4) rfl), zr_28 _ (List.mem_of_getElem? (i := 6) rfl), by decide⟩
theorem csh_L_161 : zCSH RL 161 yL_chairOf cL_chairOf 4 (some .int) [(0, 9, 12, 24)] 3 := ⟨zr_28 _ (List.mem_of_getElem? (i := 16) rfl), zr_28 _ (List.mem_of_getElem? (i := 18) rfl), zr_4 _ (List.mem_of_getElem? (i := 4) rfl), zr_28 _ (List.mem_of_getElem? (i := 17) rfl), by decide⟩
theorem csh_L_164 : zCSH RL 164 yL_serviceOf cL_serviceOf 4 (some .int) [(0, 9, 12, 24)] 3 := ⟨zr_29 _ (List.mem_of_getElem? (i := 3) rfl), zr_29 _ (List.mem_of_getElem? (i := 5) rfl), zr_4 _ (List.mem_of_getElem? (i := 4) rfl), zr_29 _ (List.mem_of_getElem? (i := 4) rfl), by decide⟩
theorem csh_L_167 : zCSH RL 167 yL_loadOf cL_loadOf 4 (some .int) [(0, 9, 12, 24)] 3 := ⟨zr_29 _ (List.mem_of_getElem? (i := 14) rfl), zr_29 _ (List.mem_of_getElem? (i := 16) rfl), zr_4 _ (List.mem_of_getElem? (i := 4) rfl), zr_29 _ (List.mem_of_getElem? (i := 15) rfl), by decide⟩
theorem csh_L_170 : zCSH RL 170 yL_staffAt cL_staffAt 5 (some .int) [(0, 10, 13, 24)] 4 := ⟨zr_30 _ (List.mem_of_getElem? (i := 1) rfl), zr_30 _ (List.mem_of_getElem? (i := 3) rfl), zr_4 _ (List.mem_of_getElem? (i := 4) rfl), zr_30 _ (List.mem_of_getElem? (i := 2) rfl), by decide⟩
theorem csh_L_173 : zCSH RL 173 yL_chairAt cL_chairAt 5 (some .int) [(0, 10, 13, 24)] 4 := ⟨zr_30 _ (List.mem_of_getElem? (i := 16) rfl), zr_30 _ (List.mem_of_getElem? (i := 18) rfl), zr_4 _ (List.mem_of_getElem? (i := 4) rfl), zr_30 _ (List.mem_of_getElem? (i := 17) rfl), by decide⟩
theorem csh_L_176 : zCSH RL 176 yL_earliest cL_earliest 5 (some .int) [(0, 10, 13, 24)] 4 := ⟨zr_31 _ (List.mem_of_getElem? (i := 3) rfl), zr_31 _ (List.mem_of_getElem? (i := 5) rfl), zr_4 _ (List.mem_of_getElem? (i := 4) rfl), zr_31 _ (List.mem_of_getElem? (i := 4) rfl), by decide⟩
theorem csh_L_179 : zCSH RL 179 yL_earliestByScan cL_earliestByScan 5 (some .int) [(0, 10, 13, 24)] 4 := ⟨zr_31 _ (List.mem_of_getElem? (i := 14) rfl), zr_31 _ (List.mem_of_getElem? (i := 16) rfl), zr_4 _ (List.mem_of_getElem? (i := 4) rfl), zr_31 _ (List.mem_of_getElem? (i := 15) rfl), by decide⟩
theorem csh_L_182 : zCSH RL 182 yL_staffFor cL_staffFor 5 (some .int) [(0, 10, 13, 24)] 4 := ⟨zr_32 _ (List.mem_of_getElem? (i := 6) rfl), zr_32 _ (List.mem_of_getElem? (i := 8) rfl), zr_4 _ (List.mem_of_getElem? (i := 4) rfl), zr_32 _ (List.mem_of_getElem? (i := 7) rfl), by decide⟩
theorem csh_L_185 : zCSH RL 185 yL_inRest cL_inRest 5 (some .int) [(0, 10, 13, 24)] 4 := ⟨zr_32 _ (List.mem_of_getElem? (i := 17) rfl), zr_32 _ (List.mem_of_getElem? (i := 19) rfl), zr_4 _ (List.mem_of_getElem? (i := 4) rfl), zr_32 _ (List.mem_of_getElem? (i := 18) rfl), by decide⟩
theorem csh_L_188 : zCSH RL 188 yL_fill cL_fill 4 (some .int) [(0, 9, 12, 13)] 3 := ⟨zr_33 _ (List.mem_of_getElem? (i := 4) rfl), zr_33 _ (List.mem_of_getElem? (i := 6) rfl), zr_4 _ (List.mem_of_getElem? (i := 4) rfl), zr_33 _ (List.mem_of_getElem? (i := 5) rfl), by decide⟩
