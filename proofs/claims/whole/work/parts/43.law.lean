/-! THE CLAIM OUT OF ONE WALK OF THE LAW'S BODY. Your part is whole_start (and what it stands on); all else here is the same for every law, but numbers. -/
def R_law : String := "SalonBookLaw"
def lw_P (b : Addr) (xs : List Int32) (args : Array Value) (s : State) : Prop := args = #[.ref b] ∧ s.IntsAt b xs ∧ xs.length ≤ 2048 ∧ (Jvm.Cond.and given_1 narrow_1).before args s = true
def lw_Q (_ : Array Value) (s : State) (o : Outcome) (t : State) : Prop := o = .returned (some (.int 1)) ∧ Framed s o t [] 601024 7293034
def lw_Z (below : List Frame) (a : Array Value) (s : State) : State → Prop := fun t => ∃ o, t.status = .running ∧ Ended t below o ∧ lw_Q a s o t
/-- the law's own end, with 1 on the stack, nothing written that was there before, its room as the claim has it -/
theorem lw_ret {p : Program} {l : Launch} {e : Env} {s : State} {m : MethodId} {below : List Frame} {meth : Method} {c : Code} {b : Nat} (hx : p.tables.exec = Jvm.exec) (hb : c.code = code) (hr : meth.sig.returnType = ret) (hlocks : meth.locks = false) {pc : Nat} {H : Heap} {ls : Array Slot} (hdg : decode code pc = .ok (.ireturn, 1)) : W p l e room_1 s m #[Value.ref b] below meth c H [] 601024 7293034 (lw_Z below #[Value.ref b] s) (F0 m pc ls [.int 1]) := by
  intro T hT X
  obtain ⟨fs, hret, hrun, hended, hW, hframe⟩ := X.leave (v := some (.int 1)) (hlocks := hlocks) (fun h => by rw [hr] at h; cases h)
  have hmeth' : T.vm.method? m = some meth := X.method'
  refine ⟨T.setFrames fs, ?_, .returned (some (.int 1)), hrun, hended, rfl, ⟨_, rfl⟩, hW, hframe⟩
  jvm_step X.here [X.here.top, hx, hb, hdg, hmeth', hr, ret, narrow_b1]
  (try refine ⟨rfl, ?_⟩); (try refine ⟨rfl, ?_⟩)
  first | (intro acts; rw [hret _ acts rfl rfl rfl]) | rw [hret _ _ rfl rfl rfl]
  exact Steps.refl _
/-- what holds at the law's entry: the machine, the code, the tables' words (any of lw_tbl by 'hts w (by decide +kernel)'), the script of L ints xs at the cell b, what the Statement gives of the start (any of its parts by flat_of_before) -/
def lw_At (p : Program) (s : State) (m : MethodId) (meth : Method) (c : Code) (b L : Nat) (xs : Nat → Int32) : Prop :=
  p.tables.exec = Jvm.exec ∧ c.code = code ∧ meth.sig.returnType = ret ∧ c.maxLocals = 7 ∧ s.vm.findClass R_law = some m.cls ∧ (∀ w ∈ lw_tbl, w.before #[Value.ref b] s = true) ∧ va_X b L xs s s.heap ∧ b < s.heap.size ∧ meth.locks = false ∧ (Jvm.Cond.and given_1 narrow_1).before #[Value.ref b] s = true
theorem zI_31 (y : Int32) : ∃ v : Nat, v < 32 ∧ zI y.toInt &&& zI 31 = zI (v : Int) := by
  refine ⟨(y &&& 31).toBitVec.toNat, ?_, ?_⟩
  · show (y.toBitVec &&& (31 : Int32).toBitVec).toNat < 32
    rw [BitVec.toNat_and]
    exact Nat.lt_of_le_of_lt Nat.and_le_right (by decide)
  · rw [zI_x, show zI 31 = (31 : Int32) from rfl]
    show y &&& 31 = Int32.ofInt (((y &&& 31).toBitVec.toNat : Nat) : Int)
    apply Int32.toBitVec_inj.mp
    simp [Int32.toBitVec_ofInt]
section ZLW
variable {k : zC} {G : zG} {M : zM} {cl sl : Nat} {lv : List (Nat × Value)}
theorem z_lawret {b : Nat} {tb : List ExceptionTableEntry} (F : zF k G cL_law 7 RL wsL_law (some .boolean) tb) (ha : k.2.1.1 = #[Value.ref b]) (hGb : k.1.2.2.2.1.heap.size ≤ G.2.2.1) (hcl : cl ≤ 601024) (hsl : sl ≤ 7293034) : zJ k G room_1 7 (lw_Z k.2.1.2.1 #[Value.ref b] k.1.2.2.2.1) M cl sl 1802 lv [.int (zI 1)] := by
  obtain ⟨⟨p, l, e, s, m⟩, ⟨args, below, meth, c⟩, L0, M0⟩ := k
  obtain ⟨⟨hx, hb, hml, hown, hts⟩, hLow, hfl, hlk, hrt, htb⟩ := F
  have ha2 : args = #[Value.ref b] := ha
  subst ha2
  intro L H locs ls hR hA hv hs hS hl
  refine va_forget (fun q hq => Nat.le_trans hGb (hS.2.2 q hq)) ?_
  refine W.widen hcl hsl ?_
  exact lw_ret hx hb hrt hlk dL_law_1802
end ZLW
set_option maxRecDepth 100000 in
set_option maxHeartbeats 4000000 in
theorem law_case_0 {k : zC} {G : zG} {n : Nat} {xs : Nat → Int32} {Q : State → Prop} {tb : List ExceptionTableEntry} (F : zF k G cL_law 7 RL wsL_law (some .boolean) tb) (hX : zSX k G n xs) {s u : zS} {o : zOx} {i : Int} {cl0 sl0 : Nat} (hI : zInv s) (hu : zB u) (hob : ∀ m, o.2 m = 0 ∨ o.2 m = 1) (h3 : ∀ j, s 3 j 0 ≤ 600) (h18 : s 18 0 0 < 1000) (hi0 : 0 ≤ i) (hi1 : i + 3 < n) (hcl : cl0 + 22 ≤ 601024) (hsl : sl0 + 1240 ≤ 7293034) {a : Int} (ea : (xs (i + 1).toNat).toInt = a) {b : Int} (eb : (xs (i + 2).toNat).toInt = b) {d : Int} (ed : (xs (i + 3).toNat).toInt = d) (hnext : ∀ (s2 T2 : zS) (o2 : zOx), zK s s2 → zB T2 → (∀ m, o2.2 m = 0 ∨ o2.2 m = 1) → zJ k G room_1 7 Q (zAll s2 (zMix s2 T2) o2) (cl0 + 22) (sl0 + 1240) 1795 [(0, .ref 127), (1, .ref 0), (2, .ref 16), (3, .ref 33), (4, .int (zI i))] []) : zJ k G room_1 7 Q (zAll s (zMix s u) o) cl0 sl0 164 [(0, .ref 127), (1, .ref 0), (2, .ref 16), (3, .ref 33), (4, .int (zI i))] [] := by
  have ha : zR a := ea ▸ zI_r _
  have hb : zR b := eb ▸ zI_r _
  have hd : zR d := ed ▸ zI_r _
  have hK := xHire_k hI h3 a b d
  refine z_aload_n F 1 dL_law_164 rfl rfl ?_
  refine z_aload_n F 0 dL_law_165 rfl rfl ?_
  refine z_iload F 4 dL_law_166 rfl ?_
  refine z_iconst (z := 1) F dL_law_168 (by decide) ?_
  refine z_iadd F dL_law_169 ?_
  refine z_sld F hX (by omega) (by omega) dL_law_170 ?_
  refine z_ti (y := a) ea ?_
  refine z_aload_n F 0 dL_law_171 rfl rfl ?_
  refine z_iload F 4 dL_law_172 rfl ?_
  refine z_iconst (z := 2) F dL_law_174 (by decide) ?_
  refine z_iadd F dL_law_175 ?_
  refine z_sld F hX (by omega) (by omega) dL_law_176 ?_
  refine z_ti (y := b) eb ?_
  refine z_aload_n F 0 dL_law_177 rfl rfl ?_
  refine z_iload F 4 dL_law_178 rfl ?_
  refine z_iconst (z := 3) F dL_law_180 (by decide) ?_
  refine z_iadd F dL_law_181 ?_
  refine z_sld F hX (by omega) (by omega) dL_law_182 ?_
  refine z_ti (y := d) ed ?_
  refine z_aload_n F 3 dL_law_183 rfl rfl ?_
  refine z_callSH F [.ref 0, .int (zI a), .int (zI b), .int (zI d), .ref 33] [] (c_L_hire F.2.2.1 G (s := s) (t := zMix s u) (o := o) hI.c hI.b hI hob ha hb hd) csh_L_99 rfl ⟨by decide, by decide⟩ ⟨show cl0 + 5 ≤ 601024 by omega, show sl0 + 1240 ≤ 7293034 by omega⟩ (Nat.le_of_ble_eq_true rfl) dL_law_184 z_nx (z_ki (fun x_1 M_1 h_1 => ?_))
  obtain ⟨hx9, q9, c9, hm9, hk9, hv9⟩ := h_1
  subst hx9
  subst hm9
  refine z_istore F [(5, .int (zI ((xHire s a b d).1))), (0, .ref 127), (1, .ref 0), (2, .ref 16), (3, .ref 33), (4, .int (zI i))] dL_law_187 (by decide) rfl ?_
  refine z_aload_n F 3 dL_law_189 rfl rfl ?_
  refine z_aload_n F 1 dL_law_190 rfl rfl ?_
  refine z_iload F 5 dL_law_191 rfl ?_
  refine z_iconst (z := 1) F dL_law_193 (by decide) ?_
  refine z_iadd F dL_law_194 ?_
  refine z_sld F hX (by omega) (by omega) dL_law_195 ?_
  refine z_ti (y := a) ea ?_
  refine z_aload_n F 1 dL_law_196 rfl rfl ?_
  refine z_iload F 5 dL_law_197 rfl ?_
  refine z_iconst (z := 2) F dL_law_199 (by decide) ?_
  refine z_iadd F dL_law_200 ?_
  refine z_sld F hX (by omega) (by omega) dL_law_201 ?_
  refine z_ti (y := b) eb ?_
  refine z_aload_n F 1 dL_law_202 rfl rfl ?_
  refine z_iload F 5 dL_law_203 rfl ?_
  refine z_iconst (z := 3) F dL_law_205 (by decide) ?_
  refine z_iadd F dL_law_206 ?_
  refine z_sld F hX (by omega) (by omega) dL_law_207 ?_
  refine z_ti (y := d) ed ?_
  refine z_callV F [.int (zI a), .int (zI b), .int (zI d)] [] (c_X7_hire F.2.2.1 G (s := (xHire s a b d).2.2) (t := zMix s u) (c := s) (o := (q9, c9)) (zMix_c hI.c) (zMix_b hI.b hu) hI (zMix_r s u) h3 ha hb hd) cv_L_104 (zAll_16 (xHire s a b d).2.2 (zMix s u) (q9, c9)) rfl rfl rfl ⟨by decide, by decide⟩ ⟨show cl0 + 5 + 0 ≤ 601024 by omega, show sl0 + 1240 + 0 ≤ 7293034 by omega⟩ (Nat.le_of_ble_eq_true rfl) dL_law_208 z_nx (z_ki (fun x_2 M_2 h_2 => ?_))
  obtain ⟨T9, hmT, hbT, hrT, h25, hvT⟩ := h_2
  subst hmT
  refine z_M (M' := (zAll (xHire s a b d).2.2 (zMix (xHire s a b d).2.2 T9) (q9, c9))) (zAll_mix hrT) ?_
  refine z_istore F [(6, .int (zI x_2)), (5, .int (zI ((xHire s a b d).1))), (0, .ref 127), (1, .ref 0), (2, .ref 16), (3, .ref 33), (4, .int (zI i))] dL_law_211 (by decide) rfl ?_
  refine z_aload_n F 4 dL_law_213 rfl rfl ?_
  refine z_callV F [] [] (c_X7_thrown F.2.2.1 G (s := (xHire s a b d).2.2) (t := zMix (xHire s a b d).2.2 T9) (o := (q9, c9)) (zMix_c hK.1.c) (zMix_b hK.1.b hbT)) cv_L_105 (zAll_16 (xHire s a b d).2.2 (zMix (xHire s a b d).2.2 T9) (q9, c9)) rfl rfl rfl ⟨by decide, by decide⟩ ⟨show cl0 + 5 + 0 + 0 ≤ 601024 by omega, show sl0 + 1240 + 0 + 0 ≤ 7293034 by omega⟩ (Nat.le_of_ble_eq_true rfl) dL_law_214 z_nx (z_ki (fun x_3 M_3 h_3 => ?_))
  have hx9 := (h_3).1.symm
  have hm9 := (h_3).2.symm
  subst hx9
  subst hm9
  have hX1 := hbT 25 0 0
  rw [h25] at hX1
  refine z_ti (y := (xHire s a b d).1) h25 ?_
  refine z_iload F 1 dL_law_217 rfl ?_
  refine z_icmp_eq F 224 dL_law_219 (by decide) (by omega) (by omega) (fun c_4 => ?_) (fun c_4 => ?_)
  · skip
    refine z_iload F 1 dL_law_224 rfl ?_
    refine z_if_ne F 241 dL_law_226 (by decide) (by omega) (fun c_5 => ?_) (fun c_5 => ?_)
    · skip
      refine z_goto F 1795 dL_law_241 (by decide) ?_
      refine z_lv [(0, .ref 127), (1, .ref 0), (2, .ref 16), (3, .ref 33), (4, .int (zI i))] [2, 3, 4, 5, 6] rfl ?_
      refine z_wd (cl0 + 22) (sl0 + 1240) (show cl0 + 5 + 0 + 0 ≤ cl0 + 22 by omega) (show sl0 + 1240 + 0 + 0 ≤ sl0 + 1240 by omega) ?_
      exact hnext _ _ _ hK hbT hk9
    · skip
      have hz0 : (xHire s a b d).1 = 0 := c_5
      have hvv := hvT hz0
      refine z_aload_n F 5 dL_law_229 rfl rfl ?_
      refine z_iconst (z := 0) F dL_law_230 (by decide) ?_
      refine z_lald F (zAll_33 (xHire s a b d).2.2 (zMix (xHire s a b d).2.2 T9) (q9, c9)) (by decide) (by decide) (by decide) dL_law_231 ?_
      refine z_iload F 0 dL_law_232 rfl ?_
      refine z_i2l F (by rw [hvv]; exact (hv9 hz0).2) dL_law_234 ?_
      refine z_lcmpE F ((hv9 hz0).1.trans hvv.symm) dL_law_235 ?_
      refine z_if_eq F 241 dL_law_236 (by decide) ⟨by decide, by decide⟩ (fun c_6 => ?_) (fun c_6 => ?_)
      · skip
        refine z_goto F 1795 dL_law_241 (by decide) ?_
        refine z_lv [(0, .ref 127), (1, .ref 0), (2, .ref 16), (3, .ref 33), (4, .int (zI i))] [2, 3, 4, 5, 6] rfl ?_
        refine z_wd (cl0 + 22) (sl0 + 1240) (show cl0 + 5 + 0 + 0 ≤ cl0 + 22 by omega) (show sl0 + 1240 + 0 + 0 ≤ sl0 + 1240 by omega) ?_
        exact hnext _ _ _ hK hbT hk9
      · skip
        exact absurd rfl c_6
  · skip
    exact absurd rfl c_4
set_option maxRecDepth 100000 in
set_option maxHeartbeats 4000000 in
theorem law_case_1 {k : zC} {G : zG} {n : Nat} {xs : Nat → Int32} {Q : State → Prop} {tb : List ExceptionTableEntry} (F : zF k G cL_law 7 RL wsL_law (some .boolean) tb) (hX : zSX k G n xs) {s u : zS} {o : zOx} {i : Int} {cl0 sl0 : Nat} (hI : zInv s) (hu : zB u) (hob : ∀ m, o.2 m = 0 ∨ o.2 m = 1) (h3 : ∀ j, s 3 j 0 ≤ 600) (h18 : s 18 0 0 < 1000) (hi0 : 0 ≤ i) (hi1 : i + 3 < n) (hcl : cl0 + 22 ≤ 601024) (hsl : sl0 + 1240 ≤ 7293034) {a : Int} (ea : (xs (i + 1).toNat).toInt = a) {b : Int} (eb : (xs (i + 2).toNat).toInt = b) (hnext : ∀ (s2 T2 : zS) (o2 : zOx), zK s s2 → zB T2 → (∀ m, o2.2 m = 0 ∨ o2.2 m = 1) → zJ k G room_1 7 Q (zAll s2 (zMix s2 T2) o2) (cl0 + 22) (sl0 + 1240) 1795 [(0, .ref 127), (1, .ref 0), (2, .ref 16), (3, .ref 33), (4, .int (zI i))] []) : zJ k G room_1 7 Q (zAll s (zMix s u) o) cl0 sl0 244 [(0, .ref 127), (1, .ref 0), (2, .ref 16), (3, .ref 33), (4, .int (zI i))] [] := by
  have ha : zR a := ea ▸ zI_r _
  have hb : zR b := eb ▸ zI_r _
  have hK := xService_k hI h3 a b
  refine z_aload_n F 1 dL_law_244 rfl rfl ?_
  refine z_aload_n F 0 dL_law_245 rfl rfl ?_
  refine z_iload F 4 dL_law_246 rfl ?_
  refine z_iconst (z := 1) F dL_law_248 (by decide) ?_
  refine z_iadd F dL_law_249 ?_
  refine z_sld F hX (by omega) (by omega) dL_law_250 ?_
  refine z_ti (y := a) ea ?_
  refine z_aload_n F 0 dL_law_251 rfl rfl ?_
  refine z_iload F 4 dL_law_252 rfl ?_
  refine z_iconst (z := 2) F dL_law_254 (by decide) ?_
  refine z_iadd F dL_law_255 ?_
  refine z_sld F hX (by omega) (by omega) dL_law_256 ?_
  refine z_ti (y := b) eb ?_
  refine z_aload_n F 3 dL_law_257 rfl rfl ?_
  refine z_callSH F [.ref 0, .int (zI a), .int (zI b), .ref 33] [] (c_L_addService F.2.2.1 G (s := s) (t := zMix s u) (o := o) hI.c hI.b hI hob ha hb) csh_L_109 rfl ⟨by decide, by decide⟩ ⟨show cl0 + 7 ≤ 601024 by omega, show sl0 + 69 ≤ 7293034 by omega⟩ (Nat.le_of_ble_eq_true rfl) dL_law_258 z_nx (z_ki (fun x_1 M_1 h_1 => ?_))
  obtain ⟨hx9, q9, c9, hm9, hk9, hv9⟩ := h_1
  subst hx9
  subst hm9
  refine z_istore F [(5, .int (zI ((xService s a b).1))), (0, .ref 127), (1, .ref 0), (2, .ref 16), (3, .ref 33), (4, .int (zI i))] dL_law_261 (by decide) rfl ?_
  refine z_aload_n F 3 dL_law_263 rfl rfl ?_
  refine z_aload_n F 1 dL_law_264 rfl rfl ?_
  refine z_iload F 5 dL_law_265 rfl ?_
  refine z_iconst (z := 1) F dL_law_267 (by decide) ?_
  refine z_iadd F dL_law_268 ?_
  refine z_sld F hX (by omega) (by omega) dL_law_269 ?_
  refine z_ti (y := a) ea ?_
  refine z_aload_n F 1 dL_law_270 rfl rfl ?_
  refine z_iload F 5 dL_law_271 rfl ?_
  refine z_iconst (z := 2) F dL_law_273 (by decide) ?_
  refine z_iadd F dL_law_274 ?_
  refine z_sld F hX (by omega) (by omega) dL_law_275 ?_
  refine z_ti (y := b) eb ?_
  refine z_callV F [.int (zI a), .int (zI b)] [] (c_X7_addService F.2.2.1 G (s := (xService s a b).2.2) (t := zMix s u) (c := s) (o := (q9, c9)) (zMix_c hI.c) (zMix_b hI.b hu) hI (zMix_r s u) h3 ha hb) cv_L_112 (zAll_16 (xService s a b).2.2 (zMix s u) (q9, c9)) rfl rfl rfl ⟨by decide, by decide⟩ ⟨show cl0 + 7 + 0 ≤ 601024 by omega, show sl0 + 69 + 0 ≤ 7293034 by omega⟩ (Nat.le_of_ble_eq_true rfl) dL_law_276 z_nx (z_ki (fun x_2 M_2 h_2 => ?_))
  obtain ⟨T9, hmT, hbT, hrT, h25, hvT⟩ := h_2
  subst hmT
  refine z_M (M' := (zAll (xService s a b).2.2 (zMix (xService s a b).2.2 T9) (q9, c9))) (zAll_mix hrT) ?_
  refine z_istore F [(6, .int (zI x_2)), (5, .int (zI ((xService s a b).1))), (0, .ref 127), (1, .ref 0), (2, .ref 16), (3, .ref 33), (4, .int (zI i))] dL_law_279 (by decide) rfl ?_
  refine z_aload_n F 4 dL_law_281 rfl rfl ?_
  refine z_callV F [] [] (c_X7_thrown F.2.2.1 G (s := (xService s a b).2.2) (t := zMix (xService s a b).2.2 T9) (o := (q9, c9)) (zMix_c hK.1.c) (zMix_b hK.1.b hbT)) cv_L_105 (zAll_16 (xService s a b).2.2 (zMix (xService s a b).2.2 T9) (q9, c9)) rfl rfl rfl ⟨by decide, by decide⟩ ⟨show cl0 + 7 + 0 + 0 ≤ 601024 by omega, show sl0 + 69 + 0 + 0 ≤ 7293034 by omega⟩ (Nat.le_of_ble_eq_true rfl) dL_law_282 z_nx (z_ki (fun x_3 M_3 h_3 => ?_))
  have hx9 := (h_3).1.symm
  have hm9 := (h_3).2.symm
  subst hx9
  subst hm9
  have hX1 := hbT 25 0 0
  rw [h25] at hX1
  refine z_ti (y := (xService s a b).1) h25 ?_
  refine z_iload F 1 dL_law_285 rfl ?_
  refine z_icmp_eq F 292 dL_law_287 (by decide) (by omega) (by omega) (fun c_4 => ?_) (fun c_4 => ?_)
  · skip
    refine z_iload F 1 dL_law_292 rfl ?_
    refine z_if_ne F 309 dL_law_294 (by decide) (by omega) (fun c_5 => ?_) (fun c_5 => ?_)
    · skip
      refine z_goto F 1795 dL_law_309 (by decide) ?_
      refine z_lv [(0, .ref 127), (1, .ref 0), (2, .ref 16), (3, .ref 33), (4, .int (zI i))] [2, 3, 4, 5, 6] rfl ?_
      refine z_wd (cl0 + 22) (sl0 + 1240) (show cl0 + 7 + 0 + 0 ≤ cl0 + 22 by omega) (show sl0 + 69 + 0 + 0 ≤ sl0 + 1240 by omega) ?_
      exact hnext _ _ _ hK hbT hk9
    · skip
      have hz0 : (xService s a b).1 = 0 := c_5
      have hvv := hvT hz0
      refine z_aload_n F 5 dL_law_297 rfl rfl ?_
      refine z_iconst (z := 0) F dL_law_298 (by decide) ?_
      refine z_lald F (zAll_33 (xService s a b).2.2 (zMix (xService s a b).2.2 T9) (q9, c9)) (by decide) (by decide) (by decide) dL_law_299 ?_
      refine z_iload F 0 dL_law_300 rfl ?_
      refine z_i2l F (by rw [hvv]; exact (hv9 hz0).2) dL_law_302 ?_
      refine z_lcmpE F ((hv9 hz0).1.trans hvv.symm) dL_law_303 ?_
      refine z_if_eq F 309 dL_law_304 (by decide) ⟨by decide, by decide⟩ (fun c_6 => ?_) (fun c_6 => ?_)
      · skip
        refine z_goto F 1795 dL_law_309 (by decide) ?_
        refine z_lv [(0, .ref 127), (1, .ref 0), (2, .ref 16), (3, .ref 33), (4, .int (zI i))] [2, 3, 4, 5, 6] rfl ?_
        refine z_wd (cl0 + 22) (sl0 + 1240) (show cl0 + 7 + 0 + 0 ≤ cl0 + 22 by omega) (show sl0 + 69 + 0 + 0 ≤ sl0 + 1240 by omega) ?_
        exact hnext _ _ _ hK hbT hk9
      · skip
        exact absurd rfl c_6
  · skip
    exact absurd rfl c_4
set_option maxRecDepth 100000 in
set_option maxHeartbeats 4000000 in
theorem law_case_2 {k : zC} {G : zG} {n : Nat} {xs : Nat → Int32} {Q : State → Prop} {tb : List ExceptionTableEntry} (F : zF k G cL_law 7 RL wsL_law (some .boolean) tb) (hX : zSX k G n xs) {s u : zS} {o : zOx} {i : Int} {cl0 sl0 : Nat} (hI : zInv s) (hu : zB u) (hob : ∀ m, o.2 m = 0 ∨ o.2 m = 1) (h3 : ∀ j, s 3 j 0 ≤ 600) (h18 : s 18 0 0 < 1000) (hi0 : 0 ≤ i) (hi1 : i + 3 < n) (hcl : cl0 + 22 ≤ 601024) (hsl : sl0 + 1240 ≤ 7293034) {a : Int} (ea : (xs (i + 1).toNat).toInt = a) {b : Int} (eb : (xs (i + 2).toNat).toInt = b) {d : Int} (ed : (xs (i + 3).toNat).toInt = d) (hnext : ∀ (s2 T2 : zS) (o2 : zOx), zK s s2 → zB T2 → (∀ m, o2.2 m = 0 ∨ o2.2 m = 1) → zJ k G room_1 7 Q (zAll s2 (zMix s2 T2) o2) (cl0 + 22) (sl0 + 1240) 1795 [(0, .ref 127), (1, .ref 0), (2, .ref 16), (3, .ref 33), (4, .int (zI i))] []) : zJ k G room_1 7 Q (zAll s (zMix s u) o) cl0 sl0 312 [(0, .ref 127), (1, .ref 0), (2, .ref 16), (3, .ref 33), (4, .int (zI i))] [] := by
  have ha : zR a := ea ▸ zI_r _
  have hb : zR b := eb ▸ zI_r _
  have hd : zR d := ed ▸ zI_r _
  have hK := xStep_k hI h3 a b d
  refine z_aload_n F 1 dL_law_312 rfl rfl ?_
  refine z_aload_n F 0 dL_law_313 rfl rfl ?_
  refine z_iload F 4 dL_law_314 rfl ?_
  refine z_iconst (z := 1) F dL_law_316 (by decide) ?_
  refine z_iadd F dL_law_317 ?_
  refine z_sld F hX (by omega) (by omega) dL_law_318 ?_
  refine z_ti (y := a) ea ?_
  refine z_aload_n F 0 dL_law_319 rfl rfl ?_
  refine z_iload F 4 dL_law_320 rfl ?_
  refine z_iconst (z := 2) F dL_law_322 (by decide) ?_
  refine z_iadd F dL_law_323 ?_
  refine z_sld F hX (by omega) (by omega) dL_law_324 ?_
  refine z_ti (y := b) eb ?_
  refine z_aload_n F 0 dL_law_325 rfl rfl ?_
  refine z_iload F 4 dL_law_326 rfl ?_
  refine z_iconst (z := 3) F dL_law_328 (by decide) ?_
  refine z_iadd F dL_law_329 ?_
  refine z_sld F hX (by omega) (by omega) dL_law_330 ?_
  refine z_ti (y := d) ed ?_
  refine z_aload_n F 3 dL_law_331 rfl rfl ?_
  refine z_callSH F [.ref 0, .int (zI a), .int (zI b), .int (zI d), .ref 33] [] (c_L_addStep F.2.2.1 G (s := s) (t := zMix s u) (o := o) hI.c hI.b hI hob ha hb hd) csh_L_113 rfl ⟨by decide, by decide⟩ ⟨show cl0 + 3 ≤ 601024 by omega, show sl0 + 18 ≤ 7293034 by omega⟩ (Nat.le_of_ble_eq_true rfl) dL_law_332 z_nx (z_ki (fun x_1 M_1 h_1 => ?_))
  obtain ⟨hx9, q9, c9, hm9, hk9, hv9⟩ := h_1
  subst hx9
  subst hm9
  refine z_istore F [(5, .int (zI ((xStep s a b d).1))), (0, .ref 127), (1, .ref 0), (2, .ref 16), (3, .ref 33), (4, .int (zI i))] dL_law_335 (by decide) rfl ?_
  refine z_aload_n F 3 dL_law_337 rfl rfl ?_
  refine z_aload_n F 1 dL_law_338 rfl rfl ?_
  refine z_iload F 5 dL_law_339 rfl ?_
  refine z_iconst (z := 1) F dL_law_341 (by decide) ?_
  refine z_iadd F dL_law_342 ?_
  refine z_sld F hX (by omega) (by omega) dL_law_343 ?_
  refine z_ti (y := a) ea ?_
  refine z_aload_n F 1 dL_law_344 rfl rfl ?_
  refine z_iload F 5 dL_law_345 rfl ?_
  refine z_iconst (z := 2) F dL_law_347 (by decide) ?_
  refine z_iadd F dL_law_348 ?_
  refine z_sld F hX (by omega) (by omega) dL_law_349 ?_
  refine z_ti (y := b) eb ?_
  refine z_aload_n F 1 dL_law_350 rfl rfl ?_
  refine z_iload F 5 dL_law_351 rfl ?_
  refine z_iconst (z := 3) F dL_law_353 (by decide) ?_
  refine z_iadd F dL_law_354 ?_
  refine z_sld F hX (by omega) (by omega) dL_law_355 ?_
  refine z_ti (y := d) ed ?_
  refine z_callV F [.int (zI a), .int (zI b), .int (zI d)] [] (c_X7_addStep F.2.2.1 G (s := (xStep s a b d).2.2) (t := zMix s u) (c := s) (o := (q9, c9)) (zMix_c hI.c) (zMix_b hI.b hu) hI (zMix_r s u) h3 ha hb hd) cv_L_115 (zAll_16 (xStep s a b d).2.2 (zMix s u) (q9, c9)) rfl rfl rfl ⟨by decide, by decide⟩ ⟨show cl0 + 3 + 0 ≤ 601024 by omega, show sl0 + 18 + 0 ≤ 7293034 by omega⟩ (Nat.le_of_ble_eq_true rfl) dL_law_356 z_nx (z_ki (fun x_2 M_2 h_2 => ?_))
  obtain ⟨T9, hmT, hbT, hrT, h25, hvT⟩ := h_2
  subst hmT
  refine z_M (M' := (zAll (xStep s a b d).2.2 (zMix (xStep s a b d).2.2 T9) (q9, c9))) (zAll_mix hrT) ?_
  refine z_istore F [(6, .int (zI x_2)), (5, .int (zI ((xStep s a b d).1))), (0, .ref 127), (1, .ref 0), (2, .ref 16), (3, .ref 33), (4, .int (zI i))] dL_law_359 (by decide) rfl ?_
  refine z_aload_n F 4 dL_law_361 rfl rfl ?_
  refine z_callV F [] [] (c_X7_thrown F.2.2.1 G (s := (xStep s a b d).2.2) (t := zMix (xStep s a b d).2.2 T9) (o := (q9, c9)) (zMix_c hK.1.c) (zMix_b hK.1.b hbT)) cv_L_105 (zAll_16 (xStep s a b d).2.2 (zMix (xStep s a b d).2.2 T9) (q9, c9)) rfl rfl rfl ⟨by decide, by decide⟩ ⟨show cl0 + 3 + 0 + 0 ≤ 601024 by omega, show sl0 + 18 + 0 + 0 ≤ 7293034 by omega⟩ (Nat.le_of_ble_eq_true rfl) dL_law_362 z_nx (z_ki (fun x_3 M_3 h_3 => ?_))
  have hx9 := (h_3).1.symm
  have hm9 := (h_3).2.symm
  subst hx9
  subst hm9
  have hX1 := hbT 25 0 0
  rw [h25] at hX1
  refine z_ti (y := (xStep s a b d).1) h25 ?_
  refine z_iload F 1 dL_law_365 rfl ?_
  refine z_icmp_eq F 372 dL_law_367 (by decide) (by omega) (by omega) (fun c_4 => ?_) (fun c_4 => ?_)
  · skip
    refine z_iload F 1 dL_law_372 rfl ?_
    refine z_if_ne F 389 dL_law_374 (by decide) (by omega) (fun c_5 => ?_) (fun c_5 => ?_)
    · skip
      refine z_goto F 1795 dL_law_389 (by decide) ?_
      refine z_lv [(0, .ref 127), (1, .ref 0), (2, .ref 16), (3, .ref 33), (4, .int (zI i))] [2, 3, 4, 5, 6] rfl ?_
      refine z_wd (cl0 + 22) (sl0 + 1240) (show cl0 + 3 + 0 + 0 ≤ cl0 + 22 by omega) (show sl0 + 18 + 0 + 0 ≤ sl0 + 1240 by omega) ?_
      exact hnext _ _ _ hK hbT hk9
    · skip
      have hz0 : (xStep s a b d).1 = 0 := c_5
      have hvv := hvT hz0
      refine z_aload_n F 5 dL_law_377 rfl rfl ?_
      refine z_iconst (z := 0) F dL_law_378 (by decide) ?_
      refine z_lald F (zAll_33 (xStep s a b d).2.2 (zMix (xStep s a b d).2.2 T9) (q9, c9)) (by decide) (by decide) (by decide) dL_law_379 ?_
      refine z_iload F 0 dL_law_380 rfl ?_
      refine z_i2l F (by rw [hvv]; exact (hv9 hz0).2) dL_law_382 ?_
      refine z_lcmpE F ((hv9 hz0).1.trans hvv.symm) dL_law_383 ?_
      refine z_if_eq F 389 dL_law_384 (by decide) ⟨by decide, by decide⟩ (fun c_6 => ?_) (fun c_6 => ?_)
      · skip
        refine z_goto F 1795 dL_law_389 (by decide) ?_
        refine z_lv [(0, .ref 127), (1, .ref 0), (2, .ref 16), (3, .ref 33), (4, .int (zI i))] [2, 3, 4, 5, 6] rfl ?_
        refine z_wd (cl0 + 22) (sl0 + 1240) (show cl0 + 3 + 0 + 0 ≤ cl0 + 22 by omega) (show sl0 + 18 + 0 + 0 ≤ sl0 + 1240 by omega) ?_
        exact hnext _ _ _ hK hbT hk9
      · skip
        exact absurd rfl c_6
  · skip
    exact absurd rfl c_4
set_option maxRecDepth 100000 in
set_option maxHeartbeats 4000000 in
theorem law_case_3 {k : zC} {G : zG} {n : Nat} {xs : Nat → Int32} {Q : State → Prop} {tb : List ExceptionTableEntry} (F : zF k G cL_law 7 RL wsL_law (some .boolean) tb) (hX : zSX k G n xs) {s u : zS} {o : zOx} {i : Int} {cl0 sl0 : Nat} (hI : zInv s) (hu : zB u) (hob : ∀ m, o.2 m = 0 ∨ o.2 m = 1) (h3 : ∀ j, s 3 j 0 ≤ 600) (h18 : s 18 0 0 < 1000) (hi0 : 0 ≤ i) (hi1 : i + 3 < n) (hcl : cl0 + 22 ≤ 601024) (hsl : sl0 + 1240 ≤ 7293034) {a : Int} (ea : (xs (i + 1).toNat).toInt = a) (hnext : ∀ (s2 T2 : zS) (o2 : zOx), zK s s2 → zB T2 → (∀ m, o2.2 m = 0 ∨ o2.2 m = 1) → zJ k G room_1 7 Q (zAll s2 (zMix s2 T2) o2) (cl0 + 22) (sl0 + 1240) 1795 [(0, .ref 127), (1, .ref 0), (2, .ref 16), (3, .ref 33), (4, .int (zI i))] []) : zJ k G room_1 7 Q (zAll s (zMix s u) o) cl0 sl0 392 [(0, .ref 127), (1, .ref 0), (2, .ref 16), (3, .ref 33), (4, .int (zI i))] [] := by
  have ha : zR a := ea ▸ zI_r _
  have hK := xUsual_k hI h3 a
  refine z_aload_n F 1 dL_law_392 rfl rfl ?_
  refine z_aload_n F 0 dL_law_393 rfl rfl ?_
  refine z_iload F 4 dL_law_394 rfl ?_
  refine z_iconst (z := 1) F dL_law_396 (by decide) ?_
  refine z_iadd F dL_law_397 ?_
  refine z_sld F hX (by omega) (by omega) dL_law_398 ?_
  refine z_ti (y := a) ea ?_
  refine z_aload_n F 3 dL_law_399 rfl rfl ?_
  refine z_callSH F [.ref 0, .int (zI a), .ref 33] [] (c_L_addUsual F.2.2.1 G (s := s) (t := zMix s u) (o := o) hI.c hI.b hI hob ha) csh_L_116 rfl ⟨by decide, by decide⟩ ⟨show cl0 + 6 ≤ 601024 by omega, show sl0 + 63 ≤ 7293034 by omega⟩ (Nat.le_of_ble_eq_true rfl) dL_law_400 z_nx (z_ki (fun x_1 M_1 h_1 => ?_))
  obtain ⟨hx9, q9, c9, hm9, hk9, hv9⟩ := h_1
  subst hx9
  subst hm9
  refine z_istore F [(5, .int (zI ((xUsual s a).1))), (0, .ref 127), (1, .ref 0), (2, .ref 16), (3, .ref 33), (4, .int (zI i))] dL_law_403 (by decide) rfl ?_
  refine z_aload_n F 3 dL_law_405 rfl rfl ?_
  refine z_aload_n F 1 dL_law_406 rfl rfl ?_
  refine z_iload F 5 dL_law_407 rfl ?_
  refine z_iconst (z := 1) F dL_law_409 (by decide) ?_
  refine z_iadd F dL_law_410 ?_
  refine z_sld F hX (by omega) (by omega) dL_law_411 ?_
  refine z_ti (y := a) ea ?_
  refine z_callV F [.int (zI a)] [] (c_X7_addUsual F.2.2.1 G (s := (xUsual s a).2.2) (t := zMix s u) (c := s) (o := (q9, c9)) (zMix_c hI.c) (zMix_b hI.b hu) hI (zMix_r s u) h3 ha) cv_L_119 (zAll_16 (xUsual s a).2.2 (zMix s u) (q9, c9)) rfl rfl rfl ⟨by decide, by decide⟩ ⟨show cl0 + 6 + 0 ≤ 601024 by omega, show sl0 + 63 + 0 ≤ 7293034 by omega⟩ (Nat.le_of_ble_eq_true rfl) dL_law_412 z_nx (z_ki (fun x_2 M_2 h_2 => ?_))
  obtain ⟨T9, hmT, hbT, hrT, h25, hvT⟩ := h_2
  subst hmT
  refine z_M (M' := (zAll (xUsual s a).2.2 (zMix (xUsual s a).2.2 T9) (q9, c9))) (zAll_mix hrT) ?_
  refine z_istore F [(6, .int (zI x_2)), (5, .int (zI ((xUsual s a).1))), (0, .ref 127), (1, .ref 0), (2, .ref 16), (3, .ref 33), (4, .int (zI i))] dL_law_415 (by decide) rfl ?_
  refine z_aload_n F 4 dL_law_417 rfl rfl ?_
  refine z_callV F [] [] (c_X7_thrown F.2.2.1 G (s := (xUsual s a).2.2) (t := zMix (xUsual s a).2.2 T9) (o := (q9, c9)) (zMix_c hK.1.c) (zMix_b hK.1.b hbT)) cv_L_105 (zAll_16 (xUsual s a).2.2 (zMix (xUsual s a).2.2 T9) (q9, c9)) rfl rfl rfl ⟨by decide, by decide⟩ ⟨show cl0 + 6 + 0 + 0 ≤ 601024 by omega, show sl0 + 63 + 0 + 0 ≤ 7293034 by omega⟩ (Nat.le_of_ble_eq_true rfl) dL_law_418 z_nx (z_ki (fun x_3 M_3 h_3 => ?_))
  have hx9 := (h_3).1.symm
  have hm9 := (h_3).2.symm
  subst hx9
  subst hm9
  have hX1 := hbT 25 0 0
  rw [h25] at hX1
  refine z_ti (y := (xUsual s a).1) h25 ?_
  refine z_iload F 1 dL_law_421 rfl ?_
  refine z_icmp_eq F 428 dL_law_423 (by decide) (by omega) (by omega) (fun c_4 => ?_) (fun c_4 => ?_)
  · skip
    refine z_iload F 1 dL_law_428 rfl ?_
    refine z_if_ne F 445 dL_law_430 (by decide) (by omega) (fun c_5 => ?_) (fun c_5 => ?_)
    · skip
      refine z_goto F 1795 dL_law_445 (by decide) ?_
      refine z_lv [(0, .ref 127), (1, .ref 0), (2, .ref 16), (3, .ref 33), (4, .int (zI i))] [2, 3, 4, 5, 6] rfl ?_
      refine z_wd (cl0 + 22) (sl0 + 1240) (show cl0 + 6 + 0 + 0 ≤ cl0 + 22 by omega) (show sl0 + 63 + 0 + 0 ≤ sl0 + 1240 by omega) ?_
      exact hnext _ _ _ hK hbT hk9
    · skip
      have hz0 : (xUsual s a).1 = 0 := c_5
      have hvv := hvT hz0
      refine z_aload_n F 5 dL_law_433 rfl rfl ?_
      refine z_iconst (z := 0) F dL_law_434 (by decide) ?_
      refine z_lald F (zAll_33 (xUsual s a).2.2 (zMix (xUsual s a).2.2 T9) (q9, c9)) (by decide) (by decide) (by decide) dL_law_435 ?_
      refine z_iload F 0 dL_law_436 rfl ?_
      refine z_i2l F (by rw [hvv]; exact (hv9 hz0).2) dL_law_438 ?_
      refine z_lcmpE F ((hv9 hz0).1.trans hvv.symm) dL_law_439 ?_
      refine z_if_eq F 445 dL_law_440 (by decide) ⟨by decide, by decide⟩ (fun c_6 => ?_) (fun c_6 => ?_)
      · skip
        refine z_goto F 1795 dL_law_445 (by decide) ?_
        refine z_lv [(0, .ref 127), (1, .ref 0), (2, .ref 16), (3, .ref 33), (4, .int (zI i))] [2, 3, 4, 5, 6] rfl ?_
        refine z_wd (cl0 + 22) (sl0 + 1240) (show cl0 + 6 + 0 + 0 ≤ cl0 + 22 by omega) (show sl0 + 63 + 0 + 0 ≤ sl0 + 1240 by omega) ?_
        exact hnext _ _ _ hK hbT hk9
      · skip
        exact absurd rfl c_6
  · skip
    exact absurd rfl c_4
set_option maxRecDepth 100000 in
set_option maxHeartbeats 4000000 in
theorem law_case_4 {k : zC} {G : zG} {n : Nat} {xs : Nat → Int32} {Q : State → Prop} {tb : List ExceptionTableEntry} (F : zF k G cL_law 7 RL wsL_law (some .boolean) tb) (hX : zSX k G n xs) {s u : zS} {o : zOx} {i : Int} {cl0 sl0 : Nat} (hI : zInv s) (hu : zB u) (hob : ∀ m, o.2 m = 0 ∨ o.2 m = 1) (h3 : ∀ j, s 3 j 0 ≤ 600) (h18 : s 18 0 0 < 1000) (hi0 : 0 ≤ i) (hi1 : i + 3 < n) (hcl : cl0 + 22 ≤ 601024) (hsl : sl0 + 1240 ≤ 7293034) {a : Int} (ea : (xs (i + 1).toNat).toInt = a) {b : Int} (eb : (xs (i + 2).toNat).toInt = b) (hnext : ∀ (s2 T2 : zS) (o2 : zOx), zK s s2 → zB T2 → (∀ m, o2.2 m = 0 ∨ o2.2 m = 1) → zJ k G room_1 7 Q (zAll s2 (zMix s2 T2) o2) (cl0 + 22) (sl0 + 1240) 1795 [(0, .ref 127), (1, .ref 0), (2, .ref 16), (3, .ref 33), (4, .int (zI i))] []) : zJ k G room_1 7 Q (zAll s (zMix s u) o) cl0 sl0 448 [(0, .ref 127), (1, .ref 0), (2, .ref 16), (3, .ref 33), (4, .int (zI i))] [] := by
  have ha : zR a := ea ▸ zI_r _
  have hb : zR b := eb ▸ zI_r _
  have hK := xBook_k hI h3 a b
  refine z_aload_n F 1 dL_law_448 rfl rfl ?_
  refine z_aload_n F 0 dL_law_449 rfl rfl ?_
  refine z_iload F 4 dL_law_450 rfl ?_
  refine z_iconst (z := 1) F dL_law_452 (by decide) ?_
  refine z_iadd F dL_law_453 ?_
  refine z_sld F hX (by omega) (by omega) dL_law_454 ?_
  refine z_ti (y := a) ea ?_
  refine z_aload_n F 0 dL_law_455 rfl rfl ?_
  refine z_iload F 4 dL_law_456 rfl ?_
  refine z_iconst (z := 2) F dL_law_458 (by decide) ?_
  refine z_iadd F dL_law_459 ?_
  refine z_sld F hX (by omega) (by omega) dL_law_460 ?_
  refine z_ti (y := b) eb ?_
  refine z_aload_n F 3 dL_law_461 rfl rfl ?_
  refine z_callSH F [.ref 0, .int (zI a), .int (zI b), .ref 33] [] (c_L_book F.2.2.1 G (s := s) (t := zMix s u) (o := o) hI.c hI.b hI hob ha hb) csh_L_120 rfl ⟨by decide, by decide⟩ ⟨show cl0 + 6 ≤ 601024 by omega, show sl0 + 62 ≤ 7293034 by omega⟩ (Nat.le_of_ble_eq_true rfl) dL_law_462 z_nx (z_ki (fun x_1 M_1 h_1 => ?_))
  obtain ⟨hx9, q9, c9, hm9, hk9, hv9⟩ := h_1
  subst hx9
  subst hm9
  refine z_istore F [(5, .int (zI ((xBook s a b).1))), (0, .ref 127), (1, .ref 0), (2, .ref 16), (3, .ref 33), (4, .int (zI i))] dL_law_465 (by decide) rfl ?_
  refine z_aload_n F 3 dL_law_467 rfl rfl ?_
  refine z_aload_n F 1 dL_law_468 rfl rfl ?_
  refine z_iload F 5 dL_law_469 rfl ?_
  refine z_iconst (z := 1) F dL_law_471 (by decide) ?_
  refine z_iadd F dL_law_472 ?_
  refine z_sld F hX (by omega) (by omega) dL_law_473 ?_
  refine z_ti (y := a) ea ?_
  refine z_aload_n F 1 dL_law_474 rfl rfl ?_
  refine z_iload F 5 dL_law_475 rfl ?_
  refine z_iconst (z := 2) F dL_law_477 (by decide) ?_
  refine z_iadd F dL_law_478 ?_
  refine z_sld F hX (by omega) (by omega) dL_law_479 ?_
  refine z_ti (y := b) eb ?_
  refine z_callV F [.int (zI a), .int (zI b)] [] (c_X7_book F.2.2.1 G (s := (xBook s a b).2.2) (t := zMix s u) (c := s) (o := (q9, c9)) (zMix_c hI.c) (zMix_b hI.b hu) hI (zMix_r s u) h3 ha hb) cv_L_122 (zAll_16 (xBook s a b).2.2 (zMix s u) (q9, c9)) rfl rfl rfl ⟨by decide, by decide⟩ ⟨show cl0 + 6 + 0 ≤ 601024 by omega, show sl0 + 62 + 0 ≤ 7293034 by omega⟩ (Nat.le_of_ble_eq_true rfl) dL_law_480 z_nx (z_ki (fun x_2 M_2 h_2 => ?_))
  obtain ⟨T9, hmT, hbT, hrT, h25, hvT⟩ := h_2
  subst hmT
  refine z_M (M' := (zAll (xBook s a b).2.2 (zMix (xBook s a b).2.2 T9) (q9, c9))) (zAll_mix hrT) ?_
  refine z_istore F [(6, .int (zI x_2)), (5, .int (zI ((xBook s a b).1))), (0, .ref 127), (1, .ref 0), (2, .ref 16), (3, .ref 33), (4, .int (zI i))] dL_law_483 (by decide) rfl ?_
  refine z_aload_n F 4 dL_law_485 rfl rfl ?_
  refine z_callV F [] [] (c_X7_thrown F.2.2.1 G (s := (xBook s a b).2.2) (t := zMix (xBook s a b).2.2 T9) (o := (q9, c9)) (zMix_c hK.1.c) (zMix_b hK.1.b hbT)) cv_L_105 (zAll_16 (xBook s a b).2.2 (zMix (xBook s a b).2.2 T9) (q9, c9)) rfl rfl rfl ⟨by decide, by decide⟩ ⟨show cl0 + 6 + 0 + 0 ≤ 601024 by omega, show sl0 + 62 + 0 + 0 ≤ 7293034 by omega⟩ (Nat.le_of_ble_eq_true rfl) dL_law_486 z_nx (z_ki (fun x_3 M_3 h_3 => ?_))
  have hx9 := (h_3).1.symm
  have hm9 := (h_3).2.symm
  subst hx9
  subst hm9
  have hX1 := hbT 25 0 0
  rw [h25] at hX1
  refine z_ti (y := (xBook s a b).1) h25 ?_
  refine z_iload F 1 dL_law_489 rfl ?_
  refine z_icmp_eq F 496 dL_law_491 (by decide) (by omega) (by omega) (fun c_4 => ?_) (fun c_4 => ?_)
  · skip
    refine z_iload F 1 dL_law_496 rfl ?_
    refine z_if_ne F 513 dL_law_498 (by decide) (by omega) (fun c_5 => ?_) (fun c_5 => ?_)
    · skip
      refine z_goto F 1795 dL_law_513 (by decide) ?_
      refine z_lv [(0, .ref 127), (1, .ref 0), (2, .ref 16), (3, .ref 33), (4, .int (zI i))] [2, 3, 4, 5, 6] rfl ?_
      refine z_wd (cl0 + 22) (sl0 + 1240) (show cl0 + 6 + 0 + 0 ≤ cl0 + 22 by omega) (show sl0 + 62 + 0 + 0 ≤ sl0 + 1240 by omega) ?_
      exact hnext _ _ _ hK hbT hk9
    · skip
      have hz0 : (xBook s a b).1 = 0 := c_5
      have hvv := hvT hz0
      refine z_aload_n F 5 dL_law_501 rfl rfl ?_
      refine z_iconst (z := 0) F dL_law_502 (by decide) ?_
      refine z_lald F (zAll_33 (xBook s a b).2.2 (zMix (xBook s a b).2.2 T9) (q9, c9)) (by decide) (by decide) (by decide) dL_law_503 ?_
      refine z_iload F 0 dL_law_504 rfl ?_
      refine z_i2l F (by rw [hvv]; exact (hv9 hz0).2) dL_law_506 ?_
      refine z_lcmpE F ((hv9 hz0).1.trans hvv.symm) dL_law_507 ?_
      refine z_if_eq F 513 dL_law_508 (by decide) ⟨by decide, by decide⟩ (fun c_6 => ?_) (fun c_6 => ?_)
      · skip
        refine z_goto F 1795 dL_law_513 (by decide) ?_
        refine z_lv [(0, .ref 127), (1, .ref 0), (2, .ref 16), (3, .ref 33), (4, .int (zI i))] [2, 3, 4, 5, 6] rfl ?_
        refine z_wd (cl0 + 22) (sl0 + 1240) (show cl0 + 6 + 0 + 0 ≤ cl0 + 22 by omega) (show sl0 + 62 + 0 + 0 ≤ sl0 + 1240 by omega) ?_
        exact hnext _ _ _ hK hbT hk9
      · skip
        exact absurd rfl c_6
  · skip
    exact absurd rfl c_4
set_option maxRecDepth 100000 in
set_option maxHeartbeats 4000000 in
theorem law_case_5 {k : zC} {G : zG} {n : Nat} {xs : Nat → Int32} {Q : State → Prop} {tb : List ExceptionTableEntry} (F : zF k G cL_law 7 RL wsL_law (some .boolean) tb) (hX : zSX k G n xs) {s u : zS} {o : zOx} {i : Int} {cl0 sl0 : Nat} (hI : zInv s) (hu : zB u) (hob : ∀ m, o.2 m = 0 ∨ o.2 m = 1) (h3 : ∀ j, s 3 j 0 ≤ 600) (h18 : s 18 0 0 < 1000) (hi0 : 0 ≤ i) (hi1 : i + 3 < n) (hcl : cl0 + 22 ≤ 601024) (hsl : sl0 + 1240 ≤ 7293034) {a : Int} (ea : (xs (i + 1).toNat).toInt = a) {b : Int} (eb : (xs (i + 2).toNat).toInt = b) {d : Int} (ed : (xs (i + 3).toNat).toInt = d) (hnext : ∀ (s2 T2 : zS) (o2 : zOx), zK s s2 → zB T2 → (∀ m, o2.2 m = 0 ∨ o2.2 m = 1) → zJ k G room_1 7 Q (zAll s2 (zMix s2 T2) o2) (cl0 + 22) (sl0 + 1240) 1795 [(0, .ref 127), (1, .ref 0), (2, .ref 16), (3, .ref 33), (4, .int (zI i))] []) : zJ k G room_1 7 Q (zAll s (zMix s u) o) cl0 sl0 516 [(0, .ref 127), (1, .ref 0), (2, .ref 16), (3, .ref 33), (4, .int (zI i))] [] := by
  have ha : zR a := ea ▸ zI_r _
  have hb : zR b := eb ▸ zI_r _
  have hd : zR d := ed ▸ zI_r _
  have hK := xBookW_k hI h3 a b d
  refine z_aload_n F 1 dL_law_516 rfl rfl ?_
  refine z_aload_n F 0 dL_law_517 rfl rfl ?_
  refine z_iload F 4 dL_law_518 rfl ?_
  refine z_iconst (z := 1) F dL_law_520 (by decide) ?_
  refine z_iadd F dL_law_521 ?_
  refine z_sld F hX (by omega) (by omega) dL_law_522 ?_
  refine z_ti (y := a) ea ?_
  refine z_aload_n F 0 dL_law_523 rfl rfl ?_
  refine z_iload F 4 dL_law_524 rfl ?_
  refine z_iconst (z := 2) F dL_law_526 (by decide) ?_
  refine z_iadd F dL_law_527 ?_
  refine z_sld F hX (by omega) (by omega) dL_law_528 ?_
  refine z_ti (y := b) eb ?_
  refine z_aload_n F 0 dL_law_529 rfl rfl ?_
  refine z_iload F 4 dL_law_530 rfl ?_
  refine z_iconst (z := 3) F dL_law_532 (by decide) ?_
  refine z_iadd F dL_law_533 ?_
  refine z_sld F hX (by omega) (by omega) dL_law_534 ?_
  refine z_ti (y := d) ed ?_
  refine z_aload_n F 3 dL_law_535 rfl rfl ?_
  refine z_callSH F [.ref 0, .int (zI a), .int (zI b), .int (zI d), .ref 33] [] (c_L_bookWith F.2.2.1 G (s := s) (t := zMix s u) (o := o) hI.c hI.b hI hob ha hb hd) csh_L_123 rfl ⟨by decide, by decide⟩ ⟨show cl0 + 7 ≤ 601024 by omega, show sl0 + 68 ≤ 7293034 by omega⟩ (Nat.le_of_ble_eq_true rfl) dL_law_536 z_nx (z_ki (fun x_1 M_1 h_1 => ?_))
  obtain ⟨hx9, q9, c9, hm9, hk9, hv9⟩ := h_1
  subst hx9
  subst hm9
  refine z_istore F [(5, .int (zI ((xBookW s a b d).1))), (0, .ref 127), (1, .ref 0), (2, .ref 16), (3, .ref 33), (4, .int (zI i))] dL_law_539 (by decide) rfl ?_
  refine z_aload_n F 3 dL_law_541 rfl rfl ?_
  refine z_aload_n F 1 dL_law_542 rfl rfl ?_
  refine z_iload F 5 dL_law_543 rfl ?_
  refine z_iconst (z := 1) F dL_law_545 (by decide) ?_
  refine z_iadd F dL_law_546 ?_
  refine z_sld F hX (by omega) (by omega) dL_law_547 ?_
  refine z_ti (y := a) ea ?_
  refine z_aload_n F 1 dL_law_548 rfl rfl ?_
  refine z_iload F 5 dL_law_549 rfl ?_
  refine z_iconst (z := 2) F dL_law_551 (by decide) ?_
  refine z_iadd F dL_law_552 ?_
  refine z_sld F hX (by omega) (by omega) dL_law_553 ?_
  refine z_ti (y := b) eb ?_
  refine z_aload_n F 1 dL_law_554 rfl rfl ?_
  refine z_iload F 5 dL_law_555 rfl ?_
  refine z_iconst (z := 3) F dL_law_557 (by decide) ?_
  refine z_iadd F dL_law_558 ?_
  refine z_sld F hX (by omega) (by omega) dL_law_559 ?_
  refine z_ti (y := d) ed ?_
  refine z_callV F [.int (zI a), .int (zI b), .int (zI d)] [] (c_X7_bookWith F.2.2.1 G (s := (xBookW s a b d).2.2) (t := zMix s u) (c := s) (o := (q9, c9)) (zMix_c hI.c) (zMix_b hI.b hu) hI (zMix_r s u) h3 ha hb hd) cv_L_125 (zAll_16 (xBookW s a b d).2.2 (zMix s u) (q9, c9)) rfl rfl rfl ⟨by decide, by decide⟩ ⟨show cl0 + 7 + 0 ≤ 601024 by omega, show sl0 + 68 + 0 ≤ 7293034 by omega⟩ (Nat.le_of_ble_eq_true rfl) dL_law_560 z_nx (z_ki (fun x_2 M_2 h_2 => ?_))
  obtain ⟨T9, hmT, hbT, hrT, h25, hvT⟩ := h_2
  subst hmT
  refine z_M (M' := (zAll (xBookW s a b d).2.2 (zMix (xBookW s a b d).2.2 T9) (q9, c9))) (zAll_mix hrT) ?_
  refine z_istore F [(6, .int (zI x_2)), (5, .int (zI ((xBookW s a b d).1))), (0, .ref 127), (1, .ref 0), (2, .ref 16), (3, .ref 33), (4, .int (zI i))] dL_law_563 (by decide) rfl ?_
  refine z_aload_n F 4 dL_law_565 rfl rfl ?_
  refine z_callV F [] [] (c_X7_thrown F.2.2.1 G (s := (xBookW s a b d).2.2) (t := zMix (xBookW s a b d).2.2 T9) (o := (q9, c9)) (zMix_c hK.1.c) (zMix_b hK.1.b hbT)) cv_L_105 (zAll_16 (xBookW s a b d).2.2 (zMix (xBookW s a b d).2.2 T9) (q9, c9)) rfl rfl rfl ⟨by decide, by decide⟩ ⟨show cl0 + 7 + 0 + 0 ≤ 601024 by omega, show sl0 + 68 + 0 + 0 ≤ 7293034 by omega⟩ (Nat.le_of_ble_eq_true rfl) dL_law_566 z_nx (z_ki (fun x_3 M_3 h_3 => ?_))
  have hx9 := (h_3).1.symm
  have hm9 := (h_3).2.symm
  subst hx9
  subst hm9
  have hX1 := hbT 25 0 0
  rw [h25] at hX1
  refine z_ti (y := (xBookW s a b d).1) h25 ?_
  refine z_iload F 1 dL_law_569 rfl ?_
  refine z_icmp_eq F 576 dL_law_571 (by decide) (by omega) (by omega) (fun c_4 => ?_) (fun c_4 => ?_)
  · skip
    refine z_iload F 1 dL_law_576 rfl ?_
    refine z_if_ne F 593 dL_law_578 (by decide) (by omega) (fun c_5 => ?_) (fun c_5 => ?_)
    · skip
      refine z_goto F 1795 dL_law_593 (by decide) ?_
      refine z_lv [(0, .ref 127), (1, .ref 0), (2, .ref 16), (3, .ref 33), (4, .int (zI i))] [2, 3, 4, 5, 6] rfl ?_
      refine z_wd (cl0 + 22) (sl0 + 1240) (show cl0 + 7 + 0 + 0 ≤ cl0 + 22 by omega) (show sl0 + 68 + 0 + 0 ≤ sl0 + 1240 by omega) ?_
      exact hnext _ _ _ hK hbT hk9
    · skip
      have hz0 : (xBookW s a b d).1 = 0 := c_5
      have hvv := hvT hz0
      refine z_aload_n F 5 dL_law_581 rfl rfl ?_
      refine z_iconst (z := 0) F dL_law_582 (by decide) ?_
      refine z_lald F (zAll_33 (xBookW s a b d).2.2 (zMix (xBookW s a b d).2.2 T9) (q9, c9)) (by decide) (by decide) (by decide) dL_law_583 ?_
      refine z_iload F 0 dL_law_584 rfl ?_
      refine z_i2l F (by rw [hvv]; exact (hv9 hz0).2) dL_law_586 ?_
      refine z_lcmpE F ((hv9 hz0).1.trans hvv.symm) dL_law_587 ?_
      refine z_if_eq F 593 dL_law_588 (by decide) ⟨by decide, by decide⟩ (fun c_6 => ?_) (fun c_6 => ?_)
      · skip
        refine z_goto F 1795 dL_law_593 (by decide) ?_
        refine z_lv [(0, .ref 127), (1, .ref 0), (2, .ref 16), (3, .ref 33), (4, .int (zI i))] [2, 3, 4, 5, 6] rfl ?_
        refine z_wd (cl0 + 22) (sl0 + 1240) (show cl0 + 7 + 0 + 0 ≤ cl0 + 22 by omega) (show sl0 + 68 + 0 + 0 ≤ sl0 + 1240 by omega) ?_
        exact hnext _ _ _ hK hbT hk9
      · skip
        exact absurd rfl c_6
  · skip
    exact absurd rfl c_4
set_option maxRecDepth 100000 in
set_option maxHeartbeats 4000000 in
theorem law_case_6 {k : zC} {G : zG} {n : Nat} {xs : Nat → Int32} {Q : State → Prop} {tb : List ExceptionTableEntry} (F : zF k G cL_law 7 RL wsL_law (some .boolean) tb) (hX : zSX k G n xs) {s u : zS} {o : zOx} {i : Int} {cl0 sl0 : Nat} (hI : zInv s) (hu : zB u) (hob : ∀ m, o.2 m = 0 ∨ o.2 m = 1) (h3 : ∀ j, s 3 j 0 ≤ 600) (h18 : s 18 0 0 < 1000) (hi0 : 0 ≤ i) (hi1 : i + 3 < n) (hcl : cl0 + 22 ≤ 601024) (hsl : sl0 + 1240 ≤ 7293034) {a : Int} (ea : (xs (i + 1).toNat).toInt = a) {b : Int} (eb : (xs (i + 2).toNat).toInt = b) (hnext : ∀ (s2 T2 : zS) (o2 : zOx), zK s s2 → zB T2 → (∀ m, o2.2 m = 0 ∨ o2.2 m = 1) → zJ k G room_1 7 Q (zAll s2 (zMix s2 T2) o2) (cl0 + 22) (sl0 + 1240) 1795 [(0, .ref 127), (1, .ref 0), (2, .ref 16), (3, .ref 33), (4, .int (zI i))] []) : zJ k G room_1 7 Q (zAll s (zMix s u) o) cl0 sl0 596 [(0, .ref 127), (1, .ref 0), (2, .ref 16), (3, .ref 33), (4, .int (zI i))] [] := by
  have ha : zR a := ea ▸ zI_r _
  have hb : zR b := eb ▸ zI_r _
  have hK := xMove_k hI h3 a b
  refine z_aload_n F 1 dL_law_596 rfl rfl ?_
  refine z_aload_n F 0 dL_law_597 rfl rfl ?_
  refine z_iload F 4 dL_law_598 rfl ?_
  refine z_iconst (z := 1) F dL_law_600 (by decide) ?_
  refine z_iadd F dL_law_601 ?_
  refine z_sld F hX (by omega) (by omega) dL_law_602 ?_
  refine z_ti (y := a) ea ?_
  refine z_aload_n F 0 dL_law_603 rfl rfl ?_
  refine z_iload F 4 dL_law_604 rfl ?_
  refine z_iconst (z := 2) F dL_law_606 (by decide) ?_
  refine z_iadd F dL_law_607 ?_
  refine z_sld F hX (by omega) (by omega) dL_law_608 ?_
  refine z_ti (y := b) eb ?_
  refine z_aload_n F 3 dL_law_609 rfl rfl ?_
  refine z_callSH F [.ref 0, .int (zI a), .int (zI b), .ref 33] [] (c_L_move F.2.2.1 G (s := s) (t := zMix s u) (o := o) hI.c hI.b hI hob ha hb) csh_L_126 rfl ⟨by decide, by decide⟩ ⟨show cl0 + 22 ≤ 601024 by omega, show sl0 + 270 ≤ 7293034 by omega⟩ (Nat.le_of_ble_eq_true rfl) dL_law_610 z_nx (z_ki (fun x_1 M_1 h_1 => ?_))
  obtain ⟨hx9, q9, c9, hm9, hk9, hv9⟩ := h_1
  subst hx9
  subst hm9
  refine z_istore F [(5, .int (zI ((xMove s a b).1))), (0, .ref 127), (1, .ref 0), (2, .ref 16), (3, .ref 33), (4, .int (zI i))] dL_law_613 (by decide) rfl ?_
  refine z_aload_n F 3 dL_law_615 rfl rfl ?_
  refine z_aload_n F 1 dL_law_616 rfl rfl ?_
  refine z_iload F 5 dL_law_617 rfl ?_
  refine z_iconst (z := 1) F dL_law_619 (by decide) ?_
  refine z_iadd F dL_law_620 ?_
  refine z_sld F hX (by omega) (by omega) dL_law_621 ?_
  refine z_ti (y := a) ea ?_
  refine z_aload_n F 1 dL_law_622 rfl rfl ?_
  refine z_iload F 5 dL_law_623 rfl ?_
  refine z_iconst (z := 2) F dL_law_625 (by decide) ?_
  refine z_iadd F dL_law_626 ?_
  refine z_sld F hX (by omega) (by omega) dL_law_627 ?_
  refine z_ti (y := b) eb ?_
  refine z_callV F [.int (zI a), .int (zI b)] [] (c_X7_move F.2.2.1 G (s := (xMove s a b).2.2) (t := zMix s u) (c := s) (o := (q9, c9)) (zMix_c hI.c) (zMix_b hI.b hu) hI (zMix_r s u) h3 ha hb) cv_L_128 (zAll_16 (xMove s a b).2.2 (zMix s u) (q9, c9)) rfl rfl rfl ⟨by decide, by decide⟩ ⟨show cl0 + 22 + 0 ≤ 601024 by omega, show sl0 + 270 + 0 ≤ 7293034 by omega⟩ (Nat.le_of_ble_eq_true rfl) dL_law_628 z_nx (z_ki (fun x_2 M_2 h_2 => ?_))
  obtain ⟨T9, hmT, hbT, hrT, h25, hvT⟩ := h_2
  subst hmT
  refine z_M (M' := (zAll (xMove s a b).2.2 (zMix (xMove s a b).2.2 T9) (q9, c9))) (zAll_mix hrT) ?_
  refine z_istore F [(6, .int (zI x_2)), (5, .int (zI ((xMove s a b).1))), (0, .ref 127), (1, .ref 0), (2, .ref 16), (3, .ref 33), (4, .int (zI i))] dL_law_631 (by decide) rfl ?_
  refine z_aload_n F 4 dL_law_633 rfl rfl ?_
  refine z_callV F [] [] (c_X7_thrown F.2.2.1 G (s := (xMove s a b).2.2) (t := zMix (xMove s a b).2.2 T9) (o := (q9, c9)) (zMix_c hK.1.c) (zMix_b hK.1.b hbT)) cv_L_105 (zAll_16 (xMove s a b).2.2 (zMix (xMove s a b).2.2 T9) (q9, c9)) rfl rfl rfl ⟨by decide, by decide⟩ ⟨show cl0 + 22 + 0 + 0 ≤ 601024 by omega, show sl0 + 270 + 0 + 0 ≤ 7293034 by omega⟩ (Nat.le_of_ble_eq_true rfl) dL_law_634 z_nx (z_ki (fun x_3 M_3 h_3 => ?_))
  have hx9 := (h_3).1.symm
  have hm9 := (h_3).2.symm
  subst hx9
  subst hm9
  have hX1 := hbT 25 0 0
  rw [h25] at hX1
  refine z_ti (y := (xMove s a b).1) h25 ?_
  refine z_iload F 1 dL_law_637 rfl ?_
  refine z_icmp_eq F 644 dL_law_639 (by decide) (by omega) (by omega) (fun c_4 => ?_) (fun c_4 => ?_)
  · skip
    refine z_iload F 1 dL_law_644 rfl ?_
    refine z_if_ne F 661 dL_law_646 (by decide) (by omega) (fun c_5 => ?_) (fun c_5 => ?_)
    · skip
      refine z_goto F 1795 dL_law_661 (by decide) ?_
      refine z_lv [(0, .ref 127), (1, .ref 0), (2, .ref 16), (3, .ref 33), (4, .int (zI i))] [2, 3, 4, 5, 6] rfl ?_
      refine z_wd (cl0 + 22) (sl0 + 1240) (show cl0 + 22 + 0 + 0 ≤ cl0 + 22 by omega) (show sl0 + 270 + 0 + 0 ≤ sl0 + 1240 by omega) ?_
      exact hnext _ _ _ hK hbT hk9
    · skip
      have hz0 : (xMove s a b).1 = 0 := c_5
      have hvv := hvT hz0
      refine z_aload_n F 5 dL_law_649 rfl rfl ?_
      refine z_iconst (z := 0) F dL_law_650 (by decide) ?_
      refine z_lald F (zAll_33 (xMove s a b).2.2 (zMix (xMove s a b).2.2 T9) (q9, c9)) (by decide) (by decide) (by decide) dL_law_651 ?_
      refine z_iload F 0 dL_law_652 rfl ?_
      refine z_i2l F (by rw [hvv]; exact (hv9 hz0).2) dL_law_654 ?_
      refine z_lcmpE F ((hv9 hz0).1.trans hvv.symm) dL_law_655 ?_
      refine z_if_eq F 661 dL_law_656 (by decide) ⟨by decide, by decide⟩ (fun c_6 => ?_) (fun c_6 => ?_)
      · skip
        refine z_goto F 1795 dL_law_661 (by decide) ?_
        refine z_lv [(0, .ref 127), (1, .ref 0), (2, .ref 16), (3, .ref 33), (4, .int (zI i))] [2, 3, 4, 5, 6] rfl ?_
        refine z_wd (cl0 + 22) (sl0 + 1240) (show cl0 + 22 + 0 + 0 ≤ cl0 + 22 by omega) (show sl0 + 270 + 0 + 0 ≤ sl0 + 1240 by omega) ?_
        exact hnext _ _ _ hK hbT hk9
      · skip
        exact absurd rfl c_6
  · skip
    exact absurd rfl c_4
set_option maxRecDepth 100000 in
set_option maxHeartbeats 4000000 in
theorem law_case_7 {k : zC} {G : zG} {n : Nat} {xs : Nat → Int32} {Q : State → Prop} {tb : List ExceptionTableEntry} (F : zF k G cL_law 7 RL wsL_law (some .boolean) tb) (hX : zSX k G n xs) {s u : zS} {o : zOx} {i : Int} {cl0 sl0 : Nat} (hI : zInv s) (hu : zB u) (hob : ∀ m, o.2 m = 0 ∨ o.2 m = 1) (h3 : ∀ j, s 3 j 0 ≤ 600) (h18 : s 18 0 0 < 1000) (hi0 : 0 ≤ i) (hi1 : i + 3 < n) (hcl : cl0 + 22 ≤ 601024) (hsl : sl0 + 1240 ≤ 7293034) {a : Int} (ea : (xs (i + 1).toNat).toInt = a) (hnext : ∀ (s2 T2 : zS) (o2 : zOx), zK s s2 → zB T2 → (∀ m, o2.2 m = 0 ∨ o2.2 m = 1) → zJ k G room_1 7 Q (zAll s2 (zMix s2 T2) o2) (cl0 + 22) (sl0 + 1240) 1795 [(0, .ref 127), (1, .ref 0), (2, .ref 16), (3, .ref 33), (4, .int (zI i))] []) : zJ k G room_1 7 Q (zAll s (zMix s u) o) cl0 sl0 664 [(0, .ref 127), (1, .ref 0), (2, .ref 16), (3, .ref 33), (4, .int (zI i))] [] := by
  have ha : zR a := ea ▸ zI_r _
  have hK := xDrop_k hI h3 a
  refine z_aload_n F 1 dL_law_664 rfl rfl ?_
  refine z_aload_n F 0 dL_law_665 rfl rfl ?_
  refine z_iload F 4 dL_law_666 rfl ?_
  refine z_iconst (z := 1) F dL_law_668 (by decide) ?_
  refine z_iadd F dL_law_669 ?_
  refine z_sld F hX (by omega) (by omega) dL_law_670 ?_
  refine z_ti (y := a) ea ?_
  refine z_aload_n F 3 dL_law_671 rfl rfl ?_
  refine z_callSH F [.ref 0, .int (zI a), .ref 33] [] (c_L_drop F.2.2.1 G (s := s) (t := zMix s u) (o := o) hI.c hI.b hI hob ha) csh_L_129 rfl ⟨by decide, by decide⟩ ⟨show cl0 + 20 ≤ 601024 by omega, show sl0 + 260 ≤ 7293034 by omega⟩ (Nat.le_of_ble_eq_true rfl) dL_law_672 z_nx (z_ki (fun x_1 M_1 h_1 => ?_))
  obtain ⟨hx9, q9, c9, hm9, hk9, hv9⟩ := h_1
  subst hx9
  subst hm9
  refine z_istore F [(5, .int (zI ((xDrop s a).1))), (0, .ref 127), (1, .ref 0), (2, .ref 16), (3, .ref 33), (4, .int (zI i))] dL_law_675 (by decide) rfl ?_
  refine z_aload_n F 3 dL_law_677 rfl rfl ?_
  refine z_aload_n F 1 dL_law_678 rfl rfl ?_
  refine z_iload F 5 dL_law_679 rfl ?_
  refine z_iconst (z := 1) F dL_law_681 (by decide) ?_
  refine z_iadd F dL_law_682 ?_
  refine z_sld F hX (by omega) (by omega) dL_law_683 ?_
  refine z_ti (y := a) ea ?_
  refine z_callV F [.int (zI a)] [] (c_X7_drop F.2.2.1 G (s := (xDrop s a).2.2) (t := zMix s u) (c := s) (o := (q9, c9)) (zMix_c hI.c) (zMix_b hI.b hu) hI (zMix_r s u) h3 ha) cv_L_131 (zAll_16 (xDrop s a).2.2 (zMix s u) (q9, c9)) rfl rfl rfl ⟨by decide, by decide⟩ ⟨show cl0 + 20 + 0 ≤ 601024 by omega, show sl0 + 260 + 0 ≤ 7293034 by omega⟩ (Nat.le_of_ble_eq_true rfl) dL_law_684 z_nx (z_ki (fun x_2 M_2 h_2 => ?_))
  obtain ⟨T9, hmT, hbT, hrT, h25, hvT⟩ := h_2
  subst hmT
  refine z_M (M' := (zAll (xDrop s a).2.2 (zMix (xDrop s a).2.2 T9) (q9, c9))) (zAll_mix hrT) ?_
  refine z_istore F [(6, .int (zI x_2)), (5, .int (zI ((xDrop s a).1))), (0, .ref 127), (1, .ref 0), (2, .ref 16), (3, .ref 33), (4, .int (zI i))] dL_law_687 (by decide) rfl ?_
  refine z_aload_n F 4 dL_law_689 rfl rfl ?_
  refine z_callV F [] [] (c_X7_thrown F.2.2.1 G (s := (xDrop s a).2.2) (t := zMix (xDrop s a).2.2 T9) (o := (q9, c9)) (zMix_c hK.1.c) (zMix_b hK.1.b hbT)) cv_L_105 (zAll_16 (xDrop s a).2.2 (zMix (xDrop s a).2.2 T9) (q9, c9)) rfl rfl rfl ⟨by decide, by decide⟩ ⟨show cl0 + 20 + 0 + 0 ≤ 601024 by omega, show sl0 + 260 + 0 + 0 ≤ 7293034 by omega⟩ (Nat.le_of_ble_eq_true rfl) dL_law_690 z_nx (z_ki (fun x_3 M_3 h_3 => ?_))
  have hx9 := (h_3).1.symm
  have hm9 := (h_3).2.symm
  subst hx9
  subst hm9
  have hX1 := hbT 25 0 0
  rw [h25] at hX1
  refine z_ti (y := (xDrop s a).1) h25 ?_
  refine z_iload F 1 dL_law_693 rfl ?_
  refine z_icmp_eq F 700 dL_law_695 (by decide) (by omega) (by omega) (fun c_4 => ?_) (fun c_4 => ?_)
  · skip
    refine z_iload F 1 dL_law_700 rfl ?_
    refine z_if_ne F 717 dL_law_702 (by decide) (by omega) (fun c_5 => ?_) (fun c_5 => ?_)
    · skip
      refine z_goto F 1795 dL_law_717 (by decide) ?_
      refine z_lv [(0, .ref 127), (1, .ref 0), (2, .ref 16), (3, .ref 33), (4, .int (zI i))] [2, 3, 4, 5, 6] rfl ?_
      refine z_wd (cl0 + 22) (sl0 + 1240) (show cl0 + 20 + 0 + 0 ≤ cl0 + 22 by omega) (show sl0 + 260 + 0 + 0 ≤ sl0 + 1240 by omega) ?_
      exact hnext _ _ _ hK hbT hk9
    · skip
      have hz0 : (xDrop s a).1 = 0 := c_5
      have hvv := hvT hz0
      refine z_aload_n F 5 dL_law_705 rfl rfl ?_
      refine z_iconst (z := 0) F dL_law_706 (by decide) ?_
      refine z_lald F (zAll_33 (xDrop s a).2.2 (zMix (xDrop s a).2.2 T9) (q9, c9)) (by decide) (by decide) (by decide) dL_law_707 ?_
      refine z_iload F 0 dL_law_708 rfl ?_
      refine z_i2l F (by rw [hvv]; exact (hv9 hz0).2) dL_law_710 ?_
      refine z_lcmpE F ((hv9 hz0).1.trans hvv.symm) dL_law_711 ?_
      refine z_if_eq F 717 dL_law_712 (by decide) ⟨by decide, by decide⟩ (fun c_6 => ?_) (fun c_6 => ?_)
      · skip
        refine z_goto F 1795 dL_law_717 (by decide) ?_
        refine z_lv [(0, .ref 127), (1, .ref 0), (2, .ref 16), (3, .ref 33), (4, .int (zI i))] [2, 3, 4, 5, 6] rfl ?_
        refine z_wd (cl0 + 22) (sl0 + 1240) (show cl0 + 20 + 0 + 0 ≤ cl0 + 22 by omega) (show sl0 + 260 + 0 + 0 ≤ sl0 + 1240 by omega) ?_
        exact hnext _ _ _ hK hbT hk9
      · skip
        exact absurd rfl c_6
  · skip
    exact absurd rfl c_4
set_option maxRecDepth 100000 in
set_option maxHeartbeats 4000000 in
theorem law_case_8 {k : zC} {G : zG} {n : Nat} {xs : Nat → Int32} {Q : State → Prop} {tb : List ExceptionTableEntry} (F : zF k G cL_law 7 RL wsL_law (some .boolean) tb) (hX : zSX k G n xs) {s u : zS} {o : zOx} {i : Int} {cl0 sl0 : Nat} (hI : zInv s) (hu : zB u) (hob : ∀ m, o.2 m = 0 ∨ o.2 m = 1) (h3 : ∀ j, s 3 j 0 ≤ 600) (h18 : s 18 0 0 < 1000) (hi0 : 0 ≤ i) (hi1 : i + 3 < n) (hcl : cl0 + 22 ≤ 601024) (hsl : sl0 + 1240 ≤ 7293034) {a : Int} (ea : (xs (i + 1).toNat).toInt = a) {b : Int} (eb : (xs (i + 2).toNat).toInt = b) (hnext : ∀ (s2 T2 : zS) (o2 : zOx), zK s s2 → zB T2 → (∀ m, o2.2 m = 0 ∨ o2.2 m = 1) → zJ k G room_1 7 Q (zAll s2 (zMix s2 T2) o2) (cl0 + 22) (sl0 + 1240) 1795 [(0, .ref 127), (1, .ref 0), (2, .ref 16), (3, .ref 33), (4, .int (zI i))] []) : zJ k G room_1 7 Q (zAll s (zMix s u) o) cl0 sl0 720 [(0, .ref 127), (1, .ref 0), (2, .ref 16), (3, .ref 33), (4, .int (zI i))] [] := by
  have ha : zR a := ea ▸ zI_r _
  have hb : zR b := eb ▸ zI_r _
  have hK := xReq_k hI h3 h18 a b
  refine z_aload_n F 1 dL_law_720 rfl rfl ?_
  refine z_aload_n F 0 dL_law_721 rfl rfl ?_
  refine z_iload F 4 dL_law_722 rfl ?_
  refine z_iconst (z := 1) F dL_law_724 (by decide) ?_
  refine z_iadd F dL_law_725 ?_
  refine z_sld F hX (by omega) (by omega) dL_law_726 ?_
  refine z_ti (y := a) ea ?_
  refine z_aload_n F 0 dL_law_727 rfl rfl ?_
  refine z_iload F 4 dL_law_728 rfl ?_
  refine z_iconst (z := 2) F dL_law_730 (by decide) ?_
  refine z_iadd F dL_law_731 ?_
  refine z_sld F hX (by omega) (by omega) dL_law_732 ?_
  refine z_ti (y := b) eb ?_
  refine z_aload_n F 3 dL_law_733 rfl rfl ?_
  refine z_callSH F [.ref 0, .int (zI a), .int (zI b), .ref 33] [] (c_L_request F.2.2.1 G (s := s) (t := zMix s u) (o := o) hI.c hI.b hI hob ha hb) csh_L_132 rfl ⟨by decide, by decide⟩ ⟨show cl0 + 4 ≤ 601024 by omega, show sl0 + 47 ≤ 7293034 by omega⟩ (Nat.le_of_ble_eq_true rfl) dL_law_734 z_nx (z_ki (fun x_1 M_1 h_1 => ?_))
  obtain ⟨hx9, q9, c9, hm9, hk9, hv9⟩ := h_1
  subst hx9
  subst hm9
  refine z_istore F [(5, .int (zI ((xReq s a b).1))), (0, .ref 127), (1, .ref 0), (2, .ref 16), (3, .ref 33), (4, .int (zI i))] dL_law_737 (by decide) rfl ?_
  refine z_aload_n F 3 dL_law_739 rfl rfl ?_
  refine z_aload_n F 1 dL_law_740 rfl rfl ?_
  refine z_iload F 5 dL_law_741 rfl ?_
  refine z_iconst (z := 1) F dL_law_743 (by decide) ?_
  refine z_iadd F dL_law_744 ?_
  refine z_sld F hX (by omega) (by omega) dL_law_745 ?_
  refine z_ti (y := a) ea ?_
  refine z_aload_n F 1 dL_law_746 rfl rfl ?_
  refine z_iload F 5 dL_law_747 rfl ?_
  refine z_iconst (z := 2) F dL_law_749 (by decide) ?_
  refine z_iadd F dL_law_750 ?_
  refine z_sld F hX (by omega) (by omega) dL_law_751 ?_
  refine z_ti (y := b) eb ?_
  refine z_callV F [.int (zI a), .int (zI b)] [] (c_X7_request F.2.2.1 G (s := (xReq s a b).2.2) (t := zMix s u) (c := s) (o := (q9, c9)) (zMix_c hI.c) (zMix_b hI.b hu) hI (zMix_r s u) h3 ha hb) cv_L_134 (zAll_16 (xReq s a b).2.2 (zMix s u) (q9, c9)) rfl rfl rfl ⟨by decide, by decide⟩ ⟨show cl0 + 4 + 0 ≤ 601024 by omega, show sl0 + 47 + 0 ≤ 7293034 by omega⟩ (Nat.le_of_ble_eq_true rfl) dL_law_752 z_nx (z_ki (fun x_2 M_2 h_2 => ?_))
  obtain ⟨T9, hmT, hbT, hrT, h25, hvT⟩ := h_2
  subst hmT
  refine z_M (M' := (zAll (xReq s a b).2.2 (zMix (xReq s a b).2.2 T9) (q9, c9))) (zAll_mix hrT) ?_
  refine z_istore F [(6, .int (zI x_2)), (5, .int (zI ((xReq s a b).1))), (0, .ref 127), (1, .ref 0), (2, .ref 16), (3, .ref 33), (4, .int (zI i))] dL_law_755 (by decide) rfl ?_
  refine z_aload_n F 4 dL_law_757 rfl rfl ?_
  refine z_callV F [] [] (c_X7_thrown F.2.2.1 G (s := (xReq s a b).2.2) (t := zMix (xReq s a b).2.2 T9) (o := (q9, c9)) (zMix_c hK.1.c) (zMix_b hK.1.b hbT)) cv_L_105 (zAll_16 (xReq s a b).2.2 (zMix (xReq s a b).2.2 T9) (q9, c9)) rfl rfl rfl ⟨by decide, by decide⟩ ⟨show cl0 + 4 + 0 + 0 ≤ 601024 by omega, show sl0 + 47 + 0 + 0 ≤ 7293034 by omega⟩ (Nat.le_of_ble_eq_true rfl) dL_law_758 z_nx (z_ki (fun x_3 M_3 h_3 => ?_))
  have hx9 := (h_3).1.symm
  have hm9 := (h_3).2.symm
  subst hx9
  subst hm9
  have hX1 := hbT 25 0 0
  rw [h25] at hX1
  refine z_ti (y := (xReq s a b).1) h25 ?_
  refine z_iload F 1 dL_law_761 rfl ?_
  refine z_icmp_eq F 768 dL_law_763 (by decide) (by omega) (by omega) (fun c_4 => ?_) (fun c_4 => ?_)
  · skip
    refine z_iload F 1 dL_law_768 rfl ?_
    refine z_if_ne F 785 dL_law_770 (by decide) (by omega) (fun c_5 => ?_) (fun c_5 => ?_)
    · skip
      refine z_goto F 1795 dL_law_785 (by decide) ?_
      refine z_lv [(0, .ref 127), (1, .ref 0), (2, .ref 16), (3, .ref 33), (4, .int (zI i))] [2, 3, 4, 5, 6] rfl ?_
      refine z_wd (cl0 + 22) (sl0 + 1240) (show cl0 + 4 + 0 + 0 ≤ cl0 + 22 by omega) (show sl0 + 47 + 0 + 0 ≤ sl0 + 1240 by omega) ?_
      exact hnext _ _ _ hK hbT hk9
    · skip
      have hz0 : (xReq s a b).1 = 0 := c_5
      have hvv := hvT hz0
      refine z_aload_n F 5 dL_law_773 rfl rfl ?_
      refine z_iconst (z := 0) F dL_law_774 (by decide) ?_
      refine z_lald F (zAll_33 (xReq s a b).2.2 (zMix (xReq s a b).2.2 T9) (q9, c9)) (by decide) (by decide) (by decide) dL_law_775 ?_
      refine z_iload F 0 dL_law_776 rfl ?_
      refine z_i2l F (by rw [hvv]; exact (hv9 hz0).2) dL_law_778 ?_
      refine z_lcmpE F ((hv9 hz0).1.trans hvv.symm) dL_law_779 ?_
      refine z_if_eq F 785 dL_law_780 (by decide) ⟨by decide, by decide⟩ (fun c_6 => ?_) (fun c_6 => ?_)
      · skip
        refine z_goto F 1795 dL_law_785 (by decide) ?_
        refine z_lv [(0, .ref 127), (1, .ref 0), (2, .ref 16), (3, .ref 33), (4, .int (zI i))] [2, 3, 4, 5, 6] rfl ?_
        refine z_wd (cl0 + 22) (sl0 + 1240) (show cl0 + 4 + 0 + 0 ≤ cl0 + 22 by omega) (show sl0 + 47 + 0 + 0 ≤ sl0 + 1240 by omega) ?_
        exact hnext _ _ _ hK hbT hk9
      · skip
        exact absurd rfl c_6
  · skip
    exact absurd rfl c_4
set_option maxRecDepth 100000 in
set_option maxHeartbeats 4000000 in
theorem law_case_10 {k : zC} {G : zG} {n : Nat} {xs : Nat → Int32} {Q : State → Prop} {tb : List ExceptionTableEntry} (F : zF k G cL_law 7 RL wsL_law (some .boolean) tb) (hX : zSX k G n xs) {s u : zS} {o : zOx} {i : Int} {cl0 sl0 : Nat} (hI : zInv s) (hu : zB u) (hob : ∀ m, o.2 m = 0 ∨ o.2 m = 1) (h3 : ∀ j, s 3 j 0 ≤ 600) (h18 : s 18 0 0 < 1000) (hi0 : 0 ≤ i) (hi1 : i + 3 < n) (hcl : cl0 + 22 ≤ 601024) (hsl : sl0 + 1240 ≤ 7293034) {a : Int} (ea : (xs (i + 1).toNat).toInt = a) (hnext : ∀ (s2 T2 : zS) (o2 : zOx), zK s s2 → zB T2 → (∀ m, o2.2 m = 0 ∨ o2.2 m = 1) → zJ k G room_1 7 Q (zAll s2 (zMix s2 T2) o2) (cl0 + 22) (sl0 + 1240) 1795 [(0, .ref 127), (1, .ref 0), (2, .ref 16), (3, .ref 33), (4, .int (zI i))] []) : zJ k G room_1 7 Q (zAll s (zMix s u) o) cl0 sl0 801 [(0, .ref 127), (1, .ref 0), (2, .ref 16), (3, .ref 33), (4, .int (zI i))] [] := by
  have ha : zR a := ea ▸ zI_r _
  have hK := xAsk_k hI h3 (0 ≤ a ∧ a < s 14 0 0) (s 15 a.toNat 0)
  refine z_aload_n F 1 dL_law_801 rfl rfl ?_
  refine z_aload_n F 0 dL_law_802 rfl rfl ?_
  refine z_iload F 4 dL_law_803 rfl ?_
  refine z_iconst (z := 1) F dL_law_805 (by decide) ?_
  refine z_iadd F dL_law_806 ?_
  refine z_sld F hX (by omega) (by omega) dL_law_807 ?_
  refine z_ti (y := a) ea ?_
  refine z_aload_n F 3 dL_law_808 rfl rfl ?_
  refine z_callSH F [.ref 0, .int (zI a), .ref 33] [] (c_L_requestAt F.2.2.1 G (s := s) (t := zMix s u) (o := o) hI.c hI.b hI hob ha) csh_L_139 rfl ⟨by decide, by decide⟩ ⟨show cl0 + 1 ≤ 601024 by omega, show sl0 + 6 ≤ 7293034 by omega⟩ (Nat.le_of_ble_eq_true rfl) dL_law_809 z_nx (z_ki (fun x_1 M_1 h_1 => ?_))
  obtain ⟨hx9, q9, c9, hm9, hk9, hv9⟩ := h_1
  subst hx9
  subst hm9
  refine z_istore F [(5, .int (zI ((xAsk s (0 ≤ a ∧ a < s 14 0 0) (s 15 a.toNat 0)).1))), (0, .ref 127), (1, .ref 0), (2, .ref 16), (3, .ref 33), (4, .int (zI i))] dL_law_812 (by decide) rfl ?_
  refine z_aload_n F 3 dL_law_814 rfl rfl ?_
  refine z_aload_n F 1 dL_law_815 rfl rfl ?_
  refine z_iload F 5 dL_law_816 rfl ?_
  refine z_iconst (z := 1) F dL_law_818 (by decide) ?_
  refine z_iadd F dL_law_819 ?_
  refine z_sld F hX (by omega) (by omega) dL_law_820 ?_
  refine z_ti (y := a) ea ?_
  refine z_callV F [.int (zI a)] [] (q_requestAt F.2.2.1 G (s := (xAsk s (0 ≤ a ∧ a < s 14 0 0) (s 15 a.toNat 0)).2.2) (t := zMix s u) (c := s) (o := (q9, c9)) (zMix_c hI.c) (zMix_b hI.b hu) hI (zMix_r s u) h3 ha) cv_L_141 (zAll_16 (xAsk s (0 ≤ a ∧ a < s 14 0 0) (s 15 a.toNat 0)).2.2 (zMix s u) (q9, c9)) rfl rfl rfl ⟨by decide, by decide⟩ ⟨show cl0 + 1 + 0 ≤ 601024 by omega, show sl0 + 6 + 0 ≤ 7293034 by omega⟩ (Nat.le_of_ble_eq_true rfl) dL_law_821 z_nx (z_ki (fun x_2 M_2 h_2 => ?_))
  obtain ⟨T9, hmT, hbT, hrT, h25, hvT⟩ := h_2
  subst hmT
  refine z_M (M' := (zAll (xAsk s (0 ≤ a ∧ a < s 14 0 0) (s 15 a.toNat 0)).2.2 (zMix (xAsk s (0 ≤ a ∧ a < s 14 0 0) (s 15 a.toNat 0)).2.2 T9) (q9, c9))) (zAll_mix hrT) ?_
  refine z_istore F [(6, .int (zI x_2)), (5, .int (zI ((xAsk s (0 ≤ a ∧ a < s 14 0 0) (s 15 a.toNat 0)).1))), (0, .ref 127), (1, .ref 0), (2, .ref 16), (3, .ref 33), (4, .int (zI i))] dL_law_824 (by decide) rfl ?_
  refine z_aload_n F 4 dL_law_826 rfl rfl ?_
  refine z_callV F [] [] (c_X7_thrown F.2.2.1 G (s := (xAsk s (0 ≤ a ∧ a < s 14 0 0) (s 15 a.toNat 0)).2.2) (t := zMix (xAsk s (0 ≤ a ∧ a < s 14 0 0) (s 15 a.toNat 0)).2.2 T9) (o := (q9, c9)) (zMix_c hK.1.c) (zMix_b hK.1.b hbT)) cv_L_105 (zAll_16 (xAsk s (0 ≤ a ∧ a < s 14 0 0) (s 15 a.toNat 0)).2.2 (zMix (xAsk s (0 ≤ a ∧ a < s 14 0 0) (s 15 a.toNat 0)).2.2 T9) (q9, c9)) rfl rfl rfl ⟨by decide, by decide⟩ ⟨show cl0 + 1 + 0 + 0 ≤ 601024 by omega, show sl0 + 6 + 0 + 0 ≤ 7293034 by omega⟩ (Nat.le_of_ble_eq_true rfl) dL_law_827 z_nx (z_ki (fun x_3 M_3 h_3 => ?_))
  have hx9 := (h_3).1.symm
  have hm9 := (h_3).2.symm
  subst hx9
  subst hm9
  have hX1 := hbT 25 0 0
  rw [h25] at hX1
  refine z_ti (y := (xAsk s (0 ≤ a ∧ a < s 14 0 0) (s 15 a.toNat 0)).1) h25 ?_
  refine z_iload F 1 dL_law_830 rfl ?_
  refine z_icmp_eq F 837 dL_law_832 (by decide) (by omega) (by omega) (fun c_4 => ?_) (fun c_4 => ?_)
  · skip
    refine z_iload F 1 dL_law_837 rfl ?_
    refine z_if_ne F 854 dL_law_839 (by decide) (by omega) (fun c_5 => ?_) (fun c_5 => ?_)
    · skip
      refine z_goto F 1795 dL_law_854 (by decide) ?_
      refine z_lv [(0, .ref 127), (1, .ref 0), (2, .ref 16), (3, .ref 33), (4, .int (zI i))] [2, 3, 4, 5, 6] rfl ?_
      refine z_wd (cl0 + 22) (sl0 + 1240) (show cl0 + 1 + 0 + 0 ≤ cl0 + 22 by omega) (show sl0 + 6 + 0 + 0 ≤ sl0 + 1240 by omega) ?_
      exact hnext _ _ _ hK hbT hk9
    · skip
      have hz0 : (xAsk s (0 ≤ a ∧ a < s 14 0 0) (s 15 a.toNat 0)).1 = 0 := c_5
      have hvv := hvT hz0
      refine z_aload_n F 5 dL_law_842 rfl rfl ?_
      refine z_iconst (z := 0) F dL_law_843 (by decide) ?_
      refine z_lald F (zAll_33 (xAsk s (0 ≤ a ∧ a < s 14 0 0) (s 15 a.toNat 0)).2.2 (zMix (xAsk s (0 ≤ a ∧ a < s 14 0 0) (s 15 a.toNat 0)).2.2 T9) (q9, c9)) (by decide) (by decide) (by decide) dL_law_844 ?_
      refine z_iload F 0 dL_law_845 rfl ?_
      refine z_i2l F (by rw [hvv]; exact (hv9 hz0).2) dL_law_847 ?_
      refine z_lcmpE F ((hv9 hz0).1.trans hvv.symm) dL_law_848 ?_
      refine z_if_eq F 854 dL_law_849 (by decide) ⟨by decide, by decide⟩ (fun c_6 => ?_) (fun c_6 => ?_)
      · skip
        refine z_goto F 1795 dL_law_854 (by decide) ?_
        refine z_lv [(0, .ref 127), (1, .ref 0), (2, .ref 16), (3, .ref 33), (4, .int (zI i))] [2, 3, 4, 5, 6] rfl ?_
        refine z_wd (cl0 + 22) (sl0 + 1240) (show cl0 + 1 + 0 + 0 ≤ cl0 + 22 by omega) (show sl0 + 6 + 0 + 0 ≤ sl0 + 1240 by omega) ?_
        exact hnext _ _ _ hK hbT hk9
      · skip
        exact absurd rfl c_6
  · skip
    exact absurd rfl c_4
set_option maxRecDepth 100000 in
set_option maxHeartbeats 4000000 in
theorem law_case_11 {k : zC} {G : zG} {n : Nat} {xs : Nat → Int32} {Q : State → Prop} {tb : List ExceptionTableEntry} (F : zF k G cL_law 7 RL wsL_law (some .boolean) tb) (hX : zSX k G n xs) {s u : zS} {o : zOx} {i : Int} {cl0 sl0 : Nat} (hI : zInv s) (hu : zB u) (hob : ∀ m, o.2 m = 0 ∨ o.2 m = 1) (h3 : ∀ j, s 3 j 0 ≤ 600) (h18 : s 18 0 0 < 1000) (hi0 : 0 ≤ i) (hi1 : i + 3 < n) (hcl : cl0 + 22 ≤ 601024) (hsl : sl0 + 1240 ≤ 7293034) {a : Int} (ea : (xs (i + 1).toNat).toInt = a) (hnext : ∀ (s2 T2 : zS) (o2 : zOx), zK s s2 → zB T2 → (∀ m, o2.2 m = 0 ∨ o2.2 m = 1) → zJ k G room_1 7 Q (zAll s2 (zMix s2 T2) o2) (cl0 + 22) (sl0 + 1240) 1795 [(0, .ref 127), (1, .ref 0), (2, .ref 16), (3, .ref 33), (4, .int (zI i))] []) : zJ k G room_1 7 Q (zAll s (zMix s u) o) cl0 sl0 857 [(0, .ref 127), (1, .ref 0), (2, .ref 16), (3, .ref 33), (4, .int (zI i))] [] := by
  have ha : zR a := ea ▸ zI_r _
  have hK := xAsk_k hI h3 (0 ≤ a ∧ a < s 4 0 0) (zLen s a.toNat)
  refine z_aload_n F 1 dL_law_857 rfl rfl ?_
  refine z_aload_n F 0 dL_law_858 rfl rfl ?_
  refine z_iload F 4 dL_law_859 rfl ?_
  refine z_iconst (z := 1) F dL_law_861 (by decide) ?_
  refine z_iadd F dL_law_862 ?_
  refine z_sld F hX (by omega) (by omega) dL_law_863 ?_
  refine z_ti (y := a) ea ?_
  refine z_aload_n F 3 dL_law_864 rfl rfl ?_
  refine z_callSH F [.ref 0, .int (zI a), .ref 33] [] (c_L_lengthOf F.2.2.1 G (s := s) (t := zMix s u) (o := o) hI.c hI.b hI hob ha) csh_L_142 rfl ⟨by decide, by decide⟩ ⟨show cl0 + 1 ≤ 601024 by omega, show sl0 + 6 ≤ 7293034 by omega⟩ (Nat.le_of_ble_eq_true rfl) dL_law_865 z_nx (z_ki (fun x_1 M_1 h_1 => ?_))
  obtain ⟨hx9, q9, c9, hm9, hk9, hv9⟩ := h_1
  subst hx9
  subst hm9
  refine z_istore F [(5, .int (zI ((xAsk s (0 ≤ a ∧ a < s 4 0 0) (zLen s a.toNat)).1))), (0, .ref 127), (1, .ref 0), (2, .ref 16), (3, .ref 33), (4, .int (zI i))] dL_law_868 (by decide) rfl ?_
  refine z_aload_n F 3 dL_law_870 rfl rfl ?_
  refine z_aload_n F 1 dL_law_871 rfl rfl ?_
  refine z_iload F 5 dL_law_872 rfl ?_
  refine z_iconst (z := 1) F dL_law_874 (by decide) ?_
  refine z_iadd F dL_law_875 ?_
  refine z_sld F hX (by omega) (by omega) dL_law_876 ?_
  refine z_ti (y := a) ea ?_
  refine z_callV F [.int (zI a)] [] (q_lengthOf F.2.2.1 G (s := (xAsk s (0 ≤ a ∧ a < s 4 0 0) (zLen s a.toNat)).2.2) (t := zMix s u) (c := s) (o := (q9, c9)) (zMix_c hI.c) (zMix_b hI.b hu) hI (zMix_r s u) h3 ha) cv_L_144 (zAll_16 (xAsk s (0 ≤ a ∧ a < s 4 0 0) (zLen s a.toNat)).2.2 (zMix s u) (q9, c9)) rfl rfl rfl ⟨by decide, by decide⟩ ⟨show cl0 + 1 + 0 ≤ 601024 by omega, show sl0 + 6 + 0 ≤ 7293034 by omega⟩ (Nat.le_of_ble_eq_true rfl) dL_law_877 z_nx (z_ki (fun x_2 M_2 h_2 => ?_))
  obtain ⟨T9, hmT, hbT, hrT, h25, hvT⟩ := h_2
  subst hmT
  refine z_M (M' := (zAll (xAsk s (0 ≤ a ∧ a < s 4 0 0) (zLen s a.toNat)).2.2 (zMix (xAsk s (0 ≤ a ∧ a < s 4 0 0) (zLen s a.toNat)).2.2 T9) (q9, c9))) (zAll_mix hrT) ?_
  refine z_istore F [(6, .int (zI x_2)), (5, .int (zI ((xAsk s (0 ≤ a ∧ a < s 4 0 0) (zLen s a.toNat)).1))), (0, .ref 127), (1, .ref 0), (2, .ref 16), (3, .ref 33), (4, .int (zI i))] dL_law_880 (by decide) rfl ?_
  refine z_aload_n F 4 dL_law_882 rfl rfl ?_
  refine z_callV F [] [] (c_X7_thrown F.2.2.1 G (s := (xAsk s (0 ≤ a ∧ a < s 4 0 0) (zLen s a.toNat)).2.2) (t := zMix (xAsk s (0 ≤ a ∧ a < s 4 0 0) (zLen s a.toNat)).2.2 T9) (o := (q9, c9)) (zMix_c hK.1.c) (zMix_b hK.1.b hbT)) cv_L_105 (zAll_16 (xAsk s (0 ≤ a ∧ a < s 4 0 0) (zLen s a.toNat)).2.2 (zMix (xAsk s (0 ≤ a ∧ a < s 4 0 0) (zLen s a.toNat)).2.2 T9) (q9, c9)) rfl rfl rfl ⟨by decide, by decide⟩ ⟨show cl0 + 1 + 0 + 0 ≤ 601024 by omega, show sl0 + 6 + 0 + 0 ≤ 7293034 by omega⟩ (Nat.le_of_ble_eq_true rfl) dL_law_883 z_nx (z_ki (fun x_3 M_3 h_3 => ?_))
  have hx9 := (h_3).1.symm
  have hm9 := (h_3).2.symm
  subst hx9
  subst hm9
  have hX1 := hbT 25 0 0
  rw [h25] at hX1
  refine z_ti (y := (xAsk s (0 ≤ a ∧ a < s 4 0 0) (zLen s a.toNat)).1) h25 ?_
  refine z_iload F 1 dL_law_886 rfl ?_
  refine z_icmp_eq F 893 dL_law_888 (by decide) (by omega) (by omega) (fun c_4 => ?_) (fun c_4 => ?_)
  · skip
    refine z_iload F 1 dL_law_893 rfl ?_
    refine z_if_ne F 910 dL_law_895 (by decide) (by omega) (fun c_5 => ?_) (fun c_5 => ?_)
    · skip
      refine z_goto F 1795 dL_law_910 (by decide) ?_
      refine z_lv [(0, .ref 127), (1, .ref 0), (2, .ref 16), (3, .ref 33), (4, .int (zI i))] [2, 3, 4, 5, 6] rfl ?_
      refine z_wd (cl0 + 22) (sl0 + 1240) (show cl0 + 1 + 0 + 0 ≤ cl0 + 22 by omega) (show sl0 + 6 + 0 + 0 ≤ sl0 + 1240 by omega) ?_
      exact hnext _ _ _ hK hbT hk9
    · skip
      have hz0 : (xAsk s (0 ≤ a ∧ a < s 4 0 0) (zLen s a.toNat)).1 = 0 := c_5
      have hvv := hvT hz0
      refine z_aload_n F 5 dL_law_898 rfl rfl ?_
      refine z_iconst (z := 0) F dL_law_899 (by decide) ?_
      refine z_lald F (zAll_33 (xAsk s (0 ≤ a ∧ a < s 4 0 0) (zLen s a.toNat)).2.2 (zMix (xAsk s (0 ≤ a ∧ a < s 4 0 0) (zLen s a.toNat)).2.2 T9) (q9, c9)) (by decide) (by decide) (by decide) dL_law_900 ?_
      refine z_iload F 0 dL_law_901 rfl ?_
      refine z_i2l F (by rw [hvv]; exact (hv9 hz0).2) dL_law_903 ?_
      refine z_lcmpE F ((hv9 hz0).1.trans hvv.symm) dL_law_904 ?_
      refine z_if_eq F 910 dL_law_905 (by decide) ⟨by decide, by decide⟩ (fun c_6 => ?_) (fun c_6 => ?_)
      · skip
        refine z_goto F 1795 dL_law_910 (by decide) ?_
        refine z_lv [(0, .ref 127), (1, .ref 0), (2, .ref 16), (3, .ref 33), (4, .int (zI i))] [2, 3, 4, 5, 6] rfl ?_
        refine z_wd (cl0 + 22) (sl0 + 1240) (show cl0 + 1 + 0 + 0 ≤ cl0 + 22 by omega) (show sl0 + 6 + 0 + 0 ≤ sl0 + 1240 by omega) ?_
        exact hnext _ _ _ hK hbT hk9
      · skip
        exact absurd rfl c_6
  · skip
    exact absurd rfl c_4
set_option maxRecDepth 100000 in
set_option maxHeartbeats 4000000 in
theorem law_case_12 {k : zC} {G : zG} {n : Nat} {xs : Nat → Int32} {Q : State → Prop} {tb : List ExceptionTableEntry} (F : zF k G cL_law 7 RL wsL_law (some .boolean) tb) (hX : zSX k G n xs) {s u : zS} {o : zOx} {i : Int} {cl0 sl0 : Nat} (hI : zInv s) (hu : zB u) (hob : ∀ m, o.2 m = 0 ∨ o.2 m = 1) (h3 : ∀ j, s 3 j 0 ≤ 600) (h18 : s 18 0 0 < 1000) (hi0 : 0 ≤ i) (hi1 : i + 3 < n) (hcl : cl0 + 22 ≤ 601024) (hsl : sl0 + 1240 ≤ 7293034) {a : Int} (ea : (xs (i + 1).toNat).toInt = a) (hnext : ∀ (s2 T2 : zS) (o2 : zOx), zK s s2 → zB T2 → (∀ m, o2.2 m = 0 ∨ o2.2 m = 1) → zJ k G room_1 7 Q (zAll s2 (zMix s2 T2) o2) (cl0 + 22) (sl0 + 1240) 1795 [(0, .ref 127), (1, .ref 0), (2, .ref 16), (3, .ref 33), (4, .int (zI i))] []) : zJ k G room_1 7 Q (zAll s (zMix s u) o) cl0 sl0 913 [(0, .ref 127), (1, .ref 0), (2, .ref 16), (3, .ref 33), (4, .int (zI i))] [] := by
  have ha : zR a := ea ▸ zI_r _
  have hK := xAsk_k hI h3 (0 ≤ a ∧ a < s 4 0 0) (zWork s a.toNat)
  refine z_aload_n F 1 dL_law_913 rfl rfl ?_
  refine z_aload_n F 0 dL_law_914 rfl rfl ?_
  refine z_iload F 4 dL_law_915 rfl ?_
  refine z_iconst (z := 1) F dL_law_917 (by decide) ?_
  refine z_iadd F dL_law_918 ?_
  refine z_sld F hX (by omega) (by omega) dL_law_919 ?_
  refine z_ti (y := a) ea ?_
  refine z_aload_n F 3 dL_law_920 rfl rfl ?_
  refine z_callSH F [.ref 0, .int (zI a), .ref 33] [] (c_L_workOf F.2.2.1 G (s := s) (t := zMix s u) (o := o) hI.c hI.b hI hob ha) csh_L_145 rfl ⟨by decide, by decide⟩ ⟨show cl0 + 1 ≤ 601024 by omega, show sl0 + 6 ≤ 7293034 by omega⟩ (Nat.le_of_ble_eq_true rfl) dL_law_921 z_nx (z_ki (fun x_1 M_1 h_1 => ?_))
  obtain ⟨hx9, q9, c9, hm9, hk9, hv9⟩ := h_1
  subst hx9
  subst hm9
  refine z_istore F [(5, .int (zI ((xAsk s (0 ≤ a ∧ a < s 4 0 0) (zWork s a.toNat)).1))), (0, .ref 127), (1, .ref 0), (2, .ref 16), (3, .ref 33), (4, .int (zI i))] dL_law_924 (by decide) rfl ?_
  refine z_aload_n F 3 dL_law_926 rfl rfl ?_
  refine z_aload_n F 1 dL_law_927 rfl rfl ?_
  refine z_iload F 5 dL_law_928 rfl ?_
  refine z_iconst (z := 1) F dL_law_930 (by decide) ?_
  refine z_iadd F dL_law_931 ?_
  refine z_sld F hX (by omega) (by omega) dL_law_932 ?_
  refine z_ti (y := a) ea ?_
  refine z_callV F [.int (zI a)] [] (q_workOf F.2.2.1 G (s := (xAsk s (0 ≤ a ∧ a < s 4 0 0) (zWork s a.toNat)).2.2) (t := zMix s u) (c := s) (o := (q9, c9)) (zMix_c hI.c) (zMix_b hI.b hu) hI (zMix_r s u) h3 ha) cv_L_147 (zAll_16 (xAsk s (0 ≤ a ∧ a < s 4 0 0) (zWork s a.toNat)).2.2 (zMix s u) (q9, c9)) rfl rfl rfl ⟨by decide, by decide⟩ ⟨show cl0 + 1 + 0 ≤ 601024 by omega, show sl0 + 6 + 0 ≤ 7293034 by omega⟩ (Nat.le_of_ble_eq_true rfl) dL_law_933 z_nx (z_ki (fun x_2 M_2 h_2 => ?_))
  obtain ⟨T9, hmT, hbT, hrT, h25, hvT⟩ := h_2
  subst hmT
  refine z_M (M' := (zAll (xAsk s (0 ≤ a ∧ a < s 4 0 0) (zWork s a.toNat)).2.2 (zMix (xAsk s (0 ≤ a ∧ a < s 4 0 0) (zWork s a.toNat)).2.2 T9) (q9, c9))) (zAll_mix hrT) ?_
  refine z_istore F [(6, .int (zI x_2)), (5, .int (zI ((xAsk s (0 ≤ a ∧ a < s 4 0 0) (zWork s a.toNat)).1))), (0, .ref 127), (1, .ref 0), (2, .ref 16), (3, .ref 33), (4, .int (zI i))] dL_law_936 (by decide) rfl ?_
  refine z_aload_n F 4 dL_law_938 rfl rfl ?_
  refine z_callV F [] [] (c_X7_thrown F.2.2.1 G (s := (xAsk s (0 ≤ a ∧ a < s 4 0 0) (zWork s a.toNat)).2.2) (t := zMix (xAsk s (0 ≤ a ∧ a < s 4 0 0) (zWork s a.toNat)).2.2 T9) (o := (q9, c9)) (zMix_c hK.1.c) (zMix_b hK.1.b hbT)) cv_L_105 (zAll_16 (xAsk s (0 ≤ a ∧ a < s 4 0 0) (zWork s a.toNat)).2.2 (zMix (xAsk s (0 ≤ a ∧ a < s 4 0 0) (zWork s a.toNat)).2.2 T9) (q9, c9)) rfl rfl rfl ⟨by decide, by decide⟩ ⟨show cl0 + 1 + 0 + 0 ≤ 601024 by omega, show sl0 + 6 + 0 + 0 ≤ 7293034 by omega⟩ (Nat.le_of_ble_eq_true rfl) dL_law_939 z_nx (z_ki (fun x_3 M_3 h_3 => ?_))
  have hx9 := (h_3).1.symm
  have hm9 := (h_3).2.symm
  subst hx9
  subst hm9
  have hX1 := hbT 25 0 0
  rw [h25] at hX1
  refine z_ti (y := (xAsk s (0 ≤ a ∧ a < s 4 0 0) (zWork s a.toNat)).1) h25 ?_
  refine z_iload F 1 dL_law_942 rfl ?_
  refine z_icmp_eq F 949 dL_law_944 (by decide) (by omega) (by omega) (fun c_4 => ?_) (fun c_4 => ?_)
  · skip
    refine z_iload F 1 dL_law_949 rfl ?_
    refine z_if_ne F 966 dL_law_951 (by decide) (by omega) (fun c_5 => ?_) (fun c_5 => ?_)
    · skip
      refine z_goto F 1795 dL_law_966 (by decide) ?_
      refine z_lv [(0, .ref 127), (1, .ref 0), (2, .ref 16), (3, .ref 33), (4, .int (zI i))] [2, 3, 4, 5, 6] rfl ?_
      refine z_wd (cl0 + 22) (sl0 + 1240) (show cl0 + 1 + 0 + 0 ≤ cl0 + 22 by omega) (show sl0 + 6 + 0 + 0 ≤ sl0 + 1240 by omega) ?_
      exact hnext _ _ _ hK hbT hk9
    · skip
      have hz0 : (xAsk s (0 ≤ a ∧ a < s 4 0 0) (zWork s a.toNat)).1 = 0 := c_5
      have hvv := hvT hz0
      refine z_aload_n F 5 dL_law_954 rfl rfl ?_
      refine z_iconst (z := 0) F dL_law_955 (by decide) ?_
      refine z_lald F (zAll_33 (xAsk s (0 ≤ a ∧ a < s 4 0 0) (zWork s a.toNat)).2.2 (zMix (xAsk s (0 ≤ a ∧ a < s 4 0 0) (zWork s a.toNat)).2.2 T9) (q9, c9)) (by decide) (by decide) (by decide) dL_law_956 ?_
      refine z_iload F 0 dL_law_957 rfl ?_
      refine z_i2l F (by rw [hvv]; exact (hv9 hz0).2) dL_law_959 ?_
      refine z_lcmpE F ((hv9 hz0).1.trans hvv.symm) dL_law_960 ?_
      refine z_if_eq F 966 dL_law_961 (by decide) ⟨by decide, by decide⟩ (fun c_6 => ?_) (fun c_6 => ?_)
      · skip
        refine z_goto F 1795 dL_law_966 (by decide) ?_
        refine z_lv [(0, .ref 127), (1, .ref 0), (2, .ref 16), (3, .ref 33), (4, .int (zI i))] [2, 3, 4, 5, 6] rfl ?_
        refine z_wd (cl0 + 22) (sl0 + 1240) (show cl0 + 1 + 0 + 0 ≤ cl0 + 22 by omega) (show sl0 + 6 + 0 + 0 ≤ sl0 + 1240 by omega) ?_
        exact hnext _ _ _ hK hbT hk9
      · skip
        exact absurd rfl c_6
  · skip
    exact absurd rfl c_4
set_option maxRecDepth 100000 in
set_option maxHeartbeats 4000000 in
theorem law_case_13 {k : zC} {G : zG} {n : Nat} {xs : Nat → Int32} {Q : State → Prop} {tb : List ExceptionTableEntry} (F : zF k G cL_law 7 RL wsL_law (some .boolean) tb) (hX : zSX k G n xs) {s u : zS} {o : zOx} {i : Int} {cl0 sl0 : Nat} (hI : zInv s) (hu : zB u) (hob : ∀ m, o.2 m = 0 ∨ o.2 m = 1) (h3 : ∀ j, s 3 j 0 ≤ 600) (h18 : s 18 0 0 < 1000) (hi0 : 0 ≤ i) (hi1 : i + 3 < n) (hcl : cl0 + 22 ≤ 601024) (hsl : sl0 + 1240 ≤ 7293034) {a : Int} (ea : (xs (i + 1).toNat).toInt = a) (hnext : ∀ (s2 T2 : zS) (o2 : zOx), zK s s2 → zB T2 → (∀ m, o2.2 m = 0 ∨ o2.2 m = 1) → zJ k G room_1 7 Q (zAll s2 (zMix s2 T2) o2) (cl0 + 22) (sl0 + 1240) 1795 [(0, .ref 127), (1, .ref 0), (2, .ref 16), (3, .ref 33), (4, .int (zI i))] []) : zJ k G room_1 7 Q (zAll s (zMix s u) o) cl0 sl0 969 [(0, .ref 127), (1, .ref 0), (2, .ref 16), (3, .ref 33), (4, .int (zI i))] [] := by
  have ha : zR a := ea ▸ zI_r _
  have hK := xAsk_k hI h3 (0 ≤ a ∧ a < s 4 0 0) (zAsk s a.toNat)
  refine z_aload_n F 1 dL_law_969 rfl rfl ?_
  refine z_aload_n F 0 dL_law_970 rfl rfl ?_
  refine z_iload F 4 dL_law_971 rfl ?_
  refine z_iconst (z := 1) F dL_law_973 (by decide) ?_
  refine z_iadd F dL_law_974 ?_
  refine z_sld F hX (by omega) (by omega) dL_law_975 ?_
  refine z_ti (y := a) ea ?_
  refine z_aload_n F 3 dL_law_976 rfl rfl ?_
  refine z_callSH F [.ref 0, .int (zI a), .ref 33] [] (c_L_skillsOf F.2.2.1 G (s := s) (t := zMix s u) (o := o) hI.c hI.b hI hob ha) csh_L_148 rfl ⟨by decide, by decide⟩ ⟨show cl0 + 1 ≤ 601024 by omega, show sl0 + 6 ≤ 7293034 by omega⟩ (Nat.le_of_ble_eq_true rfl) dL_law_977 z_nx (z_ki (fun x_1 M_1 h_1 => ?_))
  obtain ⟨hx9, q9, c9, hm9, hk9, hv9⟩ := h_1
  subst hx9
  subst hm9
  refine z_istore F [(5, .int (zI ((xAsk s (0 ≤ a ∧ a < s 4 0 0) (zAsk s a.toNat)).1))), (0, .ref 127), (1, .ref 0), (2, .ref 16), (3, .ref 33), (4, .int (zI i))] dL_law_980 (by decide) rfl ?_
  refine z_aload_n F 3 dL_law_982 rfl rfl ?_
  refine z_aload_n F 1 dL_law_983 rfl rfl ?_
  refine z_iload F 5 dL_law_984 rfl ?_
  refine z_iconst (z := 1) F dL_law_986 (by decide) ?_
  refine z_iadd F dL_law_987 ?_
  refine z_sld F hX (by omega) (by omega) dL_law_988 ?_
  refine z_ti (y := a) ea ?_
  refine z_callV F [.int (zI a)] [] (q_skillsOf F.2.2.1 G (s := (xAsk s (0 ≤ a ∧ a < s 4 0 0) (zAsk s a.toNat)).2.2) (t := zMix s u) (c := s) (o := (q9, c9)) (zMix_c hI.c) (zMix_b hI.b hu) hI (zMix_r s u) h3 ha) cv_L_150 (zAll_16 (xAsk s (0 ≤ a ∧ a < s 4 0 0) (zAsk s a.toNat)).2.2 (zMix s u) (q9, c9)) rfl rfl rfl ⟨by decide, by decide⟩ ⟨show cl0 + 1 + 0 ≤ 601024 by omega, show sl0 + 6 + 0 ≤ 7293034 by omega⟩ (Nat.le_of_ble_eq_true rfl) dL_law_989 z_nx (z_ki (fun x_2 M_2 h_2 => ?_))
  obtain ⟨T9, hmT, hbT, hrT, h25, hvT⟩ := h_2
  subst hmT
  refine z_M (M' := (zAll (xAsk s (0 ≤ a ∧ a < s 4 0 0) (zAsk s a.toNat)).2.2 (zMix (xAsk s (0 ≤ a ∧ a < s 4 0 0) (zAsk s a.toNat)).2.2 T9) (q9, c9))) (zAll_mix hrT) ?_
  refine z_istore F [(6, .int (zI x_2)), (5, .int (zI ((xAsk s (0 ≤ a ∧ a < s 4 0 0) (zAsk s a.toNat)).1))), (0, .ref 127), (1, .ref 0), (2, .ref 16), (3, .ref 33), (4, .int (zI i))] dL_law_992 (by decide) rfl ?_
  refine z_aload_n F 4 dL_law_994 rfl rfl ?_
  refine z_callV F [] [] (c_X7_thrown F.2.2.1 G (s := (xAsk s (0 ≤ a ∧ a < s 4 0 0) (zAsk s a.toNat)).2.2) (t := zMix (xAsk s (0 ≤ a ∧ a < s 4 0 0) (zAsk s a.toNat)).2.2 T9) (o := (q9, c9)) (zMix_c hK.1.c) (zMix_b hK.1.b hbT)) cv_L_105 (zAll_16 (xAsk s (0 ≤ a ∧ a < s 4 0 0) (zAsk s a.toNat)).2.2 (zMix (xAsk s (0 ≤ a ∧ a < s 4 0 0) (zAsk s a.toNat)).2.2 T9) (q9, c9)) rfl rfl rfl ⟨by decide, by decide⟩ ⟨show cl0 + 1 + 0 + 0 ≤ 601024 by omega, show sl0 + 6 + 0 + 0 ≤ 7293034 by omega⟩ (Nat.le_of_ble_eq_true rfl) dL_law_995 z_nx (z_ki (fun x_3 M_3 h_3 => ?_))
  have hx9 := (h_3).1.symm
  have hm9 := (h_3).2.symm
  subst hx9
  subst hm9
  have hX1 := hbT 25 0 0
  rw [h25] at hX1
  refine z_ti (y := (xAsk s (0 ≤ a ∧ a < s 4 0 0) (zAsk s a.toNat)).1) h25 ?_
  refine z_iload F 1 dL_law_998 rfl ?_
  refine z_icmp_eq F 1005 dL_law_1000 (by decide) (by omega) (by omega) (fun c_4 => ?_) (fun c_4 => ?_)
  · skip
    refine z_iload F 1 dL_law_1005 rfl ?_
    refine z_if_ne F 1022 dL_law_1007 (by decide) (by omega) (fun c_5 => ?_) (fun c_5 => ?_)
    · skip
      refine z_goto F 1795 dL_law_1022 (by decide) ?_
      refine z_lv [(0, .ref 127), (1, .ref 0), (2, .ref 16), (3, .ref 33), (4, .int (zI i))] [2, 3, 4, 5, 6] rfl ?_
      refine z_wd (cl0 + 22) (sl0 + 1240) (show cl0 + 1 + 0 + 0 ≤ cl0 + 22 by omega) (show sl0 + 6 + 0 + 0 ≤ sl0 + 1240 by omega) ?_
      exact hnext _ _ _ hK hbT hk9
    · skip
      have hz0 : (xAsk s (0 ≤ a ∧ a < s 4 0 0) (zAsk s a.toNat)).1 = 0 := c_5
      have hvv := hvT hz0
      refine z_aload_n F 5 dL_law_1010 rfl rfl ?_
      refine z_iconst (z := 0) F dL_law_1011 (by decide) ?_
      refine z_lald F (zAll_33 (xAsk s (0 ≤ a ∧ a < s 4 0 0) (zAsk s a.toNat)).2.2 (zMix (xAsk s (0 ≤ a ∧ a < s 4 0 0) (zAsk s a.toNat)).2.2 T9) (q9, c9)) (by decide) (by decide) (by decide) dL_law_1012 ?_
      refine z_iload F 0 dL_law_1013 rfl ?_
      refine z_i2l F (by rw [hvv]; exact (hv9 hz0).2) dL_law_1015 ?_
      refine z_lcmpE F ((hv9 hz0).1.trans hvv.symm) dL_law_1016 ?_
      refine z_if_eq F 1022 dL_law_1017 (by decide) ⟨by decide, by decide⟩ (fun c_6 => ?_) (fun c_6 => ?_)
      · skip
        refine z_goto F 1795 dL_law_1022 (by decide) ?_
        refine z_lv [(0, .ref 127), (1, .ref 0), (2, .ref 16), (3, .ref 33), (4, .int (zI i))] [2, 3, 4, 5, 6] rfl ?_
        refine z_wd (cl0 + 22) (sl0 + 1240) (show cl0 + 1 + 0 + 0 ≤ cl0 + 22 by omega) (show sl0 + 6 + 0 + 0 ≤ sl0 + 1240 by omega) ?_
        exact hnext _ _ _ hK hbT hk9
      · skip
        exact absurd rfl c_6
  · skip
    exact absurd rfl c_4
set_option maxRecDepth 100000 in
set_option maxHeartbeats 4000000 in
theorem law_case_15 {k : zC} {G : zG} {n : Nat} {xs : Nat → Int32} {Q : State → Prop} {tb : List ExceptionTableEntry} (F : zF k G cL_law 7 RL wsL_law (some .boolean) tb) (hX : zSX k G n xs) {s u : zS} {o : zOx} {i : Int} {cl0 sl0 : Nat} (hI : zInv s) (hu : zB u) (hob : ∀ m, o.2 m = 0 ∨ o.2 m = 1) (h3 : ∀ j, s 3 j 0 ≤ 600) (h18 : s 18 0 0 < 1000) (hi0 : 0 ≤ i) (hi1 : i + 3 < n) (hcl : cl0 + 22 ≤ 601024) (hsl : sl0 + 1240 ≤ 7293034) {a : Int} (ea : (xs (i + 1).toNat).toInt = a) (hnext : ∀ (s2 T2 : zS) (o2 : zOx), zK s s2 → zB T2 → (∀ m, o2.2 m = 0 ∨ o2.2 m = 1) → zJ k G room_1 7 Q (zAll s2 (zMix s2 T2) o2) (cl0 + 22) (sl0 + 1240) 1795 [(0, .ref 127), (1, .ref 0), (2, .ref 16), (3, .ref 33), (4, .int (zI i))] []) : zJ k G room_1 7 Q (zAll s (zMix s u) o) cl0 sl0 1038 [(0, .ref 127), (1, .ref 0), (2, .ref 16), (3, .ref 33), (4, .int (zI i))] [] := by
  have ha : zR a := ea ▸ zI_r _
  have hK := xAsk_k hI h3 (0 ≤ a ∧ a < s 9 0 0) (s 13 a.toNat 0)
  refine z_aload_n F 1 dL_law_1038 rfl rfl ?_
  refine z_aload_n F 0 dL_law_1039 rfl rfl ?_
  refine z_iload F 4 dL_law_1040 rfl ?_
  refine z_iconst (z := 1) F dL_law_1042 (by decide) ?_
  refine z_iadd F dL_law_1043 ?_
  refine z_sld F hX (by omega) (by omega) dL_law_1044 ?_
  refine z_ti (y := a) ea ?_
  refine z_aload_n F 3 dL_law_1045 rfl rfl ?_
  refine z_callSH F [.ref 0, .int (zI a), .ref 33] [] (c_L_startOf F.2.2.1 G (s := s) (t := zMix s u) (o := o) hI.c hI.b hI hob ha) csh_L_155 rfl ⟨by decide, by decide⟩ ⟨show cl0 + 1 ≤ 601024 by omega, show sl0 + 6 ≤ 7293034 by omega⟩ (Nat.le_of_ble_eq_true rfl) dL_law_1046 z_nx (z_ki (fun x_1 M_1 h_1 => ?_))
  obtain ⟨hx9, q9, c9, hm9, hk9, hv9⟩ := h_1
  subst hx9
  subst hm9
  refine z_istore F [(5, .int (zI ((xAsk s (0 ≤ a ∧ a < s 9 0 0) (s 13 a.toNat 0)).1))), (0, .ref 127), (1, .ref 0), (2, .ref 16), (3, .ref 33), (4, .int (zI i))] dL_law_1049 (by decide) rfl ?_
  refine z_aload_n F 3 dL_law_1051 rfl rfl ?_
  refine z_aload_n F 1 dL_law_1052 rfl rfl ?_
  refine z_iload F 5 dL_law_1053 rfl ?_
  refine z_iconst (z := 1) F dL_law_1055 (by decide) ?_
  refine z_iadd F dL_law_1056 ?_
  refine z_sld F hX (by omega) (by omega) dL_law_1057 ?_
  refine z_ti (y := a) ea ?_
  refine z_callV F [.int (zI a)] [] (q_startOf F.2.2.1 G (s := (xAsk s (0 ≤ a ∧ a < s 9 0 0) (s 13 a.toNat 0)).2.2) (t := zMix s u) (c := s) (o := (q9, c9)) (zMix_c hI.c) (zMix_b hI.b hu) hI (zMix_r s u) h3 ha) cv_L_157 (zAll_16 (xAsk s (0 ≤ a ∧ a < s 9 0 0) (s 13 a.toNat 0)).2.2 (zMix s u) (q9, c9)) rfl rfl rfl ⟨by decide, by decide⟩ ⟨show cl0 + 1 + 0 ≤ 601024 by omega, show sl0 + 6 + 0 ≤ 7293034 by omega⟩ (Nat.le_of_ble_eq_true rfl) dL_law_1058 z_nx (z_ki (fun x_2 M_2 h_2 => ?_))
  obtain ⟨T9, hmT, hbT, hrT, h25, hvT⟩ := h_2
  subst hmT
  refine z_M (M' := (zAll (xAsk s (0 ≤ a ∧ a < s 9 0 0) (s 13 a.toNat 0)).2.2 (zMix (xAsk s (0 ≤ a ∧ a < s 9 0 0) (s 13 a.toNat 0)).2.2 T9) (q9, c9))) (zAll_mix hrT) ?_
  refine z_istore F [(6, .int (zI x_2)), (5, .int (zI ((xAsk s (0 ≤ a ∧ a < s 9 0 0) (s 13 a.toNat 0)).1))), (0, .ref 127), (1, .ref 0), (2, .ref 16), (3, .ref 33), (4, .int (zI i))] dL_law_1061 (by decide) rfl ?_
  refine z_aload_n F 4 dL_law_1063 rfl rfl ?_
  refine z_callV F [] [] (c_X7_thrown F.2.2.1 G (s := (xAsk s (0 ≤ a ∧ a < s 9 0 0) (s 13 a.toNat 0)).2.2) (t := zMix (xAsk s (0 ≤ a ∧ a < s 9 0 0) (s 13 a.toNat 0)).2.2 T9) (o := (q9, c9)) (zMix_c hK.1.c) (zMix_b hK.1.b hbT)) cv_L_105 (zAll_16 (xAsk s (0 ≤ a ∧ a < s 9 0 0) (s 13 a.toNat 0)).2.2 (zMix (xAsk s (0 ≤ a ∧ a < s 9 0 0) (s 13 a.toNat 0)).2.2 T9) (q9, c9)) rfl rfl rfl ⟨by decide, by decide⟩ ⟨show cl0 + 1 + 0 + 0 ≤ 601024 by omega, show sl0 + 6 + 0 + 0 ≤ 7293034 by omega⟩ (Nat.le_of_ble_eq_true rfl) dL_law_1064 z_nx (z_ki (fun x_3 M_3 h_3 => ?_))
  have hx9 := (h_3).1.symm
  have hm9 := (h_3).2.symm
  subst hx9
  subst hm9
  have hX1 := hbT 25 0 0
  rw [h25] at hX1
  refine z_ti (y := (xAsk s (0 ≤ a ∧ a < s 9 0 0) (s 13 a.toNat 0)).1) h25 ?_
  refine z_iload F 1 dL_law_1067 rfl ?_
  refine z_icmp_eq F 1074 dL_law_1069 (by decide) (by omega) (by omega) (fun c_4 => ?_) (fun c_4 => ?_)
  · skip
    refine z_iload F 1 dL_law_1074 rfl ?_
    refine z_if_ne F 1091 dL_law_1076 (by decide) (by omega) (fun c_5 => ?_) (fun c_5 => ?_)
    · skip
      refine z_goto F 1795 dL_law_1091 (by decide) ?_
      refine z_lv [(0, .ref 127), (1, .ref 0), (2, .ref 16), (3, .ref 33), (4, .int (zI i))] [2, 3, 4, 5, 6] rfl ?_
      refine z_wd (cl0 + 22) (sl0 + 1240) (show cl0 + 1 + 0 + 0 ≤ cl0 + 22 by omega) (show sl0 + 6 + 0 + 0 ≤ sl0 + 1240 by omega) ?_
      exact hnext _ _ _ hK hbT hk9
    · skip
      have hz0 : (xAsk s (0 ≤ a ∧ a < s 9 0 0) (s 13 a.toNat 0)).1 = 0 := c_5
      have hvv := hvT hz0
      refine z_aload_n F 5 dL_law_1079 rfl rfl ?_
      refine z_iconst (z := 0) F dL_law_1080 (by decide) ?_
      refine z_lald F (zAll_33 (xAsk s (0 ≤ a ∧ a < s 9 0 0) (s 13 a.toNat 0)).2.2 (zMix (xAsk s (0 ≤ a ∧ a < s 9 0 0) (s 13 a.toNat 0)).2.2 T9) (q9, c9)) (by decide) (by decide) (by decide) dL_law_1081 ?_
      refine z_iload F 0 dL_law_1082 rfl ?_
      refine z_i2l F (by rw [hvv]; exact (hv9 hz0).2) dL_law_1084 ?_
      refine z_lcmpE F ((hv9 hz0).1.trans hvv.symm) dL_law_1085 ?_
      refine z_if_eq F 1091 dL_law_1086 (by decide) ⟨by decide, by decide⟩ (fun c_6 => ?_) (fun c_6 => ?_)
      · skip
        refine z_goto F 1795 dL_law_1091 (by decide) ?_
        refine z_lv [(0, .ref 127), (1, .ref 0), (2, .ref 16), (3, .ref 33), (4, .int (zI i))] [2, 3, 4, 5, 6] rfl ?_
        refine z_wd (cl0 + 22) (sl0 + 1240) (show cl0 + 1 + 0 + 0 ≤ cl0 + 22 by omega) (show sl0 + 6 + 0 + 0 ≤ sl0 + 1240 by omega) ?_
        exact hnext _ _ _ hK hbT hk9
      · skip
        exact absurd rfl c_6
  · skip
    exact absurd rfl c_4
set_option maxRecDepth 100000 in
set_option maxHeartbeats 4000000 in
theorem law_case_16 {k : zC} {G : zG} {n : Nat} {xs : Nat → Int32} {Q : State → Prop} {tb : List ExceptionTableEntry} (F : zF k G cL_law 7 RL wsL_law (some .boolean) tb) (hX : zSX k G n xs) {s u : zS} {o : zOx} {i : Int} {cl0 sl0 : Nat} (hI : zInv s) (hu : zB u) (hob : ∀ m, o.2 m = 0 ∨ o.2 m = 1) (h3 : ∀ j, s 3 j 0 ≤ 600) (h18 : s 18 0 0 < 1000) (hi0 : 0 ≤ i) (hi1 : i + 3 < n) (hcl : cl0 + 22 ≤ 601024) (hsl : sl0 + 1240 ≤ 7293034) {a : Int} (ea : (xs (i + 1).toNat).toInt = a) (hnext : ∀ (s2 T2 : zS) (o2 : zOx), zK s s2 → zB T2 → (∀ m, o2.2 m = 0 ∨ o2.2 m = 1) → zJ k G room_1 7 Q (zAll s2 (zMix s2 T2) o2) (cl0 + 22) (sl0 + 1240) 1795 [(0, .ref 127), (1, .ref 0), (2, .ref 16), (3, .ref 33), (4, .int (zI i))] []) : zJ k G room_1 7 Q (zAll s (zMix s u) o) cl0 sl0 1094 [(0, .ref 127), (1, .ref 0), (2, .ref 16), (3, .ref 33), (4, .int (zI i))] [] := by
  have ha : zR a := ea ▸ zI_r _
  have hK := xAsk_k hI h3 (0 ≤ a ∧ a < s 9 0 0) ((if s 13 a.toNat 0 = -1 then -1 else s 11 a.toNat 0))
  refine z_aload_n F 1 dL_law_1094 rfl rfl ?_
  refine z_aload_n F 0 dL_law_1095 rfl rfl ?_
  refine z_iload F 4 dL_law_1096 rfl ?_
  refine z_iconst (z := 1) F dL_law_1098 (by decide) ?_
  refine z_iadd F dL_law_1099 ?_
  refine z_sld F hX (by omega) (by omega) dL_law_1100 ?_
  refine z_ti (y := a) ea ?_
  refine z_aload_n F 3 dL_law_1101 rfl rfl ?_
  refine z_callSH F [.ref 0, .int (zI a), .ref 33] [] (c_L_staffOf F.2.2.1 G (s := s) (t := zMix s u) (o := o) hI.c hI.b hI hob ha) csh_L_158 rfl ⟨by decide, by decide⟩ ⟨show cl0 + 1 ≤ 601024 by omega, show sl0 + 6 ≤ 7293034 by omega⟩ (Nat.le_of_ble_eq_true rfl) dL_law_1102 z_nx (z_ki (fun x_1 M_1 h_1 => ?_))
  obtain ⟨hx9, q9, c9, hm9, hk9, hv9⟩ := h_1
  subst hx9
  subst hm9
  refine z_istore F [(5, .int (zI ((xAsk s (0 ≤ a ∧ a < s 9 0 0) ((if s 13 a.toNat 0 = -1 then -1 else s 11 a.toNat 0))).1))), (0, .ref 127), (1, .ref 0), (2, .ref 16), (3, .ref 33), (4, .int (zI i))] dL_law_1105 (by decide) rfl ?_
  refine z_aload_n F 3 dL_law_1107 rfl rfl ?_
  refine z_aload_n F 1 dL_law_1108 rfl rfl ?_
  refine z_iload F 5 dL_law_1109 rfl ?_
  refine z_iconst (z := 1) F dL_law_1111 (by decide) ?_
  refine z_iadd F dL_law_1112 ?_
  refine z_sld F hX (by omega) (by omega) dL_law_1113 ?_
  refine z_ti (y := a) ea ?_
  refine z_callV F [.int (zI a)] [] (q_staffOf F.2.2.1 G (s := (xAsk s (0 ≤ a ∧ a < s 9 0 0) ((if s 13 a.toNat 0 = -1 then -1 else s 11 a.toNat 0))).2.2) (t := zMix s u) (c := s) (o := (q9, c9)) (zMix_c hI.c) (zMix_b hI.b hu) hI (zMix_r s u) h3 ha) cv_L_160 (zAll_16 (xAsk s (0 ≤ a ∧ a < s 9 0 0) ((if s 13 a.toNat 0 = -1 then -1 else s 11 a.toNat 0))).2.2 (zMix s u) (q9, c9)) rfl rfl rfl ⟨by decide, by decide⟩ ⟨show cl0 + 1 + 0 ≤ 601024 by omega, show sl0 + 6 + 0 ≤ 7293034 by omega⟩ (Nat.le_of_ble_eq_true rfl) dL_law_1114 z_nx (z_ki (fun x_2 M_2 h_2 => ?_))
  obtain ⟨T9, hmT, hbT, hrT, h25, hvT⟩ := h_2
  subst hmT
  refine z_M (M' := (zAll (xAsk s (0 ≤ a ∧ a < s 9 0 0) ((if s 13 a.toNat 0 = -1 then -1 else s 11 a.toNat 0))).2.2 (zMix (xAsk s (0 ≤ a ∧ a < s 9 0 0) ((if s 13 a.toNat 0 = -1 then -1 else s 11 a.toNat 0))).2.2 T9) (q9, c9))) (zAll_mix hrT) ?_
  refine z_istore F [(6, .int (zI x_2)), (5, .int (zI ((xAsk s (0 ≤ a ∧ a < s 9 0 0) ((if s 13 a.toNat 0 = -1 then -1 else s 11 a.toNat 0))).1))), (0, .ref 127), (1, .ref 0), (2, .ref 16), (3, .ref 33), (4, .int (zI i))] dL_law_1117 (by decide) rfl ?_
  refine z_aload_n F 4 dL_law_1119 rfl rfl ?_
  refine z_callV F [] [] (c_X7_thrown F.2.2.1 G (s := (xAsk s (0 ≤ a ∧ a < s 9 0 0) ((if s 13 a.toNat 0 = -1 then -1 else s 11 a.toNat 0))).2.2) (t := zMix (xAsk s (0 ≤ a ∧ a < s 9 0 0) ((if s 13 a.toNat 0 = -1 then -1 else s 11 a.toNat 0))).2.2 T9) (o := (q9, c9)) (zMix_c hK.1.c) (zMix_b hK.1.b hbT)) cv_L_105 (zAll_16 (xAsk s (0 ≤ a ∧ a < s 9 0 0) ((if s 13 a.toNat 0 = -1 then -1 else s 11 a.toNat 0))).2.2 (zMix (xAsk s (0 ≤ a ∧ a < s 9 0 0) ((if s 13 a.toNat 0 = -1 then -1 else s 11 a.toNat 0))).2.2 T9) (q9, c9)) rfl rfl rfl ⟨by decide, by decide⟩ ⟨show cl0 + 1 + 0 + 0 ≤ 601024 by omega, show sl0 + 6 + 0 + 0 ≤ 7293034 by omega⟩ (Nat.le_of_ble_eq_true rfl) dL_law_1120 z_nx (z_ki (fun x_3 M_3 h_3 => ?_))
  have hx9 := (h_3).1.symm
  have hm9 := (h_3).2.symm
  subst hx9
  subst hm9
  have hX1 := hbT 25 0 0
  rw [h25] at hX1
  refine z_ti (y := (xAsk s (0 ≤ a ∧ a < s 9 0 0) ((if s 13 a.toNat 0 = -1 then -1 else s 11 a.toNat 0))).1) h25 ?_
  refine z_iload F 1 dL_law_1123 rfl ?_
  refine z_icmp_eq F 1130 dL_law_1125 (by decide) (by omega) (by omega) (fun c_4 => ?_) (fun c_4 => ?_)
  · skip
    refine z_iload F 1 dL_law_1130 rfl ?_
    refine z_if_ne F 1147 dL_law_1132 (by decide) (by omega) (fun c_5 => ?_) (fun c_5 => ?_)
    · skip
      refine z_goto F 1795 dL_law_1147 (by decide) ?_
      refine z_lv [(0, .ref 127), (1, .ref 0), (2, .ref 16), (3, .ref 33), (4, .int (zI i))] [2, 3, 4, 5, 6] rfl ?_
      refine z_wd (cl0 + 22) (sl0 + 1240) (show cl0 + 1 + 0 + 0 ≤ cl0 + 22 by omega) (show sl0 + 6 + 0 + 0 ≤ sl0 + 1240 by omega) ?_
      exact hnext _ _ _ hK hbT hk9
    · skip
      have hz0 : (xAsk s (0 ≤ a ∧ a < s 9 0 0) ((if s 13 a.toNat 0 = -1 then -1 else s 11 a.toNat 0))).1 = 0 := c_5
      have hvv := hvT hz0
      refine z_aload_n F 5 dL_law_1135 rfl rfl ?_
      refine z_iconst (z := 0) F dL_law_1136 (by decide) ?_
      refine z_lald F (zAll_33 (xAsk s (0 ≤ a ∧ a < s 9 0 0) ((if s 13 a.toNat 0 = -1 then -1 else s 11 a.toNat 0))).2.2 (zMix (xAsk s (0 ≤ a ∧ a < s 9 0 0) ((if s 13 a.toNat 0 = -1 then -1 else s 11 a.toNat 0))).2.2 T9) (q9, c9)) (by decide) (by decide) (by decide) dL_law_1137 ?_
      refine z_iload F 0 dL_law_1138 rfl ?_
      refine z_i2l F (by rw [hvv]; exact (hv9 hz0).2) dL_law_1140 ?_
      refine z_lcmpE F ((hv9 hz0).1.trans hvv.symm) dL_law_1141 ?_
      refine z_if_eq F 1147 dL_law_1142 (by decide) ⟨by decide, by decide⟩ (fun c_6 => ?_) (fun c_6 => ?_)
      · skip
        refine z_goto F 1795 dL_law_1147 (by decide) ?_
        refine z_lv [(0, .ref 127), (1, .ref 0), (2, .ref 16), (3, .ref 33), (4, .int (zI i))] [2, 3, 4, 5, 6] rfl ?_
        refine z_wd (cl0 + 22) (sl0 + 1240) (show cl0 + 1 + 0 + 0 ≤ cl0 + 22 by omega) (show sl0 + 6 + 0 + 0 ≤ sl0 + 1240 by omega) ?_
        exact hnext _ _ _ hK hbT hk9
      · skip
        exact absurd rfl c_6
  · skip
    exact absurd rfl c_4
set_option maxRecDepth 100000 in
set_option maxHeartbeats 4000000 in
theorem law_case_17 {k : zC} {G : zG} {n : Nat} {xs : Nat → Int32} {Q : State → Prop} {tb : List ExceptionTableEntry} (F : zF k G cL_law 7 RL wsL_law (some .boolean) tb) (hX : zSX k G n xs) {s u : zS} {o : zOx} {i : Int} {cl0 sl0 : Nat} (hI : zInv s) (hu : zB u) (hob : ∀ m, o.2 m = 0 ∨ o.2 m = 1) (h3 : ∀ j, s 3 j 0 ≤ 600) (h18 : s 18 0 0 < 1000) (hi0 : 0 ≤ i) (hi1 : i + 3 < n) (hcl : cl0 + 22 ≤ 601024) (hsl : sl0 + 1240 ≤ 7293034) {a : Int} (ea : (xs (i + 1).toNat).toInt = a) (hnext : ∀ (s2 T2 : zS) (o2 : zOx), zK s s2 → zB T2 → (∀ m, o2.2 m = 0 ∨ o2.2 m = 1) → zJ k G room_1 7 Q (zAll s2 (zMix s2 T2) o2) (cl0 + 22) (sl0 + 1240) 1795 [(0, .ref 127), (1, .ref 0), (2, .ref 16), (3, .ref 33), (4, .int (zI i))] []) : zJ k G room_1 7 Q (zAll s (zMix s u) o) cl0 sl0 1150 [(0, .ref 127), (1, .ref 0), (2, .ref 16), (3, .ref 33), (4, .int (zI i))] [] := by
  have ha : zR a := ea ▸ zI_r _
  have hK := xAsk_k hI h3 (0 ≤ a ∧ a < s 9 0 0) ((if s 13 a.toNat 0 = -1 then -1 else s 12 a.toNat 0))
  refine z_aload_n F 1 dL_law_1150 rfl rfl ?_
  refine z_aload_n F 0 dL_law_1151 rfl rfl ?_
  refine z_iload F 4 dL_law_1152 rfl ?_
  refine z_iconst (z := 1) F dL_law_1154 (by decide) ?_
  refine z_iadd F dL_law_1155 ?_
  refine z_sld F hX (by omega) (by omega) dL_law_1156 ?_
  refine z_ti (y := a) ea ?_
  refine z_aload_n F 3 dL_law_1157 rfl rfl ?_
  refine z_callSH F [.ref 0, .int (zI a), .ref 33] [] (c_L_chairOf F.2.2.1 G (s := s) (t := zMix s u) (o := o) hI.c hI.b hI hob ha) csh_L_161 rfl ⟨by decide, by decide⟩ ⟨show cl0 + 1 ≤ 601024 by omega, show sl0 + 6 ≤ 7293034 by omega⟩ (Nat.le_of_ble_eq_true rfl) dL_law_1158 z_nx (z_ki (fun x_1 M_1 h_1 => ?_))
  obtain ⟨hx9, q9, c9, hm9, hk9, hv9⟩ := h_1
  subst hx9
  subst hm9
  refine z_istore F [(5, .int (zI ((xAsk s (0 ≤ a ∧ a < s 9 0 0) ((if s 13 a.toNat 0 = -1 then -1 else s 12 a.toNat 0))).1))), (0, .ref 127), (1, .ref 0), (2, .ref 16), (3, .ref 33), (4, .int (zI i))] dL_law_1161 (by decide) rfl ?_
  refine z_aload_n F 3 dL_law_1163 rfl rfl ?_
  refine z_aload_n F 1 dL_law_1164 rfl rfl ?_
  refine z_iload F 5 dL_law_1165 rfl ?_
  refine z_iconst (z := 1) F dL_law_1167 (by decide) ?_
  refine z_iadd F dL_law_1168 ?_
  refine z_sld F hX (by omega) (by omega) dL_law_1169 ?_
  refine z_ti (y := a) ea ?_
  refine z_callV F [.int (zI a)] [] (q_chairOf F.2.2.1 G (s := (xAsk s (0 ≤ a ∧ a < s 9 0 0) ((if s 13 a.toNat 0 = -1 then -1 else s 12 a.toNat 0))).2.2) (t := zMix s u) (c := s) (o := (q9, c9)) (zMix_c hI.c) (zMix_b hI.b hu) hI (zMix_r s u) h3 ha) cv_L_163 (zAll_16 (xAsk s (0 ≤ a ∧ a < s 9 0 0) ((if s 13 a.toNat 0 = -1 then -1 else s 12 a.toNat 0))).2.2 (zMix s u) (q9, c9)) rfl rfl rfl ⟨by decide, by decide⟩ ⟨show cl0 + 1 + 0 ≤ 601024 by omega, show sl0 + 6 + 0 ≤ 7293034 by omega⟩ (Nat.le_of_ble_eq_true rfl) dL_law_1170 z_nx (z_ki (fun x_2 M_2 h_2 => ?_))
  obtain ⟨T9, hmT, hbT, hrT, h25, hvT⟩ := h_2
  subst hmT
  refine z_M (M' := (zAll (xAsk s (0 ≤ a ∧ a < s 9 0 0) ((if s 13 a.toNat 0 = -1 then -1 else s 12 a.toNat 0))).2.2 (zMix (xAsk s (0 ≤ a ∧ a < s 9 0 0) ((if s 13 a.toNat 0 = -1 then -1 else s 12 a.toNat 0))).2.2 T9) (q9, c9))) (zAll_mix hrT) ?_
  refine z_istore F [(6, .int (zI x_2)), (5, .int (zI ((xAsk s (0 ≤ a ∧ a < s 9 0 0) ((if s 13 a.toNat 0 = -1 then -1 else s 12 a.toNat 0))).1))), (0, .ref 127), (1, .ref 0), (2, .ref 16), (3, .ref 33), (4, .int (zI i))] dL_law_1173 (by decide) rfl ?_
  refine z_aload_n F 4 dL_law_1175 rfl rfl ?_
  refine z_callV F [] [] (c_X7_thrown F.2.2.1 G (s := (xAsk s (0 ≤ a ∧ a < s 9 0 0) ((if s 13 a.toNat 0 = -1 then -1 else s 12 a.toNat 0))).2.2) (t := zMix (xAsk s (0 ≤ a ∧ a < s 9 0 0) ((if s 13 a.toNat 0 = -1 then -1 else s 12 a.toNat 0))).2.2 T9) (o := (q9, c9)) (zMix_c hK.1.c) (zMix_b hK.1.b hbT)) cv_L_105 (zAll_16 (xAsk s (0 ≤ a ∧ a < s 9 0 0) ((if s 13 a.toNat 0 = -1 then -1 else s 12 a.toNat 0))).2.2 (zMix (xAsk s (0 ≤ a ∧ a < s 9 0 0) ((if s 13 a.toNat 0 = -1 then -1 else s 12 a.toNat 0))).2.2 T9) (q9, c9)) rfl rfl rfl ⟨by decide, by decide⟩ ⟨show cl0 + 1 + 0 + 0 ≤ 601024 by omega, show sl0 + 6 + 0 + 0 ≤ 7293034 by omega⟩ (Nat.le_of_ble_eq_true rfl) dL_law_1176 z_nx (z_ki (fun x_3 M_3 h_3 => ?_))
  have hx9 := (h_3).1.symm
  have hm9 := (h_3).2.symm
  subst hx9
  subst hm9
  have hX1 := hbT 25 0 0
  rw [h25] at hX1
  refine z_ti (y := (xAsk s (0 ≤ a ∧ a < s 9 0 0) ((if s 13 a.toNat 0 = -1 then -1 else s 12 a.toNat 0))).1) h25 ?_
  refine z_iload F 1 dL_law_1179 rfl ?_
  refine z_icmp_eq F 1186 dL_law_1181 (by decide) (by omega) (by omega) (fun c_4 => ?_) (fun c_4 => ?_)
  · skip
    refine z_iload F 1 dL_law_1186 rfl ?_
    refine z_if_ne F 1203 dL_law_1188 (by decide) (by omega) (fun c_5 => ?_) (fun c_5 => ?_)
    · skip
      refine z_goto F 1795 dL_law_1203 (by decide) ?_
      refine z_lv [(0, .ref 127), (1, .ref 0), (2, .ref 16), (3, .ref 33), (4, .int (zI i))] [2, 3, 4, 5, 6] rfl ?_
      refine z_wd (cl0 + 22) (sl0 + 1240) (show cl0 + 1 + 0 + 0 ≤ cl0 + 22 by omega) (show sl0 + 6 + 0 + 0 ≤ sl0 + 1240 by omega) ?_
      exact hnext _ _ _ hK hbT hk9
    · skip
      have hz0 : (xAsk s (0 ≤ a ∧ a < s 9 0 0) ((if s 13 a.toNat 0 = -1 then -1 else s 12 a.toNat 0))).1 = 0 := c_5
      have hvv := hvT hz0
      refine z_aload_n F 5 dL_law_1191 rfl rfl ?_
      refine z_iconst (z := 0) F dL_law_1192 (by decide) ?_
      refine z_lald F (zAll_33 (xAsk s (0 ≤ a ∧ a < s 9 0 0) ((if s 13 a.toNat 0 = -1 then -1 else s 12 a.toNat 0))).2.2 (zMix (xAsk s (0 ≤ a ∧ a < s 9 0 0) ((if s 13 a.toNat 0 = -1 then -1 else s 12 a.toNat 0))).2.2 T9) (q9, c9)) (by decide) (by decide) (by decide) dL_law_1193 ?_
      refine z_iload F 0 dL_law_1194 rfl ?_
      refine z_i2l F (by rw [hvv]; exact (hv9 hz0).2) dL_law_1196 ?_
      refine z_lcmpE F ((hv9 hz0).1.trans hvv.symm) dL_law_1197 ?_
      refine z_if_eq F 1203 dL_law_1198 (by decide) ⟨by decide, by decide⟩ (fun c_6 => ?_) (fun c_6 => ?_)
      · skip
        refine z_goto F 1795 dL_law_1203 (by decide) ?_
        refine z_lv [(0, .ref 127), (1, .ref 0), (2, .ref 16), (3, .ref 33), (4, .int (zI i))] [2, 3, 4, 5, 6] rfl ?_
        refine z_wd (cl0 + 22) (sl0 + 1240) (show cl0 + 1 + 0 + 0 ≤ cl0 + 22 by omega) (show sl0 + 6 + 0 + 0 ≤ sl0 + 1240 by omega) ?_
        exact hnext _ _ _ hK hbT hk9
      · skip
        exact absurd rfl c_6
  · skip
    exact absurd rfl c_4
set_option maxRecDepth 100000 in
set_option maxHeartbeats 4000000 in
theorem law_case_18 {k : zC} {G : zG} {n : Nat} {xs : Nat → Int32} {Q : State → Prop} {tb : List ExceptionTableEntry} (F : zF k G cL_law 7 RL wsL_law (some .boolean) tb) (hX : zSX k G n xs) {s u : zS} {o : zOx} {i : Int} {cl0 sl0 : Nat} (hI : zInv s) (hu : zB u) (hob : ∀ m, o.2 m = 0 ∨ o.2 m = 1) (h3 : ∀ j, s 3 j 0 ≤ 600) (h18 : s 18 0 0 < 1000) (hi0 : 0 ≤ i) (hi1 : i + 3 < n) (hcl : cl0 + 22 ≤ 601024) (hsl : sl0 + 1240 ≤ 7293034) {a : Int} (ea : (xs (i + 1).toNat).toInt = a) (hnext : ∀ (s2 T2 : zS) (o2 : zOx), zK s s2 → zB T2 → (∀ m, o2.2 m = 0 ∨ o2.2 m = 1) → zJ k G room_1 7 Q (zAll s2 (zMix s2 T2) o2) (cl0 + 22) (sl0 + 1240) 1795 [(0, .ref 127), (1, .ref 0), (2, .ref 16), (3, .ref 33), (4, .int (zI i))] []) : zJ k G room_1 7 Q (zAll s (zMix s u) o) cl0 sl0 1206 [(0, .ref 127), (1, .ref 0), (2, .ref 16), (3, .ref 33), (4, .int (zI i))] [] := by
  have ha : zR a := ea ▸ zI_r _
  have hK := xAsk_k hI h3 (0 ≤ a ∧ a < s 9 0 0) (s 10 a.toNat 0)
  refine z_aload_n F 1 dL_law_1206 rfl rfl ?_
  refine z_aload_n F 0 dL_law_1207 rfl rfl ?_
  refine z_iload F 4 dL_law_1208 rfl ?_
  refine z_iconst (z := 1) F dL_law_1210 (by decide) ?_
  refine z_iadd F dL_law_1211 ?_
  refine z_sld F hX (by omega) (by omega) dL_law_1212 ?_
  refine z_ti (y := a) ea ?_
  refine z_aload_n F 3 dL_law_1213 rfl rfl ?_
  refine z_callSH F [.ref 0, .int (zI a), .ref 33] [] (c_L_serviceOf F.2.2.1 G (s := s) (t := zMix s u) (o := o) hI.c hI.b hI hob ha) csh_L_164 rfl ⟨by decide, by decide⟩ ⟨show cl0 + 1 ≤ 601024 by omega, show sl0 + 6 ≤ 7293034 by omega⟩ (Nat.le_of_ble_eq_true rfl) dL_law_1214 z_nx (z_ki (fun x_1 M_1 h_1 => ?_))
  obtain ⟨hx9, q9, c9, hm9, hk9, hv9⟩ := h_1
  subst hx9
  subst hm9
  refine z_istore F [(5, .int (zI ((xAsk s (0 ≤ a ∧ a < s 9 0 0) (s 10 a.toNat 0)).1))), (0, .ref 127), (1, .ref 0), (2, .ref 16), (3, .ref 33), (4, .int (zI i))] dL_law_1217 (by decide) rfl ?_
  refine z_aload_n F 3 dL_law_1219 rfl rfl ?_
  refine z_aload_n F 1 dL_law_1220 rfl rfl ?_
  refine z_iload F 5 dL_law_1221 rfl ?_
  refine z_iconst (z := 1) F dL_law_1223 (by decide) ?_
  refine z_iadd F dL_law_1224 ?_
  refine z_sld F hX (by omega) (by omega) dL_law_1225 ?_
  refine z_ti (y := a) ea ?_
  refine z_callV F [.int (zI a)] [] (q_serviceOf F.2.2.1 G (s := (xAsk s (0 ≤ a ∧ a < s 9 0 0) (s 10 a.toNat 0)).2.2) (t := zMix s u) (c := s) (o := (q9, c9)) (zMix_c hI.c) (zMix_b hI.b hu) hI (zMix_r s u) h3 ha) cv_L_166 (zAll_16 (xAsk s (0 ≤ a ∧ a < s 9 0 0) (s 10 a.toNat 0)).2.2 (zMix s u) (q9, c9)) rfl rfl rfl ⟨by decide, by decide⟩ ⟨show cl0 + 1 + 0 ≤ 601024 by omega, show sl0 + 6 + 0 ≤ 7293034 by omega⟩ (Nat.le_of_ble_eq_true rfl) dL_law_1226 z_nx (z_ki (fun x_2 M_2 h_2 => ?_))
  obtain ⟨T9, hmT, hbT, hrT, h25, hvT⟩ := h_2
  subst hmT
  refine z_M (M' := (zAll (xAsk s (0 ≤ a ∧ a < s 9 0 0) (s 10 a.toNat 0)).2.2 (zMix (xAsk s (0 ≤ a ∧ a < s 9 0 0) (s 10 a.toNat 0)).2.2 T9) (q9, c9))) (zAll_mix hrT) ?_
  refine z_istore F [(6, .int (zI x_2)), (5, .int (zI ((xAsk s (0 ≤ a ∧ a < s 9 0 0) (s 10 a.toNat 0)).1))), (0, .ref 127), (1, .ref 0), (2, .ref 16), (3, .ref 33), (4, .int (zI i))] dL_law_1229 (by decide) rfl ?_
  refine z_aload_n F 4 dL_law_1231 rfl rfl ?_
  refine z_callV F [] [] (c_X7_thrown F.2.2.1 G (s := (xAsk s (0 ≤ a ∧ a < s 9 0 0) (s 10 a.toNat 0)).2.2) (t := zMix (xAsk s (0 ≤ a ∧ a < s 9 0 0) (s 10 a.toNat 0)).2.2 T9) (o := (q9, c9)) (zMix_c hK.1.c) (zMix_b hK.1.b hbT)) cv_L_105 (zAll_16 (xAsk s (0 ≤ a ∧ a < s 9 0 0) (s 10 a.toNat 0)).2.2 (zMix (xAsk s (0 ≤ a ∧ a < s 9 0 0) (s 10 a.toNat 0)).2.2 T9) (q9, c9)) rfl rfl rfl ⟨by decide, by decide⟩ ⟨show cl0 + 1 + 0 + 0 ≤ 601024 by omega, show sl0 + 6 + 0 + 0 ≤ 7293034 by omega⟩ (Nat.le_of_ble_eq_true rfl) dL_law_1232 z_nx (z_ki (fun x_3 M_3 h_3 => ?_))
  have hx9 := (h_3).1.symm
  have hm9 := (h_3).2.symm
  subst hx9
  subst hm9
  have hX1 := hbT 25 0 0
  rw [h25] at hX1
  refine z_ti (y := (xAsk s (0 ≤ a ∧ a < s 9 0 0) (s 10 a.toNat 0)).1) h25 ?_
  refine z_iload F 1 dL_law_1235 rfl ?_
  refine z_icmp_eq F 1242 dL_law_1237 (by decide) (by omega) (by omega) (fun c_4 => ?_) (fun c_4 => ?_)
  · skip
    refine z_iload F 1 dL_law_1242 rfl ?_
    refine z_if_ne F 1259 dL_law_1244 (by decide) (by omega) (fun c_5 => ?_) (fun c_5 => ?_)
    · skip
      refine z_goto F 1795 dL_law_1259 (by decide) ?_
      refine z_lv [(0, .ref 127), (1, .ref 0), (2, .ref 16), (3, .ref 33), (4, .int (zI i))] [2, 3, 4, 5, 6] rfl ?_
      refine z_wd (cl0 + 22) (sl0 + 1240) (show cl0 + 1 + 0 + 0 ≤ cl0 + 22 by omega) (show sl0 + 6 + 0 + 0 ≤ sl0 + 1240 by omega) ?_
      exact hnext _ _ _ hK hbT hk9
    · skip
      have hz0 : (xAsk s (0 ≤ a ∧ a < s 9 0 0) (s 10 a.toNat 0)).1 = 0 := c_5
      have hvv := hvT hz0
      refine z_aload_n F 5 dL_law_1247 rfl rfl ?_
      refine z_iconst (z := 0) F dL_law_1248 (by decide) ?_
      refine z_lald F (zAll_33 (xAsk s (0 ≤ a ∧ a < s 9 0 0) (s 10 a.toNat 0)).2.2 (zMix (xAsk s (0 ≤ a ∧ a < s 9 0 0) (s 10 a.toNat 0)).2.2 T9) (q9, c9)) (by decide) (by decide) (by decide) dL_law_1249 ?_
      refine z_iload F 0 dL_law_1250 rfl ?_
      refine z_i2l F (by rw [hvv]; exact (hv9 hz0).2) dL_law_1252 ?_
      refine z_lcmpE F ((hv9 hz0).1.trans hvv.symm) dL_law_1253 ?_
      refine z_if_eq F 1259 dL_law_1254 (by decide) ⟨by decide, by decide⟩ (fun c_6 => ?_) (fun c_6 => ?_)
      · skip
        refine z_goto F 1795 dL_law_1259 (by decide) ?_
        refine z_lv [(0, .ref 127), (1, .ref 0), (2, .ref 16), (3, .ref 33), (4, .int (zI i))] [2, 3, 4, 5, 6] rfl ?_
        refine z_wd (cl0 + 22) (sl0 + 1240) (show cl0 + 1 + 0 + 0 ≤ cl0 + 22 by omega) (show sl0 + 6 + 0 + 0 ≤ sl0 + 1240 by omega) ?_
        exact hnext _ _ _ hK hbT hk9
      · skip
        exact absurd rfl c_6
  · skip
    exact absurd rfl c_4
set_option maxRecDepth 100000 in
set_option maxHeartbeats 4000000 in
theorem law_case_19 {k : zC} {G : zG} {n : Nat} {xs : Nat → Int32} {Q : State → Prop} {tb : List ExceptionTableEntry} (F : zF k G cL_law 7 RL wsL_law (some .boolean) tb) (hX : zSX k G n xs) {s u : zS} {o : zOx} {i : Int} {cl0 sl0 : Nat} (hI : zInv s) (hu : zB u) (hob : ∀ m, o.2 m = 0 ∨ o.2 m = 1) (h3 : ∀ j, s 3 j 0 ≤ 600) (h18 : s 18 0 0 < 1000) (hi0 : 0 ≤ i) (hi1 : i + 3 < n) (hcl : cl0 + 22 ≤ 601024) (hsl : sl0 + 1240 ≤ 7293034) {a : Int} (ea : (xs (i + 1).toNat).toInt = a) (hnext : ∀ (s2 T2 : zS) (o2 : zOx), zK s s2 → zB T2 → (∀ m, o2.2 m = 0 ∨ o2.2 m = 1) → zJ k G room_1 7 Q (zAll s2 (zMix s2 T2) o2) (cl0 + 22) (sl0 + 1240) 1795 [(0, .ref 127), (1, .ref 0), (2, .ref 16), (3, .ref 33), (4, .int (zI i))] []) : zJ k G room_1 7 Q (zAll s (zMix s u) o) cl0 sl0 1262 [(0, .ref 127), (1, .ref 0), (2, .ref 16), (3, .ref 33), (4, .int (zI i))] [] := by
  have ha : zR a := ea ▸ zI_r _
  have hK := xAsk_k hI h3 (0 ≤ a ∧ a < s 0 0 0) (zLoad s a)
  refine z_aload_n F 1 dL_law_1262 rfl rfl ?_
  refine z_aload_n F 0 dL_law_1263 rfl rfl ?_
  refine z_iload F 4 dL_law_1264 rfl ?_
  refine z_iconst (z := 1) F dL_law_1266 (by decide) ?_
  refine z_iadd F dL_law_1267 ?_
  refine z_sld F hX (by omega) (by omega) dL_law_1268 ?_
  refine z_ti (y := a) ea ?_
  refine z_aload_n F 3 dL_law_1269 rfl rfl ?_
  refine z_callSH F [.ref 0, .int (zI a), .ref 33] [] (c_L_loadOf F.2.2.1 G (s := s) (t := zMix s u) (o := o) hI.c hI.b hI hob ha) csh_L_167 rfl ⟨by decide, by decide⟩ ⟨show cl0 + 1 ≤ 601024 by omega, show sl0 + 6 ≤ 7293034 by omega⟩ (Nat.le_of_ble_eq_true rfl) dL_law_1270 z_nx (z_ki (fun x_1 M_1 h_1 => ?_))
  obtain ⟨hx9, q9, c9, hm9, hk9, hv9⟩ := h_1
  subst hx9
  subst hm9
  refine z_istore F [(5, .int (zI ((xAsk s (0 ≤ a ∧ a < s 0 0 0) (zLoad s a)).1))), (0, .ref 127), (1, .ref 0), (2, .ref 16), (3, .ref 33), (4, .int (zI i))] dL_law_1273 (by decide) rfl ?_
  refine z_aload_n F 3 dL_law_1275 rfl rfl ?_
  refine z_aload_n F 1 dL_law_1276 rfl rfl ?_
  refine z_iload F 5 dL_law_1277 rfl ?_
  refine z_iconst (z := 1) F dL_law_1279 (by decide) ?_
  refine z_iadd F dL_law_1280 ?_
  refine z_sld F hX (by omega) (by omega) dL_law_1281 ?_
  refine z_ti (y := a) ea ?_
  refine z_callV F [.int (zI a)] [] (q_loadOf F.2.2.1 G (s := (xAsk s (0 ≤ a ∧ a < s 0 0 0) (zLoad s a)).2.2) (t := zMix s u) (c := s) (o := (q9, c9)) (zMix_c hI.c) (zMix_b hI.b hu) hI (zMix_r s u) h3 ha) cv_L_169 (zAll_16 (xAsk s (0 ≤ a ∧ a < s 0 0 0) (zLoad s a)).2.2 (zMix s u) (q9, c9)) rfl rfl rfl ⟨by decide, by decide⟩ ⟨show cl0 + 1 + 0 ≤ 601024 by omega, show sl0 + 6 + 0 ≤ 7293034 by omega⟩ (Nat.le_of_ble_eq_true rfl) dL_law_1282 z_nx (z_ki (fun x_2 M_2 h_2 => ?_))
  obtain ⟨T9, hmT, hbT, hrT, h25, hvT⟩ := h_2
  subst hmT
  refine z_M (M' := (zAll (xAsk s (0 ≤ a ∧ a < s 0 0 0) (zLoad s a)).2.2 (zMix (xAsk s (0 ≤ a ∧ a < s 0 0 0) (zLoad s a)).2.2 T9) (q9, c9))) (zAll_mix hrT) ?_
  refine z_istore F [(6, .int (zI x_2)), (5, .int (zI ((xAsk s (0 ≤ a ∧ a < s 0 0 0) (zLoad s a)).1))), (0, .ref 127), (1, .ref 0), (2, .ref 16), (3, .ref 33), (4, .int (zI i))] dL_law_1285 (by decide) rfl ?_
  refine z_aload_n F 4 dL_law_1287 rfl rfl ?_
  refine z_callV F [] [] (c_X7_thrown F.2.2.1 G (s := (xAsk s (0 ≤ a ∧ a < s 0 0 0) (zLoad s a)).2.2) (t := zMix (xAsk s (0 ≤ a ∧ a < s 0 0 0) (zLoad s a)).2.2 T9) (o := (q9, c9)) (zMix_c hK.1.c) (zMix_b hK.1.b hbT)) cv_L_105 (zAll_16 (xAsk s (0 ≤ a ∧ a < s 0 0 0) (zLoad s a)).2.2 (zMix (xAsk s (0 ≤ a ∧ a < s 0 0 0) (zLoad s a)).2.2 T9) (q9, c9)) rfl rfl rfl ⟨by decide, by decide⟩ ⟨show cl0 + 1 + 0 + 0 ≤ 601024 by omega, show sl0 + 6 + 0 + 0 ≤ 7293034 by omega⟩ (Nat.le_of_ble_eq_true rfl) dL_law_1288 z_nx (z_ki (fun x_3 M_3 h_3 => ?_))
  have hx9 := (h_3).1.symm
  have hm9 := (h_3).2.symm
  subst hx9
  subst hm9
  have hX1 := hbT 25 0 0
  rw [h25] at hX1
  refine z_ti (y := (xAsk s (0 ≤ a ∧ a < s 0 0 0) (zLoad s a)).1) h25 ?_
  refine z_iload F 1 dL_law_1291 rfl ?_
  refine z_icmp_eq F 1298 dL_law_1293 (by decide) (by omega) (by omega) (fun c_4 => ?_) (fun c_4 => ?_)
  · skip
    refine z_iload F 1 dL_law_1298 rfl ?_
    refine z_if_ne F 1315 dL_law_1300 (by decide) (by omega) (fun c_5 => ?_) (fun c_5 => ?_)
    · skip
      refine z_goto F 1795 dL_law_1315 (by decide) ?_
      refine z_lv [(0, .ref 127), (1, .ref 0), (2, .ref 16), (3, .ref 33), (4, .int (zI i))] [2, 3, 4, 5, 6] rfl ?_
      refine z_wd (cl0 + 22) (sl0 + 1240) (show cl0 + 1 + 0 + 0 ≤ cl0 + 22 by omega) (show sl0 + 6 + 0 + 0 ≤ sl0 + 1240 by omega) ?_
      exact hnext _ _ _ hK hbT hk9
    · skip
      have hz0 : (xAsk s (0 ≤ a ∧ a < s 0 0 0) (zLoad s a)).1 = 0 := c_5
      have hvv := hvT hz0
      refine z_aload_n F 5 dL_law_1303 rfl rfl ?_
      refine z_iconst (z := 0) F dL_law_1304 (by decide) ?_
      refine z_lald F (zAll_33 (xAsk s (0 ≤ a ∧ a < s 0 0 0) (zLoad s a)).2.2 (zMix (xAsk s (0 ≤ a ∧ a < s 0 0 0) (zLoad s a)).2.2 T9) (q9, c9)) (by decide) (by decide) (by decide) dL_law_1305 ?_
      refine z_iload F 0 dL_law_1306 rfl ?_
      refine z_i2l F (by rw [hvv]; exact (hv9 hz0).2) dL_law_1308 ?_
      refine z_lcmpE F ((hv9 hz0).1.trans hvv.symm) dL_law_1309 ?_
      refine z_if_eq F 1315 dL_law_1310 (by decide) ⟨by decide, by decide⟩ (fun c_6 => ?_) (fun c_6 => ?_)
      · skip
        refine z_goto F 1795 dL_law_1315 (by decide) ?_
        refine z_lv [(0, .ref 127), (1, .ref 0), (2, .ref 16), (3, .ref 33), (4, .int (zI i))] [2, 3, 4, 5, 6] rfl ?_
        refine z_wd (cl0 + 22) (sl0 + 1240) (show cl0 + 1 + 0 + 0 ≤ cl0 + 22 by omega) (show sl0 + 6 + 0 + 0 ≤ sl0 + 1240 by omega) ?_
        exact hnext _ _ _ hK hbT hk9
      · skip
        exact absurd rfl c_6
  · skip
    exact absurd rfl c_4
set_option maxRecDepth 100000 in
set_option maxHeartbeats 4000000 in
theorem law_case_20 {k : zC} {G : zG} {n : Nat} {xs : Nat → Int32} {Q : State → Prop} {tb : List ExceptionTableEntry} (F : zF k G cL_law 7 RL wsL_law (some .boolean) tb) (hX : zSX k G n xs) {s u : zS} {o : zOx} {i : Int} {cl0 sl0 : Nat} (hI : zInv s) (hu : zB u) (hob : ∀ m, o.2 m = 0 ∨ o.2 m = 1) (h3 : ∀ j, s 3 j 0 ≤ 600) (h18 : s 18 0 0 < 1000) (hi0 : 0 ≤ i) (hi1 : i + 3 < n) (hcl : cl0 + 22 ≤ 601024) (hsl : sl0 + 1240 ≤ 7293034) {a : Int} (ea : (xs (i + 1).toNat).toInt = a) {b : Int} (eb : (xs (i + 2).toNat).toInt = b) (hnext : ∀ (s2 T2 : zS) (o2 : zOx), zK s s2 → zB T2 → (∀ m, o2.2 m = 0 ∨ o2.2 m = 1) → zJ k G room_1 7 Q (zAll s2 (zMix s2 T2) o2) (cl0 + 22) (sl0 + 1240) 1795 [(0, .ref 127), (1, .ref 0), (2, .ref 16), (3, .ref 33), (4, .int (zI i))] []) : zJ k G room_1 7 Q (zAll s (zMix s u) o) cl0 sl0 1318 [(0, .ref 127), (1, .ref 0), (2, .ref 16), (3, .ref 33), (4, .int (zI i))] [] := by
  have ha : zR a := ea ▸ zI_r _
  have hb : zR b := eb ▸ zI_r _
  have hK := xAsk_k hI h3 ((0 ≤ a ∧ a < s 0 0 0) ∧ 0 ≤ b ∧ b < 600) (s 21 (a.toNat + 4) b.toNat)
  refine z_aload_n F 1 dL_law_1318 rfl rfl ?_
  refine z_aload_n F 0 dL_law_1319 rfl rfl ?_
  refine z_iload F 4 dL_law_1320 rfl ?_
  refine z_iconst (z := 1) F dL_law_1322 (by decide) ?_
  refine z_iadd F dL_law_1323 ?_
  refine z_sld F hX (by omega) (by omega) dL_law_1324 ?_
  refine z_ti (y := a) ea ?_
  refine z_aload_n F 0 dL_law_1325 rfl rfl ?_
  refine z_iload F 4 dL_law_1326 rfl ?_
  refine z_iconst (z := 2) F dL_law_1328 (by decide) ?_
  refine z_iadd F dL_law_1329 ?_
  refine z_sld F hX (by omega) (by omega) dL_law_1330 ?_
  refine z_ti (y := b) eb ?_
  refine z_aload_n F 3 dL_law_1331 rfl rfl ?_
  refine z_callSH F [.ref 0, .int (zI a), .int (zI b), .ref 33] [] (c_L_staffAt F.2.2.1 G (s := s) (t := zMix s u) (o := o) hI.c hI.b hI hob ha hb) csh_L_170 rfl ⟨by decide, by decide⟩ ⟨show cl0 + 2 ≤ 601024 by omega, show sl0 + 12 ≤ 7293034 by omega⟩ (Nat.le_of_ble_eq_true rfl) dL_law_1332 z_nx (z_ki (fun x_1 M_1 h_1 => ?_))
  obtain ⟨hx9, q9, c9, hm9, hk9, hv9⟩ := h_1
  subst hx9
  subst hm9
  refine z_istore F [(5, .int (zI ((xAsk s ((0 ≤ a ∧ a < s 0 0 0) ∧ 0 ≤ b ∧ b < 600) (s 21 (a.toNat + 4) b.toNat)).1))), (0, .ref 127), (1, .ref 0), (2, .ref 16), (3, .ref 33), (4, .int (zI i))] dL_law_1335 (by decide) rfl ?_
  refine z_aload_n F 3 dL_law_1337 rfl rfl ?_
  refine z_aload_n F 1 dL_law_1338 rfl rfl ?_
  refine z_iload F 5 dL_law_1339 rfl ?_
  refine z_iconst (z := 1) F dL_law_1341 (by decide) ?_
  refine z_iadd F dL_law_1342 ?_
  refine z_sld F hX (by omega) (by omega) dL_law_1343 ?_
  refine z_ti (y := a) ea ?_
  refine z_aload_n F 1 dL_law_1344 rfl rfl ?_
  refine z_iload F 5 dL_law_1345 rfl ?_
  refine z_iconst (z := 2) F dL_law_1347 (by decide) ?_
  refine z_iadd F dL_law_1348 ?_
  refine z_sld F hX (by omega) (by omega) dL_law_1349 ?_
  refine z_ti (y := b) eb ?_
  refine z_callV F [.int (zI a), .int (zI b)] [] (q_staffAt F.2.2.1 G (s := (xAsk s ((0 ≤ a ∧ a < s 0 0 0) ∧ 0 ≤ b ∧ b < 600) (s 21 (a.toNat + 4) b.toNat)).2.2) (t := zMix s u) (c := s) (o := (q9, c9)) (zMix_c hI.c) (zMix_b hI.b hu) hI (zMix_r s u) h3 ha hb) cv_L_172 (zAll_16 (xAsk s ((0 ≤ a ∧ a < s 0 0 0) ∧ 0 ≤ b ∧ b < 600) (s 21 (a.toNat + 4) b.toNat)).2.2 (zMix s u) (q9, c9)) rfl rfl rfl ⟨by decide, by decide⟩ ⟨show cl0 + 2 + 0 ≤ 601024 by omega, show sl0 + 12 + 0 ≤ 7293034 by omega⟩ (Nat.le_of_ble_eq_true rfl) dL_law_1350 z_nx (z_ki (fun x_2 M_2 h_2 => ?_))
  obtain ⟨T9, hmT, hbT, hrT, h25, hvT⟩ := h_2
  subst hmT
  refine z_M (M' := (zAll (xAsk s ((0 ≤ a ∧ a < s 0 0 0) ∧ 0 ≤ b ∧ b < 600) (s 21 (a.toNat + 4) b.toNat)).2.2 (zMix (xAsk s ((0 ≤ a ∧ a < s 0 0 0) ∧ 0 ≤ b ∧ b < 600) (s 21 (a.toNat + 4) b.toNat)).2.2 T9) (q9, c9))) (zAll_mix hrT) ?_
  refine z_istore F [(6, .int (zI x_2)), (5, .int (zI ((xAsk s ((0 ≤ a ∧ a < s 0 0 0) ∧ 0 ≤ b ∧ b < 600) (s 21 (a.toNat + 4) b.toNat)).1))), (0, .ref 127), (1, .ref 0), (2, .ref 16), (3, .ref 33), (4, .int (zI i))] dL_law_1353 (by decide) rfl ?_
  refine z_aload_n F 4 dL_law_1355 rfl rfl ?_
  refine z_callV F [] [] (c_X7_thrown F.2.2.1 G (s := (xAsk s ((0 ≤ a ∧ a < s 0 0 0) ∧ 0 ≤ b ∧ b < 600) (s 21 (a.toNat + 4) b.toNat)).2.2) (t := zMix (xAsk s ((0 ≤ a ∧ a < s 0 0 0) ∧ 0 ≤ b ∧ b < 600) (s 21 (a.toNat + 4) b.toNat)).2.2 T9) (o := (q9, c9)) (zMix_c hK.1.c) (zMix_b hK.1.b hbT)) cv_L_105 (zAll_16 (xAsk s ((0 ≤ a ∧ a < s 0 0 0) ∧ 0 ≤ b ∧ b < 600) (s 21 (a.toNat + 4) b.toNat)).2.2 (zMix (xAsk s ((0 ≤ a ∧ a < s 0 0 0) ∧ 0 ≤ b ∧ b < 600) (s 21 (a.toNat + 4) b.toNat)).2.2 T9) (q9, c9)) rfl rfl rfl ⟨by decide, by decide⟩ ⟨show cl0 + 2 + 0 + 0 ≤ 601024 by omega, show sl0 + 12 + 0 + 0 ≤ 7293034 by omega⟩ (Nat.le_of_ble_eq_true rfl) dL_law_1356 z_nx (z_ki (fun x_3 M_3 h_3 => ?_))
  have hx9 := (h_3).1.symm
  have hm9 := (h_3).2.symm
  subst hx9
  subst hm9
  have hX1 := hbT 25 0 0
  rw [h25] at hX1
  refine z_ti (y := (xAsk s ((0 ≤ a ∧ a < s 0 0 0) ∧ 0 ≤ b ∧ b < 600) (s 21 (a.toNat + 4) b.toNat)).1) h25 ?_
  refine z_iload F 1 dL_law_1359 rfl ?_
  refine z_icmp_eq F 1366 dL_law_1361 (by decide) (by omega) (by omega) (fun c_4 => ?_) (fun c_4 => ?_)
  · skip
    refine z_iload F 1 dL_law_1366 rfl ?_
    refine z_if_ne F 1383 dL_law_1368 (by decide) (by omega) (fun c_5 => ?_) (fun c_5 => ?_)
    · skip
      refine z_goto F 1795 dL_law_1383 (by decide) ?_
      refine z_lv [(0, .ref 127), (1, .ref 0), (2, .ref 16), (3, .ref 33), (4, .int (zI i))] [2, 3, 4, 5, 6] rfl ?_
      refine z_wd (cl0 + 22) (sl0 + 1240) (show cl0 + 2 + 0 + 0 ≤ cl0 + 22 by omega) (show sl0 + 12 + 0 + 0 ≤ sl0 + 1240 by omega) ?_
      exact hnext _ _ _ hK hbT hk9
    · skip
      have hz0 : (xAsk s ((0 ≤ a ∧ a < s 0 0 0) ∧ 0 ≤ b ∧ b < 600) (s 21 (a.toNat + 4) b.toNat)).1 = 0 := c_5
      have hvv := hvT hz0
      refine z_aload_n F 5 dL_law_1371 rfl rfl ?_
      refine z_iconst (z := 0) F dL_law_1372 (by decide) ?_
      refine z_lald F (zAll_33 (xAsk s ((0 ≤ a ∧ a < s 0 0 0) ∧ 0 ≤ b ∧ b < 600) (s 21 (a.toNat + 4) b.toNat)).2.2 (zMix (xAsk s ((0 ≤ a ∧ a < s 0 0 0) ∧ 0 ≤ b ∧ b < 600) (s 21 (a.toNat + 4) b.toNat)).2.2 T9) (q9, c9)) (by decide) (by decide) (by decide) dL_law_1373 ?_
      refine z_iload F 0 dL_law_1374 rfl ?_
      refine z_i2l F (by rw [hvv]; exact (hv9 hz0).2) dL_law_1376 ?_
      refine z_lcmpE F ((hv9 hz0).1.trans hvv.symm) dL_law_1377 ?_
      refine z_if_eq F 1383 dL_law_1378 (by decide) ⟨by decide, by decide⟩ (fun c_6 => ?_) (fun c_6 => ?_)
      · skip
        refine z_goto F 1795 dL_law_1383 (by decide) ?_
        refine z_lv [(0, .ref 127), (1, .ref 0), (2, .ref 16), (3, .ref 33), (4, .int (zI i))] [2, 3, 4, 5, 6] rfl ?_
        refine z_wd (cl0 + 22) (sl0 + 1240) (show cl0 + 2 + 0 + 0 ≤ cl0 + 22 by omega) (show sl0 + 12 + 0 + 0 ≤ sl0 + 1240 by omega) ?_
        exact hnext _ _ _ hK hbT hk9
      · skip
        exact absurd rfl c_6
  · skip
    exact absurd rfl c_4
set_option maxRecDepth 100000 in
set_option maxHeartbeats 4000000 in
theorem law_case_21 {k : zC} {G : zG} {n : Nat} {xs : Nat → Int32} {Q : State → Prop} {tb : List ExceptionTableEntry} (F : zF k G cL_law 7 RL wsL_law (some .boolean) tb) (hX : zSX k G n xs) {s u : zS} {o : zOx} {i : Int} {cl0 sl0 : Nat} (hI : zInv s) (hu : zB u) (hob : ∀ m, o.2 m = 0 ∨ o.2 m = 1) (h3 : ∀ j, s 3 j 0 ≤ 600) (h18 : s 18 0 0 < 1000) (hi0 : 0 ≤ i) (hi1 : i + 3 < n) (hcl : cl0 + 22 ≤ 601024) (hsl : sl0 + 1240 ≤ 7293034) {a : Int} (ea : (xs (i + 1).toNat).toInt = a) {b : Int} (eb : (xs (i + 2).toNat).toInt = b) (hnext : ∀ (s2 T2 : zS) (o2 : zOx), zK s s2 → zB T2 → (∀ m, o2.2 m = 0 ∨ o2.2 m = 1) → zJ k G room_1 7 Q (zAll s2 (zMix s2 T2) o2) (cl0 + 22) (sl0 + 1240) 1795 [(0, .ref 127), (1, .ref 0), (2, .ref 16), (3, .ref 33), (4, .int (zI i))] []) : zJ k G room_1 7 Q (zAll s (zMix s u) o) cl0 sl0 1386 [(0, .ref 127), (1, .ref 0), (2, .ref 16), (3, .ref 33), (4, .int (zI i))] [] := by
  have ha : zR a := ea ▸ zI_r _
  have hb : zR b := eb ▸ zI_r _
  have hK := xAsk_k hI h3 ((0 ≤ a ∧ a < 4) ∧ 0 ≤ b ∧ b < 600) (s 21 a.toNat b.toNat)
  refine z_aload_n F 1 dL_law_1386 rfl rfl ?_
  refine z_aload_n F 0 dL_law_1387 rfl rfl ?_
  refine z_iload F 4 dL_law_1388 rfl ?_
  refine z_iconst (z := 1) F dL_law_1390 (by decide) ?_
  refine z_iadd F dL_law_1391 ?_
  refine z_sld F hX (by omega) (by omega) dL_law_1392 ?_
  refine z_ti (y := a) ea ?_
  refine z_aload_n F 0 dL_law_1393 rfl rfl ?_
  refine z_iload F 4 dL_law_1394 rfl ?_
  refine z_iconst (z := 2) F dL_law_1396 (by decide) ?_
  refine z_iadd F dL_law_1397 ?_
  refine z_sld F hX (by omega) (by omega) dL_law_1398 ?_
  refine z_ti (y := b) eb ?_
  refine z_aload_n F 3 dL_law_1399 rfl rfl ?_
  refine z_callSH F [.ref 0, .int (zI a), .int (zI b), .ref 33] [] (c_L_chairAt F.2.2.1 G (s := s) (t := zMix s u) (o := o) hI.c hI.b hI hob ha hb) csh_L_173 rfl ⟨by decide, by decide⟩ ⟨show cl0 + 1 ≤ 601024 by omega, show sl0 + 6 ≤ 7293034 by omega⟩ (Nat.le_of_ble_eq_true rfl) dL_law_1400 z_nx (z_ki (fun x_1 M_1 h_1 => ?_))
  obtain ⟨hx9, q9, c9, hm9, hk9, hv9⟩ := h_1
  subst hx9
  subst hm9
  refine z_istore F [(5, .int (zI ((xAsk s ((0 ≤ a ∧ a < 4) ∧ 0 ≤ b ∧ b < 600) (s 21 a.toNat b.toNat)).1))), (0, .ref 127), (1, .ref 0), (2, .ref 16), (3, .ref 33), (4, .int (zI i))] dL_law_1403 (by decide) rfl ?_
  refine z_aload_n F 3 dL_law_1405 rfl rfl ?_
  refine z_aload_n F 1 dL_law_1406 rfl rfl ?_
  refine z_iload F 5 dL_law_1407 rfl ?_
  refine z_iconst (z := 1) F dL_law_1409 (by decide) ?_
  refine z_iadd F dL_law_1410 ?_
  refine z_sld F hX (by omega) (by omega) dL_law_1411 ?_
  refine z_ti (y := a) ea ?_
  refine z_aload_n F 1 dL_law_1412 rfl rfl ?_
  refine z_iload F 5 dL_law_1413 rfl ?_
  refine z_iconst (z := 2) F dL_law_1415 (by decide) ?_
  refine z_iadd F dL_law_1416 ?_
  refine z_sld F hX (by omega) (by omega) dL_law_1417 ?_
  refine z_ti (y := b) eb ?_
  refine z_callV F [.int (zI a), .int (zI b)] [] (q_chairAt F.2.2.1 G (s := (xAsk s ((0 ≤ a ∧ a < 4) ∧ 0 ≤ b ∧ b < 600) (s 21 a.toNat b.toNat)).2.2) (t := zMix s u) (c := s) (o := (q9, c9)) (zMix_c hI.c) (zMix_b hI.b hu) hI (zMix_r s u) h3 ha hb) cv_L_175 (zAll_16 (xAsk s ((0 ≤ a ∧ a < 4) ∧ 0 ≤ b ∧ b < 600) (s 21 a.toNat b.toNat)).2.2 (zMix s u) (q9, c9)) rfl rfl rfl ⟨by decide, by decide⟩ ⟨show cl0 + 1 + 0 ≤ 601024 by omega, show sl0 + 6 + 0 ≤ 7293034 by omega⟩ (Nat.le_of_ble_eq_true rfl) dL_law_1418 z_nx (z_ki (fun x_2 M_2 h_2 => ?_))
  obtain ⟨T9, hmT, hbT, hrT, h25, hvT⟩ := h_2
  subst hmT
  refine z_M (M' := (zAll (xAsk s ((0 ≤ a ∧ a < 4) ∧ 0 ≤ b ∧ b < 600) (s 21 a.toNat b.toNat)).2.2 (zMix (xAsk s ((0 ≤ a ∧ a < 4) ∧ 0 ≤ b ∧ b < 600) (s 21 a.toNat b.toNat)).2.2 T9) (q9, c9))) (zAll_mix hrT) ?_
  refine z_istore F [(6, .int (zI x_2)), (5, .int (zI ((xAsk s ((0 ≤ a ∧ a < 4) ∧ 0 ≤ b ∧ b < 600) (s 21 a.toNat b.toNat)).1))), (0, .ref 127), (1, .ref 0), (2, .ref 16), (3, .ref 33), (4, .int (zI i))] dL_law_1421 (by decide) rfl ?_
  refine z_aload_n F 4 dL_law_1423 rfl rfl ?_
  refine z_callV F [] [] (c_X7_thrown F.2.2.1 G (s := (xAsk s ((0 ≤ a ∧ a < 4) ∧ 0 ≤ b ∧ b < 600) (s 21 a.toNat b.toNat)).2.2) (t := zMix (xAsk s ((0 ≤ a ∧ a < 4) ∧ 0 ≤ b ∧ b < 600) (s 21 a.toNat b.toNat)).2.2 T9) (o := (q9, c9)) (zMix_c hK.1.c) (zMix_b hK.1.b hbT)) cv_L_105 (zAll_16 (xAsk s ((0 ≤ a ∧ a < 4) ∧ 0 ≤ b ∧ b < 600) (s 21 a.toNat b.toNat)).2.2 (zMix (xAsk s ((0 ≤ a ∧ a < 4) ∧ 0 ≤ b ∧ b < 600) (s 21 a.toNat b.toNat)).2.2 T9) (q9, c9)) rfl rfl rfl ⟨by decide, by decide⟩ ⟨show cl0 + 1 + 0 + 0 ≤ 601024 by omega, show sl0 + 6 + 0 + 0 ≤ 7293034 by omega⟩ (Nat.le_of_ble_eq_true rfl) dL_law_1424 z_nx (z_ki (fun x_3 M_3 h_3 => ?_))
  have hx9 := (h_3).1.symm
  have hm9 := (h_3).2.symm
  subst hx9
  subst hm9
  have hX1 := hbT 25 0 0
  rw [h25] at hX1
  refine z_ti (y := (xAsk s ((0 ≤ a ∧ a < 4) ∧ 0 ≤ b ∧ b < 600) (s 21 a.toNat b.toNat)).1) h25 ?_
  refine z_iload F 1 dL_law_1427 rfl ?_
  refine z_icmp_eq F 1434 dL_law_1429 (by decide) (by omega) (by omega) (fun c_4 => ?_) (fun c_4 => ?_)
  · skip
    refine z_iload F 1 dL_law_1434 rfl ?_
    refine z_if_ne F 1451 dL_law_1436 (by decide) (by omega) (fun c_5 => ?_) (fun c_5 => ?_)
    · skip
      refine z_goto F 1795 dL_law_1451 (by decide) ?_
      refine z_lv [(0, .ref 127), (1, .ref 0), (2, .ref 16), (3, .ref 33), (4, .int (zI i))] [2, 3, 4, 5, 6] rfl ?_
      refine z_wd (cl0 + 22) (sl0 + 1240) (show cl0 + 1 + 0 + 0 ≤ cl0 + 22 by omega) (show sl0 + 6 + 0 + 0 ≤ sl0 + 1240 by omega) ?_
      exact hnext _ _ _ hK hbT hk9
    · skip
      have hz0 : (xAsk s ((0 ≤ a ∧ a < 4) ∧ 0 ≤ b ∧ b < 600) (s 21 a.toNat b.toNat)).1 = 0 := c_5
      have hvv := hvT hz0
      refine z_aload_n F 5 dL_law_1439 rfl rfl ?_
      refine z_iconst (z := 0) F dL_law_1440 (by decide) ?_
      refine z_lald F (zAll_33 (xAsk s ((0 ≤ a ∧ a < 4) ∧ 0 ≤ b ∧ b < 600) (s 21 a.toNat b.toNat)).2.2 (zMix (xAsk s ((0 ≤ a ∧ a < 4) ∧ 0 ≤ b ∧ b < 600) (s 21 a.toNat b.toNat)).2.2 T9) (q9, c9)) (by decide) (by decide) (by decide) dL_law_1441 ?_
      refine z_iload F 0 dL_law_1442 rfl ?_
      refine z_i2l F (by rw [hvv]; exact (hv9 hz0).2) dL_law_1444 ?_
      refine z_lcmpE F ((hv9 hz0).1.trans hvv.symm) dL_law_1445 ?_
      refine z_if_eq F 1451 dL_law_1446 (by decide) ⟨by decide, by decide⟩ (fun c_6 => ?_) (fun c_6 => ?_)
      · skip
        refine z_goto F 1795 dL_law_1451 (by decide) ?_
        refine z_lv [(0, .ref 127), (1, .ref 0), (2, .ref 16), (3, .ref 33), (4, .int (zI i))] [2, 3, 4, 5, 6] rfl ?_
        refine z_wd (cl0 + 22) (sl0 + 1240) (show cl0 + 1 + 0 + 0 ≤ cl0 + 22 by omega) (show sl0 + 6 + 0 + 0 ≤ sl0 + 1240 by omega) ?_
        exact hnext _ _ _ hK hbT hk9
      · skip
        exact absurd rfl c_6
  · skip
    exact absurd rfl c_4
set_option maxRecDepth 100000 in
set_option maxHeartbeats 4000000 in
theorem law_case_22 {k : zC} {G : zG} {n : Nat} {xs : Nat → Int32} {Q : State → Prop} {tb : List ExceptionTableEntry} (F : zF k G cL_law 7 RL wsL_law (some .boolean) tb) (hX : zSX k G n xs) {s u : zS} {o : zOx} {i : Int} {cl0 sl0 : Nat} (hI : zInv s) (hu : zB u) (hob : ∀ m, o.2 m = 0 ∨ o.2 m = 1) (h3 : ∀ j, s 3 j 0 ≤ 600) (h18 : s 18 0 0 < 1000) (hi0 : 0 ≤ i) (hi1 : i + 3 < n) (hcl : cl0 + 22 ≤ 601024) (hsl : sl0 + 1240 ≤ 7293034) {a : Int} (ea : (xs (i + 1).toNat).toInt = a) {b : Int} (eb : (xs (i + 2).toNat).toInt = b) (hnext : ∀ (s2 T2 : zS) (o2 : zOx), zK s s2 → zB T2 → (∀ m, o2.2 m = 0 ∨ o2.2 m = 1) → zJ k G room_1 7 Q (zAll s2 (zMix s2 T2) o2) (cl0 + 22) (sl0 + 1240) 1795 [(0, .ref 127), (1, .ref 0), (2, .ref 16), (3, .ref 33), (4, .int (zI i))] []) : zJ k G room_1 7 Q (zAll s (zMix s u) o) cl0 sl0 1454 [(0, .ref 127), (1, .ref 0), (2, .ref 16), (3, .ref 33), (4, .int (zI i))] [] := by
  have ha : zR a := ea ▸ zI_r _
  have hb : zR b := eb ▸ zI_r _
  have hK := xAsk_k hI h3 ((0 ≤ a ∧ a < s 4 0 0) ∧ 0 ≤ b ∧ b < 600) (zFind s (zBit 31) a.toNat b 600)
  refine z_aload_n F 1 dL_law_1454 rfl rfl ?_
  refine z_aload_n F 0 dL_law_1455 rfl rfl ?_
  refine z_iload F 4 dL_law_1456 rfl ?_
  refine z_iconst (z := 1) F dL_law_1458 (by decide) ?_
  refine z_iadd F dL_law_1459 ?_
  refine z_sld F hX (by omega) (by omega) dL_law_1460 ?_
  refine z_ti (y := a) ea ?_
  refine z_aload_n F 0 dL_law_1461 rfl rfl ?_
  refine z_iload F 4 dL_law_1462 rfl ?_
  refine z_iconst (z := 2) F dL_law_1464 (by decide) ?_
  refine z_iadd F dL_law_1465 ?_
  refine z_sld F hX (by omega) (by omega) dL_law_1466 ?_
  refine z_ti (y := b) eb ?_
  refine z_aload_n F 3 dL_law_1467 rfl rfl ?_
  refine z_callSH F [.ref 0, .int (zI a), .int (zI b), .ref 33] [] (c_L_earliest F.2.2.1 G (s := s) (t := zMix s u) (o := o) hI.c hI.b hI hob ha hb) csh_L_176 rfl ⟨by decide, by decide⟩ ⟨show cl0 + 2 ≤ 601024 by omega, show sl0 + 12 ≤ 7293034 by omega⟩ (Nat.le_of_ble_eq_true rfl) dL_law_1468 z_nx (z_ki (fun x_1 M_1 h_1 => ?_))
  obtain ⟨hx9, q9, c9, hm9, hk9, hv9⟩ := h_1
  subst hx9
  subst hm9
  refine z_istore F [(5, .int (zI ((xAsk s ((0 ≤ a ∧ a < s 4 0 0) ∧ 0 ≤ b ∧ b < 600) (zFind s (zBit 31) a.toNat b 600)).1))), (0, .ref 127), (1, .ref 0), (2, .ref 16), (3, .ref 33), (4, .int (zI i))] dL_law_1471 (by decide) rfl ?_
  refine z_aload_n F 3 dL_law_1473 rfl rfl ?_
  refine z_aload_n F 1 dL_law_1474 rfl rfl ?_
  refine z_iload F 5 dL_law_1475 rfl ?_
  refine z_iconst (z := 1) F dL_law_1477 (by decide) ?_
  refine z_iadd F dL_law_1478 ?_
  refine z_sld F hX (by omega) (by omega) dL_law_1479 ?_
  refine z_ti (y := a) ea ?_
  refine z_aload_n F 1 dL_law_1480 rfl rfl ?_
  refine z_iload F 5 dL_law_1481 rfl ?_
  refine z_iconst (z := 2) F dL_law_1483 (by decide) ?_
  refine z_iadd F dL_law_1484 ?_
  refine z_sld F hX (by omega) (by omega) dL_law_1485 ?_
  refine z_ti (y := b) eb ?_
  refine z_callV F [.int (zI a), .int (zI b)] [] (q_earliest F.2.2.1 G (s := (xAsk s ((0 ≤ a ∧ a < s 4 0 0) ∧ 0 ≤ b ∧ b < 600) (zFind s (zBit 31) a.toNat b 600)).2.2) (t := zMix s u) (c := s) (o := (q9, c9)) (zMix_c hI.c) (zMix_b hI.b hu) hI (zMix_r s u) h3 ha hb) cv_L_178 (zAll_16 (xAsk s ((0 ≤ a ∧ a < s 4 0 0) ∧ 0 ≤ b ∧ b < 600) (zFind s (zBit 31) a.toNat b 600)).2.2 (zMix s u) (q9, c9)) rfl rfl rfl ⟨by decide, by decide⟩ ⟨show cl0 + 2 + 0 ≤ 601024 by omega, show sl0 + 12 + 0 ≤ 7293034 by omega⟩ (Nat.le_of_ble_eq_true rfl) dL_law_1486 z_nx (z_ki (fun x_2 M_2 h_2 => ?_))
  obtain ⟨T9, hmT, hbT, hrT, h25, hvT⟩ := h_2
  subst hmT
  refine z_M (M' := (zAll (xAsk s ((0 ≤ a ∧ a < s 4 0 0) ∧ 0 ≤ b ∧ b < 600) (zFind s (zBit 31) a.toNat b 600)).2.2 (zMix (xAsk s ((0 ≤ a ∧ a < s 4 0 0) ∧ 0 ≤ b ∧ b < 600) (zFind s (zBit 31) a.toNat b 600)).2.2 T9) (q9, c9))) (zAll_mix hrT) ?_
  refine z_istore F [(6, .int (zI x_2)), (5, .int (zI ((xAsk s ((0 ≤ a ∧ a < s 4 0 0) ∧ 0 ≤ b ∧ b < 600) (zFind s (zBit 31) a.toNat b 600)).1))), (0, .ref 127), (1, .ref 0), (2, .ref 16), (3, .ref 33), (4, .int (zI i))] dL_law_1489 (by decide) rfl ?_
  refine z_aload_n F 4 dL_law_1491 rfl rfl ?_
  refine z_callV F [] [] (c_X7_thrown F.2.2.1 G (s := (xAsk s ((0 ≤ a ∧ a < s 4 0 0) ∧ 0 ≤ b ∧ b < 600) (zFind s (zBit 31) a.toNat b 600)).2.2) (t := zMix (xAsk s ((0 ≤ a ∧ a < s 4 0 0) ∧ 0 ≤ b ∧ b < 600) (zFind s (zBit 31) a.toNat b 600)).2.2 T9) (o := (q9, c9)) (zMix_c hK.1.c) (zMix_b hK.1.b hbT)) cv_L_105 (zAll_16 (xAsk s ((0 ≤ a ∧ a < s 4 0 0) ∧ 0 ≤ b ∧ b < 600) (zFind s (zBit 31) a.toNat b 600)).2.2 (zMix (xAsk s ((0 ≤ a ∧ a < s 4 0 0) ∧ 0 ≤ b ∧ b < 600) (zFind s (zBit 31) a.toNat b 600)).2.2 T9) (q9, c9)) rfl rfl rfl ⟨by decide, by decide⟩ ⟨show cl0 + 2 + 0 + 0 ≤ 601024 by omega, show sl0 + 12 + 0 + 0 ≤ 7293034 by omega⟩ (Nat.le_of_ble_eq_true rfl) dL_law_1492 z_nx (z_ki (fun x_3 M_3 h_3 => ?_))
  have hx9 := (h_3).1.symm
  have hm9 := (h_3).2.symm
  subst hx9
  subst hm9
  have hX1 := hbT 25 0 0
  rw [h25] at hX1
  refine z_ti (y := (xAsk s ((0 ≤ a ∧ a < s 4 0 0) ∧ 0 ≤ b ∧ b < 600) (zFind s (zBit 31) a.toNat b 600)).1) h25 ?_
  refine z_iload F 1 dL_law_1495 rfl ?_
  refine z_icmp_eq F 1502 dL_law_1497 (by decide) (by omega) (by omega) (fun c_4 => ?_) (fun c_4 => ?_)
  · skip
    refine z_iload F 1 dL_law_1502 rfl ?_
    refine z_if_ne F 1519 dL_law_1504 (by decide) (by omega) (fun c_5 => ?_) (fun c_5 => ?_)
    · skip
      refine z_goto F 1795 dL_law_1519 (by decide) ?_
      refine z_lv [(0, .ref 127), (1, .ref 0), (2, .ref 16), (3, .ref 33), (4, .int (zI i))] [2, 3, 4, 5, 6] rfl ?_
      refine z_wd (cl0 + 22) (sl0 + 1240) (show cl0 + 2 + 0 + 0 ≤ cl0 + 22 by omega) (show sl0 + 12 + 0 + 0 ≤ sl0 + 1240 by omega) ?_
      exact hnext _ _ _ hK hbT hk9
    · skip
      have hz0 : (xAsk s ((0 ≤ a ∧ a < s 4 0 0) ∧ 0 ≤ b ∧ b < 600) (zFind s (zBit 31) a.toNat b 600)).1 = 0 := c_5
      have hvv := hvT hz0
      refine z_aload_n F 5 dL_law_1507 rfl rfl ?_
      refine z_iconst (z := 0) F dL_law_1508 (by decide) ?_
      refine z_lald F (zAll_33 (xAsk s ((0 ≤ a ∧ a < s 4 0 0) ∧ 0 ≤ b ∧ b < 600) (zFind s (zBit 31) a.toNat b 600)).2.2 (zMix (xAsk s ((0 ≤ a ∧ a < s 4 0 0) ∧ 0 ≤ b ∧ b < 600) (zFind s (zBit 31) a.toNat b 600)).2.2 T9) (q9, c9)) (by decide) (by decide) (by decide) dL_law_1509 ?_
      refine z_iload F 0 dL_law_1510 rfl ?_
      refine z_i2l F (by rw [hvv]; exact (hv9 hz0).2) dL_law_1512 ?_
      refine z_lcmpE F ((hv9 hz0).1.trans hvv.symm) dL_law_1513 ?_
      refine z_if_eq F 1519 dL_law_1514 (by decide) ⟨by decide, by decide⟩ (fun c_6 => ?_) (fun c_6 => ?_)
      · skip
        refine z_goto F 1795 dL_law_1519 (by decide) ?_
        refine z_lv [(0, .ref 127), (1, .ref 0), (2, .ref 16), (3, .ref 33), (4, .int (zI i))] [2, 3, 4, 5, 6] rfl ?_
        refine z_wd (cl0 + 22) (sl0 + 1240) (show cl0 + 2 + 0 + 0 ≤ cl0 + 22 by omega) (show sl0 + 12 + 0 + 0 ≤ sl0 + 1240 by omega) ?_
        exact hnext _ _ _ hK hbT hk9
      · skip
        exact absurd rfl c_6
  · skip
    exact absurd rfl c_4
set_option maxRecDepth 100000 in
set_option maxHeartbeats 4000000 in
theorem law_case_23 {k : zC} {G : zG} {n : Nat} {xs : Nat → Int32} {Q : State → Prop} {tb : List ExceptionTableEntry} (F : zF k G cL_law 7 RL wsL_law (some .boolean) tb) (hX : zSX k G n xs) {s u : zS} {o : zOx} {i : Int} {cl0 sl0 : Nat} (hI : zInv s) (hu : zB u) (hob : ∀ m, o.2 m = 0 ∨ o.2 m = 1) (h3 : ∀ j, s 3 j 0 ≤ 600) (h18 : s 18 0 0 < 1000) (hi0 : 0 ≤ i) (hi1 : i + 3 < n) (hcl : cl0 + 22 ≤ 601024) (hsl : sl0 + 1240 ≤ 7293034) {a : Int} (ea : (xs (i + 1).toNat).toInt = a) {b : Int} (eb : (xs (i + 2).toNat).toInt = b) (hnext : ∀ (s2 T2 : zS) (o2 : zOx), zK s s2 → zB T2 → (∀ m, o2.2 m = 0 ∨ o2.2 m = 1) → zJ k G room_1 7 Q (zAll s2 (zMix s2 T2) o2) (cl0 + 22) (sl0 + 1240) 1795 [(0, .ref 127), (1, .ref 0), (2, .ref 16), (3, .ref 33), (4, .int (zI i))] []) : zJ k G room_1 7 Q (zAll s (zMix s u) o) cl0 sl0 1522 [(0, .ref 127), (1, .ref 0), (2, .ref 16), (3, .ref 33), (4, .int (zI i))] [] := by
  have ha : zR a := ea ▸ zI_r _
  have hb : zR b := eb ▸ zI_r _
  have hK := xAsk_k hI h3 ((0 ≤ a ∧ a < s 4 0 0) ∧ 0 ≤ b ∧ b < 600) (zFind s (zBit 31) a.toNat b 600)
  refine z_aload_n F 1 dL_law_1522 rfl rfl ?_
  refine z_aload_n F 0 dL_law_1523 rfl rfl ?_
  refine z_iload F 4 dL_law_1524 rfl ?_
  refine z_iconst (z := 1) F dL_law_1526 (by decide) ?_
  refine z_iadd F dL_law_1527 ?_
  refine z_sld F hX (by omega) (by omega) dL_law_1528 ?_
  refine z_ti (y := a) ea ?_
  refine z_aload_n F 0 dL_law_1529 rfl rfl ?_
  refine z_iload F 4 dL_law_1530 rfl ?_
  refine z_iconst (z := 2) F dL_law_1532 (by decide) ?_
  refine z_iadd F dL_law_1533 ?_
  refine z_sld F hX (by omega) (by omega) dL_law_1534 ?_
  refine z_ti (y := b) eb ?_
  refine z_aload_n F 3 dL_law_1535 rfl rfl ?_
  refine z_callSH F [.ref 0, .int (zI a), .int (zI b), .ref 33] [] (c_L_earliestByScan F.2.2.1 G (s := s) (t := zMix s u) (o := o) hI.c hI.b hI hob ha hb) csh_L_179 rfl ⟨by decide, by decide⟩ ⟨show cl0 + 2 ≤ 601024 by omega, show sl0 + 12 ≤ 7293034 by omega⟩ (Nat.le_of_ble_eq_true rfl) dL_law_1536 z_nx (z_ki (fun x_1 M_1 h_1 => ?_))
  obtain ⟨hx9, q9, c9, hm9, hk9, hv9⟩ := h_1
  subst hx9
  subst hm9
  refine z_istore F [(5, .int (zI ((xAsk s ((0 ≤ a ∧ a < s 4 0 0) ∧ 0 ≤ b ∧ b < 600) (zFind s (zBit 31) a.toNat b 600)).1))), (0, .ref 127), (1, .ref 0), (2, .ref 16), (3, .ref 33), (4, .int (zI i))] dL_law_1539 (by decide) rfl ?_
  refine z_aload_n F 3 dL_law_1541 rfl rfl ?_
  refine z_aload_n F 1 dL_law_1542 rfl rfl ?_
  refine z_iload F 5 dL_law_1543 rfl ?_
  refine z_iconst (z := 1) F dL_law_1545 (by decide) ?_
  refine z_iadd F dL_law_1546 ?_
  refine z_sld F hX (by omega) (by omega) dL_law_1547 ?_
  refine z_ti (y := a) ea ?_
  refine z_aload_n F 1 dL_law_1548 rfl rfl ?_
  refine z_iload F 5 dL_law_1549 rfl ?_
  refine z_iconst (z := 2) F dL_law_1551 (by decide) ?_
  refine z_iadd F dL_law_1552 ?_
  refine z_sld F hX (by omega) (by omega) dL_law_1553 ?_
  refine z_ti (y := b) eb ?_
  refine z_callV F [.int (zI a), .int (zI b)] [] (q_earliestByScan F.2.2.1 G (s := (xAsk s ((0 ≤ a ∧ a < s 4 0 0) ∧ 0 ≤ b ∧ b < 600) (zFind s (zBit 31) a.toNat b 600)).2.2) (t := zMix s u) (c := s) (o := (q9, c9)) (zMix_c hI.c) (zMix_b hI.b hu) hI (zMix_r s u) h3 ha hb) cv_L_181 (zAll_16 (xAsk s ((0 ≤ a ∧ a < s 4 0 0) ∧ 0 ≤ b ∧ b < 600) (zFind s (zBit 31) a.toNat b 600)).2.2 (zMix s u) (q9, c9)) rfl rfl rfl ⟨by decide, by decide⟩ ⟨show cl0 + 2 + 0 ≤ 601024 by omega, show sl0 + 12 + 0 ≤ 7293034 by omega⟩ (Nat.le_of_ble_eq_true rfl) dL_law_1554 z_nx (z_ki (fun x_2 M_2 h_2 => ?_))
  obtain ⟨T9, hmT, hbT, hrT, h25, hvT⟩ := h_2
  subst hmT
  refine z_M (M' := (zAll (xAsk s ((0 ≤ a ∧ a < s 4 0 0) ∧ 0 ≤ b ∧ b < 600) (zFind s (zBit 31) a.toNat b 600)).2.2 (zMix (xAsk s ((0 ≤ a ∧ a < s 4 0 0) ∧ 0 ≤ b ∧ b < 600) (zFind s (zBit 31) a.toNat b 600)).2.2 T9) (q9, c9))) (zAll_mix hrT) ?_
  refine z_istore F [(6, .int (zI x_2)), (5, .int (zI ((xAsk s ((0 ≤ a ∧ a < s 4 0 0) ∧ 0 ≤ b ∧ b < 600) (zFind s (zBit 31) a.toNat b 600)).1))), (0, .ref 127), (1, .ref 0), (2, .ref 16), (3, .ref 33), (4, .int (zI i))] dL_law_1557 (by decide) rfl ?_
  refine z_aload_n F 4 dL_law_1559 rfl rfl ?_
  refine z_callV F [] [] (c_X7_thrown F.2.2.1 G (s := (xAsk s ((0 ≤ a ∧ a < s 4 0 0) ∧ 0 ≤ b ∧ b < 600) (zFind s (zBit 31) a.toNat b 600)).2.2) (t := zMix (xAsk s ((0 ≤ a ∧ a < s 4 0 0) ∧ 0 ≤ b ∧ b < 600) (zFind s (zBit 31) a.toNat b 600)).2.2 T9) (o := (q9, c9)) (zMix_c hK.1.c) (zMix_b hK.1.b hbT)) cv_L_105 (zAll_16 (xAsk s ((0 ≤ a ∧ a < s 4 0 0) ∧ 0 ≤ b ∧ b < 600) (zFind s (zBit 31) a.toNat b 600)).2.2 (zMix (xAsk s ((0 ≤ a ∧ a < s 4 0 0) ∧ 0 ≤ b ∧ b < 600) (zFind s (zBit 31) a.toNat b 600)).2.2 T9) (q9, c9)) rfl rfl rfl ⟨by decide, by decide⟩ ⟨show cl0 + 2 + 0 + 0 ≤ 601024 by omega, show sl0 + 12 + 0 + 0 ≤ 7293034 by omega⟩ (Nat.le_of_ble_eq_true rfl) dL_law_1560 z_nx (z_ki (fun x_3 M_3 h_3 => ?_))
  have hx9 := (h_3).1.symm
  have hm9 := (h_3).2.symm
  subst hx9
  subst hm9
  have hX1 := hbT 25 0 0
  rw [h25] at hX1
  refine z_ti (y := (xAsk s ((0 ≤ a ∧ a < s 4 0 0) ∧ 0 ≤ b ∧ b < 600) (zFind s (zBit 31) a.toNat b 600)).1) h25 ?_
  refine z_iload F 1 dL_law_1563 rfl ?_
  refine z_icmp_eq F 1570 dL_law_1565 (by decide) (by omega) (by omega) (fun c_4 => ?_) (fun c_4 => ?_)
  · skip
    refine z_iload F 1 dL_law_1570 rfl ?_
    refine z_if_ne F 1587 dL_law_1572 (by decide) (by omega) (fun c_5 => ?_) (fun c_5 => ?_)
    · skip
      refine z_goto F 1795 dL_law_1587 (by decide) ?_
      refine z_lv [(0, .ref 127), (1, .ref 0), (2, .ref 16), (3, .ref 33), (4, .int (zI i))] [2, 3, 4, 5, 6] rfl ?_
      refine z_wd (cl0 + 22) (sl0 + 1240) (show cl0 + 2 + 0 + 0 ≤ cl0 + 22 by omega) (show sl0 + 12 + 0 + 0 ≤ sl0 + 1240 by omega) ?_
      exact hnext _ _ _ hK hbT hk9
    · skip
      have hz0 : (xAsk s ((0 ≤ a ∧ a < s 4 0 0) ∧ 0 ≤ b ∧ b < 600) (zFind s (zBit 31) a.toNat b 600)).1 = 0 := c_5
      have hvv := hvT hz0
      refine z_aload_n F 5 dL_law_1575 rfl rfl ?_
      refine z_iconst (z := 0) F dL_law_1576 (by decide) ?_
      refine z_lald F (zAll_33 (xAsk s ((0 ≤ a ∧ a < s 4 0 0) ∧ 0 ≤ b ∧ b < 600) (zFind s (zBit 31) a.toNat b 600)).2.2 (zMix (xAsk s ((0 ≤ a ∧ a < s 4 0 0) ∧ 0 ≤ b ∧ b < 600) (zFind s (zBit 31) a.toNat b 600)).2.2 T9) (q9, c9)) (by decide) (by decide) (by decide) dL_law_1577 ?_
      refine z_iload F 0 dL_law_1578 rfl ?_
      refine z_i2l F (by rw [hvv]; exact (hv9 hz0).2) dL_law_1580 ?_
      refine z_lcmpE F ((hv9 hz0).1.trans hvv.symm) dL_law_1581 ?_
      refine z_if_eq F 1587 dL_law_1582 (by decide) ⟨by decide, by decide⟩ (fun c_6 => ?_) (fun c_6 => ?_)
      · skip
        refine z_goto F 1795 dL_law_1587 (by decide) ?_
        refine z_lv [(0, .ref 127), (1, .ref 0), (2, .ref 16), (3, .ref 33), (4, .int (zI i))] [2, 3, 4, 5, 6] rfl ?_
        refine z_wd (cl0 + 22) (sl0 + 1240) (show cl0 + 2 + 0 + 0 ≤ cl0 + 22 by omega) (show sl0 + 12 + 0 + 0 ≤ sl0 + 1240 by omega) ?_
        exact hnext _ _ _ hK hbT hk9
      · skip
        exact absurd rfl c_6
  · skip
    exact absurd rfl c_4
set_option maxRecDepth 100000 in
set_option maxHeartbeats 4000000 in
theorem law_case_24 {k : zC} {G : zG} {n : Nat} {xs : Nat → Int32} {Q : State → Prop} {tb : List ExceptionTableEntry} (F : zF k G cL_law 7 RL wsL_law (some .boolean) tb) (hX : zSX k G n xs) {s u : zS} {o : zOx} {i : Int} {cl0 sl0 : Nat} (hI : zInv s) (hu : zB u) (hob : ∀ m, o.2 m = 0 ∨ o.2 m = 1) (h3 : ∀ j, s 3 j 0 ≤ 600) (h18 : s 18 0 0 < 1000) (hi0 : 0 ≤ i) (hi1 : i + 3 < n) (hcl : cl0 + 22 ≤ 601024) (hsl : sl0 + 1240 ≤ 7293034) {a : Int} (ea : (xs (i + 1).toNat).toInt = a) {b : Int} (eb : (xs (i + 2).toNat).toInt = b) (hnext : ∀ (s2 T2 : zS) (o2 : zOx), zK s s2 → zB T2 → (∀ m, o2.2 m = 0 ∨ o2.2 m = 1) → zJ k G room_1 7 Q (zAll s2 (zMix s2 T2) o2) (cl0 + 22) (sl0 + 1240) 1795 [(0, .ref 127), (1, .ref 0), (2, .ref 16), (3, .ref 33), (4, .int (zI i))] []) : zJ k G room_1 7 Q (zAll s (zMix s u) o) cl0 sl0 1590 [(0, .ref 127), (1, .ref 0), (2, .ref 16), (3, .ref 33), (4, .int (zI i))] [] := by
  have ha : zR a := ea ▸ zI_r _
  have hb : zR b := eb ▸ zI_r _
  have hK := xAsk_k hI h3 ((0 ≤ a ∧ a < s 4 0 0) ∧ 0 ≤ b ∧ b < 600) ((if zFind s (zBit 31) a.toNat b 600 = -1 then -1 else zGet s (zBit 31) a.toNat (zFind s (zBit 31) a.toNat b 600)))
  refine z_aload_n F 1 dL_law_1590 rfl rfl ?_
  refine z_aload_n F 0 dL_law_1591 rfl rfl ?_
  refine z_iload F 4 dL_law_1592 rfl ?_
  refine z_iconst (z := 1) F dL_law_1594 (by decide) ?_
  refine z_iadd F dL_law_1595 ?_
  refine z_sld F hX (by omega) (by omega) dL_law_1596 ?_
  refine z_ti (y := a) ea ?_
  refine z_aload_n F 0 dL_law_1597 rfl rfl ?_
  refine z_iload F 4 dL_law_1598 rfl ?_
  refine z_iconst (z := 2) F dL_law_1600 (by decide) ?_
  refine z_iadd F dL_law_1601 ?_
  refine z_sld F hX (by omega) (by omega) dL_law_1602 ?_
  refine z_ti (y := b) eb ?_
  refine z_aload_n F 3 dL_law_1603 rfl rfl ?_
  refine z_callSH F [.ref 0, .int (zI a), .int (zI b), .ref 33] [] (c_L_staffFor F.2.2.1 G (s := s) (t := zMix s u) (o := o) hI.c hI.b hI hob ha hb) csh_L_182 rfl ⟨by decide, by decide⟩ ⟨show cl0 + 2 ≤ 601024 by omega, show sl0 + 12 ≤ 7293034 by omega⟩ (Nat.le_of_ble_eq_true rfl) dL_law_1604 z_nx (z_ki (fun x_1 M_1 h_1 => ?_))
  obtain ⟨hx9, q9, c9, hm9, hk9, hv9⟩ := h_1
  subst hx9
  subst hm9
  refine z_istore F [(5, .int (zI ((xAsk s ((0 ≤ a ∧ a < s 4 0 0) ∧ 0 ≤ b ∧ b < 600) ((if zFind s (zBit 31) a.toNat b 600 = -1 then -1 else zGet s (zBit 31) a.toNat (zFind s (zBit 31) a.toNat b 600)))).1))), (0, .ref 127), (1, .ref 0), (2, .ref 16), (3, .ref 33), (4, .int (zI i))] dL_law_1607 (by decide) rfl ?_
  refine z_aload_n F 3 dL_law_1609 rfl rfl ?_
  refine z_aload_n F 1 dL_law_1610 rfl rfl ?_
  refine z_iload F 5 dL_law_1611 rfl ?_
  refine z_iconst (z := 1) F dL_law_1613 (by decide) ?_
  refine z_iadd F dL_law_1614 ?_
  refine z_sld F hX (by omega) (by omega) dL_law_1615 ?_
  refine z_ti (y := a) ea ?_
  refine z_aload_n F 1 dL_law_1616 rfl rfl ?_
  refine z_iload F 5 dL_law_1617 rfl ?_
  refine z_iconst (z := 2) F dL_law_1619 (by decide) ?_
  refine z_iadd F dL_law_1620 ?_
  refine z_sld F hX (by omega) (by omega) dL_law_1621 ?_
  refine z_ti (y := b) eb ?_
  refine z_callV F [.int (zI a), .int (zI b)] [] (q_staffFor F.2.2.1 G (s := (xAsk s ((0 ≤ a ∧ a < s 4 0 0) ∧ 0 ≤ b ∧ b < 600) ((if zFind s (zBit 31) a.toNat b 600 = -1 then -1 else zGet s (zBit 31) a.toNat (zFind s (zBit 31) a.toNat b 600)))).2.2) (t := zMix s u) (c := s) (o := (q9, c9)) (zMix_c hI.c) (zMix_b hI.b hu) hI (zMix_r s u) h3 ha hb) cv_L_184 (zAll_16 (xAsk s ((0 ≤ a ∧ a < s 4 0 0) ∧ 0 ≤ b ∧ b < 600) ((if zFind s (zBit 31) a.toNat b 600 = -1 then -1 else zGet s (zBit 31) a.toNat (zFind s (zBit 31) a.toNat b 600)))).2.2 (zMix s u) (q9, c9)) rfl rfl rfl ⟨by decide, by decide⟩ ⟨show cl0 + 2 + 0 ≤ 601024 by omega, show sl0 + 12 + 0 ≤ 7293034 by omega⟩ (Nat.le_of_ble_eq_true rfl) dL_law_1622 z_nx (z_ki (fun x_2 M_2 h_2 => ?_))
  obtain ⟨T9, hmT, hbT, hrT, h25, hvT⟩ := h_2
  subst hmT
  refine z_M (M' := (zAll (xAsk s ((0 ≤ a ∧ a < s 4 0 0) ∧ 0 ≤ b ∧ b < 600) ((if zFind s (zBit 31) a.toNat b 600 = -1 then -1 else zGet s (zBit 31) a.toNat (zFind s (zBit 31) a.toNat b 600)))).2.2 (zMix (xAsk s ((0 ≤ a ∧ a < s 4 0 0) ∧ 0 ≤ b ∧ b < 600) ((if zFind s (zBit 31) a.toNat b 600 = -1 then -1 else zGet s (zBit 31) a.toNat (zFind s (zBit 31) a.toNat b 600)))).2.2 T9) (q9, c9))) (zAll_mix hrT) ?_
  refine z_istore F [(6, .int (zI x_2)), (5, .int (zI ((xAsk s ((0 ≤ a ∧ a < s 4 0 0) ∧ 0 ≤ b ∧ b < 600) ((if zFind s (zBit 31) a.toNat b 600 = -1 then -1 else zGet s (zBit 31) a.toNat (zFind s (zBit 31) a.toNat b 600)))).1))), (0, .ref 127), (1, .ref 0), (2, .ref 16), (3, .ref 33), (4, .int (zI i))] dL_law_1625 (by decide) rfl ?_
  refine z_aload_n F 4 dL_law_1627 rfl rfl ?_
  refine z_callV F [] [] (c_X7_thrown F.2.2.1 G (s := (xAsk s ((0 ≤ a ∧ a < s 4 0 0) ∧ 0 ≤ b ∧ b < 600) ((if zFind s (zBit 31) a.toNat b 600 = -1 then -1 else zGet s (zBit 31) a.toNat (zFind s (zBit 31) a.toNat b 600)))).2.2) (t := zMix (xAsk s ((0 ≤ a ∧ a < s 4 0 0) ∧ 0 ≤ b ∧ b < 600) ((if zFind s (zBit 31) a.toNat b 600 = -1 then -1 else zGet s (zBit 31) a.toNat (zFind s (zBit 31) a.toNat b 600)))).2.2 T9) (o := (q9, c9)) (zMix_c hK.1.c) (zMix_b hK.1.b hbT)) cv_L_105 (zAll_16 (xAsk s ((0 ≤ a ∧ a < s 4 0 0) ∧ 0 ≤ b ∧ b < 600) ((if zFind s (zBit 31) a.toNat b 600 = -1 then -1 else zGet s (zBit 31) a.toNat (zFind s (zBit 31) a.toNat b 600)))).2.2 (zMix (xAsk s ((0 ≤ a ∧ a < s 4 0 0) ∧ 0 ≤ b ∧ b < 600) ((if zFind s (zBit 31) a.toNat b 600 = -1 then -1 else zGet s (zBit 31) a.toNat (zFind s (zBit 31) a.toNat b 600)))).2.2 T9) (q9, c9)) rfl rfl rfl ⟨by decide, by decide⟩ ⟨show cl0 + 2 + 0 + 0 ≤ 601024 by omega, show sl0 + 12 + 0 + 0 ≤ 7293034 by omega⟩ (Nat.le_of_ble_eq_true rfl) dL_law_1628 z_nx (z_ki (fun x_3 M_3 h_3 => ?_))
  have hx9 := (h_3).1.symm
  have hm9 := (h_3).2.symm
  subst hx9
  subst hm9
  have hX1 := hbT 25 0 0
  rw [h25] at hX1
  refine z_ti (y := (xAsk s ((0 ≤ a ∧ a < s 4 0 0) ∧ 0 ≤ b ∧ b < 600) ((if zFind s (zBit 31) a.toNat b 600 = -1 then -1 else zGet s (zBit 31) a.toNat (zFind s (zBit 31) a.toNat b 600)))).1) h25 ?_
  refine z_iload F 1 dL_law_1631 rfl ?_
  refine z_icmp_eq F 1638 dL_law_1633 (by decide) (by omega) (by omega) (fun c_4 => ?_) (fun c_4 => ?_)
  · skip
    refine z_iload F 1 dL_law_1638 rfl ?_
    refine z_if_ne F 1655 dL_law_1640 (by decide) (by omega) (fun c_5 => ?_) (fun c_5 => ?_)
    · skip
      refine z_goto F 1795 dL_law_1655 (by decide) ?_
      refine z_lv [(0, .ref 127), (1, .ref 0), (2, .ref 16), (3, .ref 33), (4, .int (zI i))] [2, 3, 4, 5, 6] rfl ?_
      refine z_wd (cl0 + 22) (sl0 + 1240) (show cl0 + 2 + 0 + 0 ≤ cl0 + 22 by omega) (show sl0 + 12 + 0 + 0 ≤ sl0 + 1240 by omega) ?_
      exact hnext _ _ _ hK hbT hk9
    · skip
      have hz0 : (xAsk s ((0 ≤ a ∧ a < s 4 0 0) ∧ 0 ≤ b ∧ b < 600) ((if zFind s (zBit 31) a.toNat b 600 = -1 then -1 else zGet s (zBit 31) a.toNat (zFind s (zBit 31) a.toNat b 600)))).1 = 0 := c_5
      have hvv := hvT hz0
      refine z_aload_n F 5 dL_law_1643 rfl rfl ?_
      refine z_iconst (z := 0) F dL_law_1644 (by decide) ?_
      refine z_lald F (zAll_33 (xAsk s ((0 ≤ a ∧ a < s 4 0 0) ∧ 0 ≤ b ∧ b < 600) ((if zFind s (zBit 31) a.toNat b 600 = -1 then -1 else zGet s (zBit 31) a.toNat (zFind s (zBit 31) a.toNat b 600)))).2.2 (zMix (xAsk s ((0 ≤ a ∧ a < s 4 0 0) ∧ 0 ≤ b ∧ b < 600) ((if zFind s (zBit 31) a.toNat b 600 = -1 then -1 else zGet s (zBit 31) a.toNat (zFind s (zBit 31) a.toNat b 600)))).2.2 T9) (q9, c9)) (by decide) (by decide) (by decide) dL_law_1645 ?_
      refine z_iload F 0 dL_law_1646 rfl ?_
      refine z_i2l F (by rw [hvv]; exact (hv9 hz0).2) dL_law_1648 ?_
      refine z_lcmpE F ((hv9 hz0).1.trans hvv.symm) dL_law_1649 ?_
      refine z_if_eq F 1655 dL_law_1650 (by decide) ⟨by decide, by decide⟩ (fun c_6 => ?_) (fun c_6 => ?_)
      · skip
        refine z_goto F 1795 dL_law_1655 (by decide) ?_
        refine z_lv [(0, .ref 127), (1, .ref 0), (2, .ref 16), (3, .ref 33), (4, .int (zI i))] [2, 3, 4, 5, 6] rfl ?_
        refine z_wd (cl0 + 22) (sl0 + 1240) (show cl0 + 2 + 0 + 0 ≤ cl0 + 22 by omega) (show sl0 + 12 + 0 + 0 ≤ sl0 + 1240 by omega) ?_
        exact hnext _ _ _ hK hbT hk9
      · skip
        exact absurd rfl c_6
  · skip
    exact absurd rfl c_4
set_option maxRecDepth 100000 in
set_option maxHeartbeats 4000000 in
theorem law_case_25 {k : zC} {G : zG} {n : Nat} {xs : Nat → Int32} {Q : State → Prop} {tb : List ExceptionTableEntry} (F : zF k G cL_law 7 RL wsL_law (some .boolean) tb) (hX : zSX k G n xs) {s u : zS} {o : zOx} {i : Int} {cl0 sl0 : Nat} (hI : zInv s) (hu : zB u) (hob : ∀ m, o.2 m = 0 ∨ o.2 m = 1) (h3 : ∀ j, s 3 j 0 ≤ 600) (h18 : s 18 0 0 < 1000) (hi0 : 0 ≤ i) (hi1 : i + 3 < n) (hcl : cl0 + 22 ≤ 601024) (hsl : sl0 + 1240 ≤ 7293034) {a : Int} (ea : (xs (i + 1).toNat).toInt = a) {b : Int} (eb : (xs (i + 2).toNat).toInt = b) (hnext : ∀ (s2 T2 : zS) (o2 : zOx), zK s s2 → zB T2 → (∀ m, o2.2 m = 0 ∨ o2.2 m = 1) → zJ k G room_1 7 Q (zAll s2 (zMix s2 T2) o2) (cl0 + 22) (sl0 + 1240) 1795 [(0, .ref 127), (1, .ref 0), (2, .ref 16), (3, .ref 33), (4, .int (zI i))] []) : zJ k G room_1 7 Q (zAll s (zMix s u) o) cl0 sl0 1658 [(0, .ref 127), (1, .ref 0), (2, .ref 16), (3, .ref 33), (4, .int (zI i))] [] := by
  have ha : zR a := ea ▸ zI_r _
  have hb : zR b := eb ▸ zI_r _
  have hK := xAsk_k hI h3 (((0 ≤ a ∧ a < s 9 0 0) ∧ ¬ s 13 a.toNat 0 = -1) ∧ 0 ≤ b ∧ b < s 4 0 0) (zRest s a.toNat b.toNat)
  refine z_aload_n F 1 dL_law_1658 rfl rfl ?_
  refine z_aload_n F 0 dL_law_1659 rfl rfl ?_
  refine z_iload F 4 dL_law_1660 rfl ?_
  refine z_iconst (z := 1) F dL_law_1662 (by decide) ?_
  refine z_iadd F dL_law_1663 ?_
  refine z_sld F hX (by omega) (by omega) dL_law_1664 ?_
  refine z_ti (y := a) ea ?_
  refine z_aload_n F 0 dL_law_1665 rfl rfl ?_
  refine z_iload F 4 dL_law_1666 rfl ?_
  refine z_iconst (z := 2) F dL_law_1668 (by decide) ?_
  refine z_iadd F dL_law_1669 ?_
  refine z_sld F hX (by omega) (by omega) dL_law_1670 ?_
  refine z_ti (y := b) eb ?_
  refine z_aload_n F 3 dL_law_1671 rfl rfl ?_
  refine z_callSH F [.ref 0, .int (zI a), .int (zI b), .ref 33] [] (c_L_inRest F.2.2.1 G (s := s) (t := zMix s u) (o := o) hI.c hI.b hI hob ha hb) csh_L_185 rfl ⟨by decide, by decide⟩ ⟨show cl0 + 3 ≤ 601024 by omega, show sl0 + 18 ≤ 7293034 by omega⟩ (Nat.le_of_ble_eq_true rfl) dL_law_1672 z_nx (z_ki (fun x_1 M_1 h_1 => ?_))
  obtain ⟨hx9, q9, c9, hm9, hk9, hv9⟩ := h_1
  subst hx9
  subst hm9
  refine z_istore F [(5, .int (zI ((xAsk s (((0 ≤ a ∧ a < s 9 0 0) ∧ ¬ s 13 a.toNat 0 = -1) ∧ 0 ≤ b ∧ b < s 4 0 0) (zRest s a.toNat b.toNat)).1))), (0, .ref 127), (1, .ref 0), (2, .ref 16), (3, .ref 33), (4, .int (zI i))] dL_law_1675 (by decide) rfl ?_
  refine z_aload_n F 3 dL_law_1677 rfl rfl ?_
  refine z_aload_n F 1 dL_law_1678 rfl rfl ?_
  refine z_iload F 5 dL_law_1679 rfl ?_
  refine z_iconst (z := 1) F dL_law_1681 (by decide) ?_
  refine z_iadd F dL_law_1682 ?_
  refine z_sld F hX (by omega) (by omega) dL_law_1683 ?_
  refine z_ti (y := a) ea ?_
  refine z_aload_n F 1 dL_law_1684 rfl rfl ?_
  refine z_iload F 5 dL_law_1685 rfl ?_
  refine z_iconst (z := 2) F dL_law_1687 (by decide) ?_
  refine z_iadd F dL_law_1688 ?_
  refine z_sld F hX (by omega) (by omega) dL_law_1689 ?_
  refine z_ti (y := b) eb ?_
  refine z_callV F [.int (zI a), .int (zI b)] [] (c_X7_inRest F.2.2.1 G (s := (xAsk s (((0 ≤ a ∧ a < s 9 0 0) ∧ ¬ s 13 a.toNat 0 = -1) ∧ 0 ≤ b ∧ b < s 4 0 0) (zRest s a.toNat b.toNat)).2.2) (t := zMix s u) (c := s) (o := (q9, c9)) (zMix_c hI.c) (zMix_b hI.b hu) hI (zMix_r s u) h3 ha hb) cv_L_187 (zAll_16 (xAsk s (((0 ≤ a ∧ a < s 9 0 0) ∧ ¬ s 13 a.toNat 0 = -1) ∧ 0 ≤ b ∧ b < s 4 0 0) (zRest s a.toNat b.toNat)).2.2 (zMix s u) (q9, c9)) rfl rfl rfl ⟨by decide, by decide⟩ ⟨show cl0 + 3 + 0 ≤ 601024 by omega, show sl0 + 18 + 0 ≤ 7293034 by omega⟩ (Nat.le_of_ble_eq_true rfl) dL_law_1690 z_nx (z_ki (fun x_2 M_2 h_2 => ?_))
  obtain ⟨T9, hmT, hbT, hrT, h25, hvT⟩ := h_2
  subst hmT
  refine z_M (M' := (zAll (xAsk s (((0 ≤ a ∧ a < s 9 0 0) ∧ ¬ s 13 a.toNat 0 = -1) ∧ 0 ≤ b ∧ b < s 4 0 0) (zRest s a.toNat b.toNat)).2.2 (zMix (xAsk s (((0 ≤ a ∧ a < s 9 0 0) ∧ ¬ s 13 a.toNat 0 = -1) ∧ 0 ≤ b ∧ b < s 4 0 0) (zRest s a.toNat b.toNat)).2.2 T9) (q9, c9))) (zAll_mix hrT) ?_
  refine z_istore F [(6, .int (zI x_2)), (5, .int (zI ((xAsk s (((0 ≤ a ∧ a < s 9 0 0) ∧ ¬ s 13 a.toNat 0 = -1) ∧ 0 ≤ b ∧ b < s 4 0 0) (zRest s a.toNat b.toNat)).1))), (0, .ref 127), (1, .ref 0), (2, .ref 16), (3, .ref 33), (4, .int (zI i))] dL_law_1693 (by decide) rfl ?_
  refine z_aload_n F 4 dL_law_1695 rfl rfl ?_
  refine z_callV F [] [] (c_X7_thrown F.2.2.1 G (s := (xAsk s (((0 ≤ a ∧ a < s 9 0 0) ∧ ¬ s 13 a.toNat 0 = -1) ∧ 0 ≤ b ∧ b < s 4 0 0) (zRest s a.toNat b.toNat)).2.2) (t := zMix (xAsk s (((0 ≤ a ∧ a < s 9 0 0) ∧ ¬ s 13 a.toNat 0 = -1) ∧ 0 ≤ b ∧ b < s 4 0 0) (zRest s a.toNat b.toNat)).2.2 T9) (o := (q9, c9)) (zMix_c hK.1.c) (zMix_b hK.1.b hbT)) cv_L_105 (zAll_16 (xAsk s (((0 ≤ a ∧ a < s 9 0 0) ∧ ¬ s 13 a.toNat 0 = -1) ∧ 0 ≤ b ∧ b < s 4 0 0) (zRest s a.toNat b.toNat)).2.2 (zMix (xAsk s (((0 ≤ a ∧ a < s 9 0 0) ∧ ¬ s 13 a.toNat 0 = -1) ∧ 0 ≤ b ∧ b < s 4 0 0) (zRest s a.toNat b.toNat)).2.2 T9) (q9, c9)) rfl rfl rfl ⟨by decide, by decide⟩ ⟨show cl0 + 3 + 0 + 0 ≤ 601024 by omega, show sl0 + 18 + 0 + 0 ≤ 7293034 by omega⟩ (Nat.le_of_ble_eq_true rfl) dL_law_1696 z_nx (z_ki (fun x_3 M_3 h_3 => ?_))
  have hx9 := (h_3).1.symm
  have hm9 := (h_3).2.symm
  subst hx9
  subst hm9
  have hX1 := hbT 25 0 0
  rw [h25] at hX1
  refine z_ti (y := (xAsk s (((0 ≤ a ∧ a < s 9 0 0) ∧ ¬ s 13 a.toNat 0 = -1) ∧ 0 ≤ b ∧ b < s 4 0 0) (zRest s a.toNat b.toNat)).1) h25 ?_
  refine z_iload F 1 dL_law_1699 rfl ?_
  refine z_icmp_eq F 1706 dL_law_1701 (by decide) (by omega) (by omega) (fun c_4 => ?_) (fun c_4 => ?_)
  · skip
    refine z_iload F 1 dL_law_1706 rfl ?_
    refine z_if_ne F 1723 dL_law_1708 (by decide) (by omega) (fun c_5 => ?_) (fun c_5 => ?_)
    · skip
      refine z_goto F 1795 dL_law_1723 (by decide) ?_
      refine z_lv [(0, .ref 127), (1, .ref 0), (2, .ref 16), (3, .ref 33), (4, .int (zI i))] [2, 3, 4, 5, 6] rfl ?_
      refine z_wd (cl0 + 22) (sl0 + 1240) (show cl0 + 3 + 0 + 0 ≤ cl0 + 22 by omega) (show sl0 + 18 + 0 + 0 ≤ sl0 + 1240 by omega) ?_
      exact hnext _ _ _ hK hbT hk9
    · skip
      have hz0 : (xAsk s (((0 ≤ a ∧ a < s 9 0 0) ∧ ¬ s 13 a.toNat 0 = -1) ∧ 0 ≤ b ∧ b < s 4 0 0) (zRest s a.toNat b.toNat)).1 = 0 := c_5
      have hvv := hvT hz0
      refine z_aload_n F 5 dL_law_1711 rfl rfl ?_
      refine z_iconst (z := 0) F dL_law_1712 (by decide) ?_
      refine z_lald F (zAll_33 (xAsk s (((0 ≤ a ∧ a < s 9 0 0) ∧ ¬ s 13 a.toNat 0 = -1) ∧ 0 ≤ b ∧ b < s 4 0 0) (zRest s a.toNat b.toNat)).2.2 (zMix (xAsk s (((0 ≤ a ∧ a < s 9 0 0) ∧ ¬ s 13 a.toNat 0 = -1) ∧ 0 ≤ b ∧ b < s 4 0 0) (zRest s a.toNat b.toNat)).2.2 T9) (q9, c9)) (by decide) (by decide) (by decide) dL_law_1713 ?_
      refine z_iload F 0 dL_law_1714 rfl ?_
      refine z_i2l F (by rw [hvv]; exact (hv9 hz0).2) dL_law_1716 ?_
      refine z_lcmpE F ((hv9 hz0).1.trans hvv.symm) dL_law_1717 ?_
      refine z_if_eq F 1723 dL_law_1718 (by decide) ⟨by decide, by decide⟩ (fun c_6 => ?_) (fun c_6 => ?_)
      · skip
        refine z_goto F 1795 dL_law_1723 (by decide) ?_
        refine z_lv [(0, .ref 127), (1, .ref 0), (2, .ref 16), (3, .ref 33), (4, .int (zI i))] [2, 3, 4, 5, 6] rfl ?_
        refine z_wd (cl0 + 22) (sl0 + 1240) (show cl0 + 3 + 0 + 0 ≤ cl0 + 22 by omega) (show sl0 + 18 + 0 + 0 ≤ sl0 + 1240 by omega) ?_
        exact hnext _ _ _ hK hbT hk9
      · skip
        exact absurd rfl c_6
  · skip
    exact absurd rfl c_4
set_option maxRecDepth 100000 in
set_option maxHeartbeats 4000000 in
theorem law_case_26 {k : zC} {G : zG} {n : Nat} {xs : Nat → Int32} {Q : State → Prop} {tb : List ExceptionTableEntry} (F : zF k G cL_law 7 RL wsL_law (some .boolean) tb) (hX : zSX k G n xs) {s u : zS} {o : zOx} {i : Int} {cl0 sl0 : Nat} (hI : zInv s) (hu : zB u) (hob : ∀ m, o.2 m = 0 ∨ o.2 m = 1) (h3 : ∀ j, s 3 j 0 ≤ 600) (h18 : s 18 0 0 < 1000) (hi0 : 0 ≤ i) (hi1 : i + 3 < n) (hcl : cl0 + 22 ≤ 601024) (hsl : sl0 + 1240 ≤ 7293034) {a : Int} (ea : (xs (i + 1).toNat).toInt = a) (hnext : ∀ (s2 T2 : zS) (o2 : zOx), zK s s2 → zB T2 → (∀ m, o2.2 m = 0 ∨ o2.2 m = 1) → zJ k G room_1 7 Q (zAll s2 (zMix s2 T2) o2) (cl0 + 22) (sl0 + 1240) 1795 [(0, .ref 127), (1, .ref 0), (2, .ref 16), (3, .ref 33), (4, .int (zI i))] []) : zJ k G room_1 7 Q (zAll s (zMix s u) o) cl0 sl0 1726 [(0, .ref 127), (1, .ref 0), (2, .ref 16), (3, .ref 33), (4, .int (zI i))] [] := by
  have ha : zR a := ea ▸ zI_r _
  have hK := xAsk_k hI h3 (0 ≤ a ∧ a ≤ 600) ((zFil s a (2 ^ (s 4 0 0).toNat)).1)
  refine z_aload_n F 1 dL_law_1726 rfl rfl ?_
  refine z_aload_n F 0 dL_law_1727 rfl rfl ?_
  refine z_iload F 4 dL_law_1728 rfl ?_
  refine z_iconst (z := 1) F dL_law_1730 (by decide) ?_
  refine z_iadd F dL_law_1731 ?_
  refine z_sld F hX (by omega) (by omega) dL_law_1732 ?_
  refine z_ti (y := a) ea ?_
  refine z_aload_n F 3 dL_law_1733 rfl rfl ?_
  refine z_callSH F [.ref 0, .int (zI a), .ref 33] [] (c_L_fill F.2.2.1 G (s := s) (t := zMix s u) (o := o) hI.c hI.b hI hob ha) csh_L_188 rfl ⟨by decide, by decide⟩ ⟨show cl0 + 1 ≤ 601024 by omega, show sl0 + 6 ≤ 7293034 by omega⟩ (Nat.le_of_ble_eq_true rfl) dL_law_1734 z_nx (z_ki (fun x_1 M_1 h_1 => ?_))
  obtain ⟨hx9, q9, c9, hm9, hk9, hv9⟩ := h_1
  subst hx9
  subst hm9
  refine z_istore F [(5, .int (zI ((xAsk s (0 ≤ a ∧ a ≤ 600) ((zFil s a (2 ^ (s 4 0 0).toNat)).1)).1))), (0, .ref 127), (1, .ref 0), (2, .ref 16), (3, .ref 33), (4, .int (zI i))] dL_law_1737 (by decide) rfl ?_
  refine z_aload_n F 3 dL_law_1739 rfl rfl ?_
  refine z_aload_n F 1 dL_law_1740 rfl rfl ?_
  refine z_iload F 5 dL_law_1741 rfl ?_
  refine z_iconst (z := 1) F dL_law_1743 (by decide) ?_
  refine z_iadd F dL_law_1744 ?_
  refine z_sld F hX (by omega) (by omega) dL_law_1745 ?_
  refine z_ti (y := a) ea ?_
  refine z_callV F [.int (zI a)] [] (c_X7_fill F.2.2.1 G (s := (xAsk s (0 ≤ a ∧ a ≤ 600) ((zFil s a (2 ^ (s 4 0 0).toNat)).1)).2.2) (t := zMix s u) (c := s) (o := (q9, c9)) (zMix_c hI.c) (zMix_b hI.b hu) hI (zMix_r s u) h3 ha) cv_L_190 (zAll_16 (xAsk s (0 ≤ a ∧ a ≤ 600) ((zFil s a (2 ^ (s 4 0 0).toNat)).1)).2.2 (zMix s u) (q9, c9)) rfl rfl rfl ⟨by decide, by decide⟩ ⟨show cl0 + 1 + 0 ≤ 601024 by omega, show sl0 + 6 + 0 ≤ 7293034 by omega⟩ (Nat.le_of_ble_eq_true rfl) dL_law_1746 z_nx (z_ki (fun x_2 M_2 h_2 => ?_))
  obtain ⟨T9, hmT, hbT, hrT, h25, hvT⟩ := h_2
  subst hmT
  refine z_M (M' := (zAll (xAsk s (0 ≤ a ∧ a ≤ 600) ((zFil s a (2 ^ (s 4 0 0).toNat)).1)).2.2 (zMix (xAsk s (0 ≤ a ∧ a ≤ 600) ((zFil s a (2 ^ (s 4 0 0).toNat)).1)).2.2 T9) (q9, c9))) (zAll_mix hrT) ?_
  refine z_istore F [(6, .int (zI x_2)), (5, .int (zI ((xAsk s (0 ≤ a ∧ a ≤ 600) ((zFil s a (2 ^ (s 4 0 0).toNat)).1)).1))), (0, .ref 127), (1, .ref 0), (2, .ref 16), (3, .ref 33), (4, .int (zI i))] dL_law_1749 (by decide) rfl ?_
  refine z_aload_n F 4 dL_law_1751 rfl rfl ?_
  refine z_callV F [] [] (c_X7_thrown F.2.2.1 G (s := (xAsk s (0 ≤ a ∧ a ≤ 600) ((zFil s a (2 ^ (s 4 0 0).toNat)).1)).2.2) (t := zMix (xAsk s (0 ≤ a ∧ a ≤ 600) ((zFil s a (2 ^ (s 4 0 0).toNat)).1)).2.2 T9) (o := (q9, c9)) (zMix_c hK.1.c) (zMix_b hK.1.b hbT)) cv_L_105 (zAll_16 (xAsk s (0 ≤ a ∧ a ≤ 600) ((zFil s a (2 ^ (s 4 0 0).toNat)).1)).2.2 (zMix (xAsk s (0 ≤ a ∧ a ≤ 600) ((zFil s a (2 ^ (s 4 0 0).toNat)).1)).2.2 T9) (q9, c9)) rfl rfl rfl ⟨by decide, by decide⟩ ⟨show cl0 + 1 + 0 + 0 ≤ 601024 by omega, show sl0 + 6 + 0 + 0 ≤ 7293034 by omega⟩ (Nat.le_of_ble_eq_true rfl) dL_law_1752 z_nx (z_ki (fun x_3 M_3 h_3 => ?_))
  have hx9 := (h_3).1.symm
  have hm9 := (h_3).2.symm
  subst hx9
  subst hm9
  have hX1 := hbT 25 0 0
  rw [h25] at hX1
  refine z_ti (y := (xAsk s (0 ≤ a ∧ a ≤ 600) ((zFil s a (2 ^ (s 4 0 0).toNat)).1)).1) h25 ?_
  refine z_iload F 1 dL_law_1755 rfl ?_
  refine z_icmp_eq F 1762 dL_law_1757 (by decide) (by omega) (by omega) (fun c_4 => ?_) (fun c_4 => ?_)
  · skip
    refine z_iload F 1 dL_law_1762 rfl ?_
    refine z_if_ne F 1779 dL_law_1764 (by decide) (by omega) (fun c_5 => ?_) (fun c_5 => ?_)
    · skip
      refine z_goto F 1795 dL_law_1779 (by decide) ?_
      refine z_lv [(0, .ref 127), (1, .ref 0), (2, .ref 16), (3, .ref 33), (4, .int (zI i))] [2, 3, 4, 5, 6] rfl ?_
      refine z_wd (cl0 + 22) (sl0 + 1240) (show cl0 + 1 + 0 + 0 ≤ cl0 + 22 by omega) (show sl0 + 6 + 0 + 0 ≤ sl0 + 1240 by omega) ?_
      exact hnext _ _ _ hK hbT hk9
    · skip
      have hz0 : (xAsk s (0 ≤ a ∧ a ≤ 600) ((zFil s a (2 ^ (s 4 0 0).toNat)).1)).1 = 0 := c_5
      have hvv := hvT hz0
      refine z_aload_n F 5 dL_law_1767 rfl rfl ?_
      refine z_iconst (z := 0) F dL_law_1768 (by decide) ?_
      refine z_lald F (zAll_33 (xAsk s (0 ≤ a ∧ a ≤ 600) ((zFil s a (2 ^ (s 4 0 0).toNat)).1)).2.2 (zMix (xAsk s (0 ≤ a ∧ a ≤ 600) ((zFil s a (2 ^ (s 4 0 0).toNat)).1)).2.2 T9) (q9, c9)) (by decide) (by decide) (by decide) dL_law_1769 ?_
      refine z_iload F 0 dL_law_1770 rfl ?_
      refine z_i2l F (by rw [hvv]; exact (hv9 hz0).2) dL_law_1772 ?_
      refine z_lcmpE F ((hv9 hz0).1.trans hvv.symm) dL_law_1773 ?_
      refine z_if_eq F 1779 dL_law_1774 (by decide) ⟨by decide, by decide⟩ (fun c_6 => ?_) (fun c_6 => ?_)
      · skip
        refine z_goto F 1795 dL_law_1779 (by decide) ?_
        refine z_lv [(0, .ref 127), (1, .ref 0), (2, .ref 16), (3, .ref 33), (4, .int (zI i))] [2, 3, 4, 5, 6] rfl ?_
        refine z_wd (cl0 + 22) (sl0 + 1240) (show cl0 + 1 + 0 + 0 ≤ cl0 + 22 by omega) (show sl0 + 6 + 0 + 0 ≤ sl0 + 1240 by omega) ?_
        exact hnext _ _ _ hK hbT hk9
      · skip
        exact absurd rfl c_6
  · skip
    exact absurd rfl c_4
set_option maxRecDepth 100000 in
set_option maxHeartbeats 4000000 in
theorem law_case_9 {k : zC} {G : zG} {n : Nat} {xs : Nat → Int32} {Q : State → Prop} {tb : List ExceptionTableEntry} (F : zF k G cL_law 7 RL wsL_law (some .boolean) tb) (hX : zSX k G n xs) {s u : zS} {o : zOx} {i : Int} {cl0 sl0 : Nat} (hI : zInv s) (hu : zB u) (hob : ∀ m, o.2 m = 0 ∨ o.2 m = 1) (h3 : ∀ j, s 3 j 0 ≤ 600) (h18 : s 18 0 0 < 1000) (hi0 : 0 ≤ i) (hi1 : i + 3 < n) (hcl : cl0 + 22 ≤ 601024) (hsl : sl0 + 1240 ≤ 7293034) (hnext : ∀ (s2 T2 : zS) (o2 : zOx), zK s s2 → zB T2 → (∀ m, o2.2 m = 0 ∨ o2.2 m = 1) → zJ k G room_1 7 Q (zAll s2 (zMix s2 T2) o2) (cl0 + 22) (sl0 + 1240) 1795 [(0, .ref 127), (1, .ref 0), (2, .ref 16), (3, .ref 33), (4, .int (zI i))] []) : zJ k G room_1 7 Q (zAll s (zMix s u) o) cl0 sl0 788 [(0, .ref 127), (1, .ref 0), (2, .ref 16), (3, .ref 33), (4, .int (zI i))] [] := by
  refine z_aload_n F 1 dL_law_788 rfl rfl ?_
  refine z_callV F [] [] (c_X6_requests F.2.2.1 G (s := s) (t := zMix s u) (o := o) hI.c hI.b) cv_L_135 (zAll_0 s (zMix s u) o) rfl rfl rfl ⟨by decide, by decide⟩ ⟨show cl0 + 0 ≤ 601024 by omega, show sl0 + 0 ≤ 7293034 by omega⟩ (Nat.le_of_ble_eq_true rfl) dL_law_789 z_nx (z_ki (fun x_1 M_1 h_1 => ?_))
  have hx9 := (h_1).1.symm
  have hm9 := (h_1).2.symm
  subst hx9
  subst hm9
  refine z_aload_n F 2 dL_law_792 rfl rfl ?_
  refine z_callV F [] [.int (zI (s 14 0 0))] (q_requests F.2.2.1 G (s := s) (t := zMix s u) (c := s) (o := o) (zMix_c hI.c) (zMix_b hI.b hu) hI (zMix_r s u) h3) cv_L_138 (zAll_16 s (zMix s u) o) rfl rfl rfl ⟨by decide, by decide⟩ ⟨show cl0 + 0 + 0 ≤ 601024 by omega, show sl0 + 0 + 0 ≤ 7293034 by omega⟩ (Nat.le_of_ble_eq_true rfl) dL_law_793 z_nx (z_ki (fun x_2 M_2 h_2 => ?_))
  obtain ⟨T9, hmT, hbT, hrT, h25, hvT⟩ := h_2
  subst hmT
  have hb_ := hI.b 14 0 0
  refine z_ti (y := s 14 0 0) (hvT rfl) ?_
  refine z_M (M' := (zAll s (zMix s T9) o)) (zAll_mix hrT) ?_
  refine z_icmp_eq F 1795 dL_law_796 (by decide) (by omega) (by omega) (fun c_3 => ?_) (fun c_3 => ?_)
  · skip
    refine z_lv [(0, .ref 127), (1, .ref 0), (2, .ref 16), (3, .ref 33), (4, .int (zI i))] [0, 1, 2, 3, 4] rfl ?_
    refine z_wd (cl0 + 22) (sl0 + 1240) (show cl0 + 0 + 0 ≤ cl0 + 22 by omega) (show sl0 + 0 + 0 ≤ sl0 + 1240 by omega) ?_
    exact hnext _ _ _ (zK_rf hI h3) hbT hob
  · skip
    exact absurd rfl c_3
set_option maxRecDepth 100000 in
set_option maxHeartbeats 4000000 in
theorem law_case_14 {k : zC} {G : zG} {n : Nat} {xs : Nat → Int32} {Q : State → Prop} {tb : List ExceptionTableEntry} (F : zF k G cL_law 7 RL wsL_law (some .boolean) tb) (hX : zSX k G n xs) {s u : zS} {o : zOx} {i : Int} {cl0 sl0 : Nat} (hI : zInv s) (hu : zB u) (hob : ∀ m, o.2 m = 0 ∨ o.2 m = 1) (h3 : ∀ j, s 3 j 0 ≤ 600) (h18 : s 18 0 0 < 1000) (hi0 : 0 ≤ i) (hi1 : i + 3 < n) (hcl : cl0 + 22 ≤ 601024) (hsl : sl0 + 1240 ≤ 7293034) (hnext : ∀ (s2 T2 : zS) (o2 : zOx), zK s s2 → zB T2 → (∀ m, o2.2 m = 0 ∨ o2.2 m = 1) → zJ k G room_1 7 Q (zAll s2 (zMix s2 T2) o2) (cl0 + 22) (sl0 + 1240) 1795 [(0, .ref 127), (1, .ref 0), (2, .ref 16), (3, .ref 33), (4, .int (zI i))] []) : zJ k G room_1 7 Q (zAll s (zMix s u) o) cl0 sl0 1025 [(0, .ref 127), (1, .ref 0), (2, .ref 16), (3, .ref 33), (4, .int (zI i))] [] := by
  refine z_aload_n F 1 dL_law_1025 rfl rfl ?_
  refine z_callV F [] [] (c_X6_visits F.2.2.1 G (s := s) (t := zMix s u) (o := o) hI.c hI.b) cv_L_151 (zAll_0 s (zMix s u) o) rfl rfl rfl ⟨by decide, by decide⟩ ⟨show cl0 + 0 ≤ 601024 by omega, show sl0 + 0 ≤ 7293034 by omega⟩ (Nat.le_of_ble_eq_true rfl) dL_law_1026 z_nx (z_ki (fun x_1 M_1 h_1 => ?_))
  have hx9 := (h_1).1.symm
  have hm9 := (h_1).2.symm
  subst hx9
  subst hm9
  refine z_aload_n F 2 dL_law_1029 rfl rfl ?_
  refine z_callV F [] [.int (zI (s 9 0 0))] (q_visits F.2.2.1 G (s := s) (t := zMix s u) (c := s) (o := o) (zMix_c hI.c) (zMix_b hI.b hu) hI (zMix_r s u) h3) cv_L_154 (zAll_16 s (zMix s u) o) rfl rfl rfl ⟨by decide, by decide⟩ ⟨show cl0 + 0 + 0 ≤ 601024 by omega, show sl0 + 0 + 0 ≤ 7293034 by omega⟩ (Nat.le_of_ble_eq_true rfl) dL_law_1030 z_nx (z_ki (fun x_2 M_2 h_2 => ?_))
  obtain ⟨T9, hmT, hbT, hrT, h25, hvT⟩ := h_2
  subst hmT
  have hb_ := hI.b 9 0 0
  refine z_ti (y := s 9 0 0) (hvT rfl) ?_
  refine z_M (M' := (zAll s (zMix s T9) o)) (zAll_mix hrT) ?_
  refine z_icmp_eq F 1795 dL_law_1033 (by decide) (by omega) (by omega) (fun c_3 => ?_) (fun c_3 => ?_)
  · skip
    refine z_lv [(0, .ref 127), (1, .ref 0), (2, .ref 16), (3, .ref 33), (4, .int (zI i))] [0, 1, 2, 3, 4] rfl ?_
    refine z_wd (cl0 + 22) (sl0 + 1240) (show cl0 + 0 + 0 ≤ cl0 + 22 by omega) (show sl0 + 0 + 0 ≤ sl0 + 1240 by omega) ?_
    exact hnext _ _ _ (zK_rf hI h3) hbT hob
  · skip
    exact absurd rfl c_3
set_option maxRecDepth 100000 in
set_option maxHeartbeats 4000000 in
theorem law_case_27 {k : zC} {G : zG} {n : Nat} {xs : Nat → Int32} {Q : State → Prop} {tb : List ExceptionTableEntry} (F : zF k G cL_law 7 RL wsL_law (some .boolean) tb) (hX : zSX k G n xs) {s u : zS} {o : zOx} {i : Int} {cl0 sl0 : Nat} (hI : zInv s) (hu : zB u) (hob : ∀ m, o.2 m = 0 ∨ o.2 m = 1) (h3 : ∀ j, s 3 j 0 ≤ 600) (h18 : s 18 0 0 < 1000) (hi0 : 0 ≤ i) (hi1 : i + 3 < n) (hcl : cl0 + 22 ≤ 601024) (hsl : sl0 + 1240 ≤ 7293034) (hnext : ∀ (s2 T2 : zS) (o2 : zOx), zK s s2 → zB T2 → (∀ m, o2.2 m = 0 ∨ o2.2 m = 1) → zJ k G room_1 7 Q (zAll s2 (zMix s2 T2) o2) (cl0 + 22) (sl0 + 1240) 1795 [(0, .ref 127), (1, .ref 0), (2, .ref 16), (3, .ref 33), (4, .int (zI i))] []) : zJ k G room_1 7 Q (zAll s (zMix s u) o) cl0 sl0 1782 [(0, .ref 127), (1, .ref 0), (2, .ref 16), (3, .ref 33), (4, .int (zI i))] [] := by
  refine z_aload_n F 1 dL_law_1782 rfl rfl ?_
  refine z_callV F [] [] (c_X6_peak F.2.2.1 G (s := s) (t := zMix s u) (o := o) hI.c hI.b) cv_L_191 (zAll_0 s (zMix s u) o) rfl rfl rfl ⟨by decide, by decide⟩ ⟨show cl0 + 0 ≤ 601024 by omega, show sl0 + 0 ≤ 7293034 by omega⟩ (Nat.le_of_ble_eq_true rfl) dL_law_1783 z_nx (z_ki (fun x_1 M_1 h_1 => ?_))
  have hx9 := (h_1).1.symm
  have hm9 := (h_1).2.symm
  subst hx9
  subst hm9
  refine z_aload_n F 2 dL_law_1786 rfl rfl ?_
  refine z_callV F [] [.int (zI ((zPk s 600).1))] (c_X7_peak F.2.2.1 G (s := s) (t := zMix s u) (c := s) (o := o) (zMix_c hI.c) (zMix_b hI.b hu) hI (zMix_r s u) h3) cv_L_194 (zAll_16 s (zMix s u) o) rfl rfl rfl ⟨by decide, by decide⟩ ⟨show cl0 + 0 + 0 ≤ 601024 by omega, show sl0 + 0 + 0 ≤ 7293034 by omega⟩ (Nat.le_of_ble_eq_true rfl) dL_law_1787 z_nx (z_ki (fun x_2 M_2 h_2 => ?_))
  obtain ⟨T9, hmT, hbT, hrT, h25, hvT⟩ := h_2
  subst hmT
  have hb_ := zPk_r s 600
  refine z_ti (y := (zPk s 600).1) (hvT rfl) ?_
  refine z_M (M' := (zAll s (zMix s T9) o)) (zAll_mix hrT) ?_
  refine z_icmp_eq F 1795 dL_law_1790 (by decide) (by omega) (by omega) (fun c_3 => ?_) (fun c_3 => ?_)
  · skip
    refine z_lv [(0, .ref 127), (1, .ref 0), (2, .ref 16), (3, .ref 33), (4, .int (zI i))] [0, 1, 2, 3, 4] rfl ?_
    refine z_wd (cl0 + 22) (sl0 + 1240) (show cl0 + 0 + 0 ≤ cl0 + 22 by omega) (show sl0 + 0 + 0 ≤ sl0 + 1240 by omega) ?_
    exact hnext _ _ _ (zK_rf hI h3) hbT hob
  · skip
    exact absurd rfl c_3
