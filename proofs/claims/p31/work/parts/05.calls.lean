/-! ===== the abstract machine: contracts and calls ===== -/
theorem zGood : GoodIn wsL_law wsL_law := fun w h => ⟨h, good_of_word (List.all_eq_true.mp (show wsL_law.all goodWord = true by decide +kernel) w h)⟩
theorem zLow.moved {G : zG} {u U : State} (hvm : u.vm.Alike U.vm) (hh : U.heap = u.heap) (hst : ∀ q ∈ zStr, ∃ a, vk_R "SalonBook" q.1 q.2 a U) (hnm : ∀ w ∈ zNM, va_Nw (.methodLinkNest w.1 w.2.1 w.2.2.1 w.2.2.2) U) (hnc : ∀ w ∈ zNC, va_Nw (.castable w.1 w.2) U) (hdc : va_Dc U) (hnd : ∀ w ∈ zND, va_Nw (.declares w) U) (h : zLow G u) : zLow G U := by
  obtain ⟨a1, a2, a3, a4, a5, a6, a7, a8, a9, b1, b2, b3, b4, b5, b6⟩ := h
  exact ⟨a1.moved hvm, by rw [hh]; exact a2.moved hvm, by rw [hh]; exact a3.moved hvm, by rw [hh]; exact a4.moved hvm, by rw [hh]; exact a5.moved hvm, hst, a7.moved hvm, a8.moved hvm, by rw [hh]; exact a9, hnm, hnc, b3.moved hvm, hdc, hnd, by obtain ⟨n, xs, h1, h2, h3, h4⟩ := b6; exact ⟨n, xs, by rw [hh]; exact h1.moved hvm, by rw [hh]; exact h2, h3, h4⟩⟩
theorem zLow.call {G : zG} {U : State} (g : JFrame) (mk : MethodId) (a : Array Value) (h : zLow G U) : zLow G (U.calling g mk a) :=
  zLow.moved (u := U) (U := U.calling g mk a) (Vm.Alike.refl U.vm) rfl (fun q hq => by obtain ⟨a, ha⟩ := h.2.2.2.2.2.1 q hq; exact ⟨a, vk_R.same (u := U) rfl ha⟩) (fun w hw => va_Nw.same rfl (u := U) rfl (h.2.2.2.2.2.2.2.2.2.1 w hw)) (fun w hw => va_Nw.same rfl (u := U) rfl (h.2.2.2.2.2.2.2.2.2.2.1 w hw)) (va_Nw.same (w := .declares _) rfl (u := U) rfl h.2.2.2.2.2.2.2.2.2.2.2.2.1) (fun w hw => va_Nw.same rfl (u := U) rfl (h.2.2.2.2.2.2.2.2.2.2.2.2.2.1 w hw)) h
theorem zLow.warm {G : zG} {s U : State} {H : Heap} {locs : List Loc} (h : zLow G s) (hS : va_S (zA G) s.heap H locs) (hU : U.heap = H) (hW : s.WarmedH U.vm) : zLow G U := by
  obtain ⟨a1, a2, a3, a4, a5, a6, a7, a8, a9, b1, b2, b3, b4, b5, b6⟩ := h
  subst hU
  have hq : ∀ a : Nat, a < s.heap.size → ¬ zA G a → U.heap[a]? = s.heap[a]? := hS.2.1
  exact ⟨a1.moved hW.alike, (a2.kept hq).moved hW.alike, (a3.kept hq).moved hW.alike, (a4.kept hq).moved hW.alike, (a5.kept hq).moved hW.alike, fun q hq => by obtain ⟨a, ha⟩ := a6 q hq; exact ⟨a, ha.warm hW⟩, a7.moved hW.alike, a8.moved hW.alike, Nat.le_trans a9 hS.1, fun w hw => (b1 w hw).warmM hW, fun w hw => (b2 w hw).warmC hW, b3.moved hW.alike, va_Nw.warmD hW b4, fun w hw => (b5 w hw).warmD hW, by obtain ⟨n, xs, h1, h2, h3, h4⟩ := b6; exact ⟨n, xs, (h1.kept (hq _ h2 h3)).moved hW.alike, Nat.lt_of_lt_of_le h2 hS.1, h3, h4⟩⟩
/-- a contract's start, its return, its throw -/
def zPre (G : zG) (L0 : Nat → Nat) (av : List Value) (M : zM) : Array Value → State → Prop := va_Pc (av.map (zmr L0)) (fun U => zLow G U ∧ zRep G L0 M U.heap ∧ ∀ v ∈ av, zok M v)
def zQ (G : zG) (L0 : Nat → Nat) (M : zM) (Rc : Option Value → zM → Prop) : Array Value → State → Outcome → State → Prop := fun _ st oc t => (∃ (r : Option Value) (M' : zM) (L' : Nat → Nat), oc = .returned (r.map (zmr L')) ∧ Rc r M' ∧ zRep G L' M' t.heap ∧ zAg L0 M L' M' ∧ ∀ v, r = some v → zok M' v) ∧ va_F (zA G) st t
def zT (G : zG) (L0 : Nat → Nat) (M : zM) (Xc : String → zM → Prop) : String → State → State → Prop := fun E st t => (∃ (M' : zM) (L' : Nat → Nat), Xc E M' ∧ zRep G L' M' t.heap ∧ zAg L0 M L' M') ∧ va_F (zA G) st t
/-- a method's contract: called on av over M it comes back with Rc, or throws with Xc -/
def zCn (l : Launch) (G : zG) (y : MethodName) (cw : Cond) (R : Room) (av : List Value) (M : zM) (Rc : Option Value → zM → Prop) (Xc : String → zM → Prop) : Prop := ∀ L0 : Nat → Nat, vx_Met l y (cw :: wsL_law) R (zPre G L0 av M) (zQ G L0 M Rc) (zT G L0 M Xc) R.cells R.slots (zA G)
/-- the goal of a method's body -/
def zMQ (k : zC) (G : zG) (R : Room) (Rc : Option Value → zM → Prop) (Xc : String → zM → Prop) : State → Prop := vx_MQ k.2.1.2.1 (zQ G k.2.2.1 k.2.2.2 Rc) (zT G k.2.2.1 k.2.2.2 Xc) k.2.1.1 k.1.2.2.2.1 R.cells R.slots (zA G)
theorem zBlind (G : zG) (L0 : Nat → Nat) (av : List Value) (M : zM) : FrameBlind (zPre G L0 av M) := fun a U g mk q => ⟨q.1, q.2.1.call g mk a, q.2.2.1, q.2.2.2⟩
theorem zAg_rf {L : Nat → Nat} {M : zM} : zAg L M L M := fun a h => ⟨h, rfl⟩
theorem zAg_tr {L0 L1 L2 : Nat → Nat} {M0 M1 M2 : zM} (h1 : zAg L0 M0 L1 M1) (h2 : zAg L1 M1 L2 M2) : zAg L0 M0 L2 M2 := fun a h => ⟨(h2 a (h1 a h).1).1, (h2 a (h1 a h).1).2.trans (h1 a h).2⟩
theorem zlen : ∀ (av : List Value) (L : Nat → Nat), (lg_sl (av.map (zmr L))).length = (lg_sl av).length
  | [], _ => rfl
  | v :: av, L => by
    have ih := zlen av L
    cases v <;> simp [lg_sl, zmr, List.map_cons, Value.category] at ih ⊢ <;> omega
theorem zargs : ∀ (av : List Value) (L : Nat → Nat) (i : Nat), lv_args i (av.map (zmr L)) = (lv_args i av).map (zmq L)
  | [], _, _ => rfl
  | v :: av, L, i => by
    show (i, zmr L v) :: lv_args (if (zmr L v).category = 2 then i + 2 else i + 1) (av.map (zmr L)) = _
    rw [zmr_cat, zargs av L]
    rfl
theorem zargs_mem : ∀ (av : List Value) (i : Nat) (q : Nat × Value), q ∈ lv_args i av → q.2 ∈ av
  | [], _, _, h => by cases h
  | v :: av, i, q, h => by
    rcases List.mem_cons.mp h with rfl | h
    · exact List.mem_cons_self
    · exact List.mem_cons_of_mem _ (zargs_mem av _ q h)
/-- a method's contract out of its body's walk -/
theorem zStart {l : Launch} {G : zG} {y : MethodName} {cc : ByteArray} {nL : Nat} {ret : Option FieldType} {R : Room} {av : List Value} {M : zM} {Rc : Option Value → zM → Prop} {Xc : String → zM → Prop} (hfl : l.stackTraces = false) (hy : plainName y.cls = true) {own : String} (ho : y.cls = own) (lv : List (Nat × Value)) (hav : (lg_sl av).length ≤ nL) (hlv : lv_args 0 av = lv)
    (body : ∀ k : zC, k.1.2.1 = l → k.2.1.2.2.1.name = y.name → k.2.2.2 = M → zF k G cc nL own wsL_law ret [] → zJ k G R nL (zMQ k G R Rc Xc) M 0 0 0 lv []) : zCn l G y (.code y cc nL ret) R av M Rc Xc := by
  intro L0
  refine vx_ofW (cc := cc) (maxL := nL) (ret := ret) hy rfl (fun p e s m args below meth c s₁ B hml htb hv => ?_)
  obtain ⟨rfl, hLow, hR, hok⟩ := hv
  have hts := atoms_spec (ws := .code y cc nL ret :: wsL_law) B.pre
  subst ho
  have key := body ((p, l, e, s, m), ((av.map (zmr L0)).toArray, below, meth, c), L0, M) rfl (name_of_methodNamed B.named B.method).1 rfl ⟨⟨B.exec, B.bytes, hml, findClass_of_methodNamed B.named, fun w h => hts w (List.mem_cons_of_mem _ h)⟩, hLow, hfl, B.notSynchronized, B.returns, List.eq_nil_iff_forall_not_mem.mpr htb⟩
  have hcat : (lg_sl (av.map (zmr L0))).length = (lg_sl av).length := zlen av L0
  have hl := lv_entry (av.map (zmr L0)) (n := nL) (by rw [hcat]; exact hav)
  rw [zargs av L0 0, hlv] at hl
  rw [lg_entry_eq]
  have hvv : ∀ q ∈ lv, zok M q.2 := fun q hq => hok q.2 (zargs_mem av 0 q (hlv ▸ hq))
  exact key L0 s.heap [] _ hR zAg_rf hvv (fun v h => by cases h) va_S.rf hl
/-- the machine with q of class E thrown over the frame -/
def zJx (k : zC) (G : zG) (R : Room) (nL : Nat) (Q : State → Prop) (M : zM) (cl sl pc : Nat) (lv : List (Nat × Value)) (E : String) : Prop :=
  ∀ (L : Nat → Nat) (H : Heap) (locs : List Loc) (ls : Array Slot) (st : List Value) (q : Addr) (ce : Cell), zRep G L M H → zAg k.2.2.1 k.2.2.2 L M → (∀ q ∈ lv, zok M q.2) → va_S (zA G) k.1.2.2.2.1.heap H locs → lv_has ls nL (lv.map (zmq L)) → H[q]? = some ce → ce.vm = .none → k.1.2.2.2.1.vm.findClass E = some ce.cls → vx_W k.1.1 k.1.2.1 k.1.2.2.1 R k.1.2.2.2.1 k.1.2.2.2.2 k.2.1.1 k.2.1.2.1 k.2.1.2.2.1 k.2.1.2.2.2 H locs cl sl Q (F0 k.1.2.2.2.2 pc ls st) q
section ZC
variable {k : zC} {G : zG} {R : Room} {nL : Nat} {Q : State → Prop} {M : zM} {cl sl pc : Nat} {lv : List (Nat × Value)} {st rest : List Value} {cc : ByteArray} {own : String} {ret : Option FieldType} {tb : List ExceptionTableEntry} {Rc Rc' : Option Value → zM → Prop} {Xc Xc' : String → zM → Prop}
theorem zs_app {M : zM} {a b : List Value} (h : ∀ v ∈ a ++ b, zok M v) : (∀ v ∈ a, zok M v) ∧ ∀ v ∈ b, zok M v := ⟨fun v hv => h v (List.mem_append_left _ hv), fun v hv => h v (List.mem_append_right _ hv)⟩
theorem zmap_cat {L : Nat → Nat} {st : List Value} : ((st.map (zmr L)).map fun v => v.category).sum = (st.map fun v => v.category).sum := by
  rw [List.map_map]
  congr 2
  funext v
  exact zmr_cat L v
theorem zAg_in {L0 L1 : Nat → Nat} {M0 M1 : zM} (h : zAg L0 M0 L1 M1) {a : Nat} (ha : zin M0 a) : L1 a = L0 a := (h a ha).2
/-- behind a call -/
theorem z_run {a : Array Value} {R' : Room} {st0 : List Value} (F : zF k G cc nL own wsL_law ret tb) (hr : ∀ (L : Nat → Nat) (H : Heap) (locs : List Loc) (ls : Array Slot), zRep G L M H → (∀ v ∈ st0, zok M v) → va_S (zA G) k.1.2.2.2.1.heap H locs → ls.size = nL → ∃ a : Array Value, vx_Run k.1.1 k.1.2.1 k.1.2.2.1 R k.1.2.2.2.1 k.1.2.2.2.2 k.2.1.1 k.2.1.2.1 k.2.1.2.2.1 k.2.1.2.2.2 H locs cl sl R'.cells R'.slots (F0 k.1.2.2.2.2 pc ls (st0.map (zmr L))) (rest.map (zmr L)) (zQ G L M Rc' a) (zT G L M Xc') (zA G))
    (hrest : ∀ v ∈ rest, v ∈ st0) (kx : ∀ (E : String) (M' : zM), Xc' E M' → zJx k G R nL Q M' (cl + R'.cells) (sl + R'.slots) pc lv E)
    (kk : ∀ (r : Option Value) (M' : zM), Rc' r M' → zJ k G R nL Q M' (cl + R'.cells) (sl + R'.slots) (pc + 3) lv (r.toList ++ rest)) : zJ k G R nL Q M cl sl pc lv st0 := by
  obtain ⟨⟨p, l, e, s, m⟩, ⟨args, below, meth, c⟩, L0, M0⟩ := k
  obtain ⟨⟨hx, hb, hml, hown, hts⟩, hLow, hfl, hlk, hrt, htb⟩ := F
  intro L H locs ls hR hA hv hs hS hl T hT X
  obtain ⟨a, hr⟩ := hr L H locs ls hR hs hS hl.1
  have hs0 : ∀ v ∈ rest, zok M v := fun v h => hs v (hrest v h)
  have hSz : ∀ {st₀ t : State} {Ls : List Loc}, st₀.heap = H → va_F (zA G) st₀ t → (∀ q ∈ Ls, zA G q.base) → va_S (zA G) s.heap t.heap (locs ++ Ls) := by
    intro st₀ t Ls h0 hF hL
    obtain ⟨f1, f2⟩ := hF
    rw [h0] at f1 f2
    refine ⟨Nat.le_trans hS.1 f1, fun q g1 g2 => (f2 q (Nat.lt_of_lt_of_le g1 hS.1) g2).trans (hS.2.1 q g1 g2), fun q hq => ?_⟩
    rcases List.mem_append.mp hq with h | h
    · exact hS.2.2 q h
    · exact hL q h
  rcases hr T hT X with ⟨v, st₀, t, T', Ls, h0, X', hL, g1, g2, ⟨⟨r, M', L', hv9, hrc, hR', hA', hok⟩, hF⟩, stp⟩ | ⟨q, st₀, t, T', Ls, E, ce, h0, X', hL, g1, g2, ⟨⟨M', L', hxc, hR', hA'⟩, hF⟩, hce, hcv, hcl, stp⟩
  · cases hv9
    have hvv : ∀ q ∈ lv, zok M' q.2 := fun q hq a e => (hA' a (hv q hq a e)).1
    have hss : ∀ v ∈ r.toList ++ rest, zok M' v := fun v hv => by
      rcases List.mem_append.mp hv with h | h
      · exact hok v (Option.mem_toList.mp h)
      · exact fun a e => (hA' a (hs0 v h a e)).1
    have key := kk r M' hrc L' t.heap (locs ++ Ls) ls hR' (zAg_tr hA hA') hvv hss (hSz h0 hF hL) (by rw [zl_congr hv (fun a ha => zAg_in hA' ha)]; exact hl)
    rw [List.map_append, zs_congr hs0 (fun a ha => zAg_in hA' ha)] at key
    have hto : (r.toList.map (zmr L')) = (r.map (zmr L')).toList := by cases r <;> rfl
    rw [hto] at key
    obtain ⟨t2, a1, b1⟩ := key T' g1 X'
    exact ⟨t2, stp t2 a1, b1⟩
  · have hvv : ∀ q ∈ lv, zok M' q.2 := fun q hq a e => (hA' a (hv q hq a e)).1
    have key := kx E M' hxc L' t.heap (locs ++ Ls) ls (rest.map (zmr L)) q ce hR' (zAg_tr hA hA') hvv (hSz h0 hF hL) (by rw [zl_congr hv (fun a ha => zAg_in hA' ha)]; exact hl) hce hcv hcl
    obtain ⟨t2, a1, b1⟩ := key T' g1 X'
    exact ⟨t2, stp.trans a1, b1⟩
/-- a method's words at a call -/
def zCW (own : String) (index : Nat) (y : MethodName) (bytes : ByteArray) (maxL : Nat) (ret' : Option FieldType) (n : Nat) : Prop := Cond.methodLink own index y ∈ wsL_law ∧ Cond.code y bytes maxL ret' ∈ wsL_law ∧ Cond.initialized y.cls ∈ wsL_law ∧ (y.cls ≠ "java/lang/invoke/MethodHandle" ∧ y.cls ≠ "java/lang/invoke/VarHandle" ∧ (parseMethodDescriptor y.desc).map (fun d => d.parameters.length) = some n)
def zCV (own : String) (index : Nat) (y : MethodName) (bytes : ByteArray) (maxL : Nat) (ret' : Option FieldType) (n : Nat) : Prop := zCW own index y bytes maxL ret' n ∧ Cond.instanceMethod y ∈ wsL_law ∧ Cond.selects y.cls y y ∈ wsL_law
def zCS (own : String) (index : Nat) (y : MethodName) (bytes : ByteArray) (maxL : Nat) (ret' : Option FieldType) (n : Nat) : Prop := zCW own index y bytes maxL ret' n ∧ Cond.static y ∈ wsL_law
def zCI (own : String) (index : Nat) (y : MethodName) (bytes : ByteArray) (maxL : Nat) (n : Nat) : Prop := zCW own index y bytes maxL none n ∧ y.name = "<init>" ∧ Cond.instanceMethod y ∈ wsL_law
theorem zCB {s : State} {args : Array Value} {R R' : Room} {own : String} {index n : Nat} {y : MethodName} {bytes : ByteArray} {maxL : Nat} {ret' : Option FieldType} (hts : ∀ w ∈ wsL_law, w.before args s = true) (hw : zCW own index y bytes maxL ret' n) (hR : R'.frames + 1 ≤ R.frames ∧ 8 + (maxL + 11) + R'.locals ≤ R.locals) : CallB R s args own index y bytes maxL ret' (.code y bytes maxL ret' :: wsL_law) R' R'.cells R'.slots n :=
  callB_of n hts (fun w h => by rcases List.mem_cons.mp h with rfl | h; exact zGood _ hw.2.1; exact zGood w h) rfl rfl rfl (hts _ hw.2.2.1) (hts _ hw.1) hw.2.2.2 hR
theorem z_recv {L : Nat → Nat} {H : Heap} {s : State} {b ci N : Nat} {C : String} {T : u_T} {fs : List Value} (hR : zRep G L M H) (hK : va_K G.1 vwCl (zTy G) s) (hm : M b = some (zOb ci fs)) (hc : vwCl[ci]? = some (C, T, N)) : ∃ cell : Cell, H[L b]? = some cell ∧ cell.vm.isStatics = false ∧ s.vm.findClass C = some cell.cls := by
  obtain ⟨e1, hz, hi, ws, hP, hD, hw⟩ := hR
  obtain ⟨j, hj⟩ := hw b _ hm
  exact va_recv hK hP hc hj
theorem z_callV (F : zF k G cc nL own wsL_law ret tb) {y : MethodName} {bytes : ByteArray} {maxL index n b ci N : Nat} {C : String} {T : u_T} {fs : List Value} {ret' : Option FieldType} {R' : Room} (As rest : List Value) (hM : zCn k.1.2.1 G y (.code y bytes maxL ret') R' (.ref b :: As) M Rc' Xc') (hw : zCV own index y bytes maxL ret' n) (hm : M b = some (zOb ci fs)) (hc : vwCl[ci]? = some (C, T, N)) (hyc : y.cls = C) (hn : As.length = n) (hR : R'.frames + 1 ≤ R.frames ∧ 8 + (maxL + 11) + R'.locals ≤ R.locals) (hcs : cl + R'.cells ≤ R.cells ∧ sl + R'.slots ≤ R.slots) (hrest : (rest.map fun v => v.category).sum ≤ 8) (d : decode cc pc = .ok (.invokevirtual index, 3))
    (kx : ∀ (E : String) (M' : zM), Xc' E M' → zJx k G R nL Q M' (cl + R'.cells) (sl + R'.slots) pc lv E) (kk : ∀ (r : Option Value) (M' : zM), Rc' r M' → zJ k G R nL Q M' (cl + R'.cells) (sl + R'.slots) (pc + 3) lv (r.toList ++ rest)) : zJ k G R nL Q M (cl) (sl) (pc) lv (As.reverse ++ .ref b :: rest) := by
  obtain ⟨⟨p, l, e, s, m⟩, ⟨args, below, meth, c⟩, L0, M0⟩ := k
  have F' := F
  obtain ⟨⟨hx, hb, hml, hown, hts⟩, hLow, hfl, hlk, hrt, htb⟩ := F
  refine z_run (a := #[]) (R' := R') (rest := rest) (Rc' := Rc') (Xc' := Xc') F' (fun L H locs ls hRep hs hS hls => ?_) (fun v hv => List.mem_append_right _ (List.mem_cons_of_mem _ hv)) kx kk
  subst hyc
  have hst : (As.reverse ++ .ref b :: rest).map (zmr L) = (As.map (zmr L)).reverse ++ .ref (L b) :: rest.map (zmr L) := by
    rw [List.map_append, List.map_reverse]
    rfl
  refine ⟨(Value.ref (L b) :: As.map (zmr L)).toArray, ?_⟩
  rw [hst]
  exact vx_runV (As := As.map (zmr L)) (rest := rest.map (zmr L)) ⟨hx, hb, hml, hown, hts⟩ (hM L) ⟨zCB hts hw.1 hR, hts _ hw.2.1, hts _ hw.2.2⟩ ⟨zBlind G L _ M, z_recv hRep hLow.1 hm hc, fun U hU hW => ⟨rfl, hLow.warm hS hU hW, by rw [hU]; exact hRep, List.forall_mem_cons.mpr ⟨fun a e => by cases e; exact Or.inl (by rw [hm]; rfl), fun v hv => hs v (List.mem_append_left _ (List.mem_reverse.mpr hv))⟩⟩⟩ rfl ((List.length_map _).trans hn) hls rfl (lv_room (by rw [zmap_cat]; exact hrest)) d hcs
theorem z_callS (F : zF k G cc nL own wsL_law ret tb) {y : MethodName} {bytes : ByteArray} {maxL index n : Nat} {ret' : Option FieldType} {R' : Room} (As rest : List Value) (hM : zCn k.1.2.1 G y (.code y bytes maxL ret') R' As M Rc' Xc') (hw : zCS own index y bytes maxL ret' n) (hn : As.length = n) (hR : R'.frames + 1 ≤ R.frames ∧ 8 + (maxL + 11) + R'.locals ≤ R.locals) (hcs : cl + R'.cells ≤ R.cells ∧ sl + R'.slots ≤ R.slots) (hrest : (rest.map fun v => v.category).sum ≤ 8) (d : decode cc pc = .ok (.invokestatic index, 3))
    (kx : ∀ (E : String) (M' : zM), Xc' E M' → zJx k G R nL Q M' (cl + R'.cells) (sl + R'.slots) pc lv E) (kk : ∀ (r : Option Value) (M' : zM), Rc' r M' → zJ k G R nL Q M' (cl + R'.cells) (sl + R'.slots) (pc + 3) lv (r.toList ++ rest)) : zJ k G R nL Q M (cl) (sl) (pc) lv (As.reverse ++ rest) := by
  obtain ⟨⟨p, l, e, s, m⟩, ⟨args, below, meth, c⟩, L0, M0⟩ := k
  have F' := F
  obtain ⟨⟨hx, hb, hml, hown, hts⟩, hLow, hfl, hlk, hrt, htb⟩ := F
  refine z_run (a := #[]) (R' := R') (rest := rest) (Rc' := Rc') (Xc' := Xc') F' (fun L H locs ls hRep hs hS hls => ?_) (fun v hv => List.mem_append_right _ hv) kx kk
  have hst : (As.reverse ++ rest).map (zmr L) = (As.map (zmr L)).reverse ++ rest.map (zmr L) := by
    rw [List.map_append, List.map_reverse]
  refine ⟨(As.map (zmr L)).toArray, ?_⟩
  rw [hst]
  exact vx_runS (As := As.map (zmr L)) (rest := rest.map (zmr L)) ⟨hx, hb, hml, hown, hts⟩ (hM L) ⟨zCB hts hw.1 hR, hts _ hw.2⟩ ⟨zBlind G L _ M, fun U hU hW => ⟨rfl, hLow.warm hS hU hW, by rw [hU]; exact hRep, fun v hv => hs v (List.mem_append_left _ (List.mem_reverse.mpr hv))⟩⟩ rfl ((List.length_map _).trans hn) hls rfl (lv_room (by rw [zmap_cat]; exact hrest)) d hcs
theorem z_callI (F : zF k G cc nL own wsL_law ret tb) {y : MethodName} {bytes : ByteArray} {maxL index n b : Nat} {R' : Room} (As rest : List Value) (hM : zCn k.1.2.1 G y (.code y bytes maxL none) R' (.ref b :: As) M Rc' Xc') (hw : zCI own index y bytes maxL n) (hn : As.length = n) (hR : R'.frames + 1 ≤ R.frames ∧ 8 + (maxL + 11) + R'.locals ≤ R.locals) (hcs : cl + R'.cells ≤ R.cells ∧ sl + R'.slots ≤ R.slots) (hrest : (rest.map fun v => v.category).sum ≤ 8) (d : decode cc pc = .ok (.invokespecial index, 3))
    (kx : ∀ (E : String) (M' : zM), Xc' E M' → zJx k G R nL Q M' (cl + R'.cells) (sl + R'.slots) pc lv E) (kk : ∀ (r : Option Value) (M' : zM), Rc' r M' → zJ k G R nL Q M' (cl + R'.cells) (sl + R'.slots) (pc + 3) lv (r.toList ++ rest)) : zJ k G R nL Q M (cl) (sl) (pc) lv (As.reverse ++ .ref b :: rest) := by
  obtain ⟨⟨p, l, e, s, m⟩, ⟨args, below, meth, c⟩, L0, M0⟩ := k
  have F' := F
  obtain ⟨⟨hx, hb, hml, hown, hts⟩, hLow, hfl, hlk, hrt, htb⟩ := F
  refine z_run (a := #[]) (R' := R') (rest := rest) (Rc' := Rc') (Xc' := Xc') F' (fun L H locs ls hRep hs hS hls => ?_) (fun v hv => List.mem_append_right _ (List.mem_cons_of_mem _ hv)) kx kk
  have hst : (As.reverse ++ .ref b :: rest).map (zmr L) = (As.map (zmr L)).reverse ++ .ref (L b) :: rest.map (zmr L) := by
    rw [List.map_append, List.map_reverse]
    rfl
  refine ⟨(Value.ref (L b) :: As.map (zmr L)).toArray, ?_⟩
  rw [hst]
  exact vx_runI (As := As.map (zmr L)) (rest := rest.map (zmr L)) (b := L b) ⟨hx, hb, hml, hown, hts⟩ (hM L) ⟨zCB hts hw.1 hR, hw.2.1, hts _ hw.2.2⟩ ⟨zBlind G L _ M, fun U hU hW => ⟨rfl, hLow.warm hS hU hW, by rw [hU]; exact hRep, List.forall_mem_cons.mpr ⟨hs _ (List.mem_append_right _ List.mem_cons_self), fun v hv => hs v (List.mem_append_left _ (List.mem_reverse.mpr hv))⟩⟩⟩ rfl ((List.length_map _).trans hn) hls rfl (lv_room (by rw [zmap_cat]; exact hrest)) d hcs
theorem z_callSN (F : zF k G cc nL own wsL_law ret tb) {y : MethodName} {bytes : ByteArray} {maxL index n : Nat} {host : String} {ret' : Option FieldType} {R' : Room} (As rest : List Value) (hM : zCn k.1.2.1 G y (.code y bytes maxL ret') R' As M Rc' Xc') (hq : (own, index, y, host) ∈ zNM) (hq2 : Cond.code y bytes maxL ret' ∈ wsL_law ∧ Cond.initialized y.cls ∈ wsL_law ∧ Cond.static y ∈ wsL_law) (hd : y.cls ≠ "java/lang/invoke/MethodHandle" ∧ y.cls ≠ "java/lang/invoke/VarHandle" ∧ (parseMethodDescriptor y.desc).map (fun d => d.parameters.length) = some n) (hn : As.length = n) (hR : R'.frames + 1 ≤ R.frames ∧ 8 + (maxL + 11) + R'.locals ≤ R.locals) (hcs : cl + R'.cells ≤ R.cells ∧ sl + R'.slots ≤ R.slots) (hrest : (rest.map fun v => v.category).sum ≤ 8) (d : decode cc pc = .ok (.invokestatic index, 3))
    (kx : ∀ (E : String) (M' : zM), Xc' E M' → zJx k G R nL Q M' (cl + R'.cells) (sl + R'.slots) pc lv E) (kk : ∀ (r : Option Value) (M' : zM), Rc' r M' → zJ k G R nL Q M' (cl + R'.cells) (sl + R'.slots) (pc + 3) lv (r.toList ++ rest)) : zJ k G R nL Q M (cl) (sl) (pc) lv (As.reverse ++ rest) := by
  obtain ⟨⟨p, l, e, s, m⟩, ⟨args, below, meth, c⟩, L0, M0⟩ := k
  have F' := F
  obtain ⟨⟨hx, hb, hml, hown, hts⟩, hLow, hfl, hlk, hrt, htb⟩ := F
  refine z_run (a := #[]) (R' := R') (rest := rest) (Rc' := Rc') (Xc' := Xc') F' (fun L H locs ls hRep hs hS hls => ?_) (fun v hv => List.mem_append_right _ hv) kx kk
  have hst : (As.reverse ++ rest).map (zmr L) = (As.map (zmr L)).reverse ++ rest.map (zmr L) := by
    rw [List.map_append, List.map_reverse]
  refine ⟨(As.map (zmr L)).toArray, ?_⟩
  rw [hst]
  exact vx_runSN (As := As.map (zmr L)) (rest := rest.map (zmr L)) (ws := .code y bytes maxL ret' :: wsL_law) ⟨hx, hb, hml, hown, hts⟩ (hM L) ⟨va_cnB n hts (fun w h => by rcases List.mem_cons.mp h with rfl | h; exact zGood _ hq2.1; exact zGood w h) rfl rfl rfl (hLow.2.2.2.2.2.2.2.2.2.1 _ hq) (hts _ hq2.2.1) hd hR, hts _ hq2.2.2, trivial⟩ ⟨zBlind G L _ M, fun U hU hW => ⟨rfl, hLow.warm hS hU hW, by rw [hU]; exact hRep, fun v hv => hs v (List.mem_append_left _ (List.mem_reverse.mpr hv))⟩⟩ rfl ((List.length_map _).trans hn) hls rfl (lv_room (by rw [zmap_cat]; exact hrest)) d hcs
theorem z_callIN (F : zF k G cc nL own wsL_law ret tb) {y : MethodName} {bytes : ByteArray} {maxL index n b : Nat} {host : String} {R' : Room} (As rest : List Value) (hM : zCn k.1.2.1 G y (.code y bytes maxL none) R' (.ref b :: As) M Rc' Xc') (hq : (own, index, y, host) ∈ zNM) (hq2 : Cond.code y bytes maxL none ∈ wsL_law ∧ Cond.initialized y.cls ∈ wsL_law ∧ y.name = "<init>" ∧ Cond.instanceMethod y ∈ wsL_law) (hd : y.cls ≠ "java/lang/invoke/MethodHandle" ∧ y.cls ≠ "java/lang/invoke/VarHandle" ∧ (parseMethodDescriptor y.desc).map (fun d => d.parameters.length) = some n) (hn : As.length = n) (hR : R'.frames + 1 ≤ R.frames ∧ 8 + (maxL + 11) + R'.locals ≤ R.locals) (hcs : cl + R'.cells ≤ R.cells ∧ sl + R'.slots ≤ R.slots) (hrest : (rest.map fun v => v.category).sum ≤ 8) (d : decode cc pc = .ok (.invokespecial index, 3))
    (kx : ∀ (E : String) (M' : zM), Xc' E M' → zJx k G R nL Q M' (cl + R'.cells) (sl + R'.slots) pc lv E) (kk : ∀ (r : Option Value) (M' : zM), Rc' r M' → zJ k G R nL Q M' (cl + R'.cells) (sl + R'.slots) (pc + 3) lv (r.toList ++ rest)) : zJ k G R nL Q M (cl) (sl) (pc) lv (As.reverse ++ .ref b :: rest) := by
  obtain ⟨⟨p, l, e, s, m⟩, ⟨args, below, meth, c⟩, L0, M0⟩ := k
  have F' := F
  obtain ⟨⟨hx, hb, hml, hown, hts⟩, hLow, hfl, hlk, hrt, htb⟩ := F
  refine z_run (a := #[]) (R' := R') (rest := rest) (Rc' := Rc') (Xc' := Xc') F' (fun L H locs ls hRep hs hS hls => ?_) (fun v hv => List.mem_append_right _ (List.mem_cons_of_mem _ hv)) kx kk
  have hst : (As.reverse ++ .ref b :: rest).map (zmr L) = (As.map (zmr L)).reverse ++ .ref (L b) :: rest.map (zmr L) := by
    rw [List.map_append, List.map_reverse]
    rfl
  refine ⟨(Value.ref (L b) :: As.map (zmr L)).toArray, ?_⟩
  rw [hst]
  exact vx_runIN (As := As.map (zmr L)) (rest := rest.map (zmr L)) (b := L b) (ws := .code y bytes maxL none :: wsL_law) ⟨hx, hb, hml, hown, hts⟩ (hM L) ⟨va_cnB n hts (fun w h => by rcases List.mem_cons.mp h with rfl | h; exact zGood _ hq2.1; exact zGood w h) rfl rfl rfl (hLow.2.2.2.2.2.2.2.2.2.1 _ hq) (hts _ hq2.2.1) hd hR, hq2.2.2.1, hts _ hq2.2.2.2⟩ ⟨zBlind G L _ M, fun U hU hW => ⟨rfl, hLow.warm hS hU hW, by rw [hU]; exact hRep, List.forall_mem_cons.mpr ⟨hs _ (List.mem_append_right _ List.mem_cons_self), fun v hv => hs v (List.mem_append_left _ (List.mem_reverse.mpr hv))⟩⟩⟩ rfl ((List.length_map _).trans hn) hls rfl (lv_room (by rw [zmap_cat]; exact hrest)) d hcs
theorem z_objI (F : zF k G cc nL own wsL_law ret tb) {index b : Nat} (h1 : Cond.methodLink own index objectInit ∈ wsL_law) (h2 : Cond.instanceMethod objectInit ∈ wsL_law) (h3 : Cond.code objectInit ⟨#[0xb1]⟩ 1 none ∈ wsL_law) (hfr : 1 ≤ R.frames) (hlo : (rest.map fun v => v.category).sum + 12 ≤ R.locals) (d : decode cc pc = .ok (.invokespecial index, 3)) (kk : zJ k G R nL Q M (cl) (sl) (pc + 3) lv (rest)) : zJ k G R nL Q M (cl) (sl) (pc) lv (.ref b :: rest) := by
  obtain ⟨⟨p, l, e, s, m⟩, ⟨args, below, meth, c⟩, L0, M0⟩ := k
  obtain ⟨⟨hx, hb, hml, hown, hts⟩, hLow, hfl, hlk, hrt, htb⟩ := F
  intro L H locs ls hR hA hv hs hS hl
  refine W.objInit hx hb hown (hts _ h1) (hts _ h2) (hts _ h3) rfl (hl.1.trans hml.symm) rfl d hfr ?_ (kk L H locs ls hR hA hv (zs_t hs) hS hl)
  have e := zmap_cat (L := L) (st := rest)
  show 2 * 0 + _ + 12 ≤ _
  omega
theorem z_S {R : Room} {H : Heap} {locs : List Loc} {s t : State} (hS : va_S (zA G) s.heap H locs) (ht : t.heap = H) : va_F (zA G) s t := hS.F ht
theorem z_reti (F : zF k G cc nL own wsL_law ret tb) {z : Int} (hr : ret = some .int) (hcl : cl ≤ R.cells) (hsl : sl ≤ R.slots) (d : decode cc pc = .ok (.ireturn, 1)) (h : Rc (some (.int (zI z))) M) : zJ k G R nL (zMQ k G R Rc Xc) M (cl) (sl) (pc) lv ([.int (zI z)]) := by
  obtain ⟨⟨p, l, e, s, m⟩, ⟨args, below, meth, c⟩, L0, M0⟩ := k
  obtain ⟨⟨hx, hb, hml, hown, hts⟩, hLow, hfl, hlk, hrt, htb⟩ := F
  intro L H locs ls hR hA hv hs hS hl
  refine vx_ret ?_
  refine W.widen hcl hsl ?_
  exact W.iret (v := zI z) hx hb (hrt.trans hr) (fun t ht hW => ⟨⟨some (.int (zI z)), M, L, rfl, h, by rw [ht]; exact hR, hA, fun v e a e2 => by cases e; cases e2⟩, hS.F ht⟩) hS.2.2 d
theorem z_retz (F : zF k G cc nL own wsL_law ret tb) {z : Int} (hr : ret = some .boolean) (hb01 : z = 0 ∨ z = 1) (hcl : cl ≤ R.cells) (hsl : sl ≤ R.slots) (d : decode cc pc = .ok (.ireturn, 1)) (h : Rc (some (.int (zI z))) M) : zJ k G R nL (zMQ k G R Rc Xc) M (cl) (sl) (pc) lv ([.int (zI z)]) := by
  obtain ⟨⟨p, l, e, s, m⟩, ⟨args, below, meth, c⟩, L0, M0⟩ := k
  obtain ⟨⟨hx, hb, hml, hown, hts⟩, hLow, hfl, hlk, hrt, htb⟩ := F
  intro L H locs ls hR hA hv hs hS hl
  refine vx_ret ?_
  refine W.widen hcl hsl ?_
  exact W.zret (v := zI z) hx hb (hrt.trans hr) (by rcases hb01 with rfl | rfl <;> rfl) (fun t ht hW => ⟨⟨some (.int (zI z)), M, L, rfl, h, by rw [ht]; exact hR, hA, fun v e a e2 => by cases e; cases e2⟩, hS.F ht⟩) hS.2.2 d
theorem z_retv (F : zF k G cc nL own wsL_law ret tb) (hr : ret = none) (hcl : cl ≤ R.cells) (hsl : sl ≤ R.slots) (d : decode cc pc = .ok (.return_, 1)) (h : Rc none M) : zJ k G R nL (zMQ k G R Rc Xc) M (cl) (sl) (pc) lv ([]) := by
  obtain ⟨⟨p, l, e, s, m⟩, ⟨args, below, meth, c⟩, L0, M0⟩ := k
  obtain ⟨⟨hx, hb, hml, hown, hts⟩, hLow, hfl, hlk, hrt, htb⟩ := F
  intro L H locs ls hR hA hv hs hS hl
  refine vx_ret ?_
  refine W.widen hcl hsl ?_
  exact W.vret hx hb (hrt.trans hr) (fun t ht hW => ⟨⟨none, M, L, rfl, h, by rw [ht]; exact hR, hA, fun v e => by cases e⟩, hS.F ht⟩) hS.2.2 d
theorem z_reta (F : zF k G cc nL own wsL_law ret tb) {a : Nat} {rt : FieldType} (hr : ret = some rt) (hrt2 : (∃ n, rt = .object n) ∨ ∃ t, rt = .array t) (hcl : cl ≤ R.cells) (hsl : sl ≤ R.slots) (d : decode cc pc = .ok (.areturn, 1)) (h : Rc (some (.ref a)) M) : zJ k G R nL (zMQ k G R Rc Xc) M (cl) (sl) (pc) lv ([.ref a]) := by
  obtain ⟨⟨p, l, e, s, m⟩, ⟨args, below, meth, c⟩, L0, M0⟩ := k
  obtain ⟨⟨hx, hb, hml, hown, hts⟩, hLow, hfl, hlk, hrt, htb⟩ := F
  intro L H locs ls hR hA hv hs hS hl
  refine vx_ret ?_
  refine W.widen hcl hsl ?_
  exact W.aret (v := .ref (L a)) hx hb (hrt.trans hr) hrt2 (Or.inr ⟨_, rfl⟩) (fun t ht hW => ⟨⟨some (.ref a), M, L, rfl, h, by rw [ht]; exact hR, hA, fun v e => by cases e; exact zs_h hs⟩, hS.F ht⟩) hS.2.2 d
/-- what a callee throws goes on -/
theorem z_xo {E : String} (F : zF k G cc nL own wsL_law ret []) (hcl : cl ≤ R.cells) (hsl : sl ≤ R.slots) (h : Xc E M) : zJx k G R nL (zMQ k G R Rc Xc) M cl sl pc lv E := by
  obtain ⟨⟨p, l, e, s, m⟩, ⟨args, below, meth, c⟩, L0, M0⟩ := k
  obtain ⟨⟨hx, hb, hml, hown, hts⟩, hLow, hfl, hlk, hrt, htb⟩ := F
  intro L H locs ls st q ce hR hA hv hS hl hce hcv hcl9
  exact vx_out (fun x hx => by rw [htb] at hx; cases hx) hlk hce hcv hcl9 (fun t ht hal => ⟨⟨M, L, h, by rw [ht]; exact hR, hA⟩, hS.F ht⟩) hS.2.2 hcl hsl
/-- answers by kind -/
def zRi (P : Int → zM → Prop) : Option Value → zM → Prop := fun r M' => ∃ x : Int, r = some (.int (zI x)) ∧ P x M'
def zRv (P : zM → Prop) : Option Value → zM → Prop := fun r M' => r = none ∧ P M'
def zRr (P : Nat → zM → Prop) : Option Value → zM → Prop := fun r M' => ∃ a : Nat, r = some (.ref a) ∧ P a M'
theorem z_ki {P : Int → zM → Prop} {cl' sl' pc' : Nat} (h : ∀ (x : Int) (M' : zM), P x M' → zJ k G R nL Q M' cl' sl' pc' lv (.int (zI x) :: rest)) : ∀ (r : Option Value) (M' : zM), zRi P r M' → zJ k G R nL Q M' cl' sl' pc' lv (r.toList ++ rest) := by
  rintro r M' ⟨x, rfl, hp⟩
  exact h x M' hp
theorem z_kv {P : zM → Prop} {cl' sl' pc' : Nat} (h : ∀ (M' : zM), P M' → zJ k G R nL Q M' cl' sl' pc' lv rest) : ∀ (r : Option Value) (M' : zM), zRv P r M' → zJ k G R nL Q M' cl' sl' pc' lv (r.toList ++ rest) := by
  rintro r M' ⟨rfl, hp⟩
  exact h M' hp
theorem z_kr {P : Nat → zM → Prop} {cl' sl' pc' : Nat} (h : ∀ (a : Nat) (M' : zM), P a M' → zJ k G R nL Q M' cl' sl' pc' lv (.ref a :: rest)) : ∀ (r : Option Value) (M' : zM), zRr P r M' → zJ k G R nL Q M' cl' sl' pc' lv (r.toList ++ rest) := by
  rintro r M' ⟨a, rfl, hp⟩
  exact h a M' hp
/-- nothing is thrown -/
def zN : String → zM → Prop := fun _ _ => False
theorem z_nx {cl' sl' : Nat} : ∀ (E : String) (M' : zM), zN E M' → zJx k G R nL Q M' cl' sl' pc lv E := fun _ _ h => h.elim
end ZC
