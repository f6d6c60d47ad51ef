/-! ===== the judgement of the abstract machine ===== -/
/-- the running method: machine and start state; its frame; where things stood at its start -/
abbrev zC : Type := (Program × Launch × Env × State × MethodId) × (Array Value × List Frame × Method × Code) × (Nat → Nat) × zM
/-- calls between nest mates -/
def zNM : List (String × Nat × MethodName × String) := [(RX0, 18, yX6_isMinute, "SalonBook"), (RX2, 15, yX6_isMinute, "SalonBook"), (RX6, 34, yX2_init, "SalonBook")]
def zNC : List (String × String) := [(RX1, "java/lang/Object"), (RX4, "java/lang/Object"), (RX5, "java/lang/Object"), (RX3, "java/lang/Object"), ("java/lang/IllegalArgumentException", "java/lang/IllegalArgumentException"), ("java/lang/IllegalStateException", "java/lang/IllegalStateException"), ("java/lang/IndexOutOfBoundsException", "java/lang/IndexOutOfBoundsException"), ("java/util/NoSuchElementException", "java/util/NoSuchElementException")]
def zND : List MethodName := [Bundle.initS "java/lang/RuntimeException", Bundle.initS "java/lang/Exception", Bundle.initS Bundle.tN]
def zScr (G : zG) (s : State) : Prop := ∃ (n : Nat) (xs : Nat → Int32), va_X (G.2.2.2 127) n xs s s.heap ∧ G.2.2.2 127 < s.heap.size ∧ ¬ zA G (G.2.2.2 127) ∧ n ≤ 2048
/-- what stays true below the first new address -/
def zLow (G : zG) (s : State) : Prop := va_K G.1 vwCl (zTy G) s ∧ vx_Zq Bundle.tN "UNASSIGNED_STACK" Bundle.steD (zA G) s s.heap ∧ vx_Zq Bundle.tN "SUPPRESSED_SENTINEL" Bundle.listD (zA G) s s.heap ∧ va_Z "java/util/ArrayList" "DEFAULTCAPACITY_EMPTY_ELEMENTDATA" "[Ljava/lang/Object;" (.ref (G.2.2.2 63)) (zA G) s s.heap ∧ va_T (.object "java/lang/Object") (G.2.2.2 63) 0 (fun _ => .null) (zA G) s s.heap ∧ (∀ q ∈ zStr, ∃ a, vk_R "SalonBook" q.1 q.2 a s) ∧ va_AO "SalonBook$Diary" s ∧ va_AO "java/lang/Object" s ∧ G.2.2.1 ≤ s.heap.size ∧ (∀ w ∈ zNM, va_Nw (.methodLinkNest w.1 w.2.1 w.2.2.1 w.2.2.2) s) ∧ (∀ w ∈ zNC, va_Nw (.castable w.1 w.2) s) ∧ va_Mi "[Ljava/lang/Object;" (G.2.2.2 191) s ∧ va_Dc s ∧ (∀ w ∈ zND, va_Nw (.declares w) s) ∧ zScr G s
def zW (k : zC) (R : Room) (H : Heap) (locs : List Loc) (cl sl : Nat) (Q : State → Prop) (pc : Nat) (ls : Array Slot) (st : List Value) : Prop := W k.1.1 k.1.2.1 k.1.2.2.1 R k.1.2.2.2.1 k.1.2.2.2.2 k.2.1.1 k.2.1.2.1 k.2.1.2.2.1 k.2.1.2.2.2 H locs cl sl Q (F0 k.1.2.2.2.2 pc ls st)
def zJ (k : zC) (G : zG) (R : Room) (nL : Nat) (Q : State → Prop) (M : zM) (cl sl pc : Nat) (lv : List (Nat × Value)) (st : List Value) : Prop :=
  ∀ (L : Nat → Nat) (H : Heap) (locs : List Loc) (ls : Array Slot), zRep G L M H → zAg k.2.2.1 k.2.2.2 L M → (∀ q ∈ lv, zok M q.2) → (∀ v ∈ st, zok M v) → va_S (zA G) k.1.2.2.2.1.heap H locs → lv_has ls nL (lv.map (zmq L)) → zW k R H locs cl sl Q pc ls (st.map (zmr L))
def zF (k : zC) (G : zG) (cc : ByteArray) (nL : Nat) (own : String) (Ts : List Cond) (ret : Option FieldType) (tb : List ExceptionTableEntry) : Prop :=
  CallFix k.1.1 k.1.2.2.2.2 k.2.1.2.2.2 cc nL k.1.2.2.2.1 k.2.1.1 Ts own ∧ zLow G k.1.2.2.2.1 ∧ k.1.2.1.stackTraces = false ∧ k.2.1.2.2.1.locks = false ∧ k.2.1.2.2.1.sig.returnType = ret ∧ k.2.1.2.2.2.exceptionTable.toList = tb
theorem zs_i {M : zM} {x : Int32} {st : List Value} (h : ∀ v ∈ st, zok M v) : ∀ v ∈ (Value.int x :: st), zok M v := List.forall_mem_cons.mpr ⟨fun a e => (nomatch e), h⟩
theorem zs_l {M : zM} {x : Int64} {st : List Value} (h : ∀ v ∈ st, zok M v) : ∀ v ∈ (Value.long x :: st), zok M v := List.forall_mem_cons.mpr ⟨fun a e => (nomatch e), h⟩
theorem zs_0 {M : zM} {st : List Value} (h : ∀ v ∈ st, zok M v) : ∀ v ∈ (Value.null :: st), zok M v := List.forall_mem_cons.mpr ⟨fun a e => (nomatch e), h⟩
theorem zs_r {M : zM} {a : Nat} {st : List Value} (ha : zin M a) (h : ∀ v ∈ st, zok M v) : ∀ v ∈ (Value.ref a :: st), zok M v := List.forall_mem_cons.mpr ⟨fun b e => (by cases e; exact ha), h⟩
theorem zs_t {M : zM} {x : Value} {st : List Value} (h : ∀ v ∈ (x :: st), zok M v) : ∀ v ∈ st, zok M v := fun v hv => h v (List.mem_cons_of_mem _ hv)
theorem zs_h {M : zM} {x : Value} {st : List Value} (h : ∀ v ∈ (x :: st), zok M v) : zok M x := h x List.mem_cons_self
theorem zs_at {M : zM} {lv : List (Nat × Value)} {j i : Nat} {v : Value} (h : ∀ q ∈ lv, zok M q.2) (hj : lv[j]? = some (i, v)) : zok M v := h (i, v) (List.mem_of_getElem? hj)
theorem zl_at {L : Nat → Nat} {ls : Array Slot} {nL j i : Nat} {v : Value} {lv : List (Nat × Value)} (h : lv_has ls nL (lv.map (zmq L))) (hj : lv[j]? = some (i, v)) : ls[i]? = some (.val (zmr L v)) := lv_at h j (by rw [List.getElem?_map, hj]; rfl)
theorem zl_set {L : Nat → Nat} {lv : List (Nat × Value)} {i : Nat} {v : Value} : (i, zmr L v) :: (lv.map (zmq L)).filter (fun q => !(q.1 == i) && !(q.1 + 1 == i && q.2.category == 2)) = ((i, v) :: lv.filter (fun q => !(q.1 == i) && !(q.1 + 1 == i && q.2.category == 2))).map (zmq L) := by
  rw [List.map_cons, List.filter_map, show ((fun (q : Nat × Value) => !(q.1 == i) && !(q.1 + 1 == i && q.2.category == 2)) ∘ zmq L) = (fun (q : Nat × Value) => !(q.1 == i) && !(q.1 + 1 == i && q.2.category == 2)) from funext fun q => by simp [zmq, zmr_cat]]
  rfl
theorem zv_set {M : zM} {lv : List (Nat × Value)} {i : Nat} {v : Value} (h : ∀ q ∈ lv, zok M q.2) (hv : zok M v) : ∀ q ∈ ((i, v) :: lv.filter (fun q => !(q.1 == i) && !(q.1 + 1 == i && q.2.category == 2))), zok M q.2 := List.forall_mem_cons.mpr ⟨hv, fun q hq => h q (List.mem_filter.mp hq).1⟩
section ZP
variable {k : zC} {G : zG} {R : Room} {nL : Nat} {Q : State → Prop} {M : zM} {cl sl pc : Nat} {lv : List (Nat × Value)} {st : List Value} {cc : ByteArray} {own : String} {Ts : List Cond} {ret : Option FieldType} {tb : List ExceptionTableEntry}
theorem z_iconst (F : zF k G cc nL own Ts ret tb) {n z : Int} (d : decode cc pc = .ok (.iconst n, 1)) (h : Int32.ofInt n = zI z) (kk : zJ k G R nL Q M cl sl (pc + 1) lv (.int (zI z) :: st)) : zJ k G R nL Q M cl sl (pc) lv (st) := by
  obtain ⟨⟨p, l, e, s, m⟩, ⟨args, below, meth, c⟩, L0, M0⟩ := k
  obtain ⟨⟨hx, hb, hml, hown, hts⟩, hLow, hfl, hlk, hrt, htb⟩ := F
  intro L H locs ls hR hA hv hs hS hl
  exact lv_iconst hx hb d h (kk L H locs ls hR hA hv (zs_i hs) hS hl)
theorem z_bipush (F : zF k G cc nL own Ts ret tb) {n z : Int} (d : decode cc pc = .ok (.bipush n, 2)) (h : (Int8.ofInt n).toInt32 = zI z) (kk : zJ k G R nL Q M cl sl (pc + 2) lv (.int (zI z) :: st)) : zJ k G R nL Q M cl sl (pc) lv (st) := by
  obtain ⟨⟨p, l, e, s, m⟩, ⟨args, below, meth, c⟩, L0, M0⟩ := k
  obtain ⟨⟨hx, hb, hml, hown, hts⟩, hLow, hfl, hlk, hrt, htb⟩ := F
  intro L H locs ls hR hA hv hs hS hl
  exact lv_bipush hx hb d h (kk L H locs ls hR hA hv (zs_i hs) hS hl)
theorem z_sipush (F : zF k G cc nL own Ts ret tb) {n z : Int} (d : decode cc pc = .ok (.sipush n, 3)) (h : (Int16.ofInt n).toInt32 = zI z) (kk : zJ k G R nL Q M cl sl (pc + 3) lv (.int (zI z) :: st)) : zJ k G R nL Q M cl sl (pc) lv (st) := by
  obtain ⟨⟨p, l, e, s, m⟩, ⟨args, below, meth, c⟩, L0, M0⟩ := k
  obtain ⟨⟨hx, hb, hml, hown, hts⟩, hLow, hfl, hlk, hrt, htb⟩ := F
  intro L H locs ls hR hA hv hs hS hl
  exact lv_sipush hx hb d h (kk L H locs ls hR hA hv (zs_i hs) hS hl)
theorem z_null (F : zF k G cc nL own Ts ret tb) (d : decode cc pc = .ok (.aconst_null, 1)) (kk : zJ k G R nL Q M cl sl (pc + 1) lv (.null :: st)) : zJ k G R nL Q M cl sl (pc) lv (st) := by
  obtain ⟨⟨p, l, e, s, m⟩, ⟨args, below, meth, c⟩, L0, M0⟩ := k
  obtain ⟨⟨hx, hb, hml, hown, hts⟩, hLow, hfl, hlk, hrt, htb⟩ := F
  intro L H locs ls hR hA hv hs hS hl
  exact lv_null hx hb d (kk L H locs ls hR hA hv (zs_0 hs) hS hl)
theorem z_ldc (F : zF k G cc nL own Ts ret tb) {n : Nat} {z : Int} (w : Cond.constant own n (zI z) ∈ Ts) (d : decode cc pc = .ok (.ldc n, 2)) (kk : zJ k G R nL Q M cl sl (pc + 2) lv (.int (zI z) :: st)) : zJ k G R nL Q M cl sl (pc) lv (st) := by
  obtain ⟨⟨p, l, e, s, m⟩, ⟨args, below, meth, c⟩, L0, M0⟩ := k
  obtain ⟨⟨hx, hb, hml, hown, hts⟩, hLow, hfl, hlk, hrt, htb⟩ := F
  intro L H locs ls hR hA hv hs hS hl
  exact lv_ldc hx hb hown (hts _ w) d (kk L H locs ls hR hA hv (zs_i hs) hS hl)
theorem z_iload_n (F : zF k G cc nL own Ts ret tb) (j : Nat) {n : Fin 4} {i : Nat} {z : Int} (d : decode cc pc = .ok (.iload_n n, 1)) (hi : (n : Nat) = i) (hj : lv[j]? = some (i, .int (zI z))) (kk : zJ k G R nL Q M cl sl (pc + 1) lv (.int (zI z) :: st)) : zJ k G R nL Q M cl sl (pc) lv (st) := by
  obtain ⟨⟨p, l, e, s, m⟩, ⟨args, below, meth, c⟩, L0, M0⟩ := k
  obtain ⟨⟨hx, hb, hml, hown, hts⟩, hLow, hfl, hlk, hrt, htb⟩ := F
  intro L H locs ls hR hA hv hs hS hl
  exact lv_iload_n hx hb d hi (zl_at hl hj) (kk L H locs ls hR hA hv (zs_i hs) hS hl)
theorem z_iload (F : zF k G cc nL own Ts ret tb) (j : Nat) {i : Nat} {z : Int} (d : decode cc pc = .ok (.iload i, 2)) (hj : lv[j]? = some (i, .int (zI z))) (kk : zJ k G R nL Q M cl sl (pc + 2) lv (.int (zI z) :: st)) : zJ k G R nL Q M cl sl (pc) lv (st) := by
  obtain ⟨⟨p, l, e, s, m⟩, ⟨args, below, meth, c⟩, L0, M0⟩ := k
  obtain ⟨⟨hx, hb, hml, hown, hts⟩, hLow, hfl, hlk, hrt, htb⟩ := F
  intro L H locs ls hR hA hv hs hS hl
  exact lv_iload hx hb d (zl_at hl hj) (kk L H locs ls hR hA hv (zs_i hs) hS hl)
theorem z_aload_n (F : zF k G cc nL own Ts ret tb) (j : Nat) {n : Fin 4} {i : Nat} {a : Nat} (d : decode cc pc = .ok (.aload_n n, 1)) (hi : (n : Nat) = i) (hj : lv[j]? = some (i, .ref a)) (kk : zJ k G R nL Q M cl sl (pc + 1) lv (.ref a :: st)) : zJ k G R nL Q M cl sl (pc) lv (st) := by
  obtain ⟨⟨p, l, e, s, m⟩, ⟨args, below, meth, c⟩, L0, M0⟩ := k
  obtain ⟨⟨hx, hb, hml, hown, hts⟩, hLow, hfl, hlk, hrt, htb⟩ := F
  intro L H locs ls hR hA hv hs hS hl
  exact lv_aload_n hx hb d hi (zl_at hl hj) (kk L H locs ls hR hA hv (zs_r (zs_at hv hj a rfl) hs) hS hl)
theorem z_aload (F : zF k G cc nL own Ts ret tb) (j : Nat) {i : Nat} {a : Nat} (d : decode cc pc = .ok (.aload i, 2)) (hj : lv[j]? = some (i, .ref a)) (kk : zJ k G R nL Q M cl sl (pc + 2) lv (.ref a :: st)) : zJ k G R nL Q M cl sl (pc) lv (st) := by
  obtain ⟨⟨p, l, e, s, m⟩, ⟨args, below, meth, c⟩, L0, M0⟩ := k
  obtain ⟨⟨hx, hb, hml, hown, hts⟩, hLow, hfl, hlk, hrt, htb⟩ := F
  intro L H locs ls hR hA hv hs hS hl
  exact lv_aload hx hb d (zl_at hl hj) (kk L H locs ls hR hA hv (zs_r (zs_at hv hj a rfl) hs) hS hl)
theorem z_istore_n (F : zF k G cc nL own Ts ret tb) {n : Fin 4} {i : Nat} {z : Int} (lv' : List (Nat × Value)) (d : decode cc pc = .ok (.istore_n n, 1)) (hi : (n : Nat) = i) (hn : i < nL) (hlv : (i, Value.int (zI z)) :: lv.filter (fun q => !(q.1 == i) && !(q.1 + 1 == i && q.2.category == 2)) = lv') (kk : zJ k G R nL Q M cl sl (pc + 1) lv' (st)) : zJ k G R nL Q M cl sl (pc) lv (.int (zI z) :: st) := by
  obtain ⟨⟨p, l, e, s, m⟩, ⟨args, below, meth, c⟩, L0, M0⟩ := k
  obtain ⟨⟨hx, hb, hml, hown, hts⟩, hLow, hfl, hlk, hrt, htb⟩ := F
  intro L H locs ls hR hA hv hs hS hl
  refine lv_istore_n hx hb d hi hl hn rfl (fun ls' hl' => ?_)
  subst hlv
  exact kk L H locs ls' hR hA (zv_set hv (fun a e => by cases e)) (zs_t hs) hS (zl_set ▸ hl')
theorem z_istore (F : zF k G cc nL own Ts ret tb) {i : Nat} {z : Int} (lv' : List (Nat × Value)) (d : decode cc pc = .ok (.istore i, 2)) (hn : i < nL) (hlv : (i, Value.int (zI z)) :: lv.filter (fun q => !(q.1 == i) && !(q.1 + 1 == i && q.2.category == 2)) = lv') (kk : zJ k G R nL Q M cl sl (pc + 2) lv' (st)) : zJ k G R nL Q M cl sl (pc) lv (.int (zI z) :: st) := by
  obtain ⟨⟨p, l, e, s, m⟩, ⟨args, below, meth, c⟩, L0, M0⟩ := k
  obtain ⟨⟨hx, hb, hml, hown, hts⟩, hLow, hfl, hlk, hrt, htb⟩ := F
  intro L H locs ls hR hA hv hs hS hl
  refine lv_istore hx hb d hl hn rfl (fun ls' hl' => ?_)
  subst hlv
  exact kk L H locs ls' hR hA (zv_set hv (fun a e => by cases e)) (zs_t hs) hS (zl_set ▸ hl')
theorem z_astore_n (F : zF k G cc nL own Ts ret tb) {n : Fin 4} {i : Nat} {a : Nat} (lv' : List (Nat × Value)) (d : decode cc pc = .ok (.astore_n n, 1)) (hi : (n : Nat) = i) (hn : i < nL) (hlv : (i, Value.ref a) :: lv.filter (fun q => !(q.1 == i) && !(q.1 + 1 == i && q.2.category == 2)) = lv') (kk : zJ k G R nL Q M cl sl (pc + 1) lv' (st)) : zJ k G R nL Q M cl sl (pc) lv (.ref a :: st) := by
  obtain ⟨⟨p, l, e, s, m⟩, ⟨args, below, meth, c⟩, L0, M0⟩ := k
  obtain ⟨⟨hx, hb, hml, hown, hts⟩, hLow, hfl, hlk, hrt, htb⟩ := F
  intro L H locs ls hR hA hv hs hS hl
  refine lv_astore_n hx hb d hi hl hn rfl (fun ls' hl' => ?_)
  subst hlv
  exact kk L H locs ls' hR hA (zv_set hv (zs_h hs)) (zs_t hs) hS (zl_set ▸ hl')
theorem z_astore (F : zF k G cc nL own Ts ret tb) {i : Nat} {a : Nat} (lv' : List (Nat × Value)) (d : decode cc pc = .ok (.astore i, 2)) (hn : i < nL) (hlv : (i, Value.ref a) :: lv.filter (fun q => !(q.1 == i) && !(q.1 + 1 == i && q.2.category == 2)) = lv') (kk : zJ k G R nL Q M cl sl (pc + 2) lv' (st)) : zJ k G R nL Q M cl sl (pc) lv (.ref a :: st) := by
  obtain ⟨⟨p, l, e, s, m⟩, ⟨args, below, meth, c⟩, L0, M0⟩ := k
  obtain ⟨⟨hx, hb, hml, hown, hts⟩, hLow, hfl, hlk, hrt, htb⟩ := F
  intro L H locs ls hR hA hv hs hS hl
  refine lv_astore hx hb d hl hn rfl (fun ls' hl' => ?_)
  subst hlv
  exact kk L H locs ls' hR hA (zv_set hv (zs_h hs)) (zs_t hs) hS (zl_set ▸ hl')
theorem z_iinc (F : zF k G cc nL own Ts ret tb) (j : Nat) {i : Nat} {n z : Int} (lv' : List (Nat × Value)) (d : decode cc pc = .ok (.iinc i n, 3)) (hj : lv[j]? = some (i, .int (zI z))) (hn : i < nL) (hlv : (i, Value.int (zI (z + n))) :: lv.filter (fun q => !(q.1 == i) && !(q.1 + 1 == i && q.2.category == 2)) = lv') (kk : zJ k G R nL Q M cl sl (pc + 3) lv' (st)) : zJ k G R nL Q M cl sl (pc) lv (st) := by
  obtain ⟨⟨p, l, e, s, m⟩, ⟨args, below, meth, c⟩, L0, M0⟩ := k
  obtain ⟨⟨hx, hb, hml, hown, hts⟩, hLow, hfl, hlk, hrt, htb⟩ := F
  intro L H locs ls hR hA hv hs hS hl
  refine lv_iinc (k := j) (x := zI z) (v := zI (z + n)) hx hb d hl (by rw [List.getElem?_map, hj]; rfl) (zI_add z n) hn rfl (fun ls' hl' => ?_)
  subst hlv
  exact kk L H locs ls' hR hA (zv_set hv (fun a e => by cases e)) hs hS (zl_set (L := L) (v := .int (zI (z + n))) ▸ hl')
theorem z_iadd (F : zF k G cc nL own Ts ret tb) {x y : Int} (d : decode cc pc = .ok (.iadd, 1)) (kk : zJ k G R nL Q M cl sl (pc + 1) lv (.int (zI (x + y)) :: st)) : zJ k G R nL Q M cl sl (pc) lv (.int (zI y) :: .int (zI x) :: st) := by
  obtain ⟨⟨p, l, e, s, m⟩, ⟨args, below, meth, c⟩, L0, M0⟩ := k
  obtain ⟨⟨hx, hb, hml, hown, hts⟩, hLow, hfl, hlk, hrt, htb⟩ := F
  intro L H locs ls hR hA hv hs hS hl
  refine lv_iadd hx hb d ?_
  rw [zI_add]
  exact kk L H locs ls hR hA hv (zs_i (zs_t (zs_t hs))) hS hl
theorem z_isub (F : zF k G cc nL own Ts ret tb) {x y : Int} (d : decode cc pc = .ok (.isub, 1)) (kk : zJ k G R nL Q M cl sl (pc + 1) lv (.int (zI (x - y)) :: st)) : zJ k G R nL Q M cl sl (pc) lv (.int (zI y) :: .int (zI x) :: st) := by
  obtain ⟨⟨p, l, e, s, m⟩, ⟨args, below, meth, c⟩, L0, M0⟩ := k
  obtain ⟨⟨hx, hb, hml, hown, hts⟩, hLow, hfl, hlk, hrt, htb⟩ := F
  intro L H locs ls hR hA hv hs hS hl
  refine lv_isub hx hb d ?_
  rw [zI_sub]
  exact kk L H locs ls hR hA hv (zs_i (zs_t (zs_t hs))) hS hl
theorem z_imul (F : zF k G cc nL own Ts ret tb) {x y : Int} (d : decode cc pc = .ok (.imul, 1)) (kk : zJ k G R nL Q M cl sl (pc + 1) lv (.int (zI (x * y)) :: st)) : zJ k G R nL Q M cl sl (pc) lv (.int (zI y) :: .int (zI x) :: st) := by
  obtain ⟨⟨p, l, e, s, m⟩, ⟨args, below, meth, c⟩, L0, M0⟩ := k
  obtain ⟨⟨hx, hb, hml, hown, hts⟩, hLow, hfl, hlk, hrt, htb⟩ := F
  intro L H locs ls hR hA hv hs hS hl
  refine lv_imul hx hb d ?_
  rw [zI_mul]
  exact kk L H locs ls hR hA hv (zs_i (zs_t (zs_t hs))) hS hl
theorem z_iand (F : zF k G cc nL own Ts ret tb) {x y : Int} (z : Int) (d : decode cc pc = .ok (.iand, 1)) (h : zI x &&& zI y = zI z) (kk : zJ k G R nL Q M cl sl (pc + 1) lv (.int (zI z) :: st)) : zJ k G R nL Q M cl sl (pc) lv (.int (zI y) :: .int (zI x) :: st) := by
  obtain ⟨⟨p, l, e, s, m⟩, ⟨args, below, meth, c⟩, L0, M0⟩ := k
  obtain ⟨⟨hx, hb, hml, hown, hts⟩, hLow, hfl, hlk, hrt, htb⟩ := F
  intro L H locs ls hR hA hv hs hS hl
  refine lv_iand hx hb d ?_
  rw [h]
  exact kk L H locs ls hR hA hv (zs_i (zs_t (zs_t hs))) hS hl
theorem z_ior (F : zF k G cc nL own Ts ret tb) {x y : Int} (z : Int) (d : decode cc pc = .ok (.ior, 1)) (h : zI x ||| zI y = zI z) (kk : zJ k G R nL Q M cl sl (pc + 1) lv (.int (zI z) :: st)) : zJ k G R nL Q M cl sl (pc) lv (.int (zI y) :: .int (zI x) :: st) := by
  obtain ⟨⟨p, l, e, s, m⟩, ⟨args, below, meth, c⟩, L0, M0⟩ := k
  obtain ⟨⟨hx, hb, hml, hown, hts⟩, hLow, hfl, hlk, hrt, htb⟩ := F
  intro L H locs ls hR hA hv hs hS hl
  refine lv_ior hx hb d ?_
  rw [h]
  exact kk L H locs ls hR hA hv (zs_i (zs_t (zs_t hs))) hS hl
theorem z_ixor (F : zF k G cc nL own Ts ret tb) {x y : Int} (z : Int) (d : decode cc pc = .ok (.ixor, 1)) (h : zI x ^^^ zI y = zI z) (kk : zJ k G R nL Q M cl sl (pc + 1) lv (.int (zI z) :: st)) : zJ k G R nL Q M cl sl (pc) lv (.int (zI y) :: .int (zI x) :: st) := by
  obtain ⟨⟨p, l, e, s, m⟩, ⟨args, below, meth, c⟩, L0, M0⟩ := k
  obtain ⟨⟨hx, hb, hml, hown, hts⟩, hLow, hfl, hlk, hrt, htb⟩ := F
  intro L H locs ls hR hA hv hs hS hl
  refine lv_ixor hx hb d ?_
  rw [h]
  exact kk L H locs ls hR hA hv (zs_i (zs_t (zs_t hs))) hS hl
theorem z_ishl (F : zF k G cc nL own Ts ret tb) {x y : Int} (z : Int) (d : decode cc pc = .ok (.ishl, 1)) (h : zI x <<< (zI y &&& 31) = zI z) (kk : zJ k G R nL Q M cl sl (pc + 1) lv (.int (zI z) :: st)) : zJ k G R nL Q M cl sl (pc) lv (.int (zI y) :: .int (zI x) :: st) := by
  obtain ⟨⟨p, l, e, s, m⟩, ⟨args, below, meth, c⟩, L0, M0⟩ := k
  obtain ⟨⟨hx, hb, hml, hown, hts⟩, hLow, hfl, hlk, hrt, htb⟩ := F
  intro L H locs ls hR hA hv hs hS hl
  refine lv_ishl hx hb d ?_
  rw [h]
  exact kk L H locs ls hR hA hv (zs_i (zs_t (zs_t hs))) hS hl
theorem z_ishr (F : zF k G cc nL own Ts ret tb) {x y : Int} (z : Int) (d : decode cc pc = .ok (.ishr, 1)) (h : zI x >>> (zI y &&& 31) = zI z) (kk : zJ k G R nL Q M cl sl (pc + 1) lv (.int (zI z) :: st)) : zJ k G R nL Q M cl sl (pc) lv (.int (zI y) :: .int (zI x) :: st) := by
  obtain ⟨⟨p, l, e, s, m⟩, ⟨args, below, meth, c⟩, L0, M0⟩ := k
  obtain ⟨⟨hx, hb, hml, hown, hts⟩, hLow, hfl, hlk, hrt, htb⟩ := F
  intro L H locs ls hR hA hv hs hS hl
  refine lv_ishr hx hb d ?_
  rw [h]
  exact kk L H locs ls hR hA hv (zs_i (zs_t (zs_t hs))) hS hl
theorem z_dup (F : zF k G cc nL own Ts ret tb) {v : Value} (d : decode cc pc = .ok (.dup, 1)) (h : v.category = 1) (kk : zJ k G R nL Q M cl sl (pc + 1) lv (v :: v :: st)) : zJ k G R nL Q M cl sl (pc) lv (v :: st) := by
  obtain ⟨⟨p, l, e, s, m⟩, ⟨args, below, meth, c⟩, L0, M0⟩ := k
  obtain ⟨⟨hx, hb, hml, hown, hts⟩, hLow, hfl, hlk, hrt, htb⟩ := F
  intro L H locs ls hR hA hv hs hS hl
  exact lv_dup hx hb d ((zmr_cat L v).trans h) (kk L H locs ls hR hA hv (List.forall_mem_cons.mpr ⟨zs_h hs, hs⟩) hS hl)
theorem z_pop (F : zF k G cc nL own Ts ret tb) {v : Value} (d : decode cc pc = .ok (.pop, 1)) (h : v.category = 1) (kk : zJ k G R nL Q M cl sl (pc + 1) lv (st)) : zJ k G R nL Q M cl sl (pc) lv (v :: st) := by
  obtain ⟨⟨p, l, e, s, m⟩, ⟨args, below, meth, c⟩, L0, M0⟩ := k
  obtain ⟨⟨hx, hb, hml, hown, hts⟩, hLow, hfl, hlk, hrt, htb⟩ := F
  intro L H locs ls hR hA hv hs hS hl
  exact lv_pop hx hb d ((zmr_cat L v).trans h) (kk L H locs ls hR hA hv (zs_t hs) hS hl)
theorem z_dup_x1 (F : zF k G cc nL own Ts ret tb) {v w : Value} (d : decode cc pc = .ok (.dup_x1, 1)) (h : v.category = 1) (h2 : w.category = 1) (kk : zJ k G R nL Q M cl sl (pc + 1) lv (v :: w :: v :: st)) : zJ k G R nL Q M cl sl (pc) lv (v :: w :: st) := by
  obtain ⟨⟨p, l, e, s, m⟩, ⟨args, below, meth, c⟩, L0, M0⟩ := k
  obtain ⟨⟨hx, hb, hml, hown, hts⟩, hLow, hfl, hlk, hrt, htb⟩ := F
  intro L H locs ls hR hA hv hs hS hl
  exact lv_dup_x1 hx hb d ((zmr_cat L v).trans h) ((zmr_cat L w).trans h2) (kk L H locs ls hR hA hv (List.forall_mem_cons.mpr ⟨zs_h hs, List.forall_mem_cons.mpr ⟨zs_h (zs_t hs), List.forall_mem_cons.mpr ⟨zs_h hs, zs_t (zs_t hs)⟩⟩⟩) hS hl)
theorem z_goto (F : zF k G cc nL own Ts ret tb) (tgt : Nat) {off : Int} (d : decode cc pc = .ok (.goto off, 3)) (ht : (pc : Int) + off = (tgt : Int)) (kk : zJ k G R nL Q M cl sl (tgt) lv (st)) : zJ k G R nL Q M cl sl (pc) lv (st) := by
  obtain ⟨⟨p, l, e, s, m⟩, ⟨args, below, meth, c⟩, L0, M0⟩ := k
  obtain ⟨⟨hx, hb, hml, hown, hts⟩, hLow, hfl, hlk, hrt, htb⟩ := F
  intro L H locs ls hR hA hv hs hS hl
  exact lv_goto hx hb d ht (kk L H locs ls hR hA hv hs hS hl)
theorem z_icmp_eq (F : zF k G cc nL own Ts ret tb) (tgt : Nat) {x y off : Int} (d : decode cc pc = .ok (.if_icmp .eq off, 3)) (ht : (pc : Int) + off = (tgt : Int)) (h1 : zR x) (h2 : zR y) (kt : x = y → zJ k G R nL Q M cl sl (tgt) lv (st)) (kf : x ≠ y → zJ k G R nL Q M cl sl (pc + 3) lv (st)) : zJ k G R nL Q M cl sl (pc) lv (.int (zI y) :: .int (zI x) :: st) := by
  obtain ⟨⟨p, l, e, s, m⟩, ⟨args, below, meth, c⟩, L0, M0⟩ := k
  obtain ⟨⟨hx, hb, hml, hown, hts⟩, hLow, hfl, hlk, hrt, htb⟩ := F
  intro L H locs ls hR hA hv hs hS hl
  exact lv_icmp_eq hx hb d ht (fun c9 => kt ((zI_eq h1 h2).mp c9) L H locs ls hR hA hv (zs_t (zs_t hs)) hS hl) (fun c9 => kf (fun q => c9 ((zI_eq h1 h2).mpr q)) L H locs ls hR hA hv (zs_t (zs_t hs)) hS hl)
theorem z_if_eq (F : zF k G cc nL own Ts ret tb) (tgt : Nat) {x off : Int} (d : decode cc pc = .ok (.ifCond .eq off, 3)) (ht : (pc : Int) + off = (tgt : Int)) (h1 : zR x) (kt : x = 0 → zJ k G R nL Q M cl sl (tgt) lv (st)) (kf : x ≠ 0 → zJ k G R nL Q M cl sl (pc + 3) lv (st)) : zJ k G R nL Q M cl sl (pc) lv (.int (zI x) :: st) := by
  obtain ⟨⟨p, l, e, s, m⟩, ⟨args, below, meth, c⟩, L0, M0⟩ := k
  obtain ⟨⟨hx, hb, hml, hown, hts⟩, hLow, hfl, hlk, hrt, htb⟩ := F
  intro L H locs ls hR hA hv hs hS hl
  have h2 : zR 0 := ⟨by decide, by decide⟩
  exact lv_if_eq hx hb d ht (fun c9 => kt ((zI_eq h1 h2).mp c9) L H locs ls hR hA hv (zs_t hs) hS hl) (fun c9 => kf (fun q => c9 ((zI_eq h1 h2).mpr q)) L H locs ls hR hA hv (zs_t hs) hS hl)
theorem z_icmp_ne (F : zF k G cc nL own Ts ret tb) (tgt : Nat) {x y off : Int} (d : decode cc pc = .ok (.if_icmp .ne off, 3)) (ht : (pc : Int) + off = (tgt : Int)) (h1 : zR x) (h2 : zR y) (kt : x ≠ y → zJ k G R nL Q M cl sl (tgt) lv (st)) (kf : x = y → zJ k G R nL Q M cl sl (pc + 3) lv (st)) : zJ k G R nL Q M cl sl (pc) lv (.int (zI y) :: .int (zI x) :: st) := by
  obtain ⟨⟨p, l, e, s, m⟩, ⟨args, below, meth, c⟩, L0, M0⟩ := k
  obtain ⟨⟨hx, hb, hml, hown, hts⟩, hLow, hfl, hlk, hrt, htb⟩ := F
  intro L H locs ls hR hA hv hs hS hl
  exact lv_icmp_ne hx hb d ht (fun c9 => kt (fun q => c9 ((zI_eq h1 h2).mpr q)) L H locs ls hR hA hv (zs_t (zs_t hs)) hS hl) (fun c9 => kf ((zI_eq h1 h2).mp c9) L H locs ls hR hA hv (zs_t (zs_t hs)) hS hl)
theorem z_if_ne (F : zF k G cc nL own Ts ret tb) (tgt : Nat) {x off : Int} (d : decode cc pc = .ok (.ifCond .ne off, 3)) (ht : (pc : Int) + off = (tgt : Int)) (h1 : zR x) (kt : x ≠ 0 → zJ k G R nL Q M cl sl (tgt) lv (st)) (kf : x = 0 → zJ k G R nL Q M cl sl (pc + 3) lv (st)) : zJ k G R nL Q M cl sl (pc) lv (.int (zI x) :: st) := by
  obtain ⟨⟨p, l, e, s, m⟩, ⟨args, below, meth, c⟩, L0, M0⟩ := k
  obtain ⟨⟨hx, hb, hml, hown, hts⟩, hLow, hfl, hlk, hrt, htb⟩ := F
  intro L H locs ls hR hA hv hs hS hl
  have h2 : zR 0 := ⟨by decide, by decide⟩
  exact lv_if_ne hx hb d ht (fun c9 => kt (fun q => c9 ((zI_eq h1 h2).mpr q)) L H locs ls hR hA hv (zs_t hs) hS hl) (fun c9 => kf ((zI_eq h1 h2).mp c9) L H locs ls hR hA hv (zs_t hs) hS hl)
theorem z_icmp_lt (F : zF k G cc nL own Ts ret tb) (tgt : Nat) {x y off : Int} (d : decode cc pc = .ok (.if_icmp .lt off, 3)) (ht : (pc : Int) + off = (tgt : Int)) (h1 : zR x) (h2 : zR y) (kt : x < y → zJ k G R nL Q M cl sl (tgt) lv (st)) (kf : y ≤ x → zJ k G R nL Q M cl sl (pc + 3) lv (st)) : zJ k G R nL Q M cl sl (pc) lv (.int (zI y) :: .int (zI x) :: st) := by
  obtain ⟨⟨p, l, e, s, m⟩, ⟨args, below, meth, c⟩, L0, M0⟩ := k
  obtain ⟨⟨hx, hb, hml, hown, hts⟩, hLow, hfl, hlk, hrt, htb⟩ := F
  intro L H locs ls hR hA hv hs hS hl
  exact lv_icmp_lt hx hb d ht (fun c9 => kt ((zI_lt h1 h2).mp c9) L H locs ls hR hA hv (zs_t (zs_t hs)) hS hl) (fun c9 => kf (by have := mt (zI_lt h1 h2).mpr c9; omega) L H locs ls hR hA hv (zs_t (zs_t hs)) hS hl)
theorem z_if_lt (F : zF k G cc nL own Ts ret tb) (tgt : Nat) {x off : Int} (d : decode cc pc = .ok (.ifCond .lt off, 3)) (ht : (pc : Int) + off = (tgt : Int)) (h1 : zR x) (kt : x < 0 → zJ k G R nL Q M cl sl (tgt) lv (st)) (kf : 0 ≤ x → zJ k G R nL Q M cl sl (pc + 3) lv (st)) : zJ k G R nL Q M cl sl (pc) lv (.int (zI x) :: st) := by
  obtain ⟨⟨p, l, e, s, m⟩, ⟨args, below, meth, c⟩, L0, M0⟩ := k
  obtain ⟨⟨hx, hb, hml, hown, hts⟩, hLow, hfl, hlk, hrt, htb⟩ := F
  intro L H locs ls hR hA hv hs hS hl
  have h2 : zR 0 := ⟨by decide, by decide⟩
  exact lv_if_lt hx hb d ht (fun c9 => kt ((zI_lt h1 h2).mp c9) L H locs ls hR hA hv (zs_t hs) hS hl) (fun c9 => kf (by have := mt (zI_lt h1 h2).mpr c9; omega) L H locs ls hR hA hv (zs_t hs) hS hl)
theorem z_icmp_ge (F : zF k G cc nL own Ts ret tb) (tgt : Nat) {x y off : Int} (d : decode cc pc = .ok (.if_icmp .ge off, 3)) (ht : (pc : Int) + off = (tgt : Int)) (h1 : zR x) (h2 : zR y) (kt : y ≤ x → zJ k G R nL Q M cl sl (tgt) lv (st)) (kf : x < y → zJ k G R nL Q M cl sl (pc + 3) lv (st)) : zJ k G R nL Q M cl sl (pc) lv (.int (zI y) :: .int (zI x) :: st) := by
  obtain ⟨⟨p, l, e, s, m⟩, ⟨args, below, meth, c⟩, L0, M0⟩ := k
  obtain ⟨⟨hx, hb, hml, hown, hts⟩, hLow, hfl, hlk, hrt, htb⟩ := F
  intro L H locs ls hR hA hv hs hS hl
  exact lv_icmp_ge hx hb d ht (fun c9 => kt ((zI_le h2 h1).mp c9) L H locs ls hR hA hv (zs_t (zs_t hs)) hS hl) (fun c9 => kf (by have := mt (zI_le h2 h1).mpr c9; omega) L H locs ls hR hA hv (zs_t (zs_t hs)) hS hl)
theorem z_if_ge (F : zF k G cc nL own Ts ret tb) (tgt : Nat) {x off : Int} (d : decode cc pc = .ok (.ifCond .ge off, 3)) (ht : (pc : Int) + off = (tgt : Int)) (h1 : zR x) (kt : 0 ≤ x → zJ k G R nL Q M cl sl (tgt) lv (st)) (kf : x < 0 → zJ k G R nL Q M cl sl (pc + 3) lv (st)) : zJ k G R nL Q M cl sl (pc) lv (.int (zI x) :: st) := by
  obtain ⟨⟨p, l, e, s, m⟩, ⟨args, below, meth, c⟩, L0, M0⟩ := k
  obtain ⟨⟨hx, hb, hml, hown, hts⟩, hLow, hfl, hlk, hrt, htb⟩ := F
  intro L H locs ls hR hA hv hs hS hl
  have h2 : zR 0 := ⟨by decide, by decide⟩
  exact lv_if_ge hx hb d ht (fun c9 => kt ((zI_le h2 h1).mp c9) L H locs ls hR hA hv (zs_t hs) hS hl) (fun c9 => kf (by have := mt (zI_le h2 h1).mpr c9; omega) L H locs ls hR hA hv (zs_t hs) hS hl)
theorem z_icmp_gt (F : zF k G cc nL own Ts ret tb) (tgt : Nat) {x y off : Int} (d : decode cc pc = .ok (.if_icmp .gt off, 3)) (ht : (pc : Int) + off = (tgt : Int)) (h1 : zR x) (h2 : zR y) (kt : y < x → zJ k G R nL Q M cl sl (tgt) lv (st)) (kf : x ≤ y → zJ k G R nL Q M cl sl (pc + 3) lv (st)) : zJ k G R nL Q M cl sl (pc) lv (.int (zI y) :: .int (zI x) :: st) := by
  obtain ⟨⟨p, l, e, s, m⟩, ⟨args, below, meth, c⟩, L0, M0⟩ := k
  obtain ⟨⟨hx, hb, hml, hown, hts⟩, hLow, hfl, hlk, hrt, htb⟩ := F
  intro L H locs ls hR hA hv hs hS hl
  exact lv_icmp_gt hx hb d ht (fun c9 => kt ((zI_lt h2 h1).mp c9) L H locs ls hR hA hv (zs_t (zs_t hs)) hS hl) (fun c9 => kf (by have := mt (zI_lt h2 h1).mpr c9; omega) L H locs ls hR hA hv (zs_t (zs_t hs)) hS hl)
theorem z_if_gt (F : zF k G cc nL own Ts ret tb) (tgt : Nat) {x off : Int} (d : decode cc pc = .ok (.ifCond .gt off, 3)) (ht : (pc : Int) + off = (tgt : Int)) (h1 : zR x) (kt : 0 < x → zJ k G R nL Q M cl sl (tgt) lv (st)) (kf : x ≤ 0 → zJ k G R nL Q M cl sl (pc + 3) lv (st)) : zJ k G R nL Q M cl sl (pc) lv (.int (zI x) :: st) := by
  obtain ⟨⟨p, l, e, s, m⟩, ⟨args, below, meth, c⟩, L0, M0⟩ := k
  obtain ⟨⟨hx, hb, hml, hown, hts⟩, hLow, hfl, hlk, hrt, htb⟩ := F
  intro L H locs ls hR hA hv hs hS hl
  have h2 : zR 0 := ⟨by decide, by decide⟩
  exact lv_if_gt hx hb d ht (fun c9 => kt ((zI_lt h2 h1).mp c9) L H locs ls hR hA hv (zs_t hs) hS hl) (fun c9 => kf (by have := mt (zI_lt h2 h1).mpr c9; omega) L H locs ls hR hA hv (zs_t hs) hS hl)
theorem z_icmp_le (F : zF k G cc nL own Ts ret tb) (tgt : Nat) {x y off : Int} (d : decode cc pc = .ok (.if_icmp .le off, 3)) (ht : (pc : Int) + off = (tgt : Int)) (h1 : zR x) (h2 : zR y) (kt : x ≤ y → zJ k G R nL Q M cl sl (tgt) lv (st)) (kf : y < x → zJ k G R nL Q M cl sl (pc + 3) lv (st)) : zJ k G R nL Q M cl sl (pc) lv (.int (zI y) :: .int (zI x) :: st) := by
  obtain ⟨⟨p, l, e, s, m⟩, ⟨args, below, meth, c⟩, L0, M0⟩ := k
  obtain ⟨⟨hx, hb, hml, hown, hts⟩, hLow, hfl, hlk, hrt, htb⟩ := F
  intro L H locs ls hR hA hv hs hS hl
  exact lv_icmp_le hx hb d ht (fun c9 => kt ((zI_le h1 h2).mp c9) L H locs ls hR hA hv (zs_t (zs_t hs)) hS hl) (fun c9 => kf (by have := mt (zI_le h1 h2).mpr c9; omega) L H locs ls hR hA hv (zs_t (zs_t hs)) hS hl)
theorem z_if_le (F : zF k G cc nL own Ts ret tb) (tgt : Nat) {x off : Int} (d : decode cc pc = .ok (.ifCond .le off, 3)) (ht : (pc : Int) + off = (tgt : Int)) (h1 : zR x) (kt : x ≤ 0 → zJ k G R nL Q M cl sl (tgt) lv (st)) (kf : 0 < x → zJ k G R nL Q M cl sl (pc + 3) lv (st)) : zJ k G R nL Q M cl sl (pc) lv (.int (zI x) :: st) := by
  obtain ⟨⟨p, l, e, s, m⟩, ⟨args, below, meth, c⟩, L0, M0⟩ := k
  obtain ⟨⟨hx, hb, hml, hown, hts⟩, hLow, hfl, hlk, hrt, htb⟩ := F
  intro L H locs ls hR hA hv hs hS hl
  have h2 : zR 0 := ⟨by decide, by decide⟩
  exact lv_if_le hx hb d ht (fun c9 => kt ((zI_le h1 h2).mp c9) L H locs ls hR hA hv (zs_t hs) hS hl) (fun c9 => kf (by have := mt (zI_le h1 h2).mpr c9; omega) L H locs ls hR hA hv (zs_t hs) hS hl)
theorem z_lv (lv' : List (Nat × Value)) (ks : List Nat) (h : lv_pick lv ks = lv') (kk : zJ k G R nL Q M cl sl (pc) lv' (st)) : zJ k G R nL Q M cl sl (pc) lv (st) := by
  intro L H locs ls hR hA hv hs hS hl
  refine kk L H locs ls hR hA (fun q hq => ?_) hs hS ⟨hl.1, hl.2.1, fun q hq => ?_⟩
  · rw [← h] at hq
    obtain ⟨j, -, hj⟩ := List.mem_filterMap.mp hq
    exact hv q (List.mem_of_getElem? hj)
  · obtain ⟨w, hw, rfl⟩ := List.mem_map.mp hq
    rw [← h] at hw
    obtain ⟨j, -, hj⟩ := List.mem_filterMap.mp hw
    exact hl.2.2 _ (List.mem_map.mpr ⟨w, List.mem_of_getElem? hj, rfl⟩)
theorem z_wd (cl' sl' : Nat) (h1 : cl ≤ cl') (h2 : sl ≤ sl') (kk : zJ k G R nL Q M cl' sl' pc lv st) : zJ k G R nL Q M cl sl pc lv st := by
  intro L H locs ls hR hA hv hs hS hl
  exact W.widen h1 h2 (kk L H locs ls hR hA hv hs hS hl)
theorem z_M {M' : zM} (h : M = M') (kk : zJ k G R nL Q M' cl sl pc lv st) : zJ k G R nL Q M cl sl pc lv st := h ▸ kk
theorem z_top {v w : Value} (h : v = w) (kk : zJ k G R nL Q M cl sl pc lv (w :: st)) : zJ k G R nL Q M cl sl pc lv (v :: st) := h ▸ kk
theorem z_ti {x y : Int} (h : x = y) (kk : zJ k G R nL Q M cl sl pc lv (.int (zI y) :: st)) : zJ k G R nL Q M cl sl pc lv (.int (zI x) :: st) := h ▸ kk
theorem z_tr {x y : Nat} (h : x = y) (kk : zJ k G R nL Q M cl sl pc lv (.ref y :: st)) : zJ k G R nL Q M cl sl pc lv (.ref x :: st) := h ▸ kk
end ZP
