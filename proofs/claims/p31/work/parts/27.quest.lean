/-! ===== contracts without throws, the script, division and shifts ===== -/
theorem zCn.sure {l : Launch} {G : zG} {y : MethodName} {cw : Cond} {R : Room} {av : List Value} {M : zM} {Rc Rc' : Option Value → zM → Prop} {Xc : String → zM → Prop} (h : zCn l G y cw R av M Rc Xc) (hR : ∀ v M', Rc v M' → Rc' v M') (hX : ∀ E M', ¬ Xc E M') : zCn l G y cw R av M Rc' zN := by
  intro L0 p e ha hc hk s m args below hf hS hP hK
  obtain ⟨n, o, h1, h2, h3, h4⟩ := h L0 p e ha hc hk s m args below hf hS hP hK
  refine ⟨n, o, h1, h2, h3, ?_⟩
  rcases h4 with ⟨⟨⟨r, M', L', q1, q2, q3⟩, q4⟩, q5⟩ | ⟨q, hq, E, ce, L, ⟨⟨M', L', hx, _⟩, _⟩, _⟩
  · exact Or.inl ⟨⟨⟨r, M', L', q1, hR r M' q2, q3⟩, q4⟩, q5⟩
  · exact absurd hx (hX E M')
/-- the script, as the law reads it -/
def zSX (k : zC) (G : zG) (n : Nat) (xs : Nat → Int32) : Prop := va_X (G.2.2.2 127) n xs k.1.2.2.2.1 k.1.2.2.2.1.heap ∧ G.2.2.2 127 < k.1.2.2.2.1.heap.size ∧ ¬ zA G (G.2.2.2 127) ∧ n ≤ 2048
section ZQ
variable {k : zC} {G : zG} {R : Room} {nL : Nat} {Q : State → Prop} {M : zM} {cl sl pc : Nat} {lv : List (Nat × Value)} {st rest : List Value} {cc : ByteArray} {own : String} {ret : Option FieldType} {tb : List ExceptionTableEntry} {Rc Rc' : Option Value → zM → Prop} {Xc Xc' : String → zM → Prop}
theorem z_scr (F : zF k G cc nL own wsL_law ret tb) : ∃ (n : Nat) (xs : Nat → Int32), zSX k G n xs := F.2.1.2.2.2.2.2.2.2.2.2.2.2.2.2.2
theorem z_slen (F : zF k G cc nL own wsL_law ret tb) {n : Nat} {xs : Nat → Int32} (hX : zSX k G n xs) (d : decode cc pc = .ok (.arraylength, 1)) (kk : zJ k G R nL Q M cl sl (pc + 1) lv (.int (zI (n : Nat)) :: st)) : zJ k G R nL Q M cl sl pc lv (.ref 127 :: st) := by
  obtain ⟨⟨p, l, e, s, m⟩, ⟨args, below, meth, c⟩, L0, M0⟩ := k
  obtain ⟨⟨hx, hb, hml, hown, hts⟩, hLow, hfl, hlk, hrt, htb⟩ := F
  obtain ⟨h1, h2, h3, h4⟩ := hX
  intro L H locs ls hR hA hv hs hS hl
  have e127 : L 127 = G.2.2.2 127 := (hR.1 127 (by decide)).1
  have key := kk L H locs ls hR hA hv (zs_i (zs_t hs)) hS hl
  show W p l e R s m args below meth c H locs cl sl Q (F0 m pc ls (.ref (L 127) :: st.map (zmr L)))
  rw [e127]
  exact va_slen hx hb h1 h2 h3 hS d (by rw [zI_nat n] at key; exact key)
theorem z_sld (F : zF k G cc nL own wsL_law ret tb) {n : Nat} {xs : Nat → Int32} {i : Int} (hX : zSX k G n xs) (h0 : 0 ≤ i) (hn : i < n) (d : decode cc pc = .ok (.iaload, 1)) (kk : zJ k G R nL Q M cl sl (pc + 1) lv (.int (zI (xs i.toNat).toInt) :: st)) : zJ k G R nL Q M cl sl pc lv (.int (zI i) :: .ref 127 :: st) := by
  obtain ⟨⟨p, l, e, s, m⟩, ⟨args, below, meth, c⟩, L0, M0⟩ := k
  obtain ⟨⟨hx, hb, hml, hown, hts⟩, hLow, hfl, hlk, hrt, htb⟩ := F
  obtain ⟨h1, h2, h3, h4⟩ := hX
  intro L H locs ls hR hA hv hs hS hl
  have e127 : L 127 = G.2.2.2 127 := (hR.1 127 (by decide)).1
  have key := kk L H locs ls hR hA hv (zs_i (zs_t (zs_t hs))) hS hl
  show W p l e R s m args below meth c H locs cl sl Q (F0 m pc ls (.int (zI i) :: .ref (L 127) :: st.map (zmr L)))
  rw [e127]
  refine va_sld hx hb h1 h2 h3 hS (zI_in h0 hn (by omega)) d ?_
  rw [zI_c h0 (by omega)]
  rw [zI_x] at key
  exact key
theorem z_irem (F : zF k G cc nL own wsL_law ret tb) {x y : Int} (z : Int) (hy : zR y) (h0 : y ≠ 0) (h : zI x - zI x / zI y * zI y = zI z) (d : decode cc pc = .ok (.irem, 1)) (kk : zJ k G R nL Q M cl sl (pc + 1) lv (.int (zI z) :: st)) : zJ k G R nL Q M cl sl pc lv (.int (zI y) :: .int (zI x) :: st) := by
  obtain ⟨⟨p, l, e, s, m⟩, ⟨args, below, meth, c⟩, L0, M0⟩ := k
  obtain ⟨⟨hx, hb, hml, hown, hts⟩, hLow, hfl, hlk, hrt, htb⟩ := F
  intro L H locs ls hR hA hv hs hS hl
  refine lv_irem hx hb d (fun h9 => h0 ((zI_eq hy ⟨by decide, by decide⟩).mp (h9.trans zI_0.symm))) ?_
  rw [h]
  exact kk L H locs ls hR hA hv (zs_i (zs_t (zs_t hs))) hS hl
theorem z_idiv (F : zF k G cc nL own wsL_law ret tb) {x y : Int} (z : Int) (hy : zR y) (h0 : y ≠ 0) (h : zI x / zI y = zI z) (d : decode cc pc = .ok (.idiv, 1)) (kk : zJ k G R nL Q M cl sl (pc + 1) lv (.int (zI z) :: st)) : zJ k G R nL Q M cl sl pc lv (.int (zI y) :: .int (zI x) :: st) := by
  obtain ⟨⟨p, l, e, s, m⟩, ⟨args, below, meth, c⟩, L0, M0⟩ := k
  obtain ⟨⟨hx, hb, hml, hown, hts⟩, hLow, hfl, hlk, hrt, htb⟩ := F
  intro L H locs ls hR hA hv hs hS hl
  refine lv_idiv hx hb d (fun h9 => h0 ((zI_eq hy ⟨by decide, by decide⟩).mp (h9.trans zI_0.symm))) ?_
  rw [h]
  exact kk L H locs ls hR hA hv (zs_i (zs_t (zs_t hs))) hS hl
theorem z_iushr (F : zF k G cc nL own wsL_law ret tb) {x y : Int} (z : Int) (h : ((zI x).toUInt32 >>> ((zI y).toUInt32 &&& Int32.toUInt32 31)).toInt32 = zI z) (d : decode cc pc = .ok (.iushr, 1)) (kk : zJ k G R nL Q M cl sl (pc + 1) lv (.int (zI z) :: st)) : zJ k G R nL Q M cl sl pc lv (.int (zI y) :: .int (zI x) :: st) := by
  obtain ⟨⟨p, l, e, s, m⟩, ⟨args, below, meth, c⟩, L0, M0⟩ := k
  obtain ⟨⟨hx, hb, hml, hown, hts⟩, hLow, hfl, hlk, hrt, htb⟩ := F
  intro L H locs ls hR hA hv hs hS hl
  exact lv_iushr hx hb d h (kk L H locs ls hR hA hv (zs_i (zs_t (zs_t hs))) hS hl)
end ZQ
theorem zI_pos (r : Int32) : 0 ≤ r.toInt ↔ r.toBitVec.toNat < 2147483648 := by
  show 0 ≤ r.toBitVec.toInt ↔ _
  rw [BitVec.toInt_eq_toNat_cond]
  have := r.toBitVec.isLt
  split <;> omega
theorem zI_mask (z : Int) : ∃ r : Int, (0 ≤ r ∧ r < 2147483648) ∧ zI z &&& zI 2147483647 = zI r := by
  refine ⟨(zI z &&& zI 2147483647).toInt, ⟨(zI_pos _).mpr ?_, Int32.toInt_lt _⟩, (zI_x _).symm⟩
  show ((zI z).toBitVec &&& (zI 2147483647).toBitVec).toNat < 2147483648
  rw [BitVec.toNat_and]
  exact Nat.lt_of_le_of_lt Nat.and_le_right (by decide)
theorem zI_ushr {x : Int} (y : Int) (h0 : 0 ≤ x) (h1 : x < 2147483648) : ∃ q : Int, (0 ≤ q ∧ q < 2147483648) ∧ ((zI x).toUInt32 >>> ((zI y).toUInt32 &&& Int32.toUInt32 31)).toInt32 = zI q := by
  refine ⟨((zI x).toUInt32 >>> ((zI y).toUInt32 &&& Int32.toUInt32 31)).toInt32.toInt, ⟨(zI_pos _).mpr ?_, Int32.toInt_lt _⟩, (zI_x _).symm⟩
  show ((zI x).toUInt32 >>> ((zI y).toUInt32 &&& Int32.toUInt32 31)).toNat < 2147483648
  have hx : (zI x).toUInt32.toNat < 2147483648 := (zI_pos (zI x)).mp (by rw [zI_t ⟨by omega, h1⟩]; exact h0)
  rw [UInt32.toNat_shiftRight, Nat.shiftRight_eq_div_pow]
  exact Nat.lt_of_le_of_lt (Nat.div_le_self _ _) hx
theorem zI_div {x y : Int} (h0 : 0 ≤ x) (h1 : x < 2147483648) (h2 : 0 < y) (h3 : y < 2147483648) : zI x / zI y = zI (x / y) := by
  have q0 : 0 ≤ x / y := Int.ediv_nonneg h0 (by omega)
  have q1 : x / y ≤ x := Int.ediv_le_self _ h0
  rw [← zI_x (zI x / zI y), Int32.toInt_div, zI_t ⟨by omega, h1⟩, zI_t ⟨by omega, h3⟩, Int.tdiv_eq_ediv_of_nonneg h0]
  congr 1
  rw [Int.bmod_def]
  omega
theorem zI_rem {x y : Int} (h0 : 0 ≤ x) (h1 : x < 2147483648) (h2 : 0 < y) (h3 : y < 2147483648) : zI x - zI x / zI y * zI y = zI (x % y) := by
  rw [zI_div h0 h1 h2 h3, zI_mul, zI_sub]
  congr 1
  rw [Int.emod_def, Int.mul_comm]
theorem zR_of {a n : Int} (h0 : 0 ≤ a) (h1 : a < n) (hn : n ≤ 1000) : zR a := ⟨by omega, by omega⟩
/-- what goes on from step to step of the law -/
def zNx (s N : zS) : Prop := zInv N ∧ (∀ g, g < 8 → N g = s g) ∧ N 18 0 0 ≤ s 18 0 0 + 1
theorem zNx_rf {s : zS} (h : zInv s) : zNx s s := ⟨h, fun _ _ => rfl, by omega⟩
theorem zSrv_nx {c s : zS} (h : zInv c) (hg : ∀ g, g < 8 → c g = s g) (h18 : c 18 0 0 ≤ s 18 0 0 + 1) : zNx s (zSrv c).1 := by
  have h14 := h.c.2.2.2.1
  have e := zSw_f (c 14 0 0).toNat c 0 0 h.c.2.2.1.1
  exact ⟨zSw_inv _ h (by omega), fun g hg9 => (e.1 g hg9).trans (hg g hg9), by rw [e.2.1]; exact h18⟩
theorem q_lengthOf {l : Launch} (hfl : l.stackTraces = false) (G : zG) {s t : zS} {o : zOx} (hI : zInv s) {a : Int} (h : 0 ≤ a ∧ a < s 4 0 0) : zCn l G yX6_lengthOf (.code yX6_lengthOf cX6_lengthOf 2 (some .int)) rX6_lengthOf [.ref 0, .int (zI a)] (zAll s t o) (zRi (fun xr M2 => xr = zLen s a.toNat ∧ M2 = (zAll s t o))) zN :=
  (c_X6_lengthOf hfl G hI.c hI.b (zR_of h.1 h.2 (hI.b 4 0 0).2)).sure (fun v M' h9 => by obtain ⟨x9, e, h1, h2, h3⟩ := h9; exact ⟨x9, e, h2, h3⟩) (fun E M' h9 => h9.2.1 h)
theorem q_workOf {l : Launch} (hfl : l.stackTraces = false) (G : zG) {s t : zS} {o : zOx} (hI : zInv s) {a : Int} (h : 0 ≤ a ∧ a < s 4 0 0) : zCn l G yX6_workOf (.code yX6_workOf cX6_workOf 2 (some .int)) rX6_workOf [.ref 0, .int (zI a)] (zAll s t o) (zRi (fun xr M2 => xr = zWork s a.toNat ∧ M2 = (zAll s t o))) zN :=
  (c_X6_workOf hfl G hI.c hI.b (zR_of h.1 h.2 (hI.b 4 0 0).2)).sure (fun v M' h9 => by obtain ⟨x9, e, h1, h2, h3⟩ := h9; exact ⟨x9, e, h2, h3⟩) (fun E M' h9 => h9.2.1 h)
theorem q_startOf {l : Launch} (hfl : l.stackTraces = false) (G : zG) {s t : zS} {o : zOx} (hI : zInv s) {a : Int} (h : 0 ≤ a ∧ a < s 9 0 0) : zCn l G yX6_startOf (.code yX6_startOf cX6_startOf 2 (some .int)) rX6_startOf [.ref 0, .int (zI a)] (zAll s t o) (zRi (fun xr M2 => xr = s 13 a.toNat 0 ∧ M2 = (zAll s t o))) zN :=
  (c_X6_startOf hfl G hI.c hI.b (zR_of h.1 h.2 (hI.b 9 0 0).2)).sure (fun v M' h9 => by obtain ⟨x9, e, h1, h2, h3⟩ := h9; exact ⟨x9, e, h2, h3⟩) (fun E M' h9 => h9.2.1 h)
theorem q_staffOf {l : Launch} (hfl : l.stackTraces = false) (G : zG) {s t : zS} {o : zOx} (hI : zInv s) {a : Int} (h : 0 ≤ a ∧ a < s 9 0 0) : zCn l G yX6_staffOf (.code yX6_staffOf cX6_staffOf 2 (some .int)) rX6_staffOf [.ref 0, .int (zI a)] (zAll s t o) (zRi (fun xr M2 => xr = (if s 13 a.toNat 0 = -1 then -1 else s 11 a.toNat 0) ∧ M2 = (zAll s t o))) zN :=
  (c_X6_staffOf hfl G hI.c hI.b (zR_of h.1 h.2 (hI.b 9 0 0).2)).sure (fun v M' h9 => by obtain ⟨x9, e, h1, h2, h3⟩ := h9; exact ⟨x9, e, h2, h3⟩) (fun E M' h9 => h9.2.1 h)
theorem q_chairOf {l : Launch} (hfl : l.stackTraces = false) (G : zG) {s t : zS} {o : zOx} (hI : zInv s) {a : Int} (h : 0 ≤ a ∧ a < s 9 0 0) : zCn l G yX6_chairOf (.code yX6_chairOf cX6_chairOf 2 (some .int)) rX6_chairOf [.ref 0, .int (zI a)] (zAll s t o) (zRi (fun xr M2 => xr = (if s 13 a.toNat 0 = -1 then -1 else s 12 a.toNat 0) ∧ M2 = (zAll s t o))) zN :=
  (c_X6_chairOf hfl G hI.c hI.b (zR_of h.1 h.2 (hI.b 9 0 0).2)).sure (fun v M' h9 => by obtain ⟨x9, e, h1, h2, h3⟩ := h9; exact ⟨x9, e, h2, h3⟩) (fun E M' h9 => h9.2.1 h)
theorem q_serviceOf {l : Launch} (hfl : l.stackTraces = false) (G : zG) {s t : zS} {o : zOx} (hI : zInv s) {a : Int} (h : 0 ≤ a ∧ a < s 9 0 0) : zCn l G yX6_serviceOf (.code yX6_serviceOf cX6_serviceOf 2 (some .int)) rX6_serviceOf [.ref 0, .int (zI a)] (zAll s t o) (zRi (fun xr M2 => xr = s 10 a.toNat 0 ∧ M2 = (zAll s t o))) zN :=
  (c_X6_serviceOf hfl G hI.c hI.b (zR_of h.1 h.2 (hI.b 9 0 0).2)).sure (fun v M' h9 => by obtain ⟨x9, e, h1, h2, h3⟩ := h9; exact ⟨x9, e, h2, h3⟩) (fun E M' h9 => h9.2.1 h)
theorem q_requestAt {l : Launch} (hfl : l.stackTraces = false) (G : zG) {s t : zS} {o : zOx} (hI : zInv s) {a : Int} (h : 0 ≤ a ∧ a < s 14 0 0) : zCn l G yX6_requestAt (.code yX6_requestAt cX6_requestAt 2 (some .int)) rX6_requestAt [.ref 0, .int (zI a)] (zAll s t o) (zRi (fun xr M2 => xr = s 19 (s 17 a.toNat 0).toNat 0 ∧ M2 = (zAll s t o))) zN :=
  (c_X6_requestAt hfl G hI.c hI.b (zR_of h.1 h.2 (hI.b 14 0 0).2)).sure (fun v M' h9 => by obtain ⟨x9, e, h1, h2, h3⟩ := h9; exact ⟨x9, e, h2, h3⟩) (fun E M' h9 => h9.2.1 h)
theorem q_loadOf {l : Launch} (hfl : l.stackTraces = false) (G : zG) {s t : zS} {o : zOx} (hI : zInv s) {a : Int} (h : 0 ≤ a ∧ a < s 0 0 0) : zCn l G yX6_loadOf (.code yX6_loadOf cX6_loadOf 2 (some .int)) rX6_loadOf [.ref 0, .int (zI a)] (zAll s t o) (zRi (fun xr M2 => xr = zLoad s a ∧ M2 = (zAll s t o))) zN :=
  (c_X6_loadOf hfl G hI.c hI.b (zR_of h.1 h.2 (hI.b 0 0 0).2)).sure (fun v M' h9 => by obtain ⟨x9, e, h1, h2, h3⟩ := h9; exact ⟨x9, e, h2, h3⟩) (fun E M' h9 => h9.2.1 h)
theorem q_staffAt {l : Launch} (hfl : l.stackTraces = false) (G : zG) {s t : zS} {o : zOx} (hI : zInv s) {a x : Int} (h : (0 ≤ a ∧ a < s 0 0 0) ∧ 0 ≤ x ∧ x < 600) : zCn l G yX6_staffAt (.code yX6_staffAt cX6_staffAt 3 (some .int)) rX6_staffAt [.ref 0, .int (zI a), .int (zI x)] (zAll s t o) (zRi (fun xr M2 => xr = s 21 (a.toNat + 4) x.toNat ∧ M2 = (zAll s t o))) zN :=
  (c_X6_staffAt hfl G hI.c hI.b (zR_of h.1.1 h.1.2 (hI.b 0 0 0).2) (zR_of h.2.1 h.2.2 (by decide))).sure (fun v M' h9 => by obtain ⟨x9, e, h1, h2, h3⟩ := h9; exact ⟨x9, e, h2, h3⟩) (fun E M' h9 => h9.2.1 h)
theorem q_chairAt {l : Launch} (hfl : l.stackTraces = false) (G : zG) {s t : zS} {o : zOx} (hI : zInv s) {a x : Int} (h : (0 ≤ a ∧ a < 4) ∧ 0 ≤ x ∧ x < 600) : zCn l G yX6_chairAt (.code yX6_chairAt cX6_chairAt 3 (some .int)) rX6_chairAt [.ref 0, .int (zI a), .int (zI x)] (zAll s t o) (zRi (fun xr M2 => xr = s 21 a.toNat x.toNat ∧ M2 = (zAll s t o))) zN :=
  (c_X6_chairAt hfl G hI.c hI.b (zR_of h.1.1 h.1.2 (by decide)) (zR_of h.2.1 h.2.2 (by decide))).sure (fun v M' h9 => by obtain ⟨x9, e, h1, h2, h3⟩ := h9; exact ⟨x9, e, h2, h3⟩) (fun E M' h9 => h9.2.1 h)
theorem q_earliestByScan {l : Launch} (hfl : l.stackTraces = false) (G : zG) {s t : zS} {o : zOx} (hI : zInv s) {a x : Int} (h : (0 ≤ a ∧ a < s 4 0 0) ∧ 0 ≤ x ∧ x < 600) : zCn l G yX6_earliestByScan (.code yX6_earliestByScan cX6_earliestByScan 3 (some .int)) rX6_earliestByScan [.ref 0, .int (zI a), .int (zI x)] (zAll s t o) (zRi (fun xr M2 => xr = zFind s (zBit 31) a.toNat x 600 ∧ M2 = (zAll s t o))) zN :=
  (c_X6_earliestByScan hfl G hI.c hI.b (zR_of h.1.1 h.1.2 (hI.b 4 0 0).2) (zR_of h.2.1 h.2.2 (by decide))).sure (fun v M' h9 => by obtain ⟨x9, e, h1, h2, h3⟩ := h9; exact ⟨x9, e, h2, h3⟩) (fun E M' h9 => h9.2.1 h)
theorem q_earliest {l : Launch} (hfl : l.stackTraces = false) (G : zG) {s t : zS} {o : zOx} (hI : zInv s) {a x : Int} (h : (0 ≤ a ∧ a < s 4 0 0) ∧ 0 ≤ x ∧ x < 600) : zCn l G yX6_earliest (.code yX6_earliest cX6_earliest 3 (some .int)) rX6_earliest [.ref 0, .int (zI a), .int (zI x)] (zAll s t o) (zRi (fun xr M2 => xr = zFind s (zBit 31) a.toNat x 600 ∧ ∃ c9 : Nat → Int, M2 = zAll s t (o.1, c9) ∧ (∀ m, c9 m = 0 ∨ c9 m = 1))) zN :=
  (c_X6_earliest hfl G hI.c hI.b (zR_of h.1.1 h.1.2 (hI.b 4 0 0).2) (zR_of h.2.1 h.2.2 (by decide)) hI.ha).sure (fun v M' h9 => by obtain ⟨x9, e, h1, h2, h3⟩ := h9; exact ⟨x9, e, h2, h3⟩) (fun E M' h9 => h9.2.1 h)
theorem q_staffFor {l : Launch} (hfl : l.stackTraces = false) (G : zG) {s t : zS} {o : zOx} (hI : zInv s) {a x : Int} (h : (0 ≤ a ∧ a < s 4 0 0) ∧ 0 ≤ x ∧ x < 600) : zCn l G yX6_staffFor (.code yX6_staffFor cX6_staffFor 5 (some .int)) rX6_staffFor [.ref 0, .int (zI a), .int (zI x)] (zAll s t o) (zRi (fun xr M2 => xr = (if zFind s (zBit 31) a.toNat x 600 = -1 then -1 else zGet s (zBit 31) a.toNat (zFind s (zBit 31) a.toNat x 600)) ∧ ∃ c9 : Nat → Int, M2 = zAll s t (o.1, c9) ∧ (∀ m, c9 m = 0 ∨ c9 m = 1))) zN :=
  (c_X6_staffFor hfl G hI.c hI.b (zR_of h.1.1 h.1.2 (hI.b 4 0 0).2) (zR_of h.2.1 h.2.2 (by decide)) hI.ha).sure (fun v M' h9 => by obtain ⟨x9, e, h1, h2, h3⟩ := h9; exact ⟨x9, e, h2, h3⟩) (fun E M' h9 => h9.2.1 h)
theorem q_inRest {l : Launch} (hfl : l.stackTraces = false) (G : zG) {s t : zS} {o : zOx} (hI : zInv s) {a x : Int} (h : ((0 ≤ a ∧ a < s 9 0 0) ∧ ¬ s 13 a.toNat 0 = -1) ∧ 0 ≤ x ∧ x < s 4 0 0) : zCn l G yX6_inRest (.code yX6_inRest cX6_inRest 9 (some .int)) rX6_inRest [.ref 0, .int (zI a), .int (zI x)] (zAll s t o) (zRi (fun xr M2 => xr = zRest s a.toNat x.toNat ∧ M2 = (zAll s t o))) zN :=
  (c_X6_inRest hfl G hI.c hI.b (zR_of h.1.1.1 h.1.1.2 (hI.b 9 0 0).2) (zR_of h.2.1 h.2.2 (hI.b 4 0 0).2)).sure (fun v M' h9 => by obtain ⟨x9, e, h1, h2, h3⟩ := h9; exact ⟨x9, e, h2, h3⟩) (fun E M' h9 => h9.2.1 h)
theorem q_book {l : Launch} (hfl : l.stackTraces = false) (G : zG) {s t : zS} {o : zOx} (hI : zInv s) {a x : Int} (h : (0 ≤ a ∧ a < s 4 0 0) ∧ 0 ≤ x ∧ x < 600) (hn : s 9 0 0 < 30) (hF : ¬ (zFind s (zBit 31) a.toNat x 600) = -1) : zCn l G yX6_book (.code yX6_book cX6_book 3 (some .int)) rX6_book [.ref 0, .int (zI a), .int (zI x)] (zAll s t o) (zRi (fun xr M2 => xr = s 9 0 0 ∧ ∃ c9 : Nat → Int, M2 = zAll (zOpB s a.toNat (zGet s (zBit 31) a.toNat (zFind s (zBit 31) a.toNat x 600)) (zChair s a.toNat (zFind s (zBit 31) a.toNat x 600)) (zFind s (zBit 31) a.toNat x 600)) t (o.1, c9) ∧ (∀ m, c9 m = 0 ∨ c9 m = 1))) zN :=
  (c_X6_book hfl G hI.c hI.b (zR_of h.1.1 h.1.2 (hI.b 4 0 0).2) (zR_of h.2.1 h.2.2 (by decide)) hI).sure (fun v M' h9 => by obtain ⟨x9, e, h1, h2, h3⟩ := h9; exact ⟨x9, e, h3⟩) (fun E M' h9 => by rcases h9 with h9 | h9 | h9; exact h9.2.1 h; exact h9.2.2.1 hn; exact hF h9.2.2.1)
theorem q_move {l : Launch} (hfl : l.stackTraces = false) (G : zG) {s t : zS} {o : zOx} (hI : zInv s) (hob : ∀ m, o.2 m = 0 ∨ o.2 m = 1) {a x : Int} (h : ((0 ≤ a ∧ a < s 9 0 0) ∧ ¬ s 13 a.toNat 0 = -1) ∧ 0 ≤ x ∧ x < 600) (hF : ¬ (zFind (zOpO s a.toNat) (zBit 31) (s 10 a.toNat 0).toNat x 600) = -1) : zCn l G yX6_move (.code yX6_move cX6_move 8 (some .int)) rX6_move [.ref 0, .int (zI a), .int (zI x)] (zAll s t o) (zRi (fun xr M2 => xr = (zFind (zOpO s a.toNat) (zBit 31) (s 10 a.toNat 0).toNat x 600) ∧ ∃ c9 : Nat → Int, M2 = zAll (zSrv (zOpL (zOpO s a.toNat) a.toNat (zGet (zOpO s a.toNat) (zBit 31) (s 10 a.toNat 0).toNat (zFind (zOpO s a.toNat) (zBit 31) (s 10 a.toNat 0).toNat x 600)) (zChair (zOpO s a.toNat) (s 10 a.toNat 0).toNat (zFind (zOpO s a.toNat) (zBit 31) (s 10 a.toNat 0).toNat x 600)) (zFind (zOpO s a.toNat) (zBit 31) (s 10 a.toNat 0).toNat x 600))).1 t (o.1, c9) ∧ (∀ m, c9 m = 0 ∨ c9 m = 1))) zN :=
  (c_X6_move hfl G hI.c hI.b (zR_of h.1.1.1 h.1.1.2 (hI.b 9 0 0).2) (zR_of h.2.1 h.2.2 (by decide)) hI hob).sure (fun v M' h9 => by obtain ⟨x9, e, h1, h2, h3⟩ := h9; exact ⟨x9, e, h3⟩) (fun E M' h9 => by rcases h9 with h9 | h9; exact h9.2.1 h; exact hF h9.2.2.1)
theorem q_drop {l : Launch} (hfl : l.stackTraces = false) (G : zG) {s t : zS} {o : zOx} (hI : zInv s) (hob : ∀ m, o.2 m = 0 ∨ o.2 m = 1) {a : Int} (h : (0 ≤ a ∧ a < s 9 0 0) ∧ ¬ s 13 a.toNat 0 = -1) : zCn l G yX6_drop (.code yX6_drop cX6_drop 2 (some .int)) rX6_drop [.ref 0, .int (zI a)] (zAll s t o) (zRi (fun xr M2 => xr = (zSrv (zOpO s a.toNat)).2 ∧ ∃ c9 : Nat → Int, M2 = zAll (zSrv (zOpO s a.toNat)).1 t (o.1, c9) ∧ (∀ m, c9 m = 0 ∨ c9 m = 1))) zN :=
  (c_X6_drop hfl G hI.c hI.b (zR_of h.1.1 h.1.2 (hI.b 9 0 0).2) hI hob).sure (fun v M' h9 => by obtain ⟨x9, e, h1, h2⟩ := h9; exact ⟨x9, e, h2⟩) (fun E M' h9 => h9.2.1 h)
theorem q_request {l : Launch} (hfl : l.stackTraces = false) (G : zG) {s t : zS} {o : zOx} (hI : zInv s) {a x : Int} (h : (0 ≤ a ∧ a < s 4 0 0) ∧ 0 ≤ x ∧ x < 600) (hn : s 14 0 0 < 6) : zCn l G yX6_request (.code yX6_request cX6_request 4 (some .int)) rX6_request [.ref 0, .int (zI a), .int (zI x)] (zAll s t o) (zRi (fun xr M2 => xr = s 14 0 0 + 1 ∧ M2 = zAll (zOpQ s a.toNat x) t o)) zN :=
  (c_X6_request hfl G hI.c hI.b (zR_of h.1.1 h.1.2 (hI.b 4 0 0).2) (zR_of h.2.1 h.2.2 (by decide)) hI).sure (fun v M' h9 => by obtain ⟨x9, e, h1, h2, h3⟩ := h9; exact ⟨x9, e, h2, h3⟩) (fun E M' h9 => by rcases h9 with ⟨h9 | h9, _⟩; exact h9.2 h; exact h9.2.2 hn)
theorem q_hire {l : Launch} (hfl : l.stackTraces = false) (G : zG) {s t : zS} {o : zOx} (hI : zInv s) {a b d : Int} (h : (1 ≤ a ∧ a ≤ 15) ∧ (0 ≤ b ∧ b < 600) ∧ b < d ∧ d ≤ 600) (hn : s 0 0 0 < 5) : zCn l G yX6_hire (.code yX6_hire cX6_hire 4 (some .int)) rX6_hire [.ref 0, .int (zI a), .int (zI b), .int (zI d)] (zAll s t o) (zRi (fun xr M2 => xr = s 0 0 0 ∧ M2 = zAll (zOpH s a b d) t o)) zN :=
  (c_X6_hire hfl G hI.c hI.b ⟨by omega, by omega⟩ ⟨by omega, by omega⟩ ⟨by omega, by omega⟩ hI).sure (fun v M' h9 => by obtain ⟨x9, e, h1, h2, h3⟩ := h9; exact ⟨x9, e, h2, h3⟩) (fun E M' h9 => by rcases h9 with ⟨h9 | h9, _⟩; exact h9.2 h; exact h9.2.2 hn)
theorem q_addService {l : Launch} (hfl : l.stackTraces = false) (G : zG) {s t : zS} {o : zOx} (hI : zInv s) {a b : Int} (h : (0 ≤ a ∧ a < 4) ∧ 1 ≤ b ∧ b ≤ 200) (hn : s 4 0 0 < 8) : zCn l G yX6_addService (.code yX6_addService cX6_addService 4 (some .int)) rX6_addService [.ref 0, .int (zI a), .int (zI b)] (zAll s t o) (zRi (fun xr M2 => xr = s 4 0 0 ∧ M2 = zAll (zOpP (zOpN s) (s 4 0 0).toNat a b) t o)) zN :=
  (c_X6_addService hfl G hI.c hI.b ⟨by omega, by omega⟩ ⟨by omega, by omega⟩ hI).sure (fun v M' h9 => by obtain ⟨x9, e, h1, h2, h3⟩ := h9; exact ⟨x9, e, h2, h3⟩) (fun E M' h9 => by rcases h9 with ⟨h9 | h9, _⟩; exact h9.2 h; exact h9.2.2 hn)
theorem q_addUsual {l : Launch} (hfl : l.stackTraces = false) (G : zG) {s t : zS} {o : zOx} (hI : zInv s) {a : Int} (h : 0 ≤ a ∧ a < 4) (hn : s 4 0 0 < 8) : zCn l G yX6_addUsual (.code yX6_addUsual cX6_addUsual 3 (some .int)) rX6_addUsual [.ref 0, .int (zI a)] (zAll s t o) (zRi (fun xr M2 => xr = s 4 0 0 ∧ M2 = zAll (zUs (zOpN s) (s 4 0 0).toNat a) t o)) zN :=
  (c_X6_addUsual hfl G hI.c hI.b ⟨by omega, by omega⟩ hI).sure (fun v M' h9 => by obtain ⟨x9, e, h1, h2, h3⟩ := h9; exact ⟨x9, e, h2, h3⟩) (fun E M' h9 => by rcases h9 with ⟨h9 | h9, _⟩; exact h9.2 h; exact h9.2.2 hn)
theorem q_addStep {l : Launch} (hfl : l.stackTraces = false) (G : zG) {s t : zS} {o : zOx} (hI : zInv s) {a b d : Int} (h : 0 ≤ a ∧ a < s 4 0 0) (h2 : (-1 ≤ b ∧ b < 4) ∧ 1 ≤ d ∧ d ≤ 200) (h3 : s 5 a.toNat 0 < 5 ∧ s 8 a.toNat 0 = 0) : zCn l G yX6_addStep (.code yX6_addStep cX6_addStep 5 (some .int)) rX6_addStep [.ref 0, .int (zI a), .int (zI b), .int (zI d)] (zAll s t o) (zRi (fun xr M2 => xr = s 5 a.toNat 0 + 1 ∧ M2 = zAll (zOpP s a.toNat b d) t o)) zN :=
  (c_X6_addStep hfl G hI.c hI.b (zR_of h.1 h.2 (hI.b 4 0 0).2) ⟨by omega, by omega⟩ ⟨by omega, by omega⟩ hI).sure (fun v M' h9 => by obtain ⟨x9, e, g1, g2, g3⟩ := h9; exact ⟨x9, e, g2, g3⟩) (fun E M' h9 => by rcases h9 with ⟨h9 | h9 | h9, _⟩; exact h9.2 h; exact h9.2.2 h2; exact h9.2.2.2 h3)
