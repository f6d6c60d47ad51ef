/-! ===== rules that the lists' methods want ===== -/
section ZR
variable {k : zC} {G : zG} {R : Room} {nL : Nat} {Q : State → Prop} {M : zM} {cl sl pc : Nat} {lv : List (Nat × Value)} {st : List Value} {cc : ByteArray} {own : String} {ret : Option FieldType} {tb : List ExceptionTableEntry}
theorem z_max (F : zF k G cc nL own wsL_law ret tb) {x y : Int} {index : Nat} (w1 : Cond.methodLink own index Lib.Math.max.name ∈ wsL_law) (w2 : Cond.static Lib.Math.max.name ∈ wsL_law) (w3 : Cond.initialized "java/lang/Math" ∈ wsL_law) (w4 : Cond.code Lib.Math.max.name Lib.Math.max.code 2 (some .int) ∈ wsL_law) (h1 : zR x) (h2 : zR y) (hfr : 1 ≤ R.frames) (hlo : (st.map fun v => v.category).sum + 13 ≤ R.locals) (hcl : cl ≤ R.cells) (hsl : sl ≤ R.slots) (d : decode cc pc = .ok (.invokestatic index, 3)) (kk : zJ k G R nL Q M (cl) (sl) (pc + 3) lv (.int (zI (if x < y then y else x)) :: st)) : zJ k G R nL Q M (cl) (sl) (pc) lv (.int (zI y) :: .int (zI x) :: st) := by
  obtain ⟨⟨p, l, e, s, m⟩, ⟨args, below, meth, c⟩, L0, M0⟩ := k
  obtain ⟨⟨hx, hb, hml, hown, hts⟩, hLow, hfl, hlk, hrt, htb⟩ := F
  intro L H locs ls hR hA hv hs hS hl
  refine va_mmax hx hb (hml.trans hl.1.symm) hown (hts _ w1) (hts _ w2) (hts _ w3) (hts _ w4) hfr (by rw [zmap_cat]; exact hlo) hcl hsl d ?_
  have e9 : (if zI x < zI y then zI y else zI x) = zI (if x < y then y else x) := by
    by_cases c9 : x < y
    · rw [if_pos c9, if_pos ((zI_lt h1 h2).mpr c9)]
    · rw [if_neg c9, if_neg (mt (zI_lt h1 h2).mp c9)]
  rw [e9]
  exact kk L H locs ls hR hA hv (zs_i (zs_t (zs_t hs))) hS hl
theorem z_min (F : zF k G cc nL own wsL_law ret tb) {x y : Int} {index : Nat} (w1 : Cond.methodLink own index Lib.Math.min.name ∈ wsL_law) (w2 : Cond.static Lib.Math.min.name ∈ wsL_law) (w3 : Cond.initialized "java/lang/Math" ∈ wsL_law) (w4 : Cond.code Lib.Math.min.name Lib.Math.min.code 2 (some .int) ∈ wsL_law) (h1 : zR x) (h2 : zR y) (hfr : 1 ≤ R.frames) (hlo : (st.map fun v => v.category).sum + 13 ≤ R.locals) (hcl : cl ≤ R.cells) (hsl : sl ≤ R.slots) (d : decode cc pc = .ok (.invokestatic index, 3)) (kk : zJ k G R nL Q M (cl) (sl) (pc + 3) lv (.int (zI (if y < x then y else x)) :: st)) : zJ k G R nL Q M (cl) (sl) (pc) lv (.int (zI y) :: .int (zI x) :: st) := by
  obtain ⟨⟨p, l, e, s, m⟩, ⟨args, below, meth, c⟩, L0, M0⟩ := k
  obtain ⟨⟨hx, hb, hml, hown, hts⟩, hLow, hfl, hlk, hrt, htb⟩ := F
  intro L H locs ls hR hA hv hs hS hl
  refine va_mmin hx hb (hml.trans hl.1.symm) hown (hts _ w1) (hts _ w2) (hts _ w3) (hts _ w4) hfr (by rw [zmap_cat]; exact hlo) hcl hsl d ?_
  have e9 : (if zI y < zI x then zI y else zI x) = zI (if y < x then y else x) := by
    by_cases c9 : y < x
    · rw [if_pos c9, if_pos ((zI_lt h2 h1).mpr c9)]
    · rw [if_neg c9, if_neg (mt (zI_lt h2 h1).mp c9)]
  rw [e9]
  exact kk L H locs ls hR hA hv (zs_i (zs_t (zs_t hs))) hS hl
theorem z_alenE (F : zF k G cc nL own wsL_law ret tb) (d : decode cc pc = .ok (.arraylength, 1)) (kk : zJ k G R nL Q M (cl) (sl) (pc + 1) lv (.int (zI 0) :: st)) : zJ k G R nL Q M (cl) (sl) (pc) lv (.ref 63 :: st) := by
  obtain ⟨⟨p, l, e, s, m⟩, ⟨args, below, meth, c⟩, L0, M0⟩ := k
  obtain ⟨⟨hx, hb, hml, hown, hts⟩, hLow, hfl, hlk, hrt, htb⟩ := F
  intro L H locs ls hR hA hv hs hS hl
  have hE := hLow.2.2.2.2.1
  obtain ⟨cell, g1, g2, g3, g4, g5, g6, g7⟩ := hE.kept hS.2.1
  have e9 : zmr L (.ref 63) = .ref (G.2.2.2 63) := congrArg Value.ref (hR.1 63 rfl).1
  show zW _ R H locs cl sl Q pc ls (zmr L (.ref 63) :: st.map (zmr L))
  rw [e9]
  exact W.alen (n := zI 0) hx hb g1 g2 (g5.trans rfl) rfl rfl d (kk L H locs ls hR hA hv (zs_i (zs_t hs)) hS hl)
/-- a reference compared with itself -/
theorem z_acmp_eq (F : zF k G cc nL own wsL_law ret tb) (tgt : Nat) {a : Nat} {off : Int} (d : decode cc pc = .ok (.if_acmp .eq off, 3)) (ht : (pc : Int) + off = (tgt : Int)) (kk : zJ k G R nL Q M (cl) (sl) (tgt) lv (st)) : zJ k G R nL Q M (cl) (sl) (pc) lv (.ref a :: .ref a :: st) := by
  obtain ⟨⟨p, l, e, s, m⟩, ⟨args, below, meth, c⟩, L0, M0⟩ := k
  obtain ⟨⟨hx, hb, hml, hown, hts⟩, hLow, hfl, hlk, hrt, htb⟩ := F
  intro L H locs ls hR hA hv hs hS hl
  exact lv_acmp_eq (rx := some (L a)) (ry := some (L a)) hx hb d ht (fun _ => kk L H locs ls hR hA hv (zs_t (zs_t hs)) hS hl) (fun h => absurd rfl h)
theorem z_acmp_ne (F : zF k G cc nL own wsL_law ret tb) {a : Nat} {off : Int} {tgt : Nat} (d : decode cc pc = .ok (.if_acmp .ne off, 3)) (ht : (pc : Int) + off = (tgt : Int)) (kk : zJ k G R nL Q M (cl) (sl) (pc + 3) lv (st)) : zJ k G R nL Q M (cl) (sl) (pc) lv (.ref a :: .ref a :: st) := by
  obtain ⟨⟨p, l, e, s, m⟩, ⟨args, below, meth, c⟩, L0, M0⟩ := k
  obtain ⟨⟨hx, hb, hml, hown, hts⟩, hLow, hfl, hlk, hrt, htb⟩ := F
  intro L H locs ls hR hA hv hs hS hl
  exact lv_acmp_ne (rx := some (L a)) (ry := some (L a)) hx hb d ht (fun h => absurd rfl h) (fun _ => kk L H locs ls hR hA hv (zs_t (zs_t hs)) hS hl)
theorem z_arrcls {G : zG} {s : State} (hK : va_K G.1 vwCl (zTy G) s) : s.vm.findClass "[Ljava/lang/Object;" = some (G.2.1 4) := by
  obtain ⟨-, -, -, -, -, q1⟩ := (hK.2 4 (G.2.1 4, .object "java/lang/Object") rfl).2
  exact q1
theorem z_getC (F : zF k G cc nL own wsL_law ret tb) {t n : Nat} {f : Nat → Option Nat} {index : Nat} (w1 : Cond.methodLink own index ⟨"java/lang/Object", "getClass", "()Ljava/lang/Class;"⟩ ∈ wsL_law) (w2 : Cond.selects "[Ljava/lang/Object;" ⟨"java/lang/Object", "getClass", "()Ljava/lang/Class;"⟩ ⟨"java/lang/Object", "getClass", "()Ljava/lang/Class;"⟩ ∈ wsL_law) (w3 : Cond.instanceMethod ⟨"java/lang/Object", "getClass", "()Ljava/lang/Class;"⟩ ∈ wsL_law) (w4 : Cond.native ⟨"java/lang/Object", "getClass", "()Ljava/lang/Class;"⟩ ∈ wsL_law) (hm : M t = some (zAr 4 n f)) (hfr : 1 ≤ R.frames) (hlo : (st.map fun v => v.category).sum + 14 ≤ R.locals) (d : decode cc pc = .ok (.invokevirtual index, 3)) (kk : zJ k G R nL Q M (cl) (sl) (pc + 3) lv (.ref 191 :: st)) : zJ k G R nL Q M (cl) (sl) (pc) lv (.ref t :: st) := by
  obtain ⟨⟨p, l, e, s, m⟩, ⟨args, below, meth, c⟩, L0, M0⟩ := k
  obtain ⟨⟨hx, hb, hml, hown, hts⟩, hLow, hfl, hlk, hrt, htb⟩ := F
  intro L H locs ls hR hA hv hs hS hl
  obtain ⟨e1, hz, hi, ws, hP, hD, hw⟩ := id hR
  obtain ⟨j, hj⟩ := hw t _ hm
  have hat : H[L t]? = some (vp_cell (G.2.1 4) (n, .inr (.inr (.inr (.inr (fun j => (f j).map L)))))) := hP j _ hj
  have key := kk L H locs ls hR hA hv (zs_r (Or.inr rfl) (zs_t hs)) hS hl
  rw [List.map_cons, show zmr L (.ref 191) = .ref (G.2.2.2 191) from congrArg Value.ref (e1 191 rfl).1] at key
  exact va_getC hx hb (hml.trans hl.1.symm) hown (hts _ w1) (va_Dc.use hLow.2.2.2.2.2.2.2.2.2.2.2.2.1) (hts _ w2) (hts _ w3) (hts _ w4) hLow.2.2.2.2.2.2.2.2.2.2.2.1 ⟨_, hat, rfl, z_arrcls hLow.1⟩ hfr (by rw [zmap_cat]; exact hlo) d key
theorem z_ldcM (F : zF k G cc nL own wsL_law ret tb) {index : Nat} (w1 : Cond.classLink own index "[Ljava/lang/Object;" ∈ wsL_law) (d : decode cc pc = .ok (.ldc index, 2)) (kk : zJ k G R nL Q M (cl) (sl) (pc + 2) lv (.ref 191 :: st)) : zJ k G R nL Q M (cl) (sl) (pc) lv (st) := by
  obtain ⟨⟨p, l, e, s, m⟩, ⟨args, below, meth, c⟩, L0, M0⟩ := k
  obtain ⟨⟨hx, hb, hml, hown, hts⟩, hLow, hfl, hlk, hrt, htb⟩ := F
  intro L H locs ls hR hA hv hs hS hl
  have key := kk L H locs ls hR hA hv (zs_r (Or.inr rfl) hs) hS hl
  rw [List.map_cons, show zmr L (.ref 191) = .ref (G.2.2.2 191) from congrArg Value.ref (hR.1 191 rfl).1] at key
  exact va_ldcM hx hb hown (hts _ w1) hLow.2.2.2.2.2.2.2.2.2.2.2.1 d key
theorem z_castA (F : zF k G cc nL own wsL_law ret tb) {t n index : Nat} {f : Nat → Option Nat} (w1 : Cond.classLink own index "[Ljava/lang/Object;" ∈ wsL_law) (hm : M t = some (zAr 4 n f)) (d : decode cc pc = .ok (.checkcast index, 3)) (kk : zJ k G R nL Q M (cl) (sl) (pc + 3) lv (.ref t :: st)) : zJ k G R nL Q M (cl) (sl) (pc) lv (.ref t :: st) := by
  obtain ⟨⟨p, l, e, s, m⟩, ⟨args, below, meth, c⟩, L0, M0⟩ := k
  obtain ⟨⟨hx, hb, hml, hown, hts⟩, hLow, hfl, hlk, hrt, htb⟩ := F
  intro L H locs ls hR hA hv hs hS hl
  obtain ⟨e1, hz, hi, ws, hP, hD, hw⟩ := id hR
  obtain ⟨j, hj⟩ := hw t _ hm
  exact va_castA hx hb hown (hts _ w1) hP j hj (z_arrcls hLow.1) d (kk L H locs ls hR hA hv hs hS hl)
/-- an object put into an array of Objects -/
theorem z_aast4 (F : zF k G cc nL own wsL_law ret tb) {t n a ci : Nat} {fs : List Value} {f : Nat → Option Nat} {i : Int} {C : String} {T : u_T} {N : Nat} (hm : M t = some (zAr 4 n f)) (ha : M a = some (zOb ci fs)) (hc : vwCl[ci]? = some (C, T, N)) (hq : (C, "java/lang/Object") ∈ zNC) (h0 : 0 ≤ i) (h1 : i < n) (hn : n < 2147483648) (d : decode cc pc = .ok (.aastore, 1)) (kk : zJ k G R nL Q (zu M t (zAr 4 n (va_up f i.toNat (some a)))) (cl) (sl) (pc + 1) lv (st)) : zJ k G R nL Q M (cl) (sl) (pc) lv (.ref a :: .int (zI i) :: .ref t :: st) := by
  obtain ⟨⟨p, l, e, s, m⟩, ⟨args, below, meth, c⟩, L0, M0⟩ := k
  obtain ⟨⟨hx, hb, hml, hown, hts⟩, hLow, hfl, hlk, hrt, htb⟩ := F
  intro L H locs ls hR hA hv hs hS hl
  obtain ⟨e1, hz, hi, ws, hP, hD, hw⟩ := id hR
  obtain ⟨j, hj⟩ := hw t _ hm
  obtain ⟨j2, hj2⟩ := hw a _ ha
  refine va_astqO (E := "java/lang/Object") (tys := zTy G) (f := fun j => (f j).map L) (r := (C, T, N)) hx hb hLow.1 hP hD hS j 4 j2 ci hj rfl (hLow.2.2.2.2.2.2.2.2.2.2.1 _ hq) hj2 hc (zI_in h0 h1 hn) d (fun H1 locs1 hP1 hD1 hS1 => ?_)
  rw [zI_c h0 (by omega), zup_r] at hP1 hD1
  exact kk L H1 locs1 ls (zRep_set (o' := zAr 4 n (va_up f i.toNat (some a))) hm (zoo_up (hz t _ hm) (Or.inl (by rw [ha]; rfl))) hR hD hw hj hP1 hD1) (zAg_u hA) (fun q hq => zok_u (hv q hq)) (fun v hv => zok_u (zs_t (zs_t (zs_t hs)) v hv)) hS1 hl
theorem zup_rN (L : Nat → Nat) (f : Nat → Option Nat) (i : Nat) : va_up (fun j => (f j).map L) i none = fun j => (va_up f i none j).map L := by
  funext j
  simp only [va_up]
  split <;> rfl
theorem z_aastN (F : zF k G cc nL own wsL_law ret tb) {t n : Nat} {f : Nat → Option Nat} {i : Int} (hm : M t = some (zAr 4 n f)) (h0 : 0 ≤ i) (h1 : i < n) (hn : n < 2147483648) (d : decode cc pc = .ok (.aastore, 1)) (kk : zJ k G R nL Q (zu M t (zAr 4 n (va_up f i.toNat none))) (cl) (sl) (pc + 1) lv (st)) : zJ k G R nL Q M (cl) (sl) (pc) lv (.null :: .int (zI i) :: .ref t :: st) := by
  obtain ⟨⟨p, l, e, s, m⟩, ⟨args, below, meth, c⟩, L0, M0⟩ := k
  obtain ⟨⟨hx, hb, hml, hown, hts⟩, hLow, hfl, hlk, hrt, htb⟩ := F
  intro L H locs ls hR hA hv hs hS hl
  obtain ⟨e1, hz, hi, ws, hP, hD, hw⟩ := id hR
  obtain ⟨j, hj⟩ := hw t _ hm
  refine va_astqN (C := "java/lang/Object") (tys := zTy G) (f := fun j => (f j).map L) hx hb hLow.1 hP hD hS j 4 hj rfl (zI_in h0 h1 hn) d (fun H1 locs1 hP1 hD1 hS1 => ?_)
  rw [zI_c h0 (by omega), zup_rN] at hP1 hD1
  have ho : zoo M (zAr 4 n (va_up f i.toNat none)) := fun j b hb => by
    by_cases e : j = i.toNat
    · rw [e, va_up_self] at hb; cases hb
    · rw [va_up_ne _ _ e] at hb; exact hz t _ hm j b hb
  exact kk L H1 locs1 ls (zRep_set (o' := zAr 4 n (va_up f i.toNat none)) hm ho hR hD hw hj hP1 hD1) (zAg_u hA) (fun q hq => zok_u (hv q hq)) (fun v hv => zok_u (zs_t (zs_t (zs_t hs)) v hv)) hS1 hl
theorem zcpy_r (L : Nat → Nat) (f g : Nat → Option Nat) (a b n : Nat) : va_cpy (fun j => (f j).map L) (fun j => (g j).map L) a b n = fun j => (va_cpy f g a b n j).map L := by
  funext j
  simp only [va_cpy]
  split <;> rfl
/-- System.arraycopy between arrays of Objects: their elements are objects of the class ci -/
theorem z_copyr (F : zF k G cc nL own wsL_law ret tb) {t t2 n0 n1 ci : Nat} {f g : Nat → Option Nat} {a b n : Int} {index : Nat} {C : String} {T : u_T} {N : Nat} (w1 : Cond.methodLink own index arraycopyName ∈ wsL_law) (w2 : Cond.native arraycopyName ∈ wsL_law) (w3 : Cond.static arraycopyName ∈ wsL_law) (w4 : Cond.initialized "java/lang/System" ∈ wsL_law) (hm : M t = some (zAr 4 n0 f)) (hm2 : M t2 = some (zAr 4 n1 g)) (hc : vwCl[ci]? = some (C, T, N)) (hq : (C, "java/lang/Object") ∈ zNC) (hel : ∀ j x, f j = some x → ∃ fs, M x = some (zOb ci fs)) (h1 : 0 ≤ a) (h2 : 0 ≤ b) (h3 : 0 ≤ n) (h4 : a + n ≤ n0) (h5 : b + n ≤ n1) (hn0 : n0 < 2147483648) (hn1 : n1 < 2147483648) (hfr : 1 ≤ R.frames) (hlo : (st.map fun v => v.category).sum + (nativeFrameWords "java/lang/System" "arraycopy" 5 + 11) ≤ R.locals) (d : decode cc pc = .ok (.invokestatic index, 3)) (kk : zJ k G R nL Q (zu M t2 (zAr 4 n1 (va_cpy f g a.toNat b.toNat n.toNat))) (cl) (sl) (pc + 3) lv (st)) : zJ k G R nL Q M (cl) (sl) (pc) lv (.int (zI n) :: .int (zI b) :: .ref t2 :: .int (zI a) :: .ref t :: st) := by
  obtain ⟨⟨p, l, e, s, m⟩, ⟨args, below, meth, c⟩, L0, M0⟩ := k
  obtain ⟨⟨hx, hb, hml, hown, hts⟩, hLow, hfl, hlk, hrt, htb⟩ := F
  intro L H locs ls hR hA hv hs hS hl
  obtain ⟨e1, hz, hi, ws, hP, hD, hw⟩ := id hR
  obtain ⟨j, hj⟩ := hw t _ hm
  obtain ⟨j2, hj2⟩ := hw t2 _ hm2
  have nn : ∀ x : Int, 0 ≤ x → x < 2147483648 → ¬ zI x < 0 := fun x g1 g2 h => by have := (zI_lt (a := x) (b := 0) ⟨by omega, by omega⟩ ⟨by decide, by decide⟩).mp h; omega
  have ea := zI_c h1 (show a < 2147483648 by omega)
  have eb := zI_c h2 (show b < 2147483648 by omega)
  have en := zI_c h3 (show n < 2147483648 by omega)
  refine va_copyq (C := C) (E0 := "java/lang/Object") (E1 := "java/lang/Object") (tys := zTy G) (f := fun j => (f j).map L) (g := fun j => (g j).map L) hx hb (hml.trans hl.1.symm) hown (hts _ w1) (hts _ w2) (hts _ w3) (hts _ w4) hLow.1 hP hD hS j j2 4 4 hj hj2 rfl rfl (nn a h1 (by omega)) (nn b h2 (by omega)) (nn n h3 (by omega)) (by rw [ea, en]; omega) (by rw [eb, en]; omega) (fun i hi y hy => ?_) (fun comp c0 g1 g2 => ?_) hfr (by rw [zmap_cat]; exact hlo) d (fun H1 locs1 hP1 hD1 hS1 => ?_)
  · cases hf : f ((zI a).toNatClampNeg + i) with
    | none => rw [hf] at hy; cases hy
    | some x =>
      rw [hf] at hy
      cases hy
      obtain ⟨fs, hx9⟩ := hel _ x hf
      exact z_recv hR hLow.1 hx9 hc
  · obtain ⟨c1, t1, f1, f2, f3⟩ := Cond.castable_spec (va_Nw.use (A := args) rfl (hLow.2.2.2.2.2.2.2.2.2.2.1 _ hq))
    cases g2.symm.trans f1
    cases g1.symm.trans f2
    exact f3
  · rw [ea, eb, en, zcpy_r] at hP1 hD1
    have ho : zoo M (zAr 4 n1 (va_cpy f g a.toNat b.toNat n.toNat)) := fun j x hx9 => by
      simp only [va_cpy] at hx9
      split at hx9
      · exact hz t _ hm _ x hx9
      · exact hz t2 _ hm2 _ x hx9
    exact kk L H1 locs1 ls (zRep_set (o' := zAr 4 n1 (va_cpy f g a.toNat b.toNat n.toNat)) hm2 ho hR hD hw hj2 hP1 hD1) (zAg_u hA) (fun q hq => zok_u (hv q hq)) (fun v hv => zok_u (zs_t (zs_t (zs_t (zs_t (zs_t hs)))) v hv)) hS1 hl
theorem zL_t {z : Int} (h : zR z) : (zL z).toInt = z := by
  have h1 := h.1
  have h2 := h.2
  rw [zL, Int64.toInt_ofInt, show Int64.size = 18446744073709551616 from rfl, Int.bmod_def]
  omega
theorem z_i2l (F : zF k G cc nL own wsL_law ret tb) {x : Int} (h : zR x) (d : decode cc pc = .ok (.i2l, 1)) (kk : zJ k G R nL Q M (cl) (sl) (pc + 1) lv (.long (zL x) :: st)) : zJ k G R nL Q M (cl) (sl) (pc) lv (.int (zI x) :: st) := by
  obtain ⟨⟨p, l, e, s, m⟩, ⟨args, below, meth, c⟩, L0, M0⟩ := k
  obtain ⟨⟨hx, hb, hml, hown, hts⟩, hLow, hfl, hlk, hrt, htb⟩ := F
  intro L H locs ls hR hA hv hs hS hl
  refine lv_i2l (v := zL x) hx hb d ?_ (kk L H locs ls hR hA hv (zs_l (zs_t hs)) hS hl)
  exact Int64.toInt_inj.mp (by rw [Int32.toInt_toInt64, zI_t h, zL_t h])
theorem z_tswOut (F : zF k G cc nL own wsL_law ret tb) (tgt : Nat) {x lo hi df : Int} {offs : Array Int} {len : Nat} (h9 : zR x) (d : decode cc pc = .ok (.tableswitch df lo hi offs, len)) (h1 : x < lo ∨ hi < x) (ht : (pc : Int) + df = (tgt : Int)) (kk : zJ k G R nL Q M (cl) (sl) (tgt) lv (st)) : zJ k G R nL Q M (cl) (sl) (pc) lv (.int (zI x) :: st) := by
  obtain ⟨⟨p, l, e, s, m⟩, ⟨args, below, meth, c⟩, L0, M0⟩ := k
  obtain ⟨⟨hx, hb, hml, hown, hts⟩, hLow, hfl, hlk, hrt, htb⟩ := F
  intro L H locs ls hR hA hv hs hS hl
  exact lv_tableOut hx hb d (by rw [zI_t h9]; exact h1) ht (kk L H locs ls hR hA hv (zs_t hs) hS hl)
theorem z_tswIn (F : zF k G cc nL own wsL_law ret tb) (tgt : Nat) {x lo hi df off : Int} {offs : Array Int} {len : Nat} (h9 : zR x) (d : decode cc pc = .ok (.tableswitch df lo hi offs, len)) (h1 : lo ≤ x) (h2 : x ≤ hi) (ho : offs[(x - lo).toNat]? = some off) (ht : (pc : Int) + off = (tgt : Int)) (kk : zJ k G R nL Q M (cl) (sl) (tgt) lv (st)) : zJ k G R nL Q M (cl) (sl) (pc) lv (.int (zI x) :: st) := by
  obtain ⟨⟨p, l, e, s, m⟩, ⟨args, below, meth, c⟩, L0, M0⟩ := k
  obtain ⟨⟨hx, hb, hml, hown, hts⟩, hLow, hfl, hlk, hrt, htb⟩ := F
  intro L H locs ls hR hA hv hs hS hl
  exact lv_tableIn hx hb d (by rw [zI_t h9]; omega) (by rw [zI_t h9]; omega) (by rw [zI_t h9]; exact ho) ht (kk L H locs ls hR hA hv (zs_t hs) hS hl)
end ZR
