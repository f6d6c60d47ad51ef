/-! ===== the abstract machine: the heap ===== -/
theorem zRep_set {G : zG} {L : Nat → Nat} {M : zM} {H H1 : Heap} {t : Nat} {o o' : zO} {ws : va_W} {k : Nat} (hm : M t = some o) (ho : zoo M o') (hR : zRep G L M H) (hD : va_D (zA G) ws) (hw : ∀ t o, M t = some o → ∃ k : Nat, ws[k]? = some (L t, zme G L o)) (hk : ws[k]? = some (L t, zme G L o)) (hP1 : va_P G.1 vwCl (ws.set k (L t, zme G L o')) H1) (hD1 : va_D (zA G) (ws.set k (L t, zme G L o'))) : zRep G L (zu M t o') H1 := by
  obtain ⟨e1, hz, hi, -⟩ := hR
  have hs : ∀ u, (zu M t o' u).isSome = true → (M u).isSome = true := fun u h => by
    by_cases e : u = t
    · rw [e, hm]; rfl
    · rwa [zu_n e] at h
  refine ⟨fun a ha => ⟨(e1 a ha).1, ?_⟩, fun u x h => ?_, fun u w h1 h2 => hi u w (hs u h1) (hs w h2), _, hP1, hD1, fun u x h => ?_⟩
  · rw [zu_n (fun e => by have := (e1 a ha).2; rw [e, hm] at this; cases this)]; exact (e1 a ha).2
  · by_cases e : u = t
    · rw [e, zu_s] at h
      cases h
      exact zoo_u ho
    · rw [zu_n e] at h
      exact zoo_u (hz u x h)
  · by_cases e : u = t
    · rw [e, zu_s] at h
      cases h
      subst e
      exact ⟨k, List.getElem?_set_self (List.getElem?_eq_some_iff.mp hk).1⟩
    · rw [zu_n e] at h
      obtain ⟨j, hj⟩ := hw u x h
      refine ⟨j, ?_⟩
      rw [List.getElem?_set_ne]
      · exact hj
      · intro hkj
        subst hkj
        have := hj.symm.trans hk
        exact e (hi u t (by rw [h]; rfl) (by rw [hm]; rfl) (congrArg Prod.fst (Option.some.inj this)))
def zLu (L : Nat → Nat) (t q : Nat) : Nat → Nat := fun u => if u = t then q else L u
theorem zLu_n {L : Nat → Nat} {t q u : Nat} (h : u ≠ t) : zLu L t q u = L u := if_neg h
theorem zLu_s {L : Nat → Nat} {t q : Nat} : zLu L t q t = q := if_pos rfl
theorem zin_ne {M : zM} {t a : Nat} (h : zin M a) (h0 : M t = none) (h1 : t % 64 ≠ 63) : a ≠ t := by
  rintro rfl
  rcases h with h | h
  · rw [h0] at h; cases h
  · exact h1 h
theorem zmr_congr {L L' : Nat → Nat} {v : Value} (h : ∀ a, v = .ref a → L' a = L a) : zmr L' v = zmr L v := by
  cases v with
  | ref a => exact congrArg Value.ref (h a rfl)
  | _ => rfl
theorem zme_congr {G : zG} {L L' : Nat → Nat} {M : zM} {o : zO} (ho : zoo M o) (h : ∀ a, zin M a → L' a = L a) : zme G L' o = zme G L o := by
  rcases o with x | ⟨k, n, f⟩ | ⟨ci, fs⟩
  · rfl
  · have e : (fun j => (f j).map L') = (fun j => (f j).map L) := by
      funext j
      cases hj : f j with
      | none => rfl
      | some a => exact congrArg some (h a (ho j a hj))
    show (Sum.inl (G.2.1 k, n, Sum.inr (Sum.inr (Sum.inr (Sum.inr (fun j => (f j).map L'))))) : va_E) = _
    rw [e]
    rfl
  · show (Sum.inr (ci, fs.map (zmr L')) : va_E) = Sum.inr (ci, fs.map (zmr L))
    rw [List.map_congr_left (fun v hv => zmr_congr (fun a e => h a (ho v hv a e)))]
theorem zs_congr {L L' : Nat → Nat} {M : zM} {st : List Value} (hs : ∀ v ∈ st, zok M v) (h : ∀ a, zin M a → L' a = L a) : st.map (zmr L') = st.map (zmr L) := List.map_congr_left (fun v hv => zmr_congr (fun a e => h a (hs v hv a e)))
theorem zl_congr {L L' : Nat → Nat} {M : zM} {lv : List (Nat × Value)} (hs : ∀ q ∈ lv, zok M q.2) (h : ∀ a, zin M a → L' a = L a) : lv.map (zmq L') = lv.map (zmq L) := List.map_congr_left (fun q hq => by show (q.1, zmr L' q.2) = (q.1, zmr L q.2); rw [zmr_congr (fun a e => h a (hs q hq a e))])
theorem zRep_new {G : zG} {L : Nat → Nat} {M : zM} {H H1 : Heap} {t q : Nat} {o : zO} {ws : va_W} {e : va_E} (h0 : M t = none) (h1 : t % 64 ≠ 63) (ho : zoo M o) (he : zme G L o = e) (hR : zRep G L M H) (hw : ∀ t o, M t = some o → ∃ k : Nat, ws[k]? = some (L t, zme G L o)) (hP1 : va_P G.1 vwCl (ws ++ [(q, e)]) H1) (hD1 : va_D (zA G) (ws ++ [(q, e)])) : zRep G (zLu L t q) (zu M t o) H1 := by
  obtain ⟨e1, hz, hi, -⟩ := hR
  have hne : ∀ a, zin M a → zLu L t q a = L a := fun a ha => zLu_n (zin_ne ha h0 h1)
  have hq : ∀ u, (M u).isSome = true → L u ≠ q := fun u hu hq => by
    obtain ⟨x, hx⟩ := Option.isSome_iff_exists.mp hu
    obtain ⟨k, hk⟩ := hw u x hx
    have hkl := (List.getElem?_eq_some_iff.mp hk).1
    have := hD1.1 k ws.length _ (q, e) (by rw [List.getElem?_append_left hkl]; exact hk) (by simp) hq
    omega
  have hsm : ∀ u, u ≠ t → (zu M t o u).isSome = true → (M u).isSome = true := fun u hu h => by rwa [zu_n hu] at h
  refine ⟨fun a ha => ⟨(zLu_n (show a ≠ t from fun e => h1 (by rw [← e]; exact ha))).trans (e1 a ha).1, ?_⟩, fun u x h => ?_, fun u w g1 g2 g => ?_, _, hP1, hD1, fun u x h => ?_⟩
  · rw [zu_n (show a ≠ t from fun e => h1 (by rw [← e]; exact ha))]; exact (e1 a ha).2
  · by_cases hu : u = t
    · rw [hu, zu_s] at h
      cases h
      exact zoo_u ho
    · rw [zu_n hu] at h
      exact zoo_u (hz u x h)
  · by_cases hu : u = t
    · by_cases hw' : w = t
      · rw [hu, hw']
      · rw [hu, zLu_s, zLu_n hw'] at g
        exact absurd g.symm (hq w (hsm w hw' g2))
    · by_cases hw' : w = t
      · rw [hw', zLu_s, zLu_n hu] at g
        exact absurd g (hq u (hsm u hu g1))
      · rw [zLu_n hu, zLu_n hw'] at g
        exact hi u w (hsm u hu g1) (hsm w hw' g2) g
  · by_cases hu : u = t
    · rw [hu, zu_s] at h
      cases h
      refine ⟨ws.length, ?_⟩
      rw [hu, zLu_s, zme_congr ho hne, he]
      simp
    · rw [zu_n hu] at h
      obtain ⟨j, hj⟩ := hw u x h
      refine ⟨j, ?_⟩
      rw [zLu_n hu, zme_congr (hz u x h) hne, List.getElem?_append_left (List.getElem?_eq_some_iff.mp hj).1]
      exact hj
theorem zAg_u {L0 L : Nat → Nat} {M0 M : zM} {t : Nat} {o : zO} (h : zAg L0 M0 L M) : zAg L0 M0 L (zu M t o) := fun a ha => ⟨zin_u (h a ha).1, (h a ha).2⟩
theorem zAg_new {L0 L : Nat → Nat} {M0 M : zM} {t q : Nat} {o : zO} (h0 : M t = none) (h1 : t % 64 ≠ 63) (h : zAg L0 M0 L M) : zAg L0 M0 (zLu L t q) (zu M t o) := fun a ha => ⟨zin_u (h a ha).1, (zLu_n (zin_ne (h a ha).1 h0 h1)).trans (h a ha).2⟩
section ZH
variable {k : zC} {G : zG} {R : Room} {nL : Nat} {Q : State → Prop} {M : zM} {cl sl pc : Nat} {lv : List (Nat × Value)} {st : List Value} {cc : ByteArray} {own : String} {ret : Option FieldType} {tb : List ExceptionTableEntry}
/-- field kf of the class ci, at the place 'index' of own's pool -/
def zFl (own : String) (index ci : Nat) (C : String) (T : u_T) (N kf : Nat) : Prop := vwCl[ci]? = some (C, T, N) ∧ (∀ w ∈ u_ws C T N, w ∈ wsL_law) ∧ kf < N ∧ Cond.fieldLink own index (T kf).1 (T kf).2.1 (T kf).2.2.1 ∈ wsL_law
theorem z_get (F : zF k G cc nL own wsL_law ret tb) {t ci kf N index : Nat} {fs : List Value} {C : String} {T : u_T} {v : Value} (hq : zFl own index ci C T N kf) (hm : M t = some (zOb ci fs)) (hf : fs[kf]? = some v) (d : decode cc pc = .ok (.getfield index, 3)) (kk : zJ k G R nL Q M (cl) (sl) (pc + 3) lv (v :: st)) : zJ k G R nL Q M (cl) (sl) (pc) lv (.ref t :: st) := by
  obtain ⟨⟨p, l, e, s, m⟩, ⟨args, below, meth, c⟩, L0, M0⟩ := k
  obtain ⟨⟨hx, hb, hml, hown, hts⟩, hLow, hfl, hlk, hrt, htb⟩ := F
  intro L H locs ls hR hA hv hs hS hl
  obtain ⟨e1, hz, hi, ws, hP, hD, hw⟩ := id hR
  obtain ⟨j, hj⟩ := hw t _ hm
  obtain ⟨q1, q2, q3, q4⟩ := hq
  exact va_get hx hb hts q2 hown hLow.1 hP j hj q1 kf q3 (hts _ q4) (fun _ h => h) (by rw [List.getElem?_map, hf]; rfl) d (kk L H locs ls hR hA hv (List.forall_mem_cons.mpr ⟨hz t _ hm v (List.mem_of_getElem? hf), zs_t hs⟩) hS hl)
theorem z_getS (F : zF k G cc nL own wsL_law ret tb) {t ci kf N index : Nat} {fs : List Value} {C ref : String} {T : u_T} {v : Value} (q1 : vwCl[ci]? = some (C, T, N)) (q2 : ∀ w ∈ u_ws C T N, w ∈ wsL_law) (q3 : kf < N) (q4 : Cond.fieldLink own index ref (T kf).2.1 (T kf).2.2.1 ∈ wsL_law) (q5 : Cond.sameField ref (T kf).1 (T kf).2.1 (T kf).2.2.1 ∈ wsL_law) (hm : M t = some (zOb ci fs)) (hf : fs[kf]? = some v) (d : decode cc pc = .ok (.getfield index, 3)) (kk : zJ k G R nL Q M (cl) (sl) (pc + 3) lv (v :: st)) : zJ k G R nL Q M (cl) (sl) (pc) lv (.ref t :: st) := by
  obtain ⟨⟨p, l, e, s, m⟩, ⟨args, below, meth, c⟩, L0, M0⟩ := k
  obtain ⟨⟨hx, hb, hml, hown, hts⟩, hLow, hfl, hlk, hrt, htb⟩ := F
  intro L H locs ls hR hA hv hs hS hl
  obtain ⟨e1, hz, hi, ws, hP, hD, hw⟩ := id hR
  obtain ⟨j, hj⟩ := hw t _ hm
  exact va_get hx hb hts q2 hown hLow.1 hP j hj q1 kf q3 (hts _ q4) (u_same (hts _ q5)) (by rw [List.getElem?_map, hf]; rfl) d (kk L H locs ls hR hA hv (List.forall_mem_cons.mpr ⟨hz t _ hm v (List.mem_of_getElem? hf), zs_t hs⟩) hS hl)
theorem zmap_set (L : Nat → Nat) (fs : List Value) (kf : Nat) (v : Value) : (fs.set kf v).map (zmr L) = (fs.map (zmr L)).set kf (zmr L v) := List.map_set
theorem zoo_set {M : zM} {ci kf : Nat} {fs : List Value} {v : Value} (h : zoo M (zOb ci fs)) (hv : zok M v) : zoo M (zOb ci (fs.set kf v)) := fun w hw => by
  rcases List.mem_or_eq_of_mem_set hw with h1 | h1
  · exact h w h1
  · rw [h1]; exact hv
theorem zn_mr {ty : FieldType} {v : Value} (L : Nat → Nat) (h : narrow ty v = v) : narrow ty (zmr L v) = zmr L v := by
  cases v with
  | ref a => cases ty <;> rfl
  | _ => exact h
theorem zf_mr {ty : FieldType} {v : Value} (L : Nat → Nat) (h : fits ty v = true) : fits ty (zmr L v) = true := by
  cases v with
  | ref a => cases ty <;> first | rfl | exact h
  | _ => exact h
theorem z_put (F : zF k G cc nL own wsL_law ret tb) {t ci kf N index : Nat} {fs : List Value} (fs' : List Value) {C : String} {T : u_T} {v : Value} {ty : FieldType} (hq : zFl own index ci C T N kf) (ty0 : Nat → FieldType) (hty : ∀ k, k < N → parseFieldDescriptor (T k).2.2.1 = some (ty0 k)) (hnm : ∀ a, a < N → ∀ b, b < N → a ≠ b → (T a).2.1 ≠ (T b).2.1) (hfin : (T kf).2.2.2 = false)  (hd : parseFieldDescriptor (T kf).2.2.1 = some ty) (hn : narrow ty v = v) (hfit : fits ty v = true) (hm : M t = some (zOb ci fs)) (hlen : kf < fs.length) (hset : fs.set kf v = fs') (d : decode cc pc = .ok (.putfield index, 3)) (kk : zJ k G R nL Q (zu M t (zOb ci fs')) (cl) (sl) (pc + 3) lv (st)) : zJ k G R nL Q M (cl) (sl) (pc) lv (v :: .ref t :: st) := by
  obtain ⟨⟨p, l, e, s, m⟩, ⟨args, below, meth, c⟩, L0, M0⟩ := k
  obtain ⟨⟨hx, hb, hml, hown, hts⟩, hLow, hfl, hlk, hrt, htb⟩ := F
  intro L H locs ls hR hA hv hs hS hl
  obtain ⟨e1, hz, hi, ws, hP, hD, hw⟩ := id hR
  obtain ⟨j, hj⟩ := hw t _ hm
  obtain ⟨q1, q2, q3, q4⟩ := hq
  subst hset
  refine va_put hx hb hts q2 ty0 hty hnm hown hLow.1 hP hD hS j hj q1 kf q3 (hts _ q4) (fun _ h => h) hfin hd (zn_mr L hn) (zf_mr L hfit) (by rw [List.length_map]; exact hlen) d (fun H1 locs1 hP1 hD1 hS1 => ?_)
  have e9 : zme G L (zOb ci (fs.set kf v)) = .inr (ci, (fs.map (zmr L)).set kf (zmr L v)) := congrArg (fun z => (Sum.inr (ci, z) : va_E)) (zmap_set L fs kf v)
  rw [← e9] at hP1 hD1
  exact kk L H1 locs1 ls (zRep_set hm (zoo_set (hz t _ hm) (zs_h hs)) hR hD hw hj hP1 hD1) (zAg_u hA) (fun q hq => zok_u (hv q hq)) (fun v hv => zok_u (zs_t (zs_t hs) v hv)) hS1 hl
theorem z_putF (F : zF k G cc nL own wsL_law ret tb) {t ci kf N index : Nat} {fs : List Value} (fs' : List Value) {C : String} {T : u_T} {v : Value} {ty : FieldType} (hq : zFl own index ci C T N kf) (ty0 : Nat → FieldType) (hty : ∀ k, k < N → parseFieldDescriptor (T k).2.2.1 = some (ty0 k)) (hnm : ∀ a, a < N → ∀ b, b < N → a ≠ b → (T a).2.1 ≠ (T b).2.1) (hfin : (T kf).2.2.2 = true) (hin2 : k.2.1.2.2.1.name = "<init>") (hdecl : (T kf).1 = own) (hd : parseFieldDescriptor (T kf).2.2.1 = some ty) (hn : narrow ty v = v) (hfit : fits ty v = true) (hm : M t = some (zOb ci fs)) (hlen : kf < fs.length) (hset : fs.set kf v = fs') (d : decode cc pc = .ok (.putfield index, 3)) (kk : zJ k G R nL Q (zu M t (zOb ci fs')) (cl) (sl) (pc + 3) lv (st)) : zJ k G R nL Q M (cl) (sl) (pc) lv (v :: .ref t :: st) := by
  obtain ⟨⟨p, l, e, s, m⟩, ⟨args, below, meth, c⟩, L0, M0⟩ := k
  obtain ⟨⟨hx, hb, hml, hown, hts⟩, hLow, hfl, hlk, hrt, htb⟩ := F
  intro L H locs ls hR hA hv hs hS hl
  obtain ⟨e1, hz, hi, ws, hP, hD, hw⟩ := id hR
  obtain ⟨j, hj⟩ := hw t _ hm
  obtain ⟨q1, q2, q3, q4⟩ := hq
  subst hset
  refine va_putF hx hb hts q2 ty0 hty hnm hown hLow.1 hP hD hS j hj q1 kf q3 (hts _ q4) (fun _ h => h) hfin hin2 hdecl hd (zn_mr L hn) (zf_mr L hfit) (by rw [List.length_map]; exact hlen) d (fun H1 locs1 hP1 hD1 hS1 => ?_)
  have e9 : zme G L (zOb ci (fs.set kf v)) = .inr (ci, (fs.map (zmr L)).set kf (zmr L v)) := congrArg (fun z => (Sum.inr (ci, z) : va_E)) (zmap_set L fs kf v)
  rw [← e9] at hP1 hD1
  exact kk L H1 locs1 ls (zRep_set hm (zoo_set (hz t _ hm) (zs_h hs)) hR hD hw hj hP1 hD1) (zAg_u hA) (fun q hq => zok_u (hv q hq)) (fun v hv => zok_u (zs_t (zs_t hs) v hv)) hS1 hl
theorem z_putS (F : zF k G cc nL own wsL_law ret tb) {t ci kf N index : Nat} {fs : List Value} (fs' : List Value) {C ref : String} {T : u_T} {v : Value} {ty : FieldType} (q1 : vwCl[ci]? = some (C, T, N)) (q2 : ∀ w ∈ u_ws C T N, w ∈ wsL_law) (q3 : kf < N) (q4 : Cond.fieldLink own index ref (T kf).2.1 (T kf).2.2.1 ∈ wsL_law) (q5 : Cond.sameField ref (T kf).1 (T kf).2.1 (T kf).2.2.1 ∈ wsL_law) (ty0 : Nat → FieldType) (hty : ∀ k, k < N → parseFieldDescriptor (T k).2.2.1 = some (ty0 k)) (hnm : ∀ a, a < N → ∀ b, b < N → a ≠ b → (T a).2.1 ≠ (T b).2.1) (hfin : (T kf).2.2.2 = false) (hd : parseFieldDescriptor (T kf).2.2.1 = some ty) (hn : narrow ty v = v) (hfit : fits ty v = true) (hm : M t = some (zOb ci fs)) (hlen : kf < fs.length) (hset : fs.set kf v = fs') (d : decode cc pc = .ok (.putfield index, 3)) (kk : zJ k G R nL Q (zu M t (zOb ci fs')) (cl) (sl) (pc + 3) lv (st)) : zJ k G R nL Q M (cl) (sl) (pc) lv (v :: .ref t :: st) := by
  obtain ⟨⟨p, l, e, s, m⟩, ⟨args, below, meth, c⟩, L0, M0⟩ := k
  obtain ⟨⟨hx, hb, hml, hown, hts⟩, hLow, hfl, hlk, hrt, htb⟩ := F
  intro L H locs ls hR hA hv hs hS hl
  obtain ⟨e1, hz, hi, ws, hP, hD, hw⟩ := id hR
  obtain ⟨j, hj⟩ := hw t _ hm
  subst hset
  refine va_put hx hb hts q2 ty0 hty hnm hown hLow.1 hP hD hS j hj q1 kf q3 (hts _ q4) (u_same (hts _ q5)) hfin hd (zn_mr L hn) (zf_mr L hfit) (by rw [List.length_map]; exact hlen) d (fun H1 locs1 hP1 hD1 hS1 => ?_)
  have e9 : zme G L (zOb ci (fs.set kf v)) = .inr (ci, (fs.map (zmr L)).set kf (zmr L v)) := congrArg (fun z => (Sum.inr (ci, z) : va_E)) (zmap_set L fs kf v)
  rw [← e9] at hP1 hD1
  exact kk L H1 locs1 ls (zRep_set hm (zoo_set (hz t _ hm) (zs_h hs)) hR hD hw hj hP1 hD1) (zAg_u hA) (fun q hq => zok_u (hv q hq)) (fun v hv => zok_u (zs_t (zs_t hs) v hv)) hS1 hl
def zup (f : Nat → Int) (i : Nat) (v : Int) : Nat → Int := fun j => if j = i then v else f j
theorem zup_s (f : Nat → Int) (i : Nat) (v : Int) : zup f i v i = v := if_pos rfl
theorem zup_n {f : Nat → Int} {i j : Nat} {v : Int} (h : j ≠ i) : zup f i v j = f j := if_neg h
theorem zup_I (f : Nat → Int) (i : Nat) (v : Int) : upd (fun j => zI (f j)) i (zI v) = fun j => zI (zup f i v j) := by
  funext j
  simp only [upd, zup]
  split <;> rfl
theorem zup_L (f : Nat → Int) (i : Nat) (v : Int) : vp_updL (fun j => zL (f j)) i (zL v) = fun j => zL (zup f i v j) := by
  funext j
  simp only [vp_updL, zup]
  split <;> rfl
theorem z_iald (F : zF k G cc nL own wsL_law ret tb) {t n : Nat} {f : Nat → Int} {i : Int} (hm : M t = some (zAi 0 n f)) (h0 : 0 ≤ i) (h1 : i < n) (hn : n < 2147483648) (d : decode cc pc = .ok (.iaload, 1)) (kk : zJ k G R nL Q M (cl) (sl) (pc + 1) lv (.int (zI (f i.toNat)) :: st)) : zJ k G R nL Q M (cl) (sl) (pc) lv (.int (zI i) :: .ref t :: st) := by
  obtain ⟨⟨p, l, e, s, m⟩, ⟨args, below, meth, c⟩, L0, M0⟩ := k
  obtain ⟨⟨hx, hb, hml, hown, hts⟩, hLow, hfl, hlk, hrt, htb⟩ := F
  intro L H locs ls hR hA hv hs hS hl
  obtain ⟨e1, hz, hi, ws, hP, hD, hw⟩ := id hR
  obtain ⟨j, hj⟩ := hw t _ hm
  refine va_iald (tys := zTy G) (f := fun j => zI (f j)) hx hb hLow.1 hP j 0 hj rfl (zI_in h0 h1 hn) d ?_
  rw [zI_c h0 (by omega)]
  exact kk L H locs ls hR hA hv (zs_i (zs_t (zs_t hs))) hS hl
theorem z_zald (F : zF k G cc nL own wsL_law ret tb) {t n : Nat} {f : Nat → Int} {i : Int} (hm : M t = some (zAi 1 n f)) (h0 : 0 ≤ i) (h1 : i < n) (hn : n < 2147483648) (d : decode cc pc = .ok (.baload, 1)) (kk : zJ k G R nL Q M (cl) (sl) (pc + 1) lv (.int (zI (f i.toNat)) :: st)) : zJ k G R nL Q M (cl) (sl) (pc) lv (.int (zI i) :: .ref t :: st) := by
  obtain ⟨⟨p, l, e, s, m⟩, ⟨args, below, meth, c⟩, L0, M0⟩ := k
  obtain ⟨⟨hx, hb, hml, hown, hts⟩, hLow, hfl, hlk, hrt, htb⟩ := F
  intro L H locs ls hR hA hv hs hS hl
  obtain ⟨e1, hz, hi, ws, hP, hD, hw⟩ := id hR
  obtain ⟨j, hj⟩ := hw t _ hm
  refine va_zald (tys := zTy G) (f := fun j => zI (f j)) hx hb hLow.1 hP j 1 hj rfl (zI_in h0 h1 hn) d ?_
  rw [zI_c h0 (by omega)]
  exact kk L H locs ls hR hA hv (zs_i (zs_t (zs_t hs))) hS hl
theorem z_iast (F : zF k G cc nL own wsL_law ret tb) {t n : Nat} {f : Nat → Int} {i v : Int} (hm : M t = some (zAi 0 n f)) (h0 : 0 ≤ i) (h1 : i < n) (hn : n < 2147483648) (d : decode cc pc = .ok (.iastore, 1)) (kk : zJ k G R nL Q (zu M t (zAi 0 n (zup f i.toNat v))) (cl) (sl) (pc + 1) lv (st)) : zJ k G R nL Q M (cl) (sl) (pc) lv (.int (zI v) :: .int (zI i) :: .ref t :: st) := by
  obtain ⟨⟨p, l, e, s, m⟩, ⟨args, below, meth, c⟩, L0, M0⟩ := k
  obtain ⟨⟨hx, hb, hml, hown, hts⟩, hLow, hfl, hlk, hrt, htb⟩ := F
  intro L H locs ls hR hA hv hs hS hl
  obtain ⟨e1, hz, hi, ws, hP, hD, hw⟩ := id hR
  obtain ⟨j, hj⟩ := hw t _ hm
  refine va_iast (tys := zTy G) (f := fun j => zI (f j)) hx hb hLow.1 hP hD hS j 0 hj rfl (zI_in h0 h1 hn) d (fun H1 locs1 hP1 hD1 hS1 => ?_)
  rw [zI_c h0 (by omega), zup_I] at hP1 hD1
  exact kk L H1 locs1 ls (zRep_set (o' := zAi 0 n (zup f i.toNat v)) hm trivial hR hD hw hj hP1 hD1) (zAg_u hA) (fun q hq => zok_u (hv q hq)) (fun v hv => zok_u (zs_t (zs_t (zs_t hs)) v hv)) hS1 hl
theorem zI_bool {v : Int} (h : v = 0 ∨ v = 1) : vp_nar .boolean (zI v) = zI v := by rcases h with rfl | rfl <;> rfl
theorem z_zast (F : zF k G cc nL own wsL_law ret tb) {t n : Nat} {f : Nat → Int} {i v : Int} (hm : M t = some (zAi 1 n f)) (h0 : 0 ≤ i) (h1 : i < n) (hn : n < 2147483648) (hb01 : v = 0 ∨ v = 1) (d : decode cc pc = .ok (.bastore, 1)) (kk : zJ k G R nL Q (zu M t (zAi 1 n (zup f i.toNat v))) (cl) (sl) (pc + 1) lv (st)) : zJ k G R nL Q M (cl) (sl) (pc) lv (.int (zI v) :: .int (zI i) :: .ref t :: st) := by
  obtain ⟨⟨p, l, e, s, m⟩, ⟨args, below, meth, c⟩, L0, M0⟩ := k
  obtain ⟨⟨hx, hb, hml, hown, hts⟩, hLow, hfl, hlk, hrt, htb⟩ := F
  intro L H locs ls hR hA hv hs hS hl
  obtain ⟨e1, hz, hi, ws, hP, hD, hw⟩ := id hR
  obtain ⟨j, hj⟩ := hw t _ hm
  refine va_zast (tys := zTy G) (f := fun j => zI (f j)) hx hb hLow.1 hP hD hS j 1 hj rfl (zI_in h0 h1 hn) d (fun H1 locs1 hP1 hD1 hS1 => ?_)
  rw [zI_c h0 (by omega), zI_bool hb01, zup_I] at hP1 hD1
  exact kk L H1 locs1 ls (zRep_set (o' := zAi 1 n (zup f i.toNat v)) hm trivial hR hD hw hj hP1 hD1) (zAg_u hA) (fun q hq => zok_u (hv q hq)) (fun v hv => zok_u (zs_t (zs_t (zs_t hs)) v hv)) hS1 hl
theorem z_rf (L : Nat → Nat) (x : Option Nat) : va_rf (x.map L) = zmr L (va_rf x) := by cases x <;> rfl
theorem z_aald3 (F : zF k G cc nL own wsL_law ret tb) {t n a : Nat} {f : Nat → Option Nat} {i : Int} (hm : M t = some (zAr 3 n f)) (h0 : 0 ≤ i) (h1 : i < n) (hn : n < 2147483648) (hf : f i.toNat = some a) (d : decode cc pc = .ok (.aaload, 1)) (kk : zJ k G R nL Q M (cl) (sl) (pc + 1) lv (.ref a :: st)) : zJ k G R nL Q M (cl) (sl) (pc) lv (.int (zI i) :: .ref t :: st) := by
  obtain ⟨⟨p, l, e, s, m⟩, ⟨args, below, meth, c⟩, L0, M0⟩ := k
  obtain ⟨⟨hx, hb, hml, hown, hts⟩, hLow, hfl, hlk, hrt, htb⟩ := F
  intro L H locs ls hR hA hv hs hS hl
  obtain ⟨e1, hz, hi, ws, hP, hD, hw⟩ := id hR
  obtain ⟨j, hj⟩ := hw t _ hm
  refine va_aldq (tys := zTy G) (f := fun j => (f j).map L) hx hb hLow.1 hP j 3 hj rfl (zI_in h0 h1 hn) d ?_
  rw [zI_c h0 (by omega), hf]
  exact kk L H locs ls hR hA hv (zs_r (hz t _ hm _ a hf) (zs_t (zs_t hs))) hS hl
theorem z_aald4 (F : zF k G cc nL own wsL_law ret tb) {t n a : Nat} {f : Nat → Option Nat} {i : Int} (hm : M t = some (zAr 4 n f)) (h0 : 0 ≤ i) (h1 : i < n) (hn : n < 2147483648) (hf : f i.toNat = some a) (d : decode cc pc = .ok (.aaload, 1)) (kk : zJ k G R nL Q M (cl) (sl) (pc + 1) lv (.ref a :: st)) : zJ k G R nL Q M (cl) (sl) (pc) lv (.int (zI i) :: .ref t :: st) := by
  obtain ⟨⟨p, l, e, s, m⟩, ⟨args, below, meth, c⟩, L0, M0⟩ := k
  obtain ⟨⟨hx, hb, hml, hown, hts⟩, hLow, hfl, hlk, hrt, htb⟩ := F
  intro L H locs ls hR hA hv hs hS hl
  obtain ⟨e1, hz, hi, ws, hP, hD, hw⟩ := id hR
  obtain ⟨j, hj⟩ := hw t _ hm
  refine va_aldq (tys := zTy G) (f := fun j => (f j).map L) hx hb hLow.1 hP j 4 hj rfl (zI_in h0 h1 hn) d ?_
  rw [zI_c h0 (by omega), hf]
  exact kk L H locs ls hR hA hv (zs_r (hz t _ hm _ a hf) (zs_t (zs_t hs))) hS hl
theorem z_alen (F : zF k G cc nL own wsL_law ret tb) {t k9 n : Nat} {f : Nat → Int} (hm : M t = some (zAi k9 n f)) (hk9 : k9 < 3) (d : decode cc pc = .ok (.arraylength, 1)) (kk : zJ k G R nL Q M (cl) (sl) (pc + 1) lv (.int (zI n) :: st)) : zJ k G R nL Q M (cl) (sl) (pc) lv (.ref t :: st) := by
  obtain ⟨⟨p, l, e, s, m⟩, ⟨args, below, meth, c⟩, L0, M0⟩ := k
  obtain ⟨⟨hx, hb, hml, hown, hts⟩, hLow, hfl, hlk, hrt, htb⟩ := F
  intro L H locs ls hR hA hv hs hS hl
  obtain ⟨e1, hz, hi, ws, hP, hD, hw⟩ := id hR
  obtain ⟨j, hj⟩ := hw t _ hm
  rcases (show k9 = 0 ∨ k9 = 1 ∨ k9 = 2 by omega) with rfl | rfl | rfl
  · exact va_alen (tys := zTy G) hx hb hLow.1 hP j 0 hj rfl rfl d (kk L H locs ls hR hA hv (zs_i (zs_t hs)) hS hl)
  · exact va_alen (tys := zTy G) hx hb hLow.1 hP j 1 hj rfl rfl d (kk L H locs ls hR hA hv (zs_i (zs_t hs)) hS hl)
  · exact va_alen (tys := zTy G) hx hb hLow.1 hP j 2 hj rfl rfl d (kk L H locs ls hR hA hv (zs_i (zs_t hs)) hS hl)
theorem z_alenr (F : zF k G cc nL own wsL_law ret tb) {t n : Nat} {f : Nat → Option Nat} (hm : M t = some (zAr 4 n f)) (d : decode cc pc = .ok (.arraylength, 1)) (kk : zJ k G R nL Q M (cl) (sl) (pc + 1) lv (.int (zI n) :: st)) : zJ k G R nL Q M (cl) (sl) (pc) lv (.ref t :: st) := by
  obtain ⟨⟨p, l, e, s, m⟩, ⟨args, below, meth, c⟩, L0, M0⟩ := k
  obtain ⟨⟨hx, hb, hml, hown, hts⟩, hLow, hfl, hlk, hrt, htb⟩ := F
  intro L H locs ls hR hA hv hs hS hl
  obtain ⟨e1, hz, hi, ws, hP, hD, hw⟩ := id hR
  obtain ⟨j, hj⟩ := hw t _ hm
  exact va_alen (tys := zTy G) hx hb hLow.1 hP j 4 hj rfl rfl d (kk L H locs ls hR hA hv (zs_i (zs_t hs)) hS hl)
theorem zup_r (L : Nat → Nat) (f : Nat → Option Nat) (i a : Nat) : va_up (fun j => (f j).map L) i (some (L a)) = fun j => (va_up f i (some a) j).map L := by
  funext j
  simp only [va_up]
  split <;> rfl
theorem zoo_up {M : zM} {k n i a : Nat} {f : Nat → Option Nat} (h : zoo M (zAr k n f)) (ha : zin M a) : zoo M (zAr k n (va_up f i (some a))) := fun j b hb => by
  by_cases e : j = i
  · rw [e, va_up_self] at hb
    cases hb
    exact ha
  · rw [va_up_ne _ _ e] at hb
    exact h j b hb
theorem z_aast3 (F : zF k G cc nL own wsL_law ret tb) {t n a : Nat} {fs : List Value} {f : Nat → Option Nat} {i : Int} (hm : M t = some (zAr 3 n f)) (ha : M a = some (zOb 1 fs)) (h0 : 0 ≤ i) (h1 : i < n) (hn : n < 2147483648) (d : decode cc pc = .ok (.aastore, 1)) (kk : zJ k G R nL Q (zu M t (zAr 3 n (va_up f i.toNat (some a)))) (cl) (sl) (pc + 1) lv (st)) : zJ k G R nL Q M (cl) (sl) (pc) lv (.ref a :: .int (zI i) :: .ref t :: st) := by
  obtain ⟨⟨p, l, e, s, m⟩, ⟨args, below, meth, c⟩, L0, M0⟩ := k
  obtain ⟨⟨hx, hb, hml, hown, hts⟩, hLow, hfl, hlk, hrt, htb⟩ := F
  intro L H locs ls hR hA hv hs hS hl
  obtain ⟨e1, hz, hi, ws, hP, hD, hw⟩ := id hR
  obtain ⟨j, hj⟩ := hw t _ hm
  obtain ⟨j2, hj2⟩ := hw a _ ha
  refine va_astq (tys := zTy G) (f := fun j => (f j).map L) (r := (RX0, TX0, 2)) hx hb hLow.1 hP hD hS j 3 j2 1 hj rfl hj2 rfl (zI_in h0 h1 hn) d (fun H1 locs1 hP1 hD1 hS1 => ?_)
  rw [zI_c h0 (by omega), zup_r] at hP1 hD1
  exact kk L H1 locs1 ls (zRep_set (o' := zAr 3 n (va_up f i.toNat (some a))) hm (zoo_up (hz t _ hm) (Or.inl (by rw [ha]; rfl))) hR hD hw hj hP1 hD1) (zAg_u hA) (fun q hq => zok_u (hv q hq)) (fun v hv => zok_u (zs_t (zs_t (zs_t hs)) v hv)) hS1 hl
theorem z_cls {G : zG} {s : State} {cA : ClassId} {k : Nat} {ty : FieldType} (hK : va_K G.1 vwCl (zTy G ++ [(cA, ty)]) s) (hk : (zTy G)[k]? = some (G.2.1 k, ty)) : cA = G.2.1 k := by
  have h1 := (hK.2 5 (cA, ty) rfl).2
  have h2 := (hK.2 k (G.2.1 k, ty) (by rw [List.getElem?_append_left (List.getElem?_eq_some_iff.mp hk).1]; exact hk)).2
  cases ty with
  | object C =>
    obtain ⟨-, -, -, -, -, q1⟩ := h1
    obtain ⟨-, -, -, -, -, q2⟩ := h2
    exact Option.some.inj (q1.symm.trans q2)
  | _ => exact Option.some.inj (h1.symm.trans h2)
theorem z_newi (F : zF k G cc nL own wsL_law ret tb) (t : Nat) {n : Int} (N' : Nat) (hn : n = N') (hb9 : N' < 1000000) (h0 : M t = none) (h1 : t % 64 ≠ 63) (hcl : cl + 1 ≤ R.cells) (hsl : sl + N' ≤ R.slots) (hw9 : Cond.arrayClass .int ∈ wsL_law) (d : decode cc pc = .ok (.newarray .int, 2)) (kk : zJ k G R nL Q (zu M t (zAi 0 N' (fun _ => 0))) (cl + 1) (sl + N') (pc + 2) lv (.ref t :: st)) : zJ k G R nL Q M (cl) (sl) (pc) lv (.int (zI n) :: st) := by
  obtain ⟨⟨p, l, e, s, m⟩, ⟨args, below, meth, c⟩, L0, M0⟩ := k
  obtain ⟨⟨hx, hb, hml, hown, hts⟩, hLow, hfl, hlk, hrt, htb⟩ := F
  intro L H locs ls hR hA hv hs hS hl
  obtain ⟨e1, hz, hi, ws, hP, hD, hw⟩ := id hR
  subst hn
  refine va_newa (atype := .int) (ty := .int) (tys := zTy G) (N' := N') (a0 := (N', .inl (fun _ => (0 : Int32)))) hx hb (hts _ hw9) rfl hLow.1 hP hD hS (fun q hq => Nat.le_trans hLow.2.2.2.2.2.2.2.2.1 hq) (fun cA => rfl) (fun h => by have := (zI_lt (a := (N' : Int)) (b := 0) ⟨by omega, by omega⟩ ⟨by decide, by decide⟩).mp h; omega) (by rw [zI_c (by omega) (by omega)]; rfl) (by show N' * _ ≤ _; simp only [componentBytes]; omega) hcl hsl d (fun q cA H1 hK1 hP1 hD1 hS1 => ?_)
  have hc := z_cls (k := 0) hK1 rfl
  subst hc
  have hne : ∀ a, zin M a → zLu L t q a = L a := fun a ha => zLu_n (zin_ne ha h0 h1)
  have key := kk (zLu L t q) H1 locs ls (zRep_new (o := zAi 0 N' (fun _ => 0)) h0 h1 trivial rfl hR hw hP1 hD1) (zAg_new h0 h1 hA) (fun q hq => zok_u (hv q hq)) (zs_r (Or.inl (by rw [zu_s]; rfl)) (fun v hv => zok_u (zs_t hs v hv))) hS1 (by rw [zl_congr hv hne]; exact hl)
  rw [List.map_cons, zs_congr (zs_t hs) hne] at key
  rw [show zmr (zLu L t q) (.ref t) = .ref q from congrArg Value.ref zLu_s] at key
  exact key
theorem z_newz (F : zF k G cc nL own wsL_law ret tb) (t : Nat) {n : Int} (N' : Nat) (hn : n = N') (hb9 : N' < 1000000) (h0 : M t = none) (h1 : t % 64 ≠ 63) (hcl : cl + 1 ≤ R.cells) (hsl : sl + N' ≤ R.slots) (hw9 : Cond.arrayClass .boolean ∈ wsL_law) (d : decode cc pc = .ok (.newarray .boolean, 2)) (kk : zJ k G R nL Q (zu M t (zAi 1 N' (fun _ => 0))) (cl + 1) (sl + N') (pc + 2) lv (.ref t :: st)) : zJ k G R nL Q M (cl) (sl) (pc) lv (.int (zI n) :: st) := by
  obtain ⟨⟨p, l, e, s, m⟩, ⟨args, below, meth, c⟩, L0, M0⟩ := k
  obtain ⟨⟨hx, hb, hml, hown, hts⟩, hLow, hfl, hlk, hrt, htb⟩ := F
  intro L H locs ls hR hA hv hs hS hl
  obtain ⟨e1, hz, hi, ws, hP, hD, hw⟩ := id hR
  subst hn
  refine va_newa (atype := .boolean) (ty := .boolean) (tys := zTy G) (N' := N') (a0 := (N', .inl (fun _ => (0 : Int32)))) hx hb (hts _ hw9) rfl hLow.1 hP hD hS (fun q hq => Nat.le_trans hLow.2.2.2.2.2.2.2.2.1 hq) (fun cA => rfl) (fun h => by have := (zI_lt (a := (N' : Int)) (b := 0) ⟨by omega, by omega⟩ ⟨by decide, by decide⟩).mp h; omega) (by rw [zI_c (by omega) (by omega)]; rfl) (by show N' * _ ≤ _; simp only [componentBytes]; omega) hcl hsl d (fun q cA H1 hK1 hP1 hD1 hS1 => ?_)
  have hc := z_cls (k := 1) hK1 rfl
  subst hc
  have hne : ∀ a, zin M a → zLu L t q a = L a := fun a ha => zLu_n (zin_ne ha h0 h1)
  have key := kk (zLu L t q) H1 locs ls (zRep_new (o := zAi 1 N' (fun _ => 0)) h0 h1 trivial rfl hR hw hP1 hD1) (zAg_new h0 h1 hA) (fun q hq => zok_u (hv q hq)) (zs_r (Or.inl (by rw [zu_s]; rfl)) (fun v hv => zok_u (zs_t hs v hv))) hS1 (by rw [zl_congr hv hne]; exact hl)
  rw [List.map_cons, zs_congr (zs_t hs) hne] at key
  rw [show zmr (zLu L t q) (.ref t) = .ref q from congrArg Value.ref zLu_s] at key
  exact key
theorem z_newr3 (F : zF k G cc nL own wsL_law ret tb) (t : Nat) {n : Int} {index : Nat} (N' : Nat) (hn : n = N') (hb9 : N' < 1000000) (h0 : M t = none) (h1 : t % 64 ≠ 63) (hcl : cl + 1 ≤ R.cells) (hsl : sl + N' ≤ R.slots) (hw9 : Cond.classLink own index "SalonBook$Diary" ∈ wsL_law) (d : decode cc pc = .ok (.anewarray index, 3)) (kk : zJ k G R nL Q (zu M t (zAr 3 N' (fun _ => none))) (cl + 1) (sl + N') (pc + 3) lv (.ref t :: st)) : zJ k G R nL Q M (cl) (sl) (pc) lv (.int (zI n) :: st) := by
  obtain ⟨⟨p, l, e, s, m⟩, ⟨args, below, meth, c⟩, L0, M0⟩ := k
  obtain ⟨⟨hx, hb, hml, hown, hts⟩, hLow, hfl, hlk, hrt, htb⟩ := F
  intro L H locs ls hR hA hv hs hS hl
  obtain ⟨e1, hz, hi, ws, hP, hD, hw⟩ := id hR
  subst hn
  refine va_newq (C := "SalonBook$Diary") (tys := zTy G) (N' := N') hx hb hown (hts _ hw9) hLow.2.2.2.2.2.2.1 hLow.1 hP hD hS (fun q hq => Nat.le_trans hLow.2.2.2.2.2.2.2.2.1 hq) (fun h => by have := (zI_lt (a := (N' : Int)) (b := 0) ⟨by omega, by omega⟩ ⟨by decide, by decide⟩).mp h; omega) (by rw [zI_c (by omega) (by omega)]; rfl) (by omega) hcl hsl d (fun q cA H1 hK1 hP1 hD1 hS1 => ?_)
  have hc := z_cls (k := 3) hK1 rfl
  subst hc
  have hne : ∀ a, zin M a → zLu L t q a = L a := fun a ha => zLu_n (zin_ne ha h0 h1)
  have key := kk (zLu L t q) H1 locs ls (zRep_new (o := zAr 3 N' (fun _ => none)) h0 h1 (fun j a h => by cases h) rfl hR hw hP1 hD1) (zAg_new h0 h1 hA) (fun q hq => zok_u (hv q hq)) (zs_r (Or.inl (by rw [zu_s]; rfl)) (fun v hv => zok_u (zs_t hs v hv))) hS1 (by rw [zl_congr hv hne]; exact hl)
  rw [List.map_cons, zs_congr (zs_t hs) hne] at key
  rw [show zmr (zLu L t q) (.ref t) = .ref q from congrArg Value.ref zLu_s] at key
  exact key
theorem z_newr4 (F : zF k G cc nL own wsL_law ret tb) (t : Nat) {n : Int} {index : Nat} (N' : Nat) (hn : n = N') (hb9 : N' < 1000000) (h0 : M t = none) (h1 : t % 64 ≠ 63) (hcl : cl + 1 ≤ R.cells) (hsl : sl + N' ≤ R.slots) (hw9 : Cond.classLink own index "java/lang/Object" ∈ wsL_law) (d : decode cc pc = .ok (.anewarray index, 3)) (kk : zJ k G R nL Q (zu M t (zAr 4 N' (fun _ => none))) (cl + 1) (sl + N') (pc + 3) lv (.ref t :: st)) : zJ k G R nL Q M (cl) (sl) (pc) lv (.int (zI n) :: st) := by
  obtain ⟨⟨p, l, e, s, m⟩, ⟨args, below, meth, c⟩, L0, M0⟩ := k
  obtain ⟨⟨hx, hb, hml, hown, hts⟩, hLow, hfl, hlk, hrt, htb⟩ := F
  intro L H locs ls hR hA hv hs hS hl
  obtain ⟨e1, hz, hi, ws, hP, hD, hw⟩ := id hR
  subst hn
  refine va_newq (C := "java/lang/Object") (tys := zTy G) (N' := N') hx hb hown (hts _ hw9) hLow.2.2.2.2.2.2.2.1 hLow.1 hP hD hS (fun q hq => Nat.le_trans hLow.2.2.2.2.2.2.2.2.1 hq) (fun h => by have := (zI_lt (a := (N' : Int)) (b := 0) ⟨by omega, by omega⟩ ⟨by decide, by decide⟩).mp h; omega) (by rw [zI_c (by omega) (by omega)]; rfl) (by omega) hcl hsl d (fun q cA H1 hK1 hP1 hD1 hS1 => ?_)
  have hc := z_cls (k := 4) hK1 rfl
  subst hc
  have hne : ∀ a, zin M a → zLu L t q a = L a := fun a ha => zLu_n (zin_ne ha h0 h1)
  have key := kk (zLu L t q) H1 locs ls (zRep_new (o := zAr 4 N' (fun _ => none)) h0 h1 (fun j a h => by cases h) rfl hR hw hP1 hD1) (zAg_new h0 h1 hA) (fun q hq => zok_u (hv q hq)) (zs_r (Or.inl (by rw [zu_s]; rfl)) (fun v hv => zok_u (zs_t hs v hv))) hS1 (by rw [zl_congr hv hne]; exact hl)
  rw [List.map_cons, zs_congr (zs_t hs) hne] at key
  rw [show zmr (zLu L t q) (.ref t) = .ref q from congrArg Value.ref zLu_s] at key
  exact key
theorem z_new (F : zF k G cc nL own wsL_law ret tb) (t : Nat) {index ci N : Nat} {C : String} {T : u_T} (fs : List Value) (hc : vwCl[ci]? = some (C, T, N)) (hin : ∀ w ∈ u_ws C T N, w ∈ wsL_law) (ty : Nat → FieldType) (hty : ∀ k, k < N → parseFieldDescriptor (T k).2.2.1 = some (ty k)) (hq1 : Cond.classLink own index C ∈ wsL_law) (hq2 : Cond.instantiable C N ∈ wsL_law) (hq3 : Cond.initialized C ∈ wsL_law) (hfs : ∀ j, j < N → defaultValue (ty j) = vp_V fs j) (hnr : ∀ v ∈ fs, v = .null ∨ v = .int (zI 0)) (h0 : M t = none) (h1 : t % 64 ≠ 63) (hcl : cl + 1 ≤ R.cells) (hsl : sl + N ≤ R.slots) (d : decode cc pc = .ok (.new index, 3)) (kk : zJ k G R nL Q (zu M t (zOb ci fs)) (cl + 1) (sl + N) (pc + 3) lv (.ref t :: st)) : zJ k G R nL Q M (cl) (sl) (pc) lv (st) := by
  obtain ⟨⟨p, l, e, s, m⟩, ⟨args, below, meth, c⟩, L0, M0⟩ := k
  obtain ⟨⟨hx, hb, hml, hown, hts⟩, hLow, hfl, hlk, hrt, htb⟩ := F
  intro L H locs ls hR hA hv hs hS hl
  obtain ⟨e1, hz, hi, ws, hP, hD, hw⟩ := id hR
  refine va_new (fs := fs) hx hb hts hin ty hty hown (hts _ hq1) (hts _ hq2) (hts _ hq3) hLow.1 hP hD hS (fun q hq => Nat.le_trans hLow.2.2.2.2.2.2.2.2.1 hq) hc hfs hcl hsl d (fun q H1 hP1 hD1 hS1 => ?_)
  have hne : ∀ a, zin M a → zLu L t q a = L a := fun a ha => zLu_n (zin_ne ha h0 h1)
  have hmap : ∀ L : Nat → Nat, fs.map (zmr L) = fs := fun L => (List.map_congr_left (g := id) (fun v hv => by rcases hnr v hv with rfl | rfl <;> rfl)).trans (List.map_id fs)
  have key := kk (zLu L t q) H1 locs ls (zRep_new (o := zOb ci fs) h0 h1 (fun v hv a e => by rcases hnr v hv with rfl | rfl <;> cases e) (congrArg (fun z => (Sum.inr (ci, z) : va_E)) (hmap L)) hR hw hP1 hD1) (zAg_new h0 h1 hA) (fun q hq => zok_u (hv q hq)) (zs_r (Or.inl (by rw [zu_s]; rfl)) (fun v hv => zok_u (hs v hv))) hS1 (by rw [zl_congr hv hne]; exact hl)
  rw [List.map_cons, zs_congr hs hne] at key
  rw [show zmr (zLu L t q) (.ref t) = .ref q from congrArg Value.ref zLu_s] at key
  exact key
end ZH
