/-! ===== throws ===== -/
def zNB (cls : String) : List Cond := zND.map Cond.declares ++ [.castable cls cls]
abbrev zNs : List String := ["java/lang/RuntimeException", "java/lang/Exception"]
theorem z_thr {k : zC} {G : zG} {R : Room} {nL : Nat} {M : zM} {cl sl pc : Nat} {lv : List (Nat × Value)} {st : List Value} {cc : ByteArray} {ret : Option FieldType} {Rc : Option Value → zM → Prop} {Xc : String → zM → Prop} (F : zF k G cc nL RX6 wsL_law ret []) {cls text : String} {ik is ic : Nat} (hcls : Bundle.fit cls = true) (hk : Cond.classLink RX6 ik cls ∈ wsL_law) (hini : Cond.initialized cls ∈ wsL_law) (hstr : (is, text) ∈ zStr) (hat : ∀ w ∈ (vx_atS RX6 ic cls zNs).filter goodWord, w ∈ wsL_law) (hat2 : ∀ w ∈ (vx_atS RX6 ic cls zNs).filter (fun w => !goodWord w), w ∈ zNB cls) (hcc : (cls, cls) ∈ zNC) (hgood : ∀ w ∈ Cond.classLink RX6 ik cls :: Cond.initialized cls :: vx_atS RX6 ic cls zNs, vx_ot w = true)
    (d0 : decode cc pc = .ok (.new ik, 3)) (d3 : decode cc (pc + 3) = .ok (.dup, 1)) (d4 : decode cc (pc + 4) = .ok (.ldc is, 2)) (d6 : decode cc (pc + 6) = .ok (.invokespecial ic, 3)) (d9 : decode cc (pc + 9) = .ok (.athrow, 1))
    (hRf : 5 < R.frames) (hRl : (st.map fun v => v.category).sum + 82 ≤ R.locals) (hc : cl + 1 ≤ R.cells) (hs9 : sl + 6 ≤ R.slots) (hx9 : Xc cls M) : zJ k G R nL (zMQ k G R Rc Xc) M cl sl pc lv st := by
  obtain ⟨⟨p, l, e, s, m⟩, ⟨args, below, meth, c⟩, L0, M0⟩ := k
  obtain ⟨⟨hx, hb, hml, hown, hts⟩, hLow, hfl, hlk, hrt, htb⟩ := F
  intro L H locs ls hR hA hv hs hS hl
  obtain ⟨a, ha⟩ := hLow.2.2.2.2.2.1 _ hstr
  refine vx_throwS (names := zNs) (sa := a) hx hb hfl hown hcls (by decide) (hts _ hk) (hts _ hini) ha (vx_hat (B := zNB cls) (fun w h => hts _ (hat w h)) hat2 (fun w h => ?_)) hgood hLow.2.1 hLow.2.2.1 hS (hl.1.trans hml.symm) d0 d3 d4 d6 d9 (fun x h => by rw [htb] at h; cases h) (by show 2 + 3 < _; exact hRf) (by rw [zmap_cat]; exact hRl) hc hs9 hlk (fun t hal h1 h2 => ⟨⟨M, L, hx9, ?_, hA⟩, ?_⟩) hS.2.2 hc hs9
  · rcases List.mem_append.mp h with h | h
    · obtain ⟨y, hy, rfl⟩ := List.mem_map.mp h
      exact va_Nw.use rfl (hLow.2.2.2.2.2.2.2.2.2.2.2.2.2.1 y hy)
    · rw [List.mem_singleton.mp h]
      exact va_Nw.use rfl (hLow.2.2.2.2.2.2.2.2.2.2.1 _ hcc)
  · obtain ⟨e1, hz, hi, ws, hP, hD, hw⟩ := hR
    exact ⟨e1, hz, hi, ws, hP.kept (fun k9 q hk9 => h2 q.1 (vx_lt hP hk9)), hD, hw⟩
  · exact ⟨Nat.le_trans hS.1 h1, fun q g1 g2 => (h2 q (Nat.lt_of_lt_of_le g1 hS.1)).trans (hS.2.1 q g1 g2)⟩
theorem zat_IAE : ∀ w ∈ (vx_atS RX6 43 "java/lang/IllegalArgumentException" zNs).filter goodWord, w ∈ wsL_law := fun w h => List.mem_append_left _ (List.mem_append_left _ (List.mem_append_left _ (List.mem_append_right _ h)))
theorem zab_IAE : ∀ w ∈ (vx_atS RX6 43 "java/lang/IllegalArgumentException" zNs).filter (fun w => !goodWord w), w ∈ zNB "java/lang/IllegalArgumentException" := by decide +kernel
theorem zcc_IAE : ("java/lang/IllegalArgumentException", "java/lang/IllegalArgumentException") ∈ zNC := by decide +kernel
theorem zfi_IAE : Bundle.fit "java/lang/IllegalArgumentException" = true := by decide +kernel
theorem zgd_IAE : ∀ w ∈ Cond.classLink RX6 39 "java/lang/IllegalArgumentException" :: Cond.initialized "java/lang/IllegalArgumentException" :: vx_atS RX6 43 "java/lang/IllegalArgumentException" zNs, vx_ot w = true := by decide +kernel
theorem zk_IAE : Cond.classLink RX6 39 "java/lang/IllegalArgumentException" ∈ wsL_law := (zr_3 _ (List.mem_of_getElem? (i := 15) rfl))
theorem zi_IAE : Cond.initialized "java/lang/IllegalArgumentException" ∈ wsL_law := (zr_3 _ (List.mem_of_getElem? (i := 16) rfl))
theorem zat_ISE : ∀ w ∈ (vx_atS RX6 60 "java/lang/IllegalStateException" zNs).filter goodWord, w ∈ wsL_law := fun w h => List.mem_append_left _ (List.mem_append_left _ (List.mem_append_right _ h))
theorem zab_ISE : ∀ w ∈ (vx_atS RX6 60 "java/lang/IllegalStateException" zNs).filter (fun w => !goodWord w), w ∈ zNB "java/lang/IllegalStateException" := by decide +kernel
theorem zcc_ISE : ("java/lang/IllegalStateException", "java/lang/IllegalStateException") ∈ zNC := by decide +kernel
theorem zfi_ISE : Bundle.fit "java/lang/IllegalStateException" = true := by decide +kernel
theorem zgd_ISE : ∀ w ∈ Cond.classLink RX6 56 "java/lang/IllegalStateException" :: Cond.initialized "java/lang/IllegalStateException" :: vx_atS RX6 60 "java/lang/IllegalStateException" zNs, vx_ot w = true := by decide +kernel
theorem zk_ISE : Cond.classLink RX6 56 "java/lang/IllegalStateException" ∈ wsL_law := (zr_3 _ (List.mem_of_getElem? (i := 17) rfl))
theorem zi_ISE : Cond.initialized "java/lang/IllegalStateException" ∈ wsL_law := (zr_3 _ (List.mem_of_getElem? (i := 18) rfl))
theorem zat_IOO : ∀ w ∈ (vx_atS RX6 184 "java/lang/IndexOutOfBoundsException" zNs).filter goodWord, w ∈ wsL_law := fun w h => List.mem_append_left _ (List.mem_append_right _ h)
theorem zab_IOO : ∀ w ∈ (vx_atS RX6 184 "java/lang/IndexOutOfBoundsException" zNs).filter (fun w => !goodWord w), w ∈ zNB "java/lang/IndexOutOfBoundsException" := by decide +kernel
theorem zcc_IOO : ("java/lang/IndexOutOfBoundsException", "java/lang/IndexOutOfBoundsException") ∈ zNC := by decide +kernel
theorem zfi_IOO : Bundle.fit "java/lang/IndexOutOfBoundsException" = true := by decide +kernel
theorem zgd_IOO : ∀ w ∈ Cond.classLink RX6 180 "java/lang/IndexOutOfBoundsException" :: Cond.initialized "java/lang/IndexOutOfBoundsException" :: vx_atS RX6 184 "java/lang/IndexOutOfBoundsException" zNs, vx_ot w = true := by decide +kernel
theorem zk_IOO : Cond.classLink RX6 180 "java/lang/IndexOutOfBoundsException" ∈ wsL_law := (zr_9 _ (List.mem_of_getElem? (i := 4) rfl))
theorem zi_IOO : Cond.initialized "java/lang/IndexOutOfBoundsException" ∈ wsL_law := (zr_9 _ (List.mem_of_getElem? (i := 5) rfl))
theorem zat_NSE : ∀ w ∈ (zxN 166 "java/util/NoSuchElementException").filter goodWord, w ∈ wsL_law := fun w h => List.mem_append_right _ h
theorem zab_NSE : ∀ w ∈ (zxN 166 "java/util/NoSuchElementException").filter (fun w => !goodWord w), w ∈ zNB "java/util/NoSuchElementException" := by decide +kernel
theorem zcc_NSE : ("java/util/NoSuchElementException", "java/util/NoSuchElementException") ∈ zNC := by decide +kernel
theorem zfi_NSE : Bundle.fit "java/util/NoSuchElementException" = true := by decide +kernel
theorem zgd_NSE : ∀ w ∈ Cond.classLink RX6 162 "java/util/NoSuchElementException" :: Cond.initialized "java/util/NoSuchElementException" :: zxN 166 "java/util/NoSuchElementException", vx_ot w = true := by decide +kernel
theorem zk_NSE : Cond.classLink RX6 162 "java/util/NoSuchElementException" ∈ wsL_law := (zr_15 _ (List.mem_of_getElem? (i := 9) rfl))
theorem zi_NSE : Cond.initialized "java/util/NoSuchElementException" ∈ wsL_law := (zr_15 _ (List.mem_of_getElem? (i := 10) rfl))
theorem z_thrW {k : zC} {G : zG} {R : Room} {nL : Nat} {M : zM} {cl sl pc : Nat} {lv : List (Nat × Value)} {st : List Value} {cc : ByteArray} {ret : Option FieldType} {Rc : Option Value → zM → Prop} {Xc : String → zM → Prop} (F : zF k G cc nL RX6 wsL_law ret []) {cls text : String} {ik is ic : Nat} (hcls : Bundle.fit cls = true) (hk : Cond.classLink RX6 ik cls ∈ wsL_law) (hini : Cond.initialized cls ∈ wsL_law) (hstr : (is, text) ∈ zStr) (hat : ∀ w ∈ (vx_atS RX6 ic cls zNs).filter goodWord, w ∈ wsL_law) (hat2 : ∀ w ∈ (vx_atS RX6 ic cls zNs).filter (fun w => !goodWord w), w ∈ zNB cls) (hcc : (cls, cls) ∈ zNC) (hgood : ∀ w ∈ Cond.classLink RX6 ik cls :: Cond.initialized cls :: vx_atS RX6 ic cls zNs, vx_ot w = true)
    (d0 : decode cc pc = .ok (.new ik, 3)) (d3 : decode cc (pc + 3) = .ok (.dup, 1)) (d4 : decode cc (pc + 4) = .ok (.ldc_w is, 3)) (d6 : decode cc (pc + 7) = .ok (.invokespecial ic, 3)) (d9 : decode cc (pc + 10) = .ok (.athrow, 1))
    (hRf : 5 < R.frames) (hRl : (st.map fun v => v.category).sum + 82 ≤ R.locals) (hc : cl + 1 ≤ R.cells) (hs9 : sl + 6 ≤ R.slots) (hx9 : Xc cls M) : zJ k G R nL (zMQ k G R Rc Xc) M cl sl pc lv st := by
  obtain ⟨⟨p, l, e, s, m⟩, ⟨args, below, meth, c⟩, L0, M0⟩ := k
  obtain ⟨⟨hx, hb, hml, hown, hts⟩, hLow, hfl, hlk, hrt, htb⟩ := F
  intro L H locs ls hR hA hv hs hS hl
  obtain ⟨a, ha⟩ := hLow.2.2.2.2.2.1 _ hstr
  refine vx_throwSW (names := zNs) (sa := a) hx hb hfl hown hcls (by decide) (hts _ hk) (hts _ hini) ha (vx_hat (B := zNB cls) (fun w h => hts _ (hat w h)) hat2 (fun w h => ?_)) hgood hLow.2.1 hLow.2.2.1 hS (hl.1.trans hml.symm) d0 d3 d4 d6 d9 (fun x h => by rw [htb] at h; cases h) (by show 2 + 3 < _; exact hRf) (by rw [zmap_cat]; exact hRl) hc hs9 hlk (fun t hal h1 h2 => ⟨⟨M, L, hx9, ?_, hA⟩, ?_⟩) hS.2.2 hc hs9
  · rcases List.mem_append.mp h with h | h
    · obtain ⟨y, hy, rfl⟩ := List.mem_map.mp h
      exact va_Nw.use rfl (hLow.2.2.2.2.2.2.2.2.2.2.2.2.2.1 y hy)
    · rw [List.mem_singleton.mp h]
      exact va_Nw.use rfl (hLow.2.2.2.2.2.2.2.2.2.2.1 _ hcc)
  · obtain ⟨e1, hz, hi, ws, hP, hD, hw⟩ := hR
    exact ⟨e1, hz, hi, ws, hP.kept (fun k9 q hk9 => h2 q.1 (vx_lt hP hk9)), hD, hw⟩
  · exact ⟨Nat.le_trans hS.1 h1, fun q g1 g2 => (h2 q (Nat.lt_of_lt_of_le g1 hS.1)).trans (hS.2.1 q g1 g2)⟩
theorem zbN_0 : decode zbN 0 = .ok (.aload_n 0, 1) := by decide +kernel
theorem zbN_1 : decode zbN 1 = .ok (.aload_n 1, 1) := by decide +kernel
theorem zbN_2 : decode zbN 2 = .ok (.invokespecial 13, 3) := by decide +kernel
theorem zbN_5 : decode zbN 5 = .ok (.return_, 1) := by decide +kernel
theorem z_thrN {k : zC} {G : zG} {R : Room} {nL : Nat} {M : zM} {cl sl pc : Nat} {lv : List (Nat × Value)} {st : List Value} {cc : ByteArray} {ret : Option FieldType} {Rc : Option Value → zM → Prop} {Xc : String → zM → Prop} (F : zF k G cc nL RX6 wsL_law ret []) {cls text : String} {ik is ic : Nat} (hcls : Bundle.fit cls = true) (hk : Cond.classLink RX6 ik cls ∈ wsL_law) (hini : Cond.initialized cls ∈ wsL_law) (hstr : (is, text) ∈ zStr) (hat : ∀ w ∈ (zxN ic cls).filter goodWord, w ∈ wsL_law) (hat2 : ∀ w ∈ (zxN ic cls).filter (fun w => !goodWord w), w ∈ zNB cls) (hcc : (cls, cls) ∈ zNC) (hgood : ∀ w ∈ Cond.classLink RX6 ik cls :: Cond.initialized cls :: zxN ic cls, vx_ot w = true)
    (d0 : decode cc pc = .ok (.new ik, 3)) (d3 : decode cc (pc + 3) = .ok (.dup, 1)) (d4 : decode cc (pc + 4) = .ok (.ldc is, 2)) (d6 : decode cc (pc + 6) = .ok (.invokespecial ic, 3)) (d9 : decode cc (pc + 9) = .ok (.athrow, 1))
    (hRf : 5 < R.frames) (hRl : (st.map fun v => v.category).sum + 82 ≤ R.locals) (hc : cl + 1 ≤ R.cells) (hs9 : sl + 6 ≤ R.slots) (hx9 : Xc cls M) : zJ k G R nL (zMQ k G R Rc Xc) M cl sl pc lv st := by
  obtain ⟨⟨p, l, e, s, m⟩, ⟨args, below, meth, c⟩, L0, M0⟩ := k
  obtain ⟨⟨hx, hb, hml, hown, hts⟩, hLow, hfl, hlk, hrt, htb⟩ := F
  intro L H locs ls hR hA hv hs hS hl
  obtain ⟨a, ha⟩ := hLow.2.2.2.2.2.1 _ hstr
  refine zx_throwS (Y0 := "java/lang/RuntimeException") (names := ["java/lang/Exception"]) (ix := 13) (bs := zbN) (sa := a) hx hb hfl hown hcls (by decide) (by decide) zbN_0 zbN_1 zbN_2 zbN_5 (hts _ hk) (hts _ hini) ha (vx_hat (B := zNB cls) (fun w h => hts _ (hat w h)) hat2 (fun w h => ?_)) hgood hLow.2.1 hLow.2.2.1 hS (hl.1.trans hml.symm) d0 d3 d4 d6 d9 (fun x h => by rw [htb] at h; cases h) (by show 1 + 4 < _; exact hRf) (by rw [zmap_cat]; exact hRl) hc hs9 hlk (fun t hal h1 h2 => ⟨⟨M, L, hx9, ?_, hA⟩, ?_⟩) hS.2.2 hc hs9
  · rcases List.mem_append.mp h with h | h
    · obtain ⟨y, hy, rfl⟩ := List.mem_map.mp h
      exact va_Nw.use rfl (hLow.2.2.2.2.2.2.2.2.2.2.2.2.2.1 y hy)
    · rw [List.mem_singleton.mp h]
      exact va_Nw.use rfl (hLow.2.2.2.2.2.2.2.2.2.2.1 _ hcc)
  · obtain ⟨e1, hz, hi, ws, hP, hD, hw⟩ := hR
    exact ⟨e1, hz, hi, ws, hP.kept (fun k9 q hk9 => h2 q.1 (vx_lt hP hk9)), hD, hw⟩
  · exact ⟨Nat.le_trans hS.1 h1, fun q g1 g2 => (h2 q (Nat.lt_of_lt_of_le g1 hS.1)).trans (hS.2.1 q g1 g2)⟩
theorem z_thrNW {k : zC} {G : zG} {R : Room} {nL : Nat} {M : zM} {cl sl pc : Nat} {lv : List (Nat × Value)} {st : List Value} {cc : ByteArray} {ret : Option FieldType} {Rc : Option Value → zM → Prop} {Xc : String → zM → Prop} (F : zF k G cc nL RX6 wsL_law ret []) {cls text : String} {ik is ic : Nat} (hcls : Bundle.fit cls = true) (hk : Cond.classLink RX6 ik cls ∈ wsL_law) (hini : Cond.initialized cls ∈ wsL_law) (hstr : (is, text) ∈ zStr) (hat : ∀ w ∈ (zxN ic cls).filter goodWord, w ∈ wsL_law) (hat2 : ∀ w ∈ (zxN ic cls).filter (fun w => !goodWord w), w ∈ zNB cls) (hcc : (cls, cls) ∈ zNC) (hgood : ∀ w ∈ Cond.classLink RX6 ik cls :: Cond.initialized cls :: zxN ic cls, vx_ot w = true)
    (d0 : decode cc pc = .ok (.new ik, 3)) (d3 : decode cc (pc + 3) = .ok (.dup, 1)) (d4 : decode cc (pc + 4) = .ok (.ldc_w is, 3)) (d6 : decode cc (pc + 7) = .ok (.invokespecial ic, 3)) (d9 : decode cc (pc + 10) = .ok (.athrow, 1))
    (hRf : 5 < R.frames) (hRl : (st.map fun v => v.category).sum + 82 ≤ R.locals) (hc : cl + 1 ≤ R.cells) (hs9 : sl + 6 ≤ R.slots) (hx9 : Xc cls M) : zJ k G R nL (zMQ k G R Rc Xc) M cl sl pc lv st := by
  obtain ⟨⟨p, l, e, s, m⟩, ⟨args, below, meth, c⟩, L0, M0⟩ := k
  obtain ⟨⟨hx, hb, hml, hown, hts⟩, hLow, hfl, hlk, hrt, htb⟩ := F
  intro L H locs ls hR hA hv hs hS hl
  obtain ⟨a, ha⟩ := hLow.2.2.2.2.2.1 _ hstr
  refine zx_throwSW (Y0 := "java/lang/RuntimeException") (names := ["java/lang/Exception"]) (ix := 13) (bs := zbN) (sa := a) hx hb hfl hown hcls (by decide) (by decide) zbN_0 zbN_1 zbN_2 zbN_5 (hts _ hk) (hts _ hini) ha (vx_hat (B := zNB cls) (fun w h => hts _ (hat w h)) hat2 (fun w h => ?_)) hgood hLow.2.1 hLow.2.2.1 hS (hl.1.trans hml.symm) d0 d3 d4 d6 d9 (fun x h => by rw [htb] at h; cases h) (by show 1 + 4 < _; exact hRf) (by rw [zmap_cat]; exact hRl) hc hs9 hlk (fun t hal h1 h2 => ⟨⟨M, L, hx9, ?_, hA⟩, ?_⟩) hS.2.2 hc hs9
  · rcases List.mem_append.mp h with h | h
    · obtain ⟨y, hy, rfl⟩ := List.mem_map.mp h
      exact va_Nw.use rfl (hLow.2.2.2.2.2.2.2.2.2.2.2.2.2.1 y hy)
    · rw [List.mem_singleton.mp h]
      exact va_Nw.use rfl (hLow.2.2.2.2.2.2.2.2.2.2.1 _ hcc)
  · obtain ⟨e1, hz, hi, ws, hP, hD, hw⟩ := hR
    exact ⟨e1, hz, hi, ws, hP.kept (fun k9 q hk9 => h2 q.1 (vx_lt hP hk9)), hD, hw⟩
  · exact ⟨Nat.le_trans hS.1 h1, fun q g1 g2 => (h2 q (Nat.lt_of_lt_of_le g1 hS.1)).trans (hS.2.1 q g1 g2)⟩
