/-! ===== the book: the waiting list is served; moves and drops ===== -/
theorem zInv.rem {s : zS} (h : zInv s) {p : Int} (h0 : 0 ≤ p) (h1 : p < s 14 0 0) : zInv (zOpR s p) := by
  obtain ⟨hb, ⟨c1, c2, c3, c4, c5, c6, c7, c8, c9, c10, c11, c12, c13, c14, c15⟩, hs1, hs2, hu1, hu2, hq, hdc, hdm⟩ := h
  have e14 : zOpR s p 14 0 0 = s 14 0 0 - 1 := rfl
  have e18 : zOpR s p 18 0 0 = s 18 0 0 := rfl
  have hx : ∀ j : Nat, (j : Int) < s 14 0 0 - 1 → ∃ i : Nat, (i : Int) < s 14 0 0 ∧ zOpR s p 15 j 0 = s 15 i 0 ∧ zOpR s p 16 j 0 = s 16 i 0 ∧ zOpR s p 17 j 0 = s 17 i 0 := fun j hj => by
    by_cases h9 : p ≤ (j : Int)
    · refine ⟨j + 1, by omega, ?_, ?_, ?_⟩
      · rw [zOpR_q (Or.inl rfl), if_pos h9]
      · rw [zOpR_q (Or.inr (Or.inl rfl)), if_pos h9]
      · rw [zOpR_17, if_pos h9]
    · refine ⟨j, by omega, ?_, ?_, ?_⟩
      · rw [zOpR_q (Or.inl rfl), if_neg h9]
      · rw [zOpR_q (Or.inr (Or.inl rfl)), if_neg h9]
      · rw [zOpR_17, if_neg h9]
  refine ⟨fun f i j => ?_, ⟨c1, c2, c3, ⟨by rw [e14]; omega, by rw [e14]; omega⟩, ⟨c5.1, by rw [e14, e18]; omega⟩, c6, c7, c8, c9, c10, c11, ?_, c13, c14, c15⟩, hs1, hs2, hu1, hu2, ?_, hdc, hdm⟩
  · unfold zOpR
    split
    · omega
    · split
      · exact hb _ _ _
      · exact hb _ _ _
  · intro j hj
    rw [e14] at hj
    obtain ⟨i, hi, _, _, e⟩ := hx j hj
    rw [e, e18]
    exact c12 i hi
  · intro j hj
    rw [e14] at hj
    obtain ⟨i, hi, e1, e2, e3⟩ := hx j hj
    rw [e1, e2, e3]
    exact hq i hi
theorem zInv.bookB {s : zS} (h : zInv s) {a : Nat} {who : Nat → Bool} {x : Int} (ha : (a : Int) < s 4 0 0) (hn : s 9 0 0 < 30) (hx : 0 ≤ x) (hx2 : x + zLen s a ≤ 600) (hr : zRoomB s who a x = true) : zInv (zOpB s a (zGet s who a x) (zChair s a x) x) := by
  have h9 := h.c.2.2.1.1
  have key := (h.new ha hn).place (v := (s 9 0 0).toNat) (a := a) (who := who) (x := x) (show (((s 9 0 0).toNat : Nat) : Int) < s 9 0 0 + 1 by omega) (if_pos ⟨rfl, rfl, rfl⟩) (if_pos ⟨rfl, rfl, rfl⟩) hx hx2 (by rw [zRoom_V h9]; exact hr)
  rw [zGet_V h9] at key
  exact key
/-- where the request at place p gets served, -1 if nowhere -/
def zSwF (c : zS) (p : Nat) : Int := if c 9 0 0 < 30 then zFind c (zBit 31) (c 15 p 0).toNat 0 600 else -1
def zSwB (c : zS) (p : Nat) : zS := zOpR (zOpB c (c 15 p 0).toNat (zGet c (zBit 31) (c 15 p 0).toNat (zSwF c p)) (zChair c (c 15 p 0).toNat (zSwF c p)) (zSwF c p)) p
/-- n looks from place p on; how many are served -/
def zSw : Nat → zS → Nat → Int → zS × Int
  | 0, c, _, m => (c, m)
  | n + 1, c, p, m => if zSwF c p = -1 ∨ c 16 p 0 < zSwF c p then zSw n c (p + 1) m else zSw n (zSwB c p) p (m + 1)
theorem zInv.q {s : zS} (h : zInv s) {p : Nat} (hp : (p : Int) < s 14 0 0) : (0 ≤ s 15 p 0 ∧ s 15 p 0 < s 4 0 0) ∧ s 15 p 0 = s 19 (s 17 p 0).toNat 0 ∧ s 16 p 0 = s 20 (s 17 p 0).toNat 0 ∧ 0 ≤ s 17 p 0 ∧ s 17 p 0 < s 18 0 0 := by
  have h1 := h.2.2.2.2.2.2.1 p hp
  have h2 := h.c.2.2.2.2.2.2.2.2.2.2.2.1 p hp
  have h3 := h.c.2.2.2.2.2.2.2.2.2.2.2.2.1 (s 17 p 0).toNat (by omega)
  exact ⟨by rw [h1.1]; exact h3, h1.1, h1.2, h2.1, h2.2⟩
theorem zInv.sw {s : zS} (h : zInv s) {p : Nat} (hp : (p : Int) < s 14 0 0) : zSwF s p = -1 ∨ (s 9 0 0 < 30 ∧ zSwF s p = zFind s (zBit 31) (s 15 p 0).toNat 0 600 ∧ 0 ≤ zSwF s p ∧ zSwF s p + zLen s (s 15 p 0).toNat ≤ 600 ∧ zRoomB s (zBit 31) (s 15 p 0).toNat (zSwF s p) = true) := by
  by_cases h1 : s 9 0 0 < 30
  · have e : zSwF s p = zFind s (zBit 31) (s 15 p 0).toNat 0 600 := if_pos h1
    rcases zFind_r s (zBit 31) (s 15 p 0).toNat 0 600 with h2 | h2
    · exact Or.inl (e.trans h2)
    · rw [← e] at h2
      exact Or.inr ⟨h1, e, h2⟩
  · exact Or.inl (if_neg h1)
theorem zInv.swB {s : zS} (h : zInv s) {p : Nat} (hp : (p : Int) < s 14 0 0) (hF : ¬ zSwF s p = -1) : zInv (zOpB s (s 15 p 0).toNat (zGet s (zBit 31) (s 15 p 0).toNat (zSwF s p)) (zChair s (s 15 p 0).toNat (zSwF s p)) (zSwF s p)) ∧ zInv (zSwB s p) := by
  obtain ⟨h1, h2, h3, h4, h5⟩ := (h.sw hp).resolve_left hF
  have hq := (h.q hp).1
  have key := h.bookB (a := (s 15 p 0).toNat) (by omega) h1 h3 h4 h5
  exact ⟨key, key.rem (by omega) hp⟩
theorem zSw_inv : ∀ (n : Nat) {c : zS} {p : Nat} {m : Int}, zInv c → (p : Int) + n = c 14 0 0 → zInv (zSw n c p m).1
  | 0, _, _, _, h, _ => h
  | n + 1, c, p, m, h, h1 => by
    rw [zSw]
    split
    · exact zSw_inv n h (by omega)
    · rename_i h2
      refine zSw_inv n (h.swB (by omega) (fun h3 => h2 (Or.inl h3))).2 ?_
      show (p : Int) + n = c 14 0 0 - 1
      omega
theorem c_rem {l : Launch} (hfl : l.stackTraces = false) (G : zG) {s t : zS} {o : zOx} (hc : zC1 s) {p : Int} (h0 : 0 ≤ p) (h1 : p < s 14 0 0) : zCn l G yJx4a65c_remove_915e3 (.code yJx4a65c_remove_915e3 cJx4a65c_remove_915e3 4 (some (.object "java/lang/Object"))) rJx4a65c_remove_915e3 [.ref 193, .int (zI p)] (zAll s t o) (zRr (fun xr M2 => xr = 64 * (s 17 p.toNat 0).toNat + 15 ∧ M2 = zAll (zOpR s p) t o)) zN := by
  have h18 := hc.2.2.2.2.1
  have h14 := hc.2.2.2.1
  obtain ⟨e1, e2⟩ := zDat_q (s := s) (t := t) (o := o) (by omega)
  have key := c_Jx4a65c_remove_915e3 hfl G (i := p) (a := 64 * (s 17 p.toNat 0).toNat + 15) (zAll s t o) e1 e2 h0 h1 (by omega) (by decide) (if_pos (by omega)) (ci := 4) rfl (by decide +kernel) (fun j x hx => by
    by_cases h9 : (j : Int) < s 14 0 0
    · have hx2 : some (64 * (s 17 j 0).toNat + 15) = some x := (if_pos h9).symm.trans hx
      cases hx2
      have := hc.2.2.2.2.2.2.2.2.2.2.2.1 j h9
      exact ⟨_, zAll_q t o (by omega)⟩
    · have hx2 : none = some x := (if_neg h9).symm.trans hx
      cases hx2)
  rw [zH_rem h0 h1 h18.2] at key
  exact key
abbrev rX6_serveWaiting : Room := { frames := 8, cells := 18, slots := 228, locals := 215 }
set_option maxRecDepth 100000 in
set_option maxHeartbeats 4000000 in
theorem c_X6_serveWaiting {l : Launch} (hfl : l.stackTraces = false) (G : zG) {s t : zS} {o : zOx} (hc : zC1 s) (hb9 : zB s)  (hI : zInv s) (hob : ∀ m, o.2 m = 0 ∨ o.2 m = 1) : zCn l G yX6_serveWaiting (.code yX6_serveWaiting cX6_serveWaiting 8 (some .int)) rX6_serveWaiting [.ref 0] (zAll s t o) (zRi (fun xr M2 => xr = (zSw (s 14 0 0).toNat s 0 0).2 ∧ ∃ c9 : Nat → Int, M2 = zAll (zSw (s 14 0 0).toNat s 0 0).1 t (o.1, c9) ∧ (∀ m, c9 m = 0 ∨ c9 m = 1))) zN := by
  refine zStart hfl (by decide) (own := RX6) rfl [(0, .ref 0)] (Nat.le_of_ble_eq_true rfl) rfl (fun k hkl hinit hk0 F => ?_)
  have hn0 := hc.1
  have hn4 := hc.2.1
  have hn9 := hc.2.2.1
  have hn14 := hc.2.2.2.1
  have hn18 := hc.2.2.2.2.1
  refine z_iconst (z := 0) F dX6_serveWaiting_0 (by decide) ?_
  refine z_istore_n F [(1, .int (zI 0)), (0, .ref 0)] dX6_serveWaiting_1 rfl (by decide) rfl ?_
  refine z_iconst (z := 0) F dX6_serveWaiting_2 (by decide) ?_
  refine z_istore_n F [(2, .int (zI 0)), (1, .int (zI 0)), (0, .ref 0)] dX6_serveWaiting_3 rfl (by decide) rfl ?_
  refine z_aload_n F 2 dX6_serveWaiting_4 rfl rfl ?_
  refine z_get F fl_X6_22 (zAll_0 s t o) rfl dX6_serveWaiting_5 ?_
  refine z_callV F [] [] (c_Jx4a65c_size_8abf5 F.2.2.1 G (zAll s t o) (zAll_193 s t o)) cv_X6_52 (zAll_193 s t o) rfl rfl rfl ⟨by decide, by decide⟩ ⟨by decide, by decide⟩ (Nat.le_of_ble_eq_true rfl) dX6_serveWaiting_8 z_nx (z_ki (fun x_1 M_1 h_1 => ?_))
  have hx9 := (h_1).1.symm
  have hm9 := (h_1).2.symm
  subst hx9
  subst hm9
  refine z_istore_n F [(3, .int (zI (s 14 0 0))), (2, .int (zI 0)), (1, .int (zI 0)), (0, .ref 0)] dX6_serveWaiting_11 rfl (by decide) rfl ?_
  refine z_iconst (z := 0) F dX6_serveWaiting_12 (by decide) ?_
  refine z_istore F [(4, .int (zI 0)), (3, .int (zI (s 14 0 0))), (2, .int (zI 0)), (1, .int (zI 0)), (0, .ref 0)] dX6_serveWaiting_13 (by decide) rfl ?_
  have L1 : ∀ (fuel : Nat) (c : zS) (ck : Nat → Int) (n : Nat) (p : Int) (w : Int) (m : Int), n < fuel → zInv c → (∀ m9, ck m9 = 0 ∨ ck m9 = 1) → 0 ≤ p → p + n = c 14 0 0 → 0 ≤ w → w + n = s 14 0 0 → zSw (s 14 0 0).toNat s 0 0 = zSw n c p.toNat m → zJ k G rX6_serveWaiting 8 (zMQ k G rX6_serveWaiting (zRi (fun xr M2 => xr = (zSw (s 14 0 0).toNat s 0 0).2 ∧ ∃ c9 : Nat → Int, M2 = zAll (zSw (s 14 0 0).toNat s 0 0).1 t (o.1, c9) ∧ (∀ m, c9 m = 0 ∨ c9 m = 1))) zN) (zAll c t (o.1, ck)) (2 * ((s 14 0 0).toNat - n)) (38 * ((s 14 0 0).toNat - n)) 15 [(0, .ref 0), (1, .int (zI m)), (2, .int (zI p)), (3, .int (zI (s 14 0 0))), (4, .int (zI w))] [] := by
    intro fuel
    induction fuel with
    | zero => intros; omega
    | succ fuel L1_ih =>
      intro c ck n p w m hfuel hIc hb hp0 hpn hw0 hwn hsw
      refine z_iload F 4 dX6_serveWaiting_15 rfl ?_
      refine z_iload_n F 3 dX6_serveWaiting_17 rfl rfl ?_
      refine z_icmp_ge F 141 dX6_serveWaiting_18 (by decide) (by omega) (by omega) (fun c_2 => ?_) (fun c_2 => ?_)
      · skip
        have hn2 : n = 0 := by omega
        refine z_iload_n F 1 dX6_serveWaiting_141 rfl rfl ?_
        exact z_reti F rfl (show (2 * ((s 14 0 0).toNat - n)) ≤ 18 by omega) (show (38 * ((s 14 0 0).toNat - n)) ≤ 228 by omega) dX6_serveWaiting_142 ⟨_, rfl, by rw [hsw, hn2, zSw], ck, by rw [hsw, hn2, zSw], hb⟩
      · skip
        obtain ⟨n2, hn2⟩ : ∃ n2, n = n2 + 1 := ⟨n - 1, by omega⟩
        have hpp : ((p.toNat : Nat) : Int) = p := by omega
        have hqq := hIc.q (p := p.toNat) (by omega)
        have hsf := hIc.sw (p := p.toNat) (by omega)
        have hcc := hIc.c.2.2.1
        have hc14 := hIc.c.2.2.2.1
        have hlq := hIc.c.len (c 15 p.toNat 0).toNat
        have h16 := hIc.b 16 p.toNat 0
        refine z_iload_n F 2 dX6_serveWaiting_21 rfl rfl ?_
        refine z_aload_n F 0 dX6_serveWaiting_22 rfl rfl ?_
        refine z_get F fl_X6_22 (zAll_0 c t (o.1, ck)) rfl dX6_serveWaiting_23 ?_
        refine z_callV F [] [.int (zI p)] (c_Jx4a65c_size_8abf5 F.2.2.1 G (zAll c t (o.1, ck)) (zAll_193 c t (o.1, ck))) cv_X6_52 (zAll_193 c t (o.1, ck)) rfl rfl rfl ⟨by decide, by decide⟩ ⟨show (2 * ((s 14 0 0).toNat - n)) + 0 ≤ 18 by omega, show (38 * ((s 14 0 0).toNat - n)) + 0 ≤ 228 by omega⟩ (Nat.le_of_ble_eq_true rfl) dX6_serveWaiting_26 z_nx (z_ki (fun x_3 M_3 h_3 => ?_))
        have hx9 := (h_3).1.symm
        have hm9 := (h_3).2.symm
        subst hx9
        subst hm9
        refine z_icmp_ge F 141 dX6_serveWaiting_29 (by decide) (by omega) (by omega) (fun c_4 => ?_) (fun c_4 => ?_)
        · skip
          exact absurd c_4 (by omega)
        · skip
          refine z_aload_n F 0 dX6_serveWaiting_32 rfl rfl ?_
          refine z_get F fl_X6_22 (zAll_0 c t (o.1, ck)) rfl dX6_serveWaiting_33 ?_
          refine z_iload_n F 2 dX6_serveWaiting_36 rfl rfl ?_
          refine z_callV F [.int (zI p)] [] (g_q F.2.2.1 G (s := c) (t := t) (o := (o.1, ck)) hIc.c (i := p) (by omega) (by omega)) cv_X6_99 (zAll_193 c t (o.1, ck)) rfl rfl rfl ⟨by decide, by decide⟩ ⟨show (2 * ((s 14 0 0).toNat - n)) + 0 + 0 ≤ 18 by omega, show (38 * ((s 14 0 0).toNat - n)) + 0 + 0 ≤ 228 by omega⟩ (Nat.le_of_ble_eq_true rfl) dX6_serveWaiting_37 z_nx (z_kr (fun x_5 M_5 h_5 => ?_))
          have hx9 := (h_5).1.symm
          have hm9 := (h_5).2.symm
          subst hx9
          subst hm9
          refine z_cast (ci := 4) F (zr_18 _ (List.mem_of_getElem? (i := 3) rfl)) (zAll_q (s := c) t (o.1, ck) (i := (c 17 p.toNat 0).toNat) (by omega)) rfl dX6_serveWaiting_40 ?_
          refine z_astore F [(5, .ref (64 * (c 17 p.toNat 0).toNat + 15)), (0, .ref 0), (1, .int (zI m)), (2, .int (zI p)), (3, .int (zI (s 14 0 0))), (4, .int (zI w))] dX6_serveWaiting_43 (by decide) rfl ?_
          refine z_aload_n F 1 dX6_serveWaiting_45 rfl rfl ?_
          refine z_get F fl_X6_19 (zAll_0 c t (o.1, ck)) rfl dX6_serveWaiting_46 ?_
          refine z_callV F [] [] (c_Jx4a65c_size_8abf5 F.2.2.1 G (zAll c t (o.1, ck)) (zAll_129 c t (o.1, ck))) cv_X6_52 (zAll_129 c t (o.1, ck)) rfl rfl rfl ⟨by decide, by decide⟩ ⟨show (2 * ((s 14 0 0).toNat - n)) + 0 + 0 + 0 ≤ 18 by omega, show (38 * ((s 14 0 0).toNat - n)) + 0 + 0 + 0 ≤ 228 by omega⟩ (Nat.le_of_ble_eq_true rfl) dX6_serveWaiting_49 z_nx (z_ki (fun x_6 M_6 h_6 => ?_))
          have hx9 := (h_6).1.symm
          have hm9 := (h_6).2.symm
          subst hx9
          subst hm9
          refine z_bipush (z := 30) F dX6_serveWaiting_52 (by decide) ?_
          refine z_icmp_lt F 61 dX6_serveWaiting_54 (by decide) (by omega) ⟨by decide, by decide⟩ (fun c_7 => ?_) (fun c_7 => ?_)
          · skip
            have hroom : c 9 0 0 < 30 := c_7
            refine z_iconst (z := 0) F dX6_serveWaiting_61 (by decide) ?_
            refine z_istore F [(6, .int (zI 0)), (5, .ref (64 * (c 17 p.toNat 0).toNat + 15)), (0, .ref 0), (1, .int (zI m)), (2, .int (zI p)), (3, .int (zI (s 14 0 0))), (4, .int (zI w))] dX6_serveWaiting_62 (by decide) rfl ?_
            refine z_iload F 0 dX6_serveWaiting_64 rfl ?_
            refine z_if_eq F 73 dX6_serveWaiting_66 (by decide) ⟨by decide, by decide⟩ (fun c_8 => ?_) (fun c_8 => ?_)
            · skip
              refine z_aload_n F 2 dX6_serveWaiting_73 rfl rfl ?_
              refine z_aload F 1 dX6_serveWaiting_74 rfl ?_
              refine z_get F fl_X6_185 (zAll_q (s := c) t (o.1, ck) (i := (c 17 p.toNat 0).toNat) (by omega)) rfl dX6_serveWaiting_76 ?_
              refine z_tr (y := 64 * (c 15 p.toNat 0).toNat + 10) (by rw [hqq.2.1]) ?_
              refine z_bipush (z := 31) F dX6_serveWaiting_79 (by decide) ?_
              refine z_iconst (z := 0) F dX6_serveWaiting_81 (by decide) ?_
              refine z_callV F [.ref (64 * (c 15 p.toNat 0).toNat + 10), .int (zI 31), .int (zI 0)] [] (c_X6_firstStart F.2.2.1 G (s := c) (t := t) (o := (o.1, ck)) hIc.c hIc.b (a := (c 15 p.toNat 0).toNat) (wo := 31) (x := 0) (by omega) (by decide) (by decide) (hIc.ha 31 (c 15 p.toNat 0).toNat 0 (by omega) (by decide))) cv_X6_155 (zAll_0 c t (o.1, ck)) rfl rfl rfl ⟨by decide, by decide⟩ ⟨show (2 * ((s 14 0 0).toNat - n)) + 0 + 0 + 0 + 0 ≤ 18 by omega, show (38 * ((s 14 0 0).toNat - n)) + 0 + 0 + 0 + 0 ≤ 228 by omega⟩ (Nat.le_of_ble_eq_true rfl) dX6_serveWaiting_82 z_nx (z_ki (fun x_9 M_9 h_9 => ?_))
              obtain ⟨hx9, ck2, hm9, hk2⟩ := h_9
              subst hx9
              subst hm9
              refine z_ti (y := zSwF c p.toNat) (if_pos hroom).symm ?_
              refine z_istore F [(7, .int (zI (zSwF c p.toNat))), (6, .int (zI 0)), (5, .ref (64 * (c 17 p.toNat 0).toNat + 15)), (0, .ref 0), (1, .int (zI m)), (2, .int (zI p)), (3, .int (zI (s 14 0 0))), (4, .int (zI w))] dX6_serveWaiting_85 (by decide) rfl ?_
              refine z_iload F 0 dX6_serveWaiting_87 rfl ?_
              refine z_iconst (z := -1) F dX6_serveWaiting_89 (by decide) ?_
              have hfb : -1 ≤ zSwF c p.toNat ∧ zSwF c p.toNat ≤ 600 := by rcases hsf with h9 | h9 <;> omega
              refine z_icmp_eq F 103 dX6_serveWaiting_90 (by decide) (by omega) ⟨by decide, by decide⟩ (fun c_10 => ?_) (fun c_10 => ?_)
              · skip
                have hke : zSwF c p.toNat = -1 ∨ c 16 p.toNat 0 < zSwF c p.toNat := Or.inl c_10
                refine z_iinc F 5 [(2, .int (zI (p + 1))), (7, .int (zI (zSwF c p.toNat))), (6, .int (zI 0)), (5, .ref (64 * (c 17 p.toNat 0).toNat + 15)), (0, .ref 0), (1, .int (zI m)), (3, .int (zI (s 14 0 0))), (4, .int (zI w))] dX6_serveWaiting_103 rfl (by decide) rfl ?_
                refine z_goto F 135 dX6_serveWaiting_106 (by decide) ?_
                refine z_iinc F 7 [(4, .int (zI (w + 1))), (2, .int (zI (p + 1))), (7, .int (zI (zSwF c p.toNat))), (6, .int (zI 0)), (5, .ref (64 * (c 17 p.toNat 0).toNat + 15)), (0, .ref 0), (1, .int (zI m)), (3, .int (zI (s 14 0 0)))] dX6_serveWaiting_135 rfl (by decide) rfl ?_
                refine z_goto F 15 dX6_serveWaiting_138 (by decide) ?_
                refine z_lv [(0, .ref 0), (1, .int (zI m)), (2, .int (zI (p + 1))), (3, .int (zI (s 14 0 0))), (4, .int (zI (w + 1)))] [5, 6, 1, 7, 0] rfl ?_
                refine z_wd (2 * ((s 14 0 0).toNat - n2)) (38 * ((s 14 0 0).toNat - n2)) (show (2 * ((s 14 0 0).toNat - n)) + 0 + 0 + 0 + 0 ≤ (2 * ((s 14 0 0).toNat - n2)) by omega) (show (38 * ((s 14 0 0).toNat - n)) + 0 + 0 + 0 + 0 ≤ (38 * ((s 14 0 0).toNat - n2)) by omega) ?_
                exact L1_ih c ck2 n2 (p + 1) (w + 1) m (by omega) (by first | exact hIc | exact hIR) (by first | assumption) (by omega) (by first | omega | (show p + (n2 : Int) = c 14 0 0 - 1; omega)) (by omega) (by omega) (by first | (rw [hsw, hn2, zSw, if_pos hke, show (p + 1).toNat = p.toNat + 1 by omega]) | (rw [hsw, hn2, zSw, if_neg hke, zSwB, hpp]))
              · skip
                refine z_iload F 0 dX6_serveWaiting_93 rfl ?_
                refine z_aload F 2 dX6_serveWaiting_95 rfl ?_
                refine z_get F fl_X6_280 (zAll_q (s := c) t (o.1, ck2) (i := (c 17 p.toNat 0).toNat) (by omega)) rfl dX6_serveWaiting_97 ?_
                refine z_ti (y := c 16 p.toNat 0) hqq.2.2.1.symm ?_
                refine z_icmp_le F 109 dX6_serveWaiting_100 (by decide) (by omega) (by omega) (fun c_11 => ?_) (fun c_11 => ?_)
                · skip
                  have hke : ¬ (zSwF c p.toNat = -1 ∨ c 16 p.toNat 0 < zSwF c p.toNat) := by omega
                  have hsf2 := hsf.resolve_left (fun h => hke (Or.inl h))
                  have hIB := hIc.swB (p := p.toNat) (by omega) (fun h => hke (Or.inl h))
                  have hIR := hIB.2
                  rw [zSwB, hpp] at hIR
                  refine z_aload_n F 3 dX6_serveWaiting_109 rfl rfl ?_
                  refine z_aload F 2 dX6_serveWaiting_110 rfl ?_
                  refine z_get F fl_X6_185 (zAll_q (s := c) t (o.1, ck2) (i := (c 17 p.toNat 0).toNat) (by omega)) rfl dX6_serveWaiting_112 ?_
                  refine z_tr (y := 64 * (c 15 p.toNat 0).toNat + 10) (by rw [hqq.2.1]) ?_
                  refine z_bipush (z := 31) F dX6_serveWaiting_115 (by decide) ?_
                  refine z_iload F 0 dX6_serveWaiting_117 rfl ?_
                  refine z_callV F [.ref (64 * (c 15 p.toNat 0).toNat + 10), .int (zI 31), .int (zI (zSwF c p.toNat))] [] (c_X6_bookAt F.2.2.1 G (s := c) (t := t) (o := (o.1, ck2)) hIc.c hIc.b (a := (c 15 p.toNat 0).toNat) (wo := 31) (x := (zSwF c p.toNat)) (by omega) (by decide) hsf2.1 hsf2.2.2.1 hsf2.2.2.2.1 hsf2.2.2.2.2 hIc) cv_X6_263 (zAll_0 c t (o.1, ck2)) rfl rfl rfl ⟨by decide, by decide⟩ ⟨show (2 * ((s 14 0 0).toNat - n)) + 0 + 0 + 0 + 0 + 2 ≤ 18 by omega, show (38 * ((s 14 0 0).toNat - n)) + 0 + 0 + 0 + 0 + 38 ≤ 228 by omega⟩ (Nat.le_of_ble_eq_true rfl) dX6_serveWaiting_119 z_nx (z_ki (fun x_12 M_12 h_12 => ?_))
                  have hx9 := (h_12).1.symm
                  have hm9 := (h_12).2.symm
                  subst hx9
                  subst hm9
                  refine z_pop F dX6_serveWaiting_122 rfl ?_
                  refine z_aload_n F 3 dX6_serveWaiting_123 rfl rfl ?_
                  refine z_get F fl_X6_22 (zAll_0 (zOpB c (c 15 p.toNat 0).toNat (zGet c (zBit 31) (c 15 p.toNat 0).toNat (zSwF c p.toNat)) (zChair c (c 15 p.toNat 0).toNat (zSwF c p.toNat)) (zSwF c p.toNat)) t (o.1, ck2)) rfl dX6_serveWaiting_124 ?_
                  refine z_iload_n F 5 dX6_serveWaiting_127 rfl rfl ?_
                  refine z_callV F [.int (zI p)] [] (c_rem F.2.2.1 G (s := (zOpB c (c 15 p.toNat 0).toNat (zGet c (zBit 31) (c 15 p.toNat 0).toNat (zSwF c p.toNat)) (zChair c (c 15 p.toNat 0).toNat (zSwF c p.toNat)) (zSwF c p.toNat))) (t := t) (o := (o.1, ck2)) hIB.1.c (p := p) (by omega) (show p < c 14 0 0 by omega)) cv_X6_283 (zAll_193 (zOpB c (c 15 p.toNat 0).toNat (zGet c (zBit 31) (c 15 p.toNat 0).toNat (zSwF c p.toNat)) (zChair c (c 15 p.toNat 0).toNat (zSwF c p.toNat)) (zSwF c p.toNat)) t (o.1, ck2)) rfl rfl rfl ⟨by decide, by decide⟩ ⟨show (2 * ((s 14 0 0).toNat - n)) + 0 + 0 + 0 + 0 + 2 + 0 ≤ 18 by omega, show (38 * ((s 14 0 0).toNat - n)) + 0 + 0 + 0 + 0 + 38 + 0 ≤ 228 by omega⟩ (Nat.le_of_ble_eq_true rfl) dX6_serveWaiting_128 z_nx (z_kr (fun x_13 M_13 h_13 => ?_))
                  have hx9 := (h_13).1.symm
                  have hm9 := (h_13).2.symm
                  subst hx9
                  subst hm9
                  refine z_pop F dX6_serveWaiting_131 rfl ?_
                  refine z_iinc F 4 [(1, .int (zI (m + 1))), (7, .int (zI (zSwF c p.toNat))), (6, .int (zI 0)), (5, .ref (64 * (c 17 p.toNat 0).toNat + 15)), (0, .ref 0), (2, .int (zI p)), (3, .int (zI (s 14 0 0))), (4, .int (zI w))] dX6_serveWaiting_132 rfl (by decide) rfl ?_
                  refine z_iinc F 7 [(4, .int (zI (w + 1))), (1, .int (zI (m + 1))), (7, .int (zI (zSwF c p.toNat))), (6, .int (zI 0)), (5, .ref (64 * (c 17 p.toNat 0).toNat + 15)), (0, .ref 0), (2, .int (zI p)), (3, .int (zI (s 14 0 0)))] dX6_serveWaiting_135 rfl (by decide) rfl ?_
                  refine z_goto F 15 dX6_serveWaiting_138 (by decide) ?_
                  refine z_lv [(0, .ref 0), (1, .int (zI (m + 1))), (2, .int (zI p)), (3, .int (zI (s 14 0 0))), (4, .int (zI (w + 1)))] [5, 1, 6, 7, 0] rfl ?_
                  refine z_wd (2 * ((s 14 0 0).toNat - n2)) (38 * ((s 14 0 0).toNat - n2)) (show (2 * ((s 14 0 0).toNat - n)) + 0 + 0 + 0 + 0 + 2 + 0 ≤ (2 * ((s 14 0 0).toNat - n2)) by omega) (show (38 * ((s 14 0 0).toNat - n)) + 0 + 0 + 0 + 0 + 38 + 0 ≤ (38 * ((s 14 0 0).toNat - n2)) by omega) ?_
                  exact L1_ih ((zOpR (zOpB c (c 15 p.toNat 0).toNat (zGet c (zBit 31) (c 15 p.toNat 0).toNat (zSwF c p.toNat)) (zChair c (c 15 p.toNat 0).toNat (zSwF c p.toNat)) (zSwF c p.toNat)) p)) ck2 n2 p (w + 1) (m + 1) (by omega) (by first | exact hIc | exact hIR) (by first | assumption) (by omega) (by first | omega | (show p + (n2 : Int) = c 14 0 0 - 1; omega)) (by omega) (by omega) (by first | (rw [hsw, hn2, zSw, if_pos hke, show (p + 1).toNat = p.toNat + 1 by omega]) | (rw [hsw, hn2, zSw, if_neg hke, zSwB, hpp]))
                · skip
                  have hke : zSwF c p.toNat = -1 ∨ c 16 p.toNat 0 < zSwF c p.toNat := by omega
                  refine z_iinc F 5 [(2, .int (zI (p + 1))), (7, .int (zI (zSwF c p.toNat))), (6, .int (zI 0)), (5, .ref (64 * (c 17 p.toNat 0).toNat + 15)), (0, .ref 0), (1, .int (zI m)), (3, .int (zI (s 14 0 0))), (4, .int (zI w))] dX6_serveWaiting_103 rfl (by decide) rfl ?_
                  refine z_goto F 135 dX6_serveWaiting_106 (by decide) ?_
                  refine z_iinc F 7 [(4, .int (zI (w + 1))), (2, .int (zI (p + 1))), (7, .int (zI (zSwF c p.toNat))), (6, .int (zI 0)), (5, .ref (64 * (c 17 p.toNat 0).toNat + 15)), (0, .ref 0), (1, .int (zI m)), (3, .int (zI (s 14 0 0)))] dX6_serveWaiting_135 rfl (by decide) rfl ?_
                  refine z_goto F 15 dX6_serveWaiting_138 (by decide) ?_
                  refine z_lv [(0, .ref 0), (1, .int (zI m)), (2, .int (zI (p + 1))), (3, .int (zI (s 14 0 0))), (4, .int (zI (w + 1)))] [5, 6, 1, 7, 0] rfl ?_
                  refine z_wd (2 * ((s 14 0 0).toNat - n2)) (38 * ((s 14 0 0).toNat - n2)) (show (2 * ((s 14 0 0).toNat - n)) + 0 + 0 + 0 + 0 ≤ (2 * ((s 14 0 0).toNat - n2)) by omega) (show (38 * ((s 14 0 0).toNat - n)) + 0 + 0 + 0 + 0 ≤ (38 * ((s 14 0 0).toNat - n2)) by omega) ?_
                  exact L1_ih c ck2 n2 (p + 1) (w + 1) m (by omega) (by first | exact hIc | exact hIR) (by first | assumption) (by omega) (by first | omega | (show p + (n2 : Int) = c 14 0 0 - 1; omega)) (by omega) (by omega) (by first | (rw [hsw, hn2, zSw, if_pos hke, show (p + 1).toNat = p.toNat + 1 by omega]) | (rw [hsw, hn2, zSw, if_neg hke, zSwB, hpp]))
            · skip
              exact absurd rfl c_8
          · skip
            have hroom : ¬ c 9 0 0 < 30 := by omega
            refine z_iconst (z := 1) F dX6_serveWaiting_57 (by decide) ?_
            refine z_goto F 62 dX6_serveWaiting_58 (by decide) ?_
            refine z_istore F [(6, .int (zI 1)), (5, .ref (64 * (c 17 p.toNat 0).toNat + 15)), (0, .ref 0), (1, .int (zI m)), (2, .int (zI p)), (3, .int (zI (s 14 0 0))), (4, .int (zI w))] dX6_serveWaiting_62 (by decide) rfl ?_
            refine z_iload F 0 dX6_serveWaiting_64 rfl ?_
            refine z_if_eq F 73 dX6_serveWaiting_66 (by decide) ⟨by decide, by decide⟩ (fun c_14 => ?_) (fun c_14 => ?_)
            · skip
              exact absurd c_14 (by decide)
            · skip
              refine z_iconst (z := -1) F dX6_serveWaiting_69 (by decide) ?_
              refine z_goto F 85 dX6_serveWaiting_70 (by decide) ?_
              refine z_ti (y := zSwF c p.toNat) (if_neg hroom).symm ?_
              refine z_istore F [(7, .int (zI (zSwF c p.toNat))), (6, .int (zI 1)), (5, .ref (64 * (c 17 p.toNat 0).toNat + 15)), (0, .ref 0), (1, .int (zI m)), (2, .int (zI p)), (3, .int (zI (s 14 0 0))), (4, .int (zI w))] dX6_serveWaiting_85 (by decide) rfl ?_
              refine z_iload F 0 dX6_serveWaiting_87 rfl ?_
              refine z_iconst (z := -1) F dX6_serveWaiting_89 (by decide) ?_
              have hfb : -1 ≤ zSwF c p.toNat ∧ zSwF c p.toNat ≤ 600 := by rcases hsf with h9 | h9 <;> omega
              refine z_icmp_eq F 103 dX6_serveWaiting_90 (by decide) (by omega) ⟨by decide, by decide⟩ (fun c_15 => ?_) (fun c_15 => ?_)
              · skip
                have hke : zSwF c p.toNat = -1 ∨ c 16 p.toNat 0 < zSwF c p.toNat := Or.inl c_15
                refine z_iinc F 5 [(2, .int (zI (p + 1))), (7, .int (zI (zSwF c p.toNat))), (6, .int (zI 1)), (5, .ref (64 * (c 17 p.toNat 0).toNat + 15)), (0, .ref 0), (1, .int (zI m)), (3, .int (zI (s 14 0 0))), (4, .int (zI w))] dX6_serveWaiting_103 rfl (by decide) rfl ?_
                refine z_goto F 135 dX6_serveWaiting_106 (by decide) ?_
                refine z_iinc F 7 [(4, .int (zI (w + 1))), (2, .int (zI (p + 1))), (7, .int (zI (zSwF c p.toNat))), (6, .int (zI 1)), (5, .ref (64 * (c 17 p.toNat 0).toNat + 15)), (0, .ref 0), (1, .int (zI m)), (3, .int (zI (s 14 0 0)))] dX6_serveWaiting_135 rfl (by decide) rfl ?_
                refine z_goto F 15 dX6_serveWaiting_138 (by decide) ?_
                refine z_lv [(0, .ref 0), (1, .int (zI m)), (2, .int (zI (p + 1))), (3, .int (zI (s 14 0 0))), (4, .int (zI (w + 1)))] [5, 6, 1, 7, 0] rfl ?_
                refine z_wd (2 * ((s 14 0 0).toNat - n2)) (38 * ((s 14 0 0).toNat - n2)) (show (2 * ((s 14 0 0).toNat - n)) + 0 + 0 + 0 ≤ (2 * ((s 14 0 0).toNat - n2)) by omega) (show (38 * ((s 14 0 0).toNat - n)) + 0 + 0 + 0 ≤ (38 * ((s 14 0 0).toNat - n2)) by omega) ?_
                exact L1_ih c ck n2 (p + 1) (w + 1) m (by omega) (by first | exact hIc | exact hIR) (by first | assumption) (by omega) (by first | omega | (show p + (n2 : Int) = c 14 0 0 - 1; omega)) (by omega) (by omega) (by first | (rw [hsw, hn2, zSw, if_pos hke, show (p + 1).toNat = p.toNat + 1 by omega]) | (rw [hsw, hn2, zSw, if_neg hke, zSwB, hpp]))
              · skip
                refine z_iload F 0 dX6_serveWaiting_93 rfl ?_
                refine z_aload F 2 dX6_serveWaiting_95 rfl ?_
                refine z_get F fl_X6_280 (zAll_q (s := c) t (o.1, ck) (i := (c 17 p.toNat 0).toNat) (by omega)) rfl dX6_serveWaiting_97 ?_
                refine z_ti (y := c 16 p.toNat 0) hqq.2.2.1.symm ?_
                refine z_icmp_le F 109 dX6_serveWaiting_100 (by decide) (by omega) (by omega) (fun c_16 => ?_) (fun c_16 => ?_)
                · skip
                  have hke : ¬ (zSwF c p.toNat = -1 ∨ c 16 p.toNat 0 < zSwF c p.toNat) := by omega
                  have hsf2 := hsf.resolve_left (fun h => hke (Or.inl h))
                  have hIB := hIc.swB (p := p.toNat) (by omega) (fun h => hke (Or.inl h))
                  have hIR := hIB.2
                  rw [zSwB, hpp] at hIR
                  refine z_aload_n F 3 dX6_serveWaiting_109 rfl rfl ?_
                  refine z_aload F 2 dX6_serveWaiting_110 rfl ?_
                  refine z_get F fl_X6_185 (zAll_q (s := c) t (o.1, ck) (i := (c 17 p.toNat 0).toNat) (by omega)) rfl dX6_serveWaiting_112 ?_
                  refine z_tr (y := 64 * (c 15 p.toNat 0).toNat + 10) (by rw [hqq.2.1]) ?_
                  refine z_bipush (z := 31) F dX6_serveWaiting_115 (by decide) ?_
                  refine z_iload F 0 dX6_serveWaiting_117 rfl ?_
                  refine z_callV F [.ref (64 * (c 15 p.toNat 0).toNat + 10), .int (zI 31), .int (zI (zSwF c p.toNat))] [] (c_X6_bookAt F.2.2.1 G (s := c) (t := t) (o := (o.1, ck)) hIc.c hIc.b (a := (c 15 p.toNat 0).toNat) (wo := 31) (x := (zSwF c p.toNat)) (by omega) (by decide) hsf2.1 hsf2.2.2.1 hsf2.2.2.2.1 hsf2.2.2.2.2 hIc) cv_X6_263 (zAll_0 c t (o.1, ck)) rfl rfl rfl ⟨by decide, by decide⟩ ⟨show (2 * ((s 14 0 0).toNat - n)) + 0 + 0 + 0 + 2 ≤ 18 by omega, show (38 * ((s 14 0 0).toNat - n)) + 0 + 0 + 0 + 38 ≤ 228 by omega⟩ (Nat.le_of_ble_eq_true rfl) dX6_serveWaiting_119 z_nx (z_ki (fun x_17 M_17 h_17 => ?_))
                  have hx9 := (h_17).1.symm
                  have hm9 := (h_17).2.symm
                  subst hx9
                  subst hm9
                  refine z_pop F dX6_serveWaiting_122 rfl ?_
                  refine z_aload_n F 3 dX6_serveWaiting_123 rfl rfl ?_
                  refine z_get F fl_X6_22 (zAll_0 (zOpB c (c 15 p.toNat 0).toNat (zGet c (zBit 31) (c 15 p.toNat 0).toNat (zSwF c p.toNat)) (zChair c (c 15 p.toNat 0).toNat (zSwF c p.toNat)) (zSwF c p.toNat)) t (o.1, ck)) rfl dX6_serveWaiting_124 ?_
                  refine z_iload_n F 5 dX6_serveWaiting_127 rfl rfl ?_
                  refine z_callV F [.int (zI p)] [] (c_rem F.2.2.1 G (s := (zOpB c (c 15 p.toNat 0).toNat (zGet c (zBit 31) (c 15 p.toNat 0).toNat (zSwF c p.toNat)) (zChair c (c 15 p.toNat 0).toNat (zSwF c p.toNat)) (zSwF c p.toNat))) (t := t) (o := (o.1, ck)) hIB.1.c (p := p) (by omega) (show p < c 14 0 0 by omega)) cv_X6_283 (zAll_193 (zOpB c (c 15 p.toNat 0).toNat (zGet c (zBit 31) (c 15 p.toNat 0).toNat (zSwF c p.toNat)) (zChair c (c 15 p.toNat 0).toNat (zSwF c p.toNat)) (zSwF c p.toNat)) t (o.1, ck)) rfl rfl rfl ⟨by decide, by decide⟩ ⟨show (2 * ((s 14 0 0).toNat - n)) + 0 + 0 + 0 + 2 + 0 ≤ 18 by omega, show (38 * ((s 14 0 0).toNat - n)) + 0 + 0 + 0 + 38 + 0 ≤ 228 by omega⟩ (Nat.le_of_ble_eq_true rfl) dX6_serveWaiting_128 z_nx (z_kr (fun x_18 M_18 h_18 => ?_))
                  have hx9 := (h_18).1.symm
                  have hm9 := (h_18).2.symm
                  subst hx9
                  subst hm9
                  refine z_pop F dX6_serveWaiting_131 rfl ?_
                  refine z_iinc F 4 [(1, .int (zI (m + 1))), (7, .int (zI (zSwF c p.toNat))), (6, .int (zI 1)), (5, .ref (64 * (c 17 p.toNat 0).toNat + 15)), (0, .ref 0), (2, .int (zI p)), (3, .int (zI (s 14 0 0))), (4, .int (zI w))] dX6_serveWaiting_132 rfl (by decide) rfl ?_
                  refine z_iinc F 7 [(4, .int (zI (w + 1))), (1, .int (zI (m + 1))), (7, .int (zI (zSwF c p.toNat))), (6, .int (zI 1)), (5, .ref (64 * (c 17 p.toNat 0).toNat + 15)), (0, .ref 0), (2, .int (zI p)), (3, .int (zI (s 14 0 0)))] dX6_serveWaiting_135 rfl (by decide) rfl ?_
                  refine z_goto F 15 dX6_serveWaiting_138 (by decide) ?_
                  refine z_lv [(0, .ref 0), (1, .int (zI (m + 1))), (2, .int (zI p)), (3, .int (zI (s 14 0 0))), (4, .int (zI (w + 1)))] [5, 1, 6, 7, 0] rfl ?_
                  refine z_wd (2 * ((s 14 0 0).toNat - n2)) (38 * ((s 14 0 0).toNat - n2)) (show (2 * ((s 14 0 0).toNat - n)) + 0 + 0 + 0 + 2 + 0 ≤ (2 * ((s 14 0 0).toNat - n2)) by omega) (show (38 * ((s 14 0 0).toNat - n)) + 0 + 0 + 0 + 38 + 0 ≤ (38 * ((s 14 0 0).toNat - n2)) by omega) ?_
                  exact L1_ih ((zOpR (zOpB c (c 15 p.toNat 0).toNat (zGet c (zBit 31) (c 15 p.toNat 0).toNat (zSwF c p.toNat)) (zChair c (c 15 p.toNat 0).toNat (zSwF c p.toNat)) (zSwF c p.toNat)) p)) ck n2 p (w + 1) (m + 1) (by omega) (by first | exact hIc | exact hIR) (by first | assumption) (by omega) (by first | omega | (show p + (n2 : Int) = c 14 0 0 - 1; omega)) (by omega) (by omega) (by first | (rw [hsw, hn2, zSw, if_pos hke, show (p + 1).toNat = p.toNat + 1 by omega]) | (rw [hsw, hn2, zSw, if_neg hke, zSwB, hpp]))
                · skip
                  have hke : zSwF c p.toNat = -1 ∨ c 16 p.toNat 0 < zSwF c p.toNat := by omega
                  refine z_iinc F 5 [(2, .int (zI (p + 1))), (7, .int (zI (zSwF c p.toNat))), (6, .int (zI 1)), (5, .ref (64 * (c 17 p.toNat 0).toNat + 15)), (0, .ref 0), (1, .int (zI m)), (3, .int (zI (s 14 0 0))), (4, .int (zI w))] dX6_serveWaiting_103 rfl (by decide) rfl ?_
                  refine z_goto F 135 dX6_serveWaiting_106 (by decide) ?_
                  refine z_iinc F 7 [(4, .int (zI (w + 1))), (2, .int (zI (p + 1))), (7, .int (zI (zSwF c p.toNat))), (6, .int (zI 1)), (5, .ref (64 * (c 17 p.toNat 0).toNat + 15)), (0, .ref 0), (1, .int (zI m)), (3, .int (zI (s 14 0 0)))] dX6_serveWaiting_135 rfl (by decide) rfl ?_
                  refine z_goto F 15 dX6_serveWaiting_138 (by decide) ?_
                  refine z_lv [(0, .ref 0), (1, .int (zI m)), (2, .int (zI (p + 1))), (3, .int (zI (s 14 0 0))), (4, .int (zI (w + 1)))] [5, 6, 1, 7, 0] rfl ?_
                  refine z_wd (2 * ((s 14 0 0).toNat - n2)) (38 * ((s 14 0 0).toNat - n2)) (show (2 * ((s 14 0 0).toNat - n)) + 0 + 0 + 0 ≤ (2 * ((s 14 0 0).toNat - n2)) by omega) (show (38 * ((s 14 0 0).toNat - n)) + 0 + 0 + 0 ≤ (38 * ((s 14 0 0).toNat - n2)) by omega) ?_
                  exact L1_ih c ck n2 (p + 1) (w + 1) m (by omega) (by first | exact hIc | exact hIR) (by first | assumption) (by omega) (by first | omega | (show p + (n2 : Int) = c 14 0 0 - 1; omega)) (by omega) (by omega) (by first | (rw [hsw, hn2, zSw, if_pos hke, show (p + 1).toNat = p.toNat + 1 by omega]) | (rw [hsw, hn2, zSw, if_neg hke, zSwB, hpp]))
  refine z_lv [(0, .ref 0), (1, .int (zI 0)), (2, .int (zI 0)), (3, .int (zI (s 14 0 0))), (4, .int (zI 0))] [4, 3, 2, 1, 0] rfl ?_
  refine z_M (M' := (zAll s t (o.1, o.2))) rfl ?_
  refine z_wd (2 * ((s 14 0 0).toNat - (s 14 0 0).toNat)) (38 * ((s 14 0 0).toNat - (s 14 0 0).toNat)) (by simp only [Nat.sub_self]; decide) (by simp only [Nat.sub_self]; decide) ?_
  exact L1 _ s o.2 ((s 14 0 0).toNat) 0 0 0 (Nat.lt_succ_self _) hI hob (by omega) (by omega) (by omega) (by omega) rfl

abbrev zSrv (s : zS) : zS × Int := zSw (s 14 0 0).toNat s 0 0
abbrev rX6_drop : Room := { frames := 9, cells := 20, slots := 260, locals := 242 }
set_option maxRecDepth 100000 in
set_option maxHeartbeats 4000000 in
theorem c_X6_drop {l : Launch} (hfl : l.stackTraces = false) (G : zG) {s t : zS} {o : zOx} (hc : zC1 s) (hb9 : zB s) {a : Int} (ha : zR a) (hI : zInv s) (hob : ∀ m, o.2 m = 0 ∨ o.2 m = 1) : zCn l G yX6_drop (.code yX6_drop cX6_drop 2 (some .int)) rX6_drop [.ref 0, .int (zI a)] (zAll s t o) (zRi (fun xr M2 => ((0 ≤ a ∧ a < s 9 0 0) ∧ ¬ s 13 a.toNat 0 = -1) ∧ xr = (zSrv (zOpO s a.toNat)).2 ∧ ∃ c9 : Nat → Int, M2 = zAll (zSrv (zOpO s a.toNat)).1 t (o.1, c9) ∧ (∀ m, c9 m = 0 ∨ c9 m = 1))) (fun E M2 => E = "java/lang/IndexOutOfBoundsException" ∧ ¬ ((0 ≤ a ∧ a < s 9 0 0) ∧ ¬ s 13 a.toNat 0 = -1) ∧ M2 = (zAll s t o)) := by
  refine zStart hfl (by decide) (own := RX6) rfl [(0, .ref 0), (1, .int (zI a))] (Nat.le_of_ble_eq_true rfl) rfl (fun k hkl hinit hk0 F => ?_)
  have hn0 := hc.1
  have hn4 := hc.2.1
  have hn9 := hc.2.2.1
  have hn14 := hc.2.2.2.1
  have hn18 := hc.2.2.2.2.1
  have hIO : ∀ h : (0 ≤ a ∧ a < s 9 0 0) ∧ ¬ s 13 a.toNat 0 = -1, zInv (zOpO s a.toNat) := fun h => hI.out (by omega) h.2
  refine z_aload_n F 0 dX6_drop_0 rfl rfl ?_
  refine z_iload_n F 1 dX6_drop_1 rfl rfl ?_
  refine z_callV F [.int (zI a)] [] (c_X6_requireUndropped F.2.2.1 G (t := t) (o := o) hc hb9 ha) cv_X6_133 (zAll_0 s t o) rfl rfl rfl ⟨by decide, by decide⟩ ⟨by decide, by decide⟩ (Nat.le_of_ble_eq_true rfl) dX6_drop_2 (fun E M9 h9 => z_xo F (by decide) (by decide) h9) (z_kv (fun M_1 h_1 => ?_))
  obtain ⟨hq1, hm9⟩ := h_1
  have hm9 := hm9.symm
  subst hm9
  refine z_aload_n F 0 dX6_drop_5 rfl rfl ?_
  refine z_aload_n F 0 dX6_drop_6 rfl rfl ?_
  refine z_get F fl_X6_19 (zAll_0 s t o) rfl dX6_drop_7 ?_
  refine z_iload_n F 1 dX6_drop_10 rfl rfl ?_
  refine z_callV F [.int (zI a)] [.ref 0] (g_v F.2.2.1 G hc (i := a) (by omega) (by omega)) cv_X6_99 (zAll_129 s t o) rfl rfl rfl ⟨by decide, by decide⟩ ⟨by decide, by decide⟩ (Nat.le_of_ble_eq_true rfl) dX6_drop_11 z_nx (z_kr (fun x_2 M_2 h_2 => ?_))
  have hx9 := (h_2).1.symm
  have hm9 := (h_2).2.symm
  subst hx9
  subst hm9
  refine z_cast (ci := 6) F (zr_10 _ (List.mem_of_getElem? (i := 9) rfl)) (zAll_v t o (i := a.toNat) (by omega)) rfl dX6_drop_14 ?_
  refine z_callV F [.ref (64 * a.toNat + 14)] [] (c_X6_takeOut F.2.2.1 G (t := t) (o := o) hc hb9 (v := a.toNat) (by omega) hq1.2) cv_X6_147 (zAll_0 s t o) rfl rfl rfl ⟨by decide, by decide⟩ ⟨by decide, by decide⟩ (Nat.le_of_ble_eq_true rfl) dX6_drop_17 z_nx (z_kv (fun M_3 h_3 => ?_))
  have hm9 := (h_3).symm
  subst hm9
  refine z_aload_n F 0 dX6_drop_20 rfl rfl ?_
  refine z_callV F [] [] (c_X6_serveWaiting F.2.2.1 G (s := (zOpO s a.toNat)) (t := t) (o := o) (hIO hq1).c (hIO hq1).b (hIO hq1) hob) cv_X6_171 (zAll_0 (zOpO s a.toNat) t o) rfl rfl rfl ⟨by decide, by decide⟩ ⟨by decide, by decide⟩ (Nat.le_of_ble_eq_true rfl) dX6_drop_21 z_nx (z_ki (fun x_4 M_4 h_4 => ?_))
  obtain ⟨hx9, ck3, hm9, hk3⟩ := h_4
  subst hx9
  subst hm9
  exact z_reti F rfl (by first | decide | assumption | omega) (by first | decide | assumption | omega) dX6_drop_24 ⟨_, rfl, hq1, rfl, ck3, rfl, hk3⟩

abbrev rX6_move : Room := { frames := 9, cells := 22, slots := 270, locals := 242 }
set_option maxRecDepth 100000 in
set_option maxHeartbeats 4000000 in
theorem c_X6_move {l : Launch} (hfl : l.stackTraces = false) (G : zG) {s t : zS} {o : zOx} (hc : zC1 s) (hb9 : zB s) {a x : Int} (ha : zR a) (hx : zR x) (hI : zInv s) (hob : ∀ m, o.2 m = 0 ∨ o.2 m = 1) : zCn l G yX6_move (.code yX6_move cX6_move 8 (some .int)) rX6_move [.ref 0, .int (zI a), .int (zI x)] (zAll s t o) (zRi (fun xr M2 => (((0 ≤ a ∧ a < s 9 0 0) ∧ ¬ s 13 a.toNat 0 = -1) ∧ 0 ≤ x ∧ x < 600) ∧ ¬ (zFind (zOpO s a.toNat) (zBit 31) (s 10 a.toNat 0).toNat x 600) = -1 ∧ xr = (zFind (zOpO s a.toNat) (zBit 31) (s 10 a.toNat 0).toNat x 600) ∧ ∃ c9 : Nat → Int, M2 = zAll (zSrv (zOpL (zOpO s a.toNat) a.toNat (zGet (zOpO s a.toNat) (zBit 31) (s 10 a.toNat 0).toNat (zFind (zOpO s a.toNat) (zBit 31) (s 10 a.toNat 0).toNat x 600)) (zChair (zOpO s a.toNat) (s 10 a.toNat 0).toNat (zFind (zOpO s a.toNat) (zBit 31) (s 10 a.toNat 0).toNat x 600)) (zFind (zOpO s a.toNat) (zBit 31) (s 10 a.toNat 0).toNat x 600))).1 t (o.1, c9) ∧ (∀ m, c9 m = 0 ∨ c9 m = 1))) (fun E M2 => (E = "java/lang/IndexOutOfBoundsException" ∧ ¬ (((0 ≤ a ∧ a < s 9 0 0) ∧ ¬ s 13 a.toNat 0 = -1) ∧ 0 ≤ x ∧ x < 600) ∧ M2 = (zAll s t o)) ∨ (E = "java/util/NoSuchElementException" ∧ (((0 ≤ a ∧ a < s 9 0 0) ∧ ¬ s 13 a.toNat 0 = -1) ∧ 0 ≤ x ∧ x < 600) ∧ (zFind (zOpO s a.toNat) (zBit 31) (s 10 a.toNat 0).toNat x 600) = -1 ∧ ∃ c9 : Nat → Int, M2 = zAll (zOpL (zOpO s a.toNat) a.toNat (s 11 a.toNat 0) (s 12 a.toNat 0) (s 13 a.toNat 0)) t (o.1, c9) ∧ (∀ m, c9 m = 0 ∨ c9 m = 1))) := by
  refine zStart hfl (by decide) (own := RX6) rfl [(0, .ref 0), (1, .int (zI a)), (2, .int (zI x))] (Nat.le_of_ble_eq_true rfl) rfl (fun k hkl hinit hk0 F => ?_)
  have hn0 := hc.1
  have hn4 := hc.2.1
  have hn9 := hc.2.2.1
  have hn14 := hc.2.2.2.1
  have hn18 := hc.2.2.2.2.1
  have hIO : ∀ h : (0 ≤ a ∧ a < s 9 0 0) ∧ ¬ s 13 a.toNat 0 = -1, zInv (zOpO s a.toNat) := fun h => hI.out (by omega) h.2
  refine z_aload_n F 0 dX6_move_0 rfl rfl ?_
  refine z_iload_n F 1 dX6_move_1 rfl rfl ?_
  refine z_callV F [.int (zI a)] [] (c_X6_requireUndropped F.2.2.1 G (t := t) (o := o) hc hb9 ha) cv_X6_133 (zAll_0 s t o) rfl rfl rfl ⟨by decide, by decide⟩ ⟨by decide, by decide⟩ (Nat.le_of_ble_eq_true rfl) dX6_move_2 (fun E M9 h9 => z_xo F (by decide) (by decide) (Or.inl ⟨h9.1, fun h => h9.2.1 h.1, h9.2.2⟩)) (z_kv (fun M_1 h_1 => ?_))
  obtain ⟨hq1, hm9⟩ := h_1
  have hm9 := hm9.symm
  subst hm9
  refine z_iload_n F 2 dX6_move_5 rfl rfl ?_
  refine z_callS F [.int (zI x)] [] (c_X6_requireMinute F.2.2.1 G (t := t) (o := o) hc hb9 hx) cs_X6_120 rfl ⟨by decide, by decide⟩ ⟨by decide, by decide⟩ (Nat.le_of_ble_eq_true rfl) dX6_move_6 (fun E M9 h9 => z_xo F (by decide) (by decide) (Or.inl ⟨h9.1, fun h => h9.2.1 h.2, h9.2.2⟩)) (z_kv (fun M_2 h_2 => ?_))
  obtain ⟨hq2, hm9⟩ := h_2
  have hm9 := hm9.symm
  subst hm9
  refine z_aload_n F 0 dX6_move_9 rfl rfl ?_
  refine z_get F fl_X6_19 (zAll_0 s t o) rfl dX6_move_10 ?_
  refine z_iload_n F 1 dX6_move_13 rfl rfl ?_
  refine z_callV F [.int (zI a)] [] (g_v F.2.2.1 G hc (i := a) (by omega) (by omega)) cv_X6_99 (zAll_129 s t o) rfl rfl rfl ⟨by decide, by decide⟩ ⟨by decide, by decide⟩ (Nat.le_of_ble_eq_true rfl) dX6_move_14 z_nx (z_kr (fun x_3 M_3 h_3 => ?_))
  have hx9 := (h_3).1.symm
  have hm9 := (h_3).2.symm
  subst hx9
  subst hm9
  refine z_cast (ci := 6) F (zr_10 _ (List.mem_of_getElem? (i := 9) rfl)) (zAll_v t o (i := a.toNat) (by omega)) rfl dX6_move_17 ?_
  refine z_astore_n F [(3, .ref (64 * a.toNat + 14)), (0, .ref 0), (1, .int (zI a)), (2, .int (zI x))] dX6_move_20 rfl (by decide) rfl ?_
  refine z_aload_n F 0 dX6_move_21 rfl rfl ?_
  have hvv := hI.v (v := a.toNat) (by omega) hq1.2
  have hvs := hc.2.2.2.2.2.2.2.2.2.2.1 a.toNat (by omega)
  have hln := hc.len (s 10 a.toNat 0).toNat
  have hio := hIO hq1
  refine z_get F fl_X6_138 (zAll_v t o (i := a.toNat) (by omega)) rfl dX6_move_22 ?_
  refine z_ti (y := s 11 a.toNat 0) (if_neg hq1.2) ?_
  refine z_istore F [(4, .int (zI (s 11 a.toNat 0))), (3, .ref (64 * a.toNat + 14)), (0, .ref 0), (1, .int (zI a)), (2, .int (zI x))] dX6_move_25 (by decide) rfl ?_
  refine z_aload_n F 1 dX6_move_27 rfl rfl ?_
  refine z_get F fl_X6_141 (zAll_v t o (i := a.toNat) (by omega)) rfl dX6_move_28 ?_
  refine z_ti (y := s 12 a.toNat 0) (if_neg hq1.2) ?_
  refine z_istore F [(5, .int (zI (s 12 a.toNat 0))), (4, .int (zI (s 11 a.toNat 0))), (3, .ref (64 * a.toNat + 14)), (0, .ref 0), (1, .int (zI a)), (2, .int (zI x))] dX6_move_31 (by decide) rfl ?_
  refine z_aload_n F 2 dX6_move_33 rfl rfl ?_
  refine z_get F fl_X6_144 (zAll_v t o (i := a.toNat) (by omega)) rfl dX6_move_34 ?_
  refine z_istore F [(6, .int (zI (s 13 a.toNat 0))), (5, .int (zI (s 12 a.toNat 0))), (4, .int (zI (s 11 a.toNat 0))), (3, .ref (64 * a.toNat + 14)), (0, .ref 0), (1, .int (zI a)), (2, .int (zI x))] dX6_move_37 (by decide) rfl ?_
  refine z_aload_n F 4 dX6_move_39 rfl rfl ?_
  refine z_aload_n F 3 dX6_move_40 rfl rfl ?_
  refine z_callV F [.ref (64 * a.toNat + 14)] [] (c_X6_takeOut F.2.2.1 G (t := t) (o := o) hc hb9 (v := a.toNat) (by omega) hq1.2) cv_X6_147 (zAll_0 s t o) rfl rfl rfl ⟨by decide, by decide⟩ ⟨by decide, by decide⟩ (Nat.le_of_ble_eq_true rfl) dX6_move_41 z_nx (z_kv (fun M_4 h_4 => ?_))
  have hm9 := (h_4).symm
  subst hm9
  refine z_aload_n F 4 dX6_move_44 rfl rfl ?_
  refine z_aload_n F 3 dX6_move_45 rfl rfl ?_
  refine z_get F fl_X6_151 (zAll_v (s := (zOpO s a.toNat)) t o (i := a.toNat) (by first | assumption | (show (((a.toNat) : Nat) : Int) < s 9 0 0; omega) | (show (((a.toNat) : Nat) : Int) < s 9 0 0 + 1; omega))) rfl dX6_move_46 ?_
  refine z_tr (y := 64 * (s 10 a.toNat 0).toNat + 10) rfl ?_
  refine z_bipush (z := 31) F dX6_move_49 (by decide) ?_
  refine z_iload_n F 6 dX6_move_51 rfl rfl ?_
  refine z_callV F [.ref (64 * (s 10 a.toNat 0).toNat + 10), .int (zI 31), .int (zI x)] [] (c_X6_firstStart F.2.2.1 G (s := (zOpO s a.toNat)) (t := t) (o := o) hio.c hio.b (a := (s 10 a.toNat 0).toNat) (wo := 31) (x := x) (show (((s 10 a.toNat 0).toNat : Nat) : Int) < s 4 0 0 by omega) (by decide) (by omega) (hio.ha 31 (s 10 a.toNat 0).toNat x (show (((s 10 a.toNat 0).toNat : Nat) : Int) < s 4 0 0 by omega) (by omega))) cv_X6_155 (zAll_0 (zOpO s a.toNat) t o) rfl rfl rfl ⟨by decide, by decide⟩ ⟨by decide, by decide⟩ (Nat.le_of_ble_eq_true rfl) dX6_move_52 z_nx (z_ki (fun x_5 M_5 h_5 => ?_))
  obtain ⟨hx9, ck, hm9, hk1⟩ := h_5
  subst hx9
  subst hm9
  have hfr9 := zFind_r (zOpO s a.toNat) (zBit 31) (s 10 a.toNat 0).toNat x 600
  have hfb : -1 ≤ (zFind (zOpO s a.toNat) (zBit 31) (s 10 a.toNat 0).toNat x 600) ∧ (zFind (zOpO s a.toNat) (zBit 31) (s 10 a.toNat 0).toNat x 600) ≤ 600 := by
    have e9 : zLen (zOpO s a.toNat) (s 10 a.toNat 0).toNat = zLen s (s 10 a.toNat 0).toNat := rfl
    rcases hfr9 with h9 | h9 <;> omega
  refine z_istore F [(7, .int (zI ((zFind (zOpO s a.toNat) (zBit 31) (s 10 a.toNat 0).toNat x 600)))), (6, .int (zI (s 13 a.toNat 0))), (5, .int (zI (s 12 a.toNat 0))), (4, .int (zI (s 11 a.toNat 0))), (3, .ref (64 * a.toNat + 14)), (0, .ref 0), (1, .int (zI a)), (2, .int (zI x))] dX6_move_55 (by decide) rfl ?_
  refine z_iload F 0 dX6_move_57 rfl ?_
  refine z_iconst (z := -1) F dX6_move_59 (by decide) ?_
  refine z_icmp_ne F 84 dX6_move_60 (by decide) (by omega) ⟨by decide, by decide⟩ (fun c_6 => ?_) (fun c_6 => ?_)
  · skip
    have hne : ¬ (zFind (zOpO s a.toNat) (zBit 31) (s 10 a.toNat 0).toNat x 600) = -1 := c_6
    have hfo := hfr9.resolve_left hne
    refine z_aload_n F 5 dX6_move_84 rfl rfl ?_
    refine z_aload_n F 4 dX6_move_85 rfl rfl ?_
    refine z_bipush (z := 31) F dX6_move_86 (by decide) ?_
    refine z_iload F 0 dX6_move_88 rfl ?_
    have hov : (((s 10 a.toNat 0).toNat : Nat) : Int) = s 10 a.toNat 0 := by omega
    have hpl := hio.place (v := a.toNat) (a := (s 10 a.toNat 0).toNat) (who := zBit 31) (x := (zFind (zOpO s a.toNat) (zBit 31) (s 10 a.toNat 0).toNat x 600)) (show ((a.toNat : Nat) : Int) < s 9 0 0 by omega) (if_pos ⟨rfl, rfl, rfl⟩) hov.symm (by omega) hfo.2.1 hfo.2.2
    refine z_callV F [.ref (64 * a.toNat + 14), .int (zI 31), .int (zI ((zFind (zOpO s a.toNat) (zBit 31) (s 10 a.toNat 0).toNat x 600)))] [] (c_X6_putAt F.2.2.1 G (s := (zOpO s a.toNat)) (t := t) (o := (o.1, ck)) hio.c hio.b (v := a.toNat) (a := (s 10 a.toNat 0).toNat) (wo := 31) (x := (zFind (zOpO s a.toNat) (zBit 31) (s 10 a.toNat 0).toNat x 600)) (show ((a.toNat : Nat) : Int) < s 9 0 0 by omega) (show (((s 10 a.toNat 0).toNat : Nat) : Int) < s 4 0 0 by omega) hov.symm (by decide) (by omega) hfo.2.1 hfo.2.2) cv_X6_167 (zAll_0 (zOpO s a.toNat) t (o.1, ck)) rfl rfl rfl ⟨by decide, by decide⟩ ⟨by decide, by decide⟩ (Nat.le_of_ble_eq_true rfl) dX6_move_90 z_nx (z_kv (fun M_7 h_7 => ?_))
    have hm9 := (h_7).symm
    subst hm9
    refine z_aload_n F 5 dX6_move_93 rfl rfl ?_
    refine z_callV F [] [] (c_X6_serveWaiting F.2.2.1 G (s := (zOpL (zOpO s a.toNat) a.toNat (zGet (zOpO s a.toNat) (zBit 31) (s 10 a.toNat 0).toNat (zFind (zOpO s a.toNat) (zBit 31) (s 10 a.toNat 0).toNat x 600)) (zChair (zOpO s a.toNat) (s 10 a.toNat 0).toNat (zFind (zOpO s a.toNat) (zBit 31) (s 10 a.toNat 0).toNat x 600)) (zFind (zOpO s a.toNat) (zBit 31) (s 10 a.toNat 0).toNat x 600))) (t := t) (o := (o.1, ck)) hpl.c hpl.b hpl hk1) cv_X6_171 (zAll_0 (zOpL (zOpO s a.toNat) a.toNat (zGet (zOpO s a.toNat) (zBit 31) (s 10 a.toNat 0).toNat (zFind (zOpO s a.toNat) (zBit 31) (s 10 a.toNat 0).toNat x 600)) (zChair (zOpO s a.toNat) (s 10 a.toNat 0).toNat (zFind (zOpO s a.toNat) (zBit 31) (s 10 a.toNat 0).toNat x 600)) (zFind (zOpO s a.toNat) (zBit 31) (s 10 a.toNat 0).toNat x 600)) t (o.1, ck)) rfl rfl rfl ⟨by decide, by decide⟩ ⟨by decide, by decide⟩ (Nat.le_of_ble_eq_true rfl) dX6_move_94 z_nx (z_ki (fun x_8 M_8 h_8 => ?_))
    obtain ⟨hx9, ck3, hm9, hk3⟩ := h_8
    subst hx9
    subst hm9
    refine z_pop F dX6_move_97 rfl ?_
    refine z_iload F 0 dX6_move_98 rfl ?_
    exact z_reti F rfl (by first | decide | assumption | omega) (by first | decide | assumption | omega) dX6_move_100 ⟨_, rfl, ⟨hq1, hq2⟩, hne, rfl, ck3, rfl, hk3⟩
  · skip
    have hne : (zFind (zOpO s a.toNat) (zBit 31) (s 10 a.toNat 0).toNat x 600) = -1 := by omega
    refine z_aload_n F 5 dX6_move_63 rfl rfl ?_
    refine z_aload_n F 4 dX6_move_64 rfl rfl ?_
    refine z_iload F 3 dX6_move_65 rfl ?_
    refine z_iload F 2 dX6_move_67 rfl ?_
    refine z_iload F 1 dX6_move_69 rfl ?_
    refine z_callV F [.ref (64 * a.toNat + 14), .int (zI (s 11 a.toNat 0)), .int (zI (s 12 a.toNat 0)), .int (zI (s 13 a.toNat 0))] [] (c_X6_put F.2.2.1 G (s := (zOpO s a.toNat)) (t := t) (o := (o.1, ck)) hio.c hio.b (v := a.toNat) (i0 := s 11 a.toNat 0) (c := s 12 a.toNat 0) (x := s 13 a.toNat 0) (show ((a.toNat : Nat) : Int) < s 9 0 0 by omega) hvv.2.2.1 hvv.2.2.2 hvv.1 hvv.2.1) cv_X6_158 (zAll_0 (zOpO s a.toNat) t (o.1, ck)) rfl rfl rfl ⟨by decide, by decide⟩ ⟨by decide, by decide⟩ (Nat.le_of_ble_eq_true rfl) dX6_move_71 z_nx (z_kv (fun M_9 h_9 => ?_))
    have hm9 := (h_9).symm
    subst hm9
    exact z_thrN (text := "no place for the visit") F zfi_NSE zk_NSE zi_NSE (by decide) zat_NSE zab_NSE zcc_NSE zgd_NSE dX6_move_74 dX6_move_77 dX6_move_78 dX6_move_80 dX6_move_83 (by decide) (Nat.le_of_ble_eq_true rfl) (by first | decide | assumption | omega) (by first | decide | assumption | omega) (Or.inr ⟨rfl, ⟨hq1, hq2⟩, hne, ck, rfl, hk1⟩)

