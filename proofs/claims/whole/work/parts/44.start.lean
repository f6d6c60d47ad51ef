/-! ===== the law from its entry ===== -/
set_option maxRecDepth 100000 in
set_option maxHeartbeats 4000000 in
theorem law_loop {k : zC} {G : zG} {n : Nat} {xs : Nat → Int32} {Q : State → Prop} {tb : List ExceptionTableEntry} (F : zF k G cL_law 7 RL wsL_law (some .boolean) tb) (hX : zSX k G n xs) (hend : ∀ (M : zM) (cl sl : Nat) (lv : List (Nat × Value)), cl ≤ 601024 → sl ≤ 7293034 → zJ k G room_1 7 Q M cl sl 1802 lv [.int (zI 1)]) : ∀ (fuel j : Nat) (i : Int) (s u : zS) (o : zOx), n + 4 - 4 * j < fuel → i = 4 * (j : Int) → 4 * j ≤ n + 3 → zInv s → zB u → (∀ m, o.2 m = 0 ∨ o.2 m = 1) → (∀ j, s 3 j 0 ≤ 600) → s 18 0 0 ≤ (j : Int) → zJ k G room_1 7 Q (zAll s (zMix s u) o) (40 + 22 * j) (12000 + 1240 * j) 23 [(0, .ref 127), (1, .ref 0), (2, .ref 16), (3, .ref 33), (4, .int (zI i))] [] := by
  intro fuel
  induction fuel with
  | zero => intros; omega
  | succ fuel ih =>
    intro j i s u o hf hij hjn hI hu hob h3 h18
    have hn := hX.2.2.2
    have hnext : ∀ (s2 T2 : zS) (o2 : zOx), zK s s2 → zB T2 → (∀ m, o2.2 m = 0 ∨ o2.2 m = 1) → i + 3 < n → zJ k G room_1 7 Q (zAll s2 (zMix s2 T2) o2) (40 + 22 * j + 22) (12000 + 1240 * j + 1240) 1795 [(0, .ref 127), (1, .ref 0), (2, .ref 16), (3, .ref 33), (4, .int (zI i))] [] := by
      intro s2 T2 o2 hK hT2 ho2 hin
      refine z_iinc F 4 [(4, .int (zI (i + 4))), (0, .ref 127), (1, .ref 0), (2, .ref 16), (3, .ref 33)] dL_law_1795 rfl (by decide) rfl ?_
      refine z_goto F 23 dL_law_1798 (by decide) ?_
      refine z_lv [(0, .ref 127), (1, .ref 0), (2, .ref 16), (3, .ref 33), (4, .int (zI (i + 4)))] [1, 2, 3, 4, 0] rfl ?_
      refine z_wd (40 + 22 * (j + 1)) (12000 + 1240 * (j + 1)) (by omega) (by omega) ?_
      exact ih (j + 1) (i + 4) s2 T2 o2 (by omega) (by omega) (by omega) hK.1 hT2 ho2 hK.2.1 (by have := hK.2.2; omega)
    refine z_iload F 4 dL_law_23 rfl ?_
    refine z_aload_n F 0 dL_law_25 rfl rfl ?_
    refine z_slen F hX dL_law_26 ?_
    refine z_iconst (z := 4) F dL_law_27 (by decide) ?_
    refine z_isub F dL_law_28 ?_
    refine z_icmp_gt F 1801 dL_law_29 (by decide) (by omega) (by omega) (fun c1 => ?_) (fun c1 => ?_)
    · refine z_iconst (z := 1) F dL_law_1801 (by decide) ?_
      exact hend _ _ _ _ (by omega) (by omega)
    · have hn2 : ∀ (s2 T2 : zS) (o2 : zOx), zK s s2 → zB T2 → (∀ m, o2.2 m = 0 ∨ o2.2 m = 1) → zJ k G room_1 7 Q (zAll s2 (zMix s2 T2) o2) (40 + 22 * j + 22) (12000 + 1240 * j + 1240) 1795 [(0, .ref 127), (1, .ref 0), (2, .ref 16), (3, .ref 33), (4, .int (zI i))] [] := fun s2 T2 o2 a b c => hnext s2 T2 o2 a b c (by omega)
      refine z_aload_n F 0 dL_law_32 rfl rfl ?_
      refine z_iload F 4 dL_law_33 rfl ?_
      refine z_sld F hX (by omega) (by omega) dL_law_35 ?_
      refine z_bipush (z := 31) F dL_law_36 (by decide) ?_
      obtain ⟨v, hv, ev⟩ := zI_31 (xs i.toNat)
      refine z_iand F (v : Int) dL_law_38 ev ?_
      rcases (show v = 0 ∨ v = 1 ∨ v = 2 ∨ v = 3 ∨ v = 4 ∨ v = 5 ∨ v = 6 ∨ v = 7 ∨ v = 8 ∨ v = 9 ∨ v = 10 ∨ v = 11 ∨ v = 12 ∨ v = 13 ∨ v = 14 ∨ v = 15 ∨ v = 16 ∨ v = 17 ∨ v = 18 ∨ v = 19 ∨ v = 20 ∨ v = 21 ∨ v = 22 ∨ v = 23 ∨ v = 24 ∨ v = 25 ∨ v = 26 ∨ v = 27 ∨ 28 ≤ v by omega) with e | e | e | e | e | e | e | e | e | e | e | e | e | e | e | e | e | e | e | e | e | e | e | e | e | e | e | e | e
      · subst e
        refine z_tswIn F 164 ⟨by decide, by decide⟩ dL_law_39 (by decide) (by decide) rfl (by decide) ?_
        exact law_case_0 F hX hI hu hob h3 (by omega) (by omega) (by omega) (by omega) (by omega) rfl rfl rfl hn2
      · subst e
        refine z_tswIn F 244 ⟨by decide, by decide⟩ dL_law_39 (by decide) (by decide) rfl (by decide) ?_
        exact law_case_1 F hX hI hu hob h3 (by omega) (by omega) (by omega) (by omega) (by omega) rfl rfl hn2
      · subst e
        refine z_tswIn F 312 ⟨by decide, by decide⟩ dL_law_39 (by decide) (by decide) rfl (by decide) ?_
        exact law_case_2 F hX hI hu hob h3 (by omega) (by omega) (by omega) (by omega) (by omega) rfl rfl rfl hn2
      · subst e
        refine z_tswIn F 392 ⟨by decide, by decide⟩ dL_law_39 (by decide) (by decide) rfl (by decide) ?_
        exact law_case_3 F hX hI hu hob h3 (by omega) (by omega) (by omega) (by omega) (by omega) rfl hn2
      · subst e
        refine z_tswIn F 448 ⟨by decide, by decide⟩ dL_law_39 (by decide) (by decide) rfl (by decide) ?_
        exact law_case_4 F hX hI hu hob h3 (by omega) (by omega) (by omega) (by omega) (by omega) rfl rfl hn2
      · subst e
        refine z_tswIn F 516 ⟨by decide, by decide⟩ dL_law_39 (by decide) (by decide) rfl (by decide) ?_
        exact law_case_5 F hX hI hu hob h3 (by omega) (by omega) (by omega) (by omega) (by omega) rfl rfl rfl hn2
      · subst e
        refine z_tswIn F 596 ⟨by decide, by decide⟩ dL_law_39 (by decide) (by decide) rfl (by decide) ?_
        exact law_case_6 F hX hI hu hob h3 (by omega) (by omega) (by omega) (by omega) (by omega) rfl rfl hn2
      · subst e
        refine z_tswIn F 664 ⟨by decide, by decide⟩ dL_law_39 (by decide) (by decide) rfl (by decide) ?_
        exact law_case_7 F hX hI hu hob h3 (by omega) (by omega) (by omega) (by omega) (by omega) rfl hn2
      · subst e
        refine z_tswIn F 720 ⟨by decide, by decide⟩ dL_law_39 (by decide) (by decide) rfl (by decide) ?_
        exact law_case_8 F hX hI hu hob h3 (by omega) (by omega) (by omega) (by omega) (by omega) rfl rfl hn2
      · subst e
        refine z_tswIn F 788 ⟨by decide, by decide⟩ dL_law_39 (by decide) (by decide) rfl (by decide) ?_
        exact law_case_9 F hX hI hu hob h3 (by omega) (by omega) (by omega) (by omega) (by omega) hn2
      · subst e
        refine z_tswIn F 801 ⟨by decide, by decide⟩ dL_law_39 (by decide) (by decide) rfl (by decide) ?_
        exact law_case_10 F hX hI hu hob h3 (by omega) (by omega) (by omega) (by omega) (by omega) rfl hn2
      · subst e
        refine z_tswIn F 857 ⟨by decide, by decide⟩ dL_law_39 (by decide) (by decide) rfl (by decide) ?_
        exact law_case_11 F hX hI hu hob h3 (by omega) (by omega) (by omega) (by omega) (by omega) rfl hn2
      · subst e
        refine z_tswIn F 913 ⟨by decide, by decide⟩ dL_law_39 (by decide) (by decide) rfl (by decide) ?_
        exact law_case_12 F hX hI hu hob h3 (by omega) (by omega) (by omega) (by omega) (by omega) rfl hn2
      · subst e
        refine z_tswIn F 969 ⟨by decide, by decide⟩ dL_law_39 (by decide) (by decide) rfl (by decide) ?_
        exact law_case_13 F hX hI hu hob h3 (by omega) (by omega) (by omega) (by omega) (by omega) rfl hn2
      · subst e
        refine z_tswIn F 1025 ⟨by decide, by decide⟩ dL_law_39 (by decide) (by decide) rfl (by decide) ?_
        exact law_case_14 F hX hI hu hob h3 (by omega) (by omega) (by omega) (by omega) (by omega) hn2
      · subst e
        refine z_tswIn F 1038 ⟨by decide, by decide⟩ dL_law_39 (by decide) (by decide) rfl (by decide) ?_
        exact law_case_15 F hX hI hu hob h3 (by omega) (by omega) (by omega) (by omega) (by omega) rfl hn2
      · subst e
        refine z_tswIn F 1094 ⟨by decide, by decide⟩ dL_law_39 (by decide) (by decide) rfl (by decide) ?_
        exact law_case_16 F hX hI hu hob h3 (by omega) (by omega) (by omega) (by omega) (by omega) rfl hn2
      · subst e
        refine z_tswIn F 1150 ⟨by decide, by decide⟩ dL_law_39 (by decide) (by decide) rfl (by decide) ?_
        exact law_case_17 F hX hI hu hob h3 (by omega) (by omega) (by omega) (by omega) (by omega) rfl hn2
      · subst e
        refine z_tswIn F 1206 ⟨by decide, by decide⟩ dL_law_39 (by decide) (by decide) rfl (by decide) ?_
        exact law_case_18 F hX hI hu hob h3 (by omega) (by omega) (by omega) (by omega) (by omega) rfl hn2
      · subst e
        refine z_tswIn F 1262 ⟨by decide, by decide⟩ dL_law_39 (by decide) (by decide) rfl (by decide) ?_
        exact law_case_19 F hX hI hu hob h3 (by omega) (by omega) (by omega) (by omega) (by omega) rfl hn2
      · subst e
        refine z_tswIn F 1318 ⟨by decide, by decide⟩ dL_law_39 (by decide) (by decide) rfl (by decide) ?_
        exact law_case_20 F hX hI hu hob h3 (by omega) (by omega) (by omega) (by omega) (by omega) rfl rfl hn2
      · subst e
        refine z_tswIn F 1386 ⟨by decide, by decide⟩ dL_law_39 (by decide) (by decide) rfl (by decide) ?_
        exact law_case_21 F hX hI hu hob h3 (by omega) (by omega) (by omega) (by omega) (by omega) rfl rfl hn2
      · subst e
        refine z_tswIn F 1454 ⟨by decide, by decide⟩ dL_law_39 (by decide) (by decide) rfl (by decide) ?_
        exact law_case_22 F hX hI hu hob h3 (by omega) (by omega) (by omega) (by omega) (by omega) rfl rfl hn2
      · subst e
        refine z_tswIn F 1522 ⟨by decide, by decide⟩ dL_law_39 (by decide) (by decide) rfl (by decide) ?_
        exact law_case_23 F hX hI hu hob h3 (by omega) (by omega) (by omega) (by omega) (by omega) rfl rfl hn2
      · subst e
        refine z_tswIn F 1590 ⟨by decide, by decide⟩ dL_law_39 (by decide) (by decide) rfl (by decide) ?_
        exact law_case_24 F hX hI hu hob h3 (by omega) (by omega) (by omega) (by omega) (by omega) rfl rfl hn2
      · subst e
        refine z_tswIn F 1658 ⟨by decide, by decide⟩ dL_law_39 (by decide) (by decide) rfl (by decide) ?_
        exact law_case_25 F hX hI hu hob h3 (by omega) (by omega) (by omega) (by omega) (by omega) rfl rfl hn2
      · subst e
        refine z_tswIn F 1726 ⟨by decide, by decide⟩ dL_law_39 (by decide) (by decide) rfl (by decide) ?_
        exact law_case_26 F hX hI hu hob h3 (by omega) (by omega) (by omega) (by omega) (by omega) rfl hn2
      · subst e
        refine z_tswIn F 1782 ⟨by decide, by decide⟩ dL_law_39 (by decide) (by decide) rfl (by decide) ?_
        exact law_case_27 F hX hI hu hob h3 (by omega) (by omega) (by omega) (by omega) (by omega) hn2
      · refine z_tswOut F 1795 ⟨by omega, by omega⟩ dL_law_39 (Or.inr (by omega)) (by decide) ?_
        refine z_wd (40 + 22 * j + 22) (12000 + 1240 * j + 1240) (by omega) (by omega) ?_
        exact hn2 s u o (zK_rf hI h3) hu hob
set_option maxRecDepth 100000 in
set_option maxHeartbeats 4000000 in
theorem law_first {k : zC} {G : zG} {n : Nat} {xs : Nat → Int32} {Q : State → Prop} {tb : List ExceptionTableEntry} (F : zF k G cL_law 7 RL wsL_law (some .boolean) tb) (hX : zSX k G n xs) (hend : ∀ (M : zM) (cl sl : Nat) (lv : List (Nat × Value)), cl ≤ 601024 → sl ≤ 7293034 → zJ k G room_1 7 Q M cl sl 1802 lv [.int (zI 1)]) : zJ k G room_1 7 Q (fun _ => none) 0 0 0 [(0, .ref 127)] [] := by
  refine z_new (ci := 7) F 0 [.null, .null, .null, .null, .null, .null] rfl inlX6 tyX6 tyX6_ok (zr_1 _ (List.mem_of_getElem? (i := 0) rfl)) (zr_1 _ (List.mem_of_getElem? (i := 1) rfl)) (zr_1 _ (List.mem_of_getElem? (i := 2) rfl)) (fun j hj => by rcases (show j = 0 ∨ j = 1 ∨ j = 2 ∨ j = 3 ∨ j = 4 ∨ j = 5 by omega) with rfl | rfl | rfl | rfl | rfl | rfl <;> rfl) (by decide) rfl (by decide) (by decide) (by decide) dL_law_0 ?_
  refine z_dup F dL_law_3 rfl ?_
  refine z_callI F [] [.ref 0] (c_X6_init F.2.2.1 G) ci_L_95 rfl ⟨by decide, by decide⟩ ⟨by decide, by decide⟩ (Nat.le_of_ble_eq_true rfl) dL_law_4 z_nx (z_kv (fun M_2 h_2 => ?_))
  have hm9 := (h_2).symm
  subst hm9
  refine z_astore_n F [(1, .ref 0), (0, .ref 127)] dL_law_7 rfl (by decide) rfl ?_
  refine z_new (ci := 8) F 16 [.null, .null, .null, .int (zI 0), .null, .null, .null, .null, .int (zI 0), .null, .null, .null, .null, .int (zI 0), .null, .null, .null, .null, .int (zI 0), .int (zI 0), .int (zI 0), .int (zI 0)] rfl inlX7 tyX7 tyX7_ok (zr_1 _ (List.mem_of_getElem? (i := 3) rfl)) (zr_1 _ (List.mem_of_getElem? (i := 4) rfl)) (zr_1 _ (List.mem_of_getElem? (i := 5) rfl)) (fun j hj => by rcases (show j = 0 ∨ j = 1 ∨ j = 2 ∨ j = 3 ∨ j = 4 ∨ j = 5 ∨ j = 6 ∨ j = 7 ∨ j = 8 ∨ j = 9 ∨ j = 10 ∨ j = 11 ∨ j = 12 ∨ j = 13 ∨ j = 14 ∨ j = 15 ∨ j = 16 ∨ j = 17 ∨ j = 18 ∨ j = 19 ∨ j = 20 ∨ j = 21 by omega) with rfl | rfl | rfl | rfl | rfl | rfl | rfl | rfl | rfl | rfl | rfl | rfl | rfl | rfl | rfl | rfl | rfl | rfl | rfl | rfl | rfl | rfl <;> rfl) (by decide) rfl (by decide) (by decide) (by decide) dL_law_8 ?_
  refine z_dup F dL_law_11 rfl ?_
  refine z_callI F [] [.ref 16] (c_X7_init F.2.2.1 G) ci_L_98 rfl ⟨by decide, by decide⟩ ⟨by decide, by decide⟩ (Nat.le_of_ble_eq_true rfl) dL_law_12 z_nx (z_kv (fun M_4 h_4 => ?_))
  have hm9 := (h_4).symm
  subst hm9
  refine z_astore_n F [(2, .ref 16), (1, .ref 0), (0, .ref 127)] dL_law_15 rfl (by decide) rfl ?_
  refine z_iconst (z := 1) F dL_law_16 (by decide) ?_
  refine z_newl F 33 1 (by decide) (by decide) rfl (by decide) (by decide) (by decide) (zr_1 _ (List.mem_of_getElem? (i := 6) rfl)) dL_law_17 ?_
  refine z_M (M' := (zAll z0 (zMix z0 z0) (0, fun _ => 0))) (zM0_33.trans (zAll_mix ⟨zSm.rf z0, rfl, fun i h => ⟨rfl, rfl⟩⟩)) ?_
  refine z_astore_n F [(3, .ref 33), (2, .ref 16), (1, .ref 0), (0, .ref 127)] dL_law_19 rfl (by decide) rfl ?_
  refine z_iconst (z := 0) F dL_law_20 (by decide) ?_
  refine z_istore F [(4, .int (zI 0)), (3, .ref 33), (2, .ref 16), (1, .ref 0), (0, .ref 127)] dL_law_21 (by decide) rfl ?_
  refine z_lv [(0, .ref 127), (1, .ref 0), (2, .ref 16), (3, .ref 33), (4, .int (zI 0))] [4, 3, 2, 1, 0] rfl ?_
  refine z_wd (40 + 22 * 0) (12000 + 1240 * 0) (by decide) (by decide) ?_
  exact law_loop F hX hend _ 0 0 z0 z0 (0, fun _ => 0) (Nat.lt_succ_self _) rfl (by omega) z0_I z0_I.b (fun _ => Or.inl rfl) (fun j => (show (0 : Int) ≤ 600 by decide)) (show (0 : Int) ≤ 0 by decide)
set_option maxRecDepth 100000 in
set_option maxHeartbeats 4000000 in
/-- THE LAW, from its entry -/
theorem whole_start {p : Program} {e : Env} {s : State} {m : MethodId} {below : List Frame} {meth : Method} {c : Code} (l : Launch) (hflags : l.flags = flags0) {b L : Nat} {xs : Nat → Int32} (hL : L ≤ 2048) (C0 : lw_At p s m meth c b L xs) : W p l e room_1 s m #[Value.ref b] below meth c s.heap [] 0 0 (lw_Z below #[Value.ref b] s) (entryFrame m ([Value.ref b] : List Value).toArray 7) := by
  obtain ⟨hx, hb, hr, hml, hown, hts, hX, hbl, hlocks, hgv⟩ := id C0
  have hwl : ∀ w ∈ wsL_law, w.before #[Value.ref b] s = true := fun w h => hts w (wsL_law_in w h)
  have hflg : l.stackTraces = false := by
    unfold Launch.stackTraces
    rw [hflags]
    decide +kernel
  have hs := flat_of_before _ hgv
  have hbA : ∀ a : Nat, a < s.heap.size → ¬ s.heap.size ≤ a := fun a h => Nat.not_le.mpr h
  obtain ⟨c0, i0, h0⟩ := u_known (C := RJx4a65c) (T := TJx4a65c) (N := 3) (n := 3) hwl inlJx4a65c (hwl _ (zr_1 _ (List.mem_of_getElem? (i := 14) rfl)))
  obtain ⟨c1, i1, h1⟩ := u_known (C := RX0) (T := TX0) (N := 2) (n := 2) hwl inlX0 (hwl _ (zr_1 _ (List.mem_of_getElem? (i := 22) rfl)))
  obtain ⟨c2, i2, h2⟩ := u_known (C := RX1) (T := TX1) (N := 4) (n := 4) hwl inlX1 (hwl _ (zr_4 _ (List.mem_of_getElem? (i := 17) rfl)))
  obtain ⟨c3, i3, h3⟩ := u_known (C := RX2) (T := TX2) (N := 1) (n := 1) hwl inlX2 (hwl _ (zr_2 _ (List.mem_of_getElem? (i := 1) rfl)))
  obtain ⟨c4, i4, h4⟩ := u_known (C := RX3) (T := TX3) (N := 2) (n := 2) hwl inlX3 (hwl _ (zr_24 _ (List.mem_of_getElem? (i := 17) rfl)))
  obtain ⟨c5, i5, h5⟩ := u_known (C := RX4) (T := TX4) (N := 9) (n := 9) hwl inlX4 (hwl _ (zr_9 _ (List.mem_of_getElem? (i := 9) rfl)))
  obtain ⟨c6, i6, h6⟩ := u_known (C := RX5) (T := TX5) (N := 5) (n := 5) hwl inlX5 (hwl _ (zr_17 _ (List.mem_of_getElem? (i := 6) rfl)))
  obtain ⟨c7, i7, h7⟩ := u_known (C := RX6) (T := TX6) (N := 6) (n := 6) hwl inlX6 (hwl _ (zr_1 _ (List.mem_of_getElem? (i := 1) rfl)))
  obtain ⟨c8, i8, h8⟩ := u_known (C := RX7) (T := TX7) (N := 22) (n := 22) hwl inlX7 (hwl _ (zr_1 _ (List.mem_of_getElem? (i := 4) rfl)))
  obtain ⟨dC, dI, hKc⟩ : ∃ (dC : Nat → ClassId) (dI : Nat → Nat → Nat), ∀ (k : Nat) (q : vw_C), vwCl[k]? = some q → u_Kn s q.1 q.2.1 q.2.2 (dC k) (dI k) := by
    refine ⟨fun k => match k with | 0 => c0 | 1 => c1 | 2 => c2 | 3 => c3 | 4 => c4 | 5 => c5 | 6 => c6 | 7 => c7 | _ => c8, fun k => match k with | 0 => i0 | 1 => i1 | 2 => i2 | 3 => i3 | 4 => i4 | 5 => i5 | 6 => i6 | 7 => i7 | _ => i8, ?_⟩
    intro k q hq
    match k, hq with
    | 0, hq => cases hq; exact h0
    | 1, hq => cases hq; exact h1
    | 2, hq => cases hq; exact h2
    | 3, hq => cases hq; exact h3
    | 4, hq => cases hq; exact h4
    | 5, hq => cases hq; exact h5
    | 6, hq => cases hq; exact h6
    | 7, hq => cases hq; exact h7
    | 8, hq => cases hq; exact h8
    | k + 9, hq => simp [vwCl] at hq
  obtain ⟨a0, k0, p0, f0, g0, e0⟩ := Cond.arrayClass_spec (hwl _ (zr_2 _ (List.mem_of_getElem? (i := 23) rfl)))
  obtain ⟨a1, k1, p1, f1, g1, e1⟩ := Cond.arrayClass_spec (hwl _ (zr_3 _ (List.mem_of_getElem? (i := 5) rfl)))
  obtain ⟨a2, k2, p2, f2, g2, e2⟩ := Cond.arrayClass_spec (hwl _ (zr_1 _ (List.mem_of_getElem? (i := 6) rfl)))
  have hao3 : (Cond.arrayOver (.object "SalonBook$Diary")).before #[Value.ref b] s = true := hts _ (by decide +kernel)
  have hao4 : (Cond.arrayOver (.object "java/lang/Object")).before #[Value.ref b] s = true := hts _ (by decide +kernel)
  obtain ⟨p3, a3, k3, f3, _, g3, e3, n3⟩ := Cond.arrayOver_spec hao3
  obtain ⟨p4, a4, k4, f4, _, g4, e4, n4⟩ := Cond.arrayOver_spec hao4
  have hlen : (Term.length (.static "java/util/ArrayList" "DEFAULTCAPACITY_EMPTY_ELEMENTDATA" "[Ljava/lang/Object;")).eval #[Value.ref b] s none [] s = some (.int (Int32.ofNat 0)) := by
    have h9 : (Cond.eq (Term.length (.static "java/util/ArrayList" "DEFAULTCAPACITY_EMPTY_ELEMENTDATA" "[Ljava/lang/Object;")) (Term.int 0)).before #[Value.ref b] s = true := hs _ (by decide +kernel)
    obtain ⟨y, y1, y2⟩ := Cond.eq_one h9
    cases (Option.some.inj y2 : Value.int 0 = y)
    exact y1
  obtain ⟨q63, hv63, hT63⟩ := va_Tof (s := s) (args := #[Value.ref b]) (tm := .static "java/util/ArrayList" "DEFAULTCAPACITY_EMPTY_ELEMENTDATA" "[Ljava/lang/Object;") (ty := .object "java/lang/Object") (N := 0) (f := fun _ => .null) (A := fun q : Nat => s.heap.size ≤ q) (by decide) (hs _ (by decide +kernel)) hlen (fun j hj => absurd hj (Nat.not_lt_zero _)) hbA
  obtain ⟨q191, hM191⟩ := va_Mi.of (hs (.isRef (.mirror "[Ljava/lang/Object;")) (by decide +kernel))
  obtain ⟨G, hG⟩ : ∃ G : zG, G = ((dC, dI), (fun k => match k with | 0 => a0 | 1 => a1 | 2 => a2 | 3 => a3 | _ => a4), s.heap.size, (fun q => if q = 63 then q63 else if q = 127 then b else q191)) := ⟨_, rfl⟩
  have st : ∀ (i : Nat) (tx : String), Cond.stringRef "SalonBook" i tx ∈ lw_tbl → Cond.exactly (Term.string "SalonBook" i) "java/lang/String" ∈ flatC (Jvm.Cond.and given_1 narrow_1) → ∃ a, vk_R "SalonBook" i tx a s := fun i tx w1 w2 => by
    obtain ⟨a, _, _, _, he, _⟩ := Cond.exactly_spec (hs _ w2)
    exact ⟨a, vk_R.of (hts _ w1) he⟩
  have hLow : zLow G s := by
    subst hG
    refine ⟨⟨hKc, fun k q hq => ?_⟩, vx_Zqof (hts _ (by decide +kernel)) (hts _ (by decide +kernel)) (hs _ (by decide +kernel)) hbA, vx_Zqof (hts _ (by decide +kernel)) (hts _ (by decide +kernel)) (hs _ (by decide +kernel)) hbA, va_Zof (hts _ (by decide +kernel)) (hts _ (by decide +kernel)) hv63 hbA, hT63, ?_, va_AO.of hao3, va_AO.of hao4, Nat.le_refl _, ?_, ?_, hM191, va_Dc.of (hts _ (by decide +kernel)), ?_, ?_⟩
    · match k, hq with
      | 0, hq => cases hq; exact ⟨fun n z => ⟨fun k h => (by cases h), k0, g0, p0, e0⟩, f0⟩
      | 1, hq => cases hq; exact ⟨fun n z => ⟨fun k h => (by cases h), k1, g1, p1, e1⟩, f1⟩
      | 2, hq => cases hq; exact ⟨fun n z => ⟨fun k h => (by cases h), k2, g2, p2, e2⟩, f2⟩
      | 3, hq => cases hq; exact ⟨fun n z => ⟨fun k h => (by cases h), k3, g3, p3, e3⟩, k3, p3, g3, e3, f3, n3⟩
      | 4, hq => cases hq; exact ⟨fun n z => ⟨fun k h => (by cases h), k4, g4, p4, e4⟩, k4, p4, g4, e4, f4, n4⟩
      | k + 5, hq => simp [zTy] at hq
    · exact List.forall_mem_cons.mpr ⟨st 106 "no more steps" (by decide +kernel) (by decide +kernel), List.forall_mem_cons.mpr ⟨st 112 "service was booked or requested" (by decide +kernel) (by decide +kernel), List.forall_mem_cons.mpr ⟨st 114 "usual service out of range" (by decide +kernel) (by decide +kernel), List.forall_mem_cons.mpr ⟨st 164 "no place for the visit" (by decide +kernel) (by decide +kernel), List.forall_mem_cons.mpr ⟨st 174 "no more requests" (by decide +kernel) (by decide +kernel), List.forall_mem_cons.mpr ⟨st 182 "no such request" (by decide +kernel) (by decide +kernel), List.forall_mem_cons.mpr ⟨st 212 "no such chair" (by decide +kernel) (by decide +kernel), List.forall_mem_cons.mpr ⟨st 230 "minutes out of range" (by decide +kernel) (by decide +kernel), List.forall_mem_cons.mpr ⟨st 238 "no such minute" (by decide +kernel) (by decide +kernel), List.forall_mem_cons.mpr ⟨st 240 "no such service" (by decide +kernel) (by decide +kernel), List.forall_mem_cons.mpr ⟨st 245 "no such member of staff" (by decide +kernel) (by decide +kernel), List.forall_mem_cons.mpr ⟨st 247 "no such visit" (by decide +kernel) (by decide +kernel), List.forall_mem_cons.mpr ⟨st 253 "visit was dropped" (by decide +kernel) (by decide +kernel), List.forall_mem_cons.mpr ⟨st 255 "no more services" (by decide +kernel) (by decide +kernel), List.forall_mem_cons.mpr ⟨st 257 "no more visits" (by decide +kernel) (by decide +kernel), List.forall_mem_cons.mpr ⟨st 261 "no such place" (by decide +kernel) (by decide +kernel), List.forall_mem_cons.mpr ⟨st 41 "skills out of range" (by decide +kernel) (by decide +kernel), List.forall_mem_cons.mpr ⟨st 50 "shift out of range" (by decide +kernel) (by decide +kernel), List.forall_mem_cons.mpr ⟨st 58 "no more staff" (by decide +kernel) (by decide +kernel), List.forall_mem_cons.mpr ⟨st 73 "skill out of range" (by decide +kernel) (by decide +kernel), fun _ h => absurd h List.not_mem_nil⟩⟩⟩⟩⟩⟩⟩⟩⟩⟩⟩⟩⟩⟩⟩⟩⟩⟩⟩⟩
    · exact List.forall_mem_cons.mpr ⟨va_Nw.of rfl (hts _ (by decide +kernel)), List.forall_mem_cons.mpr ⟨va_Nw.of rfl (hts _ (by decide +kernel)), List.forall_mem_cons.mpr ⟨va_Nw.of rfl (hts _ (by decide +kernel)), fun _ h => absurd h List.not_mem_nil⟩⟩⟩
    · exact List.forall_mem_cons.mpr ⟨va_Nw.of rfl (hts _ (by decide +kernel)), List.forall_mem_cons.mpr ⟨va_Nw.of rfl (hts _ (by decide +kernel)), List.forall_mem_cons.mpr ⟨va_Nw.of rfl (hts _ (by decide +kernel)), List.forall_mem_cons.mpr ⟨va_Nw.of rfl (hts _ (by decide +kernel)), List.forall_mem_cons.mpr ⟨va_Nw.of rfl (hts _ (by decide +kernel)), List.forall_mem_cons.mpr ⟨va_Nw.of rfl (hts _ (by decide +kernel)), List.forall_mem_cons.mpr ⟨va_Nw.of rfl (hts _ (by decide +kernel)), List.forall_mem_cons.mpr ⟨va_Nw.of rfl (hts _ (by decide +kernel)), fun _ h => absurd h List.not_mem_nil⟩⟩⟩⟩⟩⟩⟩⟩
    · exact List.forall_mem_cons.mpr ⟨va_Nw.of rfl (hts _ (by decide +kernel)), List.forall_mem_cons.mpr ⟨va_Nw.of rfl (hts _ (by decide +kernel)), List.forall_mem_cons.mpr ⟨va_Nw.of rfl (hts _ (by decide +kernel)), fun _ h => absurd h List.not_mem_nil⟩⟩⟩
    · exact List.forall_mem_cons.mpr ⟨va_Nc.of (hs _ (by decide +kernel)), List.forall_mem_cons.mpr ⟨va_Nc.of (hs _ (by decide +kernel)), List.forall_mem_cons.mpr ⟨va_Nc.of (hs _ (by decide +kernel)), List.forall_mem_cons.mpr ⟨va_Nc.of (hs _ (by decide +kernel)), List.forall_mem_cons.mpr ⟨va_Nc.of (hs _ (by decide +kernel)), fun _ h => absurd h List.not_mem_nil⟩⟩⟩⟩⟩
  have e127 : G.2.2.2 127 = b := by subst hG; rfl
  have eA : G.2.2.1 = s.heap.size := by subst hG; rfl
  have F : zF ((p, l, e, s, m), (#[Value.ref b], below, meth, c), G.2.2.2, fun _ => none) G cL_law 7 RL wsL_law (some .boolean) c.exceptionTable.toList := ⟨⟨hx, hb, hml, hown, hwl⟩, hLow, hflg, hlocks, hr, rfl⟩
  have hSX : zSX ((p, l, e, s, m), (#[Value.ref b], below, meth, c), G.2.2.2, fun _ => none) G L xs := ⟨by rw [e127]; exact hX, by rw [e127]; exact hbl, by rw [e127]; show ¬ G.2.2.1 ≤ b; rw [eA]; exact Nat.not_le.mpr hbl, hL⟩
  have key := law_first (Q := lw_Z below #[Value.ref b] s) F hSX (fun M cl sl lv h1 h2 => z_lawret (b := b) F rfl (Nat.le_of_eq eA.symm) h1 h2)
  have hl := lv_entry ([.ref b]) (n := 7) (Nat.le_of_ble_eq_true rfl)
  rw [lg_entry_eq]
  generalize (lg_sl ([.ref b]) ++ List.replicate (7 - (lg_sl ([.ref b])).length) Slot.unset).toArray = ls at hl ⊢
  have hl : lv_has ls 7 ([((0 : Nat), Value.ref 127)].map (zmq G.2.2.2)) := by
    show lv_has ls 7 [(0, Value.ref (G.2.2.2 127))]
    rw [e127]
    exact hl
  exact key G.2.2.2 s.heap [] ls ⟨fun a h => ⟨rfl, rfl⟩, fun t o h => (nomatch h), fun t u h => (nomatch h), [], fun k q h => by simp at h, ⟨fun i j p q h => by simp at h, fun k q h => by simp at h⟩, fun t o h => (nomatch h)⟩ (fun a ha => ⟨ha, rfl⟩) (fun q hq a h => by cases List.mem_singleton.mp hq; cases h; exact Or.inr rfl) (fun v h => (nomatch h)) va_S.rf hl
-- ===== YOUR PART ENDS =====
set_option maxHeartbeats 4000000 in
theorem lw_walk (l : Launch) (hflags : l.flags = flags0) (b : Addr) (xs : List Int32) : MetFree l x (headSpec (Jvm.Cond.code x code maxLocals ret :: tables_1) room_1) (lw_P b xs) (fun _ _ _ _ _ => True) lw_Q := by
  refine MetFree.of_bodyS (code := code) (maxLocals := maxLocals) (ret := ret) (by decide) ?_ ?_
  · intro args s m h hn
    obtain ⟨meth, c, h1, h2, h3, h4, h5, h6, -, -⟩ := Cond.code_spec hn (atoms_spec (ws := Jvm.Cond.code x code maxLocals ret :: tables_1) h _ List.mem_cons_self)
    exact ⟨meth, c, h1, h2, h3, h4, h5, h6⟩
  · intro p e s m args below meth c s₁ B hml0 hP _
    obtain ⟨rfl, hx, hbd, hgv⟩ := hP
    obtain ⟨scr, harrAt, hlist, hof, hsmall⟩ := hx
    obtain ⟨hcb, hkn, -, -⟩ := State.arrayAt?_spec harrAt
    have hown : s.vm.findClass R_law = some m.cls := findClass_of_methodNamed B.named
    have hts0 : ∀ c ∈ (Jvm.Cond.code x code maxLocals ret :: tables_1), c.before #[Value.ref b] s = true := atoms_spec (ws := Jvm.Cond.code x code maxLocals ret :: tables_1) B.pre
    have hts : ∀ w ∈ lw_tbl, w.before #[Value.ref b] s = true := k2_hts_sels lw_privs (fun w hw => hts0 w (List.mem_cons_of_mem _ hw)) lw_privs_ok
    have hml : c.maxLocals = 7 := B.maxLocals_eq (hts0 _ List.mem_cons_self)
    have X₀ : Stand p l e room_1 s m #[Value.ref b] below meth c s₁ [] 0 0 := Stand.of_body B
    have hh0 : s₁.heap = s.heap := by rw [B.state]; rfl
    have hsz : scr.slots.size = xs.length := by rw [← Array.length_toList, hlist, List.length_map]
    have hval : ∀ j : Nat, j < xs.length → scr.slots[j]? = some (.int (xs.getD j 0)) := fun j hj => by
      rw [← Array.getElem?_toList, hlist]
      simp [hj]
    have hbl : b < s.heap.size := (Array.getElem?_eq_some_iff.mp hcb).1
    have hX : va_X b xs.length (fun j => xs.getD j 0) s s.heap := ⟨scr, hcb, hof, hkn, hsz, hval⟩
    have K : W p l e room_1 s m #[Value.ref b] below meth c s₁.heap [] 0 0 (lw_Z below #[Value.ref b] s) (entryFrame m ([Value.ref b] : List Value).toArray 7) := by
      rw [hh0]
      exact whole_start l hflags hbd ⟨B.exec, B.bytes, B.returns, hml, hown, hts, hX, hbl, B.notSynchronized, hgv⟩
    obtain ⟨t, a1, o, b1, b2, b3⟩ := K s₁ rfl X₀
    exact ⟨t, o, a1, b1, b2, b3⟩
theorem lw_pre_spec {args : Array Value} {s : State} (h : (Jvm.Cond.and given_1 narrow_1).before args s = true) (hr : rest_1_c.before args s = true) : ∃ (b : Addr) (xs : List Int32), lw_P b xs args s := by
  have hs := flat_of_before _ h
  have hq := flat_of_before _ hr
  have hc : (Cond.count 1).before args s = true := hs _ (by decide +kernel)
  have harr : (Cond.arrayOf (.arg 0) .int).before args s = true := hs _ (by decide +kernel)
  have hle : (Cond.le (.length (.arg 0)) (.int 2048)).before args s = true := hs _ (by decide +kernel)
  have hlen : (Cond.isInt (.length (.arg 0))).before args s = true := hq _ (by decide +kernel)
  have hall : (Cond.all (.arg 0) (.isInt (.elem (.arg 0) (.index 0)))).before args s = true := hq _ (by decide +kernel)
  obtain ⟨b, xs, hb, hx⟩ := State.ints_of_pre rfl harr hlen hall
  have hsm : xs.length < 2 ^ 31 := hx.choose_spec.2.2.2
  have hev : (Term.length (.arg 0)).eval args s none [] s = some (.int xs.length.toInt32) := hx.length_eval hb
  have hv := Cond.le_ints hev (show (Term.int 2048).eval args s none [] s = some (.int 2048) from rfl)
  have hd : xs.length.toInt32 ≤ 2048 := by
    simpa [Cond.before, Cond.holds, hv] using hle
  have hN : xs.length ≤ 2048 := (Int32.ofNat_le_ofNat hsm (by decide)).mp (show Int32.ofNat xs.length ≤ Int32.ofNat 2048 from hd)
  exact ⟨b, xs, Cond.one_arg hc (show args[0]? = some (.ref b) from hb), hx, hN, h⟩
theorem lw_comes (l : Launch) (hflags : l.flags = flags0) : Comes l x (Jvm.Cond.code x code maxLocals ret :: tables_1) room_1 (fun tb e args s => Calls_1 tb e args s ∧ rest_1 tb e args s ∧ Pre_1 tb e args s)
    (fun _ _ args s o t => lw_Q args s o t) := by
  intro p e ha hc hk s m args below hf hfit hheap happ hpre
  obtain ⟨b, xs, hP⟩ := lw_pre_spec hpre.2.2 hpre.2.1
  obtain ⟨k, o, h1, h2, h3, hQ⟩ := lw_walk l hflags b xs p e ha hc hk s m args below hf ((Spec.applies_iff_loose hf).mp happ).1 hP trivial
  exact ⟨k, o, h1, h2, h3, hQ⟩
theorem lw_frame {s t : State} {o : Outcome} {args : Array Value} (h : Framed s o t [] 601024 7293034) :
    Framed s o t (fieldLocs frame_1_writes args s ++ arrayLocs frame_1_arrays args s ++ staticLocs frame_1_statics s) 601024 7293034 := h
theorem lw_limb (L : Cond) (hL : ∀ (args : Array Value) (s t : State), L.after args s (.returned (some (.int 1))) t = true) :
    ArmFor flags0 classFile x code maxLocals ret World_1 tables_1 room_1 Calls_1 rest_1 Pre_1
      (fun tb e a s o t => postC L tb e a s o t ∧ Framed s o t (fieldLocs frame_1_writes a s ++ arrayLocs frame_1_arrays a s ++ staticLocs frame_1_statics s) 601024 7293034) := by
  intro l hflags _ _ p e ha hc hk s m args below hf hfit hheap happ hpre
  obtain ⟨k, o, h1, h2, h3, rfl, hF⟩ := lw_comes l hflags p e ha hc hk s m args below hf hfit hheap happ hpre
  exact ⟨k, _, h1, h2, h3, hL args s _, lw_frame hF⟩
theorem i_vc : Claimed_1_1 ∧ Claimed_1_2 := ⟨lw_limb limb_1_1 (fun args s t => by simp [limb_1_1, Cond.after, Cond.holds, Cond.value]), lw_limb limb_1_2 (fun args s t => Cond.after_iff.mpr (by
  first | (rw [show limb_1_2 = Cond.eq .result (.int 1) from rfl, Cond.eq_ints (x := 1) (y := 1) rfl rfl]; simp; done) | (simp [limb_1_2, Cond.value, Term.eval]; done)))⟩

