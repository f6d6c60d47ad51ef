/-! ===== the model serves the list, moves, drops ===== -/
theorem zSm.fd {c t : zS} (h : zSm c t) (p q : Int) : zSm c (zFd t p q) := (h.r (by omega) 0 0 p).r (by omega) 0 0 q
theorem zsu_id (s : zS) (f i j : Nat) : zsu s f i j (s f i j) = s := by
  funext g a b
  unfold zsu
  by_cases h : g = f ∧ a = i ∧ b = j
  · rw [if_pos h, h.1, h.2.1, h.2.2]
  · rw [if_neg h]
theorem zSv1 {d W X W' : zS} {p w : Int} {n : Nat} (hp : 0 ≤ p) (hw : 0 ≤ w) (hq1 : ∀ i : Nat, (i : Int) < p → W 15 i 0 = d 15 i 0 ∧ W 16 i 0 = d 16 i 0) (hq2 : ∀ i : Nat, i < n + 1 → W 15 (w.toNat + i) 0 = d 15 (p.toNat + i) 0 ∧ W 16 (w.toNat + i) 0 = d 16 (p.toNat + i) 0) (h15 : ∀ i, X 15 i 0 = d 15 i 0) (h16 : ∀ i, X 16 i 0 = d 16 i 0) (w15 : ∀ i, W' 15 i 0 = W 15 i 0) (w16 : ∀ i, W' 16 i 0 = W 16 i 0) : (∀ i : Nat, (i : Int) < p → W' 15 i 0 = zOpR X p.toNat 15 i 0 ∧ W' 16 i 0 = zOpR X p.toNat 16 i 0) ∧ (∀ i : Nat, i < n → W' 15 ((w + 1).toNat + i) 0 = zOpR X p.toNat 15 (p.toNat + i) 0 ∧ W' 16 ((w + 1).toNat + i) 0 = zOpR X p.toNat 16 (p.toNat + i) 0) := by
  refine ⟨fun i hi => ?_, fun i hi => ?_⟩
  · rw [zOpR_q (Or.inl rfl), zOpR_q (Or.inr (Or.inl rfl)), if_neg (by omega), if_neg (by omega), h15, h16, w15, w16]
    exact hq1 i hi
  · rw [zOpR_q (Or.inl rfl), zOpR_q (Or.inr (Or.inl rfl)), if_pos (by omega), if_pos (by omega), h15, h16, w15, w16, show (w + 1).toNat + i = w.toNat + (i + 1) by omega]
    exact hq2 (i + 1) (by omega)
theorem zSv2 {d W W' : zS} {p w : Int} {n : Nat} (hp : 0 ≤ p) (hpw : p ≤ w) (hq1 : ∀ i : Nat, (i : Int) < p → W 15 i 0 = d 15 i 0 ∧ W 16 i 0 = d 16 i 0) (hq2 : ∀ i : Nat, i < n + 1 → W 15 (w.toNat + i) 0 = d 15 (p.toNat + i) 0 ∧ W 16 (w.toNat + i) 0 = d 16 (p.toNat + i) 0) (w15 : ∀ i, W' 15 i 0 = if i = p.toNat then d 15 p.toNat 0 else W 15 i 0) (w16 : ∀ i, W' 16 i 0 = if i = p.toNat then d 16 p.toNat 0 else W 16 i 0) : (∀ i : Nat, (i : Int) < p + 1 → W' 15 i 0 = d 15 i 0 ∧ W' 16 i 0 = d 16 i 0) ∧ (∀ i : Nat, i < n → W' 15 ((w + 1).toNat + i) 0 = d 15 ((p + 1).toNat + i) 0 ∧ W' 16 ((w + 1).toNat + i) 0 = d 16 ((p + 1).toNat + i) 0) := by
  refine ⟨fun i hi => ?_, fun i hi => ?_⟩
  · rw [w15, w16]
    by_cases e : i = p.toNat
    · rw [if_pos e, if_pos e, e]
      exact ⟨rfl, rfl⟩
    · rw [if_neg e, if_neg e]
      exact hq1 i (by omega)
  · rw [w15, w16, if_neg (by omega), if_neg (by omega), show (w + 1).toNat + i = w.toNat + (i + 1) by omega, show (p + 1).toNat + i = p.toNat + (i + 1) by omega]
    exact hq2 (i + 1) (by omega)
theorem zSv3 {T d : zS} {P : Nat} {b c : Int} (i : Nat) : zsu (zsu T 15 P 0 b) 16 P 0 c 15 i 0 = (if i = P then b else T 15 i 0) ∧ zsu (zsu T 15 P 0 b) 16 P 0 c 16 i 0 = (if i = P then c else T 16 i 0) := by
  refine ⟨?_, ?_⟩
  · rw [zsu_n (by omega)]
    unfold zsu
    by_cases e : i = P
    · rw [if_pos ⟨rfl, e, rfl⟩, if_pos e]
    · rw [if_neg (fun h => e h.2.1), if_neg e]
  · by_cases e : i = P
    · rw [if_pos e, e, zsu_s]
    · rw [if_neg e, zsu_n (by omega), zsu_n (by omega)]
theorem zOp_back {c : zS} {v : Nat} (h : zInv c) (hv : (v : Int) < c 9 0 0) (hd : ¬ c 13 v 0 = -1) : zOpL (zOpO c v) v (c 11 v 0) (c 12 v 0) (c 13 v 0) = c := by
  have hvv := h.v hv hd
  obtain ⟨hb, hc, hs1, hs2, hu1, hu2, hq, hdc, hdm⟩ := h
  have a11 := zOpA_11 (zOpO c v) v (c 11 v 0) (c 12 v 0) (c 13 v 0)
  have a12 := zOpA_12 (zOpO c v) v (c 11 v 0) (c 12 v 0) (c 13 v 0)
  have a13 := zOpA_13 (zOpO c v) v (c 11 v 0) (c 12 v 0) (c 13 v 0)
  funext g p q
  show zOpM (zOpA (zOpO c v) v (c 11 v 0) (c 12 v 0) (c 13 v 0)) v v g p q = c g p q
  by_cases hg : g = 21
  · subst hg
    rcases Nat.lt_or_ge p 4 with h4 | h4
    · have e1 := zOpM_c (s := zOpA (zOpO c v) v (c 11 v 0) (c 12 v 0) (c 13 v 0)) (v := v) (b := v) (m := q) h4 (by rw [a11]; omega)
      have e2 : zOpA (zOpO c v) v (c 11 v 0) (c 12 v 0) (c 13 v 0) 21 p q = _ := zOpM_c (s := c) (v := v) (b := -1) (m := q) h4 (by omega)
      rw [e1, e2, a12, a13]
      show (if (p : Int) = c 12 v 0 ∧ c 13 v 0 ≤ (q : Int) ∧ (q : Int) < c 13 v 0 + zLen c (c 10 v 0).toNat then (v : Int) else if (p : Int) = c 12 v 0 ∧ c 13 v 0 ≤ (q : Int) ∧ (q : Int) < c 13 v 0 + zLen c (c 10 v 0).toNat then -1 else c 21 p q) = c 21 p q
      by_cases hk : (p : Int) = c 12 v 0 ∧ c 13 v 0 ≤ (q : Int) ∧ (q : Int) < c 13 v 0 + zLen c (c 10 v 0).toNat
      · rw [if_pos hk]
        exact (((hdc p q h4).2 v).mpr ⟨hv, hd, hk.1.symm, hk.2⟩).symm
      · rw [if_neg hk, if_neg hk]
    · obtain ⟨i, rfl⟩ : ∃ i, p = i + 4 := ⟨p - 4, by omega⟩
      by_cases hk : c 11 v 0 = (i : Int) ∧ zCv c (c 10 v 0).toNat (c 13 v 0) (zSc c (c 10 v 0).toNat) q
      · have e1 := zOpM_mi (s := zOpA (zOpO c v) v (c 11 v 0) (c 12 v 0) (c 13 v 0)) (v := v) (b := v) (i := i) (m := q) (by rw [a12]; omega) (by rw [a11]; exact hk.1) (by rw [a13]; exact hk.2)
        rw [e1]
        exact (((hdm i q).2 v).mpr ⟨hv, hd, hk.1, hk.2⟩).symm
      · have e1 := zOpM_mo (s := zOpA (zOpO c v) v (c 11 v 0) (c 12 v 0) (c 13 v 0)) (v := v) (b := v) (i := i) (m := q) (by rw [a12]; omega) (by rw [a11, a13]; exact hk)
        rw [e1]
        exact zOpM_mo (s := c) (v := v) (b := -1) (i := i) (m := q) (by omega) hk
  · have n1 : ∀ u b, zOpM u v b g p q = u g p q := fun u b => if_neg hg
    rw [n1]
    show zsu (zsu (zsu (zsu (zOpM c v (-1)) 13 v 0 (-1)) 11 v 0 (c 11 v 0)) 12 v 0 (c 12 v 0)) 13 v 0 (c 13 v 0) g p q = c g p q
    unfold zsu
    rw [n1]
    by_cases h13 : g = 13 ∧ p = v ∧ q = 0
    · rw [if_pos h13, h13.1, h13.2.1, h13.2.2]
    · rw [if_neg h13, if_neg h13]
      by_cases h12 : g = 12 ∧ p = v ∧ q = 0
      · rw [if_pos h12, h12.1, h12.2.1, h12.2.2]
      · rw [if_neg h12]
        by_cases h11 : g = 11 ∧ p = v ∧ q = 0
        · rw [if_pos h11, h11.1, h11.2.1, h11.2.2]
        · rw [if_neg h11]
abbrev rX7_serves : Room := { frames := 4, cells := 0, slots := 0, locals := 102 }
set_option maxRecDepth 100000 in
set_option maxHeartbeats 4000000 in
theorem c_X7_serves {l : Launch} (hfl : l.stackTraces = false) (G : zG) {s t c : zS} {o : zOx} (hc : zC1 t) (hb9 : zB t) (hI : zInv c) (hr : zRel c t) (h3 : ∀ j, t 3 j 0 ≤ 600)   : zCn l G yX7_serves (.code yX7_serves cX7_serves 6 (some .int)) rX7_serves [.ref 16] (zAll s t o) (zRi (fun xr M2 => xr = (zSw (c 14 0 0).toNat c 0 0).2 ∧ ∃ T, M2 = zAll s T o ∧ zB T ∧ zRel (zSw (c 14 0 0).toNat c 0 0).1 T ∧ T 25 0 0 = t 25 0 0)) zN := by
  refine zStart hfl (by decide) (own := RX7) rfl [(0, .ref 16)] (Nat.le_of_ble_eq_true rfl) rfl (fun k hkl hinit hk0 F => ?_)
  have hn0 := hc.1
  have hn4 := hc.2.1
  have hn9 := hc.2.2.1
  have hn14 := hc.2.2.2.1
  have hn18 := hc.2.2.2.2.1
  have e0 := hr.1 0 0 0 (by omega)
  have e4 := hr.1 4 0 0 (by omega)
  have e9 := hr.1 9 0 0 (by omega)
  have e14 := hr.2.1
  have hc14 := hI.c.2.2.2.1
  refine z_iconst (z := 0) F dX7_serves_0 (by decide) ?_
  refine z_istore_n F [(1, .int (zI 0)), (0, .ref 16)] dX7_serves_1 rfl (by decide) rfl ?_
  refine z_iconst (z := 0) F dX7_serves_2 (by decide) ?_
  refine z_istore_n F [(2, .int (zI 0)), (1, .int (zI 0)), (0, .ref 16)] dX7_serves_3 rfl (by decide) rfl ?_
  refine z_aload_n F 2 dX7_serves_4 rfl rfl ?_
  refine z_get F fl_X7_136 (zAll_16 s t o) rfl dX7_serves_5 ?_
  refine z_istore_n F [(3, .int (zI (t 14 0 0))), (2, .int (zI 0)), (1, .int (zI 0)), (0, .ref 16)] dX7_serves_8 rfl (by decide) rfl ?_
  refine z_iconst (z := 0) F dX7_serves_9 (by decide) ?_
  refine z_istore F [(4, .int (zI 0)), (3, .int (zI (t 14 0 0))), (2, .int (zI 0)), (1, .int (zI 0)), (0, .ref 16)] dX7_serves_10 (by decide) rfl ?_
  have L1 : ∀ (fuel : Nat) (d : zS) (W : zS) (n : Nat) (p : Int) (w : Int) (m : Int), n < fuel → zInv d → zB W → d 4 0 0 = c 4 0 0 → (∀ j, d 3 j 0 ≤ 600) → W 25 0 0 = t 25 0 0 → 0 ≤ p → p ≤ w → p + n = d 14 0 0 → w + n = t 14 0 0 → (∀ i : Nat, (i : Int) < p → W 15 i 0 = d 15 i 0 ∧ W 16 i 0 = d 16 i 0) → (∀ i : Nat, i < n → W 15 (w.toNat + i) 0 = d 15 (p.toNat + i) 0 ∧ W 16 (w.toNat + i) 0 = d 16 (p.toNat + i) 0) → zSw (c 14 0 0).toNat c 0 0 = zSw n d p.toNat m → zJ k G rX7_serves 6 (zMQ k G rX7_serves (zRi (fun xr M2 => xr = (zSw (c 14 0 0).toNat c 0 0).2 ∧ ∃ T, M2 = zAll s T o ∧ zB T ∧ zRel (zSw (c 14 0 0).toNat c 0 0).1 T ∧ T 25 0 0 = t 25 0 0)) zN) (zAll s (zHy d c W) o) 0 0 12 [(0, .ref 16), (1, .int (zI p)), (2, .int (zI m)), (3, .int (zI (t 14 0 0))), (4, .int (zI w))] [] := by
    intro fuel
    induction fuel with
    | zero => intros; omega
    | succ fuel L1_ih =>
      intro d W n p w m hfuel hId hW h44 h33 h25 hp0 hpw hpn hwn hq1 hq2 hsw
      refine z_iload F 4 dX7_serves_12 rfl ?_
      refine z_iload_n F 3 dX7_serves_14 rfl rfl ?_
      refine z_icmp_ge F 119 dX7_serves_15 (by decide) (by omega) (by omega) (fun c_1 => ?_) (fun c_1 => ?_)
      · skip
        have hn2 : n = 0 := by omega
        refine z_aload_n F 0 dX7_serves_119 rfl rfl ?_
        refine z_iload_n F 1 dX7_serves_120 rfl rfl ?_
        refine z_put (ty := .int) F [.ref 17, .ref 18, .ref 19, .int (zI ((zHy d c W) 0 0 0)), .ref 20, .ref 21, .ref 22, .ref 23, .int (zI ((zHy d c W) 4 0 0)), .ref 24, .ref 25, .ref 26, .ref 27, .int (zI ((zHy d c W) 9 0 0)), .ref 28, .ref 29, .ref 30, .ref 31, .int (zI p), .int (zI ((zHy d c W) 23 0 0)), .int (zI ((zHy d c W) 24 0 0)), .int (zI ((zHy d c W) 25 0 0))] fl_X7_136 tyX7 tyX7_ok nmX7 rfl (by decide +kernel) rfl rfl (zAll_16 s (zHy d c W) o) (Nat.le_of_ble_eq_true rfl) rfl dX7_serves_121 ?_
        have hm_2_s := zu_s (zAll s (zHy d c W) o) 16 (zOb 8 [.ref 17, .ref 18, .ref 19, .int (zI ((zHy d c W) 0 0 0)), .ref 20, .ref 21, .ref 22, .ref 23, .int (zI ((zHy d c W) 4 0 0)), .ref 24, .ref 25, .ref 26, .ref 27, .int (zI ((zHy d c W) 9 0 0)), .ref 28, .ref 29, .ref 30, .ref 31, .int (zI p), .int (zI ((zHy d c W) 23 0 0)), .int (zI ((zHy d c W) 24 0 0)), .int (zI ((zHy d c W) 25 0 0))])
        refine z_M (M' := (zAll s (zsu (zHy d c W) 14 0 0 p) o)) zMA_s14 ?_
        refine z_iload_n F 2 dX7_serves_124 rfl rfl ?_
        exact z_reti F rfl (by first | decide | assumption | omega) (by first | decide | assumption | omega) dX7_serves_125 ⟨_, rfl, by rw [hsw, hn2, zSw], zsu (zHy d c W) 14 0 0 p, rfl, zB_u (zHy_b hId.b hI.b hW) (by omega), by rw [hsw, hn2, zSw]; show zRel d _; exact ⟨(zHy_s d c W).r (by omega) 0 0 p, (zsu_s _ _ _ _ _).trans (by omega), fun i hi => hq1 i (by omega)⟩, h25⟩
      · skip
        obtain ⟨n2, hn2⟩ : ∃ n2, n = n2 + 1 := ⟨n - 1, by omega⟩
        have hcT : zC1 (zHy d c W) := zHy_c hId.c hI.c h44
        have hbT : zB (zHy d c W) := zHy_b hId.b hI.b hW
        have hqq := hId.q (p := p.toNat) (by omega)
        have hsf := hId.sw (p := p.toNat) (by omega)
        have hd9 := hId.c.2.2.1
        have hd4 := hId.c.2.1
        have hd0 := hId.c.1
        have hlq := hId.c.len (d 15 p.toNat 0).toNat
        have h16 := hId.b 16 p.toNat 0
        have hw15 := (hq2 0 (by omega)).1
        have hw16 := (hq2 0 (by omega)).2
        rw [Nat.add_zero, Nat.add_zero] at hw15 hw16
        refine z_aload_n F 0 dX7_serves_18 rfl rfl ?_
        refine z_get F fl_X7_70 (zAll_16 s (zHy d c W) o) rfl dX7_serves_19 ?_
        refine z_ti (y := d 9 0 0) rfl ?_
        refine z_bipush (z := 30) F dX7_serves_22 (by decide) ?_
        refine z_icmp_ne F 31 dX7_serves_24 (by decide) (by omega) ⟨by decide, by decide⟩ (fun c_3 => ?_) (fun c_3 => ?_)
        · skip
          have hroom : d 9 0 0 < 30 := by omega
          refine z_aload_n F 0 dX7_serves_31 rfl rfl ?_
          refine z_aload_n F 0 dX7_serves_32 rfl rfl ?_
          refine z_get F fl_X7_50 (zAll_16 s (zHy d c W) o) rfl dX7_serves_33 ?_
          refine z_iload F 4 dX7_serves_36 rfl ?_
          refine z_iald F (zAll_30 s (zHy d c W) o) (by omega) (by omega) (by decide) dX7_serves_38 ?_
          refine z_ti (y := ((((d 15 p.toNat 0).toNat) : Nat) : Int)) (by show W 15 w.toNat 0 = _; omega) ?_
          refine z_iconst (z := 0) F dX7_serves_39 (by decide) ?_
          refine z_iconst (z := -1) F dX7_serves_40 (by decide) ?_
          refine z_callV F [.int (zI (((((d 15 p.toNat 0).toNat) : Nat) : Int))), .int (zI 0), .int (zI (-1))] [] (c_X7_find F.2.2.1 G (s := s) (t := (zHy d c W)) (o := o) hcT hbT (a := (d 15 p.toNat 0).toNat) (x := 0) (e := -1) (by omega) (by decide) (by decide) h33) cv_X7_127 (zAll_16 s (zHy d c W) o) rfl rfl rfl ⟨by decide, by decide⟩ ⟨by decide, by decide⟩ (Nat.le_of_ble_eq_true rfl) dX7_serves_41 z_nx (z_ki (fun x_4 M_4 h_4 => ?_))
          obtain ⟨hx9, p9, q9, hm9, hp9, hq99, hpq9⟩ := h_4
          subst hx9
          subst hm9
          rw [show zFind (zHy d c W) (zWho (-1)) (d 15 p.toNat 0).toNat 0 600 = zFind d (zBit 31) (d 15 p.toNat 0).toNat 0 600 from (zFind_31 hcT _ _ _).trans ((zHy_s d c W).fi _ _ _)] at hpq9
          refine z_ti (y := zFind d (zBit 31) (d 15 p.toNat 0).toNat 0 600) ((zFind_31 hcT _ _ _).trans ((zHy_s d c W).fi _ _ _)) ?_
          refine z_ti (y := zSwF d p.toNat) (if_pos hroom).symm ?_
          refine z_istore F [(5, .int (zI (zSwF d p.toNat))), (0, .ref 16), (1, .int (zI p)), (2, .int (zI m)), (3, .int (zI (t 14 0 0))), (4, .int (zI w))] dX7_serves_44 (by decide) rfl ?_
          refine z_iload F 0 dX7_serves_46 rfl ?_
          refine z_iconst (z := -1) F dX7_serves_48 (by decide) ?_
          have hfb : -1 ≤ zSwF d p.toNat ∧ zSwF d p.toNat ≤ 600 := by rcases hsf with h9 | h9 <;> omega
          refine z_icmp_eq F 84 dX7_serves_49 (by decide) (by omega) ⟨by decide, by decide⟩ (fun c_5 => ?_) (fun c_5 => ?_)
          · skip
            have hke : zSwF d p.toNat = -1 ∨ d 16 p.toNat 0 < zSwF d p.toNat := Or.inl c_5
            refine z_aload_n F 1 dX7_serves_84 rfl rfl ?_
            refine z_get F fl_X7_50 (zAll_16 s (zFd (zHy d c W) p9 q9) o) rfl dX7_serves_85 ?_
            refine z_iload_n F 2 dX7_serves_88 rfl rfl ?_
            refine z_aload_n F 1 dX7_serves_89 rfl rfl ?_
            refine z_get F fl_X7_50 (zAll_16 s (zFd (zHy d c W) p9 q9) o) rfl dX7_serves_90 ?_
            refine z_iload F 5 dX7_serves_93 rfl ?_
            refine z_iald F (zAll_30 s (zFd (zHy d c W) p9 q9) o) (by omega) (by omega) (by decide) dX7_serves_95 ?_
            refine z_ti (y := d 15 p.toNat 0) (by show W 15 w.toNat 0 = _; exact hw15) ?_
            refine z_iast F (zAll_30 s (zFd (zHy d c W) p9 q9) o) (by omega) (by omega) (by decide) dX7_serves_96 ?_
            have hm_6_s := zu_s (zAll s (zFd (zHy d c W) p9 q9) o) 30 (zAi 0 6 (zup (fun j => (zFd (zHy d c W) p9 q9) 15 j 0) (p).toNat (d 15 p.toNat 0)))
            refine z_M (M' := (zAll s (zsu (zFd (zHy d c W) p9 q9) 15 p.toNat 0 (d 15 p.toNat 0)) o)) zMA_30 ?_
            refine z_aload_n F 1 dX7_serves_97 rfl rfl ?_
            refine z_get F fl_X7_53 (zAll_16 s (zsu (zFd (zHy d c W) p9 q9) 15 p.toNat 0 (d 15 p.toNat 0)) o) rfl dX7_serves_98 ?_
            refine z_iload_n F 2 dX7_serves_101 rfl rfl ?_
            refine z_aload_n F 1 dX7_serves_102 rfl rfl ?_
            refine z_get F fl_X7_53 (zAll_16 s (zsu (zFd (zHy d c W) p9 q9) 15 p.toNat 0 (d 15 p.toNat 0)) o) rfl dX7_serves_103 ?_
            refine z_iload F 5 dX7_serves_106 rfl ?_
            refine z_iald F (zAll_31 s (zsu (zFd (zHy d c W) p9 q9) 15 p.toNat 0 (d 15 p.toNat 0)) o) (by omega) (by omega) (by decide) dX7_serves_108 ?_
            refine z_ti (y := d 16 p.toNat 0) (by show W 16 w.toNat 0 = _; exact hw16) ?_
            refine z_iast F (zAll_31 s (zsu (zFd (zHy d c W) p9 q9) 15 p.toNat 0 (d 15 p.toNat 0)) o) (by omega) (by omega) (by decide) dX7_serves_109 ?_
            have hm_7_s := zu_s (zAll s (zsu (zFd (zHy d c W) p9 q9) 15 p.toNat 0 (d 15 p.toNat 0)) o) 31 (zAi 0 6 (zup (fun j => (zsu (zFd (zHy d c W) p9 q9) 15 p.toNat 0 (d 15 p.toNat 0)) 16 j 0) (p).toNat (d 16 p.toNat 0)))
            refine z_M (M' := (zAll s (zsu (zsu (zFd (zHy d c W) p9 q9) 15 p.toNat 0 (d 15 p.toNat 0)) 16 p.toNat 0 (d 16 p.toNat 0)) o)) zMA_31 ?_
            refine z_iinc F 2 [(1, .int (zI (p + 1))), (5, .int (zI (zSwF d p.toNat))), (0, .ref 16), (2, .int (zI m)), (3, .int (zI (t 14 0 0))), (4, .int (zI w))] dX7_serves_110 rfl (by decide) rfl ?_
            refine z_iinc F 5 [(4, .int (zI (w + 1))), (1, .int (zI (p + 1))), (5, .int (zI (zSwF d p.toNat))), (0, .ref 16), (2, .int (zI m)), (3, .int (zI (t 14 0 0)))] dX7_serves_113 rfl (by decide) rfl ?_
            refine z_goto F 12 dX7_serves_116 (by decide) ?_
            refine z_lv [(0, .ref 16), (1, .int (zI (p + 1))), (2, .int (zI m)), (3, .int (zI (t 14 0 0))), (4, .int (zI (w + 1)))] [3, 1, 4, 5, 0] rfl ?_
            have hsv := zSv2 (d := d) (W := W) (W' := (zsu (zsu (zFd (zHy d c W) p9 q9) 15 p.toNat 0 (d 15 p.toNat 0)) 16 p.toNat 0 (d 16 p.toNat 0))) (n := n2) hp0 hpw hq1 (fun i hi => hq2 i (by omega)) (fun i => (zSv3 (d := d) (T := (zFd (zHy d c W) p9 q9)) i).1) (fun i => (zSv3 (d := d) (T := (zFd (zHy d c W) p9 q9)) i).2)
            have hbW : zB (zsu (zsu (zFd (zHy d c W) p9 q9) 15 p.toNat 0 (d 15 p.toNat 0)) 16 p.toNat 0 (d 16 p.toNat 0)) := zB_u (zB_u (zB_Fd hbT hp9 hq99) (hId.b 15 p.toNat 0)) (hId.b 16 p.toNat 0)
            refine z_M (M' := (zAll s (zHy d c (zsu (zsu (zFd (zHy d c W) p9 q9) 15 p.toNat 0 (d 15 p.toNat 0)) 16 p.toNat 0 (d 16 p.toNat 0))) o)) (zAll_hy ((((zHy_s d c W).fd p9 q9).r (by omega) _ _ _).r (by omega) _ _ _) rfl) ?_
            exact L1_ih d ((zsu (zsu (zFd (zHy d c W) p9 q9) 15 p.toNat 0 (d 15 p.toNat 0)) 16 p.toNat 0 (d 16 p.toNat 0))) n2 (p + 1) (w + 1) m (by omega) (by first | exact hId | exact hIB.2) hbW h44 h33 h25 (by omega) (by omega) (by first | omega | (show p + (n2 : Int) = d 14 0 0 - 1; omega)) (by omega) hsv.1 hsv.2 (by first | (rw [hsw, hn2, zSw, if_pos hke, show (p + 1).toNat = p.toNat + 1 by omega]) | (rw [hsw, hn2, zSw, if_neg hke]))
          · skip
            refine z_iload F 0 dX7_serves_52 rfl ?_
            refine z_aload_n F 1 dX7_serves_54 rfl rfl ?_
            refine z_get F fl_X7_53 (zAll_16 s (zFd (zHy d c W) p9 q9) o) rfl dX7_serves_55 ?_
            refine z_iload F 5 dX7_serves_58 rfl ?_
            refine z_iald F (zAll_31 s (zFd (zHy d c W) p9 q9) o) (by omega) (by omega) (by decide) dX7_serves_60 ?_
            refine z_ti (y := d 16 p.toNat 0) (by show W 16 w.toNat 0 = _; exact hw16) ?_
            refine z_icmp_gt F 84 dX7_serves_61 (by decide) (by omega) (by omega) (fun c_8 => ?_) (fun c_8 => ?_)
            · skip
              have hke : zSwF d p.toNat = -1 ∨ d 16 p.toNat 0 < zSwF d p.toNat := by omega
              refine z_aload_n F 1 dX7_serves_84 rfl rfl ?_
              refine z_get F fl_X7_50 (zAll_16 s (zFd (zHy d c W) p9 q9) o) rfl dX7_serves_85 ?_
              refine z_iload_n F 2 dX7_serves_88 rfl rfl ?_
              refine z_aload_n F 1 dX7_serves_89 rfl rfl ?_
              refine z_get F fl_X7_50 (zAll_16 s (zFd (zHy d c W) p9 q9) o) rfl dX7_serves_90 ?_
              refine z_iload F 5 dX7_serves_93 rfl ?_
              refine z_iald F (zAll_30 s (zFd (zHy d c W) p9 q9) o) (by omega) (by omega) (by decide) dX7_serves_95 ?_
              refine z_ti (y := d 15 p.toNat 0) (by show W 15 w.toNat 0 = _; exact hw15) ?_
              refine z_iast F (zAll_30 s (zFd (zHy d c W) p9 q9) o) (by omega) (by omega) (by decide) dX7_serves_96 ?_
              have hm_9_s := zu_s (zAll s (zFd (zHy d c W) p9 q9) o) 30 (zAi 0 6 (zup (fun j => (zFd (zHy d c W) p9 q9) 15 j 0) (p).toNat (d 15 p.toNat 0)))
              refine z_M (M' := (zAll s (zsu (zFd (zHy d c W) p9 q9) 15 p.toNat 0 (d 15 p.toNat 0)) o)) zMA_30 ?_
              refine z_aload_n F 1 dX7_serves_97 rfl rfl ?_
              refine z_get F fl_X7_53 (zAll_16 s (zsu (zFd (zHy d c W) p9 q9) 15 p.toNat 0 (d 15 p.toNat 0)) o) rfl dX7_serves_98 ?_
              refine z_iload_n F 2 dX7_serves_101 rfl rfl ?_
              refine z_aload_n F 1 dX7_serves_102 rfl rfl ?_
              refine z_get F fl_X7_53 (zAll_16 s (zsu (zFd (zHy d c W) p9 q9) 15 p.toNat 0 (d 15 p.toNat 0)) o) rfl dX7_serves_103 ?_
              refine z_iload F 5 dX7_serves_106 rfl ?_
              refine z_iald F (zAll_31 s (zsu (zFd (zHy d c W) p9 q9) 15 p.toNat 0 (d 15 p.toNat 0)) o) (by omega) (by omega) (by decide) dX7_serves_108 ?_
              refine z_ti (y := d 16 p.toNat 0) (by show W 16 w.toNat 0 = _; exact hw16) ?_
              refine z_iast F (zAll_31 s (zsu (zFd (zHy d c W) p9 q9) 15 p.toNat 0 (d 15 p.toNat 0)) o) (by omega) (by omega) (by decide) dX7_serves_109 ?_
              have hm_10_s := zu_s (zAll s (zsu (zFd (zHy d c W) p9 q9) 15 p.toNat 0 (d 15 p.toNat 0)) o) 31 (zAi 0 6 (zup (fun j => (zsu (zFd (zHy d c W) p9 q9) 15 p.toNat 0 (d 15 p.toNat 0)) 16 j 0) (p).toNat (d 16 p.toNat 0)))
              refine z_M (M' := (zAll s (zsu (zsu (zFd (zHy d c W) p9 q9) 15 p.toNat 0 (d 15 p.toNat 0)) 16 p.toNat 0 (d 16 p.toNat 0)) o)) zMA_31 ?_
              refine z_iinc F 2 [(1, .int (zI (p + 1))), (5, .int (zI (zSwF d p.toNat))), (0, .ref 16), (2, .int (zI m)), (3, .int (zI (t 14 0 0))), (4, .int (zI w))] dX7_serves_110 rfl (by decide) rfl ?_
              refine z_iinc F 5 [(4, .int (zI (w + 1))), (1, .int (zI (p + 1))), (5, .int (zI (zSwF d p.toNat))), (0, .ref 16), (2, .int (zI m)), (3, .int (zI (t 14 0 0)))] dX7_serves_113 rfl (by decide) rfl ?_
              refine z_goto F 12 dX7_serves_116 (by decide) ?_
              refine z_lv [(0, .ref 16), (1, .int (zI (p + 1))), (2, .int (zI m)), (3, .int (zI (t 14 0 0))), (4, .int (zI (w + 1)))] [3, 1, 4, 5, 0] rfl ?_
              have hsv := zSv2 (d := d) (W := W) (W' := (zsu (zsu (zFd (zHy d c W) p9 q9) 15 p.toNat 0 (d 15 p.toNat 0)) 16 p.toNat 0 (d 16 p.toNat 0))) (n := n2) hp0 hpw hq1 (fun i hi => hq2 i (by omega)) (fun i => (zSv3 (d := d) (T := (zFd (zHy d c W) p9 q9)) i).1) (fun i => (zSv3 (d := d) (T := (zFd (zHy d c W) p9 q9)) i).2)
              have hbW : zB (zsu (zsu (zFd (zHy d c W) p9 q9) 15 p.toNat 0 (d 15 p.toNat 0)) 16 p.toNat 0 (d 16 p.toNat 0)) := zB_u (zB_u (zB_Fd hbT hp9 hq99) (hId.b 15 p.toNat 0)) (hId.b 16 p.toNat 0)
              refine z_M (M' := (zAll s (zHy d c (zsu (zsu (zFd (zHy d c W) p9 q9) 15 p.toNat 0 (d 15 p.toNat 0)) 16 p.toNat 0 (d 16 p.toNat 0))) o)) (zAll_hy ((((zHy_s d c W).fd p9 q9).r (by omega) _ _ _).r (by omega) _ _ _) rfl) ?_
              exact L1_ih d ((zsu (zsu (zFd (zHy d c W) p9 q9) 15 p.toNat 0 (d 15 p.toNat 0)) 16 p.toNat 0 (d 16 p.toNat 0))) n2 (p + 1) (w + 1) m (by omega) (by first | exact hId | exact hIB.2) hbW h44 h33 h25 (by omega) (by omega) (by first | omega | (show p + (n2 : Int) = d 14 0 0 - 1; omega)) (by omega) hsv.1 hsv.2 (by first | (rw [hsw, hn2, zSw, if_pos hke, show (p + 1).toNat = p.toNat + 1 by omega]) | (rw [hsw, hn2, zSw, if_neg hke]))
            · skip
              have hke : ¬ (zSwF d p.toNat = -1 ∨ d 16 p.toNat 0 < zSwF d p.toNat) := by omega
              have hsf2 := hsf.resolve_left (fun h => hke (Or.inl h))
              have hIB := hId.swB (p := p.toNat) (by omega) (fun h => hke (Or.inl h))
              obtain ⟨i9, d9, g1, g2, hi9, h49, _⟩ := zRoom_of hsf2.2.2.2.2
              rw [← hsf2.2.1] at hpq9
              have hp10 : p9 = zGet d (zBit 31) (d 15 p.toNat 0).toNat (zSwF d p.toNat) := (hpq9 (fun h => hke (Or.inl h))).1.trans ((zWho_31 hcT).trans ((zHy_s d c W).ge _ _))
              have hq10 : q9 = zChair d (d 15 p.toNat 0).toNat (zSwF d p.toNat) := (hpq9 (fun h => hke (Or.inl h))).2.trans ((zHy_s d c W).ch _ _)
              refine z_aload_n F 1 dX7_serves_64 rfl rfl ?_
              refine z_aload_n F 1 dX7_serves_65 rfl rfl ?_
              refine z_get F fl_X7_50 (zAll_16 s (zFd (zHy d c W) p9 q9) o) rfl dX7_serves_66 ?_
              refine z_iload F 5 dX7_serves_69 rfl ?_
              refine z_iald F (zAll_30 s (zFd (zHy d c W) p9 q9) o) (by omega) (by omega) (by decide) dX7_serves_71 ?_
              refine z_ti (y := ((((d 15 p.toNat 0).toNat) : Nat) : Int)) (by show W 15 w.toNat 0 = _; omega) ?_
              refine z_iload F 0 dX7_serves_72 rfl ?_
              refine z_callV F [.int (zI (((((d 15 p.toNat 0).toNat) : Nat) : Int))), .int (zI (zSwF d p.toNat))] [] (c_X7_books F.2.2.1 G (s := s) (t := (zFd (zHy d c W) p9 q9)) (o := o) hcT (zB_Fd hbT hp9 hq99) (a := (d 15 p.toNat 0).toNat) (x := (zSwF d p.toNat)) (show ((((d 15 p.toNat 0).toNat) : Nat) : Int) < d 4 0 0 by omega) (show d 9 0 0 < 30 by omega) (show 0 ≤ p9 ∧ p9 < d 0 0 0 by omega) (show 0 ≤ q9 ∧ q9 < 4 by omega) (by omega) (show (zSwF d p.toNat) + zLen d (d 15 p.toNat 0).toNat ≤ 600 from hsf2.2.2.2.1)) cv_X7_130 (zAll_16 s (zFd (zHy d c W) p9 q9) o) rfl rfl rfl ⟨by decide, by decide⟩ ⟨by decide, by decide⟩ (Nat.le_of_ble_eq_true rfl) dX7_serves_74 z_nx (z_ki (fun x_11 M_11 h_11 => ?_))
              have hm9 := (h_11).2.symm
              subst hm9
              refine z_pop F dX7_serves_77 rfl ?_
              refine z_iinc F 3 [(2, .int (zI (m + 1))), (5, .int (zI (zSwF d p.toNat))), (0, .ref 16), (1, .int (zI p)), (3, .int (zI (t 14 0 0))), (4, .int (zI w))] dX7_serves_78 rfl (by decide) rfl ?_
              refine z_goto F 113 dX7_serves_81 (by decide) ?_
              refine z_iinc F 5 [(4, .int (zI (w + 1))), (2, .int (zI (m + 1))), (5, .int (zI (zSwF d p.toNat))), (0, .ref 16), (1, .int (zI p)), (3, .int (zI (t 14 0 0)))] dX7_serves_113 rfl (by decide) rfl ?_
              refine z_goto F 12 dX7_serves_116 (by decide) ?_
              refine z_lv [(0, .ref 16), (1, .int (zI p)), (2, .int (zI (m + 1))), (3, .int (zI (t 14 0 0))), (4, .int (zI (w + 1)))] [3, 4, 1, 5, 0] rfl ?_
              have hsv := zSv1 (X := zOpB d (d 15 p.toNat 0).toNat (zGet d (zBit 31) (d 15 p.toNat 0).toNat (zSwF d p.toNat)) (zChair d (d 15 p.toNat 0).toNat (zSwF d p.toNat)) (zSwF d p.toNat)) (W' := (zOpB (zFd (zHy d c W) p9 q9) (d 15 p.toNat 0).toNat ((zFd (zHy d c W) p9 q9) 23 0 0) ((zFd (zHy d c W) p9 q9) 24 0 0) (zSwF d p.toNat))) (n := n2) hp0 (by omega) hq1 (fun i hi => hq2 i (by omega)) (fun _ => rfl) (fun _ => rfl) (fun _ => rfl) (fun _ => rfl)
              have hbW : zB (zOpB (zFd (zHy d c W) p9 q9) (d 15 p.toNat 0).toNat ((zFd (zHy d c W) p9 q9) 23 0 0) ((zFd (zHy d c W) p9 q9) 24 0 0) (zSwF d p.toNat)) := zB_B (zB_Fd hbT hp9 hq99) (show 0 ≤ d 9 0 0 ∧ d 9 0 0 < 30 by omega) (by omega) (show -1 ≤ p9 ∧ p9 ≤ 1000 by omega) (show -1 ≤ q9 ∧ q9 ≤ 1000 by omega) (by omega)
              refine z_M (M' := (zAll s (zHy (zSwB d p.toNat) c (zOpB (zFd (zHy d c W) p9 q9) (d 15 p.toNat 0).toNat ((zFd (zHy d c W) p9 q9) 23 0 0) ((zFd (zHy d c W) p9 q9) 24 0 0) (zSwF d p.toNat))) o)) (zAll_hy ((zSm.R _ _).tr (by rw [← hp10, ← hq10]; exact ((((zHy_s d c W).fd p9 q9).B (d 15 p.toNat 0).toNat p9 q9 (zSwF d p.toNat))))) rfl) ?_
              exact L1_ih ((zSwB d p.toNat)) ((zOpB (zFd (zHy d c W) p9 q9) (d 15 p.toNat 0).toNat ((zFd (zHy d c W) p9 q9) 23 0 0) ((zFd (zHy d c W) p9 q9) 24 0 0) (zSwF d p.toNat))) n2 p (w + 1) (m + 1) (by omega) (by first | exact hId | exact hIB.2) hbW h44 h33 h25 (by omega) (by omega) (by first | omega | (show p + (n2 : Int) = d 14 0 0 - 1; omega)) (by omega) hsv.1 hsv.2 (by first | (rw [hsw, hn2, zSw, if_pos hke, show (p + 1).toNat = p.toNat + 1 by omega]) | (rw [hsw, hn2, zSw, if_neg hke]))
        · skip
          have hroom : ¬ d 9 0 0 < 30 := by omega
          refine z_iconst (z := -1) F dX7_serves_27 (by decide) ?_
          refine z_goto F 44 dX7_serves_28 (by decide) ?_
          refine z_ti (y := zSwF d p.toNat) (if_neg hroom).symm ?_
          refine z_istore F [(5, .int (zI (zSwF d p.toNat))), (0, .ref 16), (1, .int (zI p)), (2, .int (zI m)), (3, .int (zI (t 14 0 0))), (4, .int (zI w))] dX7_serves_44 (by decide) rfl ?_
          refine z_iload F 0 dX7_serves_46 rfl ?_
          refine z_iconst (z := -1) F dX7_serves_48 (by decide) ?_
          have hfb : -1 ≤ zSwF d p.toNat ∧ zSwF d p.toNat ≤ 600 := by rcases hsf with h9 | h9 <;> omega
          refine z_icmp_eq F 84 dX7_serves_49 (by decide) (by omega) ⟨by decide, by decide⟩ (fun c_12 => ?_) (fun c_12 => ?_)
          · skip
            have hke : zSwF d p.toNat = -1 ∨ d 16 p.toNat 0 < zSwF d p.toNat := Or.inl c_12
            refine z_aload_n F 1 dX7_serves_84 rfl rfl ?_
            refine z_get F fl_X7_50 (zAll_16 s (zHy d c W) o) rfl dX7_serves_85 ?_
            refine z_iload_n F 2 dX7_serves_88 rfl rfl ?_
            refine z_aload_n F 1 dX7_serves_89 rfl rfl ?_
            refine z_get F fl_X7_50 (zAll_16 s (zHy d c W) o) rfl dX7_serves_90 ?_
            refine z_iload F 5 dX7_serves_93 rfl ?_
            refine z_iald F (zAll_30 s (zHy d c W) o) (by omega) (by omega) (by decide) dX7_serves_95 ?_
            refine z_ti (y := d 15 p.toNat 0) (by show W 15 w.toNat 0 = _; exact hw15) ?_
            refine z_iast F (zAll_30 s (zHy d c W) o) (by omega) (by omega) (by decide) dX7_serves_96 ?_
            have hm_13_s := zu_s (zAll s (zHy d c W) o) 30 (zAi 0 6 (zup (fun j => (zHy d c W) 15 j 0) (p).toNat (d 15 p.toNat 0)))
            refine z_M (M' := (zAll s (zsu (zHy d c W) 15 p.toNat 0 (d 15 p.toNat 0)) o)) zMA_30 ?_
            refine z_aload_n F 1 dX7_serves_97 rfl rfl ?_
            refine z_get F fl_X7_53 (zAll_16 s (zsu (zHy d c W) 15 p.toNat 0 (d 15 p.toNat 0)) o) rfl dX7_serves_98 ?_
            refine z_iload_n F 2 dX7_serves_101 rfl rfl ?_
            refine z_aload_n F 1 dX7_serves_102 rfl rfl ?_
            refine z_get F fl_X7_53 (zAll_16 s (zsu (zHy d c W) 15 p.toNat 0 (d 15 p.toNat 0)) o) rfl dX7_serves_103 ?_
            refine z_iload F 5 dX7_serves_106 rfl ?_
            refine z_iald F (zAll_31 s (zsu (zHy d c W) 15 p.toNat 0 (d 15 p.toNat 0)) o) (by omega) (by omega) (by decide) dX7_serves_108 ?_
            refine z_ti (y := d 16 p.toNat 0) (by show W 16 w.toNat 0 = _; exact hw16) ?_
            refine z_iast F (zAll_31 s (zsu (zHy d c W) 15 p.toNat 0 (d 15 p.toNat 0)) o) (by omega) (by omega) (by decide) dX7_serves_109 ?_
            have hm_14_s := zu_s (zAll s (zsu (zHy d c W) 15 p.toNat 0 (d 15 p.toNat 0)) o) 31 (zAi 0 6 (zup (fun j => (zsu (zHy d c W) 15 p.toNat 0 (d 15 p.toNat 0)) 16 j 0) (p).toNat (d 16 p.toNat 0)))
            refine z_M (M' := (zAll s (zsu (zsu (zHy d c W) 15 p.toNat 0 (d 15 p.toNat 0)) 16 p.toNat 0 (d 16 p.toNat 0)) o)) zMA_31 ?_
            refine z_iinc F 2 [(1, .int (zI (p + 1))), (5, .int (zI (zSwF d p.toNat))), (0, .ref 16), (2, .int (zI m)), (3, .int (zI (t 14 0 0))), (4, .int (zI w))] dX7_serves_110 rfl (by decide) rfl ?_
            refine z_iinc F 5 [(4, .int (zI (w + 1))), (1, .int (zI (p + 1))), (5, .int (zI (zSwF d p.toNat))), (0, .ref 16), (2, .int (zI m)), (3, .int (zI (t 14 0 0)))] dX7_serves_113 rfl (by decide) rfl ?_
            refine z_goto F 12 dX7_serves_116 (by decide) ?_
            refine z_lv [(0, .ref 16), (1, .int (zI (p + 1))), (2, .int (zI m)), (3, .int (zI (t 14 0 0))), (4, .int (zI (w + 1)))] [3, 1, 4, 5, 0] rfl ?_
            have hsv := zSv2 (d := d) (W := W) (W' := (zsu (zsu (zHy d c W) 15 p.toNat 0 (d 15 p.toNat 0)) 16 p.toNat 0 (d 16 p.toNat 0))) (n := n2) hp0 hpw hq1 (fun i hi => hq2 i (by omega)) (fun i => (zSv3 (d := d) (T := (zHy d c W)) i).1) (fun i => (zSv3 (d := d) (T := (zHy d c W)) i).2)
            have hbW : zB (zsu (zsu (zHy d c W) 15 p.toNat 0 (d 15 p.toNat 0)) 16 p.toNat 0 (d 16 p.toNat 0)) := zB_u (zB_u hbT (hId.b 15 p.toNat 0)) (hId.b 16 p.toNat 0)
            refine z_M (M' := (zAll s (zHy d c (zsu (zsu (zHy d c W) 15 p.toNat 0 (d 15 p.toNat 0)) 16 p.toNat 0 (d 16 p.toNat 0))) o)) (zAll_hy ((((zHy_s d c W)).r (by omega) _ _ _).r (by omega) _ _ _) rfl) ?_
            exact L1_ih d ((zsu (zsu (zHy d c W) 15 p.toNat 0 (d 15 p.toNat 0)) 16 p.toNat 0 (d 16 p.toNat 0))) n2 (p + 1) (w + 1) m (by omega) (by first | exact hId | exact hIB.2) hbW h44 h33 h25 (by omega) (by omega) (by first | omega | (show p + (n2 : Int) = d 14 0 0 - 1; omega)) (by omega) hsv.1 hsv.2 (by first | (rw [hsw, hn2, zSw, if_pos hke, show (p + 1).toNat = p.toNat + 1 by omega]) | (rw [hsw, hn2, zSw, if_neg hke]))
          · skip
            exact absurd (if_neg hroom) c_12
  refine z_lv [(0, .ref 16), (1, .int (zI 0)), (2, .int (zI 0)), (3, .int (zI (t 14 0 0))), (4, .int (zI 0))] [4, 3, 2, 1, 0] rfl ?_
  refine z_M (M' := (zAll s (zHy c c t) o)) (zAll_hy hr.1 hr.2.1) ?_
  exact L1 _ c t ((c 14 0 0).toNat) 0 0 0 (Nat.lt_succ_self _) hI hb9 rfl (fun j => (hr.1 3 j 0 (by omega)) ▸ h3 j) rfl (by omega) (by omega) (by omega) (by omega) (fun i hi => by omega) (fun i hi => by rw [show (0 : Int).toNat + i = i by omega]; exact hr.2.2 i (by omega)) rfl

abbrev rX7_drop : Room := { frames := 5, cells := 0, slots := 0, locals := 127 }
set_option maxRecDepth 100000 in
set_option maxHeartbeats 4000000 in
theorem c_X7_drop {l : Launch} (hfl : l.stackTraces = false) (G : zG) {s t c : zS} {o : zOx} (hc : zC1 t) (hb9 : zB t) (hI : zInv c) (hr : zRel c t) (h3 : ∀ j, t 3 j 0 ≤ 600) {a : Int} (ha : zR a)  : zCn l G yX7_drop (.code yX7_drop cX7_drop 2 (some .int)) rX7_drop [.ref 16, .int (zI a)] (zAll s t o) (zRi (zY s o (xDrop c a))) zN := by
  refine zStart hfl (by decide) (own := RX7) rfl [(0, .ref 16), (1, .int (zI a))] (Nat.le_of_ble_eq_true rfl) rfl (fun k hkl hinit hk0 F => ?_)
  have hn0 := hc.1
  have hn4 := hc.2.1
  have hn9 := hc.2.2.1
  have hn14 := hc.2.2.2.1
  have hn18 := hc.2.2.2.2.1
  have e0 := hr.1 0 0 0 (by omega)
  have e4 := hr.1 4 0 0 (by omega)
  have e9 := hr.1 9 0 0 (by omega)
  have e14 := hr.2.1
  have e13 := hr.1 13 a.toNat 0 (by omega)
  have e10 := hr.1 10 a.toNat 0 (by omega)
  have e11 := hr.1 11 a.toNat 0 (by omega)
  have e12 := hr.1 12 a.toNat 0 (by omega)
  have hIO : ∀ h : (0 ≤ a ∧ a < c 9 0 0) ∧ ¬ c 13 a.toNat 0 = -1, zInv (zOpO c a.toNat) := fun h => hI.out (by omega) h.2
  have h3c : ∀ j, c 3 j 0 ≤ 600 := fun j => (hr.1 3 j 0 (by omega)) ▸ h3 j
  refine z_aload_n F 0 dX7_drop_0 rfl rfl ?_
  refine z_aload_n F 0 dX7_drop_1 rfl rfl ?_
  refine z_iload_n F 1 dX7_drop_2 rfl rfl ?_
  refine z_callV F [.int (zI a)] [.ref 16] (c_X7_isThere F.2.2.1 G (s := s) (t := t) (o := o) hc hb9 ha) cv_X7_139 (zAll_16 s t o) rfl rfl rfl ⟨by decide, by decide⟩ ⟨by decide, by decide⟩ (Nat.le_of_ble_eq_true rfl) dX7_drop_3 z_nx (z_ki (fun x_1 M_1 h_1 => ?_))
  have hx9 := (h_1).1.symm
  have hm9 := (h_1).2.symm
  subst hx9
  subst hm9
  have hz : zR (if (0 ≤ a ∧ a < t 9 0 0) ∧ ¬ t 13 a.toNat 0 = -1 then 1 else 0) := zR_if
  refine z_if_eq F 13 dX7_drop_6 (by decide) (by omega) (fun c_2 => ?_) (fun c_2 => ?_)
  · skip
    have hq9 : ¬ ((0 ≤ a ∧ a < t 9 0 0) ∧ ¬ t 13 a.toNat 0 = -1) := fun h => by rw [if_pos h] at c_2; omega
    refine z_iconst (z := 1) F dX7_drop_13 (by decide) ?_
    refine z_callV F [.int (zI 1)] [] (c_X7_isFine F.2.2.1 G (s := s) (t := t) (o := o) (p := 1) ⟨by decide, by decide⟩) cv_X7_77 (zAll_16 s t o) rfl rfl rfl ⟨by decide, by decide⟩ ⟨by decide, by decide⟩ (Nat.le_of_ble_eq_true rfl) dX7_drop_14 z_nx (z_ki (fun x_3 M_3 h_3 => ?_))
    have hx9 := (h_3).1.symm
    have hm9 := (h_3).2.symm
    subst hx9
    subst hm9
    refine z_ti (y := 0) (if_neg (by decide)) ?_
    refine z_if_ne F 22 dX7_drop_17 (by decide) ⟨by decide, by decide⟩ (fun c_4 => ?_) (fun c_4 => ?_)
    · skip
      omega
    · skip
      refine z_iconst (z := 0) F dX7_drop_20 (by decide) ?_
      exact z_reti F rfl (by first | decide | assumption | omega) (by first | decide | assumption | omega) dX7_drop_21 ⟨_, rfl, zY_of (k := 1) (v := 0) (by unfold xDrop; rw [if_neg (by omega)]) (zB_u hb9 (by omega)) (hr.x (by omega) 0 0 1) rfl (fun h => absurd h (by decide))⟩
  · skip
    have hq9 : (0 ≤ a ∧ a < t 9 0 0) ∧ ¬ t 13 a.toNat 0 = -1 := Classical.byContradiction fun h => by rw [if_neg h] at c_2; omega
    refine z_iconst (z := 0) F dX7_drop_9 (by decide) ?_
    refine z_goto F 14 dX7_drop_10 (by decide) ?_
    refine z_callV F [.int (zI 0)] [] (c_X7_isFine F.2.2.1 G (s := s) (t := t) (o := o) (p := 0) ⟨by decide, by decide⟩) cv_X7_77 (zAll_16 s t o) rfl rfl rfl ⟨by decide, by decide⟩ ⟨by decide, by decide⟩ (Nat.le_of_ble_eq_true rfl) dX7_drop_14 z_nx (z_ki (fun x_5 M_5 h_5 => ?_))
    have hx9 := (h_5).1.symm
    have hm9 := (h_5).2.symm
    subst hx9
    subst hm9
    refine z_ti (y := 1) (if_pos rfl) ?_
    refine z_if_ne F 22 dX7_drop_17 (by decide) ⟨by decide, by decide⟩ (fun c_6 => ?_) (fun c_6 => ?_)
    · skip
      have hcu : (0 ≤ a ∧ a < c 9 0 0) ∧ ¬ c 13 a.toNat 0 = -1 := by omega
      have hio := hIO hcu
      have hvv := hI.v (v := a.toNat) (by omega) hcu.2
      have hvs := hI.c.2.2.2.2.2.2.2.2.2.2.1 a.toNat (by omega)
      have hc4 := hI.c.2.1
      have hlnc := hI.c.len (c 10 a.toNat 0).toNat
      have hb0 : zB (zsu t 25 0 0 0) := zB_u hb9 (by omega)
      have hrO : zRel (zOpO c a.toNat) (zOpO (zsu t 25 0 0 0) a.toNat) := (hr.x (by omega) 0 0 0).O a.toNat
      have hbO : zB (zOpO (zsu t 25 0 0 0) a.toNat) := zB_u (zB_M hb0 a.toNat (by omega)) (by omega)
      have hc2 : zC1 (zMix (zOpO c a.toNat) (zOpO (zsu t 25 0 0 0) a.toNat)) := zMix_c hio.c
      have hb2 : zB (zMix (zOpO c a.toNat) (zOpO (zsu t 25 0 0 0) a.toNat)) := zMix_b hio.b hbO
      refine z_aload_n F 0 dX7_drop_22 rfl rfl ?_
      refine z_iload_n F 1 dX7_drop_23 rfl rfl ?_
      refine z_ti (y := ((a.toNat : Nat) : Int)) (by omega) ?_
      refine z_iconst (z := -1) F dX7_drop_24 (by decide) ?_
      refine z_callV F [.int (zI (((a.toNat : Nat) : Int))), .int (zI (-1))] [] (c_X7_marks F.2.2.1 G (s := s) (t := (zsu t 25 0 0 0)) (o := o) hc hb0 (v := a.toNat) (b := (-1)) (by omega) (show 0 ≤ t 10 a.toNat 0 ∧ t 10 a.toNat 0 < 8 by omega) (by show 0 ≤ t 13 a.toNat 0 ∧ t 13 a.toNat 0 + zLen t (t 10 a.toNat 0).toNat ≤ 600 ∧ (0 ≤ t 11 a.toNat 0 ∧ t 11 a.toNat 0 < 5) ∧ (0 ≤ t 12 a.toNat 0 ∧ t 12 a.toNat 0 < 4); rw [hr.1.le, e13, e10, e11, e12]; exact ⟨hvv.1, hvv.2.1, by omega, hvv.2.2.2⟩) ⟨by decide, by decide⟩) cv_X7_117 (zAll_16 s (zsu t 25 0 0 0) o) rfl rfl rfl ⟨by decide, by decide⟩ ⟨by decide, by decide⟩ (Nat.le_of_ble_eq_true rfl) dX7_drop_25 z_nx (z_kv (fun M_7 h_7 => ?_))
      have hm9 := (h_7).symm
      subst hm9
      refine z_aload_n F 0 dX7_drop_28 rfl rfl ?_
      refine z_get F fl_X7_41 (zAll_16 s (zOpM (zsu t 25 0 0 0) a.toNat (-1)) o) rfl dX7_drop_29 ?_
      refine z_iload_n F 1 dX7_drop_32 rfl rfl ?_
      refine z_iconst (z := -1) F dX7_drop_33 (by decide) ?_
      refine z_iast F (zAll_27 s (zOpM (zsu t 25 0 0 0) a.toNat (-1)) o) (by omega) (by omega) (by decide) dX7_drop_34 ?_
      have hm_8_s := zu_s (zAll s (zOpM (zsu t 25 0 0 0) a.toNat (-1)) o) 27 (zAi 0 30 (zup (fun j => (zOpM (zsu t 25 0 0 0) a.toNat (-1)) 13 j 0) (a).toNat (-1)))
      refine z_M (M' := (zAll s (zMix (zOpO c a.toNat) (zOpO (zsu t 25 0 0 0) a.toNat)) o)) (zMA_27.trans (zAll_mix hrO)) ?_
      refine z_aload_n F 0 dX7_drop_35 rfl rfl ?_
      refine z_callV F [] [] (c_X7_serves F.2.2.1 G (s := s) (t := (zMix (zOpO c a.toNat) (zOpO (zsu t 25 0 0 0) a.toNat))) (c := (zOpO c a.toNat)) (o := o) hc2 hb2 hio (zMix_r (zOpO c a.toNat) (zOpO (zsu t 25 0 0 0) a.toNat)) h3c) cv_X7_142 (zAll_16 s (zMix (zOpO c a.toNat) (zOpO (zsu t 25 0 0 0) a.toNat)) o) rfl rfl rfl ⟨by decide, by decide⟩ ⟨by decide, by decide⟩ (Nat.le_of_ble_eq_true rfl) dX7_drop_36 z_nx (z_ki (fun x_9 M_9 h_9 => ?_))
      obtain ⟨hx9, T9, hm9, hbT9, hrT9, h25T9⟩ := h_9
      subst hx9
      subst hm9
      exact z_reti F rfl (by first | decide | assumption | omega) (by first | decide | assumption | omega) dX7_drop_39 ⟨_, rfl, zY_of (k := 0) (v := (zSrv (zOpO c a.toNat)).2) (by unfold xDrop; rw [if_pos hcu]) hbT9 hrT9 h25T9 (fun _ => rfl)⟩
    · skip
      omega

abbrev rX7_move : Room := { frames := 5, cells := 0, slots := 0, locals := 127 }
set_option maxRecDepth 100000 in
set_option maxHeartbeats 4000000 in
theorem c_X7_move {l : Launch} (hfl : l.stackTraces = false) (G : zG) {s t c : zS} {o : zOx} (hc : zC1 t) (hb9 : zB t) (hI : zInv c) (hr : zRel c t) (h3 : ∀ j, t 3 j 0 ≤ 600) {a x : Int} (ha : zR a) (hx : zR x)  : zCn l G yX7_move (.code yX7_move cX7_move 5 (some .int)) rX7_move [.ref 16, .int (zI a), .int (zI x)] (zAll s t o) (zRi (zY s o (xMove c a x))) zN := by
  refine zStart hfl (by decide) (own := RX7) rfl [(0, .ref 16), (1, .int (zI a)), (2, .int (zI x))] (Nat.le_of_ble_eq_true rfl) rfl (fun k hkl hinit hk0 F => ?_)
  have hn0 := hc.1
  have hn4 := hc.2.1
  have hn9 := hc.2.2.1
  have hn14 := hc.2.2.2.1
  have hn18 := hc.2.2.2.2.1
  have e0 := hr.1 0 0 0 (by omega)
  have e4 := hr.1 4 0 0 (by omega)
  have e9 := hr.1 9 0 0 (by omega)
  have e14 := hr.2.1
  have e13 := hr.1 13 a.toNat 0 (by omega)
  have e10 := hr.1 10 a.toNat 0 (by omega)
  have e11 := hr.1 11 a.toNat 0 (by omega)
  have e12 := hr.1 12 a.toNat 0 (by omega)
  have hIO : ∀ h : (0 ≤ a ∧ a < c 9 0 0) ∧ ¬ c 13 a.toNat 0 = -1, zInv (zOpO c a.toNat) := fun h => hI.out (by omega) h.2
  have h3c : ∀ j, c 3 j 0 ≤ 600 := fun j => (hr.1 3 j 0 (by omega)) ▸ h3 j
  refine z_aload_n F 0 dX7_move_0 rfl rfl ?_
  refine z_aload_n F 0 dX7_move_1 rfl rfl ?_
  refine z_iload_n F 1 dX7_move_2 rfl rfl ?_
  refine z_callV F [.int (zI a)] [.ref 16] (c_X7_isThere F.2.2.1 G (s := s) (t := t) (o := o) hc hb9 ha) cv_X7_139 (zAll_16 s t o) rfl rfl rfl ⟨by decide, by decide⟩ ⟨by decide, by decide⟩ (Nat.le_of_ble_eq_true rfl) dX7_move_3 z_nx (z_ki (fun x_1 M_1 h_1 => ?_))
  have hx9 := (h_1).1.symm
  have hm9 := (h_1).2.symm
  subst hx9
  subst hm9
  have hz : zR (if (0 ≤ a ∧ a < t 9 0 0) ∧ ¬ t 13 a.toNat 0 = -1 then 1 else 0) := zR_if
  refine z_if_eq F 20 dX7_move_6 (by decide) (by omega) (fun c_2 => ?_) (fun c_2 => ?_)
  · skip
    have hq9 : ¬ ((0 ≤ a ∧ a < t 9 0 0) ∧ ¬ t 13 a.toNat 0 = -1) := fun h => by rw [if_pos h] at c_2; omega
    refine z_iconst (z := 1) F dX7_move_20 (by decide) ?_
    refine z_callV F [.int (zI 1)] [] (c_X7_isFine F.2.2.1 G (s := s) (t := t) (o := o) (p := 1) ⟨by decide, by decide⟩) cv_X7_77 (zAll_16 s t o) rfl rfl rfl ⟨by decide, by decide⟩ ⟨by decide, by decide⟩ (Nat.le_of_ble_eq_true rfl) dX7_move_21 z_nx (z_ki (fun x_3 M_3 h_3 => ?_))
    have hx9 := (h_3).1.symm
    have hm9 := (h_3).2.symm
    subst hx9
    subst hm9
    refine z_ti (y := 0) (if_neg (by decide)) ?_
    refine z_if_ne F 29 dX7_move_24 (by decide) ⟨by decide, by decide⟩ (fun c_4 => ?_) (fun c_4 => ?_)
    · skip
      omega
    · skip
      refine z_iconst (z := 0) F dX7_move_27 (by decide) ?_
      exact z_reti F rfl (by first | decide | assumption | omega) (by first | decide | assumption | omega) dX7_move_28 ⟨_, rfl, zY_of (k := 1) (v := 0) (by unfold xMove; rw [if_neg (by omega)]) (zB_u hb9 (by omega)) (hr.x (by omega) 0 0 1) rfl (fun h => absurd h (by decide))⟩
  · skip
    have hq9 : (0 ≤ a ∧ a < t 9 0 0) ∧ ¬ t 13 a.toNat 0 = -1 := Classical.byContradiction fun h => by rw [if_neg h] at c_2; omega
    refine z_iload_n F 2 dX7_move_9 rfl rfl ?_
    refine z_callS F [.int (zI x)] [.ref 16] (c_X7_isMinute F.2.2.1 G hx (zAll s t o)) cs_X7_124 rfl ⟨by decide, by decide⟩ ⟨by decide, by decide⟩ (Nat.le_of_ble_eq_true rfl) dX7_move_10 z_nx (z_ki (fun x_5 M_5 h_5 => ?_))
    have hx9 := (h_5).1.symm
    have hm9 := (h_5).2.symm
    subst hx9
    subst hm9
    have hz : zR (if 0 ≤ x ∧ x < 600 then 1 else 0) := zR_if
    refine z_if_eq F 20 dX7_move_13 (by decide) (by omega) (fun c_6 => ?_) (fun c_6 => ?_)
    · skip
      have hq8 : ¬ (0 ≤ x ∧ x < 600) := fun h => by rw [if_pos h] at c_6; omega
      refine z_iconst (z := 1) F dX7_move_20 (by decide) ?_
      refine z_callV F [.int (zI 1)] [] (c_X7_isFine F.2.2.1 G (s := s) (t := t) (o := o) (p := 1) ⟨by decide, by decide⟩) cv_X7_77 (zAll_16 s t o) rfl rfl rfl ⟨by decide, by decide⟩ ⟨by decide, by decide⟩ (Nat.le_of_ble_eq_true rfl) dX7_move_21 z_nx (z_ki (fun x_7 M_7 h_7 => ?_))
      have hx9 := (h_7).1.symm
      have hm9 := (h_7).2.symm
      subst hx9
      subst hm9
      refine z_ti (y := 0) (if_neg (by decide)) ?_
      refine z_if_ne F 29 dX7_move_24 (by decide) ⟨by decide, by decide⟩ (fun c_8 => ?_) (fun c_8 => ?_)
      · skip
        omega
      · skip
        refine z_iconst (z := 0) F dX7_move_27 (by decide) ?_
        exact z_reti F rfl (by first | decide | assumption | omega) (by first | decide | assumption | omega) dX7_move_28 ⟨_, rfl, zY_of (k := 1) (v := 0) (by unfold xMove; rw [if_neg (by omega)]) (zB_u hb9 (by omega)) (hr.x (by omega) 0 0 1) rfl (fun h => absurd h (by decide))⟩
    · skip
      have hq8 : 0 ≤ x ∧ x < 600 := Classical.byContradiction fun h => by rw [if_neg h] at c_6; omega
      refine z_iconst (z := 0) F dX7_move_16 (by decide) ?_
      refine z_goto F 21 dX7_move_17 (by decide) ?_
      refine z_callV F [.int (zI 0)] [] (c_X7_isFine F.2.2.1 G (s := s) (t := t) (o := o) (p := 0) ⟨by decide, by decide⟩) cv_X7_77 (zAll_16 s t o) rfl rfl rfl ⟨by decide, by decide⟩ ⟨by decide, by decide⟩ (Nat.le_of_ble_eq_true rfl) dX7_move_21 z_nx (z_ki (fun x_9 M_9 h_9 => ?_))
      have hx9 := (h_9).1.symm
      have hm9 := (h_9).2.symm
      subst hx9
      subst hm9
      refine z_ti (y := 1) (if_pos rfl) ?_
      refine z_if_ne F 29 dX7_move_24 (by decide) ⟨by decide, by decide⟩ (fun c_10 => ?_) (fun c_10 => ?_)
      · skip
        have hcu : (0 ≤ a ∧ a < c 9 0 0) ∧ ¬ c 13 a.toNat 0 = -1 := by omega
        have hio := hIO hcu
        have hvv := hI.v (v := a.toNat) (by omega) hcu.2
        have hvs := hI.c.2.2.2.2.2.2.2.2.2.2.1 a.toNat (by omega)
        have hc4 := hI.c.2.1
        have hlnc := hI.c.len (c 10 a.toNat 0).toNat
        have hb0 : zB (zsu t 25 0 0 0) := zB_u hb9 (by omega)
        have hrO : zRel (zOpO c a.toNat) (zOpO (zsu t 25 0 0 0) a.toNat) := (hr.x (by omega) 0 0 0).O a.toNat
        have hbO : zB (zOpO (zsu t 25 0 0 0) a.toNat) := zB_u (zB_M hb0 a.toNat (by omega)) (by omega)
        have hc2 : zC1 (zMix (zOpO c a.toNat) (zOpO (zsu t 25 0 0 0) a.toNat)) := zMix_c hio.c
        have hb2 : zB (zMix (zOpO c a.toNat) (zOpO (zsu t 25 0 0 0) a.toNat)) := zMix_b hio.b hbO
        refine z_aload_n F 0 dX7_move_29 rfl rfl ?_
        refine z_get F fl_X7_41 (zAll_16 s (zsu t 25 0 0 0) o) rfl dX7_move_30 ?_
        refine z_iload_n F 1 dX7_move_33 rfl rfl ?_
        refine z_iald F (zAll_27 s (zsu t 25 0 0 0) o) (by omega) (by omega) (by decide) dX7_move_34 ?_
        refine z_ti (y := c 13 a.toNat 0) (show t 13 a.toNat 0 = _ from e13) ?_
        refine z_istore_n F [(3, .int (zI (c 13 a.toNat 0))), (0, .ref 16), (1, .int (zI a)), (2, .int (zI x))] dX7_move_35 rfl (by decide) rfl ?_
        refine z_aload_n F 1 dX7_move_36 rfl rfl ?_
        refine z_iload_n F 2 dX7_move_37 rfl rfl ?_
        refine z_ti (y := ((a.toNat : Nat) : Int)) (by omega) ?_
        refine z_iconst (z := -1) F dX7_move_38 (by decide) ?_
        refine z_callV F [.int (zI (((a.toNat : Nat) : Int))), .int (zI (-1))] [] (c_X7_marks F.2.2.1 G (s := s) (t := (zsu t 25 0 0 0)) (o := o) hc hb0 (v := a.toNat) (b := (-1)) (by omega) (show 0 ≤ t 10 a.toNat 0 ∧ t 10 a.toNat 0 < 8 by omega) (by show 0 ≤ t 13 a.toNat 0 ∧ t 13 a.toNat 0 + zLen t (t 10 a.toNat 0).toNat ≤ 600 ∧ (0 ≤ t 11 a.toNat 0 ∧ t 11 a.toNat 0 < 5) ∧ (0 ≤ t 12 a.toNat 0 ∧ t 12 a.toNat 0 < 4); rw [hr.1.le, e13, e10, e11, e12]; exact ⟨hvv.1, hvv.2.1, by omega, hvv.2.2.2⟩) ⟨by decide, by decide⟩) cv_X7_117 (zAll_16 s (zsu t 25 0 0 0) o) rfl rfl rfl ⟨by decide, by decide⟩ ⟨by decide, by decide⟩ (Nat.le_of_ble_eq_true rfl) dX7_move_39 z_nx (z_kv (fun M_11 h_11 => ?_))
        have hm9 := (h_11).symm
        subst hm9
        refine z_aload_n F 1 dX7_move_42 rfl rfl ?_
        refine z_get F fl_X7_41 (zAll_16 s (zOpM (zsu t 25 0 0 0) a.toNat (-1)) o) rfl dX7_move_43 ?_
        refine z_iload_n F 2 dX7_move_46 rfl rfl ?_
        refine z_iconst (z := -1) F dX7_move_47 (by decide) ?_
        refine z_iast F (zAll_27 s (zOpM (zsu t 25 0 0 0) a.toNat (-1)) o) (by omega) (by omega) (by decide) dX7_move_48 ?_
        have hm_12_s := zu_s (zAll s (zOpM (zsu t 25 0 0 0) a.toNat (-1)) o) 27 (zAi 0 30 (zup (fun j => (zOpM (zsu t 25 0 0 0) a.toNat (-1)) 13 j 0) (a).toNat (-1)))
        refine z_M (M' := (zAll s (zMix (zOpO c a.toNat) (zOpO (zsu t 25 0 0 0) a.toNat)) o)) (zMA_27.trans (zAll_mix hrO)) ?_
        refine z_aload_n F 1 dX7_move_49 rfl rfl ?_
        refine z_aload_n F 1 dX7_move_50 rfl rfl ?_
        refine z_get F fl_X7_32 (zAll_16 s (zMix (zOpO c a.toNat) (zOpO (zsu t 25 0 0 0) a.toNat)) o) rfl dX7_move_51 ?_
        refine z_iload_n F 2 dX7_move_54 rfl rfl ?_
        refine z_iald F (zAll_24 s (zMix (zOpO c a.toNat) (zOpO (zsu t 25 0 0 0) a.toNat)) o) (by omega) (by omega) (by decide) dX7_move_55 ?_
        refine z_ti (y := ((((c 10 a.toNat 0).toNat) : Nat) : Int)) (by show c 10 a.toNat 0 = _; omega) ?_
        refine z_iload_n F 3 dX7_move_56 rfl rfl ?_
        refine z_iconst (z := -1) F dX7_move_57 (by decide) ?_
        refine z_callV F [.int (zI (((((c 10 a.toNat 0).toNat) : Nat) : Int))), .int (zI x), .int (zI (-1))] [] (c_X7_find F.2.2.1 G (s := s) (t := (zMix (zOpO c a.toNat) (zOpO (zsu t 25 0 0 0) a.toNat))) (o := o) hc2 hb2 (a := (c 10 a.toNat 0).toNat) (x := x) (e := -1) (by omega) (by omega) (by decide) h3c) cv_X7_127 (zAll_16 s (zMix (zOpO c a.toNat) (zOpO (zsu t 25 0 0 0) a.toNat)) o) rfl rfl rfl ⟨by decide, by decide⟩ ⟨by decide, by decide⟩ (Nat.le_of_ble_eq_true rfl) dX7_move_58 z_nx (z_ki (fun x_13 M_13 h_13 => ?_))
        obtain ⟨hx9, p9, q9, hm9, hp9, hq99, hpq9⟩ := h_13
        subst hx9
        subst hm9
        rw [show (zFind (zMix (zOpO c a.toNat) (zOpO (zsu t 25 0 0 0) a.toNat)) (zWho (-1)) (c 10 a.toNat 0).toNat x 600) = (zFind (zOpO c a.toNat) (zBit 31) (c 10 a.toNat 0).toNat x 600) from ((zFind_31 hc2 _ _ _).trans ((zMix_s _ _).fi _ _ _))] at hpq9
        have hfr9 := zFind_r (zOpO c a.toNat) (zBit 31) (c 10 a.toNat 0).toNat x 600
        have hln := hio.c.len (c 10 a.toNat 0).toNat
        refine z_ti (y := (zFind (zOpO c a.toNat) (zBit 31) (c 10 a.toNat 0).toNat x 600)) ((zFind_31 hc2 _ _ _).trans ((zMix_s _ _).fi _ _ _)) ?_
        refine z_istore F [(4, .int (zI ((zFind (zOpO c a.toNat) (zBit 31) (c 10 a.toNat 0).toNat x 600)))), (3, .int (zI (c 13 a.toNat 0))), (0, .ref 16), (1, .int (zI a)), (2, .int (zI x))] dX7_move_61 (by decide) rfl ?_
        refine z_aload_n F 2 dX7_move_63 rfl rfl ?_
        refine z_iload F 0 dX7_move_64 rfl ?_
        refine z_iconst (z := -1) F dX7_move_66 (by decide) ?_
        refine z_icmp_ne F 74 dX7_move_67 (by decide) (by omega) ⟨by decide, by decide⟩ (fun c_14 => ?_) (fun c_14 => ?_)
        · skip
          have hne : ¬ (zFind (zOpO c a.toNat) (zBit 31) (c 10 a.toNat 0).toNat x 600) = -1 := c_14
          refine z_iconst (z := 0) F dX7_move_74 (by decide) ?_
          refine z_callV F [.int (zI 0)] [] (c_X7_isFine F.2.2.1 G (s := s) (t := (zFd (zMix (zOpO c a.toNat) (zOpO (zsu t 25 0 0 0) a.toNat)) p9 q9)) (o := o) (p := 0) ⟨by decide, by decide⟩) cv_X7_77 (zAll_16 s (zFd (zMix (zOpO c a.toNat) (zOpO (zsu t 25 0 0 0) a.toNat)) p9 q9) o) rfl rfl rfl ⟨by decide, by decide⟩ ⟨by decide, by decide⟩ (Nat.le_of_ble_eq_true rfl) dX7_move_75 z_nx (z_ki (fun x_15 M_15 h_15 => ?_))
          have hx9 := (h_15).1.symm
          have hm9 := (h_15).2.symm
          subst hx9
          subst hm9
          refine z_ti (y := 1) (if_pos rfl) ?_
          refine z_if_ne F 96 dX7_move_78 (by decide) ⟨by decide, by decide⟩ (fun c_16 => ?_) (fun c_16 => ?_)
          · skip
            have hfo := hfr9.resolve_left hne
            obtain ⟨i9, d9, g1, g2, hi9, h49, _⟩ := zRoom_of hfo.2.2
            have e00 : (zOpO c a.toNat) 0 0 0 = c 0 0 0 := rfl
            have hn00 := hI.c.1
            have hp10 : p9 = zGet (zOpO c a.toNat) (zBit 31) (c 10 a.toNat 0).toNat (zFind (zOpO c a.toNat) (zBit 31) (c 10 a.toNat 0).toNat x 600) := (hpq9 hne).1.trans ((zWho_31 hc2).trans ((zMix_s _ _).ge _ _))
            have hq10 : q9 = zChair (zOpO c a.toNat) (c 10 a.toNat 0).toNat (zFind (zOpO c a.toNat) (zBit 31) (c 10 a.toNat 0).toNat x 600) := (hpq9 hne).2.trans ((zMix_s _ _).ch _ _)
            have hov : (((c 10 a.toNat 0).toNat : Nat) : Int) = c 10 a.toNat 0 := by omega
            have hpl := hio.place (v := a.toNat) (a := (c 10 a.toNat 0).toNat) (who := zBit 31) (x := (zFind (zOpO c a.toNat) (zBit 31) (c 10 a.toNat 0).toNat x 600)) (show ((a.toNat : Nat) : Int) < c 9 0 0 by omega) (if_pos ⟨rfl, rfl, rfl⟩) hov.symm (by omega) hfo.2.1 hfo.2.2
            have hsm10 : zSm (zOpO c a.toNat) (zsu (zsu (zFd (zMix (zOpO c a.toNat) (zOpO (zsu t 25 0 0 0) a.toNat)) p9 q9) 25 0 0 0) 10 a.toNat 0 (c 10 a.toNat 0).toNat) := by
              have h9 : zSm (zsu (zOpO c a.toNat) 10 a.toNat 0 (c 10 a.toNat 0).toNat) (zsu (zsu (zFd (zMix (zOpO c a.toNat) (zOpO (zsu t 25 0 0 0) a.toNat)) p9 q9) 25 0 0 0) 10 a.toNat 0 (c 10 a.toNat 0).toNat) := ((((zMix_s (zOpO c a.toNat) (zOpO (zsu t 25 0 0 0) a.toNat)).fd p9 q9).r (by omega) 0 0 0)).u _ _ _ _
              rw [show zsu (zOpO c a.toNat) 10 a.toNat 0 (c 10 a.toNat 0).toNat = (zOpO c a.toNat) by rw [hov]; exact zsu_id (zOpO c a.toNat) 10 a.toNat 0] at h9
              exact h9
            have hrl : zRel (zOpL (zOpO c a.toNat) a.toNat (zGet (zOpO c a.toNat) (zBit 31) (c 10 a.toNat 0).toNat (zFind (zOpO c a.toNat) (zBit 31) (c 10 a.toNat 0).toNat x 600)) (zChair (zOpO c a.toNat) (c 10 a.toNat 0).toNat (zFind (zOpO c a.toNat) (zBit 31) (c 10 a.toNat 0).toNat x 600)) (zFind (zOpO c a.toNat) (zBit 31) (c 10 a.toNat 0).toNat x 600)) (zOpL (zsu (zsu (zFd (zMix (zOpO c a.toNat) (zOpO (zsu t 25 0 0 0) a.toNat)) p9 q9) 25 0 0 0) 10 a.toNat 0 (c 10 a.toNat 0).toNat) a.toNat ((zsu (zFd (zMix (zOpO c a.toNat) (zOpO (zsu t 25 0 0 0) a.toNat)) p9 q9) 25 0 0 0) 23 0 0) ((zsu (zFd (zMix (zOpO c a.toNat) (zOpO (zsu t 25 0 0 0) a.toNat)) p9 q9) 25 0 0 0) 24 0 0) (zFind (zOpO c a.toNat) (zBit 31) (c 10 a.toNat 0).toNat x 600)) := by
              rw [← hp10, ← hq10]
              exact ⟨hsm10.L _ _ _ _, (zMix_r (zOpO c a.toNat) (zOpO (zsu t 25 0 0 0) a.toNat)).2.1, (zMix_r (zOpO c a.toNat) (zOpO (zsu t 25 0 0 0) a.toNat)).2.2⟩
            have hbl : zB (zOpL (zsu (zsu (zFd (zMix (zOpO c a.toNat) (zOpO (zsu t 25 0 0 0) a.toNat)) p9 q9) 25 0 0 0) 10 a.toNat 0 (c 10 a.toNat 0).toNat) a.toNat ((zsu (zFd (zMix (zOpO c a.toNat) (zOpO (zsu t 25 0 0 0) a.toNat)) p9 q9) 25 0 0 0) 23 0 0) ((zsu (zFd (zMix (zOpO c a.toNat) (zOpO (zsu t 25 0 0 0) a.toNat)) p9 q9) 25 0 0 0) 24 0 0) (zFind (zOpO c a.toNat) (zBit 31) (c 10 a.toNat 0).toNat x 600)) := zB_M (zB_A (zB_u (zB_u (zB_Fd hb2 hp9 hq99) (by omega)) (by omega)) (v := a.toNat) (show 0 ≤ p9 ∧ p9 ≤ 1000 by omega) (show 0 ≤ q9 ∧ q9 < 4 by omega) (by omega)) a.toNat (by omega)
            refine z_aload_n F 2 dX7_move_96 rfl rfl ?_
            refine z_iload_n F 3 dX7_move_97 rfl rfl ?_
            refine z_ti (y := ((a.toNat : Nat) : Int)) (by omega) ?_
            refine z_aload_n F 2 dX7_move_98 rfl rfl ?_
            refine z_get F fl_X7_32 (zAll_16 s (zsu (zFd (zMix (zOpO c a.toNat) (zOpO (zsu t 25 0 0 0) a.toNat)) p9 q9) 25 0 0 0) o) rfl dX7_move_99 ?_
            refine z_iload_n F 3 dX7_move_102 rfl rfl ?_
            refine z_iald F (zAll_24 s (zsu (zFd (zMix (zOpO c a.toNat) (zOpO (zsu t 25 0 0 0) a.toNat)) p9 q9) 25 0 0 0) o) (by omega) (by omega) (by decide) dX7_move_103 ?_
            refine z_ti (y := ((((c 10 a.toNat 0).toNat) : Nat) : Int)) (by show c 10 a.toNat 0 = _; omega) ?_
            refine z_iload F 0 dX7_move_104 rfl ?_
            refine z_callV F [.int (zI (((a.toNat : Nat) : Int))), .int (zI (((((c 10 a.toNat 0).toNat) : Nat) : Int))), .int (zI ((zFind (zOpO c a.toNat) (zBit 31) (c 10 a.toNat 0).toNat x 600)))] [] (c_X7_lays F.2.2.1 G (s := s) (t := (zsu (zFd (zMix (zOpO c a.toNat) (zOpO (zsu t 25 0 0 0) a.toNat)) p9 q9) 25 0 0 0)) (o := o) hc2 (zB_u (zB_Fd hb2 hp9 hq99) (by omega)) (v := a.toNat) (a := (c 10 a.toNat 0).toNat) (x := (zFind (zOpO c a.toNat) (zBit 31) (c 10 a.toNat 0).toNat x 600)) (by omega) (show ((((c 10 a.toNat 0).toNat) : Nat) : Int) < c 4 0 0 by omega) (Or.inl (show (zOpO c a.toNat) 13 a.toNat 0 = -1 from if_pos ⟨rfl, rfl, rfl⟩)) (show 0 ≤ p9 ∧ p9 < c 0 0 0 by omega) (show 0 ≤ q9 ∧ q9 < 4 by omega) (by omega) (show (zFind (zOpO c a.toNat) (zBit 31) (c 10 a.toNat 0).toNat x 600) + zLen (zOpO c a.toNat) (c 10 a.toNat 0).toNat ≤ 600 from hfo.2.1)) cv_X7_121 (zAll_16 s (zsu (zFd (zMix (zOpO c a.toNat) (zOpO (zsu t 25 0 0 0) a.toNat)) p9 q9) 25 0 0 0) o) rfl rfl rfl ⟨by decide, by decide⟩ ⟨by decide, by decide⟩ (Nat.le_of_ble_eq_true rfl) dX7_move_106 z_nx (z_kv (fun M_17 h_17 => ?_))
            have hm9 := (h_17).symm
            subst hm9
            refine z_M (M' := (zAll s (zMix (zOpL (zOpO c a.toNat) a.toNat (zGet (zOpO c a.toNat) (zBit 31) (c 10 a.toNat 0).toNat (zFind (zOpO c a.toNat) (zBit 31) (c 10 a.toNat 0).toNat x 600)) (zChair (zOpO c a.toNat) (c 10 a.toNat 0).toNat (zFind (zOpO c a.toNat) (zBit 31) (c 10 a.toNat 0).toNat x 600)) (zFind (zOpO c a.toNat) (zBit 31) (c 10 a.toNat 0).toNat x 600)) (zOpL (zsu (zsu (zFd (zMix (zOpO c a.toNat) (zOpO (zsu t 25 0 0 0) a.toNat)) p9 q9) 25 0 0 0) 10 a.toNat 0 (c 10 a.toNat 0).toNat) a.toNat ((zsu (zFd (zMix (zOpO c a.toNat) (zOpO (zsu t 25 0 0 0) a.toNat)) p9 q9) 25 0 0 0) 23 0 0) ((zsu (zFd (zMix (zOpO c a.toNat) (zOpO (zsu t 25 0 0 0) a.toNat)) p9 q9) 25 0 0 0) 24 0 0) (zFind (zOpO c a.toNat) (zBit 31) (c 10 a.toNat 0).toNat x 600))) o)) (zAll_mix hrl) ?_
            refine z_aload_n F 2 dX7_move_109 rfl rfl ?_
            refine z_callV F [] [] (c_X7_serves F.2.2.1 G (s := s) (t := (zMix (zOpL (zOpO c a.toNat) a.toNat (zGet (zOpO c a.toNat) (zBit 31) (c 10 a.toNat 0).toNat (zFind (zOpO c a.toNat) (zBit 31) (c 10 a.toNat 0).toNat x 600)) (zChair (zOpO c a.toNat) (c 10 a.toNat 0).toNat (zFind (zOpO c a.toNat) (zBit 31) (c 10 a.toNat 0).toNat x 600)) (zFind (zOpO c a.toNat) (zBit 31) (c 10 a.toNat 0).toNat x 600)) (zOpL (zsu (zsu (zFd (zMix (zOpO c a.toNat) (zOpO (zsu t 25 0 0 0) a.toNat)) p9 q9) 25 0 0 0) 10 a.toNat 0 (c 10 a.toNat 0).toNat) a.toNat ((zsu (zFd (zMix (zOpO c a.toNat) (zOpO (zsu t 25 0 0 0) a.toNat)) p9 q9) 25 0 0 0) 23 0 0) ((zsu (zFd (zMix (zOpO c a.toNat) (zOpO (zsu t 25 0 0 0) a.toNat)) p9 q9) 25 0 0 0) 24 0 0) (zFind (zOpO c a.toNat) (zBit 31) (c 10 a.toNat 0).toNat x 600)))) (c := (zOpL (zOpO c a.toNat) a.toNat (zGet (zOpO c a.toNat) (zBit 31) (c 10 a.toNat 0).toNat (zFind (zOpO c a.toNat) (zBit 31) (c 10 a.toNat 0).toNat x 600)) (zChair (zOpO c a.toNat) (c 10 a.toNat 0).toNat (zFind (zOpO c a.toNat) (zBit 31) (c 10 a.toNat 0).toNat x 600)) (zFind (zOpO c a.toNat) (zBit 31) (c 10 a.toNat 0).toNat x 600))) (o := o) (zMix_c hpl.c) (zMix_b hpl.b hbl) hpl (zMix_r (zOpL (zOpO c a.toNat) a.toNat (zGet (zOpO c a.toNat) (zBit 31) (c 10 a.toNat 0).toNat (zFind (zOpO c a.toNat) (zBit 31) (c 10 a.toNat 0).toNat x 600)) (zChair (zOpO c a.toNat) (c 10 a.toNat 0).toNat (zFind (zOpO c a.toNat) (zBit 31) (c 10 a.toNat 0).toNat x 600)) (zFind (zOpO c a.toNat) (zBit 31) (c 10 a.toNat 0).toNat x 600)) (zOpL (zsu (zsu (zFd (zMix (zOpO c a.toNat) (zOpO (zsu t 25 0 0 0) a.toNat)) p9 q9) 25 0 0 0) 10 a.toNat 0 (c 10 a.toNat 0).toNat) a.toNat ((zsu (zFd (zMix (zOpO c a.toNat) (zOpO (zsu t 25 0 0 0) a.toNat)) p9 q9) 25 0 0 0) 23 0 0) ((zsu (zFd (zMix (zOpO c a.toNat) (zOpO (zsu t 25 0 0 0) a.toNat)) p9 q9) 25 0 0 0) 24 0 0) (zFind (zOpO c a.toNat) (zBit 31) (c 10 a.toNat 0).toNat x 600))) h3c) cv_X7_142 (zAll_16 s (zMix (zOpL (zOpO c a.toNat) a.toNat (zGet (zOpO c a.toNat) (zBit 31) (c 10 a.toNat 0).toNat (zFind (zOpO c a.toNat) (zBit 31) (c 10 a.toNat 0).toNat x 600)) (zChair (zOpO c a.toNat) (c 10 a.toNat 0).toNat (zFind (zOpO c a.toNat) (zBit 31) (c 10 a.toNat 0).toNat x 600)) (zFind (zOpO c a.toNat) (zBit 31) (c 10 a.toNat 0).toNat x 600)) (zOpL (zsu (zsu (zFd (zMix (zOpO c a.toNat) (zOpO (zsu t 25 0 0 0) a.toNat)) p9 q9) 25 0 0 0) 10 a.toNat 0 (c 10 a.toNat 0).toNat) a.toNat ((zsu (zFd (zMix (zOpO c a.toNat) (zOpO (zsu t 25 0 0 0) a.toNat)) p9 q9) 25 0 0 0) 23 0 0) ((zsu (zFd (zMix (zOpO c a.toNat) (zOpO (zsu t 25 0 0 0) a.toNat)) p9 q9) 25 0 0 0) 24 0 0) (zFind (zOpO c a.toNat) (zBit 31) (c 10 a.toNat 0).toNat x 600))) o) rfl rfl rfl ⟨by decide, by decide⟩ ⟨by decide, by decide⟩ (Nat.le_of_ble_eq_true rfl) dX7_move_110 z_nx (z_ki (fun x_18 M_18 h_18 => ?_))
            obtain ⟨hx9, T9, hm9, hbT9, hrT9, h25T9⟩ := h_18
            subst hx9
            subst hm9
            refine z_pop F dX7_move_113 rfl ?_
            refine z_aload_n F 2 dX7_move_114 rfl rfl ?_
            refine z_get F fl_X7_41 (zAll_16 s T9 o) rfl dX7_move_115 ?_
            refine z_iload_n F 3 dX7_move_118 rfl rfl ?_
            refine z_iald F (zAll_27 s T9 o) (by omega) (by omega) (by decide) dX7_move_119 ?_
            refine z_ti (y := (zFind (zOpO c a.toNat) (zBit 31) (c 10 a.toNat 0).toNat x 600)) ((hrT9.1 13 a.toNat 0 (by omega)).trans ((zSw_13 _ (c := (zOpL (zOpO c a.toNat) a.toNat (zGet (zOpO c a.toNat) (zBit 31) (c 10 a.toNat 0).toNat (zFind (zOpO c a.toNat) (zBit 31) (c 10 a.toNat 0).toNat x 600)) (zChair (zOpO c a.toNat) (c 10 a.toNat 0).toNat (zFind (zOpO c a.toNat) (zBit 31) (c 10 a.toNat 0).toNat x 600)) (zFind (zOpO c a.toNat) (zBit 31) (c 10 a.toNat 0).toNat x 600))) (show 0 ≤ c 9 0 0 by omega) (show ((a.toNat : Nat) : Int) < c 9 0 0 by omega)).trans (zOpA_13 (zOpO c a.toNat) a.toNat _ _ _))) ?_
            exact z_reti F rfl (by first | decide | assumption | omega) (by first | decide | assumption | omega) dX7_move_120 ⟨_, rfl, zY_of (k := 0) (v := (zFind (zOpO c a.toNat) (zBit 31) (c 10 a.toNat 0).toNat x 600)) (by unfold xMove; rw [if_pos ⟨hcu, hq8⟩, if_neg hne]) hbT9 hrT9 h25T9 (fun _ => rfl)⟩
          · skip
            omega
        · skip
          have hne : (zFind (zOpO c a.toNat) (zBit 31) (c 10 a.toNat 0).toNat x 600) = -1 := c_14
          refine z_iconst (z := 2) F dX7_move_70 (by decide) ?_
          refine z_goto F 75 dX7_move_71 (by decide) ?_
          refine z_callV F [.int (zI 2)] [] (c_X7_isFine F.2.2.1 G (s := s) (t := (zFd (zMix (zOpO c a.toNat) (zOpO (zsu t 25 0 0 0) a.toNat)) p9 q9)) (o := o) (p := 2) ⟨by decide, by decide⟩) cv_X7_77 (zAll_16 s (zFd (zMix (zOpO c a.toNat) (zOpO (zsu t 25 0 0 0) a.toNat)) p9 q9) o) rfl rfl rfl ⟨by decide, by decide⟩ ⟨by decide, by decide⟩ (Nat.le_of_ble_eq_true rfl) dX7_move_75 z_nx (z_ki (fun x_19 M_19 h_19 => ?_))
          have hx9 := (h_19).1.symm
          have hm9 := (h_19).2.symm
          subst hx9
          subst hm9
          refine z_ti (y := 0) (if_neg (by decide)) ?_
          refine z_if_ne F 96 dX7_move_78 (by decide) ⟨by decide, by decide⟩ (fun c_20 => ?_) (fun c_20 => ?_)
          · skip
            omega
          · skip
            have hCA : zsu (zOpO c a.toNat) 13 a.toNat 0 (c 13 a.toNat 0) = (zOpA (zOpO c a.toNat) a.toNat (c 11 a.toNat 0) (c 12 a.toNat 0) (c 13 a.toNat 0)) := by
              show _ = zsu (zsu (zsu (zOpO c a.toNat) 11 a.toNat 0 ((zOpO c a.toNat) 11 a.toNat 0)) 12 a.toNat 0 (c 12 a.toNat 0)) 13 a.toNat 0 (c 13 a.toNat 0)
              rw [zsu_id]
              show _ = zsu (zsu (zOpO c a.toNat) 12 a.toNat 0 ((zOpO c a.toNat) 12 a.toNat 0)) 13 a.toNat 0 (c 13 a.toNat 0)
              rw [zsu_id]
            have hrA : zRel (zOpA (zOpO c a.toNat) a.toNat (c 11 a.toNat 0) (c 12 a.toNat 0) (c 13 a.toNat 0)) (zsu (zsu (zFd (zMix (zOpO c a.toNat) (zOpO (zsu t 25 0 0 0) a.toNat)) p9 q9) 25 0 0 2) 13 a.toNat 0 (c 13 a.toNat 0)) := by
              rw [← hCA]
              exact ⟨(((zMix_s (zOpO c a.toNat) (zOpO (zsu t 25 0 0 0) a.toNat)).fd p9 q9).r (by omega) 0 0 2).u _ _ _ _, (zMix_r (zOpO c a.toNat) (zOpO (zsu t 25 0 0 0) a.toNat)).2.1, (zMix_r (zOpO c a.toNat) (zOpO (zsu t 25 0 0 0) a.toNat)).2.2⟩
            have hcA : zC1 (zOpA (zOpO c a.toNat) a.toNat (c 11 a.toNat 0) (c 12 a.toNat 0) (c 13 a.toNat 0)) := zC1_A hio.c (v := a.toNat) hvv.2.2.1 hvv.2.2.2 hvv.1 hvv.2.1
            have hbA : zB (zOpA (zOpO c a.toNat) a.toNat (c 11 a.toNat 0) (c 12 a.toNat 0) (c 13 a.toNat 0)) := zB_A hio.b (by omega) hvv.2.2.2 (by omega)
            have hb3 : zB (zsu (zsu (zFd (zMix (zOpO c a.toNat) (zOpO (zsu t 25 0 0 0) a.toNat)) p9 q9) 25 0 0 2) 13 a.toNat 0 (c 13 a.toNat 0)) := zB_u (zB_u (zB_Fd hb2 hp9 hq99) (by omega)) (by omega)
            have hbk := zOp_back (v := a.toNat) hI (by omega) hcu.2
            have f10 : (zMix (zOpA (zOpO c a.toNat) a.toNat (c 11 a.toNat 0) (c 12 a.toNat 0) (c 13 a.toNat 0)) (zsu (zsu (zFd (zMix (zOpO c a.toNat) (zOpO (zsu t 25 0 0 0) a.toNat)) p9 q9) 25 0 0 2) 13 a.toNat 0 (c 13 a.toNat 0))) 10 a.toNat 0 = c 10 a.toNat 0 := rfl
            have f11 : (zMix (zOpA (zOpO c a.toNat) a.toNat (c 11 a.toNat 0) (c 12 a.toNat 0) (c 13 a.toNat 0)) (zsu (zsu (zFd (zMix (zOpO c a.toNat) (zOpO (zsu t 25 0 0 0) a.toNat)) p9 q9) 25 0 0 2) 13 a.toNat 0 (c 13 a.toNat 0))) 11 a.toNat 0 = c 11 a.toNat 0 := zOpA_11 (zOpO c a.toNat) a.toNat (c 11 a.toNat 0) (c 12 a.toNat 0) (c 13 a.toNat 0)
            have f12 : (zMix (zOpA (zOpO c a.toNat) a.toNat (c 11 a.toNat 0) (c 12 a.toNat 0) (c 13 a.toNat 0)) (zsu (zsu (zFd (zMix (zOpO c a.toNat) (zOpO (zsu t 25 0 0 0) a.toNat)) p9 q9) 25 0 0 2) 13 a.toNat 0 (c 13 a.toNat 0))) 12 a.toNat 0 = c 12 a.toNat 0 := zOpA_12 (zOpO c a.toNat) a.toNat (c 11 a.toNat 0) (c 12 a.toNat 0) (c 13 a.toNat 0)
            have f13 : (zMix (zOpA (zOpO c a.toNat) a.toNat (c 11 a.toNat 0) (c 12 a.toNat 0) (c 13 a.toNat 0)) (zsu (zsu (zFd (zMix (zOpO c a.toNat) (zOpO (zsu t 25 0 0 0) a.toNat)) p9 q9) 25 0 0 2) 13 a.toNat 0 (c 13 a.toNat 0))) 13 a.toNat 0 = c 13 a.toNat 0 := zOpA_13 (zOpO c a.toNat) a.toNat (c 11 a.toNat 0) (c 12 a.toNat 0) (c 13 a.toNat 0)
            have hrz : zRel (zOpL (zOpO c a.toNat) a.toNat (c 11 a.toNat 0) (c 12 a.toNat 0) (c 13 a.toNat 0)) (zOpM (zMix (zOpA (zOpO c a.toNat) a.toNat (c 11 a.toNat 0) (c 12 a.toNat 0) (c 13 a.toNat 0)) (zsu (zsu (zFd (zMix (zOpO c a.toNat) (zOpO (zsu t 25 0 0 0) a.toNat)) p9 q9) 25 0 0 2) 13 a.toNat 0 (c 13 a.toNat 0))) a.toNat ((a.toNat : Nat) : Int)) := ⟨(zMix_s _ _).M _ _, (zMix_r (zOpA (zOpO c a.toNat) a.toNat (c 11 a.toNat 0) (c 12 a.toNat 0) (c 13 a.toNat 0)) (zsu (zsu (zFd (zMix (zOpO c a.toNat) (zOpO (zsu t 25 0 0 0) a.toNat)) p9 q9) 25 0 0 2) 13 a.toNat 0 (c 13 a.toNat 0))).2.1, (zMix_r (zOpA (zOpO c a.toNat) a.toNat (c 11 a.toNat 0) (c 12 a.toNat 0) (c 13 a.toNat 0)) (zsu (zsu (zFd (zMix (zOpO c a.toNat) (zOpO (zsu t 25 0 0 0) a.toNat)) p9 q9) 25 0 0 2) 13 a.toNat 0 (c 13 a.toNat 0))).2.2⟩
            rw [hbk] at hrz
            have fl : zLen (zMix (zOpA (zOpO c a.toNat) a.toNat (c 11 a.toNat 0) (c 12 a.toNat 0) (c 13 a.toNat 0)) (zsu (zsu (zFd (zMix (zOpO c a.toNat) (zOpO (zsu t 25 0 0 0) a.toNat)) p9 q9) 25 0 0 2) 13 a.toNat 0 (c 13 a.toNat 0))) (c 10 a.toNat 0).toNat = zLen c (c 10 a.toNat 0).toNat := rfl
            refine z_aload_n F 2 dX7_move_81 rfl rfl ?_
            refine z_get F fl_X7_41 (zAll_16 s (zsu (zFd (zMix (zOpO c a.toNat) (zOpO (zsu t 25 0 0 0) a.toNat)) p9 q9) 25 0 0 2) o) rfl dX7_move_82 ?_
            refine z_iload_n F 3 dX7_move_85 rfl rfl ?_
            refine z_iload_n F 1 dX7_move_86 rfl rfl ?_
            refine z_iast F (zAll_27 s (zsu (zFd (zMix (zOpO c a.toNat) (zOpO (zsu t 25 0 0 0) a.toNat)) p9 q9) 25 0 0 2) o) (by omega) (by omega) (by decide) dX7_move_87 ?_
            have hm_21_s := zu_s (zAll s (zsu (zFd (zMix (zOpO c a.toNat) (zOpO (zsu t 25 0 0 0) a.toNat)) p9 q9) 25 0 0 2) o) 27 (zAi 0 30 (zup (fun j => (zsu (zFd (zMix (zOpO c a.toNat) (zOpO (zsu t 25 0 0 0) a.toNat)) p9 q9) 25 0 0 2) 13 j 0) (a).toNat (c 13 a.toNat 0)))
            refine z_M (M' := (zAll s (zMix (zOpA (zOpO c a.toNat) a.toNat (c 11 a.toNat 0) (c 12 a.toNat 0) (c 13 a.toNat 0)) (zsu (zsu (zFd (zMix (zOpO c a.toNat) (zOpO (zsu t 25 0 0 0) a.toNat)) p9 q9) 25 0 0 2) 13 a.toNat 0 (c 13 a.toNat 0))) o)) (zMA_27.trans (zAll_mix hrA)) ?_
            refine z_aload_n F 2 dX7_move_88 rfl rfl ?_
            refine z_iload_n F 3 dX7_move_89 rfl rfl ?_
            refine z_ti (y := ((a.toNat : Nat) : Int)) (by omega) ?_
            refine z_iload_n F 3 dX7_move_90 rfl rfl ?_
            refine z_ti (y := ((a.toNat : Nat) : Int)) (by omega) ?_
            refine z_callV F [.int (zI (((a.toNat : Nat) : Int))), .int (zI (((a.toNat : Nat) : Int)))] [] (c_X7_marks F.2.2.1 G (s := s) (t := (zMix (zOpA (zOpO c a.toNat) a.toNat (c 11 a.toNat 0) (c 12 a.toNat 0) (c 13 a.toNat 0)) (zsu (zsu (zFd (zMix (zOpO c a.toNat) (zOpO (zsu t 25 0 0 0) a.toNat)) p9 q9) 25 0 0 2) 13 a.toNat 0 (c 13 a.toNat 0)))) (o := o) (zMix_c hcA) (zMix_b hbA hb3) (v := a.toNat) (b := ((a.toNat : Nat) : Int)) (by omega) (by rw [f10]; omega) (by rw [f10, f11, f12, f13, fl]; exact ⟨hvv.1, hvv.2.1, by omega, hvv.2.2.2⟩) ⟨by omega, by omega⟩) cv_X7_117 (zAll_16 s (zMix (zOpA (zOpO c a.toNat) a.toNat (c 11 a.toNat 0) (c 12 a.toNat 0) (c 13 a.toNat 0)) (zsu (zsu (zFd (zMix (zOpO c a.toNat) (zOpO (zsu t 25 0 0 0) a.toNat)) p9 q9) 25 0 0 2) 13 a.toNat 0 (c 13 a.toNat 0))) o) rfl rfl rfl ⟨by decide, by decide⟩ ⟨by decide, by decide⟩ (Nat.le_of_ble_eq_true rfl) dX7_move_91 z_nx (z_kv (fun M_22 h_22 => ?_))
            have hm9 := (h_22).symm
            subst hm9
            refine z_iconst (z := 0) F dX7_move_94 (by decide) ?_
            exact z_reti F rfl (by first | decide | assumption | omega) (by first | decide | assumption | omega) dX7_move_95 ⟨_, rfl, zY_of (k := 2) (v := 0) (by unfold xMove; rw [if_pos ⟨hcu, hq8⟩, if_pos hne]) (zB_M (zMix_b hbA hb3) a.toNat (by omega)) hrz rfl (fun h => absurd h (by decide))⟩
      · skip
        omega

