/-! ===== the book: visits get their places ===== -/
/-- only the days differ -/
def zWd (s : zS) (F : Nat → Nat → Int) : zS := fun g p q => if g = 21 then F p q else s g p q
theorem zWd_at {s t : zS} {o : zOx} {F : Nat → Nat → Int} {q : Nat} (h : q % 64 ≠ 7 ∧ q % 64 ≠ 8) : zAll (zWd s F) t o q = zAll s t o q := by
  have key : ∀ kd i, kd ≠ 7 ∧ kd ≠ 8 → kd < 16 ∧ kd ≠ 5 → zCls (zWd s F) kd i = zCls s kd i := fun kd i h1 h2 => by
    rcases (show kd = 0 ∨ kd = 1 ∨ kd = 2 ∨ kd = 3 ∨ kd = 4 ∨ kd = 6 ∨ kd = 9 ∨ kd = 10 ∨ kd = 11 ∨ kd = 12 ∨ kd = 13 ∨ kd = 14 ∨ kd = 15 by omega) with e | e | e | e | e | e | e | e | e | e | e | e | e <;> subst e
    · rfl
    · rfl
    · rfl
    · rfl
    · rfl
    · rfl
    · rfl
    · exact zCls10 Iff.rfl (fun _ => ⟨rfl, rfl, rfl, rfl⟩)
    · rfl
    · rfl
    · rfl
    · rfl
    · rfl
  simp only [zAll]
  by_cases h5 : q % 64 = 5
  · rw [if_pos h5, if_pos h5]
  · rw [if_neg h5, if_neg h5]
    by_cases h16 : q % 64 < 16
    · rw [if_pos h16, if_pos h16]
      exact key _ _ h ⟨h16, h5⟩
    · rw [if_neg h16, if_neg h16]
/-- the days while a visit's marks are written, as far as step k -/
def zWf (s : zS) (v : Nat) (b : Int) (k : Nat) : Nat → Nat → Int := fun p => if (p : Int) = s 12 v 0 then zfil (s 21 p) (s 13 v 0) (s 13 v 0 + zLen s (s 10 v 0).toNat) b else if (p : Int) = s 11 v 0 + 4 then zMk s (s 10 v 0).toNat (s 13 v 0) b (s 21 p) k else s 21 p
theorem zWf_b {s : zS} (h : zB s) {v : Nat} {b : Int} (hb : -1 ≤ b ∧ b ≤ 1000) (k p q : Nat) : -1 ≤ zWf s v b k p q ∧ zWf s v b k p q ≤ 1000 := by
  unfold zWf
  split
  · exact zfil_b (h 21 p) hb q
  · split
    · exact zMk_b (h 21 p) hb k q
    · exact h 21 p q
theorem zWd_end {s : zS} {v : Nat} {b : Int} : zWd s (zWf s v b (zSc s (s 10 v 0).toNat)) = zOpM s v b := by
  funext g p q
  unfold zWd zOpM zWf
  by_cases h : g = 21
  · rw [if_pos h, if_pos h]
    by_cases h1 : (p : Int) = s 12 v 0
    · rw [if_pos h1, if_pos h1]
    · rw [if_neg h1, if_neg h1]
      by_cases h2 : (p : Int) = s 11 v 0 + 4
      · rw [if_pos h2, if_pos h2]
      · rw [if_neg h2, if_neg h2]
  · rw [if_neg h, if_neg h]
theorem zWr_c {s t : zS} {o : zOx} {v : Nat} {b : Int} (h0 : 0 ≤ s 13 v 0 ∧ s 13 v 0 + zLen s (s 10 v 0).toNat ≤ 600 ∧ (0 ≤ s 11 v 0 ∧ s 11 v 0 < s 0 0 0) ∧ (0 ≤ s 12 v 0 ∧ s 12 v 0 < 4)) : (if 0 ≤ s 13 v 0 ∧ s 13 v 0 + zLen s (s 10 v 0).toNat ≤ 600 then zu (zu (zAll s t o) (64 * (s 12 v 0).toNat + 7) (zAi 0 600 (zfil (s 21 (s 12 v 0).toNat) (s 13 v 0) (s 13 v 0 + zLen s (s 10 v 0).toNat) b))) (64 * (s 12 v 0).toNat + 8) (zAi 0 601 (zTk (zfil (s 21 (s 12 v 0).toNat) (s 13 v 0) (s 13 v 0 + zLen s (s 10 v 0).toNat) b))) else zAll s t o) = zAll (zWd s (zWf s v b 0)) t o := by
  rw [if_pos ⟨h0.1, h0.2.1⟩, zH_day (by omega)]
  congr 1
  funext g p q
  unfold zsd zWd zWf
  by_cases h : g = 21
  · rw [if_pos h]
    by_cases h1 : (p : Int) = s 12 v 0
    · rw [if_pos h1, if_pos ⟨h, by omega⟩, show (s 12 v 0).toNat = p by omega]
    · rw [if_neg h1, if_neg (fun h9 => h1 (by omega)), h]
      by_cases h2 : (p : Int) = s 11 v 0 + 4
      · rw [if_pos h2]
        rfl
      · rw [if_neg h2]
  · rw [if_neg h, if_neg (fun h9 => h h9.1)]
theorem zWf_r {s : zS} {v k : Nat} {b : Int} (h : s 6 (s 10 v 0).toNat k = -1) : zWf s v b k = zWf s v b (k + 1) := by
  funext p q
  unfold zWf
  rw [zMk, if_pos h]
theorem zWr_m {s t : zS} {o : zOx} {v k : Nat} {b : Int} (h0 : 0 ≤ s 13 v 0 ∧ s 13 v 0 + zLen s (s 10 v 0).toNat ≤ 600 ∧ (0 ≤ s 11 v 0 ∧ s 11 v 0 < s 0 0 0) ∧ (0 ≤ s 12 v 0 ∧ s 12 v 0 < 4)) (hr : ¬ s 6 (s 10 v 0).toNat k = -1) (h1 : 0 ≤ s 13 v 0 + zOff s (s 10 v 0).toNat k ∧ s 13 v 0 + zOff s (s 10 v 0).toNat (k + 1) ≤ 600) : (if 0 ≤ s 13 v 0 + zOff s (s 10 v 0).toNat k ∧ s 13 v 0 + zOff s (s 10 v 0).toNat (k + 1) ≤ 600 then zu (zu (zAll (zWd s (zWf s v b k)) t o) (64 * ((s 11 v 0).toNat + 4) + 7) (zAi 0 600 (zfil (zWd s (zWf s v b k) 21 ((s 11 v 0).toNat + 4)) (s 13 v 0 + zOff s (s 10 v 0).toNat k) (s 13 v 0 + zOff s (s 10 v 0).toNat (k + 1)) b))) (64 * ((s 11 v 0).toNat + 4) + 8) (zAi 0 601 (zTk (zfil (zWd s (zWf s v b k) 21 ((s 11 v 0).toNat + 4)) (s 13 v 0 + zOff s (s 10 v 0).toNat k) (s 13 v 0 + zOff s (s 10 v 0).toNat (k + 1)) b))) else zAll (zWd s (zWf s v b k)) t o) = zAll (zWd s (zWf s v b (k + 1))) t o := by
  rw [if_pos h1, zH_day (s := zWd s (zWf s v b k)) (show ((((s 11 v 0).toNat + 4 : Nat)) : Int) < 4 + s 0 0 0 by omega)]
  congr 1
  funext g p q
  unfold zsd
  by_cases h : g = 21 ∧ p = (s 11 v 0).toNat + 4
  · rw [if_pos h]
    have e1 : zWd s (zWf s v b k) 21 ((s 11 v 0).toNat + 4) = zMk s (s 10 v 0).toNat (s 13 v 0) b (s 21 p) k := by
      show zWf s v b k ((s 11 v 0).toNat + 4) = _
      unfold zWf
      rw [if_neg (by omega), if_pos (by omega), h.2]
    rw [e1]
    show _ = (if g = 21 then zWf s v b (k + 1) p q else s g p q)
    rw [if_pos h.1]
    unfold zWf
    rw [if_neg (by omega), if_pos (by omega), zMk, if_neg hr]
  · rw [if_neg h]
    unfold zWd
    by_cases h2 : g = 21
    · rw [if_pos h2, if_pos h2]
      unfold zWf
      have h3 : ¬ (p : Int) = s 11 v 0 + 4 := fun h9 => h ⟨h2, by omega⟩
      by_cases h4 : (p : Int) = s 12 v 0
      · rw [if_pos h4, if_pos h4]
      · rw [if_neg h4, if_neg h4, if_neg h3, if_neg h3]
    · rw [if_neg h2, if_neg h2]
abbrev rX6_write : Room := { frames := 3, cells := 0, slots := 0, locals := 64 }
set_option maxRecDepth 100000 in
set_option maxHeartbeats 4000000 in
theorem c_X6_write {l : Launch} (hfl : l.stackTraces = false) (G : zG) {s t : zS} {o : zOx} (hc : zC1 s) (hb9 : zB s) {v : Nat} {b : Int} (hv : (v : Int) < s 9 0 0) (hd : ¬ s 13 v 0 = -1) (hbm : -1 ≤ b ∧ b ≤ 100)  : zCn l G yX6_write (.code yX6_write cX6_write 8 none) rX6_write [.ref 0, .ref (64 * v + 14), .int (zI b)] (zAll s t o) (zRv (fun M2 => M2 = zAll (zOpM s v b) t o)) zN := by
  refine zStart hfl (by decide) (own := RX6) rfl [(0, .ref 0), (1, .ref (64 * v + 14)), (2, .int (zI b))] (Nat.le_of_ble_eq_true rfl) rfl (fun k hkl hinit hk0 F => ?_)
  have hn0 := hc.1
  have hn4 := hc.2.1
  have hn9 := hc.2.2.1
  have hn14 := hc.2.2.2.1
  have hn18 := hc.2.2.2.2.1
  have hvv := (hc.2.2.2.2.2.2.2.2.2.2.2.2.2.1 v hv).resolve_left hd
  have hvs := hc.2.2.2.2.2.2.2.2.2.2.1 v hv
  have hln := hc.len (s 10 v 0).toNat
  have hsc := hc.2.2.2.2.2.2.2.1 (s 10 v 0).toNat
  refine z_aload_n F 0 dX6_write_0 rfl rfl ?_
  refine z_aload_n F 1 dX6_write_1 rfl rfl ?_
  refine z_get F fl_X6_138 (zAll_v t o (i := v) (by omega)) rfl dX6_write_2 ?_
  refine z_ti (y := s 11 v 0) (if_neg hd) ?_
  refine z_callV F [.int (zI (s 11 v 0))] [] (c_X6_isMember F.2.2.1 G hc hb9 (a := s 11 v 0) (hb9.r 11 v 0)) cv_X6_242 (zAll_0 s t o) rfl rfl rfl ⟨by decide, by decide⟩ ⟨by decide, by decide⟩ (Nat.le_of_ble_eq_true rfl) dX6_write_5 z_nx (z_ki (fun x_1 M_1 h_1 => ?_))
  have hx9 := (h_1).1.symm
  have hm9 := (h_1).2.symm
  subst hx9
  subst hm9
  have hz : zR (if 0 ≤ s 11 v 0 ∧ s 11 v 0 < s 0 0 0 then 1 else 0) := zR_if
  refine z_if_eq F 21 dX6_write_8 (by decide) (by omega) (fun c_2 => ?_) (fun c_2 => ?_)
  · skip
    rw [if_pos hvv.2.2.1] at c_2; omega
  · skip
    refine z_aload_n F 1 dX6_write_11 rfl rfl ?_
    refine z_get F fl_X6_141 (zAll_v t o (i := v) (by omega)) rfl dX6_write_12 ?_
    refine z_ti (y := s 12 v 0) (if_neg hd) ?_
    refine z_callS F [.int (zI (s 12 v 0))] [] (c_X6_isChair F.2.2.1 G (hb9.r 12 v 0) (zAll s t o)) cs_X6_209 rfl ⟨by decide, by decide⟩ ⟨by decide, by decide⟩ (Nat.le_of_ble_eq_true rfl) dX6_write_15 z_nx (z_ki (fun x_3 M_3 h_3 => ?_))
    have hx9 := (h_3).1.symm
    have hm9 := (h_3).2.symm
    subst hx9
    subst hm9
    have hz2 : zR (if 0 ≤ s 12 v 0 ∧ s 12 v 0 < 4 then 1 else 0) := zR_if
    refine z_if_ne F 22 dX6_write_18 (by decide) (by omega) (fun c_4 => ?_) (fun c_4 => ?_)
    · skip
      refine z_aload_n F 1 dX6_write_22 rfl rfl ?_
      refine z_get F fl_X6_151 (zAll_v t o (i := v) (by omega)) rfl dX6_write_23 ?_
      refine z_astore_n F [(3, .ref (64 * (s 10 v 0).toNat + 10)), (0, .ref 0), (1, .ref (64 * v + 14)), (2, .int (zI b))] dX6_write_26 rfl (by decide) rfl ?_
      refine z_aload_n F 1 dX6_write_27 rfl rfl ?_
      refine z_get F fl_X6_27 (zAll_0 s t o) rfl dX6_write_28 ?_
      refine z_aload_n F 2 dX6_write_31 rfl rfl ?_
      refine z_get F fl_X6_141 (zAll_v t o (i := v) (by omega)) rfl dX6_write_32 ?_
      refine z_ti (y := s 12 v 0) (if_neg hd) ?_
      refine z_aald3 (a := 64 * (s 12 v 0).toNat + 6) F (zAll_3 s t o) (by omega) (by omega) (by decide) rfl dX6_write_35 ?_
      refine z_aload_n F 2 dX6_write_36 rfl rfl ?_
      refine z_get F fl_X6_144 (zAll_v t o (i := v) (by omega)) rfl dX6_write_37 ?_
      refine z_aload_n F 2 dX6_write_40 rfl rfl ?_
      refine z_get F fl_X6_144 (zAll_v t o (i := v) (by omega)) rfl dX6_write_41 ?_
      refine z_aload_n F 0 dX6_write_44 rfl rfl ?_
      refine z_get F fl_X6_186 (zAll_s t o (i := (s 10 v 0).toNat) (by omega)) rfl dX6_write_45 ?_
      refine z_iadd F dX6_write_48 ?_
      refine z_iload_n F 3 dX6_write_49 rfl rfl ?_
      refine z_callV F [.int (zI (s 13 v 0)), .int (zI ((s 13 v 0) + (zLen s ((s 10 v 0).toNat)))), .int (zI b)] [] (c_X0_write F.2.2.1 G (by omega) (by omega) (zAll s t o) (zAll_d6 t o (i := (s 12 v 0).toNat) (by omega)) (zAll_d7 t o (i := (s 12 v 0).toNat) (by omega)) (zAll_d8 t o (i := (s 12 v 0).toNat) (by omega)) (by omega) (by omega) (by omega) (by omega) (fun j => hb9.r 21 _ j)) cv_X6_278 (zAll_d6 t o (i := (s 12 v 0).toNat) (by omega)) rfl rfl rfl ⟨by decide, by decide⟩ ⟨by decide, by decide⟩ (Nat.le_of_ble_eq_true rfl) dX6_write_50 z_nx (z_kv (fun M_5 h_5 => ?_))
      have hm9 := ((h_5).trans (zWr_c hvv)).symm
      subst hm9
      refine z_aload_n F 1 dX6_write_53 rfl rfl ?_
      refine z_get F fl_X6_10 ((zWd_at (by omega)).trans (zAll_0 s t o)) rfl dX6_write_54 ?_
      refine z_aload_n F 2 dX6_write_57 rfl rfl ?_
      refine z_get F fl_X6_138 ((zWd_at (by omega)).trans (zAll_v t o (i := v) (by omega))) rfl dX6_write_58 ?_
      refine z_ti (y := s 11 v 0) (if_neg hd) ?_
      refine z_callV F [.int (zI (s 11 v 0))] [] (g_m F.2.2.1 G (s := zWd s (zWf s v b 0)) (t := t) (o := o) hc (i := s 11 v 0) (by omega) (show s 11 v 0 < s 0 0 0 by omega)) cv_X6_99 ((zWd_at (by omega)).trans (zAll_1 s t o)) rfl rfl rfl ⟨by decide, by decide⟩ ⟨by decide, by decide⟩ (Nat.le_of_ble_eq_true rfl) dX6_write_61 z_nx (z_kr (fun x_6 M_6 h_6 => ?_))
      have hx9 := (h_6).1.symm
      have hm9 := (h_6).2.symm
      subst hx9
      subst hm9
      refine z_cast (ci := 2) F (zr_4 _ (List.mem_of_getElem? (i := 16) rfl)) ((zWd_at (by omega)).trans (zAll_m t o (i := (s 11 v 0).toNat) (by omega))) rfl dX6_write_64 ?_
      refine z_get F fl_X6_202 ((zWd_at (by omega)).trans (zAll_m t o (i := (s 11 v 0).toNat) (by omega))) rfl dX6_write_67 ?_
      refine z_astore F [(4, .ref (64 * (((s 11 v 0).toNat) + 4) + 6)), (3, .ref (64 * (s 10 v 0).toNat + 10)), (0, .ref 0), (1, .ref (64 * v + 14)), (2, .int (zI b))] dX6_write_70 (by decide) rfl ?_
      refine z_iconst (z := 0) F dX6_write_72 (by decide) ?_
      refine z_istore F [(5, .int (zI 0)), (4, .ref (64 * (((s 11 v 0).toNat) + 4) + 6)), (3, .ref (64 * (s 10 v 0).toNat + 10)), (0, .ref 0), (1, .ref (64 * v + 14)), (2, .int (zI b))] dX6_write_73 (by decide) rfl ?_
      have L1 : ∀ (fuel : Nat) (w : Int), (s 5 (s 10 v 0).toNat 0 - w).toNat < fuel → 0 ≤ w → w ≤ s 5 (s 10 v 0).toNat 0 → zJ k G rX6_write 8 (zMQ k G rX6_write (zRv (fun M2 => M2 = zAll (zOpM s v b) t o)) zN) (zAll (zWd s (zWf s v b w.toNat)) t o) 0 0 75 [(0, .ref 0), (1, .ref (64 * v + 14)), (2, .int (zI b)), (3, .ref (64 * (s 10 v 0).toNat + 10)), (4, .ref (64 * ((s 11 v 0).toNat + 4) + 6)), (5, .int (zI w))] [] := by
        intro fuel
        induction fuel with
        | zero => intros; omega
        | succ fuel L1_ih =>
          intro w hfuel hw1 hw2
          refine z_iload F 5 dX6_write_75 rfl ?_
          refine z_aload_n F 3 dX6_write_77 rfl rfl ?_
          refine z_get F fl_X6_103 ((zWd_at (by omega)).trans (zAll_s t o (i := (s 10 v 0).toNat) (by omega))) rfl dX6_write_78 ?_
          refine z_icmp_ge F 135 dX6_write_81 (by decide) (by omega) (by omega) (fun c_7 => ?_) (fun c_7 => ?_)
          · skip
            have hwe : w.toNat = zSc s (s 10 v 0).toNat := by have := (hc.sc (s 10 v 0).toNat).2; omega
            exact z_retv F rfl (by first | decide | assumption | omega) (by first | decide | assumption | omega) dX6_write_135 ⟨rfl, by rw [hwe, zWd_end]⟩
          · skip
            have ho1 := hc.off (s 10 v 0).toNat w.toNat
            have ho2 := hc.offm (s 10 v 0).toNat w.toNat 1
            have ho3 := hc.offl (a := (s 10 v 0).toNat) (k := w.toNat + 1) (by have := (hc.sc (s 10 v 0).toNat).2; omega)
            refine z_aload_n F 3 dX6_write_84 rfl rfl ?_
            refine z_iload F 5 dX6_write_85 rfl ?_
            refine z_callV F [.int (zI w)] [] (c_X4_isRest F.2.2.1 G (a := w) (by omega) (zAll (zWd s (zWf s v b w.toNat)) t o) ((zWd_at (by omega)).trans (zAll_s t o (show (((s 10 v 0).toNat : Nat) : Int) < s 4 0 0 by omega))) ((zWd_at (by omega)).trans (zAll_s1 t o (show (((s 10 v 0).toNat : Nat) : Int) < s 4 0 0 by omega))) ((zWd_at (by omega)).trans (zAll_s2 t o (show (((s 10 v 0).toNat : Nat) : Int) < s 4 0 0 by omega))) ((zWd_at (by omega)).trans (zAll_s3 t o (show (((s 10 v 0).toNat : Nat) : Int) < s 4 0 0 by omega))) (zss_r hc (s 10 v 0).toNat)) cv_X6_221 ((zWd_at (by omega)).trans (zAll_s t o (i := (s 10 v 0).toNat) (by omega))) rfl rfl rfl ⟨by decide, by decide⟩ ⟨by decide, by decide⟩ (Nat.le_of_ble_eq_true rfl) dX6_write_87 z_nx (z_ki (fun x_8 M_8 h_8 => ?_))
            have hx9 := (h_8).1.symm
            have hm9 := (h_8).2.symm
            subst hx9
            subst hm9
            have hz : zR (if ((0 ≤ w ∧ w < 5) ∧ (if (((w.toNat : Nat)) : Int) < s 5 ((s 10 v 0).toNat) 0 then s 6 ((s 10 v 0).toNat) w.toNat else 0) = -1) then 1 else 0) := zR_if
            refine z_if_ne F 129 dX6_write_90 (by decide) (by omega) (fun c_9 => ?_) (fun c_9 => ?_)
            · skip
              have hr9 : s 6 ((s 10 v 0).toNat) w.toNat = -1 := by
                have h9 : ((0 ≤ w ∧ w < 5) ∧ (if (((w.toNat : Nat)) : Int) < s 5 ((s 10 v 0).toNat) 0 then s 6 ((s 10 v 0).toNat) w.toNat else 0) = -1) := Classical.byContradiction fun h => by rw [if_neg h] at c_9; omega
                have h8 := h9.2
                rwa [if_pos (by omega)] at h8
              refine z_M (M' := (zAll (zWd s (zWf s v b (w.toNat + 1))) t o)) (by rw [zWf_r hr9]) ?_
              refine z_iinc F 5 [(5, .int (zI (w + 1))), (0, .ref 0), (1, .ref (64 * v + 14)), (2, .int (zI b)), (3, .ref (64 * (s 10 v 0).toNat + 10)), (4, .ref (64 * ((s 11 v 0).toNat + 4) + 6))] dX6_write_129 rfl (by decide) rfl ?_
              refine z_goto F 75 dX6_write_132 (by decide) ?_
              refine z_lv [(0, .ref 0), (1, .ref (64 * v + 14)), (2, .int (zI b)), (3, .ref (64 * (s 10 v 0).toNat + 10)), (4, .ref (64 * ((s 11 v 0).toNat + 4) + 6)), (5, .int (zI (w + 1)))] [1, 2, 3, 4, 5, 0] rfl ?_
              refine z_M (M' := (zAll (zWd s (zWf s v b (w + 1).toNat)) t o)) (by rw [show (w + 1).toNat = w.toNat + 1 by omega]) ?_
              exact L1_ih (w + 1) (by omega) (by omega) (by omega)
            · skip
              have hr9 : ¬ s 6 ((s 10 v 0).toNat) w.toNat = -1 := fun h => by
                rw [if_pos ⟨⟨by omega, by omega⟩, by rw [if_pos (by omega)]; exact h⟩] at c_9
                omega
              refine z_aload_n F 1 dX6_write_93 rfl rfl ?_
              refine z_get F fl_X6_144 ((zWd_at (by omega)).trans (zAll_v t o (i := v) (by omega))) rfl dX6_write_94 ?_
              refine z_aload_n F 3 dX6_write_97 rfl rfl ?_
              refine z_iload F 5 dX6_write_98 rfl ?_
              refine z_callV F [.int (zI w)] [.int (zI (s 13 v 0))] (c_X4_stepFrom F.2.2.1 G (a := w) (by omega) (zAll (zWd s (zWf s v b w.toNat)) t o) ((zWd_at (by omega)).trans (zAll_s t o (show (((s 10 v 0).toNat : Nat) : Int) < s 4 0 0 by omega))) ((zWd_at (by omega)).trans (zAll_s1 t o (show (((s 10 v 0).toNat : Nat) : Int) < s 4 0 0 by omega))) ((zWd_at (by omega)).trans (zAll_s2 t o (show (((s 10 v 0).toNat : Nat) : Int) < s 4 0 0 by omega))) ((zWd_at (by omega)).trans (zAll_s3 t o (show (((s 10 v 0).toNat : Nat) : Int) < s 4 0 0 by omega)))) cv_X6_224 ((zWd_at (by omega)).trans (zAll_s t o (i := (s 10 v 0).toNat) (by omega))) rfl rfl rfl ⟨by decide, by decide⟩ ⟨by decide, by decide⟩ (Nat.le_of_ble_eq_true rfl) dX6_write_100 z_nx (z_ki (fun x_10 M_10 h_10 => ?_))
              have hx9 := (h_10).1.symm
              have hm9 := (h_10).2.symm
              subst hx9
              subst hm9
              refine z_ti (y := zOff s ((s 10 v 0).toNat) w.toNat) (by rw [if_pos (show 0 ≤ w ∧ w < 5 by omega)]; exact if_pos (by omega)) ?_
              refine z_iadd F dX6_write_103 ?_
              refine z_istore F [(6, .int (zI ((s 13 v 0) + (zOff s ((s 10 v 0).toNat) w.toNat)))), (0, .ref 0), (1, .ref (64 * v + 14)), (2, .int (zI b)), (3, .ref (64 * (s 10 v 0).toNat + 10)), (4, .ref (64 * ((s 11 v 0).toNat + 4) + 6)), (5, .int (zI w))] dX6_write_104 (by decide) rfl ?_
              refine z_aload_n F 2 dX6_write_106 rfl rfl ?_
              refine z_get F fl_X6_144 ((zWd_at (by omega)).trans (zAll_v t o (i := v) (by omega))) rfl dX6_write_107 ?_
              refine z_aload_n F 4 dX6_write_110 rfl rfl ?_
              refine z_iload F 6 dX6_write_111 rfl ?_
              refine z_callV F [.int (zI w)] [.int (zI (s 13 v 0))] (c_X4_stepTo F.2.2.1 G (a := w) (by omega) (zAll (zWd s (zWf s v b w.toNat)) t o) ((zWd_at (by omega)).trans (zAll_s t o (show (((s 10 v 0).toNat : Nat) : Int) < s 4 0 0 by omega))) ((zWd_at (by omega)).trans (zAll_s1 t o (show (((s 10 v 0).toNat : Nat) : Int) < s 4 0 0 by omega))) ((zWd_at (by omega)).trans (zAll_s2 t o (show (((s 10 v 0).toNat : Nat) : Int) < s 4 0 0 by omega))) ((zWd_at (by omega)).trans (zAll_s3 t o (show (((s 10 v 0).toNat : Nat) : Int) < s 4 0 0 by omega)))) cv_X6_227 ((zWd_at (by omega)).trans (zAll_s t o (i := (s 10 v 0).toNat) (by omega))) rfl rfl rfl ⟨by decide, by decide⟩ ⟨by decide, by decide⟩ (Nat.le_of_ble_eq_true rfl) dX6_write_113 z_nx (z_ki (fun x_11 M_11 h_11 => ?_))
              have hx9 := (h_11).1.symm
              have hm9 := (h_11).2.symm
              subst hx9
              subst hm9
              refine z_ti (y := zOff s ((s 10 v 0).toNat) (w.toNat + 1)) (by rw [if_pos (show 0 ≤ w ∧ w < 5 by omega)]; exact if_pos (by omega)) ?_
              refine z_iadd F dX6_write_116 ?_
              refine z_istore F [(7, .int (zI ((s 13 v 0) + (zOff s ((s 10 v 0).toNat) (w.toNat + 1))))), (6, .int (zI ((s 13 v 0) + (zOff s ((s 10 v 0).toNat) w.toNat)))), (0, .ref 0), (1, .ref (64 * v + 14)), (2, .int (zI b)), (3, .ref (64 * (s 10 v 0).toNat + 10)), (4, .ref (64 * ((s 11 v 0).toNat + 4) + 6)), (5, .int (zI w))] dX6_write_117 (by decide) rfl ?_
              refine z_aload F 6 dX6_write_119 rfl ?_
              refine z_iload F 1 dX6_write_121 rfl ?_
              refine z_iload F 0 dX6_write_123 rfl ?_
              refine z_iload_n F 4 dX6_write_125 rfl rfl ?_
              refine z_callV F [.int (zI ((s 13 v 0) + (zOff s ((s 10 v 0).toNat) w.toNat))), .int (zI ((s 13 v 0) + (zOff s ((s 10 v 0).toNat) (w.toNat + 1)))), .int (zI b)] [] (c_X0_write F.2.2.1 G (by omega) (by omega) (zAll (zWd s (zWf s v b w.toNat)) t o) ((zWd_at (by omega)).trans (zAll_d6 t o (i := ((s 11 v 0).toNat + 4)) (by omega))) (zAll_d7 (s := (zWd s (zWf s v b w.toNat))) t o (i := ((s 11 v 0).toNat + 4)) (show ((((s 11 v 0).toNat + 4) : Nat) : Int) < 4 + s 0 0 0 by omega)) (zAll_d8 (s := (zWd s (zWf s v b w.toNat))) t o (i := ((s 11 v 0).toNat + 4)) (show ((((s 11 v 0).toNat + 4) : Nat) : Int) < 4 + s 0 0 0 by omega)) (by omega) (by omega) (by omega) (by omega) (fun j => by have h9 := zWf_b hb9 (v := v) (b := b) (by omega) w.toNat ((s 11 v 0).toNat + 4) j; exact ⟨Int.le_trans (by decide) h9.1, Int.lt_of_le_of_lt h9.2 (by decide)⟩)) cv_X6_278 ((zWd_at (by omega)).trans (zAll_d6 t o (i := ((s 11 v 0).toNat + 4)) (by omega))) rfl rfl rfl ⟨by decide, by decide⟩ ⟨by decide, by decide⟩ (Nat.le_of_ble_eq_true rfl) dX6_write_126 z_nx (z_kv (fun M_12 h_12 => ?_))
              have hm9 := ((h_12).trans (zWr_m hvv hr9 ⟨by omega, by omega⟩)).symm
              subst hm9
              refine z_iinc F 7 [(5, .int (zI (w + 1))), (7, .int (zI ((s 13 v 0) + (zOff s ((s 10 v 0).toNat) (w.toNat + 1))))), (6, .int (zI ((s 13 v 0) + (zOff s ((s 10 v 0).toNat) w.toNat)))), (0, .ref 0), (1, .ref (64 * v + 14)), (2, .int (zI b)), (3, .ref (64 * (s 10 v 0).toNat + 10)), (4, .ref (64 * ((s 11 v 0).toNat + 4) + 6))] dX6_write_129 rfl (by decide) rfl ?_
              refine z_goto F 75 dX6_write_132 (by decide) ?_
              refine z_lv [(0, .ref 0), (1, .ref (64 * v + 14)), (2, .int (zI b)), (3, .ref (64 * (s 10 v 0).toNat + 10)), (4, .ref (64 * ((s 11 v 0).toNat + 4) + 6)), (5, .int (zI (w + 1)))] [3, 4, 5, 6, 7, 0] rfl ?_
              refine z_M (M' := (zAll (zWd s (zWf s v b (w + 1).toNat)) t o)) (by rw [show (w + 1).toNat = w.toNat + 1 by omega]) ?_
              exact L1_ih (w + 1) (by omega) (by omega) (by omega)
      refine z_lv [(0, .ref 0), (1, .ref (64 * v + 14)), (2, .int (zI b)), (3, .ref (64 * (s 10 v 0).toNat + 10)), (4, .ref (64 * (((s 11 v 0).toNat) + 4) + 6)), (5, .int (zI 0))] [3, 4, 5, 2, 1, 0] rfl ?_
      refine z_M (M' := (zAll (zWd s (zWf s v b (0 : Int).toNat)) t o)) rfl ?_
      exact L1 _ 0 (Nat.lt_succ_self _) (by omega) (by omega)
    · skip
      rw [if_pos hvv.2.2.2] at c_4; omega

