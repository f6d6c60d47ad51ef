/-! ===== the book: visits get their places ===== -/
/-- only the days differ -/
def zWd (s : zS) (F : Nat → Nat → Int) : zS := fun g p q => if g = 21 then F p q else s g p q
theorem zWd_at {s t : zS} {o : zOx} {F : Nat → Nat → Int} {q : Nat} (h : q % 64 ≠ 7 ∧ q % 64 ≠ 8) : zAll (zWd s F) t o q = zAll s t o q := by
  have key : ∀ kd i, kd ≠ 7 ∧ kd ≠ 8 → kd < 16 ∧ kd ≠ 5 → zCls (zWd s F) kd i = zCls s kd i := fun kd i h1 h2 => by
    rcases (show kd = 0 ∨ kd = 1 ∨ kd = 2 ∨ kd = 3 ∨ kd = 4 ∨ kd = 6 ∨ kd = 9 ∨ kd = 10 ∨ kd = 11 ∨ kd = 12 ∨ kd = 13 ∨ kd = 14 ∨ kd = 15 by omega) with e | e | e | e | e | e | e | e | e | e | e | e | e <;> subst e
    · rfl
    · rfl
    · rfl
    · rfl
    · rfl
    · rfl
    · rfl
    · exact zCls10 Iff.rfl (fun _ => ⟨rfl, rfl, rfl, rfl⟩)
    · rfl
    · rfl
    · rfl
    · rfl
    · rfl
  simp only [zAll]
  by_cases h5 : q % 64 = 5
  · rw [if_pos h5, if_pos h5]
  · rw [if_neg h5, if_neg h5]
    by_cases h16 : q % 64 < 16
    · rw [if_pos h16, if_pos h16]
      exact key _ _ h ⟨h16, h5⟩
    · rw [if_neg h16, if_neg h16]
/-- the days while a visit's marks are written, as far as step k -/
def zWf (s : zS) (v : Nat) (b : Int) (k : Nat) : Nat → Nat → Int := fun p => if (p : Int) = s 12 v 0 then zfil (s 21 p) (s 13 v 0) (s 13 v 0 + zLen s (s 10 v 0).toNat) b else if (p : Int) = s 11 v 0 + 4 then zMk s (s 10 v 0).toNat (s 13 v 0) b (s 21 p) k else s 21 p
theorem zWf_b {s : zS} (h : zB s) {v : Nat} {b : Int} (hb : -1 ≤ b ∧ b ≤ 1000) (k p q : Nat) : -1 ≤ zWf s v b k p q ∧ zWf s v b k p q ≤ 1000 := by
  unfold zWf
  split
  · exact zfil_b (h 21 p) hb q
  · split
    · exact zMk_b (h 21 p) hb k q
    · exact h 21 p q
theorem zWd_end {s : zS} {v : Nat} {b : Int} : zWd s (zWf s v b (zSc s (s 10 v 0).toNat)) = zOpM s v b := by
  funext g p q
  unfold zWd zOpM zWf
  by_cases h : g = 21
  · rw [if_pos h, if_pos h]
    by_cases h1 : (p : Int) = s 12 v 0
    · rw [if_pos h1, if_pos h1]
    · rw [if_neg h1, if_neg h1]
      by_cases h2 : (p : Int) = s 11 v 0 + 4
      · rw [if_pos h2, if_pos h2]
      · rw [if_neg h2, if_neg h2]
  · rw [if_neg h, if_neg h]
theorem zWr_c {s t : zS} {o : zOx} {v : Nat} {b : Int} (h0 : 0 ≤ s 13 v 0 ∧ s 13 v 0 + zLen s (s 10 v 0).toNat ≤ 600 ∧ (0 ≤ s 11 v 0 ∧ s 11 v 0 < s 0 0 0) ∧ (0 ≤ s 12 v 0 ∧ s 12 v 0 < 4)) : (if 0 ≤ s 13 v 0 ∧ s 13 v 0 + zLen s (s 10 v 0).toNat ≤ 600 then zu (zu (zAll s t o) (64 * (s 12 v 0).toNat + 7) (zAi 0 600 (zfil (s 21 (s 12 v 0).toNat) (s 13 v 0) (s 13 v 0 + zLen s (s 10 v 0).toNat) b))) (64 * (s 12 v 0).toNat + 8) (zAi 0 601 (zTk (zfil (s 21 (s 12 v 0).toNat) (s 13 v 0) (s 13 v 0 + zLen s (s 10 v 0).toNat) b))) else zAll s t o) = zAll (zWd s (zWf s v b 0)) t o := by
  rw [if_pos ⟨h0.1, h0.2.1⟩, zH_day (by omega)]
  congr 1
  funext g p q
  unfold zsd zWd zWf
  by_cases h : g = 21
  · rw [if_pos h]
    by_cases h1 : (p : Int) = s 12 v 0
    · rw [if_pos h1, if_pos ⟨h, by omega⟩, show (s 12 v 0).toNat = p by omega]
    · rw [if_neg h1, if_neg (fun h9 => h1 (by omega)), h]
      by_cases h2 : (p : Int) = s 11 v 0 + 4
      · rw [if_pos h2]
        rfl
      · rw [if_neg h2]
  · rw [if_neg h, if_neg (fun h9 => h h9.1)]
theorem zWf_r {s : zS} {v k : Nat} {b : Int} (h : s 6 (s 10 v 0).toNat k = -1) : zWf s v b k = zWf s v b (k + 1) := by
  funext p q
  unfold zWf
  rw [zMk, if_pos h]
theorem zWr_m {s t : zS} {o : zOx} {v k : Nat} {b : Int} (h0 : 0 ≤ s 13 v 0 ∧ s 13 v 0 + zLen s (s 10 v 0).toNat ≤ 600 ∧ (0 ≤ s 11 v 0 ∧ s 11 v 0 < s 0 0 0) ∧ (0 ≤ s 12 v 0 ∧ s 12 v 0 < 4)) (hr : ¬ s 6 (s 10 v 0).toNat k = -1) (h1 : 0 ≤ s 13 v 0 + zOff s (s 10 v 0).toNat k ∧ s 13 v 0 + zOff s (s 10 v 0).toNat (k + 1) ≤ 600) : (if 0 ≤ s 13 v 0 + zOff s (s 10 v 0).toNat k ∧ s 13 v 0 + zOff s (s 10 v 0).toNat (k + 1) ≤ 600 then zu (zu (zAll (zWd s (zWf s v b k)) t o) (64 * ((s 11 v 0).toNat + 4) + 7) (zAi 0 600 (zfil (zWd s (zWf s v b k) 21 ((s 11 v 0).toNat + 4)) (s 13 v 0 + zOff s (s 10 v 0).toNat k) (s 13 v 0 + zOff s (s 10 v 0).toNat (k + 1)) b))) (64 * ((s 11 v 0).toNat + 4) + 8) (zAi 0 601 (zTk (zfil (zWd s (zWf s v b k) 21 ((s 11 v 0).toNat + 4)) (s 13 v 0 + zOff s (s 10 v 0).toNat k) (s 13 v 0 + zOff s (s 10 v 0).toNat (k + 1)) b))) else zAll (zWd s (zWf s v b k)) t o) = zAll (zWd s (zWf s v b (k + 1))) t o := by
  rw [if_pos h1, zH_day (s := zWd s (zWf s v b k)) (show ((((s 11 v 0).toNat + 4 : Nat)) : Int) < 4 + s 0 0 0 by omega)]
  congr 1
  funext g p q
  unfold zsd
  by_cases h : g = 21 ∧ p = (s 11 v 0).toNat + 4
  · rw [if_pos h]
    have e1 : zWd s (zWf s v b k) 21 ((s 11 v 0).toNat + 4) = zMk s (s 10 v 0).toNat (s 13 v 0) b (s 21 p) k := by
      show zWf s v b k ((s 11 v 0).toNat + 4) = _
      unfold zWf
      rw [if_neg (by omega), if_pos (by omega), h.2]
    rw [e1]
    show _ = (if g = 21 then zWf s v b (k + 1) p q else s g p q)
    rw [if_pos h.1]
    unfold zWf
    rw [if_neg (by omega), if_pos (by omega), zMk, if_neg hr]
  · rw [if_neg h]
    unfold zWd
    by_cases h2 : g = 21
    · rw [if_pos h2, if_pos h2]
      unfold zWf
      have h3 : ¬ (p : Int) = s 11 v 0 + 4 := fun h9 => h ⟨h2, by omega⟩
      by_cases h4 : (p : Int) = s 12 v 0
      · rw [if_pos h4, if_pos h4]
      · rw [if_neg h4, if_neg h4, if_neg h3, if_neg h3]
    · rw [if_neg h2, if_neg h2]
abbrev rX6_write : Room := { frames := 3, cells := 0, slots := 0, locals := 64 }
set_option maxRecDepth 100000 in
set_option maxHeartbeats 4000000 in
theorem c_X6_write {l : Launch} (hfl : l.stackTraces = false) (G : zG) {s t : zS} {o : zOx} (hc : zC1 s) (hb9 : zB s) {v : Nat} {b : Int} (hv : (v : Int) < s 9 0 0) (hd : ¬ s 13 v 0 = -1) (hbm : -1 ≤ b ∧ b ≤ 100)  : zCn l G yX6_write (.code yX6_write cX6_write 8 none) rX6_write [.ref 0, .ref (64 * v + 14), .int (zI b)] (zAll s t o) (zRv (fun M2 => M2 = zAll (zOpM s v b) t o)) zN := by
  refine zStart hfl (by decide) (own := RX6) rfl [(0, .ref 0), (1, .ref (64 * v + 14)), (2, .int (zI b))] (Nat.le_of_ble_eq_true rfl) rfl (fun k hkl hinit hk0 F => ?_)
  have hn0 := hc.1
  have hn4 := hc.2.1
  have hn9 := hc.2.2.1
  have hn14 := hc.2.2.2.1
  have hn18 := hc.2.2.2.2.1
  have hvv := (hc.2.2.2.2.2.2.2.2.2.2.2.2.2.1 v hv).resolve_left hd
  have hvs := hc.2.2.2.2.2.2.2.2.2.2.1 v hv
  have hln := hc.len (s 10 v 0).toNat
  have hsc := hc.2.2.2.2.2.2.2.1 (s 10 v 0).toNat
  refine z_aload_n F 0 dX6_write_0 rfl rfl ?_
  refine z_aload_n F 1 dX6_write_1 rfl rfl ?_
  refine z_get F fl_X6_138 (zAll_v t o (i := v) (by omega)) rfl dX6_write_2 ?_
  refine z_ti (y := s 11 v 0) (if_neg hd) ?_
  refine z_callV F [.int (zI (s 11 v 0))] [] (c_X6_isMember F.2.2.1 G hc hb9 (a := s 11 v 0) (hb9.r 11 v 0)) cv_X6_242 (zAll_0 s t o) rfl rfl rfl ⟨by decide, by decide⟩ ⟨by decide, by decide⟩ (Nat.le_of_ble_eq_true rfl) dX6_write_5 z_nx (z_ki (fun x_1 M_1 h_1 => ?_))
  have hx9 := (h_1).1.symm
  have hm9 := (h_1).2.symm
  subst hx9
  subst hm9
  have hz : zR (if 0 ≤ s 11 v 0 ∧ s 11 v 0 < s 0 0 0 then 1 else 0) := zR_if
  refine z_if_eq F 21 dX6_write_8 (by decide) (by omega) (fun c_2 => ?_) (fun c_2 => ?_)
  · skip
    rw [if_pos hvv.2.2.1] at c_2; omega
  · skip
    refine z_aload_n F 1 dX6_write_11 rfl rfl ?_
    refine z_get F fl_X6_141 (zAll_v t o (i := v) (by omega)) rfl dX6_write_12 ?_
    refine z_ti (y := s 12 v 0) (if_neg hd) ?_
    refine z_callS F [.int (zI (s 12 v 0))] [] (c_X6_isChair F.2.2.1 G (hb9.r 12 v 0) (zAll s t o)) cs_X6_209 rfl ⟨by decide, by decide⟩ ⟨by decide, by decide⟩ (Nat.le_of_ble_eq_true rfl) dX6_write_15 z_nx (z_ki (fun x_3 M_3 h_3 => ?_))
    have hx9 := (h_3).1.symm
    have hm9 := (h_3).2.symm
    subst hx9
    subst hm9
    have hz2 : zR (if 0 ≤ s 12 v 0 ∧ s 12 v 0 < 4 then 1 else 0) := zR_if
    refine z_if_ne F 22 dX6_write_18 (by decide) (by omega) (fun c_4 => ?_) (fun c_4 => ?_)
    · skip
      refine z_aload_n F 1 dX6_write_22 rfl rfl ?_
      refine z_get F fl_X6_151 (zAll_v t o (i := v) (by omega)) rfl dX6_write_23 ?_
      refine z_astore_n F [(3, .ref (64 * (s 10 v 0).toNat + 10)), (0, .ref 0), (1, .ref (64 * v + 14)), (2, .int (zI b))] dX6_write_26 rfl (by decide) rfl ?_
      refine z_aload_n F 1 dX6_write_27 rfl rfl ?_
      refine z_get F fl_X6_27 (zAll_0 s t o) rfl dX6_write_28 ?_
      refine z_aload_n F 2 dX6_write_31 rfl rfl ?_
      refine z_get F fl_X6_141 (zAll_v t o (i := v) (by omega)) rfl dX6_write_32 ?_
      refine z_ti (y := s 12 v 0) (if_neg hd) ?_
      refine z_aald3 (a := 64 * (s 12 v 0).toNat + 6) F (zAll_3 s t o) (by omega) (by omega) (by decide) (if_pos (by omega)) dX6_write_35 ?_
      refine z_aload_n F 2 dX6_write_36 rfl rfl ?_
      refine z_get F fl_X6_144 (zAll_v t o (i := v) (by omega)) rfl dX6_write_37 ?_
      refine z_aload_n F 2 dX6_write_40 rfl rfl ?_
      refine z_get F fl_X6_144 (zAll_v t o (i := v) (by omega)) rfl dX6_write_41 ?_
      refine z_aload_n F 0 dX6_write_44 rfl rfl ?_
      refine z_get F fl_X6_186 (zAll_s t o (i := (s 10 v 0).toNat) (by omega)) rfl dX6_write_45 ?_
      refine z_iadd F dX6_write_48 ?_
      refine z_iload_n F 3 dX6_write_49 rfl rfl ?_
      refine z_callV F [.int (zI (s 13 v 0)), .int (zI ((s 13 v 0) + (zLen s ((s 10 v 0).toNat)))), .int (zI b)] [] (c_X0_write F.2.2.1 G (by omega) (by omega) (zAll s t o) (zAll_d6 t o (i := (s 12 v 0).toNat) (by omega)) (zAll_d7 t o (i := (s 12 v 0).toNat) (by omega)) (zAll_d8 t o (i := (s 12 v 0).toNat) (by omega)) (by omega) (by omega) (by omega) (by omega) (fun j => hb9.r 21 _ j)) cv_X6_278 (zAll_d6 t o (i := (s 12 v 0).toNat) (by omega)) rfl rfl rfl ⟨by decide, by decide⟩ ⟨by decide, by decide⟩ (Nat.le_of_ble_eq_true rfl) dX6_write_50 z_nx (z_kv (fun M_5 h_5 => ?_))
      have hm9 := ((h_5).trans (zWr_c hvv)).symm
      subst hm9
      refine z_aload_n F 1 dX6_write_53 rfl rfl ?_
      refine z_get F fl_X6_10 ((zWd_at (by omega)).trans (zAll_0 s t o)) rfl dX6_write_54 ?_
      refine z_aload_n F 2 dX6_write_57 rfl rfl ?_
      refine z_get F fl_X6_138 ((zWd_at (by omega)).trans (zAll_v t o (i := v) (by omega))) rfl dX6_write_58 ?_
      refine z_ti (y := s 11 v 0) (if_neg hd) ?_
      refine z_callV F [.int (zI (s 11 v 0))] [] (g_m F.2.2.1 G (s := zWd s (zWf s v b 0)) (t := t) (o := o) hc (i := s 11 v 0) (by omega) (show s 11 v 0 < s 0 0 0 by omega)) cv_X6_99 ((zWd_at (by omega)).trans (zAll_1 s t o)) rfl rfl rfl ⟨by decide, by decide⟩ ⟨by decide, by decide⟩ (Nat.le_of_ble_eq_true rfl) dX6_write_61 z_nx (z_kr (fun x_6 M_6 h_6 => ?_))
      have hx9 := (h_6).1.symm
      have hm9 := (h_6).2.symm
      subst hx9
      subst hm9
      refine z_cast (ci := 2) F (zr_3 _ (List.mem_of_getElem? (i := 19) rfl)) ((zWd_at (by omega)).trans (zAll_m t o (i := (s 11 v 0).toNat) (by omega))) rfl dX6_write_64 ?_
      refine z_get F fl_X6_202 ((zWd_at (by omega)).trans (zAll_m t o (i := (s 11 v 0).toNat) (by omega))) rfl dX6_write_67 ?_
      refine z_astore F [(4, .ref (64 * (((s 11 v 0).toNat) + 4) + 6)), (3, .ref (64 * (s 10 v 0).toNat + 10)), (0, .ref 0), (1, .ref (64 * v + 14)), (2, .int (zI b))] dX6_write_70 (by decide) rfl ?_
      refine z_iconst (z := 0) F dX6_write_72 (by decide) ?_
      refine z_istore F [(5, .int (zI 0)), (4, .ref (64 * (((s 11 v 0).toNat) + 4) + 6)), (3, .ref (64 * (s 10 v 0).toNat + 10)), (0, .ref 0), (1, .ref (64 * v + 14)), (2, .int (zI b))] dX6_write_73 (by decide) rfl ?_
      have L1 : ∀ (fuel : Nat) (w : Int), (s 5 (s 10 v 0).toNat 0 - w).toNat < fuel → 0 ≤ w → w ≤ s 5 (s 10 v 0).toNat 0 → zJ k G rX6_write 8 (zMQ k G rX6_write (zRv (fun M2 => M2 = zAll (zOpM s v b) t o)) zN) (zAll (zWd s (zWf s v b w.toNat)) t o) 0 0 75 [(0, .ref 0), (1, .ref (64 * v + 14)), (2, .int (zI b)), (3, .ref (64 * (s 10 v 0).toNat + 10)), (4, .ref (64 * ((s 11 v 0).toNat + 4) + 6)), (5, .int (zI w))] [] := by
        intro fuel
        induction fuel with
        | zero => intros; omega
        | succ fuel L1_ih =>
          intro w hfuel hw1 hw2
          refine z_iload F 5 dX6_write_75 rfl ?_
          refine z_aload_n F 3 dX6_write_77 rfl rfl ?_
          refine z_get F fl_X6_103 ((zWd_at (by omega)).trans (zAll_s t o (i := (s 10 v 0).toNat) (by omega))) rfl dX6_write_78 ?_
          refine z_icmp_ge F 135 dX6_write_81 (by decide) (by omega) (by omega) (fun c_7 => ?_) (fun c_7 => ?_)
          · skip
            have hwe : w.toNat = zSc s (s 10 v 0).toNat := by have := (hc.sc (s 10 v 0).toNat).2; omega
            exact z_retv F rfl (by first | decide | assumption | omega) (by first | decide | assumption | omega) dX6_write_135 ⟨rfl, by rw [hwe, zWd_end]⟩
          · skip
            have ho1 := hc.off (s 10 v 0).toNat w.toNat
            have ho2 := hc.offm (s 10 v 0).toNat w.toNat 1
            have ho3 := hc.offl (a := (s 10 v 0).toNat) (k := w.toNat + 1) (by have := (hc.sc (s 10 v 0).toNat).2; omega)
            refine z_aload_n F 3 dX6_write_84 rfl rfl ?_
            refine z_iload F 5 dX6_write_85 rfl ?_
            refine z_callV F [.int (zI w)] [] (c_X4_isRest F.2.2.1 G (a := w) (by omega) (zAll (zWd s (zWf s v b w.toNat)) t o) ((zWd_at (by omega)).trans (zAll_s t o (show (((s 10 v 0).toNat : Nat) : Int) < s 4 0 0 by omega))) ((zWd_at (by omega)).trans (zAll_s1 t o (show (((s 10 v 0).toNat : Nat) : Int) < s 4 0 0 by omega))) ((zWd_at (by omega)).trans (zAll_s2 t o (show (((s 10 v 0).toNat : Nat) : Int) < s 4 0 0 by omega))) ((zWd_at (by omega)).trans (zAll_s3 t o (show (((s 10 v 0).toNat : Nat) : Int) < s 4 0 0 by omega))) (zss_r hc (s 10 v 0).toNat)) cv_X6_221 ((zWd_at (by omega)).trans (zAll_s t o (i := (s 10 v 0).toNat) (by omega))) rfl rfl rfl ⟨by decide, by decide⟩ ⟨by decide, by decide⟩ (Nat.le_of_ble_eq_true rfl) dX6_write_87 z_nx (z_ki (fun x_8 M_8 h_8 => ?_))
            have hx9 := (h_8).1.symm
            have hm9 := (h_8).2.symm
            subst hx9
            subst hm9
            have hz : zR (if ((0 ≤ w ∧ w < 5) ∧ (if (((w.toNat : Nat)) : Int) < s 5 ((s 10 v 0).toNat) 0 then s 6 ((s 10 v 0).toNat) w.toNat else 0) = -1) then 1 else 0) := zR_if
            refine z_if_ne F 129 dX6_write_90 (by decide) (by omega) (fun c_9 => ?_) (fun c_9 => ?_)
            · skip
              have hr9 : s 6 ((s 10 v 0).toNat) w.toNat = -1 := by
                have h9 : ((0 ≤ w ∧ w < 5) ∧ (if (((w.toNat : Nat)) : Int) < s 5 ((s 10 v 0).toNat) 0 then s 6 ((s 10 v 0).toNat) w.toNat else 0) = -1) := Classical.byContradiction fun h => by rw [if_neg h] at c_9; omega
                have h8 := h9.2
                rwa [if_pos (by omega)] at h8
              refine z_M (M' := (zAll (zWd s (zWf s v b (w.toNat + 1))) t o)) (by rw [zWf_r hr9]) ?_
              refine z_iinc F 5 [(5, .int (zI (w + 1))), (0, .ref 0), (1, .ref (64 * v + 14)), (2, .int (zI b)), (3, .ref (64 * (s 10 v 0).toNat + 10)), (4, .ref (64 * ((s 11 v 0).toNat + 4) + 6))] dX6_write_129 rfl (by decide) rfl ?_
              refine z_goto F 75 dX6_write_132 (by decide) ?_
              refine z_lv [(0, .ref 0), (1, .ref (64 * v + 14)), (2, .int (zI b)), (3, .ref (64 * (s 10 v 0).toNat + 10)), (4, .ref (64 * ((s 11 v 0).toNat + 4) + 6)), (5, .int (zI (w + 1)))] [1, 2, 3, 4, 5, 0] rfl ?_
              refine z_M (M' := (zAll (zWd s (zWf s v b (w + 1).toNat)) t o)) (by rw [show (w + 1).toNat = w.toNat + 1 by omega]) ?_
              exact L1_ih (w + 1) (by omega) (by omega) (by omega)
            · skip
              have hr9 : ¬ s 6 ((s 10 v 0).toNat) w.toNat = -1 := fun h => by
                rw [if_pos ⟨⟨by omega, by omega⟩, by rw [if_pos (by omega)]; exact h⟩] at c_9
                omega
              refine z_aload_n F 1 dX6_write_93 rfl rfl ?_
              refine z_get F fl_X6_144 ((zWd_at (by omega)).trans (zAll_v t o (i := v) (by omega))) rfl dX6_write_94 ?_
              refine z_aload_n F 3 dX6_write_97 rfl rfl ?_
              refine z_iload F 5 dX6_write_98 rfl ?_
              refine z_callV F [.int (zI w)] [.int (zI (s 13 v 0))] (c_X4_stepFrom F.2.2.1 G (a := w) (by omega) (zAll (zWd s (zWf s v b w.toNat)) t o) ((zWd_at (by omega)).trans (zAll_s t o (show (((s 10 v 0).toNat : Nat) : Int) < s 4 0 0 by omega))) ((zWd_at (by omega)).trans (zAll_s1 t o (show (((s 10 v 0).toNat : Nat) : Int) < s 4 0 0 by omega))) ((zWd_at (by omega)).trans (zAll_s2 t o (show (((s 10 v 0).toNat : Nat) : Int) < s 4 0 0 by omega))) ((zWd_at (by omega)).trans (zAll_s3 t o (show (((s 10 v 0).toNat : Nat) : Int) < s 4 0 0 by omega)))) cv_X6_224 ((zWd_at (by omega)).trans (zAll_s t o (i := (s 10 v 0).toNat) (by omega))) rfl rfl rfl ⟨by decide, by decide⟩ ⟨by decide, by decide⟩ (Nat.le_of_ble_eq_true rfl) dX6_write_100 z_nx (z_ki (fun x_10 M_10 h_10 => ?_))
              have hx9 := (h_10).1.symm
              have hm9 := (h_10).2.symm
              subst hx9
              subst hm9
              refine z_ti (y := zOff s ((s 10 v 0).toNat) w.toNat) (by rw [if_pos (show 0 ≤ w ∧ w < 5 by omega)]; exact if_pos (by omega)) ?_
              refine z_iadd F dX6_write_103 ?_
              refine z_istore F [(6, .int (zI ((s 13 v 0) + (zOff s ((s 10 v 0).toNat) w.toNat)))), (0, .ref 0), (1, .ref (64 * v + 14)), (2, .int (zI b)), (3, .ref (64 * (s 10 v 0).toNat + 10)), (4, .ref (64 * ((s 11 v 0).toNat + 4) + 6)), (5, .int (zI w))] dX6_write_104 (by decide) rfl ?_
              refine z_aload_n F 2 dX6_write_106 rfl rfl ?_
              refine z_get F fl_X6_144 ((zWd_at (by omega)).trans (zAll_v t o (i := v) (by omega))) rfl dX6_write_107 ?_
              refine z_aload_n F 4 dX6_write_110 rfl rfl ?_
              refine z_iload F 6 dX6_write_111 rfl ?_
              refine z_callV F [.int (zI w)] [.int (zI (s 13 v 0))] (c_X4_stepTo F.2.2.1 G (a := w) (by omega) (zAll (zWd s (zWf s v b w.toNat)) t o) ((zWd_at (by omega)).trans (zAll_s t o (show (((s 10 v 0).toNat : Nat) : Int) < s 4 0 0 by omega))) ((zWd_at (by omega)).trans (zAll_s1 t o (show (((s 10 v 0).toNat : Nat) : Int) < s 4 0 0 by omega))) ((zWd_at (by omega)).trans (zAll_s2 t o (show (((s 10 v 0).toNat : Nat) : Int) < s 4 0 0 by omega))) ((zWd_at (by omega)).trans (zAll_s3 t o (show (((s 10 v 0).toNat : Nat) : Int) < s 4 0 0 by omega)))) cv_X6_227 ((zWd_at (by omega)).trans (zAll_s t o (i := (s 10 v 0).toNat) (by omega))) rfl rfl rfl ⟨by decide, by decide⟩ ⟨by decide, by decide⟩ (Nat.le_of_ble_eq_true rfl) dX6_write_113 z_nx (z_ki (fun x_11 M_11 h_11 => ?_))
              have hx9 := (h_11).1.symm
              have hm9 := (h_11).2.symm
              subst hx9
              subst hm9
              refine z_ti (y := zOff s ((s 10 v 0).toNat) (w.toNat + 1)) (by rw [if_pos (show 0 ≤ w ∧ w < 5 by omega)]; exact if_pos (by omega)) ?_
              refine z_iadd F dX6_write_116 ?_
              refine z_istore F [(7, .int (zI ((s 13 v 0) + (zOff s ((s 10 v 0).toNat) (w.toNat + 1))))), (6, .int (zI ((s 13 v 0) + (zOff s ((s 10 v 0).toNat) w.toNat)))), (0, .ref 0), (1, .ref (64 * v + 14)), (2, .int (zI b)), (3, .ref (64 * (s 10 v 0).toNat + 10)), (4, .ref (64 * ((s 11 v 0).toNat + 4) + 6)), (5, .int (zI w))] dX6_write_117 (by decide) rfl ?_
              refine z_aload F 6 dX6_write_119 rfl ?_
              refine z_iload F 1 dX6_write_121 rfl ?_
              refine z_iload F 0 dX6_write_123 rfl ?_
              refine z_iload_n F 4 dX6_write_125 rfl rfl ?_
              refine z_callV F [.int (zI ((s 13 v 0) + (zOff s ((s 10 v 0).toNat) w.toNat))), .int (zI ((s 13 v 0) + (zOff s ((s 10 v 0).toNat) (w.toNat + 1)))), .int (zI b)] [] (c_X0_write F.2.2.1 G (by omega) (by omega) (zAll (zWd s (zWf s v b w.toNat)) t o) ((zWd_at (by omega)).trans (zAll_d6 t o (i := ((s 11 v 0).toNat + 4)) (by omega))) (zAll_d7 (s := (zWd s (zWf s v b w.toNat))) t o (i := ((s 11 v 0).toNat + 4)) (show ((((s 11 v 0).toNat + 4) : Nat) : Int) < 4 + s 0 0 0 by omega)) (zAll_d8 (s := (zWd s (zWf s v b w.toNat))) t o (i := ((s 11 v 0).toNat + 4)) (show ((((s 11 v 0).toNat + 4) : Nat) : Int) < 4 + s 0 0 0 by omega)) (by omega) (by omega) (by omega) (by omega) (fun j => by have h9 := zWf_b hb9 (v := v) (b := b) (by omega) w.toNat ((s 11 v 0).toNat + 4) j; exact ⟨Int.le_trans (by decide) h9.1, Int.lt_of_le_of_lt h9.2 (by decide)⟩)) cv_X6_278 ((zWd_at (by omega)).trans (zAll_d6 t o (i := ((s 11 v 0).toNat + 4)) (by omega))) rfl rfl rfl ⟨by decide, by decide⟩ ⟨by decide, by decide⟩ (Nat.le_of_ble_eq_true rfl) dX6_write_126 z_nx (z_kv (fun M_12 h_12 => ?_))
              have hm9 := ((h_12).trans (zWr_m hvv hr9 ⟨by omega, by omega⟩)).symm
              subst hm9
              refine z_iinc F 7 [(5, .int (zI (w + 1))), (7, .int (zI ((s 13 v 0) + (zOff s ((s 10 v 0).toNat) (w.toNat + 1))))), (6, .int (zI ((s 13 v 0) + (zOff s ((s 10 v 0).toNat) w.toNat)))), (0, .ref 0), (1, .ref (64 * v + 14)), (2, .int (zI b)), (3, .ref (64 * (s 10 v 0).toNat + 10)), (4, .ref (64 * ((s 11 v 0).toNat + 4) + 6))] dX6_write_129 rfl (by decide) rfl ?_
              refine z_goto F 75 dX6_write_132 (by decide) ?_
              refine z_lv [(0, .ref 0), (1, .ref (64 * v + 14)), (2, .int (zI b)), (3, .ref (64 * (s 10 v 0).toNat + 10)), (4, .ref (64 * ((s 11 v 0).toNat + 4) + 6)), (5, .int (zI (w + 1)))] [3, 4, 5, 6, 7, 0] rfl ?_
              refine z_M (M' := (zAll (zWd s (zWf s v b (w + 1).toNat)) t o)) (by rw [show (w + 1).toNat = w.toNat + 1 by omega]) ?_
              exact L1_ih (w + 1) (by omega) (by omega) (by omega)
      refine z_lv [(0, .ref 0), (1, .ref (64 * v + 14)), (2, .int (zI b)), (3, .ref (64 * (s 10 v 0).toNat + 10)), (4, .ref (64 * (((s 11 v 0).toNat) + 4) + 6)), (5, .int (zI 0))] [3, 4, 5, 2, 1, 0] rfl ?_
      refine z_M (M' := (zAll (zWd s (zWf s v b (0 : Int).toNat)) t o)) rfl ?_
      exact L1 _ 0 (Nat.lt_succ_self _) (by omega) (by omega)
    · skip
      rw [if_pos hvv.2.2.2] at c_4; omega

theorem zOpA_11 (s : zS) (v : Nat) (i c x : Int) : zOpA s v i c x 11 v 0 = i := if_pos ⟨rfl, rfl, rfl⟩
theorem zOpA_12 (s : zS) (v : Nat) (i c x : Int) : zOpA s v i c x 12 v 0 = c := if_pos ⟨rfl, rfl, rfl⟩
theorem zOpA_13 (s : zS) (v : Nat) (i c x : Int) : zOpA s v i c x 13 v 0 = x := if_pos ⟨rfl, rfl, rfl⟩
theorem zC1_A {s : zS} (h : zC1 s) {v : Nat} {i c x : Int} (hi : 0 ≤ i ∧ i < s 0 0 0) (h4 : 0 ≤ c ∧ c < 4) (hx : 0 ≤ x) (hx2 : x + zLen s (s 10 v 0).toNat ≤ 600) : zC1 (zOpA s v i c x) := by
  obtain ⟨c1, c2, c3, c4, c5, c6, c7, c8, c9, c10, c11, c12, c13, c14, c15⟩ := h
  refine ⟨c1, c2, c3, c4, c5, c6, c7, c8, c9, c10, c11, c12, c13, ?_, c15⟩
  intro w hw
  by_cases e : w = v
  · subst e
    rw [zOpA_11, zOpA_12, zOpA_13]
    exact Or.inr ⟨hx, hx2, hi, h4⟩
  · rw [show zOpA s v i c x 11 w 0 = s 11 w 0 from if_neg (fun h => e h.2.1), show zOpA s v i c x 12 w 0 = s 12 w 0 from if_neg (fun h => e h.2.1), show zOpA s v i c x 13 w 0 = s 13 w 0 from if_neg (fun h => e h.2.1)]
    exact c14 w hw
theorem zB_A {s : zS} (h : zB s) {v : Nat} {i c x : Int} (hi : 0 ≤ i ∧ i ≤ 1000) (h4 : 0 ≤ c ∧ c < 4) (hx : 0 ≤ x ∧ x ≤ 600) : zB (zOpA s v i c x) := zB_u (zB_u (zB_u h (by omega)) (by omega)) (by omega)
theorem zRoom_of {s : zS} {who : Nat → Bool} {a : Nat} {x : Int} (h : zRoomB s who a x = true) : ∃ i c : Nat, zGet s who a x = (i : Int) ∧ zChair s a x = (c : Int) ∧ i < (s 0 0 0).toNat ∧ c < 4 ∧ zCan s i a x = true ∧ zFr s c x (x + zLen s a) ∧ who i = true := by
  rw [zRoomB, Bool.and_eq_true, decide_eq_true_iff, decide_eq_true_iff] at h
  obtain ⟨c, h4, hc, hf⟩ := zChair_fr h.1
  obtain ⟨i, hi, hg, hw, hcan⟩ := zMem_none h.2
  exact ⟨i, c, hg, hc, hi, h4, hcan, hf, hw⟩
theorem zInv.place {s : zS} (h : zInv s) {v a : Nat} {who : Nat → Bool} {x : Int} (hv : (v : Int) < s 9 0 0) (hd : s 13 v 0 = -1) (ha : s 10 v 0 = (a : Int)) (hx : 0 ≤ x) (hx2 : x + zLen s a ≤ 600) (hr : zRoomB s who a x = true) : zInv (zOpL s v (zGet s who a x) (zChair s a x) x) := by
  obtain ⟨i, c, e1, e2, hi, h4, hcan, hf, _⟩ := zRoom_of hr
  have ea : (s 10 v 0).toNat = a := by omega
  have hl := h.c.len a
  rw [e1, e2]
  refine h.lay hv hd (by omega) h4 hx (by rw [ea]; exact hx2) ?_ ?_
  · rw [ea]
    exact (zFr_iff hx (by omega) hx2).mp hf
  · rw [ea]
    intro m hm
    obtain ⟨j, hj, e6, h1, h2⟩ := hm
    simp only [zCan, Bool.and_eq_true, decide_eq_true_iff] at hcan
    have hst := (zStp_iff.mp hcan.2 j hj).resolve_left e6
    have ho0 := (h.c.off a j).1
    have ho1 := h.c.offl (a := a) (k := j + 1) (by omega)
    have ho2 := h.c.offm a j 1
    exact (zFr_iff (by omega) (by omega) (by omega)).mp hst m h1 h2
theorem zStp_cg {s s' : zS} {i a : Nat} {x : Int} (h6 : s 6 a = s' 6 a) (h7 : s 7 a = s' 7 a) (h21 : s 21 (i + 4) = s' 21 (i + 4)) : ∀ k, zStp s i a x k = zStp s' i a x k
  | 0 => rfl
  | k + 1 => by
    have e : ∀ j, zOff s a j = zOff s' a j := fun j => by unfold zOff; rw [h7]
    rw [zStp, zStp, zStp_cg h6 h7 h21 k, h6, e, e]
    unfold zFr
    rw [h21]
theorem zCan_cg {s s' : zS} {i a : Nat} {x : Int} (h1 : s 1 i 0 = s' 1 i 0) (h2 : s 2 i 0 = s' 2 i 0) (h3 : s 3 i 0 = s' 3 i 0) (h5 : s 5 a 0 = s' 5 a 0) (h6 : s 6 a = s' 6 a) (h7 : s 7 a = s' 7 a) (h21 : s 21 (i + 4) = s' 21 (i + 4)) : zCan s i a x = zCan s' i a x := by
  obtain ⟨e1, e2, e3, e4, e5⟩ := zSvc_cg h5 h6 h7
  unfold zCan zSk
  rw [h1, h2, h3, e1, e3, zAskN_cg h6, zStp_cg h6 h7 h21]
theorem zMem_cg {s s' : zS} {who : Nat → Bool} {a : Nat} {x : Int} (hc : ∀ i, zCan s i a x = zCan s' i a x) (hl : ∀ i : Int, zLoad s i = zLoad s' i) : ∀ n, zMem s who a x n = zMem s' who a x n
  | 0 => rfl
  | n + 1 => by rw [zMem, zMem, zMem_cg hc hl n, hc, hl]
theorem zLoad_V {s : zS} {a : Nat} (h : 0 ≤ s 9 0 0) (i : Int) : zLoad (zOpV s a) i = zLoad s i := by
  show zsm (fun v => if zOpV s a 13 v 0 ≠ -1 ∧ zOpV s a 11 v 0 = i then zWork s (zOpV s a 10 v 0).toNat else 0) (s 9 0 0 + 1).toNat = _
  rw [show (s 9 0 0 + 1).toNat = (s 9 0 0).toNat + 1 by omega, zsm, show zOpV s a 13 (s 9 0 0).toNat 0 = -1 from if_pos ⟨rfl, rfl, rfl⟩, if_neg (fun h => h.1 rfl), Int.add_zero]
  refine zsm_cong fun v hv => ?_
  rw [show zOpV s a 13 v 0 = s 13 v 0 from if_neg (fun h => by omega), show zOpV s a 10 v 0 = s 10 v 0 from if_neg (fun h => by omega)]
  rfl
theorem zGet_V {s : zS} {a b : Nat} {who : Nat → Bool} {x : Int} (h : 0 ≤ s 9 0 0) : zGet (zOpV s a) who b x = zGet s who b x := by
  show (zMem (zOpV s a) who b x (s 0 0 0).toNat).1 = _
  rw [zMem_cg (s := zOpV s a) (s' := s) (fun i => zCan_cg rfl rfl rfl rfl rfl rfl rfl) (zLoad_V h)]
  rfl
theorem zRoom_V {s : zS} {a b : Nat} {who : Nat → Bool} {x : Int} (h : 0 ≤ s 9 0 0) : zRoomB (zOpV s a) who b x = zRoomB s who b x := by
  unfold zRoomB
  rw [zGet_V h]
  rfl
abbrev rX6_put : Room := { frames := 4, cells := 0, slots := 0, locals := 91 }
set_option maxRecDepth 100000 in
set_option maxHeartbeats 4000000 in
theorem c_X6_put {l : Launch} (hfl : l.stackTraces = false) (G : zG) {s t : zS} {o : zOx} (hc : zC1 s) (hb9 : zB s) {v : Nat} {i0 c x : Int} (hv : (v : Int) < s 9 0 0) (hi : 0 ≤ i0 ∧ i0 < s 0 0 0) (h4 : 0 ≤ c ∧ c < 4) (hx : 0 ≤ x) (hx2 : x + zLen s (s 10 v 0).toNat ≤ 600)  : zCn l G yX6_put (.code yX6_put cX6_put 5 none) rX6_put [.ref 0, .ref (64 * v + 14), .int (zI i0), .int (zI c), .int (zI x)] (zAll s t o) (zRv (fun M2 => M2 = zAll (zOpL s v i0 c x) t o)) zN := by
  refine zStart hfl (by decide) (own := RX6) rfl [(0, .ref 0), (1, .ref (64 * v + 14)), (2, .int (zI i0)), (3, .int (zI c)), (4, .int (zI x))] (Nat.le_of_ble_eq_true rfl) rfl (fun k hkl hinit hk0 F => ?_)
  have hn0 := hc.1
  have hn4 := hc.2.1
  have hn9 := hc.2.2.1
  have hn14 := hc.2.2.2.1
  have hn18 := hc.2.2.2.2.1
  have hln := hc.len (s 10 v 0).toNat
  have hcA := zC1_A hc (v := v) hi h4 hx hx2
  have hbA : zB (zOpA s v i0 c x) := zB_A hb9 (by omega) h4 (by omega)
  refine z_aload_n F 1 dX6_put_0 rfl rfl ?_
  refine z_iload_n F 2 dX6_put_1 rfl rfl ?_
  refine z_put (ty := .int) F [.int (zI ((v : Nat))), .ref (64 * (s 10 v 0).toNat + 10), .int (zI i0), .int (zI (if s 13 v 0 = -1 then -1 else s 12 v 0)), .int (zI (s 13 v 0))] fl_X6_138 tyX5 tyX5_ok nmX5 rfl (by decide +kernel) rfl rfl (zAll_v t o (i := v) (by omega)) (Nat.le_of_ble_eq_true rfl) rfl dX6_put_2 ?_
  have hm_1_s := zu_s (zAll s t o) (64 * v + 14) (zOb 6 [.int (zI ((v : Nat))), .ref (64 * (s 10 v 0).toNat + 10), .int (zI i0), .int (zI (if s 13 v 0 = -1 then -1 else s 12 v 0)), .int (zI (s 13 v 0))])
  refine z_aload_n F 1 dX6_put_5 rfl rfl ?_
  refine z_iload_n F 3 dX6_put_6 rfl rfl ?_
  refine z_put (ty := .int) F [.int (zI ((v : Nat))), .ref (64 * (s 10 v 0).toNat + 10), .int (zI i0), .int (zI c), .int (zI (s 13 v 0))] fl_X6_141 tyX5 tyX5_ok nmX5 rfl (by decide +kernel) rfl rfl hm_1_s (Nat.le_of_ble_eq_true rfl) rfl dX6_put_7 ?_
  have hm_2_s := zu_s (zu (zAll s t o) (64 * v + 14) (zOb 6 [.int (zI ((v : Nat))), .ref (64 * (s 10 v 0).toNat + 10), .int (zI i0), .int (zI (if s 13 v 0 = -1 then -1 else s 12 v 0)), .int (zI (s 13 v 0))])) (64 * v + 14) (zOb 6 [.int (zI ((v : Nat))), .ref (64 * (s 10 v 0).toNat + 10), .int (zI i0), .int (zI c), .int (zI (s 13 v 0))])
  refine z_aload_n F 1 dX6_put_10 rfl rfl ?_
  refine z_iload F 4 dX6_put_11 rfl ?_
  refine z_put (ty := .int) F [.int (zI ((v : Nat))), .ref (64 * (s 10 v 0).toNat + 10), .int (zI i0), .int (zI c), .int (zI x)] fl_X6_144 tyX5 tyX5_ok nmX5 rfl (by decide +kernel) rfl rfl hm_2_s (Nat.le_of_ble_eq_true rfl) rfl dX6_put_13 ?_
  have hm_3_s := zu_s (zu (zu (zAll s t o) (64 * v + 14) (zOb 6 [.int (zI ((v : Nat))), .ref (64 * (s 10 v 0).toNat + 10), .int (zI i0), .int (zI (if s 13 v 0 = -1 then -1 else s 12 v 0)), .int (zI (s 13 v 0))])) (64 * v + 14) (zOb 6 [.int (zI ((v : Nat))), .ref (64 * (s 10 v 0).toNat + 10), .int (zI i0), .int (zI c), .int (zI (s 13 v 0))])) (64 * v + 14) (zOb 6 [.int (zI ((v : Nat))), .ref (64 * (s 10 v 0).toNat + 10), .int (zI i0), .int (zI c), .int (zI x)])
  refine z_M (M' := (zAll (zOpA s v i0 c x) t o)) (by rw [zu_zu, zu_zu]; exact zH_put hv (by omega)) ?_
  refine z_aload_n F 0 dX6_put_16 rfl rfl ?_
  refine z_aload_n F 1 dX6_put_17 rfl rfl ?_
  refine z_aload_n F 1 dX6_put_18 rfl rfl ?_
  refine z_get F fl_X6_269 (zAll_v (s := (zOpA s v i0 c x)) t o (i := v) (by first | assumption | (show (((v) : Nat) : Int) < s 9 0 0; omega) | (show (((v) : Nat) : Int) < s 9 0 0 + 1; omega))) rfl dX6_put_19 ?_
  refine z_callV F [.ref (64 * v + 14), .int (zI ((v : Nat)))] [] (c_X6_write F.2.2.1 G (s := (zOpA s v i0 c x)) (t := t) (o := o) hcA hbA (v := v) (b := v) hv (by rw [zOpA_13]; omega) (by omega)) cv_X6_274 (zAll_0 (zOpA s v i0 c x) t o) rfl rfl rfl ⟨by decide, by decide⟩ ⟨by decide, by decide⟩ (Nat.le_of_ble_eq_true rfl) dX6_put_22 z_nx (z_kv (fun M_4 h_4 => ?_))
  have hm9 := (h_4).symm
  subst hm9
  exact z_retv F rfl (by first | decide | assumption | omega) (by first | decide | assumption | omega) dX6_put_25 ⟨rfl, rfl⟩

abbrev rX6_takeOut : Room := { frames := 4, cells := 0, slots := 0, locals := 91 }
set_option maxRecDepth 100000 in
set_option maxHeartbeats 4000000 in
theorem c_X6_takeOut {l : Launch} (hfl : l.stackTraces = false) (G : zG) {s t : zS} {o : zOx} (hc : zC1 s) (hb9 : zB s) {v : Nat} (hv : (v : Int) < s 9 0 0) (hd : ¬ s 13 v 0 = -1)  : zCn l G yX6_takeOut (.code yX6_takeOut cX6_takeOut 2 none) rX6_takeOut [.ref 0, .ref (64 * v + 14)] (zAll s t o) (zRv (fun M2 => M2 = zAll (zOpO s v) t o)) zN := by
  refine zStart hfl (by decide) (own := RX6) rfl [(0, .ref 0), (1, .ref (64 * v + 14))] (Nat.le_of_ble_eq_true rfl) rfl (fun k hkl hinit hk0 F => ?_)
  have hn0 := hc.1
  have hn4 := hc.2.1
  have hn9 := hc.2.2.1
  have hn14 := hc.2.2.2.1
  have hn18 := hc.2.2.2.2.1
  refine z_aload_n F 0 dX6_takeOut_0 rfl rfl ?_
  refine z_aload_n F 1 dX6_takeOut_1 rfl rfl ?_
  refine z_iconst (z := -1) F dX6_takeOut_2 (by decide) ?_
  refine z_callV F [.ref (64 * v + 14), .int (zI (-1))] [] (c_X6_write F.2.2.1 G (s := s) (t := t) (o := o) hc hb9 (v := v) (b := -1) hv hd (by omega)) cv_X6_274 (zAll_0 s t o) rfl rfl rfl ⟨by decide, by decide⟩ ⟨by decide, by decide⟩ (Nat.le_of_ble_eq_true rfl) dX6_takeOut_3 z_nx (z_kv (fun M_1 h_1 => ?_))
  have hm9 := (h_1).symm
  subst hm9
  refine z_aload_n F 1 dX6_takeOut_6 rfl rfl ?_
  refine z_iconst (z := -1) F dX6_takeOut_7 (by decide) ?_
  refine z_put (ty := .int) F [.int (zI ((v : Nat))), .ref (64 * ((zOpM s v (-1)) 10 v 0).toNat + 10), .int (zI (-1)), .int (zI (if (zOpM s v (-1)) 13 v 0 = -1 then -1 else (zOpM s v (-1)) 12 v 0)), .int (zI ((zOpM s v (-1)) 13 v 0))] fl_X6_138 tyX5 tyX5_ok nmX5 rfl (by decide +kernel) rfl rfl (zAll_v (s := (zOpM s v (-1))) t o (i := v) (by first | assumption | (show (((v) : Nat) : Int) < s 9 0 0; omega) | (show (((v) : Nat) : Int) < s 9 0 0 + 1; omega))) (Nat.le_of_ble_eq_true rfl) rfl dX6_takeOut_8 ?_
  have hm_2_s := zu_s (zAll (zOpM s v (-1)) t o) (64 * v + 14) (zOb 6 [.int (zI ((v : Nat))), .ref (64 * ((zOpM s v (-1)) 10 v 0).toNat + 10), .int (zI (-1)), .int (zI (if (zOpM s v (-1)) 13 v 0 = -1 then -1 else (zOpM s v (-1)) 12 v 0)), .int (zI ((zOpM s v (-1)) 13 v 0))])
  refine z_aload_n F 1 dX6_takeOut_11 rfl rfl ?_
  refine z_iconst (z := -1) F dX6_takeOut_12 (by decide) ?_
  refine z_put (ty := .int) F [.int (zI ((v : Nat))), .ref (64 * ((zOpM s v (-1)) 10 v 0).toNat + 10), .int (zI (-1)), .int (zI (-1)), .int (zI ((zOpM s v (-1)) 13 v 0))] fl_X6_141 tyX5 tyX5_ok nmX5 rfl (by decide +kernel) rfl rfl hm_2_s (Nat.le_of_ble_eq_true rfl) rfl dX6_takeOut_13 ?_
  have hm_3_s := zu_s (zu (zAll (zOpM s v (-1)) t o) (64 * v + 14) (zOb 6 [.int (zI ((v : Nat))), .ref (64 * ((zOpM s v (-1)) 10 v 0).toNat + 10), .int (zI (-1)), .int (zI (if (zOpM s v (-1)) 13 v 0 = -1 then -1 else (zOpM s v (-1)) 12 v 0)), .int (zI ((zOpM s v (-1)) 13 v 0))])) (64 * v + 14) (zOb 6 [.int (zI ((v : Nat))), .ref (64 * ((zOpM s v (-1)) 10 v 0).toNat + 10), .int (zI (-1)), .int (zI (-1)), .int (zI ((zOpM s v (-1)) 13 v 0))])
  refine z_aload_n F 1 dX6_takeOut_16 rfl rfl ?_
  refine z_iconst (z := -1) F dX6_takeOut_17 (by decide) ?_
  refine z_put (ty := .int) F [.int (zI ((v : Nat))), .ref (64 * ((zOpM s v (-1)) 10 v 0).toNat + 10), .int (zI (-1)), .int (zI (-1)), .int (zI (-1))] fl_X6_144 tyX5 tyX5_ok nmX5 rfl (by decide +kernel) rfl rfl hm_3_s (Nat.le_of_ble_eq_true rfl) rfl dX6_takeOut_18 ?_
  have hm_4_s := zu_s (zu (zu (zAll (zOpM s v (-1)) t o) (64 * v + 14) (zOb 6 [.int (zI ((v : Nat))), .ref (64 * ((zOpM s v (-1)) 10 v 0).toNat + 10), .int (zI (-1)), .int (zI (if (zOpM s v (-1)) 13 v 0 = -1 then -1 else (zOpM s v (-1)) 12 v 0)), .int (zI ((zOpM s v (-1)) 13 v 0))])) (64 * v + 14) (zOb 6 [.int (zI ((v : Nat))), .ref (64 * ((zOpM s v (-1)) 10 v 0).toNat + 10), .int (zI (-1)), .int (zI (-1)), .int (zI ((zOpM s v (-1)) 13 v 0))])) (64 * v + 14) (zOb 6 [.int (zI ((v : Nat))), .ref (64 * ((zOpM s v (-1)) 10 v 0).toNat + 10), .int (zI (-1)), .int (zI (-1)), .int (zI (-1))])
  refine z_M (M' := (zAll (zOpO s v) t o)) (by rw [zu_zu, zu_zu]; exact zH_out (s := (zOpM s v (-1))) hv) ?_
  exact z_retv F rfl (by first | decide | assumption | omega) (by first | decide | assumption | omega) dX6_takeOut_21 ⟨rfl, rfl⟩

abbrev rX6_putAt : Room := { frames := 5, cells := 0, slots := 0, locals := 115 }
set_option maxRecDepth 100000 in
set_option maxHeartbeats 4000000 in
theorem c_X6_putAt {l : Launch} (hfl : l.stackTraces = false) (G : zG) {s t : zS} {o : zOx} (hc : zC1 s) (hb9 : zB s) {v a wo : Nat} {x : Int} (hv : (v : Int) < s 9 0 0) (ha : (a : Int) < s 4 0 0) (ha10 : s 10 v 0 = (a : Int)) (hwo : wo < 2 ^ 31) (hx : 0 ≤ x) (hx2 : x + zLen s a ≤ 600) (hr : zRoomB s (zBit wo) a x = true)  : zCn l G yX6_putAt (.code yX6_putAt cX6_putAt 6 none) rX6_putAt [.ref 0, .ref (64 * v + 14), .int (zI ((wo : Nat))), .int (zI x)] (zAll s t o) (zRv (fun M2 => M2 = zAll (zOpL s v (zGet s (zBit wo) a x) (zChair s a x) x) t o)) zN := by
  refine zStart hfl (by decide) (own := RX6) rfl [(0, .ref 0), (1, .ref (64 * v + 14)), (2, .int (zI ((wo : Nat)))), (3, .int (zI x))] (Nat.le_of_ble_eq_true rfl) rfl (fun k hkl hinit hk0 F => ?_)
  have hn0 := hc.1
  have hn4 := hc.2.1
  have hn9 := hc.2.2.1
  have hn14 := hc.2.2.2.1
  have hn18 := hc.2.2.2.2.1
  obtain ⟨i9, c9, e1, e2, hi9, h49, _⟩ := zRoom_of hr
  have hln := hc.len a
  refine z_aload_n F 0 dX6_putAt_0 rfl rfl ?_
  refine z_aload_n F 1 dX6_putAt_1 rfl rfl ?_
  refine z_get F fl_X6_151 (zAll_v t o (i := v) (by omega)) rfl dX6_putAt_2 ?_
  refine z_tr (y := 64 * a + 10) (by omega) ?_
  refine z_iload_n F 2 dX6_putAt_5 rfl rfl ?_
  refine z_iload_n F 3 dX6_putAt_6 rfl rfl ?_
  refine z_callV F [.ref (64 * a + 10), .int (zI ((wo : Nat))), .int (zI x)] [] (c_X6_memberFor F.2.2.1 G (t := t) (o := o) hc hb9 (a := a) (wo := wo) ha hwo (by omega)) cv_X6_218 (zAll_0 s t o) rfl rfl rfl ⟨by decide, by decide⟩ ⟨by decide, by decide⟩ (Nat.le_of_ble_eq_true rfl) dX6_putAt_7 z_nx (z_ki (fun x_1 M_1 h_1 => ?_))
  have hx9 := (h_1).1.symm
  have hm9 := (h_1).2.symm
  subst hx9
  subst hm9
  refine z_istore F [(4, .int (zI (zGet s (zBit wo) a x))), (0, .ref 0), (1, .ref (64 * v + 14)), (2, .int (zI ((wo : Nat)))), (3, .int (zI x))] dX6_putAt_10 (by decide) rfl ?_
  refine z_aload_n F 1 dX6_putAt_12 rfl rfl ?_
  refine z_aload_n F 2 dX6_putAt_13 rfl rfl ?_
  refine z_get F fl_X6_151 (zAll_v t o (i := v) (by omega)) rfl dX6_putAt_14 ?_
  refine z_tr (y := 64 * a + 10) (by omega) ?_
  refine z_iload_n F 4 dX6_putAt_17 rfl rfl ?_
  refine z_callV F [.ref (64 * a + 10), .int (zI x)] [] (c_X6_chairFor F.2.2.1 G (t := t) (o := o) hc hb9 (a := a) ha (by omega)) cv_X6_270 (zAll_0 s t o) rfl rfl rfl ⟨by decide, by decide⟩ ⟨by decide, by decide⟩ (Nat.le_of_ble_eq_true rfl) dX6_putAt_18 z_nx (z_ki (fun x_2 M_2 h_2 => ?_))
  have hx9 := (h_2).1.symm
  have hm9 := (h_2).2.symm
  subst hx9
  subst hm9
  refine z_istore F [(5, .int (zI (zChair s a x))), (4, .int (zI (zGet s (zBit wo) a x))), (0, .ref 0), (1, .ref (64 * v + 14)), (2, .int (zI ((wo : Nat)))), (3, .int (zI x))] dX6_putAt_21 (by decide) rfl ?_
  refine z_aload_n F 2 dX6_putAt_23 rfl rfl ?_
  refine z_aload_n F 3 dX6_putAt_24 rfl rfl ?_
  refine z_iload F 1 dX6_putAt_25 rfl ?_
  refine z_iload F 0 dX6_putAt_27 rfl ?_
  refine z_iload_n F 5 dX6_putAt_29 rfl rfl ?_
  refine z_callV F [.ref (64 * v + 14), .int (zI (zGet s (zBit wo) a x)), .int (zI (zChair s a x)), .int (zI x)] [] (c_X6_put F.2.2.1 G (t := t) (o := o) hc hb9 (v := v) (i0 := (zGet s (zBit wo) a x)) (c := (zChair s a x)) (x := x) hv (by omega) (by omega) hx (by rw [show (s 10 v 0).toNat = a by omega]; exact hx2)) cv_X6_158 (zAll_0 s t o) rfl rfl rfl ⟨by decide, by decide⟩ ⟨by decide, by decide⟩ (Nat.le_of_ble_eq_true rfl) dX6_putAt_30 z_nx (z_kv (fun M_3 h_3 => ?_))
  have hm9 := (h_3).symm
  subst hm9
  exact z_retv F rfl (by first | decide | assumption | omega) (by first | decide | assumption | omega) dX6_putAt_33 ⟨rfl, rfl⟩

abbrev rX6_bookAt : Room := { frames := 7, cells := 2, slots := 38, locals := 191 }
set_option maxRecDepth 100000 in
set_option maxHeartbeats 4000000 in
theorem c_X6_bookAt {l : Launch} (hfl : l.stackTraces = false) (G : zG) {s t : zS} {o : zOx} (hc : zC1 s) (hb9 : zB s) {a wo : Nat} {x : Int} (ha : (a : Int) < s 4 0 0) (hwo : wo < 2 ^ 31) (hn30 : s 9 0 0 < 30) (hx : 0 ≤ x) (hx2 : x + zLen s a ≤ 600) (hr : zRoomB s (zBit wo) a x = true) (hI : zInv s)  : zCn l G yX6_bookAt (.code yX6_bookAt cX6_bookAt 5 (some .int)) rX6_bookAt [.ref 0, .ref (64 * a + 10), .int (zI ((wo : Nat))), .int (zI x)] (zAll s t o) (zRi (fun xr M2 => xr = s 9 0 0 ∧ M2 = zAll (zOpB s a (zGet s (zBit wo) a x) (zChair s a x) x) t o)) zN := by
  refine zStart hfl (by decide) (own := RX6) rfl [(0, .ref 0), (1, .ref (64 * a + 10)), (2, .int (zI ((wo : Nat)))), (3, .int (zI x))] (Nat.le_of_ble_eq_true rfl) rfl (fun k hkl hinit hk0 F => ?_)
  have hn0 := hc.1
  have hn4 := hc.2.1
  have hn9 := hc.2.2.1
  have hn14 := hc.2.2.2.1
  have hn18 := hc.2.2.2.2.1
  have hIV := hI.new ha hn30
  have eg : zGet (zOpV s a) (zBit wo) a x = zGet s (zBit wo) a x := zGet_V (by omega)
  have hrV : zRoomB (zOpV s a) (zBit wo) a x = true := by rw [zRoom_V (by omega)]; exact hr
  refine z_new (ci := 6) F (64 * (s 9 0 0).toNat + 14) [.int (zI 0), .null, .int (zI 0), .int (zI 0), .int (zI 0)] rfl inlX5 tyX5 tyX5_ok (zr_15 _ (List.mem_of_getElem? (i := 15) rfl)) (zr_15 _ (List.mem_of_getElem? (i := 16) rfl)) (zr_11 _ (List.mem_of_getElem? (i := 21) rfl)) (fun j hj => by rcases (show j = 0 ∨ j = 1 ∨ j = 2 ∨ j = 3 ∨ j = 4 by omega) with rfl | rfl | rfl | rfl | rfl <;> rfl) (by decide) (zn0 s t o (kd := 14) (i := (s 9 0 0).toNat) (by decide) (if_neg (by omega))) (by omega) (by decide) (by decide) dX6_bookAt_0 ?_
  have hm_1_s := zu_s (zAll s t o) (64 * (s 9 0 0).toNat + 14) (zOb 6 [.int (zI 0), .null, .int (zI 0), .int (zI 0), .int (zI 0)])
  refine z_dup F dX6_bookAt_3 rfl ?_
  refine z_aload_n F 0 dX6_bookAt_4 rfl rfl ?_
  refine z_get F fl_X6_19 ((zu_n (by omega)).trans (zAll_0 s t o)) rfl dX6_bookAt_5 ?_
  refine z_callV F [] [.ref (64 * (s 9 0 0).toNat + 14), .ref (64 * (s 9 0 0).toNat + 14)] (c_Jx4a65c_size_8abf5 F.2.2.1 G _ ((zu_n (by omega)).trans (zAll_129 s t o))) cv_X6_52 ((zu_n (by omega)).trans (zAll_129 s t o)) rfl rfl rfl ⟨by decide, by decide⟩ ⟨by decide, by decide⟩ (Nat.le_of_ble_eq_true rfl) dX6_bookAt_8 z_nx (z_ki (fun x_2 M_2 h_2 => ?_))
  have hx9 := (h_2).1.symm
  have hm9 := (h_2).2.symm
  subst hx9
  subst hm9
  refine z_aload_n F 1 dX6_bookAt_11 rfl rfl ?_
  refine z_callI F [.int (zI (s 9 0 0)), .ref (64 * a + 10)] [.ref (64 * (s 9 0 0).toNat + 14)] (c_X5_init F.2.2.1 G (n := s 9 0 0) (a := 64 * a + 10) _ (zu_s _ _ _)) ci_X6_266 rfl ⟨by decide, by decide⟩ ⟨by decide, by decide⟩ (Nat.le_of_ble_eq_true rfl) dX6_bookAt_12 z_nx (z_kv (fun M_3 h_3 => ?_))
  have hm9 := (h_3).symm
  subst hm9
  refine z_M (M' := (zu (zAll s t o) (64 * (s 9 0 0).toNat + 14) (zOb 6 [.int (zI (s 9 0 0)), .ref (64 * a + 10), .int (zI (-1)), .int (zI (-1)), .int (zI (-1))]))) (by rw [zu_zu]) ?_
  refine z_astore F [(4, .ref (64 * (s 9 0 0).toNat + 14)), (0, .ref 0), (1, .ref (64 * a + 10)), (2, .int (zI ((wo : Nat)))), (3, .int (zI x))] dX6_bookAt_15 (by decide) rfl ?_
  refine z_aload_n F 1 dX6_bookAt_17 rfl rfl ?_
  refine z_get F fl_X6_19 ((zu_n (by omega)).trans (zAll_0 s t o)) rfl dX6_bookAt_18 ?_
  refine z_aload F 0 dX6_bookAt_21 rfl ?_
  refine z_callV F [.ref (64 * (s 9 0 0).toNat + 14)] [] (c_addV F.2.2.1 G (s := s) (t := t) (o := o) hc _ (zu_n (by omega)) (fun w hw => zu_n (by omega)) (fun j hj => ⟨_, (zu_n (by omega)).trans (zAll_v t o hj)⟩) hn30 (zu_s _ _ _)) cv_X6_66 ((zu_n (by omega)).trans (zAll_129 s t o)) rfl rfl rfl ⟨by decide, by decide⟩ ⟨by decide, by decide⟩ (Nat.le_of_ble_eq_true rfl) dX6_bookAt_23 z_nx (z_ki (fun x_4 M_4 h_4 => ?_))
  have hx9 := (h_4).1.symm
  have hm9 := (h_4).2.symm
  subst hx9
  subst hm9
  refine z_pop F dX6_bookAt_26 rfl ?_
  refine z_aload_n F 2 dX6_bookAt_27 rfl rfl ?_
  refine z_iconst (z := 1) F dX6_bookAt_28 (by decide) ?_
  refine z_put (ty := .boolean) F [.int (zI ((a : Nat))), .ref (64 * a + 11), .ref (64 * a + 12), .ref (64 * a + 13), .int (zI (s 5 a 0)), .int (zI (zLen s a)), .int (zI (zWork s a)), .int (zI (zAsk s a)), .int (zI 1)] fl_X6_108 tyX4 tyX4_ok nmX4 rfl (by decide +kernel) rfl rfl ((zu_n (by omega)).trans ((zu_n (by omega)).trans ((zu_n (by omega)).trans (zAll_s t o (i := a) (by omega))))) (Nat.le_of_ble_eq_true rfl) rfl dX6_bookAt_29 ?_
  have hm_5_s := zu_s (zu (zu (zu (zAll s t o) (64 * (s 9 0 0).toNat + 14) (zOb 6 [.int (zI (s 9 0 0)), .ref (64 * a + 10), .int (zI (-1)), .int (zI (-1)), .int (zI (-1))])) (256 * zVer (s 9 0 0 + 1) + 130) (zAr 4 (zCap (zVer (s 9 0 0 + 1))) (va_up (fun j => if (j : Int) < s 9 0 0 ∧ j < zCap (zVer (s 9 0 0 + 1)) then some (64 * j + 14) else none) (s 9 0 0).toNat (some (64 * (s 9 0 0).toNat + 14))))) 129 (zOb 0 [.int (zI (s 9 0 0 + 1)), .ref (256 * zVer (s 9 0 0 + 1) + 130), .int (zI (s 9 0 0 + 1))])) (64 * a + 10) (zOb 5 [.int (zI ((a : Nat))), .ref (64 * a + 11), .ref (64 * a + 12), .ref (64 * a + 13), .int (zI (s 5 a 0)), .int (zI (zLen s a)), .int (zI (zWork s a)), .int (zI (zAsk s a)), .int (zI 1)])
  refine z_M (M' := (zAll (zOpV s a) t o)) (zH_visit (by omega) hn30 ha) ?_
  refine z_aload_n F 1 dX6_bookAt_32 rfl rfl ?_
  refine z_aload F 0 dX6_bookAt_33 rfl ?_
  refine z_iload_n F 3 dX6_bookAt_35 rfl rfl ?_
  refine z_iload_n F 4 dX6_bookAt_36 rfl rfl ?_
  refine z_callV F [.ref (64 * (s 9 0 0).toNat + 14), .int (zI ((wo : Nat))), .int (zI x)] [] (c_X6_putAt F.2.2.1 G (s := zOpV s a) (t := t) (o := o) hIV.c hIV.b (v := (s 9 0 0).toNat) (a := a) (wo := wo) (x := x) (show ((((s 9 0 0).toNat) : Nat) : Int) < s 9 0 0 + 1 by omega) ha (if_pos ⟨rfl, rfl, rfl⟩) hwo hx hx2 hrV) cv_X6_167 (zAll_0 (zOpV s a) t o) rfl rfl rfl ⟨by decide, by decide⟩ ⟨by decide, by decide⟩ (Nat.le_of_ble_eq_true rfl) dX6_bookAt_37 z_nx (z_kv (fun M_6 h_6 => ?_))
  have hm9 := (h_6).symm
  subst hm9
  rw [eg]
  refine z_aload F 0 dX6_bookAt_40 rfl ?_
  refine z_get F fl_X6_269 (zAll_v (s := (zOpB s a (zGet s (zBit wo) a x) (zChair s a x) x)) t o (i := (s 9 0 0).toNat) (by first | assumption | (show (((((s 9 0 0).toNat)) : Nat) : Int) < s 9 0 0; omega) | (show (((((s 9 0 0).toNat)) : Nat) : Int) < s 9 0 0 + 1; omega))) rfl dX6_bookAt_42 ?_
  refine z_ti (y := s 9 0 0) (by omega) ?_
  exact z_reti F rfl (by first | decide | assumption | omega) (by first | decide | assumption | omega) dX6_bookAt_45 ⟨_, rfl, rfl, rfl⟩

abbrev rX6_bookFirst : Room := { frames := 8, cells := 3, slots := 44, locals := 215 }
set_option maxRecDepth 100000 in
set_option maxHeartbeats 4000000 in
theorem c_X6_bookFirst {l : Launch} (hfl : l.stackTraces = false) (G : zG) {s t : zS} {o : zOx} (hc : zC1 s) (hb9 : zB s) {a wo : Nat} {x : Int} (ha : (a : Int) < s 4 0 0) (hwo : wo < 2 ^ 31) (hn30 : s 9 0 0 < 30) (hx : 0 ≤ x ∧ x ≤ 600) (hI : zInv s)  : zCn l G yX6_bookFirst (.code yX6_bookFirst cX6_bookFirst 5 (some .int)) rX6_bookFirst [.ref 0, .ref (64 * a + 10), .int (zI ((wo : Nat))), .int (zI x)] (zAll s t o) (zRi (fun xr M2 => ¬ (zFind s (zBit wo) a x 600) = -1 ∧ xr = s 9 0 0 ∧ ∃ c9 : Nat → Int, M2 = zAll (zOpB s a (zGet s (zBit wo) a (zFind s (zBit wo) a x 600)) (zChair s a (zFind s (zBit wo) a x 600)) (zFind s (zBit wo) a x 600)) t (o.1, c9) ∧ (∀ m, c9 m = 0 ∨ c9 m = 1))) (fun E M2 => E = "java/util/NoSuchElementException" ∧ (zFind s (zBit wo) a x 600) = -1 ∧ ∃ c9 : Nat → Int, M2 = zAll s t (o.1, c9) ∧ (∀ m, c9 m = 0 ∨ c9 m = 1)) := by
  refine zStart hfl (by decide) (own := RX6) rfl [(0, .ref 0), (1, .ref (64 * a + 10)), (2, .int (zI ((wo : Nat)))), (3, .int (zI x))] (Nat.le_of_ble_eq_true rfl) rfl (fun k hkl hinit hk0 F => ?_)
  have hn0 := hc.1
  have hn4 := hc.2.1
  have hn9 := hc.2.2.1
  have hn14 := hc.2.2.2.1
  have hn18 := hc.2.2.2.2.1
  refine z_aload_n F 0 dX6_bookFirst_0 rfl rfl ?_
  refine z_aload_n F 1 dX6_bookFirst_1 rfl rfl ?_
  refine z_iload_n F 2 dX6_bookFirst_2 rfl rfl ?_
  refine z_iload_n F 3 dX6_bookFirst_3 rfl rfl ?_
  refine z_callV F [.ref (64 * a + 10), .int (zI ((wo : Nat))), .int (zI x)] [] (c_X6_firstStart F.2.2.1 G (t := t) (o := o) hc hb9 (a := a) (wo := wo) ha hwo hx (hI.ha wo a x ha hx.1)) cv_X6_155 (zAll_0 s t o) rfl rfl rfl ⟨by decide, by decide⟩ ⟨by decide, by decide⟩ (Nat.le_of_ble_eq_true rfl) dX6_bookFirst_4 z_nx (z_ki (fun x_1 M_1 h_1 => ?_))
  obtain ⟨hx9, ck, hm9, hk1⟩ := h_1
  subst hx9
  subst hm9
  have hfr9 := zFind_r s (zBit wo) a x 600
  have hln := hc.len a
  refine z_istore F [(4, .int (zI ((zFind s (zBit wo) a x 600)))), (0, .ref 0), (1, .ref (64 * a + 10)), (2, .int (zI ((wo : Nat)))), (3, .int (zI x))] dX6_bookFirst_7 (by decide) rfl ?_
  refine z_iload F 0 dX6_bookFirst_9 rfl ?_
  refine z_iconst (z := -1) F dX6_bookFirst_11 (by decide) ?_
  refine z_icmp_ne F 26 dX6_bookFirst_12 (by decide) (by omega) ⟨by decide, by decide⟩ (fun c_2 => ?_) (fun c_2 => ?_)
  · skip
    have hne : ¬ (zFind s (zBit wo) a x 600) = -1 := c_2
    have hfo := hfr9.resolve_left hne
    refine z_aload_n F 1 dX6_bookFirst_26 rfl rfl ?_
    refine z_aload_n F 2 dX6_bookFirst_27 rfl rfl ?_
    refine z_iload_n F 3 dX6_bookFirst_28 rfl rfl ?_
    refine z_iload F 0 dX6_bookFirst_29 rfl ?_
    refine z_callV F [.ref (64 * a + 10), .int (zI ((wo : Nat))), .int (zI ((zFind s (zBit wo) a x 600)))] [] (c_X6_bookAt F.2.2.1 G (t := t) (o := (o.1, ck)) hc hb9 (a := a) (wo := wo) (x := (zFind s (zBit wo) a x 600)) ha hwo hn30 (by omega) hfo.2.1 hfo.2.2 hI) cv_X6_263 (zAll_0 s t (o.1, ck)) rfl rfl rfl ⟨by decide, by decide⟩ ⟨by decide, by decide⟩ (Nat.le_of_ble_eq_true rfl) dX6_bookFirst_31 z_nx (z_ki (fun x_3 M_3 h_3 => ?_))
    have hx9 := (h_3).1.symm
    have hm9 := (h_3).2.symm
    subst hx9
    subst hm9
    exact z_reti F rfl (by first | decide | assumption | omega) (by first | decide | assumption | omega) dX6_bookFirst_34 ⟨_, rfl, hne, rfl, ck, rfl, hk1⟩
  · skip
    have hne : (zFind s (zBit wo) a x 600) = -1 := c_2
    exact z_thrNW (text := "no such place") F zfi_NSE zk_NSE zi_NSE (by decide) zat_NSE zab_NSE zcc_NSE zgd_NSE dX6_bookFirst_15 dX6_bookFirst_18 dX6_bookFirst_19 dX6_bookFirst_22 dX6_bookFirst_25 (by decide) (Nat.le_of_ble_eq_true rfl) (by first | decide | assumption | omega) (by first | decide | assumption | omega) ⟨rfl, hne, ck, rfl, hk1⟩

abbrev rX6_book : Room := { frames := 9, cells := 6, slots := 62, locals := 239 }
set_option maxRecDepth 100000 in
set_option maxHeartbeats 4000000 in
theorem c_X6_book {l : Launch} (hfl : l.stackTraces = false) (G : zG) {s t : zS} {o : zOx} (hc : zC1 s) (hb9 : zB s) {a x : Int} (ha : zR a) (hx : zR x) (hI : zInv s)  : zCn l G yX6_book (.code yX6_book cX6_book 3 (some .int)) rX6_book [.ref 0, .int (zI a), .int (zI x)] (zAll s t o) (zRi (fun xr M2 => (((0 ≤ a ∧ a < s 4 0 0) ∧ 0 ≤ x ∧ x < 600) ∧ s 9 0 0 < 30) ∧ ¬ (zFind s (zBit 31) a.toNat x 600) = -1 ∧ xr = s 9 0 0 ∧ ∃ c9 : Nat → Int, M2 = zAll (zOpB s a.toNat (zGet s (zBit 31) a.toNat (zFind s (zBit 31) a.toNat x 600)) (zChair s a.toNat (zFind s (zBit 31) a.toNat x 600)) (zFind s (zBit 31) a.toNat x 600)) t (o.1, c9) ∧ (∀ m, c9 m = 0 ∨ c9 m = 1))) (fun E M2 => (E = "java/lang/IndexOutOfBoundsException" ∧ ¬ ((0 ≤ a ∧ a < s 4 0 0) ∧ 0 ≤ x ∧ x < 600) ∧ M2 = (zAll s t o)) ∨ (E = "java/lang/IllegalStateException" ∧ ((0 ≤ a ∧ a < s 4 0 0) ∧ 0 ≤ x ∧ x < 600) ∧ ¬ s 9 0 0 < 30 ∧ M2 = (zAll s t o)) ∨ (E = "java/util/NoSuchElementException" ∧ (((0 ≤ a ∧ a < s 4 0 0) ∧ 0 ≤ x ∧ x < 600) ∧ s 9 0 0 < 30) ∧ (zFind s (zBit 31) a.toNat x 600) = -1 ∧ ∃ c9 : Nat → Int, M2 = zAll s t (o.1, c9) ∧ (∀ m, c9 m = 0 ∨ c9 m = 1))) := by
  refine zStart hfl (by decide) (own := RX6) rfl [(0, .ref 0), (1, .int (zI a)), (2, .int (zI x))] (Nat.le_of_ble_eq_true rfl) rfl (fun k hkl hinit hk0 F => ?_)
  have hn0 := hc.1
  have hn4 := hc.2.1
  have hn9 := hc.2.2.1
  have hn14 := hc.2.2.2.1
  have hn18 := hc.2.2.2.2.1
  refine z_aload_n F 0 dX6_book_0 rfl rfl ?_
  refine z_iload_n F 1 dX6_book_1 rfl rfl ?_
  refine z_callV F [.int (zI a)] [] (c_X6_requireService F.2.2.1 G (t := t) (o := o) hc hb9 ha) cv_X6_96 (zAll_0 s t o) rfl rfl rfl ⟨by decide, by decide⟩ ⟨by decide, by decide⟩ (Nat.le_of_ble_eq_true rfl) dX6_book_2 (fun E M9 h9 => z_xo F (by decide) (by decide) (Or.inl ⟨h9.1, fun h => h9.2.1 h.1, h9.2.2⟩)) (z_kv (fun M_1 h_1 => ?_))
  obtain ⟨hq1, hm9⟩ := h_1
  have hm9 := hm9.symm
  subst hm9
  refine z_iload_n F 2 dX6_book_5 rfl rfl ?_
  refine z_callS F [.int (zI x)] [] (c_X6_requireMinute F.2.2.1 G (t := t) (o := o) hc hb9 hx) cs_X6_120 rfl ⟨by decide, by decide⟩ ⟨by decide, by decide⟩ (Nat.le_of_ble_eq_true rfl) dX6_book_6 (fun E M9 h9 => z_xo F (by decide) (by decide) (Or.inl ⟨h9.1, fun h => h9.2.1 h.2, h9.2.2⟩)) (z_kv (fun M_2 h_2 => ?_))
  obtain ⟨hq2, hm9⟩ := h_2
  have hm9 := hm9.symm
  subst hm9
  refine z_aload_n F 0 dX6_book_9 rfl rfl ?_
  refine z_callV F [] [] (c_X6_requireRoomForVisit F.2.2.1 G (t := t) (o := o) hc hb9) cv_X6_123 (zAll_0 s t o) rfl rfl rfl ⟨by decide, by decide⟩ ⟨by decide, by decide⟩ (Nat.le_of_ble_eq_true rfl) dX6_book_10 (fun E M9 h9 => z_xo F (by decide) (by decide) (Or.inr (Or.inl ⟨h9.1, ⟨hq1, hq2⟩, h9.2.1, h9.2.2⟩))) (z_kv (fun M_3 h_3 => ?_))
  obtain ⟨hq3, hm9⟩ := h_3
  have hm9 := hm9.symm
  subst hm9
  refine z_aload_n F 0 dX6_book_13 rfl rfl ?_
  refine z_aload_n F 0 dX6_book_14 rfl rfl ?_
  refine z_get F fl_X6_16 (zAll_0 s t o) rfl dX6_book_15 ?_
  refine z_iload_n F 1 dX6_book_18 rfl rfl ?_
  refine z_callV F [.int (zI a)] [.ref 0] (g_s F.2.2.1 G hc (i := a) (by omega) (by omega)) cv_X6_99 (zAll_65 s t o) rfl rfl rfl ⟨by decide, by decide⟩ ⟨by decide, by decide⟩ (Nat.le_of_ble_eq_true rfl) dX6_book_19 z_nx (z_kr (fun x_4 M_4 h_4 => ?_))
  have hx9 := (h_4).1.symm
  have hm9 := (h_4).2.symm
  subst hx9
  subst hm9
  refine z_cast (ci := 5) F (zr_7 _ (List.mem_of_getElem? (i := 9) rfl)) (zAll_s t o (i := a.toNat) (by omega)) rfl dX6_book_22 ?_
  refine z_bipush (z := 31) F dX6_book_25 (by decide) ?_
  refine z_iload_n F 2 dX6_book_27 rfl rfl ?_
  refine z_callV F [.ref (64 * a.toNat + 10), .int (zI 31), .int (zI x)] [] (c_X6_bookFirst F.2.2.1 G (t := t) (o := o) hc hb9 (a := a.toNat) (wo := 31) (x := x) (by omega) (by decide) (by omega) (by omega) hI) cv_X6_126 (zAll_0 s t o) rfl rfl rfl ⟨by decide, by decide⟩ ⟨by decide, by decide⟩ (Nat.le_of_ble_eq_true rfl) dX6_book_28 (fun E M9 h9 => z_xo F (by decide) (by decide) (Or.inr (Or.inr ⟨h9.1, ⟨⟨hq1, hq2⟩, hq3⟩, h9.2⟩))) (z_ki (fun x_5 M_5 h_5 => ?_))
  obtain ⟨hq7, hx9, ck, hm9, hk1⟩ := h_5
  subst hx9
  subst hm9
  exact z_reti F rfl (by first | decide | assumption | omega) (by first | decide | assumption | omega) dX6_book_31 ⟨_, rfl, ⟨⟨hq1, hq2⟩, hq3⟩, hq7, rfl, ck, rfl, hk1⟩

