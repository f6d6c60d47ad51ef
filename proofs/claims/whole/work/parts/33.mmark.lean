/-! ===== the model: marks, lays, books ===== -/
/-- the days while the model writes a visit's marks: step k, n minutes of it -/
def zWm (t : zS) (v : Nat) (b : Int) (k : Nat) (n : Int) : Nat → Nat → Int := fun p => if (p : Int) = t 12 v 0 then zfil (t 21 p) (t 13 v 0) (t 13 v 0 + zOff t (t 10 v 0).toNat k + n) b else if (p : Int) = t 11 v 0 + 4 then (if t 6 (t 10 v 0).toNat k = -1 then zMk t (t 10 v 0).toNat (t 13 v 0) b (t 21 p) k else zfil (zMk t (t 10 v 0).toNat (t 13 v 0) b (t 21 p) k) (t 13 v 0 + zOff t (t 10 v 0).toNat k) (t 13 v 0 + zOff t (t 10 v 0).toNat k + n) b) else t 21 p
theorem zWm_0 {t : zS} {v : Nat} {b : Int} : zWd t (zWm t v b 0 0) = t := by
  have e0 : zOff t (t 10 v 0).toNat 0 = 0 := rfl
  funext g p q
  show (if g = 21 then zWm t v b 0 0 p q else t g p q) = t g p q
  by_cases hg : g = 21
  · rw [if_pos hg, hg]
    unfold zWm
    rw [e0]
    by_cases hp : (p : Int) = t 12 v 0
    · rw [if_pos hp]
      unfold zfil
      rw [if_neg (by omega)]
    · rw [if_neg hp]
      by_cases h11 : (p : Int) = t 11 v 0 + 4
      · rw [if_pos h11]
        by_cases hr : t 6 (t 10 v 0).toNat 0 = -1
        · rw [if_pos hr, zMk]
        · rw [if_neg hr, zMk]
          unfold zfil
          rw [if_neg (by omega)]
      · rw [if_neg h11]
  · rw [if_neg hg]
theorem zWm_k {t : zS} {v k : Nat} {b : Int} : zWm t v b k (t 7 (t 10 v 0).toNat k) = zWm t v b (k + 1) 0 := by
  have e1 : zOff t (t 10 v 0).toNat (k + 1) = zOff t (t 10 v 0).toNat k + t 7 (t 10 v 0).toNat k := rfl
  have key : ∀ (f : Nat → Int) (x y : Int), y ≤ x → zfil f x y b = f := fun f x y h => zfil_0 f b h
  funext p q
  unfold zWm
  by_cases hp : (p : Int) = t 12 v 0
  · rw [if_pos hp, if_pos hp, show t 13 v 0 + zOff t (t 10 v 0).toNat k + t 7 (t 10 v 0).toNat k = t 13 v 0 + zOff t (t 10 v 0).toNat (k + 1) + 0 by omega]
  · rw [if_neg hp, if_neg hp]
    by_cases h11 : (p : Int) = t 11 v 0 + 4
    · rw [if_pos h11, if_pos h11, key _ (t 13 v 0 + zOff t (t 10 v 0).toNat (k + 1)) (t 13 v 0 + zOff t (t 10 v 0).toNat (k + 1) + 0) (by omega), zMk]
      by_cases hr : t 6 (t 10 v 0).toNat k = -1
      · rw [if_pos hr, if_pos hr]
        split <;> rfl
      · rw [if_neg hr, if_neg hr, show t 13 v 0 + zOff t (t 10 v 0).toNat k + t 7 (t 10 v 0).toNat k = t 13 v 0 + zOff t (t 10 v 0).toNat (k + 1) by omega]
        split <;> rfl
    · rw [if_neg h11, if_neg h11]
theorem zWm_n {t : zS} {v k m : Nat} {b n : Int} (h12 : 0 ≤ t 12 v 0) (hr : t 6 (t 10 v 0).toNat k = -1) (hn : 0 ≤ n) (ho : 0 ≤ zOff t (t 10 v 0).toNat k) (hm : (m : Int) = t 13 v 0 + zOff t (t 10 v 0).toNat k + n) : zsu (zWd t (zWm t v b k n)) 21 (t 12 v 0).toNat m b = zWd t (zWm t v b k (n + 1)) := by
  funext g p q
  show (if g = 21 ∧ p = (t 12 v 0).toNat ∧ q = m then b else (if g = 21 then zWm t v b k n p q else t g p q)) = (if g = 21 then zWm t v b k (n + 1) p q else t g p q)
  by_cases hg : g = 21
  · rw [if_pos hg, if_pos hg]
    unfold zWm
    by_cases hp : (p : Int) = t 12 v 0
    · rw [if_pos hp, if_pos hp]
      unfold zfil
      by_cases hq : q = m
      · rw [if_pos ⟨hg, by omega, hq⟩, if_pos (by omega)]
      · rw [if_neg (fun h => hq h.2.2)]
        by_cases h2 : t 13 v 0 ≤ (q : Int) ∧ (q : Int) < t 13 v 0 + zOff t (t 10 v 0).toNat k + n
        · rw [if_pos h2, if_pos (by omega)]
        · rw [if_neg h2, if_neg (by omega)]
    · rw [if_neg (fun h => hp (by omega)), if_neg hp, if_neg hp]
      by_cases h11 : (p : Int) = t 11 v 0 + 4
      · rw [if_pos h11, if_pos h11, if_pos hr, if_pos hr]
      · rw [if_neg h11, if_neg h11]
  · rw [if_neg (fun h => hg h.1), if_neg hg, if_neg hg]
theorem zWm_w {t : zS} {v k m : Nat} {b n : Int} (h12 : 0 ≤ t 12 v 0 ∧ t 12 v 0 < 4) (h11 : 0 ≤ t 11 v 0) (hr : ¬ t 6 (t 10 v 0).toNat k = -1) (hn : 0 ≤ n) (ho : 0 ≤ zOff t (t 10 v 0).toNat k) (hm : (m : Int) = t 13 v 0 + zOff t (t 10 v 0).toNat k + n) : zsu (zsu (zWd t (zWm t v b k n)) 21 ((t 11 v 0).toNat + 4) m b) 21 (t 12 v 0).toNat m b = zWd t (zWm t v b k (n + 1)) := by
  funext g p q
  show (if g = 21 ∧ p = (t 12 v 0).toNat ∧ q = m then b else (if g = 21 ∧ p = (t 11 v 0).toNat + 4 ∧ q = m then b else (if g = 21 then zWm t v b k n p q else t g p q))) = (if g = 21 then zWm t v b k (n + 1) p q else t g p q)
  by_cases hg : g = 21
  · rw [if_pos hg, if_pos hg]
    unfold zWm
    by_cases hp : (p : Int) = t 12 v 0
    · rw [if_neg (c := g = 21 ∧ p = (t 11 v 0).toNat + 4 ∧ q = m) (fun h => by omega), if_pos hp, if_pos hp]
      unfold zfil
      by_cases hq : q = m
      · rw [if_pos ⟨hg, by omega, hq⟩, if_pos (by omega)]
      · rw [if_neg (fun h => hq h.2.2)]
        by_cases h2 : t 13 v 0 ≤ (q : Int) ∧ (q : Int) < t 13 v 0 + zOff t (t 10 v 0).toNat k + n
        · rw [if_pos h2, if_pos (by omega)]
        · rw [if_neg h2, if_neg (by omega)]
    · rw [if_neg (c := g = 21 ∧ p = (t 12 v 0).toNat ∧ q = m) (fun h => hp (by omega)), if_neg hp, if_neg hp]
      by_cases h1 : (p : Int) = t 11 v 0 + 4
      · rw [if_pos h1, if_pos h1, if_neg hr, if_neg hr]
        unfold zfil
        by_cases hq : q = m
        · rw [if_pos ⟨hg, by omega, hq⟩, if_pos (by omega)]
        · rw [if_neg (fun h => hq h.2.2)]
          by_cases h2 : t 13 v 0 + zOff t (t 10 v 0).toNat k ≤ (q : Int) ∧ (q : Int) < t 13 v 0 + zOff t (t 10 v 0).toNat k + n
          · rw [if_pos h2, if_pos (by omega)]
          · rw [if_neg h2, if_neg (by omega)]
      · rw [if_neg (fun h => h1 (by omega)), if_neg h1, if_neg h1]
  · rw [if_neg (fun h => hg h.1), if_neg (fun h => hg h.1), if_neg hg, if_neg hg]
theorem zWm_e {t : zS} {v : Nat} {b : Int} : zWd t (zWm t v b (zSc t (t 10 v 0).toNat) 0) = zOpM t v b := by
  rw [← zWd_end]
  have key : ∀ (f : Nat → Int) (x y : Int), y ≤ x → zfil f x y b = f := fun f x y h => zfil_0 f b h
  have e : zWm t v b (zSc t (t 10 v 0).toNat) 0 = zWf t v b (zSc t (t 10 v 0).toNat) := by
    funext p q
    unfold zWm zWf
    by_cases hp : (p : Int) = t 12 v 0
    · rw [if_pos hp, if_pos hp, show t 13 v 0 + zOff t (t 10 v 0).toNat (zSc t (t 10 v 0).toNat) + 0 = t 13 v 0 + zLen t (t 10 v 0).toNat by unfold zLen; omega]
    · rw [if_neg hp, if_neg hp]
      by_cases h11 : (p : Int) = t 11 v 0 + 4
      · rw [if_pos h11, if_pos h11, key _ _ _ (by omega)]
        split <;> rfl
      · rw [if_neg h11, if_neg h11]
  rw [e]
abbrev rX7_marks : Room := { frames := 0, cells := 0, slots := 0, locals := 0 }
set_option maxRecDepth 100000 in
set_option maxHeartbeats 4000000 in
theorem c_X7_marks {l : Launch} (hfl : l.stackTraces = false) (G : zG) {s t : zS} {o : zOx} (hc : zC1 t) (hb9 : zB t) {v : Nat} {b : Int} (hv : v < 30) (h10 : 0 ≤ t 10 v 0 ∧ t 10 v 0 < 8) (hvv : 0 ≤ t 13 v 0 ∧ t 13 v 0 + zLen t (t 10 v 0).toNat ≤ 600 ∧ (0 ≤ t 11 v 0 ∧ t 11 v 0 < 5) ∧ (0 ≤ t 12 v 0 ∧ t 12 v 0 < 4)) (hbm : zR b)  : zCn l G yX7_marks (.code yX7_marks cX7_marks 7 none) rX7_marks [.ref 16, .int (zI (((v : Nat) : Int))), .int (zI b)] (zAll s t o) (zRv (fun M2 => M2 = zAll s (zOpM t v b) o)) zN := by
  refine zStart hfl (by decide) (own := RX7) rfl [(0, .ref 16), (1, .int (zI (((v : Nat) : Int)))), (2, .int (zI b))] (Nat.le_of_ble_eq_true rfl) rfl (fun k hkl hinit hk0 F => ?_)
  have hn0 := hc.1
  have hn4 := hc.2.1
  have hn9 := hc.2.2.1
  have hn14 := hc.2.2.2.1
  have hn18 := hc.2.2.2.2.1
  have hln := hc.len (t 10 v 0).toNat
  have hsc := hc.2.2.2.2.2.2.2.1 (t 10 v 0).toNat
  refine z_aload_n F 0 dX7_marks_0 rfl rfl ?_
  refine z_get F fl_X7_32 (zAll_16 s t o) rfl dX7_marks_1 ?_
  refine z_iload_n F 1 dX7_marks_4 rfl rfl ?_
  refine z_iald F (zAll_24 s t o) (by omega) (by omega) (by decide) dX7_marks_5 ?_
  refine z_ti (y := ((((t 10 v 0).toNat) : Nat) : Int)) (by rw [Int.toNat_natCast]; omega) ?_
  refine z_istore_n F [(3, .int (zI (((((t 10 v 0).toNat) : Nat) : Int)))), (0, .ref 16), (1, .int (zI (((v : Nat) : Int)))), (2, .int (zI b))] dX7_marks_6 rfl (by decide) rfl ?_
  refine z_aload_n F 1 dX7_marks_7 rfl rfl ?_
  refine z_get F fl_X7_41 (zAll_16 s t o) rfl dX7_marks_8 ?_
  refine z_iload_n F 2 dX7_marks_11 rfl rfl ?_
  refine z_iald F (zAll_27 s t o) (by omega) (by omega) (by decide) dX7_marks_12 ?_
  refine z_ti (y := t 13 v 0) (by rw [Int.toNat_natCast]) ?_
  refine z_istore F [(4, .int (zI (t 13 v 0))), (3, .int (zI (((((t 10 v 0).toNat) : Nat) : Int)))), (0, .ref 16), (1, .int (zI (((v : Nat) : Int)))), (2, .int (zI b))] dX7_marks_13 (by decide) rfl ?_
  refine z_iconst (z := 0) F dX7_marks_15 (by decide) ?_
  refine z_istore F [(5, .int (zI 0)), (4, .int (zI (t 13 v 0))), (3, .int (zI (((((t 10 v 0).toNat) : Nat) : Int)))), (0, .ref 16), (1, .int (zI (((v : Nat) : Int)))), (2, .int (zI b))] dX7_marks_16 (by decide) rfl ?_
  have L1 : ∀ (fuel : Nat) (w : Int) (m : Int), (t 5 (t 10 v 0).toNat 0 - w).toNat < fuel → 0 ≤ w → w ≤ t 5 (t 10 v 0).toNat 0 → m = t 13 v 0 + zOff t (t 10 v 0).toNat w.toNat → zJ k G rX7_marks 7 (zMQ k G rX7_marks (zRv (fun M2 => M2 = zAll s (zOpM t v b) o)) zN) (zAll s (zWd t (zWm t v b w.toNat 0)) o) 0 0 18 [(0, .ref 16), (1, .int (zI (((v : Nat) : Int)))), (2, .int (zI b)), (3, .int (zI (((((t 10 v 0).toNat) : Nat) : Int)))), (4, .int (zI m)), (5, .int (zI w))] [] := by
    intro fuel
    induction fuel with
    | zero => intros; omega
    | succ fuel L1_ih =>
      intro w m hfuel hw0 hw1 hm
      refine z_iload F 5 dX7_marks_18 rfl ?_
      refine z_aload_n F 0 dX7_marks_20 rfl rfl ?_
      refine z_get F fl_X7_25 (zAll_16 s (zWd t (zWm t v b w.toNat 0)) o) rfl dX7_marks_21 ?_
      refine z_iload_n F 3 dX7_marks_24 rfl rfl ?_
      refine z_iald F (zAll_22 s (zWd t (zWm t v b w.toNat 0)) o) (by omega) (by omega) (by decide) dX7_marks_25 ?_
      refine z_ti (y := t 5 (t 10 v 0).toNat 0) (by rw [Int.toNat_natCast]; rfl) ?_
      refine z_icmp_ge F 116 dX7_marks_26 (by decide) (by omega) (by omega) (fun c_1 => ?_) (fun c_1 => ?_)
      · skip
        have hwe : w.toNat = zSc t (t 10 v 0).toNat := by have := (hc.sc (t 10 v 0).toNat).2; omega
        exact z_retv F rfl (by first | decide | assumption | omega) (by first | decide | assumption | omega) dX7_marks_116 ⟨rfl, by rw [hwe, zWm_e]⟩
      · skip
        have ho1 := hc.off (t 10 v 0).toNat w.toNat
        have ho3 := hc.offl (a := (t 10 v 0).toNat) (k := w.toNat + 1) (by have := (hc.sc (t 10 v 0).toNat).2; omega)
        have ho4 : zOff t (t 10 v 0).toNat (w.toNat + 1) = zOff t (t 10 v 0).toNat w.toNat + t 7 (t 10 v 0).toNat w.toNat := rfl
        have h7 := hc.2.2.2.2.2.2.1 (t 10 v 0).toNat w.toNat
        have h6 := hc.2.2.2.2.2.1 (t 10 v 0).toNat w.toNat
        refine z_iconst (z := 0) F dX7_marks_29 (by decide) ?_
        refine z_istore F [(6, .int (zI 0)), (0, .ref 16), (1, .int (zI (((v : Nat) : Int)))), (2, .int (zI b)), (3, .int (zI (((((t 10 v 0).toNat) : Nat) : Int)))), (4, .int (zI m)), (5, .int (zI w))] dX7_marks_30 (by decide) rfl ?_
        have L2 : ∀ (fuel : Nat) (u : Int) (m : Int), (t 7 (t 10 v 0).toNat w.toNat - u).toNat < fuel → 0 ≤ u → u ≤ t 7 (t 10 v 0).toNat w.toNat → m = t 13 v 0 + zOff t (t 10 v 0).toNat w.toNat + u → zJ k G rX7_marks 7 (zMQ k G rX7_marks (zRv (fun M2 => M2 = zAll s (zOpM t v b) o)) zN) (zAll s (zWd t (zWm t v b w.toNat u)) o) 0 0 32 [(0, .ref 16), (1, .int (zI (((v : Nat) : Int)))), (2, .int (zI b)), (3, .int (zI (((((t 10 v 0).toNat) : Nat) : Int)))), (4, .int (zI m)), (5, .int (zI w)), (6, .int (zI u))] [] := by
          intro fuel
          induction fuel with
          | zero => intros; omega
          | succ fuel L2_ih =>
            intro u m hfuel hu0 hu1 hm
            refine z_iload F 6 dX7_marks_32 rfl ?_
            refine z_aload_n F 0 dX7_marks_34 rfl rfl ?_
            refine z_get F fl_X7_22 (zAll_16 s (zWd t (zWm t v b w.toNat u)) o) rfl dX7_marks_35 ?_
            refine z_iconst (z := 5) F dX7_marks_38 (by decide) ?_
            refine z_iload_n F 3 dX7_marks_39 rfl rfl ?_
            refine z_imul F dX7_marks_40 ?_
            refine z_iload F 5 dX7_marks_41 rfl ?_
            refine z_iadd F dX7_marks_43 ?_
            refine z_iald F (zAll_21 s (zWd t (zWm t v b w.toNat u)) o) (by omega) (by omega) (by decide) dX7_marks_44 ?_
            refine z_ti (y := t 7 (t 10 v 0).toNat w.toNat) (by show t 7 ((5 * ((((t 10 v 0).toNat) : Nat) : Int) + w).toNat / 5) ((5 * ((((t 10 v 0).toNat) : Nat) : Int) + w).toNat % 5) = _; rw [show (5 * ((((t 10 v 0).toNat) : Nat) : Int) + w).toNat / 5 = (t 10 v 0).toNat by omega, show (5 * ((((t 10 v 0).toNat) : Nat) : Int) + w).toNat % 5 = w.toNat by omega]) ?_
            refine z_icmp_ge F 110 dX7_marks_45 (by decide) (by omega) (by omega) (fun c_2 => ?_) (fun c_2 => ?_)
            · skip
              refine z_iinc F 5 [(5, .int (zI (w + 1))), (0, .ref 16), (1, .int (zI (((v : Nat) : Int)))), (2, .int (zI b)), (3, .int (zI (((((t 10 v 0).toNat) : Nat) : Int)))), (4, .int (zI m)), (6, .int (zI u))] dX7_marks_110 rfl (by decide) rfl ?_
              refine z_goto F 18 dX7_marks_113 (by decide) ?_
              refine z_lv [(0, .ref 16), (1, .int (zI (((v : Nat) : Int)))), (2, .int (zI b)), (3, .int (zI (((((t 10 v 0).toNat) : Nat) : Int)))), (4, .int (zI m)), (5, .int (zI (w + 1)))] [1, 2, 3, 4, 5, 0] rfl ?_
              refine z_M (M' := (zAll s (zWd t (zWm t v b (w + 1).toNat 0)) o)) (by rw [show (w + 1).toNat = w.toNat + 1 by omega, show u = t 7 (t 10 v 0).toNat w.toNat by omega, zWm_k]) ?_
              exact L1_ih (w + 1) m (by omega) (by omega) (by omega) (by rw [show (w + 1).toNat = w.toNat + 1 by omega]; omega)
            · skip
              refine z_aload_n F 0 dX7_marks_48 rfl rfl ?_
              refine z_get F fl_X7_19 (zAll_16 s (zWd t (zWm t v b w.toNat u)) o) rfl dX7_marks_49 ?_
              refine z_iconst (z := 5) F dX7_marks_52 (by decide) ?_
              refine z_iload_n F 3 dX7_marks_53 rfl rfl ?_
              refine z_imul F dX7_marks_54 ?_
              refine z_iload F 5 dX7_marks_55 rfl ?_
              refine z_iadd F dX7_marks_57 ?_
              refine z_iald F (zAll_20 s (zWd t (zWm t v b w.toNat u)) o) (by omega) (by omega) (by decide) dX7_marks_58 ?_
              refine z_ti (y := t 6 (t 10 v 0).toNat w.toNat) (by show t 6 ((5 * ((((t 10 v 0).toNat) : Nat) : Int) + w).toNat / 5) ((5 * ((((t 10 v 0).toNat) : Nat) : Int) + w).toNat % 5) = _; rw [show (5 * ((((t 10 v 0).toNat) : Nat) : Int) + w).toNat / 5 = (t 10 v 0).toNat by omega, show (5 * ((((t 10 v 0).toNat) : Nat) : Int) + w).toNat % 5 = w.toNat by omega]) ?_
              refine z_iconst (z := -1) F dX7_marks_59 (by decide) ?_
              refine z_icmp_eq F 82 dX7_marks_60 (by decide) (by omega) ⟨by decide, by decide⟩ (fun c_3 => ?_) (fun c_3 => ?_)
              · skip
                have hr9 : t 6 (t 10 v 0).toNat w.toNat = -1 := c_3
                refine z_aload_n F 0 dX7_marks_82 rfl rfl ?_
                refine z_get F fl_X7_47 (zAll_16 s (zWd t (zWm t v b w.toNat u)) o) rfl dX7_marks_83 ?_
                refine z_sipush (z := 600) F dX7_marks_86 (by decide) ?_
                refine z_aload_n F 0 dX7_marks_89 rfl rfl ?_
                refine z_get F fl_X7_38 (zAll_16 s (zWd t (zWm t v b w.toNat u)) o) rfl dX7_marks_90 ?_
                refine z_iload_n F 1 dX7_marks_93 rfl rfl ?_
                refine z_iald F (zAll_26 s (zWd t (zWm t v b w.toNat u)) o) (by omega) (by omega) (by decide) dX7_marks_94 ?_
                refine z_ti (y := t 12 v 0) (by rw [Int.toNat_natCast]; rfl) ?_
                refine z_imul F dX7_marks_95 ?_
                refine z_iload F 4 dX7_marks_96 rfl ?_
                refine z_iadd F dX7_marks_98 ?_
                refine z_iload_n F 2 dX7_marks_99 rfl rfl ?_
                refine z_iast F (zAll_29 s (zWd t (zWm t v b w.toNat u)) o) (by omega) (by omega) (by decide) dX7_marks_100 ?_
                have hm_4_s := zu_s (zAll s (zWd t (zWm t v b w.toNat u)) o) 29 (zAi 0 2400 (zup (fun j => if j < 2400 then (zWd t (zWm t v b w.toNat u)) 21 (j / 600) (j % 600) else 0) ((600 * (t 12 v 0)) + m).toNat b))
                refine z_M (M' := (zAll s (zWd t (zWm t v b w.toNat (u + 1))) o)) ((zMA_29 (t := (zWd t (zWm t v b w.toNat u))) (a := (t 12 v 0).toNat) (b := m.toNat) (by omega) (by omega) (by omega)).trans (by rw [zWm_n hvv.2.2.2.1 hr9 hu0 ho1.1 (by omega)])) ?_
                refine z_iinc F 4 [(4, .int (zI (m + 1))), (0, .ref 16), (1, .int (zI (((v : Nat) : Int)))), (2, .int (zI b)), (3, .int (zI (((((t 10 v 0).toNat) : Nat) : Int)))), (5, .int (zI w)), (6, .int (zI u))] dX7_marks_101 rfl (by decide) rfl ?_
                refine z_iinc F 6 [(6, .int (zI (u + 1))), (4, .int (zI (m + 1))), (0, .ref 16), (1, .int (zI (((v : Nat) : Int)))), (2, .int (zI b)), (3, .int (zI (((((t 10 v 0).toNat) : Nat) : Int)))), (5, .int (zI w))] dX7_marks_104 rfl (by decide) rfl ?_
                refine z_goto F 32 dX7_marks_107 (by decide) ?_
                refine z_lv [(0, .ref 16), (1, .int (zI (((v : Nat) : Int)))), (2, .int (zI b)), (3, .int (zI (((((t 10 v 0).toNat) : Nat) : Int)))), (4, .int (zI (m + 1))), (5, .int (zI w)), (6, .int (zI (u + 1)))] [2, 3, 4, 5, 1, 6, 0] rfl ?_
                exact L2_ih (u + 1) (m + 1) (by omega) (by omega) (by omega) (by omega)
              · skip
                have hr9 : ¬ t 6 (t 10 v 0).toNat w.toNat = -1 := c_3
                refine z_aload_n F 0 dX7_marks_63 rfl rfl ?_
                refine z_get F fl_X7_44 (zAll_16 s (zWd t (zWm t v b w.toNat u)) o) rfl dX7_marks_64 ?_
                refine z_sipush (z := 600) F dX7_marks_67 (by decide) ?_
                refine z_aload_n F 0 dX7_marks_70 rfl rfl ?_
                refine z_get F fl_X7_35 (zAll_16 s (zWd t (zWm t v b w.toNat u)) o) rfl dX7_marks_71 ?_
                refine z_iload_n F 1 dX7_marks_74 rfl rfl ?_
                refine z_iald F (zAll_25 s (zWd t (zWm t v b w.toNat u)) o) (by omega) (by omega) (by decide) dX7_marks_75 ?_
                refine z_ti (y := t 11 v 0) (by rw [Int.toNat_natCast]; rfl) ?_
                refine z_imul F dX7_marks_76 ?_
                refine z_iload F 4 dX7_marks_77 rfl ?_
                refine z_iadd F dX7_marks_79 ?_
                refine z_iload_n F 2 dX7_marks_80 rfl rfl ?_
                refine z_iast F (zAll_28 s (zWd t (zWm t v b w.toNat u)) o) (by omega) (by omega) (by decide) dX7_marks_81 ?_
                have hm_5_s := zu_s (zAll s (zWd t (zWm t v b w.toNat u)) o) 28 (zAi 0 3000 (zup (fun j => (zWd t (zWm t v b w.toNat u)) 21 (j / 600 + 4) (j % 600)) ((600 * (t 11 v 0)) + m).toNat b))
                refine z_M (M' := (zAll s (zsu (zWd t (zWm t v b w.toNat u)) 21 ((t 11 v 0).toNat + 4) m.toNat b) o)) (zMA_28 (t := (zWd t (zWm t v b w.toNat u))) (a := (t 11 v 0).toNat) (b := m.toNat) (by omega) (by omega)) ?_
                refine z_aload_n F 0 dX7_marks_82 rfl rfl ?_
                refine z_get F fl_X7_47 (zAll_16 s (zsu (zWd t (zWm t v b w.toNat u)) 21 ((t 11 v 0).toNat + 4) m.toNat b) o) rfl dX7_marks_83 ?_
                refine z_sipush (z := 600) F dX7_marks_86 (by decide) ?_
                refine z_aload_n F 0 dX7_marks_89 rfl rfl ?_
                refine z_get F fl_X7_38 (zAll_16 s (zsu (zWd t (zWm t v b w.toNat u)) 21 ((t 11 v 0).toNat + 4) m.toNat b) o) rfl dX7_marks_90 ?_
                refine z_iload_n F 1 dX7_marks_93 rfl rfl ?_
                refine z_iald F (zAll_26 s (zsu (zWd t (zWm t v b w.toNat u)) 21 ((t 11 v 0).toNat + 4) m.toNat b) o) (by omega) (by omega) (by decide) dX7_marks_94 ?_
                refine z_ti (y := t 12 v 0) (by rw [Int.toNat_natCast]; rfl) ?_
                refine z_imul F dX7_marks_95 ?_
                refine z_iload F 4 dX7_marks_96 rfl ?_
                refine z_iadd F dX7_marks_98 ?_
                refine z_iload_n F 2 dX7_marks_99 rfl rfl ?_
                refine z_iast F (zAll_29 s (zsu (zWd t (zWm t v b w.toNat u)) 21 ((t 11 v 0).toNat + 4) m.toNat b) o) (by omega) (by omega) (by decide) dX7_marks_100 ?_
                have hm_6_s := zu_s (zAll s (zsu (zWd t (zWm t v b w.toNat u)) 21 ((t 11 v 0).toNat + 4) m.toNat b) o) 29 (zAi 0 2400 (zup (fun j => if j < 2400 then (zsu (zWd t (zWm t v b w.toNat u)) 21 ((t 11 v 0).toNat + 4) m.toNat b) 21 (j / 600) (j % 600) else 0) ((600 * (t 12 v 0)) + m).toNat b))
                refine z_M (M' := (zAll s (zWd t (zWm t v b w.toNat (u + 1))) o)) ((zMA_29 (t := (zsu (zWd t (zWm t v b w.toNat u)) 21 ((t 11 v 0).toNat + 4) m.toNat b)) (a := (t 12 v 0).toNat) (b := m.toNat) (by omega) (by omega) (by omega)).trans (by rw [zWm_w hvv.2.2.2 hvv.2.2.1.1 hr9 hu0 ho1.1 (by omega)])) ?_
                refine z_iinc F 4 [(4, .int (zI (m + 1))), (0, .ref 16), (1, .int (zI (((v : Nat) : Int)))), (2, .int (zI b)), (3, .int (zI (((((t 10 v 0).toNat) : Nat) : Int)))), (5, .int (zI w)), (6, .int (zI u))] dX7_marks_101 rfl (by decide) rfl ?_
                refine z_iinc F 6 [(6, .int (zI (u + 1))), (4, .int (zI (m + 1))), (0, .ref 16), (1, .int (zI (((v : Nat) : Int)))), (2, .int (zI b)), (3, .int (zI (((((t 10 v 0).toNat) : Nat) : Int)))), (5, .int (zI w))] dX7_marks_104 rfl (by decide) rfl ?_
                refine z_goto F 32 dX7_marks_107 (by decide) ?_
                refine z_lv [(0, .ref 16), (1, .int (zI (((v : Nat) : Int)))), (2, .int (zI b)), (3, .int (zI (((((t 10 v 0).toNat) : Nat) : Int)))), (4, .int (zI (m + 1))), (5, .int (zI w)), (6, .int (zI (u + 1)))] [2, 3, 4, 5, 1, 6, 0] rfl ?_
                exact L2_ih (u + 1) (m + 1) (by omega) (by omega) (by omega) (by omega)
        refine z_lv [(0, .ref 16), (1, .int (zI (((v : Nat) : Int)))), (2, .int (zI b)), (3, .int (zI (((((t 10 v 0).toNat) : Nat) : Int)))), (4, .int (zI m)), (5, .int (zI w)), (6, .int (zI 0))] [1, 2, 3, 4, 5, 6, 0] rfl ?_
        exact L2 _ 0 m (Nat.lt_succ_self _) (by omega) (by omega) (by omega)
  refine z_lv [(0, .ref 16), (1, .int (zI (((v : Nat) : Int)))), (2, .int (zI b)), (3, .int (zI (((((t 10 v 0).toNat) : Nat) : Int)))), (4, .int (zI (t 13 v 0))), (5, .int (zI 0))] [3, 4, 5, 2, 1, 0] rfl ?_
  refine z_M (M' := (zAll s (zWd t (zWm t v b (0 : Int).toNat 0)) o)) (by rw [show (0 : Int).toNat = 0 from rfl, zWm_0]) ?_
  exact L1 _ 0 ((t 13 v 0)) (Nat.lt_succ_self _) (by omega) (by omega) (show t 13 v 0 = t 13 v 0 + 0 by omega)

theorem zMk_cg {s s' : zS} {a : Nat} {x b : Int} {f : Nat → Int} (h6 : s 6 a = s' 6 a) (h7 : s 7 a = s' 7 a) : ∀ k, zMk s a x b f k = zMk s' a x b f k
  | 0 => rfl
  | k + 1 => by
    have e : ∀ j, zOff s a j = zOff s' a j := fun j => by unfold zOff; rw [h7]
    rw [zMk, zMk, zMk_cg h6 h7 k, h6, e, e]
theorem zC1_10 {t : zS} (h : zC1 t) {v a : Nat} (ha : (a : Int) < t 4 0 0) (hd : t 13 v 0 = -1 ∨ t 9 0 0 ≤ (v : Int)) : zC1 (zsu t 10 v 0 a) := by
  obtain ⟨c1, c2, c3, c4, c5, c6, c7, c8, c9, c10, c11, c12, c13, c14, c15⟩ := h
  refine ⟨c1, c2, c3, c4, c5, c6, c7, c8, c9, c10, ?_, c12, c13, ?_, c15⟩
  · intro w hw
    by_cases e : w = v
    · rw [show zsu t 10 v 0 a 10 w 0 = a from if_pos ⟨rfl, e, rfl⟩]
      exact ⟨by omega, ha⟩
    · rw [show zsu t 10 v 0 a 10 w 0 = t 10 w 0 from if_neg (fun h => e h.2.1)]
      exact c11 w hw
  · intro w hw
    by_cases e : w = v
    · subst e
      have hw2 : (w : Int) < t 9 0 0 := hw
      exact Or.inl (hd.resolve_right (by omega))
    · rw [show zsu t 10 v 0 a 10 w 0 = t 10 w 0 from if_neg (fun h => e h.2.1)]
      exact c14 w hw
abbrev rX7_lays : Room := { frames := 1, cells := 0, slots := 0, locals := 26 }
set_option maxRecDepth 100000 in
set_option maxHeartbeats 4000000 in
theorem c_X7_lays {l : Launch} (hfl : l.stackTraces = false) (G : zG) {s t : zS} {o : zOx} (hc : zC1 t) (hb9 : zB t) {v a : Nat} {x : Int} (hv : v < 30) (ha : (a : Int) < t 4 0 0) (hd : t 13 v 0 = -1 ∨ t 9 0 0 ≤ (v : Int)) (hp : 0 ≤ t 23 0 0 ∧ t 23 0 0 < t 0 0 0) (hq : 0 ≤ t 24 0 0 ∧ t 24 0 0 < 4) (hx : 0 ≤ x) (hx2 : x + zLen t a ≤ 600)  : zCn l G yX7_lays (.code yX7_lays cX7_lays 4 none) rX7_lays [.ref 16, .int (zI (((v : Nat) : Int))), .int (zI (((a : Nat) : Int))), .int (zI x)] (zAll s t o) (zRv (fun M2 => M2 = zAll s (zOpL (zsu t 10 v 0 a) v (t 23 0 0) (t 24 0 0) x) o)) zN := by
  refine zStart hfl (by decide) (own := RX7) rfl [(0, .ref 16), (1, .int (zI (((v : Nat) : Int)))), (2, .int (zI (((a : Nat) : Int)))), (3, .int (zI x))] (Nat.le_of_ble_eq_true rfl) rfl (fun k hkl hinit hk0 F => ?_)
  have hn0 := hc.1
  have hn4 := hc.2.1
  have hn9 := hc.2.2.1
  have hn14 := hc.2.2.2.1
  have hn18 := hc.2.2.2.2.1
  have hln := hc.len a
  have hc1 := zC1_10 hc ha hd
  have hb1 : zB (zsu t 10 v 0 a) := zB_u hb9 (by omega)
  have h9 : (zsu t 10 v 0 a) 10 v 0 = a := if_pos ⟨rfl, rfl, rfl⟩
  have hc4 : zC1 (zsu (zsu (zsu (zsu t 10 v 0 a) 11 v 0 (t 23 0 0)) 12 v 0 (t 24 0 0)) 13 v 0 x) := zC1_A (s := (zsu t 10 v 0 a)) hc1 (v := v) hp hq hx (by rw [h9, Int.toNat_natCast]; exact hx2)
  have hb4 : zB (zsu (zsu (zsu (zsu t 10 v 0 a) 11 v 0 (t 23 0 0)) 12 v 0 (t 24 0 0)) 13 v 0 x) := zB_A (s := (zsu t 10 v 0 a)) hb1 (v := v) (by omega) hq (by omega)
  have e10 : (zsu (zsu (zsu (zsu t 10 v 0 a) 11 v 0 (t 23 0 0)) 12 v 0 (t 24 0 0)) 13 v 0 x) 10 v 0 = a := h9
  have e11 : (zsu (zsu (zsu (zsu t 10 v 0 a) 11 v 0 (t 23 0 0)) 12 v 0 (t 24 0 0)) 13 v 0 x) 11 v 0 = (t 23 0 0) := zOpA_11 (zsu t 10 v 0 a) v (t 23 0 0) (t 24 0 0) x
  have e12 : (zsu (zsu (zsu (zsu t 10 v 0 a) 11 v 0 (t 23 0 0)) 12 v 0 (t 24 0 0)) 13 v 0 x) 12 v 0 = (t 24 0 0) := zOpA_12 (zsu t 10 v 0 a) v (t 23 0 0) (t 24 0 0) x
  have e13 : (zsu (zsu (zsu (zsu t 10 v 0 a) 11 v 0 (t 23 0 0)) 12 v 0 (t 24 0 0)) 13 v 0 x) 13 v 0 = x := if_pos ⟨rfl, rfl, rfl⟩
  refine z_aload_n F 0 dX7_lays_0 rfl rfl ?_
  refine z_get F fl_X7_32 (zAll_16 s t o) rfl dX7_lays_1 ?_
  refine z_iload_n F 1 dX7_lays_4 rfl rfl ?_
  refine z_iload_n F 2 dX7_lays_5 rfl rfl ?_
  refine z_iast F (zAll_24 s t o) (by omega) (by omega) (by decide) dX7_lays_6 ?_
  have hm_1_s := zu_s (zAll s t o) 24 (zAi 0 30 (zup (fun j => t 10 j 0) (((v : Nat) : Int)).toNat (((a : Nat) : Int))))
  refine z_M (M' := (zAll s (zsu t 10 v 0 a) o)) ((zMA_24 (t := t)).trans (by rw [Int.toNat_natCast])) ?_
  refine z_aload_n F 0 dX7_lays_7 rfl rfl ?_
  refine z_get F fl_X7_35 (zAll_16 s (zsu t 10 v 0 a) o) rfl dX7_lays_8 ?_
  refine z_iload_n F 1 dX7_lays_11 rfl rfl ?_
  refine z_aload_n F 0 dX7_lays_12 rfl rfl ?_
  refine z_get F fl_X7_107 (zAll_16 s (zsu t 10 v 0 a) o) rfl dX7_lays_13 ?_
  refine z_ti (y := (t 23 0 0)) rfl ?_
  refine z_iast F (zAll_25 s (zsu t 10 v 0 a) o) (by omega) (by omega) (by decide) dX7_lays_16 ?_
  have hm_2_s := zu_s (zAll s (zsu t 10 v 0 a) o) 25 (zAi 0 30 (zup (fun j => (zsu t 10 v 0 a) 11 j 0) (((v : Nat) : Int)).toNat ((t 23 0 0))))
  refine z_M (M' := (zAll s (zsu (zsu t 10 v 0 a) 11 v 0 (t 23 0 0)) o)) ((zMA_25 (t := (zsu t 10 v 0 a))).trans (by rw [Int.toNat_natCast])) ?_
  refine z_aload_n F 0 dX7_lays_17 rfl rfl ?_
  refine z_get F fl_X7_38 (zAll_16 s (zsu (zsu t 10 v 0 a) 11 v 0 (t 23 0 0)) o) rfl dX7_lays_18 ?_
  refine z_iload_n F 1 dX7_lays_21 rfl rfl ?_
  refine z_aload_n F 0 dX7_lays_22 rfl rfl ?_
  refine z_get F fl_X7_114 (zAll_16 s (zsu (zsu t 10 v 0 a) 11 v 0 (t 23 0 0)) o) rfl dX7_lays_23 ?_
  refine z_ti (y := (t 24 0 0)) rfl ?_
  refine z_iast F (zAll_26 s (zsu (zsu t 10 v 0 a) 11 v 0 (t 23 0 0)) o) (by omega) (by omega) (by decide) dX7_lays_26 ?_
  have hm_3_s := zu_s (zAll s (zsu (zsu t 10 v 0 a) 11 v 0 (t 23 0 0)) o) 26 (zAi 0 30 (zup (fun j => (zsu (zsu t 10 v 0 a) 11 v 0 (t 23 0 0)) 12 j 0) (((v : Nat) : Int)).toNat ((t 24 0 0))))
  refine z_M (M' := (zAll s (zsu (zsu (zsu t 10 v 0 a) 11 v 0 (t 23 0 0)) 12 v 0 (t 24 0 0)) o)) ((zMA_26 (t := (zsu (zsu t 10 v 0 a) 11 v 0 (t 23 0 0)))).trans (by rw [Int.toNat_natCast])) ?_
  refine z_aload_n F 0 dX7_lays_27 rfl rfl ?_
  refine z_get F fl_X7_41 (zAll_16 s (zsu (zsu (zsu t 10 v 0 a) 11 v 0 (t 23 0 0)) 12 v 0 (t 24 0 0)) o) rfl dX7_lays_28 ?_
  refine z_iload_n F 1 dX7_lays_31 rfl rfl ?_
  refine z_iload_n F 3 dX7_lays_32 rfl rfl ?_
  refine z_iast F (zAll_27 s (zsu (zsu (zsu t 10 v 0 a) 11 v 0 (t 23 0 0)) 12 v 0 (t 24 0 0)) o) (by omega) (by omega) (by decide) dX7_lays_33 ?_
  have hm_4_s := zu_s (zAll s (zsu (zsu (zsu t 10 v 0 a) 11 v 0 (t 23 0 0)) 12 v 0 (t 24 0 0)) o) 27 (zAi 0 30 (zup (fun j => (zsu (zsu (zsu t 10 v 0 a) 11 v 0 (t 23 0 0)) 12 v 0 (t 24 0 0)) 13 j 0) (((v : Nat) : Int)).toNat x))
  refine z_M (M' := (zAll s (zsu (zsu (zsu (zsu t 10 v 0 a) 11 v 0 (t 23 0 0)) 12 v 0 (t 24 0 0)) 13 v 0 x) o)) ((zMA_27 (t := (zsu (zsu (zsu t 10 v 0 a) 11 v 0 (t 23 0 0)) 12 v 0 (t 24 0 0)))).trans (by rw [Int.toNat_natCast])) ?_
  refine z_aload_n F 0 dX7_lays_34 rfl rfl ?_
  refine z_iload_n F 1 dX7_lays_35 rfl rfl ?_
  refine z_iload_n F 1 dX7_lays_36 rfl rfl ?_
  refine z_callV F [.int (zI (((v : Nat) : Int))), .int (zI (((v : Nat) : Int)))] [] (c_X7_marks F.2.2.1 G (s := s) (t := (zsu (zsu (zsu (zsu t 10 v 0 a) 11 v 0 (t 23 0 0)) 12 v 0 (t 24 0 0)) 13 v 0 x)) (o := o) hc4 hb4 (v := v) (b := ((v : Nat) : Int)) hv (by rw [e10]; omega) (by rw [e10, e11, e12, e13, Int.toNat_natCast]; exact ⟨hx, hx2, by omega, hq⟩) ⟨by omega, by omega⟩) cv_X7_117 (zAll_16 s (zsu (zsu (zsu (zsu t 10 v 0 a) 11 v 0 (t 23 0 0)) 12 v 0 (t 24 0 0)) 13 v 0 x) o) rfl rfl rfl ⟨by decide, by decide⟩ ⟨by decide, by decide⟩ (Nat.le_of_ble_eq_true rfl) dX7_lays_37 z_nx (z_kv (fun M_5 h_5 => ?_))
  have hm9 := (h_5).symm
  subst hm9
  exact z_retv F rfl (by first | decide | assumption | omega) (by first | decide | assumption | omega) dX7_lays_40 ⟨rfl, rfl⟩

theorem zOpB_m {t : zS} {a : Nat} {i c x : Int} (h9 : 0 ≤ t 9 0 0) (hc : c < 4) (hi : 0 ≤ i) : zsu (zsu (zOpL (zsu t 10 (t 9 0 0).toNat 0 a) (t 9 0 0).toNat i c x) 8 a 0 1) 9 0 0 (t 9 0 0 + 1) = zOpB t a i c x := by
  have k1 : zOpA (zsu t 10 (t 9 0 0).toNat 0 a) (t 9 0 0).toNat i c x 10 (t 9 0 0).toNat 0 = a := if_pos ⟨rfl, rfl, rfl⟩
  have k2 : zOpA (zOpV t a) (t 9 0 0).toNat i c x 10 (t 9 0 0).toNat 0 = a := if_pos ⟨rfl, rfl, rfl⟩
  funext g p q
  by_cases hg : g = 21
  · subst hg
    show zOpM (zOpA (zsu t 10 (t 9 0 0).toNat 0 a) (t 9 0 0).toNat i c x) (t 9 0 0).toNat (t 9 0 0).toNat 21 p q = zOpM (zOpA (zOpV t a) (t 9 0 0).toNat i c x) (t 9 0 0).toNat (t 9 0 0).toNat 21 p q
    show (if (p : Int) = zOpA (zsu t 10 (t 9 0 0).toNat 0 a) (t 9 0 0).toNat i c x 12 (t 9 0 0).toNat 0 then zfil (t 21 p) _ _ _ q else if (p : Int) = _ then zMk _ _ _ _ (t 21 p) _ q else t 21 p q) = (if (p : Int) = _ then zfil (t 21 p) _ _ _ q else if (p : Int) = _ then zMk _ _ _ _ (t 21 p) _ q else t 21 p q)
    rw [k1, k2, zOpA_11, zOpA_12, zOpA_13, zOpA_11, zOpA_12, zOpA_13, Int.toNat_natCast, zMk_cg (s := zOpA (zsu t 10 (t 9 0 0).toNat 0 a) (t 9 0 0).toNat i c x) (s' := zOpA (zOpV t a) (t 9 0 0).toNat i c x) rfl rfl]
    rfl
  · have n1 : zOpB t a i c x g p q = zOpA (zOpV t a) (t 9 0 0).toNat i c x g p q := if_neg hg
    rw [n1]
    have n2 : ∀ u v b, zOpM u v b g p q = u g p q := fun u v b => if_neg hg
    unfold zsu zOpL
    rw [n2]
    unfold zOpA zOpV zsu
    by_cases h13 : g = 13
    · subst h13
      simp
      by_cases h : p = (t 9 0 0).toNat ∧ q = 0
      · rw [if_pos h, if_pos h]
      · rw [if_neg h, if_neg h, if_neg h]
    · simp [h13]
      by_cases h8 : g = 8
      · subst h8; simp
      · by_cases h9 : g = 9
        · subst h9; simp
        · simp [h8, h9]
abbrev rX7_books : Room := { frames := 2, cells := 0, slots := 0, locals := 49 }
set_option maxRecDepth 100000 in
set_option maxHeartbeats 4000000 in
theorem c_X7_books {l : Launch} (hfl : l.stackTraces = false) (G : zG) {s t : zS} {o : zOx} (hc : zC1 t) (hb9 : zB t) {a : Nat} {x : Int} (ha : (a : Int) < t 4 0 0) (hn30 : t 9 0 0 < 30) (hp : 0 ≤ t 23 0 0 ∧ t 23 0 0 < t 0 0 0) (hq : 0 ≤ t 24 0 0 ∧ t 24 0 0 < 4) (hx : 0 ≤ x) (hx2 : x + zLen t a ≤ 600)  : zCn l G yX7_books (.code yX7_books cX7_books 3 (some .int)) rX7_books [.ref 16, .int (zI (((a : Nat) : Int))), .int (zI x)] (zAll s t o) (zRi (fun xr M2 => xr = t 9 0 0 ∧ M2 = zAll s (zOpB t a (t 23 0 0) (t 24 0 0) x) o)) zN := by
  refine zStart hfl (by decide) (own := RX7) rfl [(0, .ref 16), (1, .int (zI (((a : Nat) : Int)))), (2, .int (zI x))] (Nat.le_of_ble_eq_true rfl) rfl (fun k hkl hinit hk0 F => ?_)
  have hn0 := hc.1
  have hn4 := hc.2.1
  have hn9 := hc.2.2.1
  have hn14 := hc.2.2.2.1
  have hn18 := hc.2.2.2.2.1
  refine z_aload_n F 0 dX7_books_0 rfl rfl ?_
  refine z_aload_n F 0 dX7_books_1 rfl rfl ?_
  refine z_get F fl_X7_70 (zAll_16 s t o) rfl dX7_books_2 ?_
  refine z_ti (y := (((t 9 0 0).toNat : Nat) : Int)) (by omega) ?_
  refine z_iload_n F 1 dX7_books_5 rfl rfl ?_
  refine z_iload_n F 2 dX7_books_6 rfl rfl ?_
  refine z_callV F [.int (zI ((((t 9 0 0).toNat : Nat) : Int))), .int (zI (((a : Nat) : Int))), .int (zI x)] [] (c_X7_lays F.2.2.1 G (s := s) (t := t) (o := o) hc hb9 (v := (t 9 0 0).toNat) (a := a) (x := x) (by omega) ha (Or.inr (by omega)) hp hq hx hx2) cv_X7_121 (zAll_16 s t o) rfl rfl rfl ⟨by decide, by decide⟩ ⟨by decide, by decide⟩ (Nat.le_of_ble_eq_true rfl) dX7_books_7 z_nx (z_kv (fun M_1 h_1 => ?_))
  have hm9 := (h_1).symm
  subst hm9
  refine z_aload_n F 0 dX7_books_10 rfl rfl ?_
  refine z_get F fl_X7_28 (zAll_16 s (zOpL (zsu t 10 (t 9 0 0).toNat 0 a) (t 9 0 0).toNat (t 23 0 0) (t 24 0 0) x) o) rfl dX7_books_11 ?_
  refine z_iload_n F 1 dX7_books_14 rfl rfl ?_
  refine z_iconst (z := 1) F dX7_books_15 (by decide) ?_
  refine z_zast F (zAll_23 s (zOpL (zsu t 10 (t 9 0 0).toNat 0 a) (t 9 0 0).toNat (t 23 0 0) (t 24 0 0) x) o) (by omega) (by omega) (by decide) (Or.inr rfl) dX7_books_16 ?_
  have hm_2_s := zu_s (zAll s (zOpL (zsu t 10 (t 9 0 0).toNat 0 a) (t 9 0 0).toNat (t 23 0 0) (t 24 0 0) x) o) 23 (zAi 1 8 (zup (fun j => (zOpL (zsu t 10 (t 9 0 0).toNat 0 a) (t 9 0 0).toNat (t 23 0 0) (t 24 0 0) x) 8 j 0) (((a : Nat) : Int)).toNat 1))
  refine z_M (M' := (zAll s (zsu (zOpL (zsu t 10 (t 9 0 0).toNat 0 a) (t 9 0 0).toNat (t 23 0 0) (t 24 0 0) x) 8 a 0 1) o)) ((zMA_23 (t := (zOpL (zsu t 10 (t 9 0 0).toNat 0 a) (t 9 0 0).toNat (t 23 0 0) (t 24 0 0) x))).trans (by rw [Int.toNat_natCast])) ?_
  refine z_aload_n F 0 dX7_books_17 rfl rfl ?_
  refine z_dup F dX7_books_18 rfl ?_
  refine z_get F fl_X7_70 (zAll_16 s (zsu (zOpL (zsu t 10 (t 9 0 0).toNat 0 a) (t 9 0 0).toNat (t 23 0 0) (t 24 0 0) x) 8 a 0 1) o) rfl dX7_books_19 ?_
  refine z_ti (y := t 9 0 0) rfl ?_
  refine z_iconst (z := 1) F dX7_books_22 (by decide) ?_
  refine z_iadd F dX7_books_23 ?_
  refine z_put (ty := .int) F [.ref 17, .ref 18, .ref 19, .int (zI ((zsu (zOpL (zsu t 10 (t 9 0 0).toNat 0 a) (t 9 0 0).toNat (t 23 0 0) (t 24 0 0) x) 8 a 0 1) 0 0 0)), .ref 20, .ref 21, .ref 22, .ref 23, .int (zI ((zsu (zOpL (zsu t 10 (t 9 0 0).toNat 0 a) (t 9 0 0).toNat (t 23 0 0) (t 24 0 0) x) 8 a 0 1) 4 0 0)), .ref 24, .ref 25, .ref 26, .ref 27, .int (zI ((t 9 0 0) + 1)), .ref 28, .ref 29, .ref 30, .ref 31, .int (zI ((zsu (zOpL (zsu t 10 (t 9 0 0).toNat 0 a) (t 9 0 0).toNat (t 23 0 0) (t 24 0 0) x) 8 a 0 1) 14 0 0)), .int (zI ((zsu (zOpL (zsu t 10 (t 9 0 0).toNat 0 a) (t 9 0 0).toNat (t 23 0 0) (t 24 0 0) x) 8 a 0 1) 23 0 0)), .int (zI ((zsu (zOpL (zsu t 10 (t 9 0 0).toNat 0 a) (t 9 0 0).toNat (t 23 0 0) (t 24 0 0) x) 8 a 0 1) 24 0 0)), .int (zI ((zsu (zOpL (zsu t 10 (t 9 0 0).toNat 0 a) (t 9 0 0).toNat (t 23 0 0) (t 24 0 0) x) 8 a 0 1) 25 0 0))] fl_X7_70 tyX7 tyX7_ok nmX7 rfl (by decide +kernel) rfl rfl (zAll_16 s (zsu (zOpL (zsu t 10 (t 9 0 0).toNat 0 a) (t 9 0 0).toNat (t 23 0 0) (t 24 0 0) x) 8 a 0 1) o) (Nat.le_of_ble_eq_true rfl) rfl dX7_books_24 ?_
  have hm_3_s := zu_s (zAll s (zsu (zOpL (zsu t 10 (t 9 0 0).toNat 0 a) (t 9 0 0).toNat (t 23 0 0) (t 24 0 0) x) 8 a 0 1) o) 16 (zOb 8 [.ref 17, .ref 18, .ref 19, .int (zI ((zsu (zOpL (zsu t 10 (t 9 0 0).toNat 0 a) (t 9 0 0).toNat (t 23 0 0) (t 24 0 0) x) 8 a 0 1) 0 0 0)), .ref 20, .ref 21, .ref 22, .ref 23, .int (zI ((zsu (zOpL (zsu t 10 (t 9 0 0).toNat 0 a) (t 9 0 0).toNat (t 23 0 0) (t 24 0 0) x) 8 a 0 1) 4 0 0)), .ref 24, .ref 25, .ref 26, .ref 27, .int (zI ((t 9 0 0) + 1)), .ref 28, .ref 29, .ref 30, .ref 31, .int (zI ((zsu (zOpL (zsu t 10 (t 9 0 0).toNat 0 a) (t 9 0 0).toNat (t 23 0 0) (t 24 0 0) x) 8 a 0 1) 14 0 0)), .int (zI ((zsu (zOpL (zsu t 10 (t 9 0 0).toNat 0 a) (t 9 0 0).toNat (t 23 0 0) (t 24 0 0) x) 8 a 0 1) 23 0 0)), .int (zI ((zsu (zOpL (zsu t 10 (t 9 0 0).toNat 0 a) (t 9 0 0).toNat (t 23 0 0) (t 24 0 0) x) 8 a 0 1) 24 0 0)), .int (zI ((zsu (zOpL (zsu t 10 (t 9 0 0).toNat 0 a) (t 9 0 0).toNat (t 23 0 0) (t 24 0 0) x) 8 a 0 1) 25 0 0))])
  refine z_M (M' := (zAll s (zOpB t a (t 23 0 0) (t 24 0 0) x) o)) ((zMA_s9 (t := (zsu (zOpL (zsu t 10 (t 9 0 0).toNat 0 a) (t 9 0 0).toNat (t 23 0 0) (t 24 0 0) x) 8 a 0 1))).trans (by rw [zOpB_m hn9.1 hq.2 hp.1])) ?_
  refine z_aload_n F 0 dX7_books_27 rfl rfl ?_
  refine z_get F fl_X7_70 (zAll_16 s (zOpB t a (t 23 0 0) (t 24 0 0) x) o) rfl dX7_books_28 ?_
  refine z_ti (y := t 9 0 0 + 1) rfl ?_
  refine z_iconst (z := 1) F dX7_books_31 (by decide) ?_
  refine z_isub F dX7_books_32 ?_
  refine z_ti (y := t 9 0 0) (by omega) ?_
  exact z_reti F rfl (by first | decide | assumption | omega) (by first | decide | assumption | omega) dX7_books_33 ⟨_, rfl, rfl, rfl⟩

