/-! ===== the model: who gets it, and where ===== -/
/-- the members that are asked for: all, or one -/
def zWho (e : Int) : Nat → Bool := fun i => decide (e = -1) || decide (e = (i : Int))
theorem zWho_y {e w : Int} (h0 : 0 ≤ w) (h : e = -1 ∨ e = w) : zWho e w.toNat = true := by
  unfold zWho
  rw [Bool.or_eq_true, decide_eq_true_iff, decide_eq_true_iff]
  omega
theorem zWho_n {e w : Int} (h0 : 0 ≤ w) (h : ¬ e = -1) (h2 : ¬ e = w) : zWho e w.toNat = false := by
  unfold zWho
  rw [Bool.or_eq_false_iff, decide_eq_false_iff_not, decide_eq_false_iff_not]
  omega
theorem zLoad_b {s : zS} (hc : zC1 s) (i : Int) : 0 ≤ zLoad s i ∧ zLoad s i ≤ 30000 := by
  have h := zLoad_r hc i (s 9 0 0).toNat
  have h9 := hc.2.2.1
  have e : zLoad s i = zsm (fun v => if s 13 v 0 ≠ -1 ∧ s 11 v 0 = i then zWork s (s 10 v 0).toNat else 0) (s 9 0 0).toNat := rfl
  omega
theorem zMem_l {s : zS} {who : Nat → Bool} {a : Nat} {x : Int} : ∀ n : Nat, (zMem s who a x n).1 ≠ -1 → (zMem s who a x n).2 = zLoad s (zMem s who a x n).1
  | 0, h => absurd rfl h
  | n + 1, h => by
    rw [zMem] at h ⊢
    split
    · rename_i h1
      rw [if_pos h1] at h
      split
      · rfl
      · rename_i h2
        rw [if_neg h2] at h
        exact zMem_l n h
    · rename_i h1
      rw [if_neg h1] at h
      exact zMem_l n h
theorem zMem_wc {s : zS} {who who' : Nat → Bool} {a : Nat} {x : Int} : ∀ n : Nat, (∀ i, i < n → who i = who' i) → zMem s who a x n = zMem s who' a x n
  | 0, _ => rfl
  | n + 1, h => by rw [zMem, zMem, zMem_wc n (fun i hi => h i (by omega)), h n (by omega)]
theorem zWho_31 {s : zS} (hc : zC1 s) {a : Nat} {x : Int} : zGet s (zWho (-1)) a x = zGet s (zBit 31) a x := by
  unfold zGet
  rw [zMem_wc (who' := zBit 31) _ (fun i hi => ?_)]
  have h5 := hc.1
  rcases (show i = 0 ∨ i = 1 ∨ i = 2 ∨ i = 3 ∨ i = 4 by omega) with e | e | e | e | e <;> subst e <;> decide
theorem zWho_1 {s : zS} (hc : zC1 s) {a : Nat} {x w : Int} (h0 : 0 ≤ w) (h1 : w < s 0 0 0) : zGet s (zWho w) a x = zGet s (zBit (2 ^ w.toNat)) a x := by
  unfold zGet
  rw [zMem_wc (who' := zBit (2 ^ w.toNat)) _ (fun i hi => ?_)]
  have h5 := hc.1
  obtain ⟨j, hj⟩ : ∃ j : Nat, w = (j : Int) := ⟨w.toNat, by omega⟩
  subst hj
  rw [Int.toNat_natCast]
  have key : ∀ j : Nat, j < 5 → ∀ i : Nat, i < 5 → zWho (j : Int) i = zBit (2 ^ j) i := by decide +kernel
  exact key j (by omega) i (by omega)
abbrev rX7_takerOf : Room := { frames := 2, cells := 0, slots := 0, locals := 52 }
set_option maxRecDepth 100000 in
set_option maxHeartbeats 4000000 in
theorem c_X7_takerOf {l : Launch} (hfl : l.stackTraces = false) (G : zG) {s t : zS} {o : zOx} (hc : zC1 t) (hb9 : zB t) {a : Nat} {x e : Int} (ha : a < 8) (hx : 0 ≤ x ∧ x ≤ 600) (he : -1 ≤ e ∧ e < 1000) (h3 : ∀ j, t 3 j 0 ≤ 600)  : zCn l G yX7_takerOf (.code yX7_takerOf cX7_takerOf 7 (some .int)) rX7_takerOf [.ref 16, .int (zI ((a : Nat))), .int (zI x), .int (zI e)] (zAll s t o) (zRi (fun xr M2 => xr = zGet t (zWho e) a x ∧ M2 = (zAll s t o))) zN := by
  refine zStart hfl (by decide) (own := RX7) rfl [(0, .ref 16), (1, .int (zI ((a : Nat)))), (2, .int (zI x)), (3, .int (zI e))] (Nat.le_of_ble_eq_true rfl) rfl (fun k hkl hinit hk0 F => ?_)
  have hn0 := hc.1
  have hn4 := hc.2.1
  have hn9 := hc.2.2.1
  have hn14 := hc.2.2.2.1
  have hn18 := hc.2.2.2.2.1
  refine z_iconst (z := -1) F dX7_takerOf_0 (by decide) ?_
  refine z_istore F [(4, .int (zI (-1))), (0, .ref 16), (1, .int (zI ((a : Nat)))), (2, .int (zI x)), (3, .int (zI e))] dX7_takerOf_1 (by decide) rfl ?_
  refine z_iconst (z := 0) F dX7_takerOf_3 (by decide) ?_
  refine z_istore F [(5, .int (zI 0)), (4, .int (zI (-1))), (0, .ref 16), (1, .int (zI ((a : Nat)))), (2, .int (zI x)), (3, .int (zI e))] dX7_takerOf_4 (by decide) rfl ?_
  have L1 : ∀ (fuel : Nat) (w : Int) (b : Int), (t 0 0 0 - w).toNat < fuel → 0 ≤ w → w ≤ t 0 0 0 → b = (zMem t (zWho e) a x w.toNat).1 → zJ k G rX7_takerOf 7 (zMQ k G rX7_takerOf (zRi (fun xr M2 => xr = zGet t (zWho e) a x ∧ M2 = (zAll s t o))) zN) (zAll s t o) 0 0 6 [(0, .ref 16), (1, .int (zI ((a : Nat)))), (2, .int (zI x)), (3, .int (zI e)), (4, .int (zI b)), (5, .int (zI w))] [] := by
    intro fuel
    induction fuel with
    | zero => intros; omega
    | succ fuel L1_ih =>
      intro w b hfuel hw0 hw1 hbst
      refine z_iload F 5 dX7_takerOf_6 rfl ?_
      refine z_aload_n F 0 dX7_takerOf_8 rfl rfl ?_
      refine z_get F fl_X7_67 (zAll_16 s t o) rfl dX7_takerOf_9 ?_
      refine z_icmp_ge F 80 dX7_takerOf_12 (by decide) (by omega) (by omega) (fun c_1 => ?_) (fun c_1 => ?_)
      · skip
        have hke : w.toNat = (t 0 0 0).toNat := by omega
        refine z_iload F 4 dX7_takerOf_80 rfl ?_
        exact z_reti F rfl (by first | decide | assumption | omega) (by first | decide | assumption | omega) dX7_takerOf_82 ⟨_, rfl, by rw [hbst, hke]; rfl, rfl⟩
      · skip
        have hmr := zMem_r hc (zWho e) a x w.toNat
        have ew : ((w.toNat : Nat) : Int) = w := by omega
        have hl1 := zLoad_b hc w
        have hl2 := zLoad_b hc b
        refine z_iload_n F 3 dX7_takerOf_15 rfl rfl ?_
        refine z_iconst (z := -1) F dX7_takerOf_16 (by decide) ?_
        refine z_icmp_eq F 26 dX7_takerOf_17 (by decide) (by omega) ⟨by decide, by decide⟩ (fun c_2 => ?_) (fun c_2 => ?_)
        · skip
          have hwy : zWho e w.toNat = true := zWho_y hw0 (Or.inl c_2)
          refine z_aload_n F 0 dX7_takerOf_26 rfl rfl ?_
          refine z_iload F 5 dX7_takerOf_27 rfl ?_
          refine z_ti (y := ((w.toNat : Nat) : Int)) (by omega) ?_
          refine z_iload_n F 1 dX7_takerOf_29 rfl rfl ?_
          refine z_iload_n F 2 dX7_takerOf_30 rfl rfl ?_
          refine z_callV F [.int (zI (((w.toNat : Nat) : Int))), .int (zI ((a : Nat))), .int (zI x)] [] (c_X7_canTake F.2.2.1 G (s := s) (t := t) (o := o) hc hb9 (i := w.toNat) (a := a) (x := x) (by omega) ha hx h3) cv_X7_97 (zAll_16 s t o) rfl rfl rfl ⟨by decide, by decide⟩ ⟨by decide, by decide⟩ (Nat.le_of_ble_eq_true rfl) dX7_takerOf_31 z_nx (z_ki (fun x_3 M_3 h_3 => ?_))
          have hx9 := (h_3).1.symm
          have hm9 := (h_3).2.symm
          subst hx9
          subst hm9
          have hz : zR (if zCan t w.toNat a x = true then 1 else 0) := zR_if
          refine z_if_eq F 41 dX7_takerOf_34 (by decide) (by omega) (fun c_4 => ?_) (fun c_4 => ?_)
          · skip
            have hq9 : ¬ (zCan t w.toNat a x = true) := fun h => by rw [if_pos h] at c_4; omega
            have hst : (zMem t (zWho e) a x (w.toNat + 1)).1 = b := by rw [zMem_no (by rw [show zCan t w.toNat a x = false by cases h : zCan t w.toNat a x <;> simp_all]; simp)]; exact hbst.symm
            refine z_iconst (z := 0) F dX7_takerOf_41 (by decide) ?_
            refine z_istore F [(6, .int (zI 0)), (0, .ref 16), (1, .int (zI ((a : Nat)))), (2, .int (zI x)), (3, .int (zI e)), (4, .int (zI b)), (5, .int (zI w))] dX7_takerOf_42 (by decide) rfl ?_
            refine z_iload F 0 dX7_takerOf_44 rfl ?_
            refine z_if_eq F 74 dX7_takerOf_46 (by decide) ⟨by decide, by decide⟩ (fun c_5 => ?_) (fun c_5 => ?_)
            · skip
              refine z_iinc F 6 [(5, .int (zI (w + 1))), (6, .int (zI 0)), (0, .ref 16), (1, .int (zI ((a : Nat)))), (2, .int (zI x)), (3, .int (zI e)), (4, .int (zI b))] dX7_takerOf_74 rfl (by decide) rfl ?_
              refine z_goto F 6 dX7_takerOf_77 (by decide) ?_
              refine z_lv [(0, .ref 16), (1, .int (zI ((a : Nat)))), (2, .int (zI x)), (3, .int (zI e)), (4, .int (zI b)), (5, .int (zI (w + 1)))] [2, 3, 4, 5, 6, 0] rfl ?_
              exact L1_ih (w + 1) b (by omega) (by omega) (by omega) (by rw [show (w + 1).toNat = w.toNat + 1 by omega]; exact hst.symm)
            · skip
              exact absurd rfl c_5
          · skip
            have hq9 : zCan t w.toNat a x = true := Classical.byContradiction fun h => by rw [if_neg h] at c_4; omega
            refine z_iconst (z := 1) F dX7_takerOf_37 (by decide) ?_
            refine z_goto F 42 dX7_takerOf_38 (by decide) ?_
            refine z_istore F [(6, .int (zI 1)), (0, .ref 16), (1, .int (zI ((a : Nat)))), (2, .int (zI x)), (3, .int (zI e)), (4, .int (zI b)), (5, .int (zI w))] dX7_takerOf_42 (by decide) rfl ?_
            refine z_iload F 0 dX7_takerOf_44 rfl ?_
            refine z_if_eq F 74 dX7_takerOf_46 (by decide) ⟨by decide, by decide⟩ (fun c_6 => ?_) (fun c_6 => ?_)
            · skip
              exact absurd c_6 (by decide)
            · skip
              refine z_iload F 5 dX7_takerOf_49 rfl ?_
              refine z_iconst (z := -1) F dX7_takerOf_51 (by decide) ?_
              refine z_icmp_eq F 70 dX7_takerOf_52 (by decide) (by omega) ⟨by decide, by decide⟩ (fun c_7 => ?_) (fun c_7 => ?_)
              · skip
                have hst : (zMem t (zWho e) a x (w.toNat + 1)).1 = w := by rw [zMem_y1 hwy hq9 (Or.inl (by omega))]; exact ew
                refine z_iload F 6 dX7_takerOf_70 rfl ?_
                refine z_istore F [(4, .int (zI w)), (6, .int (zI 1)), (0, .ref 16), (1, .int (zI ((a : Nat)))), (2, .int (zI x)), (3, .int (zI e)), (5, .int (zI w))] dX7_takerOf_72 (by decide) rfl ?_
                refine z_iinc F 6 [(5, .int (zI (w + 1))), (4, .int (zI w)), (6, .int (zI 1)), (0, .ref 16), (1, .int (zI ((a : Nat)))), (2, .int (zI x)), (3, .int (zI e))] dX7_takerOf_74 rfl (by decide) rfl ?_
                refine z_goto F 6 dX7_takerOf_77 (by decide) ?_
                refine z_lv [(0, .ref 16), (1, .int (zI ((a : Nat)))), (2, .int (zI x)), (3, .int (zI e)), (4, .int (zI w)), (5, .int (zI (w + 1)))] [3, 4, 5, 6, 1, 0] rfl ?_
                exact L1_ih (w + 1) w (by omega) (by omega) (by omega) (by rw [show (w + 1).toNat = w.toNat + 1 by omega]; exact hst.symm)
              · skip
                have hbn : ¬ b = -1 := by omega
                have hml := zMem_l (s := t) (who := zWho e) (a := a) (x := x) w.toNat (by omega)
                rw [← hbst] at hml
                refine z_aload_n F 1 dX7_takerOf_55 rfl rfl ?_
                refine z_iload F 6 dX7_takerOf_56 rfl ?_
                refine z_callV F [.int (zI w)] [] (c_X7_load F.2.2.1 G (s := s) (t := t) (o := o) hc hb9 (i := w) (by omega)) cv_X7_100 (zAll_16 s t o) rfl rfl rfl ⟨by decide, by decide⟩ ⟨by decide, by decide⟩ (Nat.le_of_ble_eq_true rfl) dX7_takerOf_58 z_nx (z_ki (fun x_8 M_8 h_8 => ?_))
                have hx9 := (h_8).1.symm
                have hm9 := (h_8).2.symm
                subst hx9
                subst hm9
                refine z_aload_n F 1 dX7_takerOf_61 rfl rfl ?_
                refine z_iload F 5 dX7_takerOf_62 rfl ?_
                refine z_callV F [.int (zI b)] [.int (zI (zLoad t w))] (c_X7_load F.2.2.1 G (s := s) (t := t) (o := o) hc hb9 (i := b) (by omega)) cv_X7_100 (zAll_16 s t o) rfl rfl rfl ⟨by decide, by decide⟩ ⟨by decide, by decide⟩ (Nat.le_of_ble_eq_true rfl) dX7_takerOf_64 z_nx (z_ki (fun x_9 M_9 h_9 => ?_))
                have hx9 := (h_9).1.symm
                have hm9 := (h_9).2.symm
                subst hx9
                subst hm9
                refine z_icmp_ge F 74 dX7_takerOf_67 (by decide) (by omega) (by omega) (fun c_10 => ?_) (fun c_10 => ?_)
                · skip
                  have hst : (zMem t (zWho e) a x (w.toNat + 1)).1 = b := by rw [zMem_y2 hwy hq9 (fun h => by rcases h with h | h; omega; rw [hml, ew] at h; omega)]; exact hbst.symm
                  refine z_iinc F 6 [(5, .int (zI (w + 1))), (6, .int (zI 1)), (0, .ref 16), (1, .int (zI ((a : Nat)))), (2, .int (zI x)), (3, .int (zI e)), (4, .int (zI b))] dX7_takerOf_74 rfl (by decide) rfl ?_
                  refine z_goto F 6 dX7_takerOf_77 (by decide) ?_
                  refine z_lv [(0, .ref 16), (1, .int (zI ((a : Nat)))), (2, .int (zI x)), (3, .int (zI e)), (4, .int (zI b)), (5, .int (zI (w + 1)))] [2, 3, 4, 5, 6, 0] rfl ?_
                  exact L1_ih (w + 1) b (by omega) (by omega) (by omega) (by rw [show (w + 1).toNat = w.toNat + 1 by omega]; exact hst.symm)
                · skip
                  have hst : (zMem t (zWho e) a x (w.toNat + 1)).1 = w := by rw [zMem_y1 hwy hq9 (Or.inr (by rw [hml, ew]; omega))]; exact ew
                  refine z_iload F 6 dX7_takerOf_70 rfl ?_
                  refine z_istore F [(4, .int (zI w)), (6, .int (zI 1)), (0, .ref 16), (1, .int (zI ((a : Nat)))), (2, .int (zI x)), (3, .int (zI e)), (5, .int (zI w))] dX7_takerOf_72 (by decide) rfl ?_
                  refine z_iinc F 6 [(5, .int (zI (w + 1))), (4, .int (zI w)), (6, .int (zI 1)), (0, .ref 16), (1, .int (zI ((a : Nat)))), (2, .int (zI x)), (3, .int (zI e))] dX7_takerOf_74 rfl (by decide) rfl ?_
                  refine z_goto F 6 dX7_takerOf_77 (by decide) ?_
                  refine z_lv [(0, .ref 16), (1, .int (zI ((a : Nat)))), (2, .int (zI x)), (3, .int (zI e)), (4, .int (zI w)), (5, .int (zI (w + 1)))] [3, 4, 5, 6, 1, 0] rfl ?_
                  exact L1_ih (w + 1) w (by omega) (by omega) (by omega) (by rw [show (w + 1).toNat = w.toNat + 1 by omega]; exact hst.symm)
        · skip
          have hen : ¬ e = -1 := c_2
          refine z_iload_n F 3 dX7_takerOf_20 rfl rfl ?_
          refine z_iload F 5 dX7_takerOf_21 rfl ?_
          refine z_icmp_ne F 41 dX7_takerOf_23 (by decide) (by omega) (by omega) (fun c_11 => ?_) (fun c_11 => ?_)
          · skip
            have hst : (zMem t (zWho e) a x (w.toNat + 1)).1 = b := by rw [zMem_no (by rw [zWho_n hw0 hen (by omega)]; rfl)]; exact hbst.symm
            refine z_iconst (z := 0) F dX7_takerOf_41 (by decide) ?_
            refine z_istore F [(6, .int (zI 0)), (0, .ref 16), (1, .int (zI ((a : Nat)))), (2, .int (zI x)), (3, .int (zI e)), (4, .int (zI b)), (5, .int (zI w))] dX7_takerOf_42 (by decide) rfl ?_
            refine z_iload F 0 dX7_takerOf_44 rfl ?_
            refine z_if_eq F 74 dX7_takerOf_46 (by decide) ⟨by decide, by decide⟩ (fun c_12 => ?_) (fun c_12 => ?_)
            · skip
              refine z_iinc F 6 [(5, .int (zI (w + 1))), (6, .int (zI 0)), (0, .ref 16), (1, .int (zI ((a : Nat)))), (2, .int (zI x)), (3, .int (zI e)), (4, .int (zI b))] dX7_takerOf_74 rfl (by decide) rfl ?_
              refine z_goto F 6 dX7_takerOf_77 (by decide) ?_
              refine z_lv [(0, .ref 16), (1, .int (zI ((a : Nat)))), (2, .int (zI x)), (3, .int (zI e)), (4, .int (zI b)), (5, .int (zI (w + 1)))] [2, 3, 4, 5, 6, 0] rfl ?_
              exact L1_ih (w + 1) b (by omega) (by omega) (by omega) (by rw [show (w + 1).toNat = w.toNat + 1 by omega]; exact hst.symm)
            · skip
              exact absurd rfl c_12
          · skip
            have hwy : zWho e w.toNat = true := zWho_y hw0 (Or.inr (by omega))
            refine z_aload_n F 0 dX7_takerOf_26 rfl rfl ?_
            refine z_iload F 5 dX7_takerOf_27 rfl ?_
            refine z_ti (y := ((w.toNat : Nat) : Int)) (by omega) ?_
            refine z_iload_n F 1 dX7_takerOf_29 rfl rfl ?_
            refine z_iload_n F 2 dX7_takerOf_30 rfl rfl ?_
            refine z_callV F [.int (zI (((w.toNat : Nat) : Int))), .int (zI ((a : Nat))), .int (zI x)] [] (c_X7_canTake F.2.2.1 G (s := s) (t := t) (o := o) hc hb9 (i := w.toNat) (a := a) (x := x) (by omega) ha hx h3) cv_X7_97 (zAll_16 s t o) rfl rfl rfl ⟨by decide, by decide⟩ ⟨by decide, by decide⟩ (Nat.le_of_ble_eq_true rfl) dX7_takerOf_31 z_nx (z_ki (fun x_13 M_13 h_13 => ?_))
            have hx9 := (h_13).1.symm
            have hm9 := (h_13).2.symm
            subst hx9
            subst hm9
            have hz : zR (if zCan t w.toNat a x = true then 1 else 0) := zR_if
            refine z_if_eq F 41 dX7_takerOf_34 (by decide) (by omega) (fun c_14 => ?_) (fun c_14 => ?_)
            · skip
              have hq9 : ¬ (zCan t w.toNat a x = true) := fun h => by rw [if_pos h] at c_14; omega
              have hst : (zMem t (zWho e) a x (w.toNat + 1)).1 = b := by rw [zMem_no (by rw [show zCan t w.toNat a x = false by cases h : zCan t w.toNat a x <;> simp_all]; simp)]; exact hbst.symm
              refine z_iconst (z := 0) F dX7_takerOf_41 (by decide) ?_
              refine z_istore F [(6, .int (zI 0)), (0, .ref 16), (1, .int (zI ((a : Nat)))), (2, .int (zI x)), (3, .int (zI e)), (4, .int (zI b)), (5, .int (zI w))] dX7_takerOf_42 (by decide) rfl ?_
              refine z_iload F 0 dX7_takerOf_44 rfl ?_
              refine z_if_eq F 74 dX7_takerOf_46 (by decide) ⟨by decide, by decide⟩ (fun c_15 => ?_) (fun c_15 => ?_)
              · skip
                refine z_iinc F 6 [(5, .int (zI (w + 1))), (6, .int (zI 0)), (0, .ref 16), (1, .int (zI ((a : Nat)))), (2, .int (zI x)), (3, .int (zI e)), (4, .int (zI b))] dX7_takerOf_74 rfl (by decide) rfl ?_
                refine z_goto F 6 dX7_takerOf_77 (by decide) ?_
                refine z_lv [(0, .ref 16), (1, .int (zI ((a : Nat)))), (2, .int (zI x)), (3, .int (zI e)), (4, .int (zI b)), (5, .int (zI (w + 1)))] [2, 3, 4, 5, 6, 0] rfl ?_
                exact L1_ih (w + 1) b (by omega) (by omega) (by omega) (by rw [show (w + 1).toNat = w.toNat + 1 by omega]; exact hst.symm)
              · skip
                exact absurd rfl c_15
            · skip
              have hq9 : zCan t w.toNat a x = true := Classical.byContradiction fun h => by rw [if_neg h] at c_14; omega
              refine z_iconst (z := 1) F dX7_takerOf_37 (by decide) ?_
              refine z_goto F 42 dX7_takerOf_38 (by decide) ?_
              refine z_istore F [(6, .int (zI 1)), (0, .ref 16), (1, .int (zI ((a : Nat)))), (2, .int (zI x)), (3, .int (zI e)), (4, .int (zI b)), (5, .int (zI w))] dX7_takerOf_42 (by decide) rfl ?_
              refine z_iload F 0 dX7_takerOf_44 rfl ?_
              refine z_if_eq F 74 dX7_takerOf_46 (by decide) ⟨by decide, by decide⟩ (fun c_16 => ?_) (fun c_16 => ?_)
              · skip
                exact absurd c_16 (by decide)
              · skip
                refine z_iload F 5 dX7_takerOf_49 rfl ?_
                refine z_iconst (z := -1) F dX7_takerOf_51 (by decide) ?_
                refine z_icmp_eq F 70 dX7_takerOf_52 (by decide) (by omega) ⟨by decide, by decide⟩ (fun c_17 => ?_) (fun c_17 => ?_)
                · skip
                  have hst : (zMem t (zWho e) a x (w.toNat + 1)).1 = w := by rw [zMem_y1 hwy hq9 (Or.inl (by omega))]; exact ew
                  refine z_iload F 6 dX7_takerOf_70 rfl ?_
                  refine z_istore F [(4, .int (zI w)), (6, .int (zI 1)), (0, .ref 16), (1, .int (zI ((a : Nat)))), (2, .int (zI x)), (3, .int (zI e)), (5, .int (zI w))] dX7_takerOf_72 (by decide) rfl ?_
                  refine z_iinc F 6 [(5, .int (zI (w + 1))), (4, .int (zI w)), (6, .int (zI 1)), (0, .ref 16), (1, .int (zI ((a : Nat)))), (2, .int (zI x)), (3, .int (zI e))] dX7_takerOf_74 rfl (by decide) rfl ?_
                  refine z_goto F 6 dX7_takerOf_77 (by decide) ?_
                  refine z_lv [(0, .ref 16), (1, .int (zI ((a : Nat)))), (2, .int (zI x)), (3, .int (zI e)), (4, .int (zI w)), (5, .int (zI (w + 1)))] [3, 4, 5, 6, 1, 0] rfl ?_
                  exact L1_ih (w + 1) w (by omega) (by omega) (by omega) (by rw [show (w + 1).toNat = w.toNat + 1 by omega]; exact hst.symm)
                · skip
                  have hbn : ¬ b = -1 := by omega
                  have hml := zMem_l (s := t) (who := zWho e) (a := a) (x := x) w.toNat (by omega)
                  rw [← hbst] at hml
                  refine z_aload_n F 1 dX7_takerOf_55 rfl rfl ?_
                  refine z_iload F 6 dX7_takerOf_56 rfl ?_
                  refine z_callV F [.int (zI w)] [] (c_X7_load F.2.2.1 G (s := s) (t := t) (o := o) hc hb9 (i := w) (by omega)) cv_X7_100 (zAll_16 s t o) rfl rfl rfl ⟨by decide, by decide⟩ ⟨by decide, by decide⟩ (Nat.le_of_ble_eq_true rfl) dX7_takerOf_58 z_nx (z_ki (fun x_18 M_18 h_18 => ?_))
                  have hx9 := (h_18).1.symm
                  have hm9 := (h_18).2.symm
                  subst hx9
                  subst hm9
                  refine z_aload_n F 1 dX7_takerOf_61 rfl rfl ?_
                  refine z_iload F 5 dX7_takerOf_62 rfl ?_
                  refine z_callV F [.int (zI b)] [.int (zI (zLoad t w))] (c_X7_load F.2.2.1 G (s := s) (t := t) (o := o) hc hb9 (i := b) (by omega)) cv_X7_100 (zAll_16 s t o) rfl rfl rfl ⟨by decide, by decide⟩ ⟨by decide, by decide⟩ (Nat.le_of_ble_eq_true rfl) dX7_takerOf_64 z_nx (z_ki (fun x_19 M_19 h_19 => ?_))
                  have hx9 := (h_19).1.symm
                  have hm9 := (h_19).2.symm
                  subst hx9
                  subst hm9
                  refine z_icmp_ge F 74 dX7_takerOf_67 (by decide) (by omega) (by omega) (fun c_20 => ?_) (fun c_20 => ?_)
                  · skip
                    have hst : (zMem t (zWho e) a x (w.toNat + 1)).1 = b := by rw [zMem_y2 hwy hq9 (fun h => by rcases h with h | h; omega; rw [hml, ew] at h; omega)]; exact hbst.symm
                    refine z_iinc F 6 [(5, .int (zI (w + 1))), (6, .int (zI 1)), (0, .ref 16), (1, .int (zI ((a : Nat)))), (2, .int (zI x)), (3, .int (zI e)), (4, .int (zI b))] dX7_takerOf_74 rfl (by decide) rfl ?_
                    refine z_goto F 6 dX7_takerOf_77 (by decide) ?_
                    refine z_lv [(0, .ref 16), (1, .int (zI ((a : Nat)))), (2, .int (zI x)), (3, .int (zI e)), (4, .int (zI b)), (5, .int (zI (w + 1)))] [2, 3, 4, 5, 6, 0] rfl ?_
                    exact L1_ih (w + 1) b (by omega) (by omega) (by omega) (by rw [show (w + 1).toNat = w.toNat + 1 by omega]; exact hst.symm)
                  · skip
                    have hst : (zMem t (zWho e) a x (w.toNat + 1)).1 = w := by rw [zMem_y1 hwy hq9 (Or.inr (by rw [hml, ew]; omega))]; exact ew
                    refine z_iload F 6 dX7_takerOf_70 rfl ?_
                    refine z_istore F [(4, .int (zI w)), (6, .int (zI 1)), (0, .ref 16), (1, .int (zI ((a : Nat)))), (2, .int (zI x)), (3, .int (zI e)), (5, .int (zI w))] dX7_takerOf_72 (by decide) rfl ?_
                    refine z_iinc F 6 [(5, .int (zI (w + 1))), (4, .int (zI w)), (6, .int (zI 1)), (0, .ref 16), (1, .int (zI ((a : Nat)))), (2, .int (zI x)), (3, .int (zI e))] dX7_takerOf_74 rfl (by decide) rfl ?_
                    refine z_goto F 6 dX7_takerOf_77 (by decide) ?_
                    refine z_lv [(0, .ref 16), (1, .int (zI ((a : Nat)))), (2, .int (zI x)), (3, .int (zI e)), (4, .int (zI w)), (5, .int (zI (w + 1)))] [3, 4, 5, 6, 1, 0] rfl ?_
                    exact L1_ih (w + 1) w (by omega) (by omega) (by omega) (by rw [show (w + 1).toNat = w.toNat + 1 by omega]; exact hst.symm)
  refine z_lv [(0, .ref 16), (1, .int (zI ((a : Nat)))), (2, .int (zI x)), (3, .int (zI e)), (4, .int (zI (-1))), (5, .int (zI 0))] [2, 3, 4, 5, 1, 0] rfl ?_
  exact L1 _ 0 ((-1)) (Nat.lt_succ_self _) (by omega) (by omega) rfl

