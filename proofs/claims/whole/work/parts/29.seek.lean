/-! ===== the model: find ===== -/
/-- the found member and chair -/
def zFd (t : zS) (p q : Int) : zS := zsu (zsu t 23 0 0 p) 24 0 0 q
theorem zFd_id (t : zS) : zFd t (t 23 0 0) (t 24 0 0) = t := by
  funext g i j
  unfold zFd zsu
  by_cases h : g = 24 ∧ i = 0 ∧ j = 0
  · rw [if_pos h, h.1, h.2.1, h.2.2]
  · rw [if_neg h]
    by_cases h2 : g = 23 ∧ i = 0 ∧ j = 0
    · rw [if_pos h2, h2.1, h2.2.1, h2.2.2]
    · rw [if_neg h2]
theorem zGet_F {t : zS} {p q : Int} {who : Nat → Bool} {a : Nat} {x : Int} : zGet (zFd t p q) who a x = zGet t who a x := by
  show (zMem (zFd t p q) who a x (t 0 0 0).toNat).1 = _
  rw [zMem_cg (s := zFd t p q) (s' := t) (fun i => zCan_cg rfl rfl rfl rfl rfl rfl rfl) (fun i => rfl)]
  rfl
theorem zMH_23 {s t : zS} {o : zOx} {p q g : Int} : zu (zAll s (zFd t p q) o) 16 (zOb 8 [.ref 17, .ref 18, .ref 19, .int (zI ((zFd t p q) 0 0 0)), .ref 20, .ref 21, .ref 22, .ref 23, .int (zI ((zFd t p q) 4 0 0)), .ref 24, .ref 25, .ref 26, .ref 27, .int (zI ((zFd t p q) 9 0 0)), .ref 28, .ref 29, .ref 30, .ref 31, .int (zI ((zFd t p q) 14 0 0)), .int (zI g), .int (zI ((zFd t p q) 24 0 0)), .int (zI ((zFd t p q) 25 0 0))]) = zAll s (zFd t g q) o := zM_eq (by decide) rfl (zKm (P := fun kd => kd ≠ 16 → zMod (zFd t g q) kd 0 = zMod (zFd t p q) kd 0) ⟨fun h => absurd rfl h, fun _ => rfl, fun _ => rfl, fun _ => rfl, fun _ => rfl, fun _ => rfl, fun _ => rfl, fun _ => rfl, fun _ => rfl, fun _ => rfl, fun _ => rfl, fun _ => rfl, fun _ => rfl, fun _ => rfl, fun _ => rfl, fun _ => rfl⟩)
theorem zMH_24 {s t : zS} {o : zOx} {p q g : Int} : zu (zAll s (zFd t p q) o) 16 (zOb 8 [.ref 17, .ref 18, .ref 19, .int (zI ((zFd t p q) 0 0 0)), .ref 20, .ref 21, .ref 22, .ref 23, .int (zI ((zFd t p q) 4 0 0)), .ref 24, .ref 25, .ref 26, .ref 27, .int (zI ((zFd t p q) 9 0 0)), .ref 28, .ref 29, .ref 30, .ref 31, .int (zI ((zFd t p q) 14 0 0)), .int (zI ((zFd t p q) 23 0 0)), .int (zI g), .int (zI ((zFd t p q) 25 0 0))]) = zAll s (zFd t p g) o := zM_eq (by decide) rfl (zKm (P := fun kd => kd ≠ 16 → zMod (zFd t p g) kd 0 = zMod (zFd t p q) kd 0) ⟨fun h => absurd rfl h, fun _ => rfl, fun _ => rfl, fun _ => rfl, fun _ => rfl, fun _ => rfl, fun _ => rfl, fun _ => rfl, fun _ => rfl, fun _ => rfl, fun _ => rfl, fun _ => rfl, fun _ => rfl, fun _ => rfl, fun _ => rfl, fun _ => rfl⟩)
theorem zRoom_r {s : zS} {who : Nat → Bool} {a : Nat} {x : Int} : zRoomB s who a x = true ↔ zChair s a x ≠ -1 ∧ zGet s who a x ≠ -1 := by
  rw [zRoomB, Bool.and_eq_true, decide_eq_true_iff, decide_eq_true_iff]
theorem zRoom_f {s : zS} {who : Nat → Bool} {a : Nat} {x : Int} (h : zChair s a x = -1 ∨ zGet s who a x = -1) : zRoomB s who a x = false := by
  cases e : zRoomB s who a x
  · rfl
  · have := zRoom_r.mp e
    omega
abbrev rX7_find : Room := { frames := 3, cells := 0, slots := 0, locals := 78 }
set_option maxRecDepth 100000 in
set_option maxHeartbeats 4000000 in
theorem c_X7_find {l : Launch} (hfl : l.stackTraces = false) (G : zG) {s t : zS} {o : zOx} (hc : zC1 t) (hb9 : zB t) {a : Nat} {x e : Int} (ha : a < 8) (hx : 0 ≤ x ∧ x ≤ 600) (he : -1 ≤ e ∧ e < 1000) (h3 : ∀ j, t 3 j 0 ≤ 600)  : zCn l G yX7_find (.code yX7_find cX7_find 5 (some .int)) rX7_find [.ref 16, .int (zI ((a : Nat))), .int (zI x), .int (zI e)] (zAll s t o) (zRi (fun xr M2 => xr = zFind t (zWho e) a x 600 ∧ ∃ p q : Int, M2 = zAll s (zFd t p q) o ∧ (-1 ≤ p ∧ p ≤ 1000) ∧ (-1 ≤ q ∧ q ≤ 1000) ∧ (xr ≠ -1 → p = zGet t (zWho e) a xr ∧ q = zChair t a xr))) zN := by
  refine zStart hfl (by decide) (own := RX7) rfl [(0, .ref 16), (1, .int (zI ((a : Nat)))), (2, .int (zI x)), (3, .int (zI e))] (Nat.le_of_ble_eq_true rfl) rfl (fun k hkl hinit hk0 F => ?_)
  have hn0 := hc.1
  have hn4 := hc.2.1
  have hn9 := hc.2.2.1
  have hn14 := hc.2.2.2.1
  have hn18 := hc.2.2.2.2.1
  have hln := hc.len a
  refine z_iload_n F 2 dX7_find_0 rfl rfl ?_
  refine z_istore F [(4, .int (zI x)), (0, .ref 16), (1, .int (zI ((a : Nat)))), (2, .int (zI x)), (3, .int (zI e))] dX7_find_1 (by decide) rfl ?_
  have L1 : ∀ (fuel : Nat) (v : Int) (p : Int) (q : Int), (602 - v).toNat < fuel → x ≤ v → v ≤ 601 → (-1 ≤ p ∧ p ≤ 1000) → (-1 ≤ q ∧ q ≤ 1000) → zFind t (zWho e) a x 600 = zFind t (zWho e) a v 600 → zJ k G rX7_find 5 (zMQ k G rX7_find (zRi (fun xr M2 => xr = zFind t (zWho e) a x 600 ∧ ∃ p q : Int, M2 = zAll s (zFd t p q) o ∧ (-1 ≤ p ∧ p ≤ 1000) ∧ (-1 ≤ q ∧ q ≤ 1000) ∧ (xr ≠ -1 → p = zGet t (zWho e) a xr ∧ q = zChair t a xr))) zN) (zAll s (zFd t p q) o) 0 0 3 [(0, .ref 16), (1, .int (zI ((a : Nat)))), (2, .int (zI x)), (3, .int (zI e)), (4, .int (zI v))] [] := by
    intro fuel
    induction fuel with
    | zero => intros; omega
    | succ fuel L1_ih =>
      intro v p q hfuel hv0 hv1 hp hq hff
      refine z_iload F 4 dX7_find_3 rfl ?_
      refine z_aload_n F 0 dX7_find_5 rfl rfl ?_
      refine z_iload_n F 1 dX7_find_6 rfl rfl ?_
      have hcF : zC1 (zFd t p q) := hc
      have hbF : zB (zFd t p q) := zB_u (zB_u hb9 (by omega)) (by omega)
      refine z_callV F [.int (zI ((a : Nat)))] [.int (zI v)] (c_X7_length F.2.2.1 G (s := s) (t := (zFd t p q)) (o := o) hcF hbF (a := a) ha) cv_X7_87 (zAll_16 s (zFd t p q) o) rfl rfl rfl ⟨by decide, by decide⟩ ⟨by decide, by decide⟩ (Nat.le_of_ble_eq_true rfl) dX7_find_7 z_nx (z_ki (fun x_1 M_1 h_1 => ?_))
      have hx9 := (h_1).1.symm
      have hm9 := (h_1).2.symm
      subst hx9
      subst hm9
      refine z_ti (y := zLen t a) rfl ?_
      refine z_iadd F dX7_find_10 ?_
      refine z_sipush (z := 600) F dX7_find_11 (by decide) ?_
      refine z_icmp_gt F 69 dX7_find_14 (by decide) (by omega) ⟨by decide, by decide⟩ (fun c_2 => ?_) (fun c_2 => ?_)
      · skip
        refine z_iconst (z := -1) F dX7_find_69 (by decide) ?_
        exact z_reti F rfl (by first | decide | assumption | omega) (by first | decide | assumption | omega) dX7_find_70 ⟨_, rfl, (hff.trans (zScan_e (by omega))).symm, p, q, rfl, hp, hq, fun h => absurd rfl h⟩
      · skip
        have hmr := zGet_r hc (zWho e) a v
        have hcr := zChair_r t a v
        refine z_aload_n F 0 dX7_find_17 rfl rfl ?_
        refine z_aload_n F 0 dX7_find_18 rfl rfl ?_
        refine z_iload_n F 1 dX7_find_19 rfl rfl ?_
        refine z_iload F 4 dX7_find_20 rfl ?_
        refine z_iload_n F 3 dX7_find_22 rfl rfl ?_
        refine z_callV F [.int (zI ((a : Nat))), .int (zI v), .int (zI e)] [.ref 16] (c_X7_takerOf F.2.2.1 G (s := s) (t := (zFd t p q)) (o := o) hcF hbF (a := a) (x := v) (e := e) ha (by omega) he h3) cv_X7_103 (zAll_16 s (zFd t p q) o) rfl rfl rfl ⟨by decide, by decide⟩ ⟨by decide, by decide⟩ (Nat.le_of_ble_eq_true rfl) dX7_find_23 z_nx (z_ki (fun x_3 M_3 h_3 => ?_))
        have hx9 := (h_3).1.symm
        have hm9 := (h_3).2.symm
        subst hx9
        subst hm9
        refine z_ti (y := (zGet t (zWho e) a v)) zGet_F ?_
        refine z_put (ty := .int) F [.ref 17, .ref 18, .ref 19, .int (zI ((zFd t p q) 0 0 0)), .ref 20, .ref 21, .ref 22, .ref 23, .int (zI ((zFd t p q) 4 0 0)), .ref 24, .ref 25, .ref 26, .ref 27, .int (zI ((zFd t p q) 9 0 0)), .ref 28, .ref 29, .ref 30, .ref 31, .int (zI ((zFd t p q) 14 0 0)), .int (zI ((zGet t (zWho e) a v))), .int (zI ((zFd t p q) 24 0 0)), .int (zI ((zFd t p q) 25 0 0))] fl_X7_107 tyX7 tyX7_ok nmX7 rfl (by decide +kernel) rfl rfl (zAll_16 s (zFd t p q) o) (Nat.le_of_ble_eq_true rfl) rfl dX7_find_26 ?_
        have hm_4_s := zu_s (zAll s (zFd t p q) o) 16 (zOb 8 [.ref 17, .ref 18, .ref 19, .int (zI ((zFd t p q) 0 0 0)), .ref 20, .ref 21, .ref 22, .ref 23, .int (zI ((zFd t p q) 4 0 0)), .ref 24, .ref 25, .ref 26, .ref 27, .int (zI ((zFd t p q) 9 0 0)), .ref 28, .ref 29, .ref 30, .ref 31, .int (zI ((zFd t p q) 14 0 0)), .int (zI ((zGet t (zWho e) a v))), .int (zI ((zFd t p q) 24 0 0)), .int (zI ((zFd t p q) 25 0 0))])
        refine z_M (M' := (zAll s (zFd t (zGet t (zWho e) a v) q) o)) zMH_23 ?_
        refine z_aload_n F 0 dX7_find_29 rfl rfl ?_
        refine z_aload_n F 0 dX7_find_30 rfl rfl ?_
        refine z_get F fl_X7_107 (zAll_16 s (zFd t (zGet t (zWho e) a v) q) o) rfl dX7_find_31 ?_
        refine z_ti (y := (zGet t (zWho e) a v)) rfl ?_
        refine z_iconst (z := -1) F dX7_find_34 (by decide) ?_
        refine z_icmp_ne F 42 dX7_find_35 (by decide) (by omega) ⟨by decide, by decide⟩ (fun c_5 => ?_) (fun c_5 => ?_)
        · skip
          have hg9 : ¬ zGet t (zWho e) a v = -1 := by omega
          refine z_aload_n F 0 dX7_find_42 rfl rfl ?_
          refine z_iload_n F 1 dX7_find_43 rfl rfl ?_
          refine z_iload F 4 dX7_find_44 rfl ?_
          refine z_callV F [.int (zI ((a : Nat))), .int (zI v)] [.ref 16] (c_X7_chairFor F.2.2.1 G (s := s) (t := (zFd t (zGet t (zWho e) a v) q)) (o := o) hc (zB_u (zB_u hb9 (by omega)) (by omega)) (a := a) (x := v) ha (by omega)) cv_X7_110 (zAll_16 s (zFd t (zGet t (zWho e) a v) q) o) rfl rfl rfl ⟨by decide, by decide⟩ ⟨by decide, by decide⟩ (Nat.le_of_ble_eq_true rfl) dX7_find_46 z_nx (z_ki (fun x_6 M_6 h_6 => ?_))
          have hx9 := (h_6).1.symm
          have hm9 := (h_6).2.symm
          subst hx9
          subst hm9
          refine z_ti (y := (zChair t a v)) rfl ?_
          refine z_put (ty := .int) F [.ref 17, .ref 18, .ref 19, .int (zI ((zFd t (zGet t (zWho e) a v) q) 0 0 0)), .ref 20, .ref 21, .ref 22, .ref 23, .int (zI ((zFd t (zGet t (zWho e) a v) q) 4 0 0)), .ref 24, .ref 25, .ref 26, .ref 27, .int (zI ((zFd t (zGet t (zWho e) a v) q) 9 0 0)), .ref 28, .ref 29, .ref 30, .ref 31, .int (zI ((zFd t (zGet t (zWho e) a v) q) 14 0 0)), .int (zI ((zFd t (zGet t (zWho e) a v) q) 23 0 0)), .int (zI ((zChair t a v))), .int (zI ((zFd t (zGet t (zWho e) a v) q) 25 0 0))] fl_X7_114 tyX7 tyX7_ok nmX7 rfl (by decide +kernel) rfl rfl (zAll_16 s (zFd t (zGet t (zWho e) a v) q) o) (Nat.le_of_ble_eq_true rfl) rfl dX7_find_49 ?_
          have hm_7_s := zu_s (zAll s (zFd t (zGet t (zWho e) a v) q) o) 16 (zOb 8 [.ref 17, .ref 18, .ref 19, .int (zI ((zFd t (zGet t (zWho e) a v) q) 0 0 0)), .ref 20, .ref 21, .ref 22, .ref 23, .int (zI ((zFd t (zGet t (zWho e) a v) q) 4 0 0)), .ref 24, .ref 25, .ref 26, .ref 27, .int (zI ((zFd t (zGet t (zWho e) a v) q) 9 0 0)), .ref 28, .ref 29, .ref 30, .ref 31, .int (zI ((zFd t (zGet t (zWho e) a v) q) 14 0 0)), .int (zI ((zFd t (zGet t (zWho e) a v) q) 23 0 0)), .int (zI ((zChair t a v))), .int (zI ((zFd t (zGet t (zWho e) a v) q) 25 0 0))])
          refine z_M (M' := (zAll s (zFd t (zGet t (zWho e) a v) (zChair t a v)) o)) (zMH_24 (p := (zGet t (zWho e) a v))) ?_
          refine z_aload_n F 0 dX7_find_52 rfl rfl ?_
          refine z_get F fl_X7_114 (zAll_16 s (zFd t (zGet t (zWho e) a v) (zChair t a v)) o) rfl dX7_find_53 ?_
          refine z_ti (y := (zChair t a v)) rfl ?_
          refine z_iconst (z := -1) F dX7_find_56 (by decide) ?_
          refine z_icmp_eq F 63 dX7_find_57 (by decide) (by omega) ⟨by decide, by decide⟩ (fun c_8 => ?_) (fun c_8 => ?_)
          · skip
            refine z_iinc F 4 [(4, .int (zI (v + 1))), (0, .ref 16), (1, .int (zI ((a : Nat)))), (2, .int (zI x)), (3, .int (zI e))] dX7_find_63 rfl (by decide) rfl ?_
            refine z_goto F 3 dX7_find_66 (by decide) ?_
            refine z_lv [(0, .ref 16), (1, .int (zI ((a : Nat)))), (2, .int (zI x)), (3, .int (zI e)), (4, .int (zI (v + 1)))] [1, 2, 3, 4, 0] rfl ?_
            exact L1_ih (v + 1) ((zGet t (zWho e) a v)) ((zChair t a v)) (by omega) (by omega) (by omega) (by omega) (by omega) (by rw [hff]; exact zScan_s (by omega) (by omega) (zRoom_f (by omega)))
          · skip
            have hch : ¬ zChair t a v = -1 := by omega
            refine z_iload F 4 dX7_find_60 rfl ?_
            exact z_reti F rfl (by first | decide | assumption | omega) (by first | decide | assumption | omega) dX7_find_62 ⟨_, rfl, (hff.trans (zScan_y (by omega) (by omega) (zRoom_r.mpr ⟨hch, hg9⟩))).symm, (zGet t (zWho e) a v), (zChair t a v), rfl, ⟨by omega, by omega⟩, ⟨by omega, by omega⟩, fun _ => ⟨rfl, rfl⟩⟩
        · skip
          have hg9 : zGet t (zWho e) a v = -1 := by omega
          refine z_iconst (z := -1) F dX7_find_38 (by decide) ?_
          refine z_goto F 49 dX7_find_39 (by decide) ?_
          refine z_put (ty := .int) F [.ref 17, .ref 18, .ref 19, .int (zI ((zFd t (zGet t (zWho e) a v) q) 0 0 0)), .ref 20, .ref 21, .ref 22, .ref 23, .int (zI ((zFd t (zGet t (zWho e) a v) q) 4 0 0)), .ref 24, .ref 25, .ref 26, .ref 27, .int (zI ((zFd t (zGet t (zWho e) a v) q) 9 0 0)), .ref 28, .ref 29, .ref 30, .ref 31, .int (zI ((zFd t (zGet t (zWho e) a v) q) 14 0 0)), .int (zI ((zFd t (zGet t (zWho e) a v) q) 23 0 0)), .int (zI (-1)), .int (zI ((zFd t (zGet t (zWho e) a v) q) 25 0 0))] fl_X7_114 tyX7 tyX7_ok nmX7 rfl (by decide +kernel) rfl rfl (zAll_16 s (zFd t (zGet t (zWho e) a v) q) o) (Nat.le_of_ble_eq_true rfl) rfl dX7_find_49 ?_
          have hm_9_s := zu_s (zAll s (zFd t (zGet t (zWho e) a v) q) o) 16 (zOb 8 [.ref 17, .ref 18, .ref 19, .int (zI ((zFd t (zGet t (zWho e) a v) q) 0 0 0)), .ref 20, .ref 21, .ref 22, .ref 23, .int (zI ((zFd t (zGet t (zWho e) a v) q) 4 0 0)), .ref 24, .ref 25, .ref 26, .ref 27, .int (zI ((zFd t (zGet t (zWho e) a v) q) 9 0 0)), .ref 28, .ref 29, .ref 30, .ref 31, .int (zI ((zFd t (zGet t (zWho e) a v) q) 14 0 0)), .int (zI ((zFd t (zGet t (zWho e) a v) q) 23 0 0)), .int (zI (-1)), .int (zI ((zFd t (zGet t (zWho e) a v) q) 25 0 0))])
          refine z_M (M' := (zAll s (zFd t (zGet t (zWho e) a v) (-1)) o)) (zMH_24 (p := (zGet t (zWho e) a v))) ?_
          refine z_aload_n F 0 dX7_find_52 rfl rfl ?_
          refine z_get F fl_X7_114 (zAll_16 s (zFd t (zGet t (zWho e) a v) (-1)) o) rfl dX7_find_53 ?_
          refine z_ti (y := (-1)) rfl ?_
          refine z_iconst (z := -1) F dX7_find_56 (by decide) ?_
          refine z_icmp_eq F 63 dX7_find_57 (by decide) (by omega) ⟨by decide, by decide⟩ (fun c_10 => ?_) (fun c_10 => ?_)
          · skip
            refine z_iinc F 4 [(4, .int (zI (v + 1))), (0, .ref 16), (1, .int (zI ((a : Nat)))), (2, .int (zI x)), (3, .int (zI e))] dX7_find_63 rfl (by decide) rfl ?_
            refine z_goto F 3 dX7_find_66 (by decide) ?_
            refine z_lv [(0, .ref 16), (1, .int (zI ((a : Nat)))), (2, .int (zI x)), (3, .int (zI e)), (4, .int (zI (v + 1)))] [1, 2, 3, 4, 0] rfl ?_
            exact L1_ih (v + 1) ((zGet t (zWho e) a v)) ((-1)) (by omega) (by omega) (by omega) (by omega) (by omega) (by rw [hff]; exact zScan_s (by omega) (by omega) (zRoom_f (by omega)))
          · skip
            exact absurd rfl c_10
  refine z_lv [(0, .ref 16), (1, .int (zI ((a : Nat)))), (2, .int (zI x)), (3, .int (zI e)), (4, .int (zI x))] [1, 2, 3, 4, 0] rfl ?_
  refine z_M (M' := zAll s (zFd t (t 23 0 0) (t 24 0 0)) o) (by rw [zFd_id]) ?_
  exact L1 _ x ((t 23 0 0)) ((t 24 0 0)) (Nat.lt_succ_self _) (by omega) (by omega) (hb9 23 0 0) (hb9 24 0 0) rfl

