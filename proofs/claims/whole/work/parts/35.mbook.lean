/-! ===== what each call answers: code, value, next state; the model books ===== -/
def xHire (s : zS) (a b c : Int) : Int × Int × zS := if (1 ≤ a ∧ a ≤ 15) ∧ (0 ≤ b ∧ b < 600) ∧ b < c ∧ c ≤ 600 then (if s 0 0 0 < 5 then (0, s 0 0 0, zOpH s a b c) else (2, 0, s)) else (1, 0, s)
def xService (s : zS) (a b : Int) : Int × Int × zS := if (0 ≤ a ∧ a < 4) ∧ 1 ≤ b ∧ b ≤ 200 then (if s 4 0 0 < 8 then (0, s 4 0 0, zOpP (zOpN s) (s 4 0 0).toNat a b) else (2, 0, s)) else (1, 0, s)
def xStep (s : zS) (a b c : Int) : Int × Int × zS := if 0 ≤ a ∧ a < s 4 0 0 then (if (-1 ≤ b ∧ b < 4) ∧ 1 ≤ c ∧ c ≤ 200 then (if s 5 a.toNat 0 < 5 ∧ s 8 a.toNat 0 = 0 then (0, s 5 a.toNat 0 + 1, zOpP s a.toNat b c) else (3, 0, s)) else (2, 0, s)) else (1, 0, s)
def xUsual (s : zS) (a : Int) : Int × Int × zS := if 0 ≤ a ∧ a < 4 then (if s 4 0 0 < 8 then (0, s 4 0 0, zUs (zOpN s) (s 4 0 0).toNat a) else (2, 0, s)) else (1, 0, s)
def xBook (s : zS) (a x : Int) : Int × Int × zS := if (0 ≤ a ∧ a < s 4 0 0) ∧ 0 ≤ x ∧ x < 600 then (if s 9 0 0 < 30 then (if (zFind s (zBit 31) a.toNat x 600) = -1 then (3, 0, s) else (0, s 9 0 0, (zOpB s a.toNat (zGet s (zBit 31) a.toNat (zFind s (zBit 31) a.toNat x 600)) (zChair s a.toNat (zFind s (zBit 31) a.toNat x 600)) (zFind s (zBit 31) a.toNat x 600)))) else (2, 0, s)) else (1, 0, s)
def xBookW (s : zS) (a w x : Int) : Int × Int × zS := if (0 ≤ a ∧ a < s 4 0 0) ∧ (0 ≤ w ∧ w < s 0 0 0) ∧ 0 ≤ x ∧ x < 600 then (if s 9 0 0 < 30 then (if (zFind s (zBit (2 ^ w.toNat)) a.toNat x 600) = -1 then (3, 0, s) else (0, s 9 0 0, (zOpB s a.toNat (zGet s (zBit (2 ^ w.toNat)) a.toNat (zFind s (zBit (2 ^ w.toNat)) a.toNat x 600)) (zChair s a.toNat (zFind s (zBit (2 ^ w.toNat)) a.toNat x 600)) (zFind s (zBit (2 ^ w.toNat)) a.toNat x 600)))) else (2, 0, s)) else (1, 0, s)
def xMove (s : zS) (a x : Int) : Int × Int × zS := if ((0 ≤ a ∧ a < s 9 0 0) ∧ ¬ s 13 a.toNat 0 = -1) ∧ 0 ≤ x ∧ x < 600 then (if (zFind (zOpO s a.toNat) (zBit 31) (s 10 a.toNat 0).toNat x 600) = -1 then (2, 0, s) else (0, (zFind (zOpO s a.toNat) (zBit 31) (s 10 a.toNat 0).toNat x 600), (zSrv (zOpL (zOpO s a.toNat) a.toNat (zGet (zOpO s a.toNat) (zBit 31) (s 10 a.toNat 0).toNat (zFind (zOpO s a.toNat) (zBit 31) (s 10 a.toNat 0).toNat x 600)) (zChair (zOpO s a.toNat) (s 10 a.toNat 0).toNat (zFind (zOpO s a.toNat) (zBit 31) (s 10 a.toNat 0).toNat x 600)) (zFind (zOpO s a.toNat) (zBit 31) (s 10 a.toNat 0).toNat x 600))).1)) else (1, 0, s)
def xDrop (s : zS) (a : Int) : Int × Int × zS := if (0 ≤ a ∧ a < s 9 0 0) ∧ ¬ s 13 a.toNat 0 = -1 then (0, (zSrv (zOpO s a.toNat)).2, (zSrv (zOpO s a.toNat)).1) else (1, 0, s)
def xReq (s : zS) (a x : Int) : Int × Int × zS := if (0 ≤ a ∧ a < s 4 0 0) ∧ 0 ≤ x ∧ x < 600 then (if s 14 0 0 < 6 then (0, s 14 0 0 + 1, zOpQ s a.toNat x) else (2, 0, s)) else (1, 0, s)
/-- a question: refused by code 1 -/
def xAsk (s : zS) (p : Prop) [Decidable p] (v : Int) : Int × Int × zS := if p then (0, v, s) else (1, 0, s)
/-- how a call of the model ends: its state goes on with the book's next one, its code and value are the call's -/
def zY (s : zS) (o : zOx) (X : Int × Int × zS) : Int → zM → Prop := fun xr M2 => ∃ T, M2 = zAll s T o ∧ zB T ∧ zRel X.2.2 T ∧ T 25 0 0 = X.1 ∧ (X.1 = 0 → xr = X.2.1)
theorem zY_of {s : zS} {o : zOx} {X : Int × Int × zS} {k v xr : Int} {N T : zS} (hX : X = (k, v, N)) (hb : zB T) (hr : zRel N T) (h25 : T 25 0 0 = k) (hv : k = 0 → xr = v) : zY s o X xr (zAll s T o) := by
  subst hX
  exact ⟨T, rfl, hb, hr, h25, hv⟩
theorem zB_B {t : zS} {a : Nat} {i d x : Int} (h : zB t) (h9 : 0 ≤ t 9 0 0 ∧ t 9 0 0 < 30) (ha : a ≤ 1000) (hi : -1 ≤ i ∧ i ≤ 1000) (hd : -1 ≤ d ∧ d ≤ 1000) (hx : -1 ≤ x ∧ x ≤ 1000) : zB (zOpB t a i d x) := zB_M (zB_u (zB_u (zB_u (zB_u (zB_u (zB_u (zB_u h (by omega)) (by omega)) (by omega)) (by omega)) hi) hd) hx) _ (by omega)
theorem zB_Fd {t : zS} {p q : Int} (h : zB t) (hp : -1 ≤ p ∧ p ≤ 1000) (hq : -1 ≤ q ∧ q ≤ 1000) : zB (zFd t p q) := zB_u (zB_u h hp) hq
abbrev rX7_book : Room := { frames := 4, cells := 0, slots := 0, locals := 102 }
set_option maxRecDepth 100000 in
set_option maxHeartbeats 4000000 in
theorem c_X7_book {l : Launch} (hfl : l.stackTraces = false) (G : zG) {s t c : zS} {o : zOx} (hc : zC1 t) (hb9 : zB t) (hI : zInv c) (hr : zRel c t) (h3 : ∀ j, t 3 j 0 ≤ 600) {a x : Int} (ha : zR a) (hx : zR x)  : zCn l G yX7_book (.code yX7_book cX7_book 5 (some .int)) rX7_book [.ref 16, .int (zI a), .int (zI x)] (zAll s t o) (zRi (zY s o (xBook c a x))) zN := by
  refine zStart hfl (by decide) (own := RX7) rfl [(0, .ref 16), (1, .int (zI a)), (2, .int (zI x))] (Nat.le_of_ble_eq_true rfl) rfl (fun k hkl hinit hk0 F => ?_)
  have hn0 := hc.1
  have hn4 := hc.2.1
  have hn9 := hc.2.2.1
  have hn14 := hc.2.2.2.1
  have hn18 := hc.2.2.2.2.1
  have e0 := hr.1 0 0 0 (by omega)
  have e4 := hr.1 4 0 0 (by omega)
  have e9 := hr.1 9 0 0 (by omega)
  have e14 := hr.2.1
  refine z_aload_n F 0 dX7_book_0 rfl rfl ?_
  refine z_iload_n F 1 dX7_book_1 rfl rfl ?_
  refine z_callV F [.int (zI a)] [] (c_X7_isService F.2.2.1 G (s := s) (t := t) (o := o) hc hb9 ha) cv_X7_84 (zAll_16 s t o) rfl rfl rfl ⟨by decide, by decide⟩ ⟨by decide, by decide⟩ (Nat.le_of_ble_eq_true rfl) dX7_book_2 z_nx (z_ki (fun x_1 M_1 h_1 => ?_))
  have hx9 := (h_1).1.symm
  have hm9 := (h_1).2.symm
  subst hx9
  subst hm9
  have hz : zR (if 0 ≤ a ∧ a < t 4 0 0 then 1 else 0) := zR_if
  refine z_if_eq F 15 dX7_book_5 (by decide) (by omega) (fun c_2 => ?_) (fun c_2 => ?_)
  · skip
    have hq9 : ¬ (0 ≤ a ∧ a < t 4 0 0) := fun h => by rw [if_pos h] at c_2; omega
    refine z_iconst (z := 1) F dX7_book_15 (by decide) ?_
    refine z_goto F 33 dX7_book_16 (by decide) ?_
    refine z_istore_n F [(3, .int (zI 1)), (0, .ref 16), (1, .int (zI a)), (2, .int (zI x))] dX7_book_33 rfl (by decide) rfl ?_
    refine z_iload_n F 0 dX7_book_34 rfl rfl ?_
    refine z_if_ne F 48 dX7_book_35 (by decide) ⟨by decide, by decide⟩ (fun c_3 => ?_) (fun c_3 => ?_)
    · skip
      refine z_iconst (z := -1) F dX7_book_48 (by decide) ?_
      refine z_istore F [(4, .int (zI (-1))), (3, .int (zI 1)), (0, .ref 16), (1, .int (zI a)), (2, .int (zI x))] dX7_book_49 (by decide) rfl ?_
      refine z_aload_n F 2 dX7_book_51 rfl rfl ?_
      refine z_iload_n F 1 dX7_book_52 rfl rfl ?_
      refine z_if_ne F 66 dX7_book_53 (by decide) ⟨by decide, by decide⟩ (fun c_4 => ?_) (fun c_4 => ?_)
      · skip
        refine z_iload_n F 1 dX7_book_66 rfl rfl ?_
        refine z_callV F [.int (zI 1)] [] (c_X7_isFine F.2.2.1 G (s := s) (t := t) (o := o) (p := 1) ⟨by decide, by decide⟩) cv_X7_77 (zAll_16 s t o) rfl rfl rfl ⟨by decide, by decide⟩ ⟨by decide, by decide⟩ (Nat.le_of_ble_eq_true rfl) dX7_book_67 z_nx (z_ki (fun x_5 M_5 h_5 => ?_))
        have hx9 := (h_5).1.symm
        have hm9 := (h_5).2.symm
        subst hx9
        subst hm9
        refine z_ti (y := 0) (if_neg (by decide)) ?_
        refine z_if_ne F 75 dX7_book_70 (by decide) ⟨by decide, by decide⟩ (fun c_6 => ?_) (fun c_6 => ?_)
        · skip
          omega
        · skip
          refine z_iconst (z := 0) F dX7_book_73 (by decide) ?_
          exact z_reti F rfl (by first | decide | assumption | omega) (by first | decide | assumption | omega) dX7_book_74 ⟨_, rfl, zY_of (k := 1) (v := 0) (by unfold xBook; rw [if_neg (by omega)]) (zB_u hb9 (by omega)) (hr.x (by omega) 0 0 1) rfl (fun h => absurd h (by decide))⟩
      · skip
        omega
    · skip
      omega
  · skip
    have hq9 : 0 ≤ a ∧ a < t 4 0 0 := Classical.byContradiction fun h => by rw [if_neg h] at c_2; omega
    refine z_iload_n F 2 dX7_book_8 rfl rfl ?_
    refine z_callS F [.int (zI x)] [] (c_X7_isMinute F.2.2.1 G hx (zAll s t o)) cs_X7_124 rfl ⟨by decide, by decide⟩ ⟨by decide, by decide⟩ (Nat.le_of_ble_eq_true rfl) dX7_book_9 z_nx (z_ki (fun x_7 M_7 h_7 => ?_))
    have hx9 := (h_7).1.symm
    have hm9 := (h_7).2.symm
    subst hx9
    subst hm9
    have hz : zR (if 0 ≤ x ∧ x < 600 then 1 else 0) := zR_if
    refine z_if_ne F 19 dX7_book_12 (by decide) (by omega) (fun c_8 => ?_) (fun c_8 => ?_)
    · skip
      have hq8 : 0 ≤ x ∧ x < 600 := Classical.byContradiction fun h => by rw [if_neg h] at c_8; omega
      refine z_aload_n F 0 dX7_book_19 rfl rfl ?_
      refine z_get F fl_X7_70 (zAll_16 s t o) rfl dX7_book_20 ?_
      refine z_bipush (z := 30) F dX7_book_23 (by decide) ?_
      refine z_icmp_ne F 32 dX7_book_25 (by decide) (by omega) ⟨by decide, by decide⟩ (fun c_9 => ?_) (fun c_9 => ?_)
      · skip
        refine z_iconst (z := 0) F dX7_book_32 (by decide) ?_
        refine z_istore_n F [(3, .int (zI 0)), (0, .ref 16), (1, .int (zI a)), (2, .int (zI x))] dX7_book_33 rfl (by decide) rfl ?_
        refine z_iload_n F 0 dX7_book_34 rfl rfl ?_
        refine z_if_ne F 48 dX7_book_35 (by decide) ⟨by decide, by decide⟩ (fun c_10 => ?_) (fun c_10 => ?_)
        · skip
          omega
        · skip
          refine z_aload_n F 1 dX7_book_38 rfl rfl ?_
          refine z_iload_n F 2 dX7_book_39 rfl rfl ?_
          refine z_ti (y := ((a.toNat : Nat) : Int)) (by omega) ?_
          refine z_iload_n F 3 dX7_book_40 rfl rfl ?_
          refine z_iconst (z := -1) F dX7_book_41 (by decide) ?_
          refine z_callV F [.int (zI (((a.toNat : Nat) : Int))), .int (zI x), .int (zI (-1))] [] (c_X7_find F.2.2.1 G (s := s) (t := t) (o := o) hc hb9 (a := a.toNat) (x := x) (e := (-1)) (by omega) (by omega) (by omega) h3) cv_X7_127 (zAll_16 s t o) rfl rfl rfl ⟨by decide, by decide⟩ ⟨by decide, by decide⟩ (Nat.le_of_ble_eq_true rfl) dX7_book_42 z_nx (z_ki (fun x_11 M_11 h_11 => ?_))
          obtain ⟨hx9, p9, q9, hm9, hp9, hq99, hpq9⟩ := h_11
          subst hx9
          subst hm9
          rw [show zFind t (zWho (-1)) a.toNat x 600 = zFind c (zBit 31) a.toNat x 600 from ((zFind_31 hc _ _ _).trans (hr.1.fi _ _ _))] at hpq9
          have hfr9 := zFind_r c (zBit 31) a.toNat x 600
          have hln := hI.c.len a.toNat
          refine z_ti (y := zFind c (zBit 31) a.toNat x 600) ((zFind_31 hc _ _ _).trans (hr.1.fi _ _ _)) ?_
          refine z_goto F 49 dX7_book_45 (by decide) ?_
          refine z_istore F [(4, .int (zI (zFind c (zBit 31) a.toNat x 600))), (3, .int (zI 0)), (0, .ref 16), (1, .int (zI a)), (2, .int (zI x))] dX7_book_49 (by decide) rfl ?_
          refine z_aload_n F 2 dX7_book_51 rfl rfl ?_
          refine z_iload_n F 1 dX7_book_52 rfl rfl ?_
          refine z_if_ne F 66 dX7_book_53 (by decide) ⟨by decide, by decide⟩ (fun c_12 => ?_) (fun c_12 => ?_)
          · skip
            omega
          · skip
            refine z_iload F 0 dX7_book_56 rfl ?_
            refine z_iconst (z := -1) F dX7_book_58 (by decide) ?_
            refine z_icmp_ne F 66 dX7_book_59 (by decide) (by omega) ⟨by decide, by decide⟩ (fun c_13 => ?_) (fun c_13 => ?_)
            · skip
              have hne : ¬ zFind c (zBit 31) a.toNat x 600 = -1 := c_13
              have hfo := hfr9.resolve_left hne
              obtain ⟨i9, d9, g1, g2, hi9, h49, _⟩ := zRoom_of hfo.2.2
              have hp10 : p9 = zGet c (zBit 31) a.toNat (zFind c (zBit 31) a.toNat x 600) := (hpq9 hne).1.trans ((zWho_31 hc).trans (hr.1.ge _ _))
              have hq10 : q9 = zChair c a.toNat (zFind c (zBit 31) a.toNat x 600) := (hpq9 hne).2.trans (hr.1.ch _ _)
              refine z_iload_n F 1 dX7_book_66 rfl rfl ?_
              refine z_callV F [.int (zI 0)] [] (c_X7_isFine F.2.2.1 G (s := s) (t := (zFd t p9 q9)) (o := o) (p := 0) ⟨by decide, by decide⟩) cv_X7_77 (zAll_16 s (zFd t p9 q9) o) rfl rfl rfl ⟨by decide, by decide⟩ ⟨by decide, by decide⟩ (Nat.le_of_ble_eq_true rfl) dX7_book_67 z_nx (z_ki (fun x_14 M_14 h_14 => ?_))
              have hx9 := (h_14).1.symm
              have hm9 := (h_14).2.symm
              subst hx9
              subst hm9
              refine z_ti (y := 1) (if_pos rfl) ?_
              refine z_if_ne F 75 dX7_book_70 (by decide) ⟨by decide, by decide⟩ (fun c_15 => ?_) (fun c_15 => ?_)
              · skip
                refine z_aload_n F 2 dX7_book_75 rfl rfl ?_
                refine z_iload_n F 3 dX7_book_76 rfl rfl ?_
                refine z_ti (y := ((a.toNat : Nat) : Int)) (by omega) ?_
                refine z_iload F 0 dX7_book_77 rfl ?_
                refine z_callV F [.int (zI (((a.toNat : Nat) : Int))), .int (zI (zFind c (zBit 31) a.toNat x 600))] [] (c_X7_books F.2.2.1 G (s := s) (t := (zsu (zFd t p9 q9) 25 0 0 0)) (o := o) hc (zB_u (zB_Fd hb9 hp9 hq99) (by omega)) (a := a.toNat) (x := zFind c (zBit 31) a.toNat x 600) (show ((a.toNat : Nat) : Int) < t 4 0 0 by omega) (show t 9 0 0 < 30 by omega) (show 0 ≤ p9 ∧ p9 < t 0 0 0 by omega) (show 0 ≤ q9 ∧ q9 < 4 by omega) (by omega) (show zFind c (zBit 31) a.toNat x 600 + zLen t a.toNat ≤ 600 by rw [hr.1.le]; exact hfo.2.1)) cv_X7_130 (zAll_16 s (zsu (zFd t p9 q9) 25 0 0 0) o) rfl rfl rfl ⟨by decide, by decide⟩ ⟨by decide, by decide⟩ (Nat.le_of_ble_eq_true rfl) dX7_book_79 z_nx (z_ki (fun x_16 M_16 h_16 => ?_))
                have hx9 := (h_16).1.symm
                have hm9 := (h_16).2.symm
                subst hx9
                subst hm9
                
                exact z_reti F rfl (by first | decide | assumption | omega) (by first | decide | assumption | omega) dX7_book_82 ⟨_, rfl, zY_of (k := 0) (v := c 9 0 0) (by unfold xBook; rw [if_pos (by omega), if_pos (by omega), if_neg hne]) (zB_B (zB_u (zB_Fd hb9 hp9 hq99) (by omega)) (show 0 ≤ t 9 0 0 ∧ t 9 0 0 < 30 by omega) (by omega) (show -1 ≤ p9 ∧ p9 ≤ 1000 by omega) (show -1 ≤ q9 ∧ q9 ≤ 1000 by omega) (by omega)) (by rw [← hp10, ← hq10]; exact ((hr.fd p9 q9).x (by omega) 0 0 0).B _ _ _ _) rfl (fun _ => e9)⟩
              · skip
                omega
            · skip
              have hne : zFind c (zBit 31) a.toNat x 600 = -1 := c_13
              refine z_iconst (z := 3) F dX7_book_62 (by decide) ?_
              refine z_goto F 67 dX7_book_63 (by decide) ?_
              refine z_callV F [.int (zI 3)] [] (c_X7_isFine F.2.2.1 G (s := s) (t := (zFd t p9 q9)) (o := o) (p := 3) ⟨by decide, by decide⟩) cv_X7_77 (zAll_16 s (zFd t p9 q9) o) rfl rfl rfl ⟨by decide, by decide⟩ ⟨by decide, by decide⟩ (Nat.le_of_ble_eq_true rfl) dX7_book_67 z_nx (z_ki (fun x_17 M_17 h_17 => ?_))
              have hx9 := (h_17).1.symm
              have hm9 := (h_17).2.symm
              subst hx9
              subst hm9
              refine z_ti (y := 0) (if_neg (by decide)) ?_
              refine z_if_ne F 75 dX7_book_70 (by decide) ⟨by decide, by decide⟩ (fun c_18 => ?_) (fun c_18 => ?_)
              · skip
                omega
              · skip
                refine z_iconst (z := 0) F dX7_book_73 (by decide) ?_
                exact z_reti F rfl (by first | decide | assumption | omega) (by first | decide | assumption | omega) dX7_book_74 ⟨_, rfl, zY_of (k := 3) (v := 0) (by unfold xBook; rw [if_pos (by omega), if_pos (by omega), if_pos hne]) (zB_u (zB_Fd hb9 hp9 hq99) (by omega)) ((hr.fd p9 q9).x (by omega) 0 0 3) rfl (fun h => absurd h (by decide))⟩
      · skip
        refine z_iconst (z := 2) F dX7_book_28 (by decide) ?_
        refine z_goto F 33 dX7_book_29 (by decide) ?_
        refine z_istore_n F [(3, .int (zI 2)), (0, .ref 16), (1, .int (zI a)), (2, .int (zI x))] dX7_book_33 rfl (by decide) rfl ?_
        refine z_iload_n F 0 dX7_book_34 rfl rfl ?_
        refine z_if_ne F 48 dX7_book_35 (by decide) ⟨by decide, by decide⟩ (fun c_19 => ?_) (fun c_19 => ?_)
        · skip
          refine z_iconst (z := -1) F dX7_book_48 (by decide) ?_
          refine z_istore F [(4, .int (zI (-1))), (3, .int (zI 2)), (0, .ref 16), (1, .int (zI a)), (2, .int (zI x))] dX7_book_49 (by decide) rfl ?_
          refine z_aload_n F 2 dX7_book_51 rfl rfl ?_
          refine z_iload_n F 1 dX7_book_52 rfl rfl ?_
          refine z_if_ne F 66 dX7_book_53 (by decide) ⟨by decide, by decide⟩ (fun c_20 => ?_) (fun c_20 => ?_)
          · skip
            refine z_iload_n F 1 dX7_book_66 rfl rfl ?_
            refine z_callV F [.int (zI 2)] [] (c_X7_isFine F.2.2.1 G (s := s) (t := t) (o := o) (p := 2) ⟨by decide, by decide⟩) cv_X7_77 (zAll_16 s t o) rfl rfl rfl ⟨by decide, by decide⟩ ⟨by decide, by decide⟩ (Nat.le_of_ble_eq_true rfl) dX7_book_67 z_nx (z_ki (fun x_21 M_21 h_21 => ?_))
            have hx9 := (h_21).1.symm
            have hm9 := (h_21).2.symm
            subst hx9
            subst hm9
            refine z_ti (y := 0) (if_neg (by decide)) ?_
            refine z_if_ne F 75 dX7_book_70 (by decide) ⟨by decide, by decide⟩ (fun c_22 => ?_) (fun c_22 => ?_)
            · skip
              omega
            · skip
              refine z_iconst (z := 0) F dX7_book_73 (by decide) ?_
              exact z_reti F rfl (by first | decide | assumption | omega) (by first | decide | assumption | omega) dX7_book_74 ⟨_, rfl, zY_of (k := 2) (v := 0) (by unfold xBook; rw [if_pos (by omega), if_neg (by omega)]) (zB_u hb9 (by omega)) (hr.x (by omega) 0 0 2) rfl (fun h => absurd h (by decide))⟩
          · skip
            omega
        · skip
          omega
    · skip
      have hq8 : ¬ (0 ≤ x ∧ x < 600) := fun h => by rw [if_pos h] at c_8; omega
      refine z_iconst (z := 1) F dX7_book_15 (by decide) ?_
      refine z_goto F 33 dX7_book_16 (by decide) ?_
      refine z_istore_n F [(3, .int (zI 1)), (0, .ref 16), (1, .int (zI a)), (2, .int (zI x))] dX7_book_33 rfl (by decide) rfl ?_
      refine z_iload_n F 0 dX7_book_34 rfl rfl ?_
      refine z_if_ne F 48 dX7_book_35 (by decide) ⟨by decide, by decide⟩ (fun c_23 => ?_) (fun c_23 => ?_)
      · skip
        refine z_iconst (z := -1) F dX7_book_48 (by decide) ?_
        refine z_istore F [(4, .int (zI (-1))), (3, .int (zI 1)), (0, .ref 16), (1, .int (zI a)), (2, .int (zI x))] dX7_book_49 (by decide) rfl ?_
        refine z_aload_n F 2 dX7_book_51 rfl rfl ?_
        refine z_iload_n F 1 dX7_book_52 rfl rfl ?_
        refine z_if_ne F 66 dX7_book_53 (by decide) ⟨by decide, by decide⟩ (fun c_24 => ?_) (fun c_24 => ?_)
        · skip
          refine z_iload_n F 1 dX7_book_66 rfl rfl ?_
          refine z_callV F [.int (zI 1)] [] (c_X7_isFine F.2.2.1 G (s := s) (t := t) (o := o) (p := 1) ⟨by decide, by decide⟩) cv_X7_77 (zAll_16 s t o) rfl rfl rfl ⟨by decide, by decide⟩ ⟨by decide, by decide⟩ (Nat.le_of_ble_eq_true rfl) dX7_book_67 z_nx (z_ki (fun x_25 M_25 h_25 => ?_))
          have hx9 := (h_25).1.symm
          have hm9 := (h_25).2.symm
          subst hx9
          subst hm9
          refine z_ti (y := 0) (if_neg (by decide)) ?_
          refine z_if_ne F 75 dX7_book_70 (by decide) ⟨by decide, by decide⟩ (fun c_26 => ?_) (fun c_26 => ?_)
          · skip
            omega
          · skip
            refine z_iconst (z := 0) F dX7_book_73 (by decide) ?_
            exact z_reti F rfl (by first | decide | assumption | omega) (by first | decide | assumption | omega) dX7_book_74 ⟨_, rfl, zY_of (k := 1) (v := 0) (by unfold xBook; rw [if_neg (by omega)]) (zB_u hb9 (by omega)) (hr.x (by omega) 0 0 1) rfl (fun h => absurd h (by decide))⟩
        · skip
          omega
      · skip
        omega

abbrev rX7_bookWith : Room := { frames := 4, cells := 0, slots := 0, locals := 102 }
set_option maxRecDepth 100000 in
set_option maxHeartbeats 4000000 in
theorem c_X7_bookWith {l : Launch} (hfl : l.stackTraces = false) (G : zG) {s t c : zS} {o : zOx} (hc : zC1 t) (hb9 : zB t) (hI : zInv c) (hr : zRel c t) (h3 : ∀ j, t 3 j 0 ≤ 600) {a w x : Int} (ha : zR a) (hw : zR w) (hx : zR x)  : zCn l G yX7_bookWith (.code yX7_bookWith cX7_bookWith 6 (some .int)) rX7_bookWith [.ref 16, .int (zI a), .int (zI w), .int (zI x)] (zAll s t o) (zRi (zY s o (xBookW c a w x))) zN := by
  refine zStart hfl (by decide) (own := RX7) rfl [(0, .ref 16), (1, .int (zI a)), (2, .int (zI w)), (3, .int (zI x))] (Nat.le_of_ble_eq_true rfl) rfl (fun k hkl hinit hk0 F => ?_)
  have hn0 := hc.1
  have hn4 := hc.2.1
  have hn9 := hc.2.2.1
  have hn14 := hc.2.2.2.1
  have hn18 := hc.2.2.2.2.1
  have e0 := hr.1 0 0 0 (by omega)
  have e4 := hr.1 4 0 0 (by omega)
  have e9 := hr.1 9 0 0 (by omega)
  have e14 := hr.2.1
  refine z_aload_n F 0 dX7_bookWith_0 rfl rfl ?_
  refine z_iload_n F 1 dX7_bookWith_1 rfl rfl ?_
  refine z_callV F [.int (zI a)] [] (c_X7_isService F.2.2.1 G (s := s) (t := t) (o := o) hc hb9 ha) cv_X7_84 (zAll_16 s t o) rfl rfl rfl ⟨by decide, by decide⟩ ⟨by decide, by decide⟩ (Nat.le_of_ble_eq_true rfl) dX7_bookWith_2 z_nx (z_ki (fun x_1 M_1 h_1 => ?_))
  have hx9 := (h_1).1.symm
  have hm9 := (h_1).2.symm
  subst hx9
  subst hm9
  have hz : zR (if 0 ≤ a ∧ a < t 4 0 0 then 1 else 0) := zR_if
  refine z_if_eq F 23 dX7_bookWith_5 (by decide) (by omega) (fun c_2 => ?_) (fun c_2 => ?_)
  · skip
    have hq9 : ¬ (0 ≤ a ∧ a < t 4 0 0) := fun h => by rw [if_pos h] at c_2; omega
    refine z_iconst (z := 1) F dX7_bookWith_23 (by decide) ?_
    refine z_goto F 41 dX7_bookWith_24 (by decide) ?_
    refine z_istore F [(4, .int (zI 1)), (0, .ref 16), (1, .int (zI a)), (2, .int (zI w)), (3, .int (zI x))] dX7_bookWith_41 (by decide) rfl ?_
    refine z_iload F 0 dX7_bookWith_43 rfl ?_
    refine z_if_ne F 58 dX7_bookWith_45 (by decide) ⟨by decide, by decide⟩ (fun c_3 => ?_) (fun c_3 => ?_)
    · skip
      refine z_iconst (z := -1) F dX7_bookWith_58 (by decide) ?_
      refine z_istore F [(5, .int (zI (-1))), (4, .int (zI 1)), (0, .ref 16), (1, .int (zI a)), (2, .int (zI w)), (3, .int (zI x))] dX7_bookWith_59 (by decide) rfl ?_
      refine z_aload_n F 2 dX7_bookWith_61 rfl rfl ?_
      refine z_iload F 1 dX7_bookWith_62 rfl ?_
      refine z_if_ne F 77 dX7_bookWith_64 (by decide) ⟨by decide, by decide⟩ (fun c_4 => ?_) (fun c_4 => ?_)
      · skip
        refine z_iload F 1 dX7_bookWith_77 rfl ?_
        refine z_callV F [.int (zI 1)] [] (c_X7_isFine F.2.2.1 G (s := s) (t := t) (o := o) (p := 1) ⟨by decide, by decide⟩) cv_X7_77 (zAll_16 s t o) rfl rfl rfl ⟨by decide, by decide⟩ ⟨by decide, by decide⟩ (Nat.le_of_ble_eq_true rfl) dX7_bookWith_79 z_nx (z_ki (fun x_5 M_5 h_5 => ?_))
        have hx9 := (h_5).1.symm
        have hm9 := (h_5).2.symm
        subst hx9
        subst hm9
        refine z_ti (y := 0) (if_neg (by decide)) ?_
        refine z_if_ne F 87 dX7_bookWith_82 (by decide) ⟨by decide, by decide⟩ (fun c_6 => ?_) (fun c_6 => ?_)
        · skip
          omega
        · skip
          refine z_iconst (z := 0) F dX7_bookWith_85 (by decide) ?_
          exact z_reti F rfl (by first | decide | assumption | omega) (by first | decide | assumption | omega) dX7_bookWith_86 ⟨_, rfl, zY_of (k := 1) (v := 0) (by unfold xBookW; rw [if_neg (by omega)]) (zB_u hb9 (by omega)) (hr.x (by omega) 0 0 1) rfl (fun h => absurd h (by decide))⟩
      · skip
        omega
    · skip
      omega
  · skip
    have hq9 : 0 ≤ a ∧ a < t 4 0 0 := Classical.byContradiction fun h => by rw [if_neg h] at c_2; omega
    refine z_aload_n F 0 dX7_bookWith_8 rfl rfl ?_
    refine z_iload_n F 2 dX7_bookWith_9 rfl rfl ?_
    refine z_callV F [.int (zI w)] [] (c_X7_isStaff F.2.2.1 G (s := s) (t := t) (o := o) hc hb9 hw) cv_X7_133 (zAll_16 s t o) rfl rfl rfl ⟨by decide, by decide⟩ ⟨by decide, by decide⟩ (Nat.le_of_ble_eq_true rfl) dX7_bookWith_10 z_nx (z_ki (fun x_7 M_7 h_7 => ?_))
    have hx9 := (h_7).1.symm
    have hm9 := (h_7).2.symm
    subst hx9
    subst hm9
    have hz : zR (if 0 ≤ w ∧ w < t 0 0 0 then 1 else 0) := zR_if
    refine z_if_eq F 23 dX7_bookWith_13 (by decide) (by omega) (fun c_8 => ?_) (fun c_8 => ?_)
    · skip
      have hq7 : ¬ (0 ≤ w ∧ w < t 0 0 0) := fun h => by rw [if_pos h] at c_8; omega
      refine z_iconst (z := 1) F dX7_bookWith_23 (by decide) ?_
      refine z_goto F 41 dX7_bookWith_24 (by decide) ?_
      refine z_istore F [(4, .int (zI 1)), (0, .ref 16), (1, .int (zI a)), (2, .int (zI w)), (3, .int (zI x))] dX7_bookWith_41 (by decide) rfl ?_
      refine z_iload F 0 dX7_bookWith_43 rfl ?_
      refine z_if_ne F 58 dX7_bookWith_45 (by decide) ⟨by decide, by decide⟩ (fun c_9 => ?_) (fun c_9 => ?_)
      · skip
        refine z_iconst (z := -1) F dX7_bookWith_58 (by decide) ?_
        refine z_istore F [(5, .int (zI (-1))), (4, .int (zI 1)), (0, .ref 16), (1, .int (zI a)), (2, .int (zI w)), (3, .int (zI x))] dX7_bookWith_59 (by decide) rfl ?_
        refine z_aload_n F 2 dX7_bookWith_61 rfl rfl ?_
        refine z_iload F 1 dX7_bookWith_62 rfl ?_
        refine z_if_ne F 77 dX7_bookWith_64 (by decide) ⟨by decide, by decide⟩ (fun c_10 => ?_) (fun c_10 => ?_)
        · skip
          refine z_iload F 1 dX7_bookWith_77 rfl ?_
          refine z_callV F [.int (zI 1)] [] (c_X7_isFine F.2.2.1 G (s := s) (t := t) (o := o) (p := 1) ⟨by decide, by decide⟩) cv_X7_77 (zAll_16 s t o) rfl rfl rfl ⟨by decide, by decide⟩ ⟨by decide, by decide⟩ (Nat.le_of_ble_eq_true rfl) dX7_bookWith_79 z_nx (z_ki (fun x_11 M_11 h_11 => ?_))
          have hx9 := (h_11).1.symm
          have hm9 := (h_11).2.symm
          subst hx9
          subst hm9
          refine z_ti (y := 0) (if_neg (by decide)) ?_
          refine z_if_ne F 87 dX7_bookWith_82 (by decide) ⟨by decide, by decide⟩ (fun c_12 => ?_) (fun c_12 => ?_)
          · skip
            omega
          · skip
            refine z_iconst (z := 0) F dX7_bookWith_85 (by decide) ?_
            exact z_reti F rfl (by first | decide | assumption | omega) (by first | decide | assumption | omega) dX7_bookWith_86 ⟨_, rfl, zY_of (k := 1) (v := 0) (by unfold xBookW; rw [if_neg (by omega)]) (zB_u hb9 (by omega)) (hr.x (by omega) 0 0 1) rfl (fun h => absurd h (by decide))⟩
        · skip
          omega
      · skip
        omega
    · skip
      have hq7 : 0 ≤ w ∧ w < t 0 0 0 := Classical.byContradiction fun h => by rw [if_neg h] at c_8; omega
      refine z_iload_n F 3 dX7_bookWith_16 rfl rfl ?_
      refine z_callS F [.int (zI x)] [] (c_X7_isMinute F.2.2.1 G hx (zAll s t o)) cs_X7_124 rfl ⟨by decide, by decide⟩ ⟨by decide, by decide⟩ (Nat.le_of_ble_eq_true rfl) dX7_bookWith_17 z_nx (z_ki (fun x_13 M_13 h_13 => ?_))
      have hx9 := (h_13).1.symm
      have hm9 := (h_13).2.symm
      subst hx9
      subst hm9
      have hz : zR (if 0 ≤ x ∧ x < 600 then 1 else 0) := zR_if
      refine z_if_ne F 27 dX7_bookWith_20 (by decide) (by omega) (fun c_14 => ?_) (fun c_14 => ?_)
      · skip
        have hq8 : 0 ≤ x ∧ x < 600 := Classical.byContradiction fun h => by rw [if_neg h] at c_14; omega
        refine z_aload_n F 0 dX7_bookWith_27 rfl rfl ?_
        refine z_get F fl_X7_70 (zAll_16 s t o) rfl dX7_bookWith_28 ?_
        refine z_bipush (z := 30) F dX7_bookWith_31 (by decide) ?_
        refine z_icmp_ne F 40 dX7_bookWith_33 (by decide) (by omega) ⟨by decide, by decide⟩ (fun c_15 => ?_) (fun c_15 => ?_)
        · skip
          refine z_iconst (z := 0) F dX7_bookWith_40 (by decide) ?_
          refine z_istore F [(4, .int (zI 0)), (0, .ref 16), (1, .int (zI a)), (2, .int (zI w)), (3, .int (zI x))] dX7_bookWith_41 (by decide) rfl ?_
          refine z_iload F 0 dX7_bookWith_43 rfl ?_
          refine z_if_ne F 58 dX7_bookWith_45 (by decide) ⟨by decide, by decide⟩ (fun c_16 => ?_) (fun c_16 => ?_)
          · skip
            omega
          · skip
            refine z_aload_n F 1 dX7_bookWith_48 rfl rfl ?_
            refine z_iload_n F 2 dX7_bookWith_49 rfl rfl ?_
            refine z_ti (y := ((a.toNat : Nat) : Int)) (by omega) ?_
            refine z_iload_n F 4 dX7_bookWith_50 rfl rfl ?_
            refine z_iload_n F 3 dX7_bookWith_51 rfl rfl ?_
            refine z_callV F [.int (zI (((a.toNat : Nat) : Int))), .int (zI x), .int (zI w)] [] (c_X7_find F.2.2.1 G (s := s) (t := t) (o := o) hc hb9 (a := a.toNat) (x := x) (e := w) (by omega) (by omega) (by omega) h3) cv_X7_127 (zAll_16 s t o) rfl rfl rfl ⟨by decide, by decide⟩ ⟨by decide, by decide⟩ (Nat.le_of_ble_eq_true rfl) dX7_bookWith_52 z_nx (z_ki (fun x_17 M_17 h_17 => ?_))
            obtain ⟨hx9, p9, q9, hm9, hp9, hq99, hpq9⟩ := h_17
            subst hx9
            subst hm9
            rw [show zFind t (zWho w) a.toNat x 600 = zFind c (zBit (2 ^ w.toNat)) a.toNat x 600 from ((zFind_1 hc (by omega) (by omega) _ _ _).trans (hr.1.fi _ _ _))] at hpq9
            have hfr9 := zFind_r c (zBit (2 ^ w.toNat)) a.toNat x 600
            have hln := hI.c.len a.toNat
            refine z_ti (y := zFind c (zBit (2 ^ w.toNat)) a.toNat x 600) ((zFind_1 hc (by omega) (by omega) _ _ _).trans (hr.1.fi _ _ _)) ?_
            refine z_goto F 59 dX7_bookWith_55 (by decide) ?_
            refine z_istore F [(5, .int (zI (zFind c (zBit (2 ^ w.toNat)) a.toNat x 600))), (4, .int (zI 0)), (0, .ref 16), (1, .int (zI a)), (2, .int (zI w)), (3, .int (zI x))] dX7_bookWith_59 (by decide) rfl ?_
            refine z_aload_n F 2 dX7_bookWith_61 rfl rfl ?_
            refine z_iload F 1 dX7_bookWith_62 rfl ?_
            refine z_if_ne F 77 dX7_bookWith_64 (by decide) ⟨by decide, by decide⟩ (fun c_18 => ?_) (fun c_18 => ?_)
            · skip
              omega
            · skip
              refine z_iload F 0 dX7_bookWith_67 rfl ?_
              refine z_iconst (z := -1) F dX7_bookWith_69 (by decide) ?_
              refine z_icmp_ne F 77 dX7_bookWith_70 (by decide) (by omega) ⟨by decide, by decide⟩ (fun c_19 => ?_) (fun c_19 => ?_)
              · skip
                have hne : ¬ zFind c (zBit (2 ^ w.toNat)) a.toNat x 600 = -1 := c_19
                have hfo := hfr9.resolve_left hne
                obtain ⟨i9, d9, g1, g2, hi9, h49, _⟩ := zRoom_of hfo.2.2
                have hp10 : p9 = zGet c (zBit (2 ^ w.toNat)) a.toNat (zFind c (zBit (2 ^ w.toNat)) a.toNat x 600) := (hpq9 hne).1.trans ((zWho_1 hc (by omega) (by omega)).trans (hr.1.ge _ _))
                have hq10 : q9 = zChair c a.toNat (zFind c (zBit (2 ^ w.toNat)) a.toNat x 600) := (hpq9 hne).2.trans (hr.1.ch _ _)
                refine z_iload F 1 dX7_bookWith_77 rfl ?_
                refine z_callV F [.int (zI 0)] [] (c_X7_isFine F.2.2.1 G (s := s) (t := (zFd t p9 q9)) (o := o) (p := 0) ⟨by decide, by decide⟩) cv_X7_77 (zAll_16 s (zFd t p9 q9) o) rfl rfl rfl ⟨by decide, by decide⟩ ⟨by decide, by decide⟩ (Nat.le_of_ble_eq_true rfl) dX7_bookWith_79 z_nx (z_ki (fun x_20 M_20 h_20 => ?_))
                have hx9 := (h_20).1.symm
                have hm9 := (h_20).2.symm
                subst hx9
                subst hm9
                refine z_ti (y := 1) (if_pos rfl) ?_
                refine z_if_ne F 87 dX7_bookWith_82 (by decide) ⟨by decide, by decide⟩ (fun c_21 => ?_) (fun c_21 => ?_)
                · skip
                  refine z_aload_n F 2 dX7_bookWith_87 rfl rfl ?_
                  refine z_iload_n F 3 dX7_bookWith_88 rfl rfl ?_
                  refine z_ti (y := ((a.toNat : Nat) : Int)) (by omega) ?_
                  refine z_iload F 0 dX7_bookWith_89 rfl ?_
                  refine z_callV F [.int (zI (((a.toNat : Nat) : Int))), .int (zI (zFind c (zBit (2 ^ w.toNat)) a.toNat x 600))] [] (c_X7_books F.2.2.1 G (s := s) (t := (zsu (zFd t p9 q9) 25 0 0 0)) (o := o) hc (zB_u (zB_Fd hb9 hp9 hq99) (by omega)) (a := a.toNat) (x := zFind c (zBit (2 ^ w.toNat)) a.toNat x 600) (show ((a.toNat : Nat) : Int) < t 4 0 0 by omega) (show t 9 0 0 < 30 by omega) (show 0 ≤ p9 ∧ p9 < t 0 0 0 by omega) (show 0 ≤ q9 ∧ q9 < 4 by omega) (by omega) (show zFind c (zBit (2 ^ w.toNat)) a.toNat x 600 + zLen t a.toNat ≤ 600 by rw [hr.1.le]; exact hfo.2.1)) cv_X7_130 (zAll_16 s (zsu (zFd t p9 q9) 25 0 0 0) o) rfl rfl rfl ⟨by decide, by decide⟩ ⟨by decide, by decide⟩ (Nat.le_of_ble_eq_true rfl) dX7_bookWith_91 z_nx (z_ki (fun x_22 M_22 h_22 => ?_))
                  have hx9 := (h_22).1.symm
                  have hm9 := (h_22).2.symm
                  subst hx9
                  subst hm9
                  
                  exact z_reti F rfl (by first | decide | assumption | omega) (by first | decide | assumption | omega) dX7_bookWith_94 ⟨_, rfl, zY_of (k := 0) (v := c 9 0 0) (by unfold xBookW; rw [if_pos (by omega), if_pos (by omega), if_neg hne]) (zB_B (zB_u (zB_Fd hb9 hp9 hq99) (by omega)) (show 0 ≤ t 9 0 0 ∧ t 9 0 0 < 30 by omega) (by omega) (show -1 ≤ p9 ∧ p9 ≤ 1000 by omega) (show -1 ≤ q9 ∧ q9 ≤ 1000 by omega) (by omega)) (by rw [← hp10, ← hq10]; exact ((hr.fd p9 q9).x (by omega) 0 0 0).B _ _ _ _) rfl (fun _ => e9)⟩
                · skip
                  omega
              · skip
                have hne : zFind c (zBit (2 ^ w.toNat)) a.toNat x 600 = -1 := c_19
                refine z_iconst (z := 3) F dX7_bookWith_73 (by decide) ?_
                refine z_goto F 79 dX7_bookWith_74 (by decide) ?_
                refine z_callV F [.int (zI 3)] [] (c_X7_isFine F.2.2.1 G (s := s) (t := (zFd t p9 q9)) (o := o) (p := 3) ⟨by decide, by decide⟩) cv_X7_77 (zAll_16 s (zFd t p9 q9) o) rfl rfl rfl ⟨by decide, by decide⟩ ⟨by decide, by decide⟩ (Nat.le_of_ble_eq_true rfl) dX7_bookWith_79 z_nx (z_ki (fun x_23 M_23 h_23 => ?_))
                have hx9 := (h_23).1.symm
                have hm9 := (h_23).2.symm
                subst hx9
                subst hm9
                refine z_ti (y := 0) (if_neg (by decide)) ?_
                refine z_if_ne F 87 dX7_bookWith_82 (by decide) ⟨by decide, by decide⟩ (fun c_24 => ?_) (fun c_24 => ?_)
                · skip
                  omega
                · skip
                  refine z_iconst (z := 0) F dX7_bookWith_85 (by decide) ?_
                  exact z_reti F rfl (by first | decide | assumption | omega) (by first | decide | assumption | omega) dX7_bookWith_86 ⟨_, rfl, zY_of (k := 3) (v := 0) (by unfold xBookW; rw [if_pos (by omega), if_pos (by omega), if_pos hne]) (zB_u (zB_Fd hb9 hp9 hq99) (by omega)) ((hr.fd p9 q9).x (by omega) 0 0 3) rfl (fun h => absurd h (by decide))⟩
        · skip
          refine z_iconst (z := 2) F dX7_bookWith_36 (by decide) ?_
          refine z_goto F 41 dX7_bookWith_37 (by decide) ?_
          refine z_istore F [(4, .int (zI 2)), (0, .ref 16), (1, .int (zI a)), (2, .int (zI w)), (3, .int (zI x))] dX7_bookWith_41 (by decide) rfl ?_
          refine z_iload F 0 dX7_bookWith_43 rfl ?_
          refine z_if_ne F 58 dX7_bookWith_45 (by decide) ⟨by decide, by decide⟩ (fun c_25 => ?_) (fun c_25 => ?_)
          · skip
            refine z_iconst (z := -1) F dX7_bookWith_58 (by decide) ?_
            refine z_istore F [(5, .int (zI (-1))), (4, .int (zI 2)), (0, .ref 16), (1, .int (zI a)), (2, .int (zI w)), (3, .int (zI x))] dX7_bookWith_59 (by decide) rfl ?_
            refine z_aload_n F 2 dX7_bookWith_61 rfl rfl ?_
            refine z_iload F 1 dX7_bookWith_62 rfl ?_
            refine z_if_ne F 77 dX7_bookWith_64 (by decide) ⟨by decide, by decide⟩ (fun c_26 => ?_) (fun c_26 => ?_)
            · skip
              refine z_iload F 1 dX7_bookWith_77 rfl ?_
              refine z_callV F [.int (zI 2)] [] (c_X7_isFine F.2.2.1 G (s := s) (t := t) (o := o) (p := 2) ⟨by decide, by decide⟩) cv_X7_77 (zAll_16 s t o) rfl rfl rfl ⟨by decide, by decide⟩ ⟨by decide, by decide⟩ (Nat.le_of_ble_eq_true rfl) dX7_bookWith_79 z_nx (z_ki (fun x_27 M_27 h_27 => ?_))
              have hx9 := (h_27).1.symm
              have hm9 := (h_27).2.symm
              subst hx9
              subst hm9
              refine z_ti (y := 0) (if_neg (by decide)) ?_
              refine z_if_ne F 87 dX7_bookWith_82 (by decide) ⟨by decide, by decide⟩ (fun c_28 => ?_) (fun c_28 => ?_)
              · skip
                omega
              · skip
                refine z_iconst (z := 0) F dX7_bookWith_85 (by decide) ?_
                exact z_reti F rfl (by first | decide | assumption | omega) (by first | decide | assumption | omega) dX7_bookWith_86 ⟨_, rfl, zY_of (k := 2) (v := 0) (by unfold xBookW; rw [if_pos (by omega), if_neg (by omega)]) (zB_u hb9 (by omega)) (hr.x (by omega) 0 0 2) rfl (fun h => absurd h (by decide))⟩
            · skip
              omega
          · skip
            omega
      · skip
        have hq8 : ¬ (0 ≤ x ∧ x < 600) := fun h => by rw [if_pos h] at c_14; omega
        refine z_iconst (z := 1) F dX7_bookWith_23 (by decide) ?_
        refine z_goto F 41 dX7_bookWith_24 (by decide) ?_
        refine z_istore F [(4, .int (zI 1)), (0, .ref 16), (1, .int (zI a)), (2, .int (zI w)), (3, .int (zI x))] dX7_bookWith_41 (by decide) rfl ?_
        refine z_iload F 0 dX7_bookWith_43 rfl ?_
        refine z_if_ne F 58 dX7_bookWith_45 (by decide) ⟨by decide, by decide⟩ (fun c_29 => ?_) (fun c_29 => ?_)
        · skip
          refine z_iconst (z := -1) F dX7_bookWith_58 (by decide) ?_
          refine z_istore F [(5, .int (zI (-1))), (4, .int (zI 1)), (0, .ref 16), (1, .int (zI a)), (2, .int (zI w)), (3, .int (zI x))] dX7_bookWith_59 (by decide) rfl ?_
          refine z_aload_n F 2 dX7_bookWith_61 rfl rfl ?_
          refine z_iload F 1 dX7_bookWith_62 rfl ?_
          refine z_if_ne F 77 dX7_bookWith_64 (by decide) ⟨by decide, by decide⟩ (fun c_30 => ?_) (fun c_30 => ?_)
          · skip
            refine z_iload F 1 dX7_bookWith_77 rfl ?_
            refine z_callV F [.int (zI 1)] [] (c_X7_isFine F.2.2.1 G (s := s) (t := t) (o := o) (p := 1) ⟨by decide, by decide⟩) cv_X7_77 (zAll_16 s t o) rfl rfl rfl ⟨by decide, by decide⟩ ⟨by decide, by decide⟩ (Nat.le_of_ble_eq_true rfl) dX7_bookWith_79 z_nx (z_ki (fun x_31 M_31 h_31 => ?_))
            have hx9 := (h_31).1.symm
            have hm9 := (h_31).2.symm
            subst hx9
            subst hm9
            refine z_ti (y := 0) (if_neg (by decide)) ?_
            refine z_if_ne F 87 dX7_bookWith_82 (by decide) ⟨by decide, by decide⟩ (fun c_32 => ?_) (fun c_32 => ?_)
            · skip
              omega
            · skip
              refine z_iconst (z := 0) F dX7_bookWith_85 (by decide) ?_
              exact z_reti F rfl (by first | decide | assumption | omega) (by first | decide | assumption | omega) dX7_bookWith_86 ⟨_, rfl, zY_of (k := 1) (v := 0) (by unfold xBookW; rw [if_neg (by omega)]) (zB_u hb9 (by omega)) (hr.x (by omega) 0 0 1) rfl (fun h => absurd h (by decide))⟩
          · skip
            omega
        · skip
          omega

