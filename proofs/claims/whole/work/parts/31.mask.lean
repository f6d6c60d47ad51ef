/-! ===== the model: questions on places; a rule more ===== -/
section ZD
variable {k : zC} {G : zG} {R : Room} {nL : Nat} {Q : State → Prop} {M : zM} {cl sl pc : Nat} {lv : List (Nat × Value)} {st : List Value} {cc : ByteArray} {own : String} {ret : Option FieldType} {tb : List ExceptionTableEntry} {Ts : List Cond}
theorem z_dup2 (F : zF k G cc nL own Ts ret tb) {v w : Value} (d : decode cc pc = .ok (.dup2, 1)) (h : v.category = 1) (h2 : w.category = 1) (kk : zJ k G R nL Q M cl sl (pc + 1) lv (v :: w :: v :: w :: st)) : zJ k G R nL Q M cl sl (pc) lv (v :: w :: st) := by
  obtain ⟨⟨p, l, e, s, m⟩, ⟨args, below, meth, c⟩, L0, M0⟩ := k
  obtain ⟨⟨hx, hb, hml, hown, hts⟩, hLow, hfl, hlk, hrt, htb⟩ := F
  intro L H locs ls hR hA hv hs hS hl
  exact lv_dup2_11 hx hb d ((zmr_cat L v).trans h) ((zmr_cat L w).trans h2) (kk L H locs ls hR hA hv (List.forall_mem_cons.mpr ⟨zs_h hs, List.forall_mem_cons.mpr ⟨zs_h (zs_t hs), hs⟩⟩) hS hl)
end ZD
abbrev rX7_chairAt : Room := { frames := 2, cells := 0, slots := 0, locals := 42 }
set_option maxRecDepth 100000 in
set_option maxHeartbeats 4000000 in
theorem c_X7_chairAt {l : Launch} (hfl : l.stackTraces = false) (G : zG) {s t : zS} {o : zOx} (hc : zC1 t) (hb9 : zB t) {a x : Int} (ha : zR a) (hx : zR x)  : zCn l G yX7_chairAt (.code yX7_chairAt cX7_chairAt 3 (some .int)) rX7_chairAt [.ref 16, .int (zI a), .int (zI x)] (zAll s t o) (zRi (fun xr M2 => (((0 ≤ a ∧ a < 4) ∧ 0 ≤ x ∧ x < 600) ∧ xr = t 21 a.toNat x.toNat ∧ M2 = zAll s (zsu t 25 0 0 0) o) ∨ (¬ ((0 ≤ a ∧ a < 4) ∧ 0 ≤ x ∧ x < 600) ∧ xr = 0 ∧ M2 = zAll s (zsu t 25 0 0 1) o))) zN := by
  refine zStart hfl (by decide) (own := RX7) rfl [(0, .ref 16), (1, .int (zI a)), (2, .int (zI x))] (Nat.le_of_ble_eq_true rfl) rfl (fun k hkl hinit hk0 F => ?_)
  have hn0 := hc.1
  have hn4 := hc.2.1
  have hn9 := hc.2.2.1
  have hn14 := hc.2.2.2.1
  have hn18 := hc.2.2.2.2.1
  have hc0 : zC1 (zsu t 25 0 0 0) := hc
  have hb0 : zB (zsu t 25 0 0 0) := zB_u hb9 (by omega)
  refine z_aload_n F 0 dX7_chairAt_0 rfl rfl ?_
  refine z_iload_n F 1 dX7_chairAt_1 rfl rfl ?_
  refine z_iconst (z := 0) F dX7_chairAt_2 (by decide) ?_
  refine z_iconst (z := 3) F dX7_chairAt_3 (by decide) ?_
  refine z_callS F [.int (zI a), .int (zI 0), .int (zI 3)] [.ref 16] (c_X7_in F.2.2.1 G (a := a) (b := 0) (c := 3) (by omega) (by omega) (by omega) (zAll s t o)) cs_X7_63 rfl ⟨by decide, by decide⟩ ⟨by decide, by decide⟩ (Nat.le_of_ble_eq_true rfl) dX7_chairAt_4 z_nx (z_ki (fun x_1 M_1 h_1 => ?_))
  have hx9 := (h_1).1.symm
  have hm9 := (h_1).2.symm
  subst hx9
  subst hm9
  refine z_ti (y := (if 0 ≤ a ∧ a < 4 then 1 else 0)) (zIf01 (by omega)) ?_
  have hz : zR (if 0 ≤ a ∧ a < 4 then 1 else 0) := zR_if
  refine z_if_eq F 21 dX7_chairAt_7 (by decide) (by omega) (fun c_2 => ?_) (fun c_2 => ?_)
  · skip
    have hq9 : ¬ (0 ≤ a ∧ a < 4) := fun h => by rw [if_pos h] at c_2; omega
    refine z_iconst (z := 1) F dX7_chairAt_21 (by decide) ?_
    refine z_callV F [.int (zI 1)] [] (c_X7_isFine F.2.2.1 G (s := s) (t := t) (o := o) (p := 1) ⟨by decide, by decide⟩) cv_X7_77 (zAll_16 s t o) rfl rfl rfl ⟨by decide, by decide⟩ ⟨by decide, by decide⟩ (Nat.le_of_ble_eq_true rfl) dX7_chairAt_22 z_nx (z_ki (fun x_3 M_3 h_3 => ?_))
    have hx9 := (h_3).1.symm
    have hm9 := (h_3).2.symm
    subst hx9
    subst hm9
    refine z_ti (y := 0) (if_neg (by decide)) ?_
    refine z_if_eq F 43 dX7_chairAt_25 (by decide) ⟨by decide, by decide⟩ (fun c_4 => ?_) (fun c_4 => ?_)
    · skip
      refine z_iconst (z := 0) F dX7_chairAt_43 (by decide) ?_
      exact z_reti F rfl (by first | decide | assumption | omega) (by first | decide | assumption | omega) dX7_chairAt_44 ⟨_, rfl, (by first | exact Or.inl ⟨⟨hq9, hq8⟩, rfl, rfl⟩ | exact Or.inr ⟨fun h => hq9 h.1, rfl, rfl⟩ | exact Or.inr ⟨fun h => hq8 h.2, rfl, rfl⟩)⟩
    · skip
      exact absurd rfl c_4
  · skip
    have hq9 : 0 ≤ a ∧ a < 4 := Classical.byContradiction fun h => by rw [if_neg h] at c_2; omega
    refine z_iload_n F 2 dX7_chairAt_10 rfl rfl ?_
    refine z_callS F [.int (zI x)] [.ref 16] (c_X7_isMinute F.2.2.1 G hx (zAll s t o)) cs_X7_124 rfl ⟨by decide, by decide⟩ ⟨by decide, by decide⟩ (Nat.le_of_ble_eq_true rfl) dX7_chairAt_11 z_nx (z_ki (fun x_5 M_5 h_5 => ?_))
    have hx9 := (h_5).1.symm
    have hm9 := (h_5).2.symm
    subst hx9
    subst hm9
    have hz : zR (if 0 ≤ x ∧ x < 600 then 1 else 0) := zR_if
    refine z_if_eq F 21 dX7_chairAt_14 (by decide) (by omega) (fun c_6 => ?_) (fun c_6 => ?_)
    · skip
      have hq8 : ¬ (0 ≤ x ∧ x < 600) := fun h => by rw [if_pos h] at c_6; omega
      refine z_iconst (z := 1) F dX7_chairAt_21 (by decide) ?_
      refine z_callV F [.int (zI 1)] [] (c_X7_isFine F.2.2.1 G (s := s) (t := t) (o := o) (p := 1) ⟨by decide, by decide⟩) cv_X7_77 (zAll_16 s t o) rfl rfl rfl ⟨by decide, by decide⟩ ⟨by decide, by decide⟩ (Nat.le_of_ble_eq_true rfl) dX7_chairAt_22 z_nx (z_ki (fun x_7 M_7 h_7 => ?_))
      have hx9 := (h_7).1.symm
      have hm9 := (h_7).2.symm
      subst hx9
      subst hm9
      refine z_ti (y := 0) (if_neg (by decide)) ?_
      refine z_if_eq F 43 dX7_chairAt_25 (by decide) ⟨by decide, by decide⟩ (fun c_8 => ?_) (fun c_8 => ?_)
      · skip
        refine z_iconst (z := 0) F dX7_chairAt_43 (by decide) ?_
        exact z_reti F rfl (by first | decide | assumption | omega) (by first | decide | assumption | omega) dX7_chairAt_44 ⟨_, rfl, (by first | exact Or.inl ⟨⟨hq9, hq8⟩, rfl, rfl⟩ | exact Or.inr ⟨fun h => hq9 h.1, rfl, rfl⟩ | exact Or.inr ⟨fun h => hq8 h.2, rfl, rfl⟩)⟩
      · skip
        exact absurd rfl c_8
    · skip
      have hq8 : 0 ≤ x ∧ x < 600 := Classical.byContradiction fun h => by rw [if_neg h] at c_6; omega
      refine z_iconst (z := 0) F dX7_chairAt_17 (by decide) ?_
      refine z_goto F 22 dX7_chairAt_18 (by decide) ?_
      refine z_callV F [.int (zI 0)] [] (c_X7_isFine F.2.2.1 G (s := s) (t := t) (o := o) (p := 0) ⟨by decide, by decide⟩) cv_X7_77 (zAll_16 s t o) rfl rfl rfl ⟨by decide, by decide⟩ ⟨by decide, by decide⟩ (Nat.le_of_ble_eq_true rfl) dX7_chairAt_22 z_nx (z_ki (fun x_9 M_9 h_9 => ?_))
      have hx9 := (h_9).1.symm
      have hm9 := (h_9).2.symm
      subst hx9
      subst hm9
      refine z_ti (y := 1) (if_pos rfl) ?_
      refine z_if_eq F 43 dX7_chairAt_25 (by decide) ⟨by decide, by decide⟩ (fun c_10 => ?_) (fun c_10 => ?_)
      · skip
        exact absurd c_10 (by decide)
      · skip
        refine z_aload_n F 0 dX7_chairAt_28 rfl rfl ?_
        refine z_get F fl_X7_47 (zAll_16 s (zsu t 25 0 0 0) o) rfl dX7_chairAt_29 ?_
        refine z_sipush (z := 600) F dX7_chairAt_32 (by decide) ?_
        refine z_iload_n F 1 dX7_chairAt_35 rfl rfl ?_
        refine z_imul F dX7_chairAt_36 ?_
        refine z_iload_n F 2 dX7_chairAt_37 rfl rfl ?_
        refine z_iadd F dX7_chairAt_38 ?_
        refine z_iald F (zAll_29 s (zsu t 25 0 0 0) o) (by omega) (by omega) (by decide) dX7_chairAt_39 ?_
        refine z_ti (y := t 21 a.toNat x.toNat) (by show (if _ then t 21 _ _ else 0) = _; rw [if_pos (show (600 * a + x).toNat < 2400 by omega), show (600 * a + x).toNat / 600 = a.toNat by omega, show (600 * a + x).toNat % 600 = x.toNat by omega]) ?_
        refine z_goto F 44 dX7_chairAt_40 (by decide) ?_
        exact z_reti F rfl (by first | decide | assumption | omega) (by first | decide | assumption | omega) dX7_chairAt_44 ⟨_, rfl, (by first | exact Or.inl ⟨⟨hq9, hq8⟩, rfl, rfl⟩ | exact Or.inr ⟨fun h => hq9 h.1, rfl, rfl⟩ | exact Or.inr ⟨fun h => hq8 h.2, rfl, rfl⟩)⟩

theorem zScan_cg {s s' : zS} {who : Nat → Bool} {a : Nat} {to : Int} (hl : zLen s a = zLen s' a) (hr : ∀ x, zRoomB s who a x = zRoomB s' who a x) : ∀ n x, zScan s who a to n x = zScan s' who a to n x
  | 0, _ => rfl
  | n + 1, x => by rw [zScan, zScan, hl, hr, zScan_cg hl hr n]
theorem zGet_T {t : zS} {p : Int} {who : Nat → Bool} {a : Nat} {x : Int} : zGet (zsu t 25 0 0 p) who a x = zGet t who a x := by
  show (zMem (zsu t 25 0 0 p) who a x (t 0 0 0).toNat).1 = _
  rw [zMem_cg (s := zsu t 25 0 0 p) (s' := t) (fun i => zCan_cg rfl rfl rfl rfl rfl rfl rfl) (fun i => rfl)]
  rfl
theorem zFind_T {t : zS} {p : Int} {who : Nat → Bool} {a : Nat} {x to : Int} : zFind (zsu t 25 0 0 p) who a x to = zFind t who a x to := zScan_cg (s := zsu t 25 0 0 p) (s' := t) rfl (fun y => by
  unfold zRoomB
  rw [zGet_T]
  rfl) _ _
abbrev rX7_earliest : Room := { frames := 4, cells := 0, slots := 0, locals := 102 }
set_option maxRecDepth 100000 in
set_option maxHeartbeats 4000000 in
theorem c_X7_earliest {l : Launch} (hfl : l.stackTraces = false) (G : zG) {s t : zS} {o : zOx} (hc : zC1 t) (hb9 : zB t) {a x : Int} (ha : zR a) (hx : zR x) (h3 : ∀ j, t 3 j 0 ≤ 600)  : zCn l G yX7_earliest (.code yX7_earliest cX7_earliest 3 (some .int)) rX7_earliest [.ref 16, .int (zI a), .int (zI x)] (zAll s t o) (zRi (fun xr M2 => (((0 ≤ a ∧ a < t 4 0 0) ∧ 0 ≤ x ∧ x < 600) ∧ xr = zFind t (zWho (-1)) a.toNat x 600 ∧ ∃ p q : Int, M2 = zAll s (zFd (zsu t 25 0 0 0) p q) o ∧ (-1 ≤ p ∧ p ≤ 1000) ∧ (-1 ≤ q ∧ q ≤ 1000)) ∨ (¬ ((0 ≤ a ∧ a < t 4 0 0) ∧ 0 ≤ x ∧ x < 600) ∧ xr = 0 ∧ M2 = zAll s (zsu t 25 0 0 1) o))) zN := by
  refine zStart hfl (by decide) (own := RX7) rfl [(0, .ref 16), (1, .int (zI a)), (2, .int (zI x))] (Nat.le_of_ble_eq_true rfl) rfl (fun k hkl hinit hk0 F => ?_)
  have hn0 := hc.1
  have hn4 := hc.2.1
  have hn9 := hc.2.2.1
  have hn14 := hc.2.2.2.1
  have hn18 := hc.2.2.2.2.1
  have hc0 : zC1 (zsu t 25 0 0 0) := hc
  have hb0 : zB (zsu t 25 0 0 0) := zB_u hb9 (by omega)
  refine z_aload_n F 0 dX7_earliest_0 rfl rfl ?_
  refine z_aload_n F 0 dX7_earliest_1 rfl rfl ?_
  refine z_iload_n F 1 dX7_earliest_2 rfl rfl ?_
  refine z_callV F [.int (zI a)] [.ref 16] (c_X7_isService F.2.2.1 G (s := s) (t := t) (o := o) hc hb9 ha) cv_X7_84 (zAll_16 s t o) rfl rfl rfl ⟨by decide, by decide⟩ ⟨by decide, by decide⟩ (Nat.le_of_ble_eq_true rfl) dX7_earliest_3 z_nx (z_ki (fun x_1 M_1 h_1 => ?_))
  have hx9 := (h_1).1.symm
  have hm9 := (h_1).2.symm
  subst hx9
  subst hm9
  have hz : zR (if 0 ≤ a ∧ a < t 4 0 0 then 1 else 0) := zR_if
  refine z_if_eq F 20 dX7_earliest_6 (by decide) (by omega) (fun c_2 => ?_) (fun c_2 => ?_)
  · skip
    have hq9 : ¬ (0 ≤ a ∧ a < t 4 0 0) := fun h => by rw [if_pos h] at c_2; omega
    refine z_iconst (z := 1) F dX7_earliest_20 (by decide) ?_
    refine z_callV F [.int (zI 1)] [] (c_X7_isFine F.2.2.1 G (s := s) (t := t) (o := o) (p := 1) ⟨by decide, by decide⟩) cv_X7_77 (zAll_16 s t o) rfl rfl rfl ⟨by decide, by decide⟩ ⟨by decide, by decide⟩ (Nat.le_of_ble_eq_true rfl) dX7_earliest_21 z_nx (z_ki (fun x_3 M_3 h_3 => ?_))
    have hx9 := (h_3).1.symm
    have hm9 := (h_3).2.symm
    subst hx9
    subst hm9
    refine z_ti (y := 0) (if_neg (by decide)) ?_
    refine z_if_eq F 37 dX7_earliest_24 (by decide) ⟨by decide, by decide⟩ (fun c_4 => ?_) (fun c_4 => ?_)
    · skip
      refine z_iconst (z := 0) F dX7_earliest_37 (by decide) ?_
      exact z_reti F rfl (by first | decide | assumption | omega) (by first | decide | assumption | omega) dX7_earliest_38 ⟨_, rfl, (by first | exact Or.inl ⟨⟨hq9, hq8⟩, rfl, p9, q9, rfl, hp9, hq99⟩ | exact Or.inr ⟨fun h => hq9 h.1, rfl, rfl⟩ | exact Or.inr ⟨fun h => hq8 h.2, rfl, rfl⟩)⟩
    · skip
      exact absurd rfl c_4
  · skip
    have hq9 : 0 ≤ a ∧ a < t 4 0 0 := Classical.byContradiction fun h => by rw [if_neg h] at c_2; omega
    refine z_iload_n F 2 dX7_earliest_9 rfl rfl ?_
    refine z_callS F [.int (zI x)] [.ref 16] (c_X7_isMinute F.2.2.1 G hx (zAll s t o)) cs_X7_124 rfl ⟨by decide, by decide⟩ ⟨by decide, by decide⟩ (Nat.le_of_ble_eq_true rfl) dX7_earliest_10 z_nx (z_ki (fun x_5 M_5 h_5 => ?_))
    have hx9 := (h_5).1.symm
    have hm9 := (h_5).2.symm
    subst hx9
    subst hm9
    have hz : zR (if 0 ≤ x ∧ x < 600 then 1 else 0) := zR_if
    refine z_if_eq F 20 dX7_earliest_13 (by decide) (by omega) (fun c_6 => ?_) (fun c_6 => ?_)
    · skip
      have hq8 : ¬ (0 ≤ x ∧ x < 600) := fun h => by rw [if_pos h] at c_6; omega
      refine z_iconst (z := 1) F dX7_earliest_20 (by decide) ?_
      refine z_callV F [.int (zI 1)] [] (c_X7_isFine F.2.2.1 G (s := s) (t := t) (o := o) (p := 1) ⟨by decide, by decide⟩) cv_X7_77 (zAll_16 s t o) rfl rfl rfl ⟨by decide, by decide⟩ ⟨by decide, by decide⟩ (Nat.le_of_ble_eq_true rfl) dX7_earliest_21 z_nx (z_ki (fun x_7 M_7 h_7 => ?_))
      have hx9 := (h_7).1.symm
      have hm9 := (h_7).2.symm
      subst hx9
      subst hm9
      refine z_ti (y := 0) (if_neg (by decide)) ?_
      refine z_if_eq F 37 dX7_earliest_24 (by decide) ⟨by decide, by decide⟩ (fun c_8 => ?_) (fun c_8 => ?_)
      · skip
        refine z_iconst (z := 0) F dX7_earliest_37 (by decide) ?_
        exact z_reti F rfl (by first | decide | assumption | omega) (by first | decide | assumption | omega) dX7_earliest_38 ⟨_, rfl, (by first | exact Or.inl ⟨⟨hq9, hq8⟩, rfl, p9, q9, rfl, hp9, hq99⟩ | exact Or.inr ⟨fun h => hq9 h.1, rfl, rfl⟩ | exact Or.inr ⟨fun h => hq8 h.2, rfl, rfl⟩)⟩
      · skip
        exact absurd rfl c_8
    · skip
      have hq8 : 0 ≤ x ∧ x < 600 := Classical.byContradiction fun h => by rw [if_neg h] at c_6; omega
      refine z_iconst (z := 0) F dX7_earliest_16 (by decide) ?_
      refine z_goto F 21 dX7_earliest_17 (by decide) ?_
      refine z_callV F [.int (zI 0)] [] (c_X7_isFine F.2.2.1 G (s := s) (t := t) (o := o) (p := 0) ⟨by decide, by decide⟩) cv_X7_77 (zAll_16 s t o) rfl rfl rfl ⟨by decide, by decide⟩ ⟨by decide, by decide⟩ (Nat.le_of_ble_eq_true rfl) dX7_earliest_21 z_nx (z_ki (fun x_9 M_9 h_9 => ?_))
      have hx9 := (h_9).1.symm
      have hm9 := (h_9).2.symm
      subst hx9
      subst hm9
      refine z_ti (y := 1) (if_pos rfl) ?_
      refine z_if_eq F 37 dX7_earliest_24 (by decide) ⟨by decide, by decide⟩ (fun c_10 => ?_) (fun c_10 => ?_)
      · skip
        exact absurd c_10 (by decide)
      · skip
        refine z_aload_n F 0 dX7_earliest_27 rfl rfl ?_
        refine z_iload_n F 1 dX7_earliest_28 rfl rfl ?_
        refine z_ti (y := ((a.toNat : Nat) : Int)) (by omega) ?_
        refine z_iload_n F 2 dX7_earliest_29 rfl rfl ?_
        refine z_iconst (z := -1) F dX7_earliest_30 (by decide) ?_
        refine z_callV F [.int (zI (((a.toNat : Nat) : Int))), .int (zI x), .int (zI (-1))] [] (c_X7_find F.2.2.1 G (s := s) (t := (zsu t 25 0 0 0)) (o := o) hc0 hb0 (a := a.toNat) (x := x) (e := -1) (by omega) (by omega) (by decide) h3) cv_X7_127 (zAll_16 s (zsu t 25 0 0 0) o) rfl rfl rfl ⟨by decide, by decide⟩ ⟨by decide, by decide⟩ (Nat.le_of_ble_eq_true rfl) dX7_earliest_31 z_nx (z_ki (fun x_11 M_11 h_11 => ?_))
        obtain ⟨hx9, p9, q9, hm9, hp9, hq99, hpq9⟩ := h_11
        subst hx9
        subst hm9
        refine z_ti (y := zFind t (zWho (-1)) a.toNat x 600) zFind_T ?_
        refine z_goto F 38 dX7_earliest_34 (by decide) ?_
        exact z_reti F rfl (by first | decide | assumption | omega) (by first | decide | assumption | omega) dX7_earliest_38 ⟨_, rfl, (by first | exact Or.inl ⟨⟨hq9, hq8⟩, rfl, p9, q9, rfl, hp9, hq99⟩ | exact Or.inr ⟨fun h => hq9 h.1, rfl, rfl⟩ | exact Or.inr ⟨fun h => hq8 h.2, rfl, rfl⟩)⟩

abbrev rX7_staffFor : Room := { frames := 4, cells := 0, slots := 0, locals := 102 }
set_option maxRecDepth 100000 in
set_option maxHeartbeats 4000000 in
theorem c_X7_staffFor {l : Launch} (hfl : l.stackTraces = false) (G : zG) {s t : zS} {o : zOx} (hc : zC1 t) (hb9 : zB t) {a x : Int} (ha : zR a) (hx : zR x) (h3 : ∀ j, t 3 j 0 ≤ 600)  : zCn l G yX7_staffFor (.code yX7_staffFor cX7_staffFor 3 (some .int)) rX7_staffFor [.ref 16, .int (zI a), .int (zI x)] (zAll s t o) (zRi (fun xr M2 => (((0 ≤ a ∧ a < t 4 0 0) ∧ 0 ≤ x ∧ x < 600) ∧ xr = (if zFind t (zWho (-1)) a.toNat x 600 = -1 then -1 else zGet t (zWho (-1)) a.toNat (zFind t (zWho (-1)) a.toNat x 600)) ∧ ∃ p q : Int, M2 = zAll s (zFd (zsu t 25 0 0 0) p q) o ∧ (-1 ≤ p ∧ p ≤ 1000) ∧ (-1 ≤ q ∧ q ≤ 1000)) ∨ (¬ ((0 ≤ a ∧ a < t 4 0 0) ∧ 0 ≤ x ∧ x < 600) ∧ xr = 0 ∧ M2 = zAll s (zsu t 25 0 0 1) o))) zN := by
  refine zStart hfl (by decide) (own := RX7) rfl [(0, .ref 16), (1, .int (zI a)), (2, .int (zI x))] (Nat.le_of_ble_eq_true rfl) rfl (fun k hkl hinit hk0 F => ?_)
  have hn0 := hc.1
  have hn4 := hc.2.1
  have hn9 := hc.2.2.1
  have hn14 := hc.2.2.2.1
  have hn18 := hc.2.2.2.2.1
  have hc0 : zC1 (zsu t 25 0 0 0) := hc
  have hb0 : zB (zsu t 25 0 0 0) := zB_u hb9 (by omega)
  refine z_aload_n F 0 dX7_staffFor_0 rfl rfl ?_
  refine z_aload_n F 0 dX7_staffFor_1 rfl rfl ?_
  refine z_iload_n F 1 dX7_staffFor_2 rfl rfl ?_
  refine z_callV F [.int (zI a)] [.ref 16] (c_X7_isService F.2.2.1 G (s := s) (t := t) (o := o) hc hb9 ha) cv_X7_84 (zAll_16 s t o) rfl rfl rfl ⟨by decide, by decide⟩ ⟨by decide, by decide⟩ (Nat.le_of_ble_eq_true rfl) dX7_staffFor_3 z_nx (z_ki (fun x_1 M_1 h_1 => ?_))
  have hx9 := (h_1).1.symm
  have hm9 := (h_1).2.symm
  subst hx9
  subst hm9
  have hz : zR (if 0 ≤ a ∧ a < t 4 0 0 then 1 else 0) := zR_if
  refine z_if_eq F 20 dX7_staffFor_6 (by decide) (by omega) (fun c_2 => ?_) (fun c_2 => ?_)
  · skip
    have hq9 : ¬ (0 ≤ a ∧ a < t 4 0 0) := fun h => by rw [if_pos h] at c_2; omega
    refine z_iconst (z := 1) F dX7_staffFor_20 (by decide) ?_
    refine z_callV F [.int (zI 1)] [] (c_X7_isFine F.2.2.1 G (s := s) (t := t) (o := o) (p := 1) ⟨by decide, by decide⟩) cv_X7_77 (zAll_16 s t o) rfl rfl rfl ⟨by decide, by decide⟩ ⟨by decide, by decide⟩ (Nat.le_of_ble_eq_true rfl) dX7_staffFor_21 z_nx (z_ki (fun x_3 M_3 h_3 => ?_))
    have hx9 := (h_3).1.symm
    have hm9 := (h_3).2.symm
    subst hx9
    subst hm9
    refine z_ti (y := 0) (if_neg (by decide)) ?_
    refine z_if_ne F 29 dX7_staffFor_24 (by decide) ⟨by decide, by decide⟩ (fun c_4 => ?_) (fun c_4 => ?_)
    · skip
      omega
    · skip
      refine z_iconst (z := 0) F dX7_staffFor_27 (by decide) ?_
      exact z_reti F rfl (by first | decide | assumption | omega) (by first | decide | assumption | omega) dX7_staffFor_28 ⟨_, rfl, (by first | exact Or.inl ⟨⟨hq9, hq8⟩, (if_neg hne).symm, p9, q9, rfl, hp9, hq99⟩ | exact Or.inl ⟨⟨hq9, hq8⟩, (if_pos hne).symm, p9, q9, rfl, hp9, hq99⟩ | exact Or.inr ⟨fun h => hq9 h.1, rfl, rfl⟩ | exact Or.inr ⟨fun h => hq8 h.2, rfl, rfl⟩)⟩
  · skip
    have hq9 : 0 ≤ a ∧ a < t 4 0 0 := Classical.byContradiction fun h => by rw [if_neg h] at c_2; omega
    refine z_iload_n F 2 dX7_staffFor_9 rfl rfl ?_
    refine z_callS F [.int (zI x)] [.ref 16] (c_X7_isMinute F.2.2.1 G hx (zAll s t o)) cs_X7_124 rfl ⟨by decide, by decide⟩ ⟨by decide, by decide⟩ (Nat.le_of_ble_eq_true rfl) dX7_staffFor_10 z_nx (z_ki (fun x_5 M_5 h_5 => ?_))
    have hx9 := (h_5).1.symm
    have hm9 := (h_5).2.symm
    subst hx9
    subst hm9
    have hz : zR (if 0 ≤ x ∧ x < 600 then 1 else 0) := zR_if
    refine z_if_eq F 20 dX7_staffFor_13 (by decide) (by omega) (fun c_6 => ?_) (fun c_6 => ?_)
    · skip
      have hq8 : ¬ (0 ≤ x ∧ x < 600) := fun h => by rw [if_pos h] at c_6; omega
      refine z_iconst (z := 1) F dX7_staffFor_20 (by decide) ?_
      refine z_callV F [.int (zI 1)] [] (c_X7_isFine F.2.2.1 G (s := s) (t := t) (o := o) (p := 1) ⟨by decide, by decide⟩) cv_X7_77 (zAll_16 s t o) rfl rfl rfl ⟨by decide, by decide⟩ ⟨by decide, by decide⟩ (Nat.le_of_ble_eq_true rfl) dX7_staffFor_21 z_nx (z_ki (fun x_7 M_7 h_7 => ?_))
      have hx9 := (h_7).1.symm
      have hm9 := (h_7).2.symm
      subst hx9
      subst hm9
      refine z_ti (y := 0) (if_neg (by decide)) ?_
      refine z_if_ne F 29 dX7_staffFor_24 (by decide) ⟨by decide, by decide⟩ (fun c_8 => ?_) (fun c_8 => ?_)
      · skip
        omega
      · skip
        refine z_iconst (z := 0) F dX7_staffFor_27 (by decide) ?_
        exact z_reti F rfl (by first | decide | assumption | omega) (by first | decide | assumption | omega) dX7_staffFor_28 ⟨_, rfl, (by first | exact Or.inl ⟨⟨hq9, hq8⟩, (if_neg hne).symm, p9, q9, rfl, hp9, hq99⟩ | exact Or.inl ⟨⟨hq9, hq8⟩, (if_pos hne).symm, p9, q9, rfl, hp9, hq99⟩ | exact Or.inr ⟨fun h => hq9 h.1, rfl, rfl⟩ | exact Or.inr ⟨fun h => hq8 h.2, rfl, rfl⟩)⟩
    · skip
      have hq8 : 0 ≤ x ∧ x < 600 := Classical.byContradiction fun h => by rw [if_neg h] at c_6; omega
      refine z_iconst (z := 0) F dX7_staffFor_16 (by decide) ?_
      refine z_goto F 21 dX7_staffFor_17 (by decide) ?_
      refine z_callV F [.int (zI 0)] [] (c_X7_isFine F.2.2.1 G (s := s) (t := t) (o := o) (p := 0) ⟨by decide, by decide⟩) cv_X7_77 (zAll_16 s t o) rfl rfl rfl ⟨by decide, by decide⟩ ⟨by decide, by decide⟩ (Nat.le_of_ble_eq_true rfl) dX7_staffFor_21 z_nx (z_ki (fun x_9 M_9 h_9 => ?_))
      have hx9 := (h_9).1.symm
      have hm9 := (h_9).2.symm
      subst hx9
      subst hm9
      refine z_ti (y := 1) (if_pos rfl) ?_
      refine z_if_ne F 29 dX7_staffFor_24 (by decide) ⟨by decide, by decide⟩ (fun c_10 => ?_) (fun c_10 => ?_)
      · skip
        refine z_aload_n F 0 dX7_staffFor_29 rfl rfl ?_
        refine z_iload_n F 1 dX7_staffFor_30 rfl rfl ?_
        refine z_ti (y := ((a.toNat : Nat) : Int)) (by omega) ?_
        refine z_iload_n F 2 dX7_staffFor_31 rfl rfl ?_
        refine z_iconst (z := -1) F dX7_staffFor_32 (by decide) ?_
        refine z_callV F [.int (zI (((a.toNat : Nat) : Int))), .int (zI x), .int (zI (-1))] [] (c_X7_find F.2.2.1 G (s := s) (t := (zsu t 25 0 0 0)) (o := o) hc0 hb0 (a := a.toNat) (x := x) (e := -1) (by omega) (by omega) (by decide) h3) cv_X7_127 (zAll_16 s (zsu t 25 0 0 0) o) rfl rfl rfl ⟨by decide, by decide⟩ ⟨by decide, by decide⟩ (Nat.le_of_ble_eq_true rfl) dX7_staffFor_33 z_nx (z_ki (fun x_11 M_11 h_11 => ?_))
        obtain ⟨hx9, p9, q9, hm9, hp9, hq99, hpq9⟩ := h_11
        subst hx9
        subst hm9
        rw [zFind_T] at hpq9
        have hfr9 := zFind_r t (zWho (-1)) a.toNat x 600
        have hln := hc.len a.toNat
        refine z_ti (y := zFind t (zWho (-1)) a.toNat x 600) zFind_T ?_
        refine z_iconst (z := -1) F dX7_staffFor_36 (by decide) ?_
        refine z_icmp_ne F 44 dX7_staffFor_37 (by decide) (by omega) ⟨by decide, by decide⟩ (fun c_12 => ?_) (fun c_12 => ?_)
        · skip
          have hne : ¬ zFind t (zWho (-1)) a.toNat x 600 = -1 := by omega
          refine z_aload_n F 0 dX7_staffFor_44 rfl rfl ?_
          refine z_get F fl_X7_107 (zAll_16 s (zFd (zsu t 25 0 0 0) p9 q9) o) rfl dX7_staffFor_45 ?_
          refine z_ti (y := zGet t (zWho (-1)) a.toNat (zFind t (zWho (-1)) a.toNat x 600)) ((show zFd (zsu t 25 0 0 0) p9 q9 23 0 0 = p9 from rfl).trans ((hpq9 hne).1.trans zGet_T)) ?_
          exact z_reti F rfl (by first | decide | assumption | omega) (by first | decide | assumption | omega) dX7_staffFor_48 ⟨_, rfl, (by first | exact Or.inl ⟨⟨hq9, hq8⟩, (if_neg hne).symm, p9, q9, rfl, hp9, hq99⟩ | exact Or.inl ⟨⟨hq9, hq8⟩, (if_pos hne).symm, p9, q9, rfl, hp9, hq99⟩ | exact Or.inr ⟨fun h => hq9 h.1, rfl, rfl⟩ | exact Or.inr ⟨fun h => hq8 h.2, rfl, rfl⟩)⟩
        · skip
          have hne : zFind t (zWho (-1)) a.toNat x 600 = -1 := by omega
          refine z_iconst (z := -1) F dX7_staffFor_40 (by decide) ?_
          refine z_goto F 48 dX7_staffFor_41 (by decide) ?_
          exact z_reti F rfl (by first | decide | assumption | omega) (by first | decide | assumption | omega) dX7_staffFor_48 ⟨_, rfl, (by first | exact Or.inl ⟨⟨hq9, hq8⟩, (if_neg hne).symm, p9, q9, rfl, hp9, hq99⟩ | exact Or.inl ⟨⟨hq9, hq8⟩, (if_pos hne).symm, p9, q9, rfl, hp9, hq99⟩ | exact Or.inr ⟨fun h => hq9 h.1, rfl, rfl⟩ | exact Or.inr ⟨fun h => hq8 h.2, rfl, rfl⟩)⟩
      · skip
        omega

abbrev rX7_earliestByScan : Room := { frames := 5, cells := 0, slots := 0, locals := 124 }
set_option maxRecDepth 100000 in
set_option maxHeartbeats 4000000 in
theorem c_X7_earliestByScan {l : Launch} (hfl : l.stackTraces = false) (G : zG) {s t : zS} {o : zOx} (hc : zC1 t) (hb9 : zB t) {a x : Int} (ha : zR a) (hx : zR x) (h3 : ∀ j, t 3 j 0 ≤ 600)  : zCn l G yX7_earliestByScan (.code yX7_earliestByScan cX7_earliestByScan 3 (some .int)) rX7_earliestByScan [.ref 16, .int (zI a), .int (zI x)] (zAll s t o) (zRi (fun xr M2 => (((0 ≤ a ∧ a < t 4 0 0) ∧ 0 ≤ x ∧ x < 600) ∧ xr = zFind t (zWho (-1)) a.toNat x 600 ∧ ∃ p q : Int, M2 = zAll s (zFd (zsu t 25 0 0 0) p q) o ∧ (-1 ≤ p ∧ p ≤ 1000) ∧ (-1 ≤ q ∧ q ≤ 1000)) ∨ (¬ ((0 ≤ a ∧ a < t 4 0 0) ∧ 0 ≤ x ∧ x < 600) ∧ xr = 0 ∧ M2 = zAll s (zsu t 25 0 0 1) o))) zN := by
  refine zStart hfl (by decide) (own := RX7) rfl [(0, .ref 16), (1, .int (zI a)), (2, .int (zI x))] (Nat.le_of_ble_eq_true rfl) rfl (fun k hkl hinit hk0 F => ?_)
  have hn0 := hc.1
  have hn4 := hc.2.1
  have hn9 := hc.2.2.1
  have hn14 := hc.2.2.2.1
  have hn18 := hc.2.2.2.2.1
  refine z_aload_n F 0 dX7_earliestByScan_0 rfl rfl ?_
  refine z_iload_n F 1 dX7_earliestByScan_1 rfl rfl ?_
  refine z_iload_n F 2 dX7_earliestByScan_2 rfl rfl ?_
  refine z_callV F [.int (zI a), .int (zI x)] [] (c_X7_earliest F.2.2.1 G (s := s) (t := t) (o := o) hc hb9 ha hx h3) cv_X7_146 (zAll_16 s t o) rfl rfl rfl ⟨by decide, by decide⟩ ⟨by decide, by decide⟩ (Nat.le_of_ble_eq_true rfl) dX7_earliestByScan_3 z_nx (z_ki (fun x_1 M_1 h_1 => ?_))
  have hee := h_1
  exact z_reti F rfl (by first | decide | assumption | omega) (by first | decide | assumption | omega) dX7_earliestByScan_6 ⟨_, rfl, hee⟩

