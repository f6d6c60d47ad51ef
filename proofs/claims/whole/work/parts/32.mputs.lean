/-! ===== the model: steps put ===== -/
abbrev rX7_puts : Room := { frames := 0, cells := 0, slots := 0, locals := 0 }
set_option maxRecDepth 100000 in
set_option maxHeartbeats 4000000 in
theorem c_X7_puts {l : Launch} (hfl : l.stackTraces = false) (G : zG) {s t : zS} {o : zOx} {a : Nat} {sk mi : Int} (ha : a < 8) (h50 : 0 ≤ t 5 a 0) (h55 : t 5 a 0 < 5)  : zCn l G yX7_puts (.code yX7_puts cX7_puts 4 none) rX7_puts [.ref 16, .int (zI (((a : Nat) : Int))), .int (zI sk), .int (zI mi)] (zAll s t o) (zRv (fun M2 => M2 = zAll s (zOpP t a sk mi) o)) zN := by
  refine zStart hfl (by decide) (own := RX7) rfl [(0, .ref 16), (1, .int (zI (((a : Nat) : Int)))), (2, .int (zI sk)), (3, .int (zI mi))] (Nat.le_of_ble_eq_true rfl) rfl (fun k hkl hinit hk0 F => ?_)
  refine z_aload_n F 0 dX7_puts_0 rfl rfl ?_
  refine z_get F fl_X7_19 (zAll_16 s t o) rfl dX7_puts_1 ?_
  refine z_iconst (z := 5) F dX7_puts_4 (by decide) ?_
  refine z_iload_n F 1 dX7_puts_5 rfl rfl ?_
  refine z_imul F dX7_puts_6 ?_
  refine z_aload_n F 0 dX7_puts_7 rfl rfl ?_
  refine z_get F fl_X7_25 (zAll_16 s t o) rfl dX7_puts_8 ?_
  refine z_iload_n F 1 dX7_puts_11 rfl rfl ?_
  refine z_iald F (zAll_22 s t o) (by omega) (by omega) (by decide) dX7_puts_12 ?_
  refine z_ti (y := t 5 a 0) (by rw [Int.toNat_natCast]) ?_
  refine z_iadd F dX7_puts_13 ?_
  refine z_iload_n F 2 dX7_puts_14 rfl rfl ?_
  refine z_iast F (zAll_20 s t o) (by omega) (by omega) (by decide) dX7_puts_15 ?_
  have hm_1_s := zu_s (zAll s t o) 20 (zAi 0 40 (zup (fun j => t 6 (j / 5) (j % 5)) ((5 * (((a : Nat) : Int))) + (t 5 a 0)).toNat sk))
  refine z_M (M' := (zAll s (zsu t 6 a (t 5 a 0).toNat sk) o)) (zMA_20 (a := a) (b := (t 5 a 0).toNat) (by omega) (by omega)) ?_
  refine z_aload_n F 0 dX7_puts_16 rfl rfl ?_
  refine z_get F fl_X7_22 (zAll_16 s (zsu t 6 a (t 5 a 0).toNat sk) o) rfl dX7_puts_17 ?_
  refine z_iconst (z := 5) F dX7_puts_20 (by decide) ?_
  refine z_iload_n F 1 dX7_puts_21 rfl rfl ?_
  refine z_imul F dX7_puts_22 ?_
  refine z_aload_n F 0 dX7_puts_23 rfl rfl ?_
  refine z_get F fl_X7_25 (zAll_16 s (zsu t 6 a (t 5 a 0).toNat sk) o) rfl dX7_puts_24 ?_
  refine z_iload_n F 1 dX7_puts_27 rfl rfl ?_
  refine z_iald F (zAll_22 s (zsu t 6 a (t 5 a 0).toNat sk) o) (by omega) (by omega) (by decide) dX7_puts_28 ?_
  refine z_ti (y := t 5 a 0) (by rw [Int.toNat_natCast]; rfl) ?_
  refine z_iadd F dX7_puts_29 ?_
  refine z_iload_n F 3 dX7_puts_30 rfl rfl ?_
  refine z_iast F (zAll_21 s (zsu t 6 a (t 5 a 0).toNat sk) o) (by omega) (by omega) (by decide) dX7_puts_31 ?_
  have hm_2_s := zu_s (zAll s (zsu t 6 a (t 5 a 0).toNat sk) o) 21 (zAi 0 40 (zup (fun j => (zsu t 6 a (t 5 a 0).toNat sk) 7 (j / 5) (j % 5)) ((5 * (((a : Nat) : Int))) + (t 5 a 0)).toNat mi))
  refine z_M (M' := (zAll s (zsu (zsu t 6 a (t 5 a 0).toNat sk) 7 a (t 5 a 0).toNat mi) o)) (zMA_21 (a := a) (b := (t 5 a 0).toNat) (by omega) (by omega)) ?_
  refine z_aload_n F 0 dX7_puts_32 rfl rfl ?_
  refine z_get F fl_X7_25 (zAll_16 s (zsu (zsu t 6 a (t 5 a 0).toNat sk) 7 a (t 5 a 0).toNat mi) o) rfl dX7_puts_33 ?_
  refine z_iload_n F 1 dX7_puts_36 rfl rfl ?_
  refine z_dup2 F dX7_puts_37 rfl rfl ?_
  refine z_iald F (zAll_22 s (zsu (zsu t 6 a (t 5 a 0).toNat sk) 7 a (t 5 a 0).toNat mi) o) (by omega) (by omega) (by decide) dX7_puts_38 ?_
  refine z_ti (y := t 5 a 0) (by rw [Int.toNat_natCast]; rfl) ?_
  refine z_iconst (z := 1) F dX7_puts_39 (by decide) ?_
  refine z_iadd F dX7_puts_40 ?_
  refine z_iast F (zAll_22 s (zsu (zsu t 6 a (t 5 a 0).toNat sk) 7 a (t 5 a 0).toNat mi) o) (by omega) (by omega) (by decide) dX7_puts_41 ?_
  have hm_3_s := zu_s (zAll s (zsu (zsu t 6 a (t 5 a 0).toNat sk) 7 a (t 5 a 0).toNat mi) o) 22 (zAi 0 8 (zup (fun j => (zsu (zsu t 6 a (t 5 a 0).toNat sk) 7 a (t 5 a 0).toNat mi) 5 j 0) (((a : Nat) : Int)).toNat ((t 5 a 0) + 1)))
  refine z_M (M' := (zAll s (zOpP t a sk mi) o)) (by rw [zMA_22, Int.toNat_natCast]; rfl) ?_
  exact z_retv F rfl (by first | decide | assumption | omega) (by first | decide | assumption | omega) dX7_puts_42 ⟨rfl, rfl⟩

