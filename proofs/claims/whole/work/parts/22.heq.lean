/-! ===== the lists get one more; a heap written to is the heap of the next state ===== -/
theorem zAll_eq {s' s t : zS} {o : zOx} {M : zM} (hc : ∀ kd i, kd < 16 ∧ kd ≠ 5 → M (64 * i + kd) = zCls s' kd i) (ho : ∀ q, q % 64 = 5 ∨ 16 ≤ q % 64 → M q = zAll s t o q) : M = zAll s' t o := by
  funext q
  by_cases h5 : q % 64 = 5 ∨ 16 ≤ q % 64
  · rw [ho q h5]
    simp only [zAll]
    by_cases e : q % 64 = 5
    · rw [if_pos e, if_pos e]
    · rw [if_neg e, if_neg e, if_neg (by omega), if_neg (by omega)]
  · have h1 := hc (q % 64) (q / 64) (by omega)
    rw [show 64 * (q / 64) + q % 64 = q by omega] at h1
    rw [h1]
    simp only [zAll]
    rw [if_neg (by omega), if_pos (by omega)]
theorem zKinds {P : Nat → Prop} (h : P 0 ∧ P 1 ∧ P 2 ∧ P 3 ∧ P 4 ∧ P 6 ∧ P 7 ∧ P 8 ∧ P 9 ∧ P 10 ∧ P 11 ∧ P 12 ∧ P 13 ∧ P 14 ∧ P 15) : ∀ kd, kd < 16 ∧ kd ≠ 5 → P kd := fun kd hk => by
  obtain ⟨h0, h1, h2, h3, h4, h6, h7, h8, h9, h10, h11, h12, h13, h14, h15⟩ := h
  rcases (show kd = 0 ∨ kd = 1 ∨ kd = 2 ∨ kd = 3 ∨ kd = 4 ∨ kd = 6 ∨ kd = 7 ∨ kd = 8 ∨ kd = 9 ∨ kd = 10 ∨ kd = 11 ∨ kd = 12 ∨ kd = 13 ∨ kd = 14 ∨ kd = 15 by omega) with e | e | e | e | e | e | e | e | e | e | e | e | e | e | e <;> subst e <;> assumption
theorem c_addM {l : Launch} (hfl : l.stackTraces = false) (G : zG) {s t : zS} {o : zOx} (hc : zC1 s) {es : List Value} (M : zM) (e1 : M 1 = zAll s t o 1) (e2 : M 2 = zAll s t o 2) (hn : s 0 0 0 < 5) (he : M (64 * (s 0 0 0).toNat + 9) = some (zOb 2 es)) : zCn l G yJx4a65c_add_9ea2d (.code yJx4a65c_add_9ea2d cJx4a65c_add_9ea2d 2 (some .boolean)) rJx4a65c_add_9ea2d [.ref 1, .ref (64 * (s 0 0 0).toNat + 9)] M (zRi (fun xr M2 => xr = 1 ∧ M2 = zu (zu M 2 (zAr 4 10 (va_up (fun j => if (j : Int) < s 0 0 0 then some (64 * j + 9) else none) (s 0 0 0).toNat (some (64 * (s 0 0 0).toNat + 9))))) 1 (zOb 0 [.int (zI (s 0 0 0 + 1)), .ref 2, .int (zI (s 0 0 0 + 1))]))) zN := by
  have hn0 := hc.1
  have hn4 := hc.2.1
  have hn14 := hc.2.2.2.1
  have hn18 := hc.2.2.2.2.1
  by_cases h : s 0 0 0 = 0
  · have ed : zDat s 0 = 63 := if_pos h
    have h0 : M 1 = some (zOb 0 [.int (zI 0), .ref 63, .int (zI 0)]) := by rw [e1, zAll_1, ed]; rw [h]; rfl
    have h2 : M 2 = none := by rw [e2]; exact (zAll_c (kd := 2) (i := 0) (by decide)).trans (if_neg (fun h9 => by omega))
    have key := c_addB hfl G M h0 h2 (by decide) (te := 64 * (s 0 0 0).toNat + 9) (by omega) he rfl (by decide +kernel)
    have ef : va_up (fun _ => none) 0 (some (64 * (s 0 0 0).toNat + 9)) = va_up (fun j => if (j : Int) < s 0 0 0 then some (64 * j + 9) else none) (s 0 0 0).toNat (some (64 * (s 0 0 0).toNat + 9)) := funext fun j => by
      simp only [va_up]
      rw [show (s 0 0 0).toNat = 0 by omega, if_neg (show ¬ (j : Int) < s 0 0 0 by omega)]
    rw [ef] at key
    rw [show s 0 0 0 + 1 = 0 + 1 by omega, show s 0 0 0 + 1 = 1 by omega]
    exact key
  · have hd := zDat_m (s := s) (t := t) (o := o) (show 0 < s 0 0 0 by omega)
    exact c_addA hfl G M (e1.trans hd.1) (e2.trans hd.2) (by omega) (by omega) (by decide) (by omega) he rfl (by decide +kernel)
theorem c_addS {l : Launch} (hfl : l.stackTraces = false) (G : zG) {s t : zS} {o : zOx} (hc : zC1 s) {es : List Value} (M : zM) (e1 : M 65 = zAll s t o 65) (e2 : M 66 = zAll s t o 66) (hn : s 4 0 0 < 8) (he : M (64 * (s 4 0 0).toNat + 10) = some (zOb 5 es)) : zCn l G yJx4a65c_add_9ea2d (.code yJx4a65c_add_9ea2d cJx4a65c_add_9ea2d 2 (some .boolean)) rJx4a65c_add_9ea2d [.ref 65, .ref (64 * (s 4 0 0).toNat + 10)] M (zRi (fun xr M2 => xr = 1 ∧ M2 = zu (zu M 66 (zAr 4 10 (va_up (fun j => if (j : Int) < s 4 0 0 then some (64 * j + 10) else none) (s 4 0 0).toNat (some (64 * (s 4 0 0).toNat + 10))))) 65 (zOb 0 [.int (zI (s 4 0 0 + 1)), .ref 66, .int (zI (s 4 0 0 + 1))]))) zN := by
  have hn0 := hc.1
  have hn4 := hc.2.1
  have hn14 := hc.2.2.2.1
  have hn18 := hc.2.2.2.2.1
  by_cases h : s 4 0 0 = 0
  · have ed : zDat s 1 = 63 := if_pos h
    have h0 : M 65 = some (zOb 0 [.int (zI 0), .ref 63, .int (zI 0)]) := by rw [e1, zAll_65, ed]; rw [h]; rfl
    have h2 : M 66 = none := by rw [e2]; exact (zAll_c (kd := 2) (i := 1) (by decide)).trans (if_neg (fun h9 => by omega))
    have key := c_addB hfl G M h0 h2 (by decide) (te := 64 * (s 4 0 0).toNat + 10) (by omega) he rfl (by decide +kernel)
    have ef : va_up (fun _ => none) 0 (some (64 * (s 4 0 0).toNat + 10)) = va_up (fun j => if (j : Int) < s 4 0 0 then some (64 * j + 10) else none) (s 4 0 0).toNat (some (64 * (s 4 0 0).toNat + 10)) := funext fun j => by
      simp only [va_up]
      rw [show (s 4 0 0).toNat = 0 by omega, if_neg (show ¬ (j : Int) < s 4 0 0 by omega)]
    rw [ef] at key
    rw [show s 4 0 0 + 1 = 0 + 1 by omega, show s 4 0 0 + 1 = 1 by omega]
    exact key
  · have hd := zDat_s (s := s) (t := t) (o := o) (show 0 < s 4 0 0 by omega)
    exact c_addA hfl G M (e1.trans hd.1) (e2.trans hd.2) (by omega) (by omega) (by decide) (by omega) he rfl (by decide +kernel)
theorem c_addQ {l : Launch} (hfl : l.stackTraces = false) (G : zG) {s t : zS} {o : zOx} (hc : zC1 s) {es : List Value} (M : zM) (e1 : M 193 = zAll s t o 193) (e2 : M 194 = zAll s t o 194) (hn : s 14 0 0 < 6) (he : M (64 * (s 18 0 0).toNat + 15) = some (zOb 4 es)) : zCn l G yJx4a65c_add_9ea2d (.code yJx4a65c_add_9ea2d cJx4a65c_add_9ea2d 2 (some .boolean)) rJx4a65c_add_9ea2d [.ref 193, .ref (64 * (s 18 0 0).toNat + 15)] M (zRi (fun xr M2 => xr = 1 ∧ M2 = zu (zu M 194 (zAr 4 10 (va_up (fun j => if (j : Int) < s 14 0 0 then some (64 * (s 17 j 0).toNat + 15) else none) (s 14 0 0).toNat (some (64 * (s 18 0 0).toNat + 15))))) 193 (zOb 0 [.int (zI (2 * s 18 0 0 - s 14 0 0 + 1)), .ref 194, .int (zI (s 14 0 0 + 1))]))) zN := by
  have hn0 := hc.1
  have hn4 := hc.2.1
  have hn14 := hc.2.2.2.1
  have hn18 := hc.2.2.2.2.1
  by_cases h : s 18 0 0 = 0
  · have ed : zDat s 3 = 63 := if_pos h
    have h14 : s 14 0 0 = 0 := by have := hc.2.2.2.2.1; have := hc.2.2.2.1; omega
    have h0 : M 193 = some (zOb 0 [.int (zI 0), .ref 63, .int (zI 0)]) := by rw [e1, zAll_193, ed]; rw [h, h14]; rfl
    have h2 : M 194 = none := by rw [e2]; exact (zAll_c (kd := 2) (i := 3) (by decide)).trans (if_neg (fun h9 => by omega))
    have key := c_addB hfl G M h0 h2 (by decide) (te := 64 * (s 18 0 0).toNat + 15) (by omega) he rfl (by decide +kernel)
    have ef : va_up (fun _ => none) 0 (some (64 * (s 18 0 0).toNat + 15)) = va_up (fun j => if (j : Int) < s 14 0 0 then some (64 * (s 17 j 0).toNat + 15) else none) (s 14 0 0).toNat (some (64 * (s 18 0 0).toNat + 15)) := funext fun j => by
      simp only [va_up]
      rw [show (s 14 0 0).toNat = 0 by omega, if_neg (show ¬ (j : Int) < s 14 0 0 by omega)]
    rw [ef] at key
    rw [show 2 * s 18 0 0 - s 14 0 0 + 1 = 0 + 1 by omega, show s 14 0 0 + 1 = 1 by omega]
    exact key
  · have hd := zDat_q (s := s) (t := t) (o := o) (show 0 < s 18 0 0 by omega)
    exact c_addA hfl G M (e1.trans hd.1) (e2.trans hd.2) (by omega) (by omega) (by decide) (by omega) he rfl (by decide +kernel)
theorem zVer_up {n : Int} (h0 : 0 < n) (h : n < 30) : (zVer (n + 1) = zVer n ∧ n < zCap (zVer n)) ∨ ((n = zCap (zVer n) ∧ (zCap (zVer n) = 10 ∨ zCap (zVer n) = 15 ∨ zCap (zVer n) = 22)) ∧ zCap (zVer (n + 1)) = zCap (zVer n) + zCap (zVer n) / 2 ∧ n < zMin (zVer (n + 1)) ∧ zVer (n + 1) ≤ 3) := by
  by_cases h1 : n ≤ 10
  · by_cases h2 : n = 10
    · subst h2; right; decide
    · left
      rw [show zVer n = 0 from if_pos h1, show zVer (n + 1) = 0 from if_pos (by omega)]
      exact ⟨rfl, by show n < 10; omega⟩
  · by_cases h3 : n ≤ 15
    · by_cases h2 : n = 15
      · subst h2; right; decide
      · left
        rw [show zVer n = 1 from (if_neg h1).trans (if_pos h3), show zVer (n + 1) = 1 from (if_neg (by omega)).trans (if_pos (by omega))]
        exact ⟨rfl, by show n < 15; omega⟩
    · by_cases h4 : n ≤ 22
      · by_cases h2 : n = 22
        · subst h2; right; decide
        · left
          rw [show zVer n = 2 from (if_neg h1).trans ((if_neg h3).trans (if_pos h4)), show zVer (n + 1) = 2 from (if_neg (by omega)).trans ((if_neg (by omega)).trans (if_pos (by omega)))]
          exact ⟨rfl, by show n < 22; omega⟩
      · left
        rw [show zVer n = 3 from (if_neg h1).trans ((if_neg h3).trans (if_neg h4)), show zVer (n + 1) = 3 from (if_neg (by omega)).trans ((if_neg (by omega)).trans (if_neg (by omega)))]
        exact ⟨rfl, by show n < 33; omega⟩
theorem c_addV {l : Launch} (hfl : l.stackTraces = false) (G : zG) {s t : zS} {o : zOx} (hc : zC1 s) {es : List Value} (M : zM) (e1 : M 129 = zAll s t o 129) (e2 : ∀ v, v ≤ 3 → M (256 * v + 130) = zAll s t o (256 * v + 130)) (e3 : ∀ j : Nat, (j : Int) < s 9 0 0 → ∃ fs, M (64 * j + 14) = some (zOb 6 fs)) (hn : s 9 0 0 < 30) (he : M (64 * (s 9 0 0).toNat + 14) = some (zOb 6 es)) : zCn l G yJx4a65c_add_9ea2d (.code yJx4a65c_add_9ea2d cJx4a65c_add_9ea2d 2 (some .boolean)) rJx4a65c_add_9ea2d [.ref 129, .ref (64 * (s 9 0 0).toNat + 14)] M (zRi (fun xr M2 => xr = 1 ∧ M2 = zu (zu M (256 * zVer (s 9 0 0 + 1) + 130) (zAr 4 (zCap (zVer (s 9 0 0 + 1))) (va_up (fun j => if (j : Int) < s 9 0 0 ∧ j < zCap (zVer (s 9 0 0 + 1)) then some (64 * j + 14) else none) (s 9 0 0).toNat (some (64 * (s 9 0 0).toNat + 14))))) 129 (zOb 0 [.int (zI (s 9 0 0 + 1)), .ref (256 * zVer (s 9 0 0 + 1) + 130), .int (zI (s 9 0 0 + 1))]))) zN := by
  have hn9 := hc.2.2.1
  by_cases h : s 9 0 0 = 0
  · have ed : zDat s 2 = 63 := if_pos h
    have h0 : M 129 = some (zOb 0 [.int (zI 0), .ref 63, .int (zI 0)]) := by rw [e1, zAll_129, ed, h]
    have h2 : M 130 = none := by rw [e2 0 (by decide)]; exact (zAll_c (kd := 2) (i := 2) (by decide)).trans (if_neg (fun h9 => by have h8 : (1 : Int) ≤ s 9 0 0 := h9.2; omega))
    have key := c_addB hfl G M h0 h2 (by decide) (te := 64 * (s 9 0 0).toNat + 14) (by omega) he rfl (by decide +kernel)
    have ev : zVer (s 9 0 0 + 1) = 0 := if_pos (by omega)
    have ef : va_up (fun _ => none) 0 (some (64 * (s 9 0 0).toNat + 14)) = va_up (fun j => if (j : Int) < s 9 0 0 ∧ j < zCap (zVer (s 9 0 0 + 1)) then some (64 * j + 14) else none) (s 9 0 0).toNat (some (64 * (s 9 0 0).toNat + 14)) := funext fun j => by
      simp only [va_up]
      rw [show (s 9 0 0).toNat = 0 by omega, if_neg (show ¬ ((j : Int) < s 9 0 0 ∧ j < zCap (zVer (s 9 0 0 + 1))) by omega)]
    rw [ef] at key
    rw [ev] at key ⊢
    rw [show s 9 0 0 + 1 = 1 by omega]
    exact key
  · have hd := zDat_v (s := s) (t := t) (o := o) (show 0 < s 9 0 0 by omega) (by omega)
    have hv4 : zVer (s 9 0 0) ≤ 3 := by have := zVer_4 (s 9 0 0); omega
    rcases zVer_up (n := s 9 0 0) (by omega) hn with ⟨ev, hlt⟩ | ⟨⟨hq1, hq2⟩, hcp, hmin, hv3⟩
    · rw [ev]
      exact c_addA hfl G M (e1.trans hd.1) ((e2 _ hv4).trans hd.2) (by omega) hlt (zVer_c (show 0 < s 9 0 0 by omega) (by omega)).2.2 (by omega) he rfl (by decide +kernel)
    · have h2 : M (256 * zVer (s 9 0 0 + 1) + 130) = none := by
        rw [e2 _ hv3, show 256 * zVer (s 9 0 0 + 1) + 130 = 64 * (4 * zVer (s 9 0 0 + 1) + 2) + 2 by omega]
        refine (zAll_c (kd := 2) (by decide)).trans ?_
        show (if (4 * zVer (s 9 0 0 + 1) + 2) % 4 = 0 then _ else if (4 * zVer (s 9 0 0 + 1) + 2) % 4 = 1 then _ else if (4 * zVer (s 9 0 0 + 1) + 2) % 4 = 2 then _ else _) = _
        rw [if_neg (by omega), if_neg (by omega), if_pos (by omega), show (4 * zVer (s 9 0 0 + 1) + 2) / 4 = zVer (s 9 0 0 + 1) by omega]
        exact if_neg (fun h9 => by have := h9.2; omega)
      have hel : ∀ j x, (fun j => if (j : Int) < s 9 0 0 ∧ j < zCap (zVer (s 9 0 0)) then some (64 * j + 14) else none) j = some x → ∃ fs, M x = some (zOb 6 fs) := fun j x hx => by
        by_cases h9 : (j : Int) < s 9 0 0 ∧ j < zCap (zVer (s 9 0 0))
        · have hx2 : some (64 * j + 14) = some x := (if_pos h9).symm.trans hx
          cases hx2
          exact e3 j h9.1
        · have hx2 : none = some x := (if_neg h9).symm.trans hx
          cases hx2
      have h0 := e1.trans hd.1
      rw [show zI (s 9 0 0) = zI ((zCap (zVer (s 9 0 0)) : Nat) : Int) by rw [← hq1]] at h0
      have key := c_addC hfl G M h0 ((e2 _ hv4).trans hd.2) h2 (by omega) (by omega) (by omega) (te := 64 * (s 9 0 0).toNat + 14) (by omega) he rfl (by decide +kernel) hel
      have ef : va_up (va_cpy (fun j => if (j : Int) < s 9 0 0 ∧ j < zCap (zVer (s 9 0 0)) then some (64 * j + 14) else none) (fun _ => none) 0 0 (zCap (zVer (s 9 0 0)))) (zCap (zVer (s 9 0 0))) (some (64 * (s 9 0 0).toNat + 14)) = va_up (fun j => if (j : Int) < s 9 0 0 ∧ j < zCap (zVer (s 9 0 0 + 1)) then some (64 * j + 14) else none) (s 9 0 0).toNat (some (64 * (s 9 0 0).toNat + 14)) := funext fun j => by
        simp only [va_up, va_cpy]
        rw [show (s 9 0 0).toNat = zCap (zVer (s 9 0 0)) by omega]
        by_cases h9 : j = zCap (zVer (s 9 0 0))
        · rw [if_pos h9, if_pos h9]
        · rw [if_neg h9, if_neg h9]
          by_cases h8 : j < zCap (zVer (s 9 0 0))
          · rw [if_pos (by omega), if_pos (by omega), if_pos (by omega)]
            congr 1
            omega
          · rw [if_neg (by omega), if_neg (by omega)]
      rw [ef, ← hcp, ← hq1] at key
      exact key
