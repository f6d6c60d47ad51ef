/-! ===== the lists get one more; a heap written to is the heap of the next state ===== -/
theorem zAll_eq {s' s t : zS} {o : zOx} {M : zM} (hc : ∀ kd i, kd < 16 ∧ kd ≠ 5 → M (64 * i + kd) = zCls s' kd i) (ho : ∀ q, q % 64 = 5 ∨ 16 ≤ q % 64 → M q = zAll s t o q) : M = zAll s' t o := by
  funext q
  by_cases h5 : q % 64 = 5 ∨ 16 ≤ q % 64
  · rw [ho q h5]
    simp only [zAll]
    by_cases e : q % 64 = 5
    · rw [if_pos e, if_pos e]
    · rw [if_neg e, if_neg e, if_neg (show ¬ q % 64 < 16 by omega), if_neg (show ¬ q % 64 < 16 by omega)]
  · have h1 := hc (q % 64) (q / 64) (by omega)
    rw [show 64 * (q / 64) + q % 64 = q by omega] at h1
    rw [h1]
    simp only [zAll]
    rw [if_neg (by omega), if_pos (by omega)]
theorem zKinds {P : Nat → Prop} (h : P 0 ∧ P 1 ∧ P 2 ∧ P 3 ∧ P 4 ∧ P 6 ∧ P 7 ∧ P 8 ∧ P 9 ∧ P 10 ∧ P 11 ∧ P 12 ∧ P 13 ∧ P 14 ∧ P 15) : ∀ kd, kd < 16 ∧ kd ≠ 5 → P kd := fun kd hk => by
  obtain ⟨h0, h1, h2, h3, h4, h6, h7, h8, h9, h10, h11, h12, h13, h14, h15⟩ := h
  rcases (show kd = 0 ∨ kd = 1 ∨ kd = 2 ∨ kd = 3 ∨ kd = 4 ∨ kd = 6 ∨ kd = 7 ∨ kd = 8 ∨ kd = 9 ∨ kd = 10 ∨ kd = 11 ∨ kd = 12 ∨ kd = 13 ∨ kd = 14 ∨ kd = 15 by omega) with e | e | e | e | e | e | e | e | e | e | e | e | e | e | e <;> subst e <;> assumption
theorem c_addM {l : Launch} (hfl : l.stackTraces = false) (G : zG) {s t : zS} {o : zOx} (hc : zC1 s) {es : List Value} (M : zM) (e1 : M 1 = zAll s t o 1) (e2 : M 2 = zAll s t o 2) (hn : s 0 0 0 < 5) (he : M (64 * (s 0 0 0).toNat + 9) = some (zOb 2 es)) : zCn l G yJx4a65c_add_9ea2d (.code yJx4a65c_add_9ea2d cJx4a65c_add_9ea2d 2 (some .boolean)) rJx4a65c_add_9ea2d [.ref 1, .ref (64 * (s 0 0 0).toNat + 9)] M (zRi (fun xr M2 => xr = 1 ∧ M2 = zu (zu M 2 (zAr 4 10 (va_up (fun j => if (j : Int) < s 0 0 0 then some (64 * j + 9) else none) (s 0 0 0).toNat (some (64 * (s 0 0 0).toNat + 9))))) 1 (zOb 0 [.int (zI (s 0 0 0 + 1)), .ref 2, .int (zI (s 0 0 0 + 1))]))) zN := by
  have hn0 := hc.1
  have hn4 := hc.2.1
  have hn14 := hc.2.2.2.1
  have hn18 := hc.2.2.2.2.1
  by_cases h : s 0 0 0 = 0
  · have ed : zDat s 0 = 63 := if_pos h
    have h0 : M 1 = some (zOb 0 [.int (zI 0), .ref 63, .int (zI 0)]) := by rw [e1, zAll_1, ed]; rw [h]
    have h2 : M 2 = none := by rw [e2]; exact (zAll_c (kd := 2) (i := 0) (by decide)).trans (if_neg (fun h9 => by omega))
    have key := c_addB hfl G M h0 h2 (by decide) (te := 64 * (s 0 0 0).toNat + 9) (by omega) he rfl (by decide +kernel)
    have ef : va_up (fun _ => none) 0 (some (64 * (s 0 0 0).toNat + 9)) = va_up (fun j => if (j : Int) < s 0 0 0 then some (64 * j + 9) else none) (s 0 0 0).toNat (some (64 * (s 0 0 0).toNat + 9)) := funext fun j => by
      simp only [va_up]
      rw [show (s 0 0 0).toNat = 0 by omega, if_neg (show ¬ (j : Int) < s 0 0 0 by omega)]
    rw [ef] at key
    rw [show s 0 0 0 + 1 = 0 + 1 by omega]
    exact key
  · have hd := zDat_m (s := s) (t := t) (o := o) (show 0 < s 0 0 0 by omega)
    exact c_addA hfl G M (e1.trans hd.1) (e2.trans hd.2) (by omega) (by omega) (by decide) (by omega) he rfl (by decide +kernel)
theorem c_addS {l : Launch} (hfl : l.stackTraces = false) (G : zG) {s t : zS} {o : zOx} (hc : zC1 s) {es : List Value} (M : zM) (e1 : M 65 = zAll s t o 65) (e2 : M 66 = zAll s t o 66) (hn : s 4 0 0 < 8) (he : M (64 * (s 4 0 0).toNat + 10) = some (zOb 5 es)) : zCn l G yJx4a65c_add_9ea2d (.code yJx4a65c_add_9ea2d cJx4a65c_add_9ea2d 2 (some .boolean)) rJx4a65c_add_9ea2d [.ref 65, .ref (64 * (s 4 0 0).toNat + 10)] M (zRi (fun xr M2 => xr = 1 ∧ M2 = zu (zu M 66 (zAr 4 10 (va_up (fun j => if (j : Int) < s 4 0 0 then some (64 * j + 10) else none) (s 4 0 0).toNat (some (64 * (s 4 0 0).toNat + 10))))) 65 (zOb 0 [.int (zI (s 4 0 0 + 1)), .ref 66, .int (zI (s 4 0 0 + 1))]))) zN := by
  have hn0 := hc.1
  have hn4 := hc.2.1
  have hn14 := hc.2.2.2.1
  have hn18 := hc.2.2.2.2.1
  by_cases h : s 4 0 0 = 0
  · have ed : zDat s 1 = 63 := if_pos h
    have h0 : M 65 = some (zOb 0 [.int (zI 0), .ref 63, .int (zI 0)]) := by rw [e1, zAll_65, ed]; rw [h]
    have h2 : M 66 = none := by rw [e2]; exact (zAll_c (kd := 2) (i := 1) (by decide)).trans (if_neg (fun h9 => by omega))
    have key := c_addB hfl G M h0 h2 (by decide) (te := 64 * (s 4 0 0).toNat + 10) (by omega) he rfl (by decide +kernel)
    have ef : va_up (fun _ => none) 0 (some (64 * (s 4 0 0).toNat + 10)) = va_up (fun j => if (j : Int) < s 4 0 0 then some (64 * j + 10) else none) (s 4 0 0).toNat (some (64 * (s 4 0 0).toNat + 10)) := funext fun j => by
      simp only [va_up]
      rw [show (s 4 0 0).toNat = 0 by omega, if_neg (show ¬ (j : Int) < s 4 0 0 by omega)]
    rw [ef] at key
    rw [show s 4 0 0 + 1 = 0 + 1 by omega]
    exact key
  · have hd := zDat_s (s := s) (t := t) (o := o) (show 0 < s 4 0 0 by omega)
    exact c_addA hfl G M (e1.trans hd.1) (e2.trans hd.2) (by omega) (by omega) (by decide) (by omega) he rfl (by decide +kernel)
theorem c_addQ {l : Launch} (hfl : l.stackTraces = false) (G : zG) {s t : zS} {o : zOx} (hc : zC1 s) {es : List Value} (M : zM) (e1 : M 193 = zAll s t o 193) (e2 : M 194 = zAll s t o 194) (hn : s 14 0 0 < 6) (he : M (64 * (s 18 0 0).toNat + 15) = some (zOb 4 es)) : zCn l G yJx4a65c_add_9ea2d (.code yJx4a65c_add_9ea2d cJx4a65c_add_9ea2d 2 (some .boolean)) rJx4a65c_add_9ea2d [.ref 193, .ref (64 * (s 18 0 0).toNat + 15)] M (zRi (fun xr M2 => xr = 1 ∧ M2 = zu (zu M 194 (zAr 4 10 (va_up (fun j => if (j : Int) < s 14 0 0 then some (64 * (s 17 j 0).toNat + 15) else none) (s 14 0 0).toNat (some (64 * (s 18 0 0).toNat + 15))))) 193 (zOb 0 [.int (zI (2 * s 18 0 0 - s 14 0 0 + 1)), .ref 194, .int (zI (s 14 0 0 + 1))]))) zN := by
  have hn0 := hc.1
  have hn4 := hc.2.1
  have hn14 := hc.2.2.2.1
  have hn18 := hc.2.2.2.2.1
  by_cases h : s 18 0 0 = 0
  · have ed : zDat s 3 = 63 := if_pos h
    have h14 : s 14 0 0 = 0 := by have := hc.2.2.2.2.1; have := hc.2.2.2.1; omega
    have h0 : M 193 = some (zOb 0 [.int (zI 0), .ref 63, .int (zI 0)]) := by rw [e1, zAll_193, ed]; rw [h, h14]; rfl
    have h2 : M 194 = none := by rw [e2]; exact (zAll_c (kd := 2) (i := 3) (by decide)).trans (if_neg (fun h9 => by omega))
    have key := c_addB hfl G M h0 h2 (by decide) (te := 64 * (s 18 0 0).toNat + 15) (by omega) he rfl (by decide +kernel)
    have ef : va_up (fun _ => none) 0 (some (64 * (s 18 0 0).toNat + 15)) = va_up (fun j => if (j : Int) < s 14 0 0 then some (64 * (s 17 j 0).toNat + 15) else none) (s 14 0 0).toNat (some (64 * (s 18 0 0).toNat + 15)) := funext fun j => by
      simp only [va_up]
      rw [show (s 14 0 0).toNat = 0 by omega, if_neg (show ¬ (j : Int) < s 14 0 0 by omega)]
    rw [ef] at key
    rw [show 2 * s 18 0 0 - s 14 0 0 + 1 = 0 + 1 by omega, show s 14 0 0 + 1 = 1 by omega]
    exact key
  · have hd := zDat_q (s := s) (t := t) (o := o) (show 0 < s 18 0 0 by omega)
    exact c_addA hfl G M (e1.trans hd.1) (e2.trans hd.2) (by omega) (by omega) (by decide) (by omega) he rfl (by decide +kernel)
theorem zVer_up {n : Int} (h0 : 0 < n) (h : n < 30) : (zVer (n + 1) = zVer n ∧ n < zCap (zVer n)) ∨ ((n = zCap (zVer n) ∧ (zCap (zVer n) = 10 ∨ zCap (zVer n) = 15 ∨ zCap (zVer n) = 22)) ∧ zCap (zVer (n + 1)) = zCap (zVer n) + zCap (zVer n) / 2 ∧ n < zMin (zVer (n + 1)) ∧ zVer (n + 1) ≤ 3) := by
  by_cases h1 : n ≤ 10
  · by_cases h2 : n = 10
    · subst h2; right; decide
    · left
      rw [show zVer n = 0 from if_pos h1, show zVer (n + 1) = 0 from if_pos (by omega)]
      exact ⟨rfl, by show n < 10; omega⟩
  · by_cases h3 : n ≤ 15
    · by_cases h2 : n = 15
      · subst h2; right; decide
      · left
        rw [show zVer n = 1 from (if_neg h1).trans (if_pos h3), show zVer (n + 1) = 1 from (if_neg (by omega)).trans (if_pos (by omega))]
        exact ⟨rfl, by show n < 15; omega⟩
    · by_cases h4 : n ≤ 22
      · by_cases h2 : n = 22
        · subst h2; right; decide
        · left
          rw [show zVer n = 2 from (if_neg h1).trans ((if_neg h3).trans (if_pos h4)), show zVer (n + 1) = 2 from (if_neg (by omega)).trans ((if_neg (by omega)).trans (if_pos (by omega)))]
          exact ⟨rfl, by show n < 22; omega⟩
      · left
        rw [show zVer n = 3 from (if_neg h1).trans ((if_neg h3).trans (if_neg h4)), show zVer (n + 1) = 3 from (if_neg (by omega)).trans ((if_neg (by omega)).trans (if_neg (by omega)))]
        exact ⟨rfl, by show n < 33; omega⟩
theorem c_addV {l : Launch} (hfl : l.stackTraces = false) (G : zG) {s t : zS} {o : zOx} (hc : zC1 s) {es : List Value} (M : zM) (e1 : M 129 = zAll s t o 129) (e2 : ∀ v, v ≤ 3 → M (256 * v + 130) = zAll s t o (256 * v + 130)) (e3 : ∀ j : Nat, (j : Int) < s 9 0 0 → ∃ fs, M (64 * j + 14) = some (zOb 6 fs)) (hn : s 9 0 0 < 30) (he : M (64 * (s 9 0 0).toNat + 14) = some (zOb 6 es)) : zCn l G yJx4a65c_add_9ea2d (.code yJx4a65c_add_9ea2d cJx4a65c_add_9ea2d 2 (some .boolean)) rJx4a65c_add_9ea2d [.ref 129, .ref (64 * (s 9 0 0).toNat + 14)] M (zRi (fun xr M2 => xr = 1 ∧ M2 = zu (zu M (256 * zVer (s 9 0 0 + 1) + 130) (zAr 4 (zCap (zVer (s 9 0 0 + 1))) (va_up (fun j => if (j : Int) < s 9 0 0 ∧ j < zCap (zVer (s 9 0 0 + 1)) then some (64 * j + 14) else none) (s 9 0 0).toNat (some (64 * (s 9 0 0).toNat + 14))))) 129 (zOb 0 [.int (zI (s 9 0 0 + 1)), .ref (256 * zVer (s 9 0 0 + 1) + 130), .int (zI (s 9 0 0 + 1))]))) zN := by
  have hn9 := hc.2.2.1
  by_cases h : s 9 0 0 = 0
  · have ed : zDat s 2 = 63 := if_pos h
    have h0 : M 129 = some (zOb 0 [.int (zI 0), .ref 63, .int (zI 0)]) := by rw [e1, zAll_129, ed, h]
    have h2 : M 130 = none := by rw [e2 0 (by decide)]; exact (zAll_c (kd := 2) (i := 2) (by decide)).trans (if_neg (fun h9 => by have h8 : (1 : Int) ≤ s 9 0 0 := h9.2; omega))
    have key := c_addB hfl G M h0 h2 (by decide) (te := 64 * (s 9 0 0).toNat + 14) (by omega) he rfl (by decide +kernel)
    have ev : zVer (s 9 0 0 + 1) = 0 := if_pos (by omega)
    have ef : va_up (fun _ => none) 0 (some (64 * (s 9 0 0).toNat + 14)) = va_up (fun j => if (j : Int) < s 9 0 0 ∧ j < zCap (zVer (s 9 0 0 + 1)) then some (64 * j + 14) else none) (s 9 0 0).toNat (some (64 * (s 9 0 0).toNat + 14)) := funext fun j => by
      simp only [va_up]
      rw [show (s 9 0 0).toNat = 0 by omega, if_neg (show ¬ ((j : Int) < s 9 0 0 ∧ j < zCap (zVer (s 9 0 0 + 1))) by omega)]
    rw [ef] at key
    rw [ev] at key ⊢
    rw [show s 9 0 0 + 1 = 1 by omega]
    exact key
  · have hd := zDat_v (s := s) (t := t) (o := o) (show 0 < s 9 0 0 by omega) (by omega)
    have hv4 : zVer (s 9 0 0) ≤ 3 := by have := zVer_4 (s 9 0 0); omega
    rcases zVer_up (n := s 9 0 0) (by omega) hn with ⟨ev, hlt⟩ | ⟨⟨hq1, hq2⟩, hcp, hmin, hv3⟩
    · rw [ev]
      exact c_addA hfl G M (e1.trans hd.1) ((e2 _ hv4).trans hd.2) (by omega) hlt (zVer_c (show 0 < s 9 0 0 by omega) (by omega)).2.2 (by omega) he rfl (by decide +kernel)
    · have h2 : M (256 * zVer (s 9 0 0 + 1) + 130) = none := by
        rw [e2 _ hv3, show 256 * zVer (s 9 0 0 + 1) + 130 = 64 * (4 * zVer (s 9 0 0 + 1) + 2) + 2 by omega]
        refine (zAll_c (kd := 2) (by decide)).trans ?_
        show (if (4 * zVer (s 9 0 0 + 1) + 2) % 4 = 0 then _ else if (4 * zVer (s 9 0 0 + 1) + 2) % 4 = 1 then _ else if (4 * zVer (s 9 0 0 + 1) + 2) % 4 = 2 then _ else _) = _
        rw [if_neg (by omega), if_neg (by omega), if_pos (by omega), show (4 * zVer (s 9 0 0 + 1) + 2) / 4 = zVer (s 9 0 0 + 1) by omega]
        exact if_neg (fun h9 => by have := h9.2; omega)
      have hel : ∀ (j x : Nat), (fun j : Nat => if (j : Int) < s 9 0 0 ∧ j < zCap (zVer (s 9 0 0)) then some (64 * j + 14) else none) j = some x → ∃ fs, M x = some (zOb 6 fs) := fun j x hx => by
        by_cases h9 : (j : Int) < s 9 0 0 ∧ j < zCap (zVer (s 9 0 0))
        · have hx2 : some (64 * j + 14) = some x := (if_pos h9).symm.trans hx
          cases hx2
          exact e3 j h9.1
        · have hx2 : none = some x := (if_neg h9).symm.trans hx
          cases hx2
      have h0 := e1.trans hd.1
      rw [show zI (s 9 0 0) = zI ((zCap (zVer (s 9 0 0)) : Nat) : Int) by rw [← hq1]] at h0
      have key := c_addC hfl G M h0 ((e2 _ hv4).trans hd.2) h2 (by omega) (by omega) (by omega) (te := 64 * (s 9 0 0).toNat + 14) (by omega) he rfl (by decide +kernel) hel
      have ef : va_up (va_cpy (fun j => if (j : Int) < s 9 0 0 ∧ j < zCap (zVer (s 9 0 0)) then some (64 * j + 14) else none) (fun _ => none) 0 0 (zCap (zVer (s 9 0 0)))) (zCap (zVer (s 9 0 0))) (some (64 * (s 9 0 0).toNat + 14)) = va_up (fun j => if (j : Int) < s 9 0 0 ∧ j < zCap (zVer (s 9 0 0 + 1)) then some (64 * j + 14) else none) (s 9 0 0).toNat (some (64 * (s 9 0 0).toNat + 14)) := funext fun j => by
        simp only [va_up, va_cpy]
        rw [show (s 9 0 0).toNat = zCap (zVer (s 9 0 0)) by omega]
        by_cases h9 : j = zCap (zVer (s 9 0 0))
        · rw [if_pos h9, if_pos h9]
        · rw [if_neg h9, if_neg h9]
          by_cases h8 : j < zCap (zVer (s 9 0 0))
          · rw [if_pos (by omega), if_pos (by omega), if_pos (by omega)]
            congr 1
            omega
          · rw [if_neg (by omega), if_neg (by omega)]
      rw [ef, ← hcp, ← hq1] at key
      exact key
theorem zAskN_cg {s s' : zS} {a : Nat} (h : s 6 a = s' 6 a) : ∀ k, zAskN s a k = zAskN s' a k
  | 0 => rfl
  | k + 1 => by rw [zAskN, zAskN, zAskN_cg h k, h]
theorem zSvc_cg {s s' : zS} {a : Nat} (h5 : s 5 a 0 = s' 5 a 0) (h6 : s 6 a = s' 6 a) (h7 : s 7 a = s' 7 a) : zSc s a = zSc s' a ∧ (∀ k, zOff s a k = zOff s' a k) ∧ zLen s a = zLen s' a ∧ zWork s a = zWork s' a ∧ zAsk s a = zAsk s' a := by
  have e1 : zSc s a = zSc s' a := by unfold zSc; rw [h5]
  have e2 : ∀ k, zOff s a k = zOff s' a k := fun k => by unfold zOff; rw [h7]
  refine ⟨e1, e2, ?_, ?_, ?_⟩
  · unfold zLen; rw [e1, e2]
  · unfold zWork; rw [e1, h6, h7]
  · unfold zAsk; rw [e1, zAskN_cg h6]
theorem zCls10 {s s' : zS} {i : Nat} (h4 : (i : Int) < s 4 0 0 ↔ (i : Int) < s' 4 0 0) (h : (i : Int) < s 4 0 0 → s 5 i 0 = s' 5 i 0 ∧ s 6 i = s' 6 i ∧ s 7 i = s' 7 i ∧ s 8 i 0 = s' 8 i 0) : zCls s 10 i = zCls s' 10 i := by
  by_cases h9 : (i : Int) < s 4 0 0
  · obtain ⟨h5, h6, h7, h8⟩ := h h9
    obtain ⟨e1, e2, e3, e4, e5⟩ := zSvc_cg h5 h6 h7
    refine (if_pos h9).trans (Eq.trans ?_ (if_pos (h4.mp h9)).symm)
    rw [h5, h8, e3, e4, e5]
  · exact (if_neg h9).trans (if_neg (fun h2 => h9 (h4.mpr h2))).symm
theorem zu_at {M : zM} {t q : Nat} {o : zO} (h : q = t) : zu M t o q = some o := if_pos h
theorem zif2 {c c' : Prop} [Decidable c] [Decidable c'] {x y : Option zO} (h : c ↔ c') (e : c → x = y) : (if c then x else none) = (if c' then y else none) := by
  by_cases hc : c
  · rw [if_pos hc, if_pos (h.mp hc)]; exact e hc
  · rw [if_neg hc, if_neg (fun h2 => hc (h.mpr h2))]
theorem some_congr {x y : zO} (h : x = y) : some x = some y := by rw [h]
theorem zH_hire {s t : zS} {o : zOx} {a b c : Int} (h0 : 0 ≤ s 0 0 0) (hd : s 21 ((s 0 0 0).toNat + 4) = fun _ => -1) : (zu (zu (zu (zu (zu (zu (zAll s t o) (64 * (s 0 0 0).toNat + 9) (zOb 2 [.int (zI a), .int (zI b), .int (zI c), .ref (64 * ((s 0 0 0).toNat + 4) + 6)])) (64 * ((s 0 0 0).toNat + 4) + 6) (zOb 1 [.ref (64 * ((s 0 0 0).toNat + 4) + 7), .ref (64 * ((s 0 0 0).toNat + 4) + 8)])) (64 * ((s 0 0 0).toNat + 4) + 7) (zAi 0 600 (fun _ => -1))) (64 * ((s 0 0 0).toNat + 4) + 8) (zAi 0 601 (zTk (fun _ => -1)))) (2) (zAr 4 10 (va_up (fun j => if (j : Int) < s 0 0 0 then some (64 * j + 9) else none) (s 0 0 0).toNat (some (64 * (s 0 0 0).toNat + 9))))) (1) (zOb 0 [.int (zI (s 0 0 0 + 1)), .ref 2, .int (zI (s 0 0 0 + 1))])) = zAll (zOpH s a b c) t o := by
  refine zAll_eq (s := s) (M := (zu (zu (zu (zu (zu (zu (zAll s t o) (64 * (s 0 0 0).toNat + 9) (zOb 2 [.int (zI a), .int (zI b), .int (zI c), .ref (64 * ((s 0 0 0).toNat + 4) + 6)])) (64 * ((s 0 0 0).toNat + 4) + 6) (zOb 1 [.ref (64 * ((s 0 0 0).toNat + 4) + 7), .ref (64 * ((s 0 0 0).toNat + 4) + 8)])) (64 * ((s 0 0 0).toNat + 4) + 7) (zAi 0 600 (fun _ => -1))) (64 * ((s 0 0 0).toNat + 4) + 8) (zAi 0 601 (zTk (fun _ => -1)))) (2) (zAr 4 10 (va_up (fun j => if (j : Int) < s 0 0 0 then some (64 * j + 9) else none) (s 0 0 0).toNat (some (64 * (s 0 0 0).toNat + 9))))) (1) (zOb 0 [.int (zI (s 0 0 0 + 1)), .ref 2, .int (zI (s 0 0 0 + 1))]))) (fun kd i hk => zKinds (P := fun kd => ∀ i, (zu (zu (zu (zu (zu (zu (zAll s t o) (64 * (s 0 0 0).toNat + 9) (zOb 2 [.int (zI a), .int (zI b), .int (zI c), .ref (64 * ((s 0 0 0).toNat + 4) + 6)])) (64 * ((s 0 0 0).toNat + 4) + 6) (zOb 1 [.ref (64 * ((s 0 0 0).toNat + 4) + 7), .ref (64 * ((s 0 0 0).toNat + 4) + 8)])) (64 * ((s 0 0 0).toNat + 4) + 7) (zAi 0 600 (fun _ => -1))) (64 * ((s 0 0 0).toNat + 4) + 8) (zAi 0 601 (zTk (fun _ => -1)))) (2) (zAr 4 10 (va_up (fun j => if (j : Int) < s 0 0 0 then some (64 * j + 9) else none) (s 0 0 0).toNat (some (64 * (s 0 0 0).toNat + 9))))) (1) (zOb 0 [.int (zI (s 0 0 0 + 1)), .ref 2, .int (zI (s 0 0 0 + 1))])) (64 * i + kd) = zCls (zOpH s a b c) kd i) ⟨?_, ?_, ?_, ?_, ?_, ?_, ?_, ?_, ?_, ?_, ?_, ?_, ?_, ?_, ?_⟩ kd hk i) (fun q hq => ?_)
  · intro i
    refine (zu_n (by omega)).trans ((zu_n (by omega)).trans ((zu_n (by omega)).trans ((zu_n (by omega)).trans ((zu_n (by omega)).trans ((zu_n (by omega)).trans ((zAll_c (by decide)).trans ?_))))))
    exact rfl
  · intro i
    by_cases e5 : i = 0
    · rw [e5]
      refine (zu_at (by omega)).trans ?_
      show _ = some (zOb 0 [.int (zI (s 0 0 0 + 1)), .ref (if s 0 0 0 + 1 = 0 then zE else 2), .int (zI (s 0 0 0 + 1))])
      rw [if_neg (by omega)]
    · skip
      refine (zu_n (by omega)).trans ((zu_n (by omega)).trans ((zu_n (by omega)).trans ((zu_n (by omega)).trans ((zu_n (by omega)).trans ((zu_n (by omega)).trans ((zAll_c (by decide)).trans ?_))))))
      show (if i = 0 then _ else _) = (if i = 0 then _ else _)
      rw [if_neg e5, if_neg e5]
      rfl
  · intro i
    by_cases e4 : i = 0
    · rw [e4]
      refine (zu_n (by omega)).trans ((zu_at (by omega)).trans ?_)
      refine Eq.symm ((if_pos ⟨rfl, (show 0 < s 0 0 0 + 1 by omega)⟩).trans (some_congr (congrArg (zAr 4 10) (funext fun j => ?_))))
      show (if (j : Int) < s 0 0 0 + 1 then some (64 * j + 9) else none) = _
      simp only [va_up]
      by_cases h9 : j = (s 0 0 0).toNat
      · rw [if_pos h9, if_pos (by omega), h9]
      · rw [if_neg h9]
        by_cases h8 : (j : Int) < s 0 0 0
        · rw [if_pos h8, if_pos (by omega)]
        · rw [if_neg h8, if_neg (by omega)]
    · skip
      refine (zu_n (by omega)).trans ((zu_n (by omega)).trans ((zu_n (by omega)).trans ((zu_n (by omega)).trans ((zu_n (by omega)).trans ((zu_n (by omega)).trans ((zAll_c (by decide)).trans ?_))))))
      have e9 : ∀ x : Option zO, (if i % 4 = 0 then (if i = 0 ∧ 0 < s 0 0 0 then some (zAr 4 10 (fun j => if (j : Int) < s 0 0 0 then some (64 * j + 9) else none)) else none) else x) = (if i % 4 = 0 then (if i = 0 ∧ 0 < s 0 0 0 + 1 then some (zAr 4 10 (fun j => if (j : Int) < s 0 0 0 + 1 then some (64 * j + 9) else none)) else none) else x) := fun x => by
        by_cases h : i % 4 = 0
        · rw [if_pos h, if_pos h, if_neg (fun h => e4 h.1), if_neg (fun h => e4 h.1)]
        · rw [if_neg h, if_neg h]
      exact e9 _
  · intro i
    refine (zu_n (by omega)).trans ((zu_n (by omega)).trans ((zu_n (by omega)).trans ((zu_n (by omega)).trans ((zu_n (by omega)).trans ((zu_n (by omega)).trans ((zAll_c (by decide)).trans ?_))))))
    exact rfl
  · intro i
    refine (zu_n (by omega)).trans ((zu_n (by omega)).trans ((zu_n (by omega)).trans ((zu_n (by omega)).trans ((zu_n (by omega)).trans ((zu_n (by omega)).trans ((zAll_c (by decide)).trans ?_))))))
    exact rfl
  · intro i
    by_cases e1 : i = (s 0 0 0).toNat + 4
    · rw [e1]
      refine (zu_n (by omega)).trans ((zu_n (by omega)).trans ((zu_n (by omega)).trans ((zu_n (by omega)).trans ((zu_at (by omega)).trans ?_))))
      exact (if_pos (show ((((s 0 0 0).toNat + 4 : Nat)) : Int) < 4 + (s 0 0 0 + 1) by omega)).symm
    · skip
      refine (zu_n (by omega)).trans ((zu_n (by omega)).trans ((zu_n (by omega)).trans ((zu_n (by omega)).trans ((zu_n (by omega)).trans ((zu_n (by omega)).trans ((zAll_c (by decide)).trans ?_))))))
      exact zif2 (show ((i : Nat) : Int) < 4 + s 0 0 0 ↔ ((i : Nat) : Int) < 4 + (s 0 0 0 + 1) by omega) (fun _ => rfl)
  · intro i
    by_cases e2 : i = (s 0 0 0).toNat + 4
    · rw [e2]
      refine (zu_n (by omega)).trans ((zu_n (by omega)).trans ((zu_n (by omega)).trans ((zu_at (by omega)).trans ?_)))
      refine Eq.symm ((if_pos (show ((((s 0 0 0).toNat + 4 : Nat)) : Int) < 4 + (s 0 0 0 + 1) by omega)).trans (some_congr ?_))
      show zAi 0 600 (s 21 ((s 0 0 0).toNat + 4)) = _
      rw [hd]
    · skip
      refine (zu_n (by omega)).trans ((zu_n (by omega)).trans ((zu_n (by omega)).trans ((zu_n (by omega)).trans ((zu_n (by omega)).trans ((zu_n (by omega)).trans ((zAll_c (by decide)).trans ?_))))))
      exact zif2 (show ((i : Nat) : Int) < 4 + s 0 0 0 ↔ ((i : Nat) : Int) < 4 + (s 0 0 0 + 1) by omega) (fun _ => rfl)
  · intro i
    by_cases e3 : i = (s 0 0 0).toNat + 4
    · rw [e3]
      refine (zu_n (by omega)).trans ((zu_n (by omega)).trans ((zu_at (by omega)).trans ?_))
      refine Eq.symm ((if_pos (show ((((s 0 0 0).toNat + 4 : Nat)) : Int) < 4 + (s 0 0 0 + 1) by omega)).trans (some_congr ?_))
      show zAi 0 601 (zTk (s 21 ((s 0 0 0).toNat + 4))) = _
      rw [hd]
    · skip
      refine (zu_n (by omega)).trans ((zu_n (by omega)).trans ((zu_n (by omega)).trans ((zu_n (by omega)).trans ((zu_n (by omega)).trans ((zu_n (by omega)).trans ((zAll_c (by decide)).trans ?_))))))
      exact zif2 (show ((i : Nat) : Int) < 4 + s 0 0 0 ↔ ((i : Nat) : Int) < 4 + (s 0 0 0 + 1) by omega) (fun _ => rfl)
  · intro i
    by_cases e0 : i = (s 0 0 0).toNat
    · rw [e0]
      refine (zu_n (by omega)).trans ((zu_n (by omega)).trans ((zu_n (by omega)).trans ((zu_n (by omega)).trans ((zu_n (by omega)).trans ((zu_at (by omega)).trans ?_)))))
      refine Eq.symm ((if_pos (show ((s 0 0 0).toNat : Int) < s 0 0 0 + 1 by omega)).trans (some_congr ?_))
      rw [show zOpH s a b c 1 (s 0 0 0).toNat 0 = a from if_pos ⟨rfl, rfl, rfl⟩, show zOpH s a b c 2 (s 0 0 0).toNat 0 = b from if_pos ⟨rfl, rfl, rfl⟩, show zOpH s a b c 3 (s 0 0 0).toNat 0 = c from if_pos ⟨rfl, rfl, rfl⟩]
    · skip
      refine (zu_n (by omega)).trans ((zu_n (by omega)).trans ((zu_n (by omega)).trans ((zu_n (by omega)).trans ((zu_n (by omega)).trans ((zu_n (by omega)).trans ((zAll_c (by decide)).trans ?_))))))
      refine zif2 (show ((i : Nat) : Int) < s 0 0 0 ↔ ((i : Nat) : Int) < s 0 0 0 + 1 by omega) (fun _ => ?_)
      rw [show zOpH s a b c 1 i 0 = s 1 i 0 from if_neg (fun h => e0 h.2.1), show zOpH s a b c 2 i 0 = s 2 i 0 from if_neg (fun h => e0 h.2.1), show zOpH s a b c 3 i 0 = s 3 i 0 from if_neg (fun h => e0 h.2.1)]
  · intro i
    refine (zu_n (by omega)).trans ((zu_n (by omega)).trans ((zu_n (by omega)).trans ((zu_n (by omega)).trans ((zu_n (by omega)).trans ((zu_n (by omega)).trans ((zAll_c (by decide)).trans ?_))))))
    exact zCls10 Iff.rfl (fun _ => ⟨rfl, rfl, rfl, rfl⟩)
  · intro i
    refine (zu_n (by omega)).trans ((zu_n (by omega)).trans ((zu_n (by omega)).trans ((zu_n (by omega)).trans ((zu_n (by omega)).trans ((zu_n (by omega)).trans ((zAll_c (by decide)).trans ?_))))))
    exact rfl
  · intro i
    refine (zu_n (by omega)).trans ((zu_n (by omega)).trans ((zu_n (by omega)).trans ((zu_n (by omega)).trans ((zu_n (by omega)).trans ((zu_n (by omega)).trans ((zAll_c (by decide)).trans ?_))))))
    exact rfl
  · intro i
    refine (zu_n (by omega)).trans ((zu_n (by omega)).trans ((zu_n (by omega)).trans ((zu_n (by omega)).trans ((zu_n (by omega)).trans ((zu_n (by omega)).trans ((zAll_c (by decide)).trans ?_))))))
    exact rfl
  · intro i
    refine (zu_n (by omega)).trans ((zu_n (by omega)).trans ((zu_n (by omega)).trans ((zu_n (by omega)).trans ((zu_n (by omega)).trans ((zu_n (by omega)).trans ((zAll_c (by decide)).trans ?_))))))
    exact rfl
  · intro i
    refine (zu_n (by omega)).trans ((zu_n (by omega)).trans ((zu_n (by omega)).trans ((zu_n (by omega)).trans ((zu_n (by omega)).trans ((zu_n (by omega)).trans ((zAll_c (by decide)).trans ?_))))))
    exact rfl
  · exact (zu_n (by omega)).trans ((zu_n (by omega)).trans ((zu_n (by omega)).trans ((zu_n (by omega)).trans ((zu_n (by omega)).trans ((zu_n (by omega)).trans (rfl))))))
theorem zif4_0 {i : Nat} {A A' B C D : Option zO} (e : ¬ i = 0) : (if i = 0 then A else if i = 1 then B else if i = 2 then C else if i = 3 then D else none) = (if i = 0 then A' else if i = 1 then B else if i = 2 then C else if i = 3 then D else none) := by rw [if_neg e, if_neg e]
theorem zif4_1 {i : Nat} {A B B' C D : Option zO} (e : ¬ i = 1) : (if i = 0 then A else if i = 1 then B else if i = 2 then C else if i = 3 then D else none) = (if i = 0 then A else if i = 1 then B' else if i = 2 then C else if i = 3 then D else none) := by rw [if_neg e, if_neg e]
theorem zif4_2 {i : Nat} {A B C C' D : Option zO} (e : ¬ i = 2) : (if i = 0 then A else if i = 1 then B else if i = 2 then C else if i = 3 then D else none) = (if i = 0 then A else if i = 1 then B else if i = 2 then C' else if i = 3 then D else none) := by rw [if_neg e, if_neg e]
theorem zif4_3 {i : Nat} {A B C D D' : Option zO} (e : ¬ i = 3) : (if i = 0 then A else if i = 1 then B else if i = 2 then C else if i = 3 then D else none) = (if i = 0 then A else if i = 1 then B else if i = 2 then C else if i = 3 then D' else none) := by rw [if_neg e, if_neg e]
theorem zifm {i : Nat} {A A' B B' C C' D D' : Option zO} (h0 : i % 4 = 0 → A = A') (h1 : i % 4 = 1 → B = B') (h2 : i % 4 = 2 → C = C') (h3 : i % 4 = 3 → D = D') : (if i % 4 = 0 then A else if i % 4 = 1 then B else if i % 4 = 2 then C else D) = (if i % 4 = 0 then A' else if i % 4 = 1 then B' else if i % 4 = 2 then C' else D') := by
  by_cases e0 : i % 4 = 0
  · rw [if_pos e0, if_pos e0]; exact h0 e0
  · rw [if_neg e0, if_neg e0]
    by_cases e1 : i % 4 = 1
    · rw [if_pos e1, if_pos e1]; exact h1 e1
    · rw [if_neg e1, if_neg e1]
      by_cases e2 : i % 4 = 2
      · rw [if_pos e2, if_pos e2]; exact h2 e2
      · rw [if_neg e2, if_neg e2]; exact h3 (by omega)
theorem zsm_sc {s : zS} {a : Nat} (h : s 5 a 0 = 0) : zSc s a = 0 := by unfold zSc; omega
theorem zWork_P {s : zS} {a : Nat} {k m : Int} (h : 0 ≤ s 5 a 0) : zWork (zOpP s a k m) a = if k = -1 then zWork s a else zWork s a + m := by
  show zsm (fun j => if zOpP s a k m 6 a j = -1 then 0 else zOpP s a k m 7 a j) (zSc (zOpP s a k m) a) = _
  rw [zSc_P h, zsm]
  have e1 : zsm (fun j => if zOpP s a k m 6 a j = -1 then 0 else zOpP s a k m 7 a j) (s 5 a 0).toNat = zWork s a := zsm_cong fun j hj => by
    rw [zP6, zP7, if_neg (show ¬ j = (s 5 a 0).toNat by omega), if_neg (show ¬ j = (s 5 a 0).toNat by omega)]
  rw [e1, zP6, zP7, if_pos rfl, if_pos rfl]
  by_cases e : k = -1
  · rw [if_pos e, if_pos e, Int.add_zero]
  · rw [if_neg e, if_neg e]
theorem zAskN_Pc {s : zS} {a : Nat} {k m : Int} : ∀ j, j ≤ (s 5 a 0).toNat → zAskN (zOpP s a k m) a j = zAskN s a j
  | 0, _ => rfl
  | j + 1, h => by
    rw [zAskN, zAskN, zAskN_Pc j (by omega), zP6, if_neg (show ¬ j = (s 5 a 0).toNat by omega)]
theorem zAsk_P {s : zS} {a : Nat} {k m : Int} (h : 0 ≤ s 5 a 0) : zAsk (zOpP s a k m) a = ((if k = -1 then zAskN s a (zSc s a) else zAskN s a (zSc s a) ||| 2 ^ k.toNat : Nat) : Int) := by
  unfold zAsk
  rw [zSc_P h, zAskN, zAskN_Pc _ (Nat.le_refl _), zP6, if_pos rfl]
  by_cases e : k = -1
  · rw [if_pos e, if_pos e, Nat.or_zero]
    rfl
  · rw [if_neg e, if_neg e]
    rfl
theorem zVer_o {n : Int} {w : Nat} (h0 : 0 ≤ n) (h : n < 30) (hw : w ≤ 3) (hne : w ≠ zVer (n + 1)) : (zMin w ≤ n ↔ zMin w ≤ n + 1) ∧ (zMin w ≤ n → (zCap w : Int) ≤ n) := by
  unfold zVer at hne
  rcases (show w = 0 ∨ w = 1 ∨ w = 2 ∨ w = 3 by omega) with rfl | rfl | rfl | rfl
  · show ((1 : Int) ≤ n ↔ 1 ≤ n + 1) ∧ (1 ≤ n → (10 : Int) ≤ n)
    by_cases h1 : n + 1 ≤ 10
    · rw [if_pos h1] at hne; exact absurd rfl hne
    · omega
  · show ((11 : Int) ≤ n ↔ 11 ≤ n + 1) ∧ (11 ≤ n → (15 : Int) ≤ n)
    by_cases h1 : n + 1 ≤ 10
    · omega
    · rw [if_neg h1] at hne
      by_cases h2 : n + 1 ≤ 15
      · rw [if_pos h2] at hne; exact absurd rfl hne
      · omega
  · show ((16 : Int) ≤ n ↔ 16 ≤ n + 1) ∧ (16 ≤ n → (22 : Int) ≤ n)
    by_cases h1 : n + 1 ≤ 15
    · omega
    · rw [if_neg (by omega), if_neg h1] at hne
      by_cases h2 : n + 1 ≤ 22
      · rw [if_pos h2] at hne; exact absurd rfl hne
      · omega
  · show ((23 : Int) ≤ n ↔ 23 ≤ n + 1) ∧ (23 ≤ n → (33 : Int) ≤ n)
    by_cases h1 : n + 1 ≤ 22
    · omega
    · rw [if_neg (by omega), if_neg (by omega), if_neg h1] at hne
      exact absurd rfl hne
theorem zH_new {s t : zS} {o : zOx} (h0 : 0 ≤ s 4 0 0) (h5 : s 5 (s 4 0 0).toNat 0 = 0) (h8 : s 8 (s 4 0 0).toNat 0 = 0) : (zu (zu (zu (zu (zu (zu (zAll s t o) (64 * (s 4 0 0).toNat + 10) (zOb 5 [.int (zI (s 4 0 0)), .ref (64 * (s 4 0 0).toNat + 11), .ref (64 * (s 4 0 0).toNat + 12), .ref (64 * (s 4 0 0).toNat + 13), .int (zI 0), .int (zI 0), .int (zI 0), .int (zI 0), .int (zI 0)])) (64 * (s 4 0 0).toNat + 11) (zAi 0 5 (fun _ => 0))) (64 * (s 4 0 0).toNat + 12) (zAi 0 5 (fun _ => 0))) (64 * (s 4 0 0).toNat + 13) (zAi 0 5 (fun _ => 0))) (66) (zAr 4 10 (va_up (fun j => if (j : Int) < s 4 0 0 then some (64 * j + 10) else none) (s 4 0 0).toNat (some (64 * (s 4 0 0).toNat + 10))))) (65) (zOb 0 [.int (zI (s 4 0 0 + 1)), .ref 66, .int (zI (s 4 0 0 + 1))])) = zAll (zOpN s) t o := by
  refine zAll_eq (s := s) (M := (zu (zu (zu (zu (zu (zu (zAll s t o) (64 * (s 4 0 0).toNat + 10) (zOb 5 [.int (zI (s 4 0 0)), .ref (64 * (s 4 0 0).toNat + 11), .ref (64 * (s 4 0 0).toNat + 12), .ref (64 * (s 4 0 0).toNat + 13), .int (zI 0), .int (zI 0), .int (zI 0), .int (zI 0), .int (zI 0)])) (64 * (s 4 0 0).toNat + 11) (zAi 0 5 (fun _ => 0))) (64 * (s 4 0 0).toNat + 12) (zAi 0 5 (fun _ => 0))) (64 * (s 4 0 0).toNat + 13) (zAi 0 5 (fun _ => 0))) (66) (zAr 4 10 (va_up (fun j => if (j : Int) < s 4 0 0 then some (64 * j + 10) else none) (s 4 0 0).toNat (some (64 * (s 4 0 0).toNat + 10))))) (65) (zOb 0 [.int (zI (s 4 0 0 + 1)), .ref 66, .int (zI (s 4 0 0 + 1))]))) (fun kd i hk => zKinds (P := fun kd => ∀ i, (zu (zu (zu (zu (zu (zu (zAll s t o) (64 * (s 4 0 0).toNat + 10) (zOb 5 [.int (zI (s 4 0 0)), .ref (64 * (s 4 0 0).toNat + 11), .ref (64 * (s 4 0 0).toNat + 12), .ref (64 * (s 4 0 0).toNat + 13), .int (zI 0), .int (zI 0), .int (zI 0), .int (zI 0), .int (zI 0)])) (64 * (s 4 0 0).toNat + 11) (zAi 0 5 (fun _ => 0))) (64 * (s 4 0 0).toNat + 12) (zAi 0 5 (fun _ => 0))) (64 * (s 4 0 0).toNat + 13) (zAi 0 5 (fun _ => 0))) (66) (zAr 4 10 (va_up (fun j => if (j : Int) < s 4 0 0 then some (64 * j + 10) else none) (s 4 0 0).toNat (some (64 * (s 4 0 0).toNat + 10))))) (65) (zOb 0 [.int (zI (s 4 0 0 + 1)), .ref 66, .int (zI (s 4 0 0 + 1))])) (64 * i + kd) = zCls (zOpN s) kd i) ⟨?_, ?_, ?_, ?_, ?_, ?_, ?_, ?_, ?_, ?_, ?_, ?_, ?_, ?_, ?_⟩ kd hk i) (fun q hq => ?_)
  · intro i
    refine (zu_n (by omega)).trans ((zu_n (by omega)).trans ((zu_n (by omega)).trans ((zu_n (by omega)).trans ((zu_n (by omega)).trans ((zu_n (by omega)).trans ((zAll_c (by decide)).trans ?_))))))
    exact rfl
  · intro i
    by_cases e5 : i = 1
    · rw [e5]
      refine (zu_at (by omega)).trans ?_
      show _ = some (zOb 0 [.int (zI (s 4 0 0 + 1)), .ref (if s 4 0 0 + 1 = 0 then zE else 66), .int (zI (s 4 0 0 + 1))])
      rw [if_neg (by omega)]
    · skip
      refine (zu_n (by omega)).trans ((zu_n (by omega)).trans ((zu_n (by omega)).trans ((zu_n (by omega)).trans ((zu_n (by omega)).trans ((zu_n (by omega)).trans ((zAll_c (by decide)).trans ?_))))))
      exact zif4_1 e5
  · intro i
    by_cases e4 : i = 1
    · rw [e4]
      refine (zu_n (by omega)).trans ((zu_at (by omega)).trans ?_)
      refine Eq.symm ((if_pos (show (1 = 1 ∧ 0 < s 4 0 0 + 1) from ⟨rfl, by omega⟩)).trans (some_congr (congrArg (zAr 4 10) (funext fun j => ?_))))
      show (if (j : Int) < s 4 0 0 + 1 then some (64 * j + 10) else none) = _
      simp only [va_up]
      by_cases h9 : j = (s 4 0 0).toNat
      · rw [if_pos h9, if_pos (by omega), h9]
      · rw [if_neg h9]
        by_cases h8 : (j : Int) < s 4 0 0
        · rw [if_pos h8, if_pos (by omega)]
        · rw [if_neg h8, if_neg (by omega)]
    · skip
      refine (zu_n (by omega)).trans ((zu_n (by omega)).trans ((zu_n (by omega)).trans ((zu_n (by omega)).trans ((zu_n (by omega)).trans ((zu_n (by omega)).trans ((zAll_c (by decide)).trans ?_))))))
      exact zifm (fun _ => rfl) (fun _ => by rw [if_neg (fun h => e4 h.1)]; exact (if_neg (fun h => e4 h.1)).symm) (fun _ => rfl) (fun _ => rfl)
  · intro i
    refine (zu_n (by omega)).trans ((zu_n (by omega)).trans ((zu_n (by omega)).trans ((zu_n (by omega)).trans ((zu_n (by omega)).trans ((zu_n (by omega)).trans ((zAll_c (by decide)).trans ?_))))))
    exact rfl
  · intro i
    refine (zu_n (by omega)).trans ((zu_n (by omega)).trans ((zu_n (by omega)).trans ((zu_n (by omega)).trans ((zu_n (by omega)).trans ((zu_n (by omega)).trans ((zAll_c (by decide)).trans ?_))))))
    exact rfl
  · intro i
    refine (zu_n (by omega)).trans ((zu_n (by omega)).trans ((zu_n (by omega)).trans ((zu_n (by omega)).trans ((zu_n (by omega)).trans ((zu_n (by omega)).trans ((zAll_c (by decide)).trans ?_))))))
    exact rfl
  · intro i
    refine (zu_n (by omega)).trans ((zu_n (by omega)).trans ((zu_n (by omega)).trans ((zu_n (by omega)).trans ((zu_n (by omega)).trans ((zu_n (by omega)).trans ((zAll_c (by decide)).trans ?_))))))
    exact rfl
  · intro i
    refine (zu_n (by omega)).trans ((zu_n (by omega)).trans ((zu_n (by omega)).trans ((zu_n (by omega)).trans ((zu_n (by omega)).trans ((zu_n (by omega)).trans ((zAll_c (by decide)).trans ?_))))))
    exact rfl
  · intro i
    refine (zu_n (by omega)).trans ((zu_n (by omega)).trans ((zu_n (by omega)).trans ((zu_n (by omega)).trans ((zu_n (by omega)).trans ((zu_n (by omega)).trans ((zAll_c (by decide)).trans ?_))))))
    exact rfl
  · intro i
    by_cases e0 : i = (s 4 0 0).toNat
    · rw [e0]
      refine (zu_n (by omega)).trans ((zu_n (by omega)).trans ((zu_n (by omega)).trans ((zu_n (by omega)).trans ((zu_n (by omega)).trans ((zu_at (by omega)).trans ?_)))))
      refine Eq.symm ((if_pos (show ((s 4 0 0).toNat : Int) < s 4 0 0 + 1 by omega)).trans (some_congr ?_))
      show zOb 5 [.int (zI ((s 4 0 0).toNat : Nat)), .ref (64 * (s 4 0 0).toNat + 11), .ref (64 * (s 4 0 0).toNat + 12), .ref (64 * (s 4 0 0).toNat + 13), .int (zI (s 5 (s 4 0 0).toNat 0)), .int (zI (zOff (zOpN s) (s 4 0 0).toNat (zSc (zOpN s) (s 4 0 0).toNat))), .int (zI (zsm (fun k => if zOpN s 6 (s 4 0 0).toNat k = -1 then 0 else zOpN s 7 (s 4 0 0).toNat k) (zSc (zOpN s) (s 4 0 0).toNat))), .int (zI (zAskN (zOpN s) (s 4 0 0).toNat (zSc (zOpN s) (s 4 0 0).toNat) : Nat)), .int (zI (s 8 (s 4 0 0).toNat 0))] = _
      rw [zsm_sc (s := zOpN s) h5, h5, h8, Int.toNat_of_nonneg h0]
      rfl
    · skip
      refine (zu_n (by omega)).trans ((zu_n (by omega)).trans ((zu_n (by omega)).trans ((zu_n (by omega)).trans ((zu_n (by omega)).trans ((zu_n (by omega)).trans ((zAll_c (by decide)).trans ?_))))))
      exact zCls10 (show ((i : Nat) : Int) < s 4 0 0 ↔ ((i : Nat) : Int) < s 4 0 0 + 1 by omega) (fun _ => ⟨rfl, rfl, rfl, rfl⟩)
  · intro i
    by_cases e1 : i = (s 4 0 0).toNat
    · rw [e1]
      refine (zu_n (by omega)).trans ((zu_n (by omega)).trans ((zu_n (by omega)).trans ((zu_n (by omega)).trans ((zu_at (by omega)).trans ?_))))
      refine Eq.symm ((if_pos (show ((s 4 0 0).toNat : Int) < s 4 0 0 + 1 by omega)).trans (some_congr ?_))
      show zAi 0 5 (fun k => if (k : Int) < s 5 (s 4 0 0).toNat 0 then s 6 (s 4 0 0).toNat k else 0) = _
      rw [h5]
      exact congrArg (zAi 0 5) (funext fun j => if_neg (by omega))
    · skip
      refine (zu_n (by omega)).trans ((zu_n (by omega)).trans ((zu_n (by omega)).trans ((zu_n (by omega)).trans ((zu_n (by omega)).trans ((zu_n (by omega)).trans ((zAll_c (by decide)).trans ?_))))))
      exact zif2 (show ((i : Nat) : Int) < s 4 0 0 ↔ ((i : Nat) : Int) < s 4 0 0 + 1 by omega) (fun _ => rfl)
  · intro i
    by_cases e2 : i = (s 4 0 0).toNat
    · rw [e2]
      refine (zu_n (by omega)).trans ((zu_n (by omega)).trans ((zu_n (by omega)).trans ((zu_at (by omega)).trans ?_)))
      refine Eq.symm ((if_pos (show ((s 4 0 0).toNat : Int) < s 4 0 0 + 1 by omega)).trans (some_congr ?_))
      show zAi 0 5 (fun k => if (k : Int) < s 5 (s 4 0 0).toNat 0 then zOff s (s 4 0 0).toNat k else 0) = _
      rw [h5]
      exact congrArg (zAi 0 5) (funext fun j => if_neg (by omega))
    · skip
      refine (zu_n (by omega)).trans ((zu_n (by omega)).trans ((zu_n (by omega)).trans ((zu_n (by omega)).trans ((zu_n (by omega)).trans ((zu_n (by omega)).trans ((zAll_c (by decide)).trans ?_))))))
      exact zif2 (show ((i : Nat) : Int) < s 4 0 0 ↔ ((i : Nat) : Int) < s 4 0 0 + 1 by omega) (fun _ => rfl)
  · intro i
    by_cases e3 : i = (s 4 0 0).toNat
    · rw [e3]
      refine (zu_n (by omega)).trans ((zu_n (by omega)).trans ((zu_at (by omega)).trans ?_))
      refine Eq.symm ((if_pos (show ((s 4 0 0).toNat : Int) < s 4 0 0 + 1 by omega)).trans (some_congr ?_))
      show zAi 0 5 (fun k => if (k : Int) < s 5 (s 4 0 0).toNat 0 then zOff s (s 4 0 0).toNat (k + 1) else 0) = _
      rw [h5]
      exact congrArg (zAi 0 5) (funext fun j => if_neg (by omega))
    · skip
      refine (zu_n (by omega)).trans ((zu_n (by omega)).trans ((zu_n (by omega)).trans ((zu_n (by omega)).trans ((zu_n (by omega)).trans ((zu_n (by omega)).trans ((zAll_c (by decide)).trans ?_))))))
      exact zif2 (show ((i : Nat) : Int) < s 4 0 0 ↔ ((i : Nat) : Int) < s 4 0 0 + 1 by omega) (fun _ => rfl)
  · intro i
    refine (zu_n (by omega)).trans ((zu_n (by omega)).trans ((zu_n (by omega)).trans ((zu_n (by omega)).trans ((zu_n (by omega)).trans ((zu_n (by omega)).trans ((zAll_c (by decide)).trans ?_))))))
    exact rfl
  · intro i
    refine (zu_n (by omega)).trans ((zu_n (by omega)).trans ((zu_n (by omega)).trans ((zu_n (by omega)).trans ((zu_n (by omega)).trans ((zu_n (by omega)).trans ((zAll_c (by decide)).trans ?_))))))
    exact rfl
  · exact (zu_n (by omega)).trans ((zu_n (by omega)).trans ((zu_n (by omega)).trans ((zu_n (by omega)).trans ((zu_n (by omega)).trans ((zu_n (by omega)).trans (rfl))))))
theorem zH_app {s t : zS} {o : zOx} {a : Nat} {k m : Int} (ha : (a : Int) < s 4 0 0) (h5 : 0 ≤ s 5 a 0) : (zu (zu (zu (zu (zAll s t o) (64 * a + 10) (zOb 5 [.int (zI a), .ref (64 * a + 11), .ref (64 * a + 12), .ref (64 * a + 13), .int (zI (s 5 a 0 + 1)), .int (zI (zLen s a + m)), .int (zI (if k = -1 then zWork s a else zWork s a + m)), .int (zI ((if k = -1 then zAskN s a (zSc s a) else zAskN s a (zSc s a) ||| 2 ^ k.toNat : Nat) : Int)), .int (zI (s 8 a 0))])) (64 * a + 11) (zAi 0 5 (zup (fun j => if (j : Int) < s 5 a 0 then s 6 a j else 0) (s 5 a 0).toNat k))) (64 * a + 12) (zAi 0 5 (zup (fun j => if (j : Int) < s 5 a 0 then zOff s a j else 0) (s 5 a 0).toNat (zLen s a)))) (64 * a + 13) (zAi 0 5 (zup (fun j => if (j : Int) < s 5 a 0 then zOff s a (j + 1) else 0) (s 5 a 0).toNat (zLen s a + m)))) = zAll (zOpP s a k m) t o := by
  refine zAll_eq (s := s) (M := (zu (zu (zu (zu (zAll s t o) (64 * a + 10) (zOb 5 [.int (zI a), .ref (64 * a + 11), .ref (64 * a + 12), .ref (64 * a + 13), .int (zI (s 5 a 0 + 1)), .int (zI (zLen s a + m)), .int (zI (if k = -1 then zWork s a else zWork s a + m)), .int (zI ((if k = -1 then zAskN s a (zSc s a) else zAskN s a (zSc s a) ||| 2 ^ k.toNat : Nat) : Int)), .int (zI (s 8 a 0))])) (64 * a + 11) (zAi 0 5 (zup (fun j => if (j : Int) < s 5 a 0 then s 6 a j else 0) (s 5 a 0).toNat k))) (64 * a + 12) (zAi 0 5 (zup (fun j => if (j : Int) < s 5 a 0 then zOff s a j else 0) (s 5 a 0).toNat (zLen s a)))) (64 * a + 13) (zAi 0 5 (zup (fun j => if (j : Int) < s 5 a 0 then zOff s a (j + 1) else 0) (s 5 a 0).toNat (zLen s a + m))))) (fun kd i hk => zKinds (P := fun kd => ∀ i, (zu (zu (zu (zu (zAll s t o) (64 * a + 10) (zOb 5 [.int (zI a), .ref (64 * a + 11), .ref (64 * a + 12), .ref (64 * a + 13), .int (zI (s 5 a 0 + 1)), .int (zI (zLen s a + m)), .int (zI (if k = -1 then zWork s a else zWork s a + m)), .int (zI ((if k = -1 then zAskN s a (zSc s a) else zAskN s a (zSc s a) ||| 2 ^ k.toNat : Nat) : Int)), .int (zI (s 8 a 0))])) (64 * a + 11) (zAi 0 5 (zup (fun j => if (j : Int) < s 5 a 0 then s 6 a j else 0) (s 5 a 0).toNat k))) (64 * a + 12) (zAi 0 5 (zup (fun j => if (j : Int) < s 5 a 0 then zOff s a j else 0) (s 5 a 0).toNat (zLen s a)))) (64 * a + 13) (zAi 0 5 (zup (fun j => if (j : Int) < s 5 a 0 then zOff s a (j + 1) else 0) (s 5 a 0).toNat (zLen s a + m)))) (64 * i + kd) = zCls (zOpP s a k m) kd i) ⟨?_, ?_, ?_, ?_, ?_, ?_, ?_, ?_, ?_, ?_, ?_, ?_, ?_, ?_, ?_⟩ kd hk i) (fun q hq => ?_)
  · intro i
    refine (zu_n (by omega)).trans ((zu_n (by omega)).trans ((zu_n (by omega)).trans ((zu_n (by omega)).trans ((zAll_c (by decide)).trans ?_))))
    exact rfl
  · intro i
    refine (zu_n (by omega)).trans ((zu_n (by omega)).trans ((zu_n (by omega)).trans ((zu_n (by omega)).trans ((zAll_c (by decide)).trans ?_))))
    exact rfl
  · intro i
    refine (zu_n (by omega)).trans ((zu_n (by omega)).trans ((zu_n (by omega)).trans ((zu_n (by omega)).trans ((zAll_c (by decide)).trans ?_))))
    exact rfl
  · intro i
    refine (zu_n (by omega)).trans ((zu_n (by omega)).trans ((zu_n (by omega)).trans ((zu_n (by omega)).trans ((zAll_c (by decide)).trans ?_))))
    exact rfl
  · intro i
    refine (zu_n (by omega)).trans ((zu_n (by omega)).trans ((zu_n (by omega)).trans ((zu_n (by omega)).trans ((zAll_c (by decide)).trans ?_))))
    exact rfl
  · intro i
    refine (zu_n (by omega)).trans ((zu_n (by omega)).trans ((zu_n (by omega)).trans ((zu_n (by omega)).trans ((zAll_c (by decide)).trans ?_))))
    exact rfl
  · intro i
    refine (zu_n (by omega)).trans ((zu_n (by omega)).trans ((zu_n (by omega)).trans ((zu_n (by omega)).trans ((zAll_c (by decide)).trans ?_))))
    exact rfl
  · intro i
    refine (zu_n (by omega)).trans ((zu_n (by omega)).trans ((zu_n (by omega)).trans ((zu_n (by omega)).trans ((zAll_c (by decide)).trans ?_))))
    exact rfl
  · intro i
    refine (zu_n (by omega)).trans ((zu_n (by omega)).trans ((zu_n (by omega)).trans ((zu_n (by omega)).trans ((zAll_c (by decide)).trans ?_))))
    exact rfl
  · intro i
    by_cases e0 : i = a
    · rw [e0]
      refine (zu_n (by omega)).trans ((zu_n (by omega)).trans ((zu_n (by omega)).trans ((zu_at (by omega)).trans ?_)))
      refine Eq.symm ((if_pos (show ((a : Nat) : Int) < s 4 0 0 from ha)).trans (some_congr ?_))
      rw [zP5, zLen_P h5, zWork_P h5, zAsk_P h5]
      rfl
    · skip
      refine (zu_n (by omega)).trans ((zu_n (by omega)).trans ((zu_n (by omega)).trans ((zu_n (by omega)).trans ((zAll_c (by decide)).trans ?_))))
      refine zCls10 Iff.rfl (fun _ => ⟨(zP5n e0).symm, (zP6n e0).symm, (zP7n e0).symm, rfl⟩)
  · intro i
    by_cases e1 : i = a
    · rw [e1]
      refine (zu_n (by omega)).trans ((zu_n (by omega)).trans ((zu_at (by omega)).trans ?_))
      refine Eq.symm ((if_pos (show ((a : Nat) : Int) < s 4 0 0 from ha)).trans (some_congr (congrArg (zAi 0 5) (funext fun j => ?_))))
      show (if (j : Int) < zOpP s a k m 5 a 0 then zOpP s a k m 6 a j else 0) = _
      rw [zP5]
      simp only [zup]
      by_cases h9 : j = (s 5 a 0).toNat
      · rw [if_pos h9, if_pos (by omega), h9]
        rw [zP6, if_pos rfl]
      · rw [if_neg h9]
        by_cases h8 : (j : Int) < s 5 a 0
        · rw [if_pos h8, if_pos (by omega)]
          rw [zP6, if_neg h9]
        · rw [if_neg h8, if_neg (by omega)]
    · skip
      refine (zu_n (by omega)).trans ((zu_n (by omega)).trans ((zu_n (by omega)).trans ((zu_n (by omega)).trans ((zAll_c (by decide)).trans ?_))))
      refine zif2 Iff.rfl (fun _ => some_congr (congrArg (zAi 0 5) (funext fun j => ?_)))
      show _ = (if (j : Int) < zOpP s a k m 5 i 0 then zOpP s a k m 6 i j else 0)
      rw [zP5n e1, zP6n e1]
  · intro i
    by_cases e2 : i = a
    · rw [e2]
      refine (zu_n (by omega)).trans ((zu_at (by omega)).trans ?_)
      refine Eq.symm ((if_pos (show ((a : Nat) : Int) < s 4 0 0 from ha)).trans (some_congr (congrArg (zAi 0 5) (funext fun j => ?_))))
      show (if (j : Int) < zOpP s a k m 5 a 0 then zOff (zOpP s a k m) a j else 0) = _
      rw [zP5]
      simp only [zup]
      by_cases h9 : j = (s 5 a 0).toNat
      · rw [if_pos h9, if_pos (by omega), h9]
        rw [zOff_P (Nat.le_refl _)]
        rfl
      · rw [if_neg h9]
        by_cases h8 : (j : Int) < s 5 a 0
        · rw [if_pos h8, if_pos (by omega)]
          rw [zOff_P (by omega)]
        · rw [if_neg h8, if_neg (by omega)]
    · skip
      refine (zu_n (by omega)).trans ((zu_n (by omega)).trans ((zu_n (by omega)).trans ((zu_n (by omega)).trans ((zAll_c (by decide)).trans ?_))))
      refine zif2 Iff.rfl (fun _ => some_congr (congrArg (zAi 0 5) (funext fun j => ?_)))
      show _ = (if (j : Int) < zOpP s a k m 5 i 0 then zOff (zOpP s a k m) i j else 0)
      rw [zP5n e2, zOff_Pn e2]
  · intro i
    by_cases e3 : i = a
    · rw [e3]
      refine (zu_at (by omega)).trans ?_
      refine Eq.symm ((if_pos (show ((a : Nat) : Int) < s 4 0 0 from ha)).trans (some_congr (congrArg (zAi 0 5) (funext fun j => ?_))))
      show (if (j : Int) < zOpP s a k m 5 a 0 then zOff (zOpP s a k m) a (j + 1) else 0) = _
      rw [zP5]
      simp only [zup]
      by_cases h9 : j = (s 5 a 0).toNat
      · rw [if_pos h9, if_pos (by omega), h9]
        rw [zOff_P1]
        rfl
      · rw [if_neg h9]
        by_cases h8 : (j : Int) < s 5 a 0
        · rw [if_pos h8, if_pos (by omega)]
          rw [zOff_P (by omega)]
        · rw [if_neg h8, if_neg (by omega)]
    · skip
      refine (zu_n (by omega)).trans ((zu_n (by omega)).trans ((zu_n (by omega)).trans ((zu_n (by omega)).trans ((zAll_c (by decide)).trans ?_))))
      refine zif2 Iff.rfl (fun _ => some_congr (congrArg (zAi 0 5) (funext fun j => ?_)))
      show _ = (if (j : Int) < zOpP s a k m 5 i 0 then zOff (zOpP s a k m) i (j + 1) else 0)
      rw [zP5n e3, zOff_Pn e3]
  · intro i
    refine (zu_n (by omega)).trans ((zu_n (by omega)).trans ((zu_n (by omega)).trans ((zu_n (by omega)).trans ((zAll_c (by decide)).trans ?_))))
    exact rfl
  · intro i
    refine (zu_n (by omega)).trans ((zu_n (by omega)).trans ((zu_n (by omega)).trans ((zu_n (by omega)).trans ((zAll_c (by decide)).trans ?_))))
    exact rfl
  · exact (zu_n (by omega)).trans ((zu_n (by omega)).trans ((zu_n (by omega)).trans ((zu_n (by omega)).trans (rfl))))
theorem zH_put {s t : zS} {o : zOx} {v : Nat} {i0 c x : Int} (hv : (v : Int) < s 9 0 0) (hx : ¬ x = -1) : (zu (zAll s t o) (64 * v + 14) (zOb 6 [.int (zI v), .ref (64 * (s 10 v 0).toNat + 10), .int (zI i0), .int (zI c), .int (zI x)])) = zAll (zOpA s v i0 c x) t o := by
  refine zAll_eq (s := s) (M := (zu (zAll s t o) (64 * v + 14) (zOb 6 [.int (zI v), .ref (64 * (s 10 v 0).toNat + 10), .int (zI i0), .int (zI c), .int (zI x)]))) (fun kd i hk => zKinds (P := fun kd => ∀ i, (zu (zAll s t o) (64 * v + 14) (zOb 6 [.int (zI v), .ref (64 * (s 10 v 0).toNat + 10), .int (zI i0), .int (zI c), .int (zI x)])) (64 * i + kd) = zCls (zOpA s v i0 c x) kd i) ⟨?_, ?_, ?_, ?_, ?_, ?_, ?_, ?_, ?_, ?_, ?_, ?_, ?_, ?_, ?_⟩ kd hk i) (fun q hq => ?_)
  · intro i
    refine (zu_n (by omega)).trans ((zAll_c (by decide)).trans ?_)
    exact rfl
  · intro i
    refine (zu_n (by omega)).trans ((zAll_c (by decide)).trans ?_)
    exact rfl
  · intro i
    refine (zu_n (by omega)).trans ((zAll_c (by decide)).trans ?_)
    exact rfl
  · intro i
    refine (zu_n (by omega)).trans ((zAll_c (by decide)).trans ?_)
    exact rfl
  · intro i
    refine (zu_n (by omega)).trans ((zAll_c (by decide)).trans ?_)
    exact rfl
  · intro i
    refine (zu_n (by omega)).trans ((zAll_c (by decide)).trans ?_)
    exact rfl
  · intro i
    refine (zu_n (by omega)).trans ((zAll_c (by decide)).trans ?_)
    exact rfl
  · intro i
    refine (zu_n (by omega)).trans ((zAll_c (by decide)).trans ?_)
    exact rfl
  · intro i
    refine (zu_n (by omega)).trans ((zAll_c (by decide)).trans ?_)
    exact rfl
  · intro i
    refine (zu_n (by omega)).trans ((zAll_c (by decide)).trans ?_)
    exact zCls10 Iff.rfl (fun _ => ⟨rfl, rfl, rfl, rfl⟩)
  · intro i
    refine (zu_n (by omega)).trans ((zAll_c (by decide)).trans ?_)
    exact rfl
  · intro i
    refine (zu_n (by omega)).trans ((zAll_c (by decide)).trans ?_)
    exact rfl
  · intro i
    refine (zu_n (by omega)).trans ((zAll_c (by decide)).trans ?_)
    exact rfl
  · intro i
    by_cases e0 : i = v
    · rw [e0]
      refine (zu_at (by omega)).trans ?_
      refine Eq.symm ((if_pos (show ((v : Nat) : Int) < s 9 0 0 from hv)).trans (some_congr ?_))
      rw [show zOpA s v i0 c x 13 v 0 = x from if_pos ⟨rfl, rfl, rfl⟩, show zOpA s v i0 c x 12 v 0 = c from if_pos ⟨rfl, rfl, rfl⟩, show zOpA s v i0 c x 11 v 0 = i0 from if_pos ⟨rfl, rfl, rfl⟩, if_neg hx, if_neg hx]
      rfl
    · skip
      refine (zu_n (by omega)).trans ((zAll_c (by decide)).trans ?_)
      refine zif2 Iff.rfl (fun _ => ?_)
      rw [show zOpA s v i0 c x 13 i 0 = s 13 i 0 from if_neg (fun h => e0 h.2.1), show zOpA s v i0 c x 12 i 0 = s 12 i 0 from if_neg (fun h => e0 h.2.1), show zOpA s v i0 c x 11 i 0 = s 11 i 0 from if_neg (fun h => e0 h.2.1)]
      rfl
  · intro i
    refine (zu_n (by omega)).trans ((zAll_c (by decide)).trans ?_)
    exact rfl
  · exact (zu_n (by omega)).trans (rfl)
theorem zH_out {s t : zS} {o : zOx} {v : Nat} (hv : (v : Int) < s 9 0 0) : (zu (zAll s t o) (64 * v + 14) (zOb 6 [.int (zI v), .ref (64 * (s 10 v 0).toNat + 10), .int (zI (-1)), .int (zI (-1)), .int (zI (-1))])) = zAll (zsu s 13 v 0 (-1)) t o := by
  refine zAll_eq (s := s) (M := (zu (zAll s t o) (64 * v + 14) (zOb 6 [.int (zI v), .ref (64 * (s 10 v 0).toNat + 10), .int (zI (-1)), .int (zI (-1)), .int (zI (-1))]))) (fun kd i hk => zKinds (P := fun kd => ∀ i, (zu (zAll s t o) (64 * v + 14) (zOb 6 [.int (zI v), .ref (64 * (s 10 v 0).toNat + 10), .int (zI (-1)), .int (zI (-1)), .int (zI (-1))])) (64 * i + kd) = zCls (zsu s 13 v 0 (-1)) kd i) ⟨?_, ?_, ?_, ?_, ?_, ?_, ?_, ?_, ?_, ?_, ?_, ?_, ?_, ?_, ?_⟩ kd hk i) (fun q hq => ?_)
  · intro i
    refine (zu_n (by omega)).trans ((zAll_c (by decide)).trans ?_)
    exact rfl
  · intro i
    refine (zu_n (by omega)).trans ((zAll_c (by decide)).trans ?_)
    exact rfl
  · intro i
    refine (zu_n (by omega)).trans ((zAll_c (by decide)).trans ?_)
    exact rfl
  · intro i
    refine (zu_n (by omega)).trans ((zAll_c (by decide)).trans ?_)
    exact rfl
  · intro i
    refine (zu_n (by omega)).trans ((zAll_c (by decide)).trans ?_)
    exact rfl
  · intro i
    refine (zu_n (by omega)).trans ((zAll_c (by decide)).trans ?_)
    exact rfl
  · intro i
    refine (zu_n (by omega)).trans ((zAll_c (by decide)).trans ?_)
    exact rfl
  · intro i
    refine (zu_n (by omega)).trans ((zAll_c (by decide)).trans ?_)
    exact rfl
  · intro i
    refine (zu_n (by omega)).trans ((zAll_c (by decide)).trans ?_)
    exact rfl
  · intro i
    refine (zu_n (by omega)).trans ((zAll_c (by decide)).trans ?_)
    exact zCls10 Iff.rfl (fun _ => ⟨rfl, rfl, rfl, rfl⟩)
  · intro i
    refine (zu_n (by omega)).trans ((zAll_c (by decide)).trans ?_)
    exact rfl
  · intro i
    refine (zu_n (by omega)).trans ((zAll_c (by decide)).trans ?_)
    exact rfl
  · intro i
    refine (zu_n (by omega)).trans ((zAll_c (by decide)).trans ?_)
    exact rfl
  · intro i
    by_cases e0 : i = v
    · rw [e0]
      refine (zu_at (by omega)).trans ?_
      refine Eq.symm ((if_pos (show ((v : Nat) : Int) < s 9 0 0 from hv)).trans (some_congr ?_))
      rw [show zsu s 13 v 0 (-1) 13 v 0 = -1 from if_pos ⟨rfl, rfl, rfl⟩, if_pos rfl, if_pos rfl]
      rfl
    · skip
      refine (zu_n (by omega)).trans ((zAll_c (by decide)).trans ?_)
      refine zif2 Iff.rfl (fun _ => ?_)
      rw [show zsu s 13 v 0 (-1) 13 i 0 = s 13 i 0 from if_neg (fun h => e0 h.2.1)]
      rfl
  · intro i
    refine (zu_n (by omega)).trans ((zAll_c (by decide)).trans ?_)
    exact rfl
  · exact (zu_n (by omega)).trans (rfl)
def zsd (s : zS) (d : Nat) (f : Nat → Int) : zS := fun g p q => if g = 21 ∧ p = d then f q else s g p q
theorem zsd_n {s : zS} {d i : Nat} {f : Nat → Int} (h : ¬ i = d) : zsd s d f 21 i = s 21 i := funext fun q => if_neg (fun h2 => h h2.2)
theorem zsd_s (s : zS) (d : Nat) (f : Nat → Int) : zsd s d f 21 d = f := funext fun q => if_pos ⟨rfl, rfl⟩
theorem zH_day {s t : zS} {o : zOx} {d : Nat} {f : Nat → Int} (hd : (d : Int) < 4 + s 0 0 0) : (zu (zu (zAll s t o) (64 * d + 7) (zAi 0 600 f)) (64 * d + 8) (zAi 0 601 (zTk f))) = zAll (zsd s d f) t o := by
  refine zAll_eq (s := s) (M := (zu (zu (zAll s t o) (64 * d + 7) (zAi 0 600 f)) (64 * d + 8) (zAi 0 601 (zTk f)))) (fun kd i hk => zKinds (P := fun kd => ∀ i, (zu (zu (zAll s t o) (64 * d + 7) (zAi 0 600 f)) (64 * d + 8) (zAi 0 601 (zTk f))) (64 * i + kd) = zCls (zsd s d f) kd i) ⟨?_, ?_, ?_, ?_, ?_, ?_, ?_, ?_, ?_, ?_, ?_, ?_, ?_, ?_, ?_⟩ kd hk i) (fun q hq => ?_)
  · intro i
    refine (zu_n (by omega)).trans ((zu_n (by omega)).trans ((zAll_c (by decide)).trans ?_))
    exact rfl
  · intro i
    refine (zu_n (by omega)).trans ((zu_n (by omega)).trans ((zAll_c (by decide)).trans ?_))
    exact rfl
  · intro i
    refine (zu_n (by omega)).trans ((zu_n (by omega)).trans ((zAll_c (by decide)).trans ?_))
    exact rfl
  · intro i
    refine (zu_n (by omega)).trans ((zu_n (by omega)).trans ((zAll_c (by decide)).trans ?_))
    exact rfl
  · intro i
    refine (zu_n (by omega)).trans ((zu_n (by omega)).trans ((zAll_c (by decide)).trans ?_))
    exact rfl
  · intro i
    refine (zu_n (by omega)).trans ((zu_n (by omega)).trans ((zAll_c (by decide)).trans ?_))
    exact rfl
  · intro i
    by_cases e0 : i = d
    · rw [e0]
      refine (zu_n (by omega)).trans ((zu_at (by omega)).trans ?_)
      refine Eq.symm ((if_pos (show ((d : Nat) : Int) < 4 + s 0 0 0 from hd)).trans (some_congr ?_))
      rw [zsd_s]
    · skip
      refine (zu_n (by omega)).trans ((zu_n (by omega)).trans ((zAll_c (by decide)).trans ?_))
      refine zif2 Iff.rfl (fun _ => ?_)
      rw [zsd_n e0]
  · intro i
    by_cases e1 : i = d
    · rw [e1]
      refine (zu_at (by omega)).trans ?_
      refine Eq.symm ((if_pos (show ((d : Nat) : Int) < 4 + s 0 0 0 from hd)).trans (some_congr ?_))
      rw [zsd_s]
    · skip
      refine (zu_n (by omega)).trans ((zu_n (by omega)).trans ((zAll_c (by decide)).trans ?_))
      refine zif2 Iff.rfl (fun _ => ?_)
      rw [zsd_n e1]
  · intro i
    refine (zu_n (by omega)).trans ((zu_n (by omega)).trans ((zAll_c (by decide)).trans ?_))
    exact rfl
  · intro i
    refine (zu_n (by omega)).trans ((zu_n (by omega)).trans ((zAll_c (by decide)).trans ?_))
    exact zCls10 Iff.rfl (fun _ => ⟨rfl, rfl, rfl, rfl⟩)
  · intro i
    refine (zu_n (by omega)).trans ((zu_n (by omega)).trans ((zAll_c (by decide)).trans ?_))
    exact rfl
  · intro i
    refine (zu_n (by omega)).trans ((zu_n (by omega)).trans ((zAll_c (by decide)).trans ?_))
    exact rfl
  · intro i
    refine (zu_n (by omega)).trans ((zu_n (by omega)).trans ((zAll_c (by decide)).trans ?_))
    exact rfl
  · intro i
    refine (zu_n (by omega)).trans ((zu_n (by omega)).trans ((zAll_c (by decide)).trans ?_))
    exact rfl
  · intro i
    refine (zu_n (by omega)).trans ((zu_n (by omega)).trans ((zAll_c (by decide)).trans ?_))
    exact rfl
  · exact (zu_n (by omega)).trans ((zu_n (by omega)).trans (rfl))
theorem zH_visit {s t : zS} {o : zOx} {a : Nat} (h0 : 0 ≤ s 9 0 0) (hn : s 9 0 0 < 30) (ha : (a : Int) < s 4 0 0) : (zu (zu (zu (zu (zAll s t o) (64 * (s 9 0 0).toNat + 14) (zOb 6 [.int (zI (s 9 0 0)), .ref (64 * a + 10), .int (zI (-1)), .int (zI (-1)), .int (zI (-1))])) (256 * zVer (s 9 0 0 + 1) + 130) (zAr 4 (zCap (zVer (s 9 0 0 + 1))) (va_up (fun j => if (j : Int) < s 9 0 0 ∧ j < zCap (zVer (s 9 0 0 + 1)) then some (64 * j + 14) else none) (s 9 0 0).toNat (some (64 * (s 9 0 0).toNat + 14))))) (129) (zOb 0 [.int (zI (s 9 0 0 + 1)), .ref (256 * zVer (s 9 0 0 + 1) + 130), .int (zI (s 9 0 0 + 1))])) (64 * a + 10) (zOb 5 [.int (zI a), .ref (64 * a + 11), .ref (64 * a + 12), .ref (64 * a + 13), .int (zI (s 5 a 0)), .int (zI (zLen s a)), .int (zI (zWork s a)), .int (zI (zAsk s a)), .int (zI 1)])) = zAll (zOpV s a) t o := by
  refine zAll_eq (s := s) (M := (zu (zu (zu (zu (zAll s t o) (64 * (s 9 0 0).toNat + 14) (zOb 6 [.int (zI (s 9 0 0)), .ref (64 * a + 10), .int (zI (-1)), .int (zI (-1)), .int (zI (-1))])) (256 * zVer (s 9 0 0 + 1) + 130) (zAr 4 (zCap (zVer (s 9 0 0 + 1))) (va_up (fun j => if (j : Int) < s 9 0 0 ∧ j < zCap (zVer (s 9 0 0 + 1)) then some (64 * j + 14) else none) (s 9 0 0).toNat (some (64 * (s 9 0 0).toNat + 14))))) (129) (zOb 0 [.int (zI (s 9 0 0 + 1)), .ref (256 * zVer (s 9 0 0 + 1) + 130), .int (zI (s 9 0 0 + 1))])) (64 * a + 10) (zOb 5 [.int (zI a), .ref (64 * a + 11), .ref (64 * a + 12), .ref (64 * a + 13), .int (zI (s 5 a 0)), .int (zI (zLen s a)), .int (zI (zWork s a)), .int (zI (zAsk s a)), .int (zI 1)]))) (fun kd i hk => zKinds (P := fun kd => ∀ i, (zu (zu (zu (zu (zAll s t o) (64 * (s 9 0 0).toNat + 14) (zOb 6 [.int (zI (s 9 0 0)), .ref (64 * a + 10), .int (zI (-1)), .int (zI (-1)), .int (zI (-1))])) (256 * zVer (s 9 0 0 + 1) + 130) (zAr 4 (zCap (zVer (s 9 0 0 + 1))) (va_up (fun j => if (j : Int) < s 9 0 0 ∧ j < zCap (zVer (s 9 0 0 + 1)) then some (64 * j + 14) else none) (s 9 0 0).toNat (some (64 * (s 9 0 0).toNat + 14))))) (129) (zOb 0 [.int (zI (s 9 0 0 + 1)), .ref (256 * zVer (s 9 0 0 + 1) + 130), .int (zI (s 9 0 0 + 1))])) (64 * a + 10) (zOb 5 [.int (zI a), .ref (64 * a + 11), .ref (64 * a + 12), .ref (64 * a + 13), .int (zI (s 5 a 0)), .int (zI (zLen s a)), .int (zI (zWork s a)), .int (zI (zAsk s a)), .int (zI 1)])) (64 * i + kd) = zCls (zOpV s a) kd i) ⟨?_, ?_, ?_, ?_, ?_, ?_, ?_, ?_, ?_, ?_, ?_, ?_, ?_, ?_, ?_⟩ kd hk i) (fun q hq => ?_)
  · intro i
    refine (zu_n (by omega)).trans ((zu_n (by omega)).trans ((zu_n (by omega)).trans ((zu_n (by omega)).trans ((zAll_c (by decide)).trans ?_))))
    exact rfl
  · intro i
    by_cases e2 : i = 2
    · rw [e2]
      refine (zu_n (by omega)).trans ((zu_at (by omega)).trans ?_)
      show _ = some (zOb 0 [.int (zI (s 9 0 0 + 1)), .ref (if s 9 0 0 + 1 = 0 then zE else 256 * zVer (s 9 0 0 + 1) + 130), .int (zI (s 9 0 0 + 1))])
      rw [if_neg (by omega)]
    · skip
      refine (zu_n (by omega)).trans ((zu_n (by omega)).trans ((zu_n (by omega)).trans ((zu_n (by omega)).trans ((zAll_c (by decide)).trans ?_))))
      exact zif4_2 e2
  · intro i
    by_cases e1 : i = 4 * zVer (s 9 0 0 + 1) + 2
    · rw [e1]
      refine (zu_n (by omega)).trans ((zu_n (by omega)).trans ((zu_at (by omega)).trans ?_))
      have hv3 : zVer (s 9 0 0 + 1) ≤ 3 := by have := zVer_4 (s 9 0 0 + 1); omega
      have hvc := zVer_c (n := s 9 0 0 + 1) (by omega) (by omega)
      show _ = (if (4 * zVer (s 9 0 0 + 1) + 2) % 4 = 0 then _ else if (4 * zVer (s 9 0 0 + 1) + 2) % 4 = 1 then _ else if (4 * zVer (s 9 0 0 + 1) + 2) % 4 = 2 then (if (4 * zVer (s 9 0 0 + 1) + 2) / 4 ≤ 3 ∧ zMin ((4 * zVer (s 9 0 0 + 1) + 2) / 4) ≤ s 9 0 0 + 1 then some (zAr 4 (zCap ((4 * zVer (s 9 0 0 + 1) + 2) / 4)) (fun j => if (j : Int) < s 9 0 0 + 1 ∧ j < zCap ((4 * zVer (s 9 0 0 + 1) + 2) / 4) then some (64 * j + 14) else none)) else none) else _)
      rw [if_neg (by omega), if_neg (by omega), if_pos (show (4 * zVer (s 9 0 0 + 1) + 2) % 4 = 2 by omega), show (4 * zVer (s 9 0 0 + 1) + 2) / 4 = zVer (s 9 0 0 + 1) by omega, if_pos (show zVer (s 9 0 0 + 1) ≤ 3 ∧ zMin (zVer (s 9 0 0 + 1)) ≤ s 9 0 0 + 1 from ⟨hv3, hvc.2.1⟩)]
      refine some_congr (congrArg (zAr 4 _) (funext fun j => ?_))
      simp only [va_up]
      by_cases h9 : j = (s 9 0 0).toNat
      · rw [if_pos h9, if_pos (by omega), h9]
      · rw [if_neg h9]
        by_cases h8 : (j : Int) < s 9 0 0 ∧ j < zCap (zVer (s 9 0 0 + 1))
        · rw [if_pos h8, if_pos (by omega)]
        · rw [if_neg h8, if_neg (by omega)]
    · skip
      refine (zu_n (by omega)).trans ((zu_n (by omega)).trans ((zu_n (by omega)).trans ((zu_n (by omega)).trans ((zAll_c (by decide)).trans ?_))))
      refine zifm (fun _ => rfl) (fun _ => rfl) (fun hm => ?_) (fun _ => rfl)
      show (if i / 4 ≤ 3 ∧ zMin (i / 4) ≤ s 9 0 0 then some (zAr 4 (zCap (i / 4)) (fun j => if (j : Int) < s 9 0 0 ∧ j < zCap (i / 4) then some (64 * j + 14) else none)) else none) = (if i / 4 ≤ 3 ∧ zMin (i / 4) ≤ s 9 0 0 + 1 then some (zAr 4 (zCap (i / 4)) (fun j => if (j : Int) < s 9 0 0 + 1 ∧ j < zCap (i / 4) then some (64 * j + 14) else none)) else none)
      by_cases h3 : i / 4 ≤ 3
      · have hvo := zVer_o (n := s 9 0 0) (w := i / 4) h0 hn h3 (by omega)
        refine zif2 ⟨fun h => ⟨h3, hvo.1.mp h.2⟩, fun h => ⟨h3, hvo.1.mpr h.2⟩⟩ (fun h => some_congr (congrArg (zAr 4 _) (funext fun j => ?_)))
        have hcp := hvo.2 h.2
        by_cases h8 : (j : Int) < s 9 0 0 ∧ j < zCap (i / 4)
        · rw [if_pos h8, if_pos (by omega)]
        · rw [if_neg h8, if_neg (by omega)]
      · rw [if_neg (fun h => h3 h.1), if_neg (fun h => h3 h.1)]
  · intro i
    refine (zu_n (by omega)).trans ((zu_n (by omega)).trans ((zu_n (by omega)).trans ((zu_n (by omega)).trans ((zAll_c (by decide)).trans ?_))))
    exact rfl
  · intro i
    refine (zu_n (by omega)).trans ((zu_n (by omega)).trans ((zu_n (by omega)).trans ((zu_n (by omega)).trans ((zAll_c (by decide)).trans ?_))))
    exact rfl
  · intro i
    refine (zu_n (by omega)).trans ((zu_n (by omega)).trans ((zu_n (by omega)).trans ((zu_n (by omega)).trans ((zAll_c (by decide)).trans ?_))))
    exact rfl
  · intro i
    refine (zu_n (by omega)).trans ((zu_n (by omega)).trans ((zu_n (by omega)).trans ((zu_n (by omega)).trans ((zAll_c (by decide)).trans ?_))))
    exact rfl
  · intro i
    refine (zu_n (by omega)).trans ((zu_n (by omega)).trans ((zu_n (by omega)).trans ((zu_n (by omega)).trans ((zAll_c (by decide)).trans ?_))))
    exact rfl
  · intro i
    refine (zu_n (by omega)).trans ((zu_n (by omega)).trans ((zu_n (by omega)).trans ((zu_n (by omega)).trans ((zAll_c (by decide)).trans ?_))))
    exact rfl
  · intro i
    by_cases e3 : i = a
    · rw [e3]
      refine (zu_at (by omega)).trans ?_
      refine Eq.symm ((if_pos (show ((a : Nat) : Int) < s 4 0 0 from ha)).trans (some_congr ?_))
      obtain ⟨q1, q2, q3, q4, q5⟩ := zSvc_cg (s := s) (s' := zOpV s a) (a := a) rfl rfl rfl
      rw [← q3, ← q4, ← q5, show zOpV s a 8 a 0 = 1 from if_pos ⟨rfl, rfl, rfl⟩]
      rfl
    · skip
      refine (zu_n (by omega)).trans ((zu_n (by omega)).trans ((zu_n (by omega)).trans ((zu_n (by omega)).trans ((zAll_c (by decide)).trans ?_))))
      refine zCls10 Iff.rfl (fun _ => ⟨rfl, rfl, rfl, (show zOpV s a 8 i 0 = s 8 i 0 from if_neg (fun h => e3 h.2.1)).symm⟩)
  · intro i
    refine (zu_n (by omega)).trans ((zu_n (by omega)).trans ((zu_n (by omega)).trans ((zu_n (by omega)).trans ((zAll_c (by decide)).trans ?_))))
    exact rfl
  · intro i
    refine (zu_n (by omega)).trans ((zu_n (by omega)).trans ((zu_n (by omega)).trans ((zu_n (by omega)).trans ((zAll_c (by decide)).trans ?_))))
    exact rfl
  · intro i
    refine (zu_n (by omega)).trans ((zu_n (by omega)).trans ((zu_n (by omega)).trans ((zu_n (by omega)).trans ((zAll_c (by decide)).trans ?_))))
    exact rfl
  · intro i
    by_cases e0 : i = (s 9 0 0).toNat
    · rw [e0]
      refine (zu_n (by omega)).trans ((zu_n (by omega)).trans ((zu_n (by omega)).trans ((zu_at (by omega)).trans ?_)))
      refine Eq.symm ((if_pos (show ((s 9 0 0).toNat : Int) < s 9 0 0 + 1 by omega)).trans (some_congr ?_))
      rw [show zOpV s a 13 (s 9 0 0).toNat 0 = -1 from if_pos ⟨rfl, rfl, rfl⟩, show zOpV s a 10 (s 9 0 0).toNat 0 = a from if_pos ⟨rfl, rfl, rfl⟩, if_pos rfl, if_pos rfl, Int.toNat_natCast, Int.toNat_of_nonneg h0]
    · skip
      refine (zu_n (by omega)).trans ((zu_n (by omega)).trans ((zu_n (by omega)).trans ((zu_n (by omega)).trans ((zAll_c (by decide)).trans ?_))))
      refine zif2 (show ((i : Nat) : Int) < s 9 0 0 ↔ ((i : Nat) : Int) < s 9 0 0 + 1 by omega) (fun _ => ?_)
      rw [show zOpV s a 13 i 0 = s 13 i 0 from if_neg (fun h => e0 h.2.1), show zOpV s a 10 i 0 = s 10 i 0 from if_neg (fun h => e0 h.2.1)]
      rfl
  · intro i
    refine (zu_n (by omega)).trans ((zu_n (by omega)).trans ((zu_n (by omega)).trans ((zu_n (by omega)).trans ((zAll_c (by decide)).trans ?_))))
    exact rfl
  · exact (zu_n (by omega)).trans ((zu_n (by omega)).trans ((zu_n (by omega)).trans ((zu_n (by omega)).trans (rfl))))
theorem zH_req {s t : zS} {o : zOx} {a : Nat} {l : Int} (h14 : 0 ≤ s 14 0 0) (h0 : 0 ≤ s 18 0 0) (ha : (a : Int) < s 4 0 0) : (zu (zu (zu (zu (zAll s t o) (64 * a + 10) (zOb 5 [.int (zI a), .ref (64 * a + 11), .ref (64 * a + 12), .ref (64 * a + 13), .int (zI (s 5 a 0)), .int (zI (zLen s a)), .int (zI (zWork s a)), .int (zI (zAsk s a)), .int (zI 1)])) (64 * (s 18 0 0).toNat + 15) (zOb 4 [.ref (64 * a + 10), .int (zI l)])) (194) (zAr 4 10 (va_up (fun j => if (j : Int) < s 14 0 0 then some (64 * (s 17 j 0).toNat + 15) else none) (s 14 0 0).toNat (some (64 * (s 18 0 0).toNat + 15))))) (193) (zOb 0 [.int (zI (2 * s 18 0 0 - s 14 0 0 + 1)), .ref 194, .int (zI (s 14 0 0 + 1))])) = zAll (zOpQ s a l) t o := by
  refine zAll_eq (s := s) (M := (zu (zu (zu (zu (zAll s t o) (64 * a + 10) (zOb 5 [.int (zI a), .ref (64 * a + 11), .ref (64 * a + 12), .ref (64 * a + 13), .int (zI (s 5 a 0)), .int (zI (zLen s a)), .int (zI (zWork s a)), .int (zI (zAsk s a)), .int (zI 1)])) (64 * (s 18 0 0).toNat + 15) (zOb 4 [.ref (64 * a + 10), .int (zI l)])) (194) (zAr 4 10 (va_up (fun j => if (j : Int) < s 14 0 0 then some (64 * (s 17 j 0).toNat + 15) else none) (s 14 0 0).toNat (some (64 * (s 18 0 0).toNat + 15))))) (193) (zOb 0 [.int (zI (2 * s 18 0 0 - s 14 0 0 + 1)), .ref 194, .int (zI (s 14 0 0 + 1))]))) (fun kd i hk => zKinds (P := fun kd => ∀ i, (zu (zu (zu (zu (zAll s t o) (64 * a + 10) (zOb 5 [.int (zI a), .ref (64 * a + 11), .ref (64 * a + 12), .ref (64 * a + 13), .int (zI (s 5 a 0)), .int (zI (zLen s a)), .int (zI (zWork s a)), .int (zI (zAsk s a)), .int (zI 1)])) (64 * (s 18 0 0).toNat + 15) (zOb 4 [.ref (64 * a + 10), .int (zI l)])) (194) (zAr 4 10 (va_up (fun j => if (j : Int) < s 14 0 0 then some (64 * (s 17 j 0).toNat + 15) else none) (s 14 0 0).toNat (some (64 * (s 18 0 0).toNat + 15))))) (193) (zOb 0 [.int (zI (2 * s 18 0 0 - s 14 0 0 + 1)), .ref 194, .int (zI (s 14 0 0 + 1))])) (64 * i + kd) = zCls (zOpQ s a l) kd i) ⟨?_, ?_, ?_, ?_, ?_, ?_, ?_, ?_, ?_, ?_, ?_, ?_, ?_, ?_, ?_⟩ kd hk i) (fun q hq => ?_)
  · intro i
    refine (zu_n (by omega)).trans ((zu_n (by omega)).trans ((zu_n (by omega)).trans ((zu_n (by omega)).trans ((zAll_c (by decide)).trans ?_))))
    exact rfl
  · intro i
    by_cases e3 : i = 3
    · rw [e3]
      refine (zu_at (by omega)).trans ?_
      show _ = some (zOb 0 [.int (zI (2 * (s 18 0 0 + 1) - (s 14 0 0 + 1))), .ref (if s 18 0 0 + 1 = 0 then zE else 194), .int (zI (s 14 0 0 + 1))])
      rw [if_neg (by omega), show 2 * (s 18 0 0 + 1) - (s 14 0 0 + 1) = 2 * s 18 0 0 - s 14 0 0 + 1 by omega]
    · skip
      refine (zu_n (by omega)).trans ((zu_n (by omega)).trans ((zu_n (by omega)).trans ((zu_n (by omega)).trans ((zAll_c (by decide)).trans ?_))))
      exact zif4_3 e3
  · intro i
    by_cases e2 : i = 3
    · rw [e2]
      refine (zu_n (by omega)).trans ((zu_at (by omega)).trans ?_)
      refine Eq.symm ((if_pos (show (3 = 3 ∧ 0 < s 18 0 0 + 1) from ⟨rfl, by omega⟩)).trans (some_congr (congrArg (zAr 4 10) (funext fun j => ?_))))
      show (if (j : Int) < s 14 0 0 + 1 then some (64 * (zOpQ s a l 17 j 0).toNat + 15) else none) = _
      simp only [va_up]
      by_cases h9 : j = (s 14 0 0).toNat
      · rw [if_pos h9, if_pos (by omega), show zOpQ s a l 17 j 0 = s 18 0 0 from if_pos ⟨rfl, h9, rfl⟩]
      · rw [if_neg h9, show zOpQ s a l 17 j 0 = s 17 j 0 from if_neg (fun h => h9 h.2.1)]
        by_cases h8 : (j : Int) < s 14 0 0
        · rw [if_pos h8, if_pos (by omega)]
        · rw [if_neg h8, if_neg (by omega)]
    · skip
      refine (zu_n (by omega)).trans ((zu_n (by omega)).trans ((zu_n (by omega)).trans ((zu_n (by omega)).trans ((zAll_c (by decide)).trans ?_))))
      exact zifm (fun _ => rfl) (fun _ => rfl) (fun _ => rfl) (fun _ => (if_neg (fun h => e2 h.1)).trans (if_neg (fun h => e2 h.1)).symm)
  · intro i
    refine (zu_n (by omega)).trans ((zu_n (by omega)).trans ((zu_n (by omega)).trans ((zu_n (by omega)).trans ((zAll_c (by decide)).trans ?_))))
    exact rfl
  · intro i
    refine (zu_n (by omega)).trans ((zu_n (by omega)).trans ((zu_n (by omega)).trans ((zu_n (by omega)).trans ((zAll_c (by decide)).trans ?_))))
    exact rfl
  · intro i
    refine (zu_n (by omega)).trans ((zu_n (by omega)).trans ((zu_n (by omega)).trans ((zu_n (by omega)).trans ((zAll_c (by decide)).trans ?_))))
    exact rfl
  · intro i
    refine (zu_n (by omega)).trans ((zu_n (by omega)).trans ((zu_n (by omega)).trans ((zu_n (by omega)).trans ((zAll_c (by decide)).trans ?_))))
    exact rfl
  · intro i
    refine (zu_n (by omega)).trans ((zu_n (by omega)).trans ((zu_n (by omega)).trans ((zu_n (by omega)).trans ((zAll_c (by decide)).trans ?_))))
    exact rfl
  · intro i
    refine (zu_n (by omega)).trans ((zu_n (by omega)).trans ((zu_n (by omega)).trans ((zu_n (by omega)).trans ((zAll_c (by decide)).trans ?_))))
    exact rfl
  · intro i
    by_cases e0 : i = a
    · rw [e0]
      refine (zu_n (by omega)).trans ((zu_n (by omega)).trans ((zu_n (by omega)).trans ((zu_at (by omega)).trans ?_)))
      refine Eq.symm ((if_pos (show ((a : Nat) : Int) < s 4 0 0 from ha)).trans (some_congr ?_))
      obtain ⟨q1, q2, q3, q4, q5⟩ := zSvc_cg (s := s) (s' := zOpQ s a l) (a := a) rfl rfl rfl
      rw [← q3, ← q4, ← q5, show zOpQ s a l 8 a 0 = 1 from if_pos ⟨rfl, rfl, rfl⟩]
      rfl
    · skip
      refine (zu_n (by omega)).trans ((zu_n (by omega)).trans ((zu_n (by omega)).trans ((zu_n (by omega)).trans ((zAll_c (by decide)).trans ?_))))
      refine zCls10 Iff.rfl (fun _ => ⟨rfl, rfl, rfl, (show zOpQ s a l 8 i 0 = s 8 i 0 from if_neg (fun h => e0 h.2.1)).symm⟩)
  · intro i
    refine (zu_n (by omega)).trans ((zu_n (by omega)).trans ((zu_n (by omega)).trans ((zu_n (by omega)).trans ((zAll_c (by decide)).trans ?_))))
    exact rfl
  · intro i
    refine (zu_n (by omega)).trans ((zu_n (by omega)).trans ((zu_n (by omega)).trans ((zu_n (by omega)).trans ((zAll_c (by decide)).trans ?_))))
    exact rfl
  · intro i
    refine (zu_n (by omega)).trans ((zu_n (by omega)).trans ((zu_n (by omega)).trans ((zu_n (by omega)).trans ((zAll_c (by decide)).trans ?_))))
    exact rfl
  · intro i
    refine (zu_n (by omega)).trans ((zu_n (by omega)).trans ((zu_n (by omega)).trans ((zu_n (by omega)).trans ((zAll_c (by decide)).trans ?_))))
    exact rfl
  · intro i
    by_cases e1 : i = (s 18 0 0).toNat
    · rw [e1]
      refine (zu_n (by omega)).trans ((zu_n (by omega)).trans ((zu_at (by omega)).trans ?_))
      refine Eq.symm ((if_pos (show ((s 18 0 0).toNat : Int) < s 18 0 0 + 1 by omega)).trans (some_congr ?_))
      rw [show zOpQ s a l 19 (s 18 0 0).toNat 0 = a from if_pos ⟨rfl, rfl, rfl⟩, show zOpQ s a l 20 (s 18 0 0).toNat 0 = l from if_pos ⟨rfl, rfl, rfl⟩, Int.toNat_natCast]
    · skip
      refine (zu_n (by omega)).trans ((zu_n (by omega)).trans ((zu_n (by omega)).trans ((zu_n (by omega)).trans ((zAll_c (by decide)).trans ?_))))
      refine zif2 (show ((i : Nat) : Int) < s 18 0 0 ↔ ((i : Nat) : Int) < s 18 0 0 + 1 by omega) (fun _ => ?_)
      rw [show zOpQ s a l 19 i 0 = s 19 i 0 from if_neg (fun h => e1 h.2.1), show zOpQ s a l 20 i 0 = s 20 i 0 from if_neg (fun h => e1 h.2.1)]
  · exact (zu_n (by omega)).trans ((zu_n (by omega)).trans ((zu_n (by omega)).trans ((zu_n (by omega)).trans (rfl))))
/-- the request at place p leaves the list -/
def zOpR (s : zS) (p : Int) : zS := fun g j q => if g = 14 ∧ j = 0 ∧ q = 0 then s 14 0 0 - 1 else if (g = 15 ∨ g = 16 ∨ g = 17) ∧ q = 0 ∧ p ≤ (j : Int) then s g (j + 1) 0 else s g j q
theorem zOpR_q {s : zS} {p : Int} {g j : Nat} (hg : g = 15 ∨ g = 16 ∨ g = 17) : zOpR s p g j 0 = if p ≤ (j : Int) then s g (j + 1) 0 else s g j 0 := by
  show (if g = 14 ∧ j = 0 ∧ 0 = 0 then s 14 0 0 - 1 else if (g = 15 ∨ g = 16 ∨ g = 17) ∧ 0 = 0 ∧ p ≤ (j : Int) then s g (j + 1) 0 else s g j 0) = _
  rw [if_neg (fun h => by omega)]
  by_cases h : p ≤ (j : Int)
  · rw [if_pos h, if_pos ⟨hg, rfl, h⟩]
  · rw [if_neg h, if_neg (fun h2 => h h2.2.2)]
theorem zOpR_17 {s : zS} {p : Int} {j : Nat} : zOpR s p 17 j 0 = if p ≤ (j : Int) then s 17 (j + 1) 0 else s 17 j 0 := zOpR_q (Or.inr (Or.inr rfl))
theorem zH_rem {s t : zS} {o : zOx} {p : Int} (h0 : 0 ≤ p) (h1 : p < s 14 0 0) (h2 : s 14 0 0 ≤ s 18 0 0) : (zu (zu (zAll s t o) (194) (zAr 4 10 (va_up (if p < s 14 0 0 - 1 then va_cpy (fun j => if (j : Int) < s 14 0 0 then some (64 * (s 17 j 0).toNat + 15) else none) (fun j => if (j : Int) < s 14 0 0 then some (64 * (s 17 j 0).toNat + 15) else none) (p + 1).toNat p.toNat (s 14 0 0 - 1 - p).toNat else (fun j => if (j : Int) < s 14 0 0 then some (64 * (s 17 j 0).toNat + 15) else none)) (s 14 0 0 - 1).toNat none))) (193) (zOb 0 [.int (zI (2 * s 18 0 0 - s 14 0 0 + 1)), .ref 194, .int (zI (s 14 0 0 - 1))])) = zAll (zOpR s p) t o := by
  refine zAll_eq (s := s) (M := (zu (zu (zAll s t o) (194) (zAr 4 10 (va_up (if p < s 14 0 0 - 1 then va_cpy (fun j => if (j : Int) < s 14 0 0 then some (64 * (s 17 j 0).toNat + 15) else none) (fun j => if (j : Int) < s 14 0 0 then some (64 * (s 17 j 0).toNat + 15) else none) (p + 1).toNat p.toNat (s 14 0 0 - 1 - p).toNat else (fun j => if (j : Int) < s 14 0 0 then some (64 * (s 17 j 0).toNat + 15) else none)) (s 14 0 0 - 1).toNat none))) (193) (zOb 0 [.int (zI (2 * s 18 0 0 - s 14 0 0 + 1)), .ref 194, .int (zI (s 14 0 0 - 1))]))) (fun kd i hk => zKinds (P := fun kd => ∀ i, (zu (zu (zAll s t o) (194) (zAr 4 10 (va_up (if p < s 14 0 0 - 1 then va_cpy (fun j => if (j : Int) < s 14 0 0 then some (64 * (s 17 j 0).toNat + 15) else none) (fun j => if (j : Int) < s 14 0 0 then some (64 * (s 17 j 0).toNat + 15) else none) (p + 1).toNat p.toNat (s 14 0 0 - 1 - p).toNat else (fun j => if (j : Int) < s 14 0 0 then some (64 * (s 17 j 0).toNat + 15) else none)) (s 14 0 0 - 1).toNat none))) (193) (zOb 0 [.int (zI (2 * s 18 0 0 - s 14 0 0 + 1)), .ref 194, .int (zI (s 14 0 0 - 1))])) (64 * i + kd) = zCls (zOpR s p) kd i) ⟨?_, ?_, ?_, ?_, ?_, ?_, ?_, ?_, ?_, ?_, ?_, ?_, ?_, ?_, ?_⟩ kd hk i) (fun q hq => ?_)
  · intro i
    refine (zu_n (by omega)).trans ((zu_n (by omega)).trans ((zAll_c (by decide)).trans ?_))
    exact rfl
  · intro i
    by_cases e1 : i = 3
    · rw [e1]
      refine (zu_at (by omega)).trans ?_
      show _ = some (zOb 0 [.int (zI (2 * s 18 0 0 - (s 14 0 0 - 1))), .ref (if s 18 0 0 = 0 then zE else 194), .int (zI (s 14 0 0 - 1))])
      rw [if_neg (by omega), show 2 * s 18 0 0 - (s 14 0 0 - 1) = 2 * s 18 0 0 - s 14 0 0 + 1 by omega]
    · skip
      refine (zu_n (by omega)).trans ((zu_n (by omega)).trans ((zAll_c (by decide)).trans ?_))
      exact zif4_3 e1
  · intro i
    by_cases e0 : i = 3
    · rw [e0]
      refine (zu_n (by omega)).trans ((zu_at (by omega)).trans ?_)
      refine Eq.symm ((if_pos (show (3 = 3 ∧ 0 < s 18 0 0) from ⟨rfl, by omega⟩)).trans (some_congr (congrArg (zAr 4 10) (funext fun j => ?_))))
      show (if (j : Int) < s 14 0 0 - 1 then some (64 * (zOpR s p 17 j 0).toNat + 15) else none) = _
      rw [zOpR_17]
      simp only [va_up]
      by_cases h9 : j = (s 14 0 0 - 1).toNat
      · rw [if_pos h9, if_neg (by omega)]
      · rw [if_neg h9]
        by_cases h8 : p < s 14 0 0 - 1
        · rw [if_pos h8]
          simp only [va_cpy]
          by_cases h7 : p ≤ (j : Int)
          · by_cases h6 : (j : Int) < s 14 0 0 - 1
            · rw [if_pos h6, if_pos h7, if_pos (by omega), if_pos (by omega), show (p + 1).toNat + (j - p.toNat) = j + 1 by omega]
            · rw [if_neg h6, if_neg (by omega), if_neg (by omega)]
          · rw [if_pos (by omega), if_neg h7, if_neg (by omega), if_pos (by omega)]
        · rw [if_neg h8]
          by_cases h6 : (j : Int) < s 14 0 0 - 1
          · rw [if_pos h6, if_neg (by omega), if_pos (by omega)]
          · rw [if_neg h6, if_neg (by omega)]
    · skip
      refine (zu_n (by omega)).trans ((zu_n (by omega)).trans ((zAll_c (by decide)).trans ?_))
      exact zifm (fun _ => rfl) (fun _ => rfl) (fun _ => rfl) (fun _ => (if_neg (fun h => e0 h.1)).trans (if_neg (fun h => e0 h.1)).symm)
  · intro i
    refine (zu_n (by omega)).trans ((zu_n (by omega)).trans ((zAll_c (by decide)).trans ?_))
    exact rfl
  · intro i
    refine (zu_n (by omega)).trans ((zu_n (by omega)).trans ((zAll_c (by decide)).trans ?_))
    exact rfl
  · intro i
    refine (zu_n (by omega)).trans ((zu_n (by omega)).trans ((zAll_c (by decide)).trans ?_))
    exact rfl
  · intro i
    refine (zu_n (by omega)).trans ((zu_n (by omega)).trans ((zAll_c (by decide)).trans ?_))
    exact rfl
  · intro i
    refine (zu_n (by omega)).trans ((zu_n (by omega)).trans ((zAll_c (by decide)).trans ?_))
    exact rfl
  · intro i
    refine (zu_n (by omega)).trans ((zu_n (by omega)).trans ((zAll_c (by decide)).trans ?_))
    exact rfl
  · intro i
    refine (zu_n (by omega)).trans ((zu_n (by omega)).trans ((zAll_c (by decide)).trans ?_))
    exact zCls10 Iff.rfl (fun _ => ⟨rfl, rfl, rfl, rfl⟩)
  · intro i
    refine (zu_n (by omega)).trans ((zu_n (by omega)).trans ((zAll_c (by decide)).trans ?_))
    exact rfl
  · intro i
    refine (zu_n (by omega)).trans ((zu_n (by omega)).trans ((zAll_c (by decide)).trans ?_))
    exact rfl
  · intro i
    refine (zu_n (by omega)).trans ((zu_n (by omega)).trans ((zAll_c (by decide)).trans ?_))
    exact rfl
  · intro i
    refine (zu_n (by omega)).trans ((zu_n (by omega)).trans ((zAll_c (by decide)).trans ?_))
    exact rfl
  · intro i
    refine (zu_n (by omega)).trans ((zu_n (by omega)).trans ((zAll_c (by decide)).trans ?_))
    exact rfl
  · exact (zu_n (by omega)).trans ((zu_n (by omega)).trans (rfl))
