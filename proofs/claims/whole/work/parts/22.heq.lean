/-! ===== the lists get one more; a heap written to is the heap of the next state ===== -/
theorem zAll_eq {s' s t : zS} {o : zOx} {M : zM} (hc : ∀ kd i, kd < 16 ∧ kd ≠ 5 → M (64 * i + kd) = zCls s' kd i) (ho : ∀ q, q % 64 = 5 ∨ 16 ≤ q % 64 → M q = zAll s t o q) : M = zAll s' t o := by
  funext q
  by_cases h5 : q % 64 = 5 ∨ 16 ≤ q % 64
  · rw [ho q h5]
    simp only [zAll]
    by_cases e : q % 64 = 5
    · rw [if_pos e, if_pos e]
    · rw [if_neg e, if_neg e, if_neg (show ¬ q % 64 < 16 by omega), if_neg (show ¬ q % 64 < 16 by omega)]
  · have h1 := hc (q % 64) (q / 64) (by omega)
    rw [show 64 * (q / 64) + q % 64 = q by omega] at h1
    rw [h1]
    simp only [zAll]
    rw [if_neg (by omega), if_pos (by omega)]
theorem zKinds {P : Nat → Prop} (h : P 0 ∧ P 1 ∧ P 2 ∧ P 3 ∧ P 4 ∧ P 6 ∧ P 7 ∧ P 8 ∧ P 9 ∧ P 10 ∧ P 11 ∧ P 12 ∧ P 13 ∧ P 14 ∧ P 15) : ∀ kd, kd < 16 ∧ kd ≠ 5 → P kd := fun kd hk => by
  obtain ⟨h0, h1, h2, h3, h4, h6, h7, h8, h9, h10, h11, h12, h13, h14, h15⟩ := h
  rcases (show kd = 0 ∨ kd = 1 ∨ kd = 2 ∨ kd = 3 ∨ kd = 4 ∨ kd = 6 ∨ kd = 7 ∨ kd = 8 ∨ kd = 9 ∨ kd = 10 ∨ kd = 11 ∨ kd = 12 ∨ kd = 13 ∨ kd = 14 ∨ kd = 15 by omega) with e | e | e | e | e | e | e | e | e | e | e | e | e | e | e <;> subst e <;> assumption
theorem c_addM {l : Launch} (hfl : l.stackTraces = false) (G : zG) {s t : zS} {o : zOx} (hc : zC1 s) {es : List Value} (M : zM) (e1 : M 1 = zAll s t o 1) (e2 : M 2 = zAll s t o 2) (hn : s 0 0 0 < 5) (he : M (64 * (s 0 0 0).toNat + 9) = some (zOb 2 es)) : zCn l G yJx4a65c_add_9ea2d (.code yJx4a65c_add_9ea2d cJx4a65c_add_9ea2d 2 (some .boolean)) rJx4a65c_add_9ea2d [.ref 1, .ref (64 * (s 0 0 0).toNat + 9)] M (zRi (fun xr M2 => xr = 1 ∧ M2 = zu (zu M 2 (zAr 4 10 (va_up (fun j => if (j : Int) < s 0 0 0 then some (64 * j + 9) else none) (s 0 0 0).toNat (some (64 * (s 0 0 0).toNat + 9))))) 1 (zOb 0 [.int (zI (s 0 0 0 + 1)), .ref 2, .int (zI (s 0 0 0 + 1))]))) zN := by
  have hn0 := hc.1
  have hn4 := hc.2.1
  have hn14 := hc.2.2.2.1
  have hn18 := hc.2.2.2.2.1
  by_cases h : s 0 0 0 = 0
  · have ed : zDat s 0 = 63 := if_pos h
    have h0 : M 1 = some (zOb 0 [.int (zI 0), .ref 63, .int (zI 0)]) := by rw [e1, zAll_1, ed]; rw [h]
    have h2 : M 2 = none := by rw [e2]; exact (zAll_c (kd := 2) (i := 0) (by decide)).trans (if_neg (fun h9 => by omega))
    have key := c_addB hfl G M h0 h2 (by decide) (te := 64 * (s 0 0 0).toNat + 9) (by omega) he rfl (by decide +kernel)
    have ef : va_up (fun _ => none) 0 (some (64 * (s 0 0 0).toNat + 9)) = va_up (fun j => if (j : Int) < s 0 0 0 then some (64 * j + 9) else none) (s 0 0 0).toNat (some (64 * (s 0 0 0).toNat + 9)) := funext fun j => by
      simp only [va_up]
      rw [show (s 0 0 0).toNat = 0 by omega, if_neg (show ¬ (j : Int) < s 0 0 0 by omega)]
    rw [ef] at key
    rw [show s 0 0 0 + 1 = 0 + 1 by omega]
    exact key
  · have hd := zDat_m (s := s) (t := t) (o := o) (show 0 < s 0 0 0 by omega)
    exact c_addA hfl G M (e1.trans hd.1) (e2.trans hd.2) (by omega) (by omega) (by decide) (by omega) he rfl (by decide +kernel)
theorem c_addS {l : Launch} (hfl : l.stackTraces = false) (G : zG) {s t : zS} {o : zOx} (hc : zC1 s) {es : List Value} (M : zM) (e1 : M 65 = zAll s t o 65) (e2 : M 66 = zAll s t o 66) (hn : s 4 0 0 < 8) (he : M (64 * (s 4 0 0).toNat + 10) = some (zOb 5 es)) : zCn l G yJx4a65c_add_9ea2d (.code yJx4a65c_add_9ea2d cJx4a65c_add_9ea2d 2 (some .boolean)) rJx4a65c_add_9ea2d [.ref 65, .ref (64 * (s 4 0 0).toNat + 10)] M (zRi (fun xr M2 => xr = 1 ∧ M2 = zu (zu M 66 (zAr 4 10 (va_up (fun j => if (j : Int) < s 4 0 0 then some (64 * j + 10) else none) (s 4 0 0).toNat (some (64 * (s 4 0 0).toNat + 10))))) 65 (zOb 0 [.int (zI (s 4 0 0 + 1)), .ref 66, .int (zI (s 4 0 0 + 1))]))) zN := by
  have hn0 := hc.1
  have hn4 := hc.2.1
  have hn14 := hc.2.2.2.1
  have hn18 := hc.2.2.2.2.1
  by_cases h : s 4 0 0 = 0
  · have ed : zDat s 1 = 63 := if_pos h
    have h0 : M 65 = some (zOb 0 [.int (zI 0), .ref 63, .int (zI 0)]) := by rw [e1, zAll_65, ed]; rw [h]
    have h2 : M 66 = none := by rw [e2]; exact (zAll_c (kd := 2) (i := 1) (by decide)).trans (if_neg (fun h9 => by omega))
    have key := c_addB hfl G M h0 h2 (by decide) (te := 64 * (s 4 0 0).toNat + 10) (by omega) he rfl (by decide +kernel)
    have ef : va_up (fun _ => none) 0 (some (64 * (s 4 0 0).toNat + 10)) = va_up (fun j => if (j : Int) < s 4 0 0 then some (64 * j + 10) else none) (s 4 0 0).toNat (some (64 * (s 4 0 0).toNat + 10)) := funext fun j => by
      simp only [va_up]
      rw [show (s 4 0 0).toNat = 0 by omega, if_neg (show ¬ (j : Int) < s 4 0 0 by omega)]
    rw [ef] at key
    rw [show s 4 0 0 + 1 = 0 + 1 by omega]
    exact key
  · have hd := zDat_s (s := s) (t := t) (o := o) (show 0 < s 4 0 0 by omega)
    exact c_addA hfl G M (e1.trans hd.1) (e2.trans hd.2) (by omega) (by omega) (by decide) (by omega) he rfl (by decide +kernel)
theorem c_addQ {l : Launch} (hfl : l.stackTraces = false) (G : zG) {s t : zS} {o : zOx} (hc : zC1 s) {es : List Value} (M : zM) (e1 : M 193 = zAll s t o 193) (e2 : M 194 = zAll s t o 194) (hn : s 14 0 0 < 6) (he : M (64 * (s 18 0 0).toNat + 15) = some (zOb 4 es)) : zCn l G yJx4a65c_add_9ea2d (.code yJx4a65c_add_9ea2d cJx4a65c_add_9ea2d 2 (some .boolean)) rJx4a65c_add_9ea2d [.ref 193, .ref (64 * (s 18 0 0).toNat + 15)] M (zRi (fun xr M2 => xr = 1 ∧ M2 = zu (zu M 194 (zAr 4 10 (va_up (fun j => if (j : Int) < s 14 0 0 then some (64 * (s 17 j 0).toNat + 15) else none) (s 14 0 0).toNat (some (64 * (s 18 0 0).toNat + 15))))) 193 (zOb 0 [.int (zI (2 * s 18 0 0 - s 14 0 0 + 1)), .ref 194, .int (zI (s 14 0 0 + 1))]))) zN := by
  have hn0 := hc.1
  have hn4 := hc.2.1
  have hn14 := hc.2.2.2.1
  have hn18 := hc.2.2.2.2.1
  by_cases h : s 18 0 0 = 0
  · have ed : zDat s 3 = 63 := if_pos h
    have h14 : s 14 0 0 = 0 := by have := hc.2.2.2.2.1; have := hc.2.2.2.1; omega
    have h0 : M 193 = some (zOb 0 [.int (zI 0), .ref 63, .int (zI 0)]) := by rw [e1, zAll_193, ed]; rw [h, h14]; rfl
    have h2 : M 194 = none := by rw [e2]; exact (zAll_c (kd := 2) (i := 3) (by decide)).trans (if_neg (fun h9 => by omega))
    have key := c_addB hfl G M h0 h2 (by decide) (te := 64 * (s 18 0 0).toNat + 15) (by omega) he rfl (by decide +kernel)
    have ef : va_up (fun _ => none) 0 (some (64 * (s 18 0 0).toNat + 15)) = va_up (fun j => if (j : Int) < s 14 0 0 then some (64 * (s 17 j 0).toNat + 15) else none) (s 14 0 0).toNat (some (64 * (s 18 0 0).toNat + 15)) := funext fun j => by
      simp only [va_up]
      rw [show (s 14 0 0).toNat = 0 by omega, if_neg (show ¬ (j : Int) < s 14 0 0 by omega)]
    rw [ef] at key
    rw [show 2 * s 18 0 0 - s 14 0 0 + 1 = 0 + 1 by omega, show s 14 0 0 + 1 = 1 by omega]
    exact key
  · have hd := zDat_q (s := s) (t := t) (o := o) (show 0 < s 18 0 0 by omega)
    exact c_addA hfl G M (e1.trans hd.1) (e2.trans hd.2) (by omega) (by omega) (by decide) (by omega) he rfl (by decide +kernel)
theorem zVer_up {n : Int} (h0 : 0 < n) (h : n < 30) : (zVer (n + 1) = zVer n ∧ n < zCap (zVer n)) ∨ ((n = zCap (zVer n) ∧ (zCap (zVer n) = 10 ∨ zCap (zVer n) = 15 ∨ zCap (zVer n) = 22)) ∧ zCap (zVer (n + 1)) = zCap (zVer n) + zCap (zVer n) / 2 ∧ n < zMin (zVer (n + 1)) ∧ zVer (n + 1) ≤ 3) := by
  by_cases h1 : n ≤ 10
  · by_cases h2 : n = 10
    · subst h2; right; decide
    · left
      rw [show zVer n = 0 from if_pos h1, show zVer (n + 1) = 0 from if_pos (by omega)]
      exact ⟨rfl, by show n < 10; omega⟩
  · by_cases h3 : n ≤ 15
    · by_cases h2 : n = 15
      · subst h2; right; decide
      · left
        rw [show zVer n = 1 from (if_neg h1).trans (if_pos h3), show zVer (n + 1) = 1 from (if_neg (by omega)).trans (if_pos (by omega))]
        exact ⟨rfl, by show n < 15; omega⟩
    · by_cases h4 : n ≤ 22
      · by_cases h2 : n = 22
        · subst h2; right; decide
        · left
          rw [show zVer n = 2 from (if_neg h1).trans ((if_neg h3).trans (if_pos h4)), show zVer (n + 1) = 2 from (if_neg (by omega)).trans ((if_neg (by omega)).trans (if_pos (by omega)))]
          exact ⟨rfl, by show n < 22; omega⟩
      · left
        rw [show zVer n = 3 from (if_neg h1).trans ((if_neg h3).trans (if_neg h4)), show zVer (n + 1) = 3 from (if_neg (by omega)).trans ((if_neg (by omega)).trans (if_neg (by omega)))]
        exact ⟨rfl, by show n < 33; omega⟩
theorem c_addV {l : Launch} (hfl : l.stackTraces = false) (G : zG) {s t : zS} {o : zOx} (hc : zC1 s) {es : List Value} (M : zM) (e1 : M 129 = zAll s t o 129) (e2 : ∀ v, v ≤ 3 → M (256 * v + 130) = zAll s t o (256 * v + 130)) (e3 : ∀ j : Nat, (j : Int) < s 9 0 0 → ∃ fs, M (64 * j + 14) = some (zOb 6 fs)) (hn : s 9 0 0 < 30) (he : M (64 * (s 9 0 0).toNat + 14) = some (zOb 6 es)) : zCn l G yJx4a65c_add_9ea2d (.code yJx4a65c_add_9ea2d cJx4a65c_add_9ea2d 2 (some .boolean)) rJx4a65c_add_9ea2d [.ref 129, .ref (64 * (s 9 0 0).toNat + 14)] M (zRi (fun xr M2 => xr = 1 ∧ M2 = zu (zu M (256 * zVer (s 9 0 0 + 1) + 130) (zAr 4 (zCap (zVer (s 9 0 0 + 1))) (va_up (fun j => if (j : Int) < s 9 0 0 ∧ j < zCap (zVer (s 9 0 0 + 1)) then some (64 * j + 14) else none) (s 9 0 0).toNat (some (64 * (s 9 0 0).toNat + 14))))) 129 (zOb 0 [.int (zI (s 9 0 0 + 1)), .ref (256 * zVer (s 9 0 0 + 1) + 130), .int (zI (s 9 0 0 + 1))]))) zN := by
  have hn9 := hc.2.2.1
  by_cases h : s 9 0 0 = 0
  · have ed : zDat s 2 = 63 := if_pos h
    have h0 : M 129 = some (zOb 0 [.int (zI 0), .ref 63, .int (zI 0)]) := by rw [e1, zAll_129, ed, h]
    have h2 : M 130 = none := by rw [e2 0 (by decide)]; exact (zAll_c (kd := 2) (i := 2) (by decide)).trans (if_neg (fun h9 => by have h8 : (1 : Int) ≤ s 9 0 0 := h9.2; omega))
    have key := c_addB hfl G M h0 h2 (by decide) (te := 64 * (s 9 0 0).toNat + 14) (by omega) he rfl (by decide +kernel)
    have ev : zVer (s 9 0 0 + 1) = 0 := if_pos (by omega)
    have ef : va_up (fun _ => none) 0 (some (64 * (s 9 0 0).toNat + 14)) = va_up (fun j => if (j : Int) < s 9 0 0 ∧ j < zCap (zVer (s 9 0 0 + 1)) then some (64 * j + 14) else none) (s 9 0 0).toNat (some (64 * (s 9 0 0).toNat + 14)) := funext fun j => by
      simp only [va_up]
      rw [show (s 9 0 0).toNat = 0 by omega, if_neg (show ¬ ((j : Int) < s 9 0 0 ∧ j < zCap (zVer (s 9 0 0 + 1))) by omega)]
    rw [ef] at key
    rw [ev] at key ⊢
    rw [show s 9 0 0 + 1 = 1 by omega]
    exact key
  · have hd := zDat_v (s := s) (t := t) (o := o) (show 0 < s 9 0 0 by omega) (by omega)
    have hv4 : zVer (s 9 0 0) ≤ 3 := by have := zVer_4 (s 9 0 0); omega
    rcases zVer_up (n := s 9 0 0) (by omega) hn with ⟨ev, hlt⟩ | ⟨⟨hq1, hq2⟩, hcp, hmin, hv3⟩
    · rw [ev]
      exact c_addA hfl G M (e1.trans hd.1) ((e2 _ hv4).trans hd.2) (by omega) hlt (zVer_c (show 0 < s 9 0 0 by omega) (by omega)).2.2 (by omega) he rfl (by decide +kernel)
    · have h2 : M (256 * zVer (s 9 0 0 + 1) + 130) = none := by
        rw [e2 _ hv3, show 256 * zVer (s 9 0 0 + 1) + 130 = 64 * (4 * zVer (s 9 0 0 + 1) + 2) + 2 by omega]
        refine (zAll_c (kd := 2) (by decide)).trans ?_
        show (if (4 * zVer (s 9 0 0 + 1) + 2) % 4 = 0 then _ else if (4 * zVer (s 9 0 0 + 1) + 2) % 4 = 1 then _ else if (4 * zVer (s 9 0 0 + 1) + 2) % 4 = 2 then _ else _) = _
        rw [if_neg (by omega), if_neg (by omega), if_pos (by omega), show (4 * zVer (s 9 0 0 + 1) + 2) / 4 = zVer (s 9 0 0 + 1) by omega]
        exact if_neg (fun h9 => by have := h9.2; omega)
      have hel : ∀ (j x : Nat), (fun j : Nat => if (j : Int) < s 9 0 0 ∧ j < zCap (zVer (s 9 0 0)) then some (64 * j + 14) else none) j = some x → ∃ fs, M x = some (zOb 6 fs) := fun j x hx => by
        by_cases h9 : (j : Int) < s 9 0 0 ∧ j < zCap (zVer (s 9 0 0))
        · have hx2 : some (64 * j + 14) = some x := (if_pos h9).symm.trans hx
          cases hx2
          exact e3 j h9.1
        · have hx2 : none = some x := (if_neg h9).symm.trans hx
          cases hx2
      have h0 := e1.trans hd.1
      rw [show zI (s 9 0 0) = zI ((zCap (zVer (s 9 0 0)) : Nat) : Int) by rw [← hq1]] at h0
      have key := c_addC hfl G M h0 ((e2 _ hv4).trans hd.2) h2 (by omega) (by omega) (by omega) (te := 64 * (s 9 0 0).toNat + 14) (by omega) he rfl (by decide +kernel) hel
      have ef : va_up (va_cpy (fun j => if (j : Int) < s 9 0 0 ∧ j < zCap (zVer (s 9 0 0)) then some (64 * j + 14) else none) (fun _ => none) 0 0 (zCap (zVer (s 9 0 0)))) (zCap (zVer (s 9 0 0))) (some (64 * (s 9 0 0).toNat + 14)) = va_up (fun j => if (j : Int) < s 9 0 0 ∧ j < zCap (zVer (s 9 0 0 + 1)) then some (64 * j + 14) else none) (s 9 0 0).toNat (some (64 * (s 9 0 0).toNat + 14)) := funext fun j => by
        simp only [va_up, va_cpy]
        rw [show (s 9 0 0).toNat = zCap (zVer (s 9 0 0)) by omega]
        by_cases h9 : j = zCap (zVer (s 9 0 0))
        · rw [if_pos h9, if_pos h9]
        · rw [if_neg h9, if_neg h9]
          by_cases h8 : j < zCap (zVer (s 9 0 0))
          · rw [if_pos (by omega), if_pos (by omega), if_pos (by omega)]
            congr 1
            omega
          · rw [if_neg (by omega), if_neg (by omega)]
      rw [ef, ← hcp, ← hq1] at key
      exact key
theorem zAskN_cg {s s' : zS} {a : Nat} (h : s 6 a = s' 6 a) : ∀ k, zAskN s a k = zAskN s' a k
  | 0 => rfl
  | k + 1 => by rw [zAskN, zAskN, zAskN_cg h k, h]
theorem zSvc_cg {s s' : zS} {a : Nat} (h5 : s 5 a 0 = s' 5 a 0) (h6 : s 6 a = s' 6 a) (h7 : s 7 a = s' 7 a) : zSc s a = zSc s' a ∧ (∀ k, zOff s a k = zOff s' a k) ∧ zLen s a = zLen s' a ∧ zWork s a = zWork s' a ∧ zAsk s a = zAsk s' a := by
  have e1 : zSc s a = zSc s' a := by unfold zSc; rw [h5]
  have e2 : ∀ k, zOff s a k = zOff s' a k := fun k => by unfold zOff; rw [h7]
  refine ⟨e1, e2, ?_, ?_, ?_⟩
  · unfold zLen; rw [e1, e2]
  · unfold zWork; rw [e1, h6, h7]
  · unfold zAsk; rw [e1, zAskN_cg h6]
theorem zCls10 {s s' : zS} {i : Nat} (h4 : (i : Int) < s 4 0 0 ↔ (i : Int) < s' 4 0 0) (h : (i : Int) < s 4 0 0 → s 5 i 0 = s' 5 i 0 ∧ s 6 i = s' 6 i ∧ s 7 i = s' 7 i ∧ s 8 i 0 = s' 8 i 0) : zCls s 10 i = zCls s' 10 i := by
  by_cases h9 : (i : Int) < s 4 0 0
  · obtain ⟨h5, h6, h7, h8⟩ := h h9
    obtain ⟨e1, e2, e3, e4, e5⟩ := zSvc_cg h5 h6 h7
    refine (if_pos h9).trans (Eq.trans ?_ (if_pos (h4.mp h9)).symm)
    rw [h5, h8, e3, e4, e5]
  · exact (if_neg h9).trans (if_neg (fun h2 => h9 (h4.mpr h2))).symm
theorem zu_at {M : zM} {t q : Nat} {o : zO} (h : q = t) : zu M t o q = some o := if_pos h
theorem zif2 {c c' : Prop} [Decidable c] [Decidable c'] {x y : Option zO} (h : c ↔ c') (e : c → x = y) : (if c then x else none) = (if c' then y else none) := by
  by_cases hc : c
  · rw [if_pos hc, if_pos (h.mp hc)]; exact e hc
  · rw [if_neg hc, if_neg (fun h2 => hc (h.mpr h2))]
theorem some_congr {x y : zO} (h : x = y) : some x = some y := by rw [h]
theorem zH_hire {s t : zS} {o : zOx} {a b c : Int} (h0 : 0 ≤ s 0 0 0) (hd : s 21 ((s 0 0 0).toNat + 4) = fun _ => -1) : (zu (zu (zu (zu (zu (zu (zAll s t o) (64 * (s 0 0 0).toNat + 9) (zOb 2 [.int (zI a), .int (zI b), .int (zI c), .ref (64 * ((s 0 0 0).toNat + 4) + 6)])) (64 * ((s 0 0 0).toNat + 4) + 6) (zOb 1 [.ref (64 * ((s 0 0 0).toNat + 4) + 7), .ref (64 * ((s 0 0 0).toNat + 4) + 8)])) (64 * ((s 0 0 0).toNat + 4) + 7) (zAi 0 600 (fun _ => -1))) (64 * ((s 0 0 0).toNat + 4) + 8) (zAi 0 601 (zTk (fun _ => -1)))) (2) (zAr 4 10 (va_up (fun j => if (j : Int) < s 0 0 0 then some (64 * j + 9) else none) (s 0 0 0).toNat (some (64 * (s 0 0 0).toNat + 9))))) (1) (zOb 0 [.int (zI (s 0 0 0 + 1)), .ref 2, .int (zI (s 0 0 0 + 1))])) = zAll (zOpH s a b c) t o := by
  refine zAll_eq (s := s) (M := (zu (zu (zu (zu (zu (zu (zAll s t o) (64 * (s 0 0 0).toNat + 9) (zOb 2 [.int (zI a), .int (zI b), .int (zI c), .ref (64 * ((s 0 0 0).toNat + 4) + 6)])) (64 * ((s 0 0 0).toNat + 4) + 6) (zOb 1 [.ref (64 * ((s 0 0 0).toNat + 4) + 7), .ref (64 * ((s 0 0 0).toNat + 4) + 8)])) (64 * ((s 0 0 0).toNat + 4) + 7) (zAi 0 600 (fun _ => -1))) (64 * ((s 0 0 0).toNat + 4) + 8) (zAi 0 601 (zTk (fun _ => -1)))) (2) (zAr 4 10 (va_up (fun j => if (j : Int) < s 0 0 0 then some (64 * j + 9) else none) (s 0 0 0).toNat (some (64 * (s 0 0 0).toNat + 9))))) (1) (zOb 0 [.int (zI (s 0 0 0 + 1)), .ref 2, .int (zI (s 0 0 0 + 1))]))) (fun kd i hk => zKinds (P := fun kd => ∀ i, (zu (zu (zu (zu (zu (zu (zAll s t o) (64 * (s 0 0 0).toNat + 9) (zOb 2 [.int (zI a), .int (zI b), .int (zI c), .ref (64 * ((s 0 0 0).toNat + 4) + 6)])) (64 * ((s 0 0 0).toNat + 4) + 6) (zOb 1 [.ref (64 * ((s 0 0 0).toNat + 4) + 7), .ref (64 * ((s 0 0 0).toNat + 4) + 8)])) (64 * ((s 0 0 0).toNat + 4) + 7) (zAi 0 600 (fun _ => -1))) (64 * ((s 0 0 0).toNat + 4) + 8) (zAi 0 601 (zTk (fun _ => -1)))) (2) (zAr 4 10 (va_up (fun j => if (j : Int) < s 0 0 0 then some (64 * j + 9) else none) (s 0 0 0).toNat (some (64 * (s 0 0 0).toNat + 9))))) (1) (zOb 0 [.int (zI (s 0 0 0 + 1)), .ref 2, .int (zI (s 0 0 0 + 1))])) (64 * i + kd) = zCls (zOpH s a b c) kd i) ⟨?_, ?_, ?_, ?_, ?_, ?_, ?_, ?_, ?_, ?_, ?_, ?_, ?_, ?_, ?_⟩ kd hk i) (fun q hq => ?_)
  · intro i
    refine (zu_n (by omega)).trans ((zu_n (by omega)).trans ((zu_n (by omega)).trans ((zu_n (by omega)).trans ((zu_n (by omega)).trans ((zu_n (by omega)).trans ((zAll_c (by decide)).trans ?_))))))
    exact rfl
  · intro i
    by_cases e5 : i = 0
    · subst e5
      refine (zu_at (by omega)).trans ?_
      show _ = some (zOb 0 [.int (zI (s 0 0 0 + 1)), .ref (if s 0 0 0 + 1 = 0 then zE else 2), .int (zI (s 0 0 0 + 1))])
      rw [if_neg (by omega)]
    · skip
      refine (zu_n (by omega)).trans ((zu_n (by omega)).trans ((zu_n (by omega)).trans ((zu_n (by omega)).trans ((zu_n (by omega)).trans ((zu_n (by omega)).trans ((zAll_c (by decide)).trans ?_))))))
      show (if i = 0 then _ else _) = (if i = 0 then _ else _)
      rw [if_neg e5, if_neg e5]
      rfl
  · intro i
    by_cases e4 : i = 0
    · subst e4
      refine (zu_n (by omega)).trans ((zu_at (by omega)).trans ?_)
      refine Eq.symm ((if_pos ⟨rfl, (show 0 < s 0 0 0 + 1 by omega)⟩).trans (some_congr (congrArg (zAr 4 10) (funext fun j => ?_))))
      show (if (j : Int) < s 0 0 0 + 1 then some (64 * j + 9) else none) = _
      simp only [va_up]
      by_cases h9 : j = (s 0 0 0).toNat
      · rw [if_pos h9, if_pos (by omega), h9]
      · rw [if_neg h9]
        by_cases h8 : (j : Int) < s 0 0 0
        · rw [if_pos h8, if_pos (by omega)]
        · rw [if_neg h8, if_neg (by omega)]
    · skip
      refine (zu_n (by omega)).trans ((zu_n (by omega)).trans ((zu_n (by omega)).trans ((zu_n (by omega)).trans ((zu_n (by omega)).trans ((zu_n (by omega)).trans ((zAll_c (by decide)).trans ?_))))))
      have e9 : ∀ x : Option zO, (if i % 4 = 0 then (if i = 0 ∧ 0 < s 0 0 0 then some (zAr 4 10 (fun j => if (j : Int) < s 0 0 0 then some (64 * j + 9) else none)) else none) else x) = (if i % 4 = 0 then (if i = 0 ∧ 0 < s 0 0 0 + 1 then some (zAr 4 10 (fun j => if (j : Int) < s 0 0 0 + 1 then some (64 * j + 9) else none)) else none) else x) := fun x => by
        by_cases h : i % 4 = 0
        · rw [if_pos h, if_pos h, if_neg (fun h => e4 h.1), if_neg (fun h => e4 h.1)]
        · rw [if_neg h, if_neg h]
      exact e9 _
  · intro i
    refine (zu_n (by omega)).trans ((zu_n (by omega)).trans ((zu_n (by omega)).trans ((zu_n (by omega)).trans ((zu_n (by omega)).trans ((zu_n (by omega)).trans ((zAll_c (by decide)).trans ?_))))))
    exact rfl
  · intro i
    refine (zu_n (by omega)).trans ((zu_n (by omega)).trans ((zu_n (by omega)).trans ((zu_n (by omega)).trans ((zu_n (by omega)).trans ((zu_n (by omega)).trans ((zAll_c (by decide)).trans ?_))))))
    exact rfl
  · intro i
    by_cases e1 : i = (s 0 0 0).toNat + 4
    · subst e1
      refine (zu_n (by omega)).trans ((zu_n (by omega)).trans ((zu_n (by omega)).trans ((zu_n (by omega)).trans ((zu_at (by omega)).trans ?_))))
      exact (if_pos (show ((((s 0 0 0).toNat + 4 : Nat)) : Int) < 4 + (s 0 0 0 + 1) by omega)).symm
    · skip
      refine (zu_n (by omega)).trans ((zu_n (by omega)).trans ((zu_n (by omega)).trans ((zu_n (by omega)).trans ((zu_n (by omega)).trans ((zu_n (by omega)).trans ((zAll_c (by decide)).trans ?_))))))
      exact zif2 (show ((i : Nat) : Int) < 4 + s 0 0 0 ↔ ((i : Nat) : Int) < 4 + (s 0 0 0 + 1) by omega) (fun _ => rfl)
  · intro i
    by_cases e2 : i = (s 0 0 0).toNat + 4
    · subst e2
      refine (zu_n (by omega)).trans ((zu_n (by omega)).trans ((zu_n (by omega)).trans ((zu_at (by omega)).trans ?_)))
      refine Eq.symm ((if_pos (show ((((s 0 0 0).toNat + 4 : Nat)) : Int) < 4 + (s 0 0 0 + 1) by omega)).trans (some_congr ?_))
      show zAi 0 600 (s 21 ((s 0 0 0).toNat + 4)) = _
      rw [hd]
    · skip
      refine (zu_n (by omega)).trans ((zu_n (by omega)).trans ((zu_n (by omega)).trans ((zu_n (by omega)).trans ((zu_n (by omega)).trans ((zu_n (by omega)).trans ((zAll_c (by decide)).trans ?_))))))
      exact zif2 (show ((i : Nat) : Int) < 4 + s 0 0 0 ↔ ((i : Nat) : Int) < 4 + (s 0 0 0 + 1) by omega) (fun _ => rfl)
  · intro i
    by_cases e3 : i = (s 0 0 0).toNat + 4
    · subst e3
      refine (zu_n (by omega)).trans ((zu_n (by omega)).trans ((zu_at (by omega)).trans ?_))
      refine Eq.symm ((if_pos (show ((((s 0 0 0).toNat + 4 : Nat)) : Int) < 4 + (s 0 0 0 + 1) by omega)).trans (some_congr ?_))
      show zAi 0 601 (zTk (s 21 ((s 0 0 0).toNat + 4))) = _
      rw [hd]
    · skip
      refine (zu_n (by omega)).trans ((zu_n (by omega)).trans ((zu_n (by omega)).trans ((zu_n (by omega)).trans ((zu_n (by omega)).trans ((zu_n (by omega)).trans ((zAll_c (by decide)).trans ?_))))))
      exact zif2 (show ((i : Nat) : Int) < 4 + s 0 0 0 ↔ ((i : Nat) : Int) < 4 + (s 0 0 0 + 1) by omega) (fun _ => rfl)
  · intro i
    by_cases e0 : i = (s 0 0 0).toNat
    · subst e0
      refine (zu_n (by omega)).trans ((zu_n (by omega)).trans ((zu_n (by omega)).trans ((zu_n (by omega)).trans ((zu_n (by omega)).trans ((zu_at (by omega)).trans ?_)))))
      refine Eq.symm ((if_pos (show ((s 0 0 0).toNat : Int) < s 0 0 0 + 1 by omega)).trans (some_congr ?_))
      rw [show zOpH s a b c 1 (s 0 0 0).toNat 0 = a from if_pos ⟨rfl, rfl, rfl⟩, show zOpH s a b c 2 (s 0 0 0).toNat 0 = b from if_pos ⟨rfl, rfl, rfl⟩, show zOpH s a b c 3 (s 0 0 0).toNat 0 = c from if_pos ⟨rfl, rfl, rfl⟩]
    · skip
      refine (zu_n (by omega)).trans ((zu_n (by omega)).trans ((zu_n (by omega)).trans ((zu_n (by omega)).trans ((zu_n (by omega)).trans ((zu_n (by omega)).trans ((zAll_c (by decide)).trans ?_))))))
      refine zif2 (show ((i : Nat) : Int) < s 0 0 0 ↔ ((i : Nat) : Int) < s 0 0 0 + 1 by omega) (fun _ => ?_)
      rw [show zOpH s a b c 1 i 0 = s 1 i 0 from if_neg (fun h => e0 h.2.1), show zOpH s a b c 2 i 0 = s 2 i 0 from if_neg (fun h => e0 h.2.1), show zOpH s a b c 3 i 0 = s 3 i 0 from if_neg (fun h => e0 h.2.1)]
  · intro i
    refine (zu_n (by omega)).trans ((zu_n (by omega)).trans ((zu_n (by omega)).trans ((zu_n (by omega)).trans ((zu_n (by omega)).trans ((zu_n (by omega)).trans ((zAll_c (by decide)).trans ?_))))))
    exact zCls10 Iff.rfl (fun _ => ⟨rfl, rfl, rfl, rfl⟩)
  · intro i
    refine (zu_n (by omega)).trans ((zu_n (by omega)).trans ((zu_n (by omega)).trans ((zu_n (by omega)).trans ((zu_n (by omega)).trans ((zu_n (by omega)).trans ((zAll_c (by decide)).trans ?_))))))
    exact rfl
  · intro i
    refine (zu_n (by omega)).trans ((zu_n (by omega)).trans ((zu_n (by omega)).trans ((zu_n (by omega)).trans ((zu_n (by omega)).trans ((zu_n (by omega)).trans ((zAll_c (by decide)).trans ?_))))))
    exact rfl
  · intro i
    refine (zu_n (by omega)).trans ((zu_n (by omega)).trans ((zu_n (by omega)).trans ((zu_n (by omega)).trans ((zu_n (by omega)).trans ((zu_n (by omega)).trans ((zAll_c (by decide)).trans ?_))))))
    exact rfl
  · intro i
    refine (zu_n (by omega)).trans ((zu_n (by omega)).trans ((zu_n (by omega)).trans ((zu_n (by omega)).trans ((zu_n (by omega)).trans ((zu_n (by omega)).trans ((zAll_c (by decide)).trans ?_))))))
    exact rfl
  · intro i
    refine (zu_n (by omega)).trans ((zu_n (by omega)).trans ((zu_n (by omega)).trans ((zu_n (by omega)).trans ((zu_n (by omega)).trans ((zu_n (by omega)).trans ((zAll_c (by decide)).trans ?_))))))
    exact rfl
  · exact (zu_n (by omega)).trans ((zu_n (by omega)).trans ((zu_n (by omega)).trans ((zu_n (by omega)).trans ((zu_n (by omega)).trans ((zu_n (by omega)).trans (rfl))))))
