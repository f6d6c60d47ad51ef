/-! ===== each call keeps what holds; the model's questions as answers ===== -/
/-- what goes on from call to call -/
def zK (s N : zS) : Prop := zInv N ∧ (∀ j, N 3 j 0 ≤ 600) ∧ N 18 0 0 ≤ s 18 0 0 + 1
theorem zK_rf {s : zS} (h : zInv s) (h3 : ∀ j, s 3 j 0 ≤ 600) : zK s s := ⟨h, h3, by omega⟩
theorem zSw_3 : ∀ (n : Nat) (c : zS) (p : Nat) (m : Int), (∀ j, (zSw n c p m).1 3 j 0 = c 3 j 0) ∧ (zSw n c p m).1 18 0 0 = c 18 0 0
  | 0, _, _, _ => ⟨fun _ => rfl, rfl⟩
  | n + 1, c, p, m => by
    rw [zSw]
    split
    · exact zSw_3 n c (p + 1) m
    · exact zSw_3 n (zSwB c p) p (m + 1)
theorem zSrv_k {c s : zS} (h : zInv c) (h3 : ∀ j, c 3 j 0 ≤ 600) (h18 : c 18 0 0 ≤ s 18 0 0 + 1) : zK s (zSrv c).1 := by
  have h14 := h.c.2.2.2.1
  have e := zSw_3 (c 14 0 0).toNat c 0 0
  exact ⟨zSw_inv _ h (by omega), fun j => by rw [e.1 j]; exact h3 j, by rw [e.2]; exact h18⟩
theorem xHire_k {s : zS} (h : zInv s) (h3 : ∀ j, s 3 j 0 ≤ 600) (a b d : Int) : zK s (xHire s a b d).2.2 := by
  unfold xHire
  split
  · rename_i h1
    split
    · rename_i h2
      refine ⟨h.hire h2 h1.1 h1.2.1 (by omega), fun j => ?_, show s 18 0 0 ≤ s 18 0 0 + 1 by omega⟩
      show zOpH s a b d 3 j 0 ≤ 600
      by_cases e : j = (s 0 0 0).toNat
      · rw [show zOpH s a b d 3 j 0 = d from if_pos ⟨rfl, e, rfl⟩]; omega
      · rw [show zOpH s a b d 3 j 0 = s 3 j 0 from if_neg (fun h => e h.2.1)]; exact h3 j
    · exact zK_rf h h3
  · exact zK_rf h h3
theorem xService_k {s : zS} (h : zInv s) (h3 : ∀ j, s 3 j 0 ≤ 600) (a b : Int) : zK s (xService s a b).2.2 := by
  unfold xService
  split
  · rename_i h1
    split
    · rename_i h2
      exact ⟨h.svc h2 (by omega) h1.2, h3, show s 18 0 0 ≤ s 18 0 0 + 1 by omega⟩
    · exact zK_rf h h3
  · exact zK_rf h h3
theorem xStep_k {s : zS} (h : zInv s) (h3 : ∀ j, s 3 j 0 ≤ 600) (a b d : Int) : zK s (xStep s a b d).2.2 := by
  unfold xStep
  split
  · rename_i h1
    split
    · rename_i h2
      split
      · rename_i h4
        exact ⟨h.step (by omega) h4.2 h4.1 h2.1 h2.2, h3, show s 18 0 0 ≤ s 18 0 0 + 1 by omega⟩
      · exact zK_rf h h3
    · exact zK_rf h h3
  · exact zK_rf h h3
theorem xUsual_k {s : zS} (h : zInv s) (h3 : ∀ j, s 3 j 0 ≤ 600) (a : Int) : zK s (xUsual s a).2.2 := by
  unfold xUsual
  split
  · rename_i h1
    split
    · rename_i h2
      have h4 := h.c.2.1
      have h52 := h.2.2.2.1 (s 4 0 0).toNat (by omega)
      have hl : (((s 4 0 0).toNat : Nat) : Int) < s 4 0 0 + 1 := by omega
      have e5 : ∀ k m, zOpP (zOpN s) (s 4 0 0).toNat k m 5 (s 4 0 0).toNat 0 = s 5 (s 4 0 0).toNat 0 + 1 := fun k m => zP5 (zOpN s) _ k m
      have st : ∀ u k m, zInv u → u 4 0 0 = s 4 0 0 + 1 → u 8 (s 4 0 0).toNat 0 = 0 → u 5 (s 4 0 0).toNat 0 < 5 → -1 ≤ k ∧ k < 4 → 1 ≤ m ∧ m ≤ 200 → zInv (zOpP u (s 4 0 0).toNat k m) := fun u k m hu u4 u8 u5 hk hm => hu.step (by rw [u4]; exact hl) u8 u5 hk hm
      have f5 : ∀ u k m, zOpP u (s 4 0 0).toNat k m 5 (s 4 0 0).toNat 0 = u 5 (s 4 0 0).toNat 0 + 1 := fun u k m => zP5 u _ k m
      have i1 : ∀ k m, -1 ≤ k ∧ k < 4 → 1 ≤ m ∧ m ≤ 200 → zInv (zOpP (zOpN s) (s 4 0 0).toNat k m) := fun k m hk hm => h.svc h2 hk hm
      refine ⟨?_, ?_, ?_⟩
      · show zInv (zUs (zOpN s) (s 4 0 0).toNat a)
        have b5 : zOpN s 5 (s 4 0 0).toNat 0 = 0 := h52.1
        unfold zUs
        split
        · exact st _ _ _ (i1 _ _ (by decide) (by decide)) rfl h52.2 (by rw [f5, b5]; decide) (by decide) (by decide)
        · split
          · exact st _ _ _ (st _ _ _ (st _ _ _ (i1 _ _ (by decide) (by decide)) rfl h52.2 (by rw [f5, b5]; decide) (by decide) (by decide)) rfl h52.2 (by rw [f5, f5, b5]; decide) (by decide) (by decide)) rfl h52.2 (by rw [f5, f5, f5, b5]; decide) (by decide) (by decide)
          · split
            · exact st _ _ _ (st _ _ _ (i1 _ _ (by decide) (by decide)) rfl h52.2 (by rw [f5, b5]; decide) (by decide) (by decide)) rfl h52.2 (by rw [f5, f5, b5]; decide) (by decide) (by decide)
            · exact i1 _ _ (by decide) (by decide)
      · intro j
        show zUs (zOpN s) (s 4 0 0).toNat a 3 j 0 ≤ 600
        unfold zUs
        split
        · exact h3 j
        · split
          · exact h3 j
          · split
            · exact h3 j
            · exact h3 j
      · show zUs (zOpN s) (s 4 0 0).toNat a 18 0 0 ≤ s 18 0 0 + 1
        unfold zUs
        split
        · show s 18 0 0 ≤ s 18 0 0 + 1; omega
        · split
          · show s 18 0 0 ≤ s 18 0 0 + 1; omega
          · split
            · show s 18 0 0 ≤ s 18 0 0 + 1; omega
            · show s 18 0 0 ≤ s 18 0 0 + 1; omega
    · exact zK_rf h h3
  · exact zK_rf h h3
theorem zBook_k {s : zS} (h : zInv s) (h3 : ∀ j, s 3 j 0 ≤ 600) {a : Nat} {who : Nat → Bool} {x : Int} (ha : (a : Int) < s 4 0 0) (hn : s 9 0 0 < 30) (hx : 0 ≤ x) (hF : ¬ zFind s who a x 600 = -1) : zK s (zOpB s a (zGet s who a (zFind s who a x 600)) (zChair s a (zFind s who a x 600)) (zFind s who a x 600)) := by
  have hfo := (zFind_r s who a x 600).resolve_left hF
  exact ⟨h.bookB ha hn (by omega) hfo.2.1 hfo.2.2, h3, show s 18 0 0 ≤ s 18 0 0 + 1 by omega⟩
theorem xBook_k {s : zS} (h : zInv s) (h3 : ∀ j, s 3 j 0 ≤ 600) (a x : Int) : zK s (xBook s a x).2.2 := by
  unfold xBook
  split
  · rename_i h1
    split
    · rename_i h2
      split
      · exact zK_rf h h3
      · rename_i h4
        exact zBook_k h h3 (by omega) h2 h1.2.1 h4
    · exact zK_rf h h3
  · exact zK_rf h h3
theorem xBookW_k {s : zS} (h : zInv s) (h3 : ∀ j, s 3 j 0 ≤ 600) (a w x : Int) : zK s (xBookW s a w x).2.2 := by
  unfold xBookW
  split
  · rename_i h1
    split
    · rename_i h2
      split
      · exact zK_rf h h3
      · rename_i h4
        exact zBook_k h h3 (by omega) h2 h1.2.2.1 h4
    · exact zK_rf h h3
  · exact zK_rf h h3
theorem xDrop_k {s : zS} (h : zInv s) (h3 : ∀ j, s 3 j 0 ≤ 600) (a : Int) : zK s (xDrop s a).2.2 := by
  unfold xDrop
  split
  · rename_i h1
    exact zSrv_k (h.out (v := a.toNat) (by omega) h1.2) h3 (show s 18 0 0 ≤ s 18 0 0 + 1 by omega)
  · exact zK_rf h h3
theorem xMove_k {s : zS} (h : zInv s) (h3 : ∀ j, s 3 j 0 ≤ 600) (a x : Int) : zK s (xMove s a x).2.2 := by
  unfold xMove
  split
  · rename_i h1
    split
    · exact zK_rf h h3
    · rename_i h4
      have hio := h.out (v := a.toNat) (by omega) h1.1.2
      have hfo := (zFind_r (zOpO s a.toNat) (zBit 31) (s 10 a.toNat 0).toNat x 600).resolve_left h4
      have hvs := h.c.2.2.2.2.2.2.2.2.2.2.1 a.toNat (by omega)
      have hov : (((s 10 a.toNat 0).toNat : Nat) : Int) = s 10 a.toNat 0 := by omega
      have hpl := hio.place (v := a.toNat) (a := (s 10 a.toNat 0).toNat) (who := zBit 31) (x := (zFind (zOpO s a.toNat) (zBit 31) (s 10 a.toNat 0).toNat x 600)) (show ((a.toNat : Nat) : Int) < s 9 0 0 by omega) (if_pos ⟨rfl, rfl, rfl⟩) hov.symm (by omega) hfo.2.1 hfo.2.2
      exact zSrv_k hpl h3 (show s 18 0 0 ≤ s 18 0 0 + 1 by omega)
  · exact zK_rf h h3
theorem xReq_k {s : zS} (h : zInv s) (h3 : ∀ j, s 3 j 0 ≤ 600) (h18 : s 18 0 0 < 1000) (a x : Int) : zK s (xReq s a x).2.2 := by
  unfold xReq
  split
  · rename_i h1
    split
    · rename_i h2
      exact ⟨h.req (by omega) h1.2 h2 h18, h3, show s 18 0 0 + 1 ≤ s 18 0 0 + 1 by omega⟩
    · exact zK_rf h h3
  · exact zK_rf h h3
theorem xAsk_k {s : zS} (h : zInv s) (h3 : ∀ j, s 3 j 0 ≤ 600) (p : Prop) [Decidable p] (v : Int) : zK s (xAsk s p v).2.2 := by
  unfold xAsk
  split
  · exact zK_rf h h3
  · exact zK_rf h h3
theorem zY_q {s t c : zS} {o : zOx} {P P' : Prop} [Decidable P'] {v v' : Int} (hb9 : zB t) (hr : zRel c t) (hP : P ↔ P') (hv : P' → v = v') : ∀ r M', zRi (fun xr M2 => (P ∧ xr = v ∧ M2 = zAll s (zsu t 25 0 0 0) o) ∨ (¬ P ∧ xr = 0 ∧ M2 = zAll s (zsu t 25 0 0 1) o)) r M' → zRi (zY s o (xAsk c P' v')) r M' := by
  intro r M' h
  obtain ⟨x, e, h | h⟩ := h
  · obtain ⟨h1, h2, h3⟩ := h
    subst h3
    exact ⟨x, e, zY_of (k := 0) (v := v') (if_pos (hP.mp h1)) (zB_u hb9 (by omega)) (hr.x (by omega) 0 0 0) rfl (fun _ => h2.trans (hv (hP.mp h1)))⟩
  · obtain ⟨h1, h2, h3⟩ := h
    subst h3
    exact ⟨x, e, zY_of (k := 1) (v := 0) (if_neg (fun h => h1 (hP.mpr h))) (zB_u hb9 (by omega)) (hr.x (by omega) 0 0 1) rfl (fun h => absurd h (by decide))⟩
theorem zY_e {s t c : zS} {o : zOx} {P P' : Prop} [Decidable P'] {v v' : Int} (hb9 : zB t) (hr : zRel c t) (hP : P ↔ P') (hv : P' → v = v') : ∀ r M', zRi (fun xr M2 => (P ∧ xr = v ∧ ∃ p q : Int, M2 = zAll s (zFd (zsu t 25 0 0 0) p q) o ∧ (-1 ≤ p ∧ p ≤ 1000) ∧ (-1 ≤ q ∧ q ≤ 1000)) ∨ (¬ P ∧ xr = 0 ∧ M2 = zAll s (zsu t 25 0 0 1) o)) r M' → zRi (zY s o (xAsk c P' v')) r M' := by
  intro r M' h
  obtain ⟨x, e, h | h⟩ := h
  · obtain ⟨h1, h2, p, q, h3, hp, hq⟩ := h
    subst h3
    exact ⟨x, e, zY_of (k := 0) (v := v') (if_pos (hP.mp h1)) (zB_Fd (zB_u hb9 (by omega)) hp hq) ((hr.x (by omega) 0 0 0).fd p q) rfl (fun _ => h2.trans (hv (hP.mp h1)))⟩
  · obtain ⟨h1, h2, h3⟩ := h
    subst h3
    exact ⟨x, e, zY_of (k := 1) (v := 0) (if_neg (fun h => h1 (hP.mpr h))) (zB_u hb9 (by omega)) (hr.x (by omega) 0 0 1) rfl (fun h => absurd h (by decide))⟩
theorem q_requestAt {l : Launch} (hfl : l.stackTraces = false) (G : zG) {s t c : zS} {o : zOx} (hc : zC1 t) (hb9 : zB t) (hI : zInv c) (hr : zRel c t) (h3 : ∀ j, t 3 j 0 ≤ 600) {a : Int} (ha : zR a) : zCn l G yX7_requestAt (.code yX7_requestAt cX7_requestAt 2 (some .int)) rX7_requestAt [.ref 16, .int (zI a)] (zAll s t o) (zRi (zY s o (xAsk c (0 ≤ a ∧ a < c 14 0 0) (c 15 a.toNat 0)))) zN := by
  have e0 := hr.1 0 0 0 (by omega)
  have e4 := hr.1 4 0 0 (by omega)
  have e9 := hr.1 9 0 0 (by omega)
  have e14 := hr.2.1
  exact (c_X7_requestAt hfl G (s := s) (t := t) (o := o) hc hb9 ha).mono (zY_q hb9 hr (by rw [e14]) (fun h => (hr.2.2 a.toNat (by omega)).1))
theorem q_lengthOf {l : Launch} (hfl : l.stackTraces = false) (G : zG) {s t c : zS} {o : zOx} (hc : zC1 t) (hb9 : zB t) (hI : zInv c) (hr : zRel c t) (h3 : ∀ j, t 3 j 0 ≤ 600) {a : Int} (ha : zR a) : zCn l G yX7_lengthOf (.code yX7_lengthOf cX7_lengthOf 2 (some .int)) rX7_lengthOf [.ref 16, .int (zI a)] (zAll s t o) (zRi (zY s o (xAsk c (0 ≤ a ∧ a < c 4 0 0) (zLen c a.toNat)))) zN := by
  have e0 := hr.1 0 0 0 (by omega)
  have e4 := hr.1 4 0 0 (by omega)
  have e9 := hr.1 9 0 0 (by omega)
  have e14 := hr.2.1
  exact (c_X7_lengthOf hfl G (s := s) (t := t) (o := o) hc hb9 ha).mono (zY_q hb9 hr (by rw [e4]) (fun _ => hr.1.le _))
theorem q_workOf {l : Launch} (hfl : l.stackTraces = false) (G : zG) {s t c : zS} {o : zOx} (hc : zC1 t) (hb9 : zB t) (hI : zInv c) (hr : zRel c t) (h3 : ∀ j, t 3 j 0 ≤ 600) {a : Int} (ha : zR a) : zCn l G yX7_workOf (.code yX7_workOf cX7_workOf 2 (some .int)) rX7_workOf [.ref 16, .int (zI a)] (zAll s t o) (zRi (zY s o (xAsk c (0 ≤ a ∧ a < c 4 0 0) (zWork c a.toNat)))) zN := by
  have e0 := hr.1 0 0 0 (by omega)
  have e4 := hr.1 4 0 0 (by omega)
  have e9 := hr.1 9 0 0 (by omega)
  have e14 := hr.2.1
  exact (c_X7_workOf hfl G (s := s) (t := t) (o := o) hc hb9 ha).mono (zY_q hb9 hr (by rw [e4]) (fun _ => (hr.1.svc _).2.2.2.1))
theorem q_skillsOf {l : Launch} (hfl : l.stackTraces = false) (G : zG) {s t c : zS} {o : zOx} (hc : zC1 t) (hb9 : zB t) (hI : zInv c) (hr : zRel c t) (h3 : ∀ j, t 3 j 0 ≤ 600) {a : Int} (ha : zR a) : zCn l G yX7_skillsOf (.code yX7_skillsOf cX7_skillsOf 2 (some .int)) rX7_skillsOf [.ref 16, .int (zI a)] (zAll s t o) (zRi (zY s o (xAsk c (0 ≤ a ∧ a < c 4 0 0) (zAsk c a.toNat)))) zN := by
  have e0 := hr.1 0 0 0 (by omega)
  have e4 := hr.1 4 0 0 (by omega)
  have e9 := hr.1 9 0 0 (by omega)
  have e14 := hr.2.1
  exact (c_X7_skillsOf hfl G (s := s) (t := t) (o := o) hc hb9 ha).mono (zY_q hb9 hr (by rw [e4]) (fun _ => (hr.1.svc _).2.2.2.2))
theorem q_startOf {l : Launch} (hfl : l.stackTraces = false) (G : zG) {s t c : zS} {o : zOx} (hc : zC1 t) (hb9 : zB t) (hI : zInv c) (hr : zRel c t) (h3 : ∀ j, t 3 j 0 ≤ 600) {a : Int} (ha : zR a) : zCn l G yX7_startOf (.code yX7_startOf cX7_startOf 2 (some .int)) rX7_startOf [.ref 16, .int (zI a)] (zAll s t o) (zRi (zY s o (xAsk c (0 ≤ a ∧ a < c 9 0 0) (c 13 a.toNat 0)))) zN := by
  have e0 := hr.1 0 0 0 (by omega)
  have e4 := hr.1 4 0 0 (by omega)
  have e9 := hr.1 9 0 0 (by omega)
  have e14 := hr.2.1
  exact (c_X7_startOf hfl G (s := s) (t := t) (o := o) hc hb9 ha).mono (zY_q hb9 hr (by rw [e9]) (fun _ => hr.1 13 _ _ (by omega)))
theorem q_staffOf {l : Launch} (hfl : l.stackTraces = false) (G : zG) {s t c : zS} {o : zOx} (hc : zC1 t) (hb9 : zB t) (hI : zInv c) (hr : zRel c t) (h3 : ∀ j, t 3 j 0 ≤ 600) {a : Int} (ha : zR a) : zCn l G yX7_staffOf (.code yX7_staffOf cX7_staffOf 2 (some .int)) rX7_staffOf [.ref 16, .int (zI a)] (zAll s t o) (zRi (zY s o (xAsk c (0 ≤ a ∧ a < c 9 0 0) ((if c 13 a.toNat 0 = -1 then -1 else c 11 a.toNat 0))))) zN := by
  have e0 := hr.1 0 0 0 (by omega)
  have e4 := hr.1 4 0 0 (by omega)
  have e9 := hr.1 9 0 0 (by omega)
  have e14 := hr.2.1
  exact (c_X7_staffOf hfl G (s := s) (t := t) (o := o) hc hb9 ha).mono (zY_q hb9 hr (by rw [e9]) (fun _ => by rw [hr.1 13 _ _ (by omega), hr.1 11 _ _ (by omega)]))
theorem q_chairOf {l : Launch} (hfl : l.stackTraces = false) (G : zG) {s t c : zS} {o : zOx} (hc : zC1 t) (hb9 : zB t) (hI : zInv c) (hr : zRel c t) (h3 : ∀ j, t 3 j 0 ≤ 600) {a : Int} (ha : zR a) : zCn l G yX7_chairOf (.code yX7_chairOf cX7_chairOf 2 (some .int)) rX7_chairOf [.ref 16, .int (zI a)] (zAll s t o) (zRi (zY s o (xAsk c (0 ≤ a ∧ a < c 9 0 0) ((if c 13 a.toNat 0 = -1 then -1 else c 12 a.toNat 0))))) zN := by
  have e0 := hr.1 0 0 0 (by omega)
  have e4 := hr.1 4 0 0 (by omega)
  have e9 := hr.1 9 0 0 (by omega)
  have e14 := hr.2.1
  exact (c_X7_chairOf hfl G (s := s) (t := t) (o := o) hc hb9 ha).mono (zY_q hb9 hr (by rw [e9]) (fun _ => by rw [hr.1 13 _ _ (by omega), hr.1 12 _ _ (by omega)]))
theorem q_serviceOf {l : Launch} (hfl : l.stackTraces = false) (G : zG) {s t c : zS} {o : zOx} (hc : zC1 t) (hb9 : zB t) (hI : zInv c) (hr : zRel c t) (h3 : ∀ j, t 3 j 0 ≤ 600) {a : Int} (ha : zR a) : zCn l G yX7_serviceOf (.code yX7_serviceOf cX7_serviceOf 2 (some .int)) rX7_serviceOf [.ref 16, .int (zI a)] (zAll s t o) (zRi (zY s o (xAsk c (0 ≤ a ∧ a < c 9 0 0) (c 10 a.toNat 0)))) zN := by
  have e0 := hr.1 0 0 0 (by omega)
  have e4 := hr.1 4 0 0 (by omega)
  have e9 := hr.1 9 0 0 (by omega)
  have e14 := hr.2.1
  exact (c_X7_serviceOf hfl G (s := s) (t := t) (o := o) hc hb9 ha).mono (zY_q hb9 hr (by rw [e9]) (fun _ => hr.1 10 _ _ (by omega)))
theorem q_loadOf {l : Launch} (hfl : l.stackTraces = false) (G : zG) {s t c : zS} {o : zOx} (hc : zC1 t) (hb9 : zB t) (hI : zInv c) (hr : zRel c t) (h3 : ∀ j, t 3 j 0 ≤ 600) {a : Int} (ha : zR a) : zCn l G yX7_loadOf (.code yX7_loadOf cX7_loadOf 2 (some .int)) rX7_loadOf [.ref 16, .int (zI a)] (zAll s t o) (zRi (zY s o (xAsk c (0 ≤ a ∧ a < c 0 0 0) (zLoad c a)))) zN := by
  have e0 := hr.1 0 0 0 (by omega)
  have e4 := hr.1 4 0 0 (by omega)
  have e9 := hr.1 9 0 0 (by omega)
  have e14 := hr.2.1
  exact (c_X7_loadOf hfl G (s := s) (t := t) (o := o) hc hb9 ha).mono (zY_q hb9 hr (by rw [e0]) (fun _ => hr.1.lo _))
theorem q_staffAt {l : Launch} (hfl : l.stackTraces = false) (G : zG) {s t c : zS} {o : zOx} (hc : zC1 t) (hb9 : zB t) (hI : zInv c) (hr : zRel c t) (h3 : ∀ j, t 3 j 0 ≤ 600) {a x : Int} (ha : zR a) (hx : zR x) : zCn l G yX7_staffAt (.code yX7_staffAt cX7_staffAt 3 (some .int)) rX7_staffAt [.ref 16, .int (zI a), .int (zI x)] (zAll s t o) (zRi (zY s o (xAsk c ((0 ≤ a ∧ a < c 0 0 0) ∧ 0 ≤ x ∧ x < 600) (c 21 (a.toNat + 4) x.toNat)))) zN := by
  have e0 := hr.1 0 0 0 (by omega)
  have e4 := hr.1 4 0 0 (by omega)
  have e9 := hr.1 9 0 0 (by omega)
  have e14 := hr.2.1
  exact (c_X7_staffAt hfl G (s := s) (t := t) (o := o) hc hb9 ha hx).mono (zY_q hb9 hr (by rw [e0]) (fun _ => hr.1 21 _ _ (by omega)))
theorem q_chairAt {l : Launch} (hfl : l.stackTraces = false) (G : zG) {s t c : zS} {o : zOx} (hc : zC1 t) (hb9 : zB t) (hI : zInv c) (hr : zRel c t) (h3 : ∀ j, t 3 j 0 ≤ 600) {a x : Int} (ha : zR a) (hx : zR x) : zCn l G yX7_chairAt (.code yX7_chairAt cX7_chairAt 3 (some .int)) rX7_chairAt [.ref 16, .int (zI a), .int (zI x)] (zAll s t o) (zRi (zY s o (xAsk c ((0 ≤ a ∧ a < 4) ∧ 0 ≤ x ∧ x < 600) (c 21 a.toNat x.toNat)))) zN := by
  have e0 := hr.1 0 0 0 (by omega)
  have e4 := hr.1 4 0 0 (by omega)
  have e9 := hr.1 9 0 0 (by omega)
  have e14 := hr.2.1
  exact (c_X7_chairAt hfl G (s := s) (t := t) (o := o) hc hb9 ha hx).mono (zY_q hb9 hr Iff.rfl (fun _ => hr.1 21 _ _ (by omega)))
theorem q_earliest {l : Launch} (hfl : l.stackTraces = false) (G : zG) {s t c : zS} {o : zOx} (hc : zC1 t) (hb9 : zB t) (hI : zInv c) (hr : zRel c t) (h3 : ∀ j, t 3 j 0 ≤ 600) {a x : Int} (ha : zR a) (hx : zR x) : zCn l G yX7_earliest (.code yX7_earliest cX7_earliest 3 (some .int)) rX7_earliest [.ref 16, .int (zI a), .int (zI x)] (zAll s t o) (zRi (zY s o (xAsk c ((0 ≤ a ∧ a < c 4 0 0) ∧ 0 ≤ x ∧ x < 600) (zFind c (zBit 31) a.toNat x 600)))) zN := by
  have e0 := hr.1 0 0 0 (by omega)
  have e4 := hr.1 4 0 0 (by omega)
  have e9 := hr.1 9 0 0 (by omega)
  have e14 := hr.2.1
  exact (c_X7_earliest hfl G (s := s) (t := t) (o := o) hc hb9 ha hx h3).mono (zY_e hb9 hr (by rw [e4]) (fun _ => ((zFind_31 hc _ _ _).trans (hr.1.fi _ _ _))))
theorem q_earliestByScan {l : Launch} (hfl : l.stackTraces = false) (G : zG) {s t c : zS} {o : zOx} (hc : zC1 t) (hb9 : zB t) (hI : zInv c) (hr : zRel c t) (h3 : ∀ j, t 3 j 0 ≤ 600) {a x : Int} (ha : zR a) (hx : zR x) : zCn l G yX7_earliestByScan (.code yX7_earliestByScan cX7_earliestByScan 3 (some .int)) rX7_earliestByScan [.ref 16, .int (zI a), .int (zI x)] (zAll s t o) (zRi (zY s o (xAsk c ((0 ≤ a ∧ a < c 4 0 0) ∧ 0 ≤ x ∧ x < 600) (zFind c (zBit 31) a.toNat x 600)))) zN := by
  have e0 := hr.1 0 0 0 (by omega)
  have e4 := hr.1 4 0 0 (by omega)
  have e9 := hr.1 9 0 0 (by omega)
  have e14 := hr.2.1
  exact (c_X7_earliestByScan hfl G (s := s) (t := t) (o := o) hc hb9 ha hx h3).mono (zY_e hb9 hr (by rw [e4]) (fun _ => ((zFind_31 hc _ _ _).trans (hr.1.fi _ _ _))))
theorem q_staffFor {l : Launch} (hfl : l.stackTraces = false) (G : zG) {s t c : zS} {o : zOx} (hc : zC1 t) (hb9 : zB t) (hI : zInv c) (hr : zRel c t) (h3 : ∀ j, t 3 j 0 ≤ 600) {a x : Int} (ha : zR a) (hx : zR x) : zCn l G yX7_staffFor (.code yX7_staffFor cX7_staffFor 3 (some .int)) rX7_staffFor [.ref 16, .int (zI a), .int (zI x)] (zAll s t o) (zRi (zY s o (xAsk c ((0 ≤ a ∧ a < c 4 0 0) ∧ 0 ≤ x ∧ x < 600) ((if zFind c (zBit 31) a.toNat x 600 = -1 then -1 else zGet c (zBit 31) a.toNat (zFind c (zBit 31) a.toNat x 600)))))) zN := by
  have e0 := hr.1 0 0 0 (by omega)
  have e4 := hr.1 4 0 0 (by omega)
  have e9 := hr.1 9 0 0 (by omega)
  have e14 := hr.2.1
  exact (c_X7_staffFor hfl G (s := s) (t := t) (o := o) hc hb9 ha hx h3).mono (zY_e hb9 hr (by rw [e4]) (fun _ => by rw [show zFind t (zWho (-1)) a.toNat x 600 = zFind c (zBit 31) a.toNat x 600 from ((zFind_31 hc _ _ _).trans (hr.1.fi _ _ _)), zWho_31 hc, hr.1.ge]))
theorem q_requests {l : Launch} (hfl : l.stackTraces = false) (G : zG) {s t c : zS} {o : zOx} (hc : zC1 t) (hb9 : zB t) (hI : zInv c) (hr : zRel c t) (h3 : ∀ j, t 3 j 0 ≤ 600) : zCn l G yX7_requests (.code yX7_requests cX7_requests 1 (some .int)) rX7_requests [.ref 16] (zAll s t o) (zRi (zY s o (0, c 14 0 0, c))) zN :=
  (c_X7_requests hfl G (s := s) (t := t) (o := o) hc hb9).mono (fun r M h => by
    obtain ⟨x, e, h1, h2⟩ := h
    subst h2
    exact ⟨x, e, zY_of (k := 0) (v := c 14 0 0) rfl (zB_u hb9 (by omega)) (hr.x (by omega) 0 0 0) rfl (fun _ => h1.trans hr.2.1)⟩)
theorem q_visits {l : Launch} (hfl : l.stackTraces = false) (G : zG) {s t c : zS} {o : zOx} (hc : zC1 t) (hb9 : zB t) (hI : zInv c) (hr : zRel c t) (h3 : ∀ j, t 3 j 0 ≤ 600) : zCn l G yX7_visits (.code yX7_visits cX7_visits 1 (some .int)) rX7_visits [.ref 16] (zAll s t o) (zRi (zY s o (0, c 9 0 0, c))) zN :=
  (c_X7_visits hfl G (s := s) (t := t) (o := o) hc hb9).mono (fun r M h => by
    obtain ⟨x, e, h1, h2⟩ := h
    subst h2
    exact ⟨x, e, zY_of (k := 0) (v := c 9 0 0) rfl (zB_u hb9 (by omega)) (hr.x (by omega) 0 0 0) rfl (fun _ => h1.trans (hr.1 9 0 0 (by omega)))⟩)
