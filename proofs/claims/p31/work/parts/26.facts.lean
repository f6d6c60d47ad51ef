/-! ===== what the property rests on: counts, searches, the list served, rests ===== -/
theorem zsm_zero {f : Nat → Int} (h : ∀ k, f k = 0) : ∀ n, zsm f n = 0
  | 0 => rfl
  | n + 1 => by
    show zsm f n + f n = 0
    rw [zsm_zero h n, h n]
    rfl
theorem zsm_add (f g : Nat → Int) : ∀ n, zsm (fun k => f k + g k) n = zsm f n + zsm g n
  | 0 => rfl
  | n + 1 => by
    show zsm (fun k => f k + g k) n + (f n + g n) = (zsm f n + f n) + (zsm g n + g n)
    rw [zsm_add f g n]
    omega
theorem zsm_hit (v : Nat) : ∀ n : Nat, zsm (fun k => if (v : Int) = (k : Int) then 1 else 0) n = if v < n then 1 else 0
  | 0 => (if_neg (Nat.not_lt_zero v)).symm
  | n + 1 => by
    show zsm (fun k => if (v : Int) = (k : Int) then 1 else 0) n + (if (v : Int) = (n : Int) then 1 else 0) = _
    rw [zsm_hit v n]
    by_cases h1 : v < n
    · rw [if_pos h1, if_neg (by omega), if_pos (by omega)]
      rfl
    · by_cases h2 : v = n
      · rw [if_neg h1, if_pos (by omega), if_pos (by omega)]
        rfl
      · rw [if_neg h1, if_neg (by omega), if_neg (by omega)]
        rfl
theorem zTk_sum {f : Nat → Int} {V : Nat} (hf : ∀ m, f m = -1 ∨ ∃ v : Nat, v < V ∧ f m = (v : Int)) : ∀ n, zTk f n = zsm (fun v => zsm (fun m => if f m = (v : Int) then 1 else 0) n) V
  | 0 => (zsm_zero (fun _ => rfl) V).symm
  | n + 1 => by
    show zTk f n + (if f n = -1 then 0 else 1) = zsm (fun v => zsm (fun m => if f m = (v : Int) then 1 else 0) n + (if f n = (v : Int) then 1 else 0)) V
    rw [zsm_add (fun v => zsm (fun m => if f m = (v : Int) then 1 else 0) n) (fun v => if f n = (v : Int) then 1 else 0) V, ← zTk_sum hf n]
    congr 1
    rcases hf n with h | ⟨v, hv, h⟩
    · rw [if_pos h, zsm_zero (fun k => if_neg (by omega)) V]
    · rw [if_neg (by omega), h, zsm_hit v V, if_pos hv]
theorem zsm_fil {h : Nat → Int} {A B : Int} (h0 : 0 ≤ A) (hAB : A ≤ B) (hh : ∀ m : Nat, A ≤ (m : Int) → (m : Int) < B → h m = 0) : ∀ n : Nat, zsm (zfil h A B 1) n = zsm h n + (if (n : Int) ≤ A then 0 else if (n : Int) ≤ B then n - A else B - A)
  | 0 => by
    rw [if_pos (show ((0 : Nat) : Int) ≤ A from h0)]
    rfl
  | n + 1 => by
    show zsm (zfil h A B 1) n + (if A ≤ (n : Int) ∧ (n : Int) < B then 1 else h n) = (zsm h n + h n) + _
    rw [zsm_fil h0 hAB hh n]
    by_cases c : A ≤ (n : Int) ∧ (n : Int) < B
    · rw [if_pos c, hh n c.1 c.2]
      repeat' split
      all_goals omega
    · rw [if_neg c]
      repeat' split
      all_goals omega
theorem zMk_sum {s : zS} (hc : zC1 s) {a : Nat} {x : Int} (h0 : 0 ≤ x) : ∀ k : Nat, x + zOff s a k ≤ 600 → zsm (zMk s a x 1 (fun _ => 0) k) 600 = zsm (fun j => if s 6 a j = -1 then 0 else s 7 a j) k
  | 0, _ => zsm_zero (fun _ => rfl) 600
  | k + 1, hk => by
    have e1 : zOff s a (k + 1) = zOff s a k + s 7 a k := rfl
    have h7 := hc.2.2.2.2.2.2.1 a k
    have ho := (hc.off a k).1
    have ih := zMk_sum (a := a) hc h0 k (by omega)
    show zsm (if s 6 a k = -1 then zMk s a x 1 (fun _ => 0) k else zfil (zMk s a x 1 (fun _ => 0) k) (x + zOff s a k) (x + zOff s a (k + 1)) 1) 600 = zsm (fun j => if s 6 a j = -1 then 0 else s 7 a j) k + (if s 6 a k = -1 then 0 else s 7 a k)
    by_cases e6 : s 6 a k = -1
    · rw [if_pos e6, if_pos e6, ih]
      omega
    · rw [if_neg e6, if_neg e6, zsm_fil (h := zMk s a x 1 (fun _ => 0) k) (A := x + zOff s a k) (B := x + zOff s a (k + 1)) (by omega) (by omega) (fun m h1 h2 => zMk_out (fun h9 => by
        obtain ⟨j, hj, _, _, h5⟩ := h9
        have h6 := hc.offm a (j + 1) (k - (j + 1))
        rw [show j + 1 + (k - (j + 1)) = k by omega] at h6
        omega)) 600, ih]
      repeat' split
      all_goals omega
theorem zCnt_v {s : zS} (h : zInv s) (i v : Nat) : zsm (fun m => if s 21 (i + 4) m = (v : Int) then 1 else 0) 600 = if (v : Int) < s 9 0 0 ∧ (s 13 v 0 ≠ -1 ∧ s 11 v 0 = (i : Int)) then zWork s (s 10 v 0).toNat else 0 := by
  have hdm := h.2.2.2.2.2.2.2.2
  by_cases c : (v : Int) < s 9 0 0 ∧ (s 13 v 0 ≠ -1 ∧ s 11 v 0 = (i : Int))
  · rw [if_pos c]
    have hv := h.v c.1 c.2.1
    rw [show zsm (fun m => if s 21 (i + 4) m = (v : Int) then 1 else 0) 600 = zsm (zMk s (s 10 v 0).toNat (s 13 v 0) 1 (fun _ => 0) (zSc s (s 10 v 0).toNat)) 600 from zsm_cong (fun m _ => ?_)]
    · exact zMk_sum h.c hv.1 _ hv.2.1
    · show (if s 21 (i + 4) m = (v : Int) then 1 else 0) = zMk s (s 10 v 0).toNat (s 13 v 0) 1 (fun _ => 0) (zSc s (s 10 v 0).toNat) m
      by_cases e : zCv s (s 10 v 0).toNat (s 13 v 0) (zSc s (s 10 v 0).toNat) m
      · rw [zMk_in e, if_pos (((hdm i m).2 v).mpr ⟨c.1, c.2.1, c.2.2, e⟩)]
      · rw [zMk_out e, if_neg (fun h9 => e (((hdm i m).2 v).mp h9).2.2.2)]
  · rw [if_neg c]
    exact zsm_zero (fun m => if_neg (fun h9 => c (by have h8 := ((hdm i m).2 v).mp h9; exact ⟨h8.1, h8.2.1, h8.2.2.1⟩))) 600
/-- a member's taken minutes are their load -/
theorem zInv.load {s : zS} (h : zInv s) (i : Nat) : zTk (s 21 (i + 4)) 600 = zLoad s i := by
  have hdm := h.2.2.2.2.2.2.2.2
  have h9 := h.c.2.2.1.1
  rw [zTk_sum (V := (s 9 0 0).toNat) (fun m => by
    rcases (hdm i m).1 with h1 | ⟨v, h1⟩
    · exact Or.inl h1
    · have h2 := (((hdm i m).2 v).mp h1).1
      exact Or.inr ⟨v, by omega, h1⟩) 600]
  unfold zLoad
  refine zsm_cong fun v hv => ?_
  rw [zCnt_v h i v]
  by_cases c : s 13 v 0 ≠ -1 ∧ s 11 v 0 = (i : Int)
  · rw [if_pos c, if_pos ⟨by omega, c⟩]
  · rw [if_neg c, if_neg (fun h2 => c h2.2)]
/-! fields that a call leaves -/
theorem zsu_g {s : zS} {f i j g : Nat} {v : Int} (h : g ≠ f) : zsu s f i j v g = s g := funext fun a => funext fun b => if_neg (fun h2 => h h2.1)
theorem zOpM_g {s : zS} {v g : Nat} {b : Int} (h : g ≠ 21) : zOpM s v b g = s g := funext fun p => funext fun q => if_neg h
theorem zOpB_g {s : zS} {a g : Nat} {i c x : Int} (h : g < 8 ∨ (13 < g ∧ g ≠ 21)) : zOpB s a i c x g = s g := by
  unfold zOpB zOpL zOpA zOpV
  rw [zOpM_g (by omega), zsu_g (by omega), zsu_g (by omega), zsu_g (by omega), zsu_g (by omega), zsu_g (by omega), zsu_g (by omega), zsu_g (by omega)]
theorem zOpB_9 {s : zS} {a : Nat} {i c x : Int} : zOpB s a i c x 9 0 0 = s 9 0 0 + 1 := rfl
theorem zOpB_n {s : zS} {a g v : Nat} {i c x : Int} (h : 10 ≤ g ∧ g ≤ 13) (hv : v ≠ (s 9 0 0).toNat) : zOpB s a i c x g v 0 = s g v 0 := by
  unfold zOpB zOpL zOpA zOpV
  rw [zOpM_g (by omega), zsu_n (by omega), zsu_n (by omega), zsu_n (by omega), zsu_n (by omega), zsu_n (by omega), zsu_n (by omega), zsu_n (by omega)]
theorem zOpB_13 {s : zS} {a : Nat} {i c x : Int} : zOpB s a i c x 13 (s 9 0 0).toNat 0 = x := by
  unfold zOpB zOpL zOpA
  rw [zOpM_g (by omega), zsu_s]
theorem zOpB_12 {s : zS} {a : Nat} {i c x : Int} : zOpB s a i c x 12 (s 9 0 0).toNat 0 = c := by
  unfold zOpB zOpL zOpA
  rw [zOpM_g (by omega), zsu_g (by omega), zsu_s]
theorem zOpB_11 {s : zS} {a : Nat} {i c x : Int} : zOpB s a i c x 11 (s 9 0 0).toNat 0 = i := by
  unfold zOpB zOpL zOpA
  rw [zOpM_g (by omega), zsu_g (by omega), zsu_g (by omega), zsu_s]
theorem zOpB_10 {s : zS} {a : Nat} {i c x : Int} : zOpB s a i c x 10 (s 9 0 0).toNat 0 = a := by
  unfold zOpB zOpL zOpA zOpV
  rw [zOpM_g (by omega), zsu_g (by omega), zsu_g (by omega), zsu_g (by omega), zsu_g (by omega), zsu_g (by omega), zsu_g (by omega), zsu_s]
theorem zSvc_f {s s' : zS} (h : ∀ g, g < 8 → s' g = s g) (a : Nat) : zSc s' a = zSc s a ∧ (∀ k, zOff s' a k = zOff s a k) ∧ zLen s' a = zLen s a ∧ zWork s' a = zWork s a ∧ zAsk s' a = zAsk s a :=
  zSvc_cg (by rw [h 5 (by omega)]) (by rw [h 6 (by omega)]) (by rw [h 7 (by omega)])
/-- who gets a visit has its work more -/
theorem zLoad_B {s : zS} (h9 : 0 ≤ s 9 0 0) {a : Nat} {i c x : Int} (hx : x ≠ -1) : zLoad (zOpB s a i c x) i = zLoad s i + zWork s a := by
  have hw : ∀ b, zWork (zOpB s a i c x) b = zWork s b := fun b => (zSvc_f (fun g hg => zOpB_g (Or.inl hg)) b).2.2.2.1
  unfold zLoad
  rw [zOpB_9, show (s 9 0 0 + 1).toNat = (s 9 0 0).toNat + 1 by omega]
  show zsm _ (s 9 0 0).toNat + (if zOpB s a i c x 13 (s 9 0 0).toNat 0 ≠ -1 ∧ zOpB s a i c x 11 (s 9 0 0).toNat 0 = i then zWork (zOpB s a i c x) (zOpB s a i c x 10 (s 9 0 0).toNat 0).toNat else 0) = _
  rw [zOpB_13, zOpB_11, zOpB_10, if_pos ⟨hx, rfl⟩, hw, Int.toNat_natCast]
  congr 1
  refine zsm_cong fun v hv => ?_
  show (if zOpB s a i c x 13 v 0 ≠ -1 ∧ zOpB s a i c x 11 v 0 = i then zWork (zOpB s a i c x) (zOpB s a i c x 10 v 0).toNat else 0) = _
  rw [zOpB_n (by omega) (by omega), zOpB_n (by omega) (by omega), zOpB_n (by omega) (by omega), hw]
theorem zOpR_g {s : zS} {p : Int} {g : Nat} (h : g < 14 ∨ 17 < g) : zOpR s p g = s g := by
  funext j q
  show (if g = 14 ∧ j = 0 ∧ q = 0 then s 14 0 0 - 1 else if (g = 15 ∨ g = 16 ∨ g = 17) ∧ q = 0 ∧ p ≤ (j : Int) then s g (j + 1) 0 else s g j q) = s g j q
  rw [if_neg (by omega), if_neg (by omega)]
theorem zSwB_g {c : zS} {p g : Nat} (h : g < 8 ∨ g = 18) : zSwB c p g = c g := by
  unfold zSwB
  rw [zOpR_g (by omega), zOpB_g (by omega)]
/-- what serving the list leaves, and how the counts go -/
theorem zSw_f : ∀ (n : Nat) (c : zS) (p : Nat) (m : Int), 0 ≤ c 9 0 0 → (∀ g, g < 8 → (zSw n c p m).1 g = c g) ∧ (zSw n c p m).1 18 0 0 = c 18 0 0 ∧ (zSw n c p m).1 14 0 0 + (zSw n c p m).2 = c 14 0 0 + m ∧ (zSw n c p m).1 9 0 0 + m = c 9 0 0 + (zSw n c p m).2 ∧ ∀ v : Nat, (v : Int) < c 9 0 0 → (zSw n c p m).1 13 v 0 = c 13 v 0
  | 0, c, p, m, h9 => ⟨fun _ _ => rfl, rfl, rfl, rfl, fun _ _ => rfl⟩
  | n + 1, c, p, m, h9 => by
    rw [zSw]
    split
    · exact zSw_f n c (p + 1) m h9
    · have e9 : zSwB c p 9 0 0 = c 9 0 0 + 1 := rfl
      have e14 : zSwB c p 14 0 0 = c 14 0 0 - 1 := rfl
      obtain ⟨a1, a2, a3, a4, a5⟩ := zSw_f n (zSwB c p) p (m + 1) (by rw [e9]; omega)
      refine ⟨fun g hg => (a1 g hg).trans (zSwB_g (Or.inl hg)), a2.trans (by rw [zSwB_g (Or.inr rfl)]), ?_, ?_, fun v hv => (a5 v (by rw [e9]; omega)).trans ?_⟩
      · rw [e14] at a3; omega
      · rw [e9] at a4; omega
      · unfold zSwB
        rw [zOpR_g (by omega), zOpB_n (by omega) (by omega)]
/-! a search in a book with less in it -/
theorem zScan_ex {s : zS} {who : Nat → Bool} {a : Nat} {to y : Int} (hy : zRoomB s who a y = true) (hto : y + zLen s a ≤ to) : ∀ (n : Nat) (x : Int), 0 ≤ x → x ≤ y → y - x < n → zScan s who a to n x ≠ -1
  | 0, x, _, h1, h2 => by omega
  | n + 1, x, h0, h1, h2 => by
    rw [zScan, if_neg (by omega)]
    split
    · omega
    · rename_i h3
      refine zScan_ex hy hto n (x + 1) (by omega) ?_ (by omega)
      rcases Int.lt_or_eq_of_le h1 with h4 | h4
      · omega
      · exact absurd (h4 ▸ hy) h3
theorem zFind_ex {s : zS} (hc : zC1 s) {who : Nat → Bool} {a : Nat} {x y to : Int} (hy : zRoomB s who a y = true) (hto : y + zLen s a ≤ to) (h0 : 0 ≤ x) (h1 : x ≤ y) : zFind s who a x to ≠ -1 := by
  have hl := hc.len a
  exact zScan_ex hy hto _ x h0 h1 (by omega)
theorem zOpO_g {s : zS} {v g : Nat} (h : g ≠ 21 ∧ g ≠ 13) : zOpO s v g = s g := by
  unfold zOpO
  rw [zsu_g (by omega), zOpM_g h.1]
theorem zOpO_21 {s : zS} {v d m : Nat} (h : s 21 d m = -1) : zOpO s v 21 d m = -1 := by
  show (if (d : Int) = s 12 v 0 then zfil (s 21 d) (s 13 v 0) (s 13 v 0 + zLen s (s 10 v 0).toNat) (-1) m else if (d : Int) = s 11 v 0 + 4 then zMk s (s 10 v 0).toNat (s 13 v 0) (-1) (s 21 d) (zSc s (s 10 v 0).toNat) m else s 21 d m) = -1
  split
  · unfold zfil
    split
    · rfl
    · exact h
  · split
    · by_cases e : zCv s (s 10 v 0).toNat (s 13 v 0) (zSc s (s 10 v 0).toNat) m
      · exact zMk_in e
      · rw [zMk_out e]; exact h
    · exact h
/-- without a visit there is a place where there was one with it -/
theorem zFind_out {s : zS} (h : zInv s) {v : Nat} (hv : (v : Int) < s 9 0 0) (hd : ¬ s 13 v 0 = -1) {w a : Nat} {x : Int} (hx : 0 ≤ x) (hF : zFind s (zBit w) a x 600 ≠ -1) : zFind (zOpO s v) (zBit w) a x 600 ≠ -1 := by
  have hO := h.out hv hd
  have hg : ∀ g, g < 8 → zOpO s v g = s g := fun g hg => zOpO_g (by omega)
  obtain ⟨e1, e2, e3, e4, e5⟩ := zSvc_f hg a
  obtain ⟨f1, f2, f3⟩ := (zFind_r s (zBit w) a x 600).resolve_left hF
  have hln := h.c.len a
  have hsc := h.c.sc a
  refine zFind_ex hO.c (y := zFind s (zBit w) a x 600) ?_ (by rw [e3]; exact f2) hx f1
  generalize zFind s (zBit w) a x 600 = y at f1 f2 f3
  rw [zRoomB, Bool.and_eq_true, decide_eq_true_iff, decide_eq_true_iff] at f3 ⊢
  obtain ⟨c, hc4, _, hcf⟩ := zChair_fr f3.1
  obtain ⟨i, hi, _, hwho, hcan⟩ := zMem_none f3.2
  refine ⟨zChair_ne hc4 ?_, zMem_some hwho ?_ (n := (zOpO s v 0 0 0).toNat) (by rw [hg 0 (by omega)]; exact hi)⟩
  · rw [e3]
    have hcf2 := (zFr_iff (by omega) (by omega) (by omega)).mp hcf
    exact (zFr_iff (by omega) (by omega) (by omega)).mpr fun m h1 h2 => zOpO_21 (hcf2 m h1 h2)
  · simp only [zCan, Bool.and_eq_true, decide_eq_true_iff] at hcan
    obtain ⟨⟨⟨k1, k2⟩, k3⟩, k4⟩ := hcan
    refine zCan_of ?_ ?_ ?_ ?_
    · unfold zSk at k1 ⊢
      rw [e1, zAskN_cg (s' := s) (by rw [hg 6 (by omega)]), hg 1 (by omega)]
      exact k1
    · rw [hg 2 (by omega)]; exact k2
    · rw [hg 3 (by omega), e3]; exact k3
    · rw [e1]
      refine zStp_iff.mpr fun k hk => ?_
      rw [hg 6 (by omega), e2, e2]
      rcases zStp_iff.mp k4 k hk with h1 | h1
      · exact Or.inl h1
      · refine Or.inr ?_
        have ho0 := (h.c.off a k).1
        have ho1 := h.c.offl (a := a) (k := k + 1) (by omega)
        have hom := h.c.offm a k 1
        have hfr := (zFr_iff (by omega) (by omega) (by omega)).mp h1
        exact (zFr_iff (by omega) (by omega) (by omega)).mpr fun m h2 h3 => zOpO_21 (hfr m h2 h3)
/-! a minute: where visits are -/
theorem zOnM_on {s : zS} (hc : zC1 s) {i m v : Nat} (h : zOnM s i m v) : s 13 v 0 ≤ (m : Int) ∧ (m : Int) < s 13 v 0 + zLen s (s 10 v 0).toNat := by
  obtain ⟨h1, h2, h3, j, h4, h5, h6, h7⟩ := h
  have h8 := (hc.off (s 10 v 0).toNat j).1
  have h9 := hc.offl (a := (s 10 v 0).toNat) (k := j + 1) (by omega)
  omega
theorem zPk_lt (s : zS) : ∀ n : Nat, (zPk s (n + 1)).1 ≤ (n : Int)
  | 0 => by
    rw [zPk]
    split
    · exact Int.le_refl _
    · exact Int.le_refl _
  | n + 1 => by
    have ih := zPk_lt s n
    rw [zPk]
    split
    · exact Int.le_refl _
    · omega
/-! rests -/
/-- a service begins and ends with a step that asks for a skill -/
def zGd (s : zS) (a : Nat) : Prop := 1 ≤ s 5 a 0 ∧ s 6 a 0 ≠ -1 ∧ s 6 a (zSc s a - 1) ≠ -1
theorem zIn_r (s : zS) (v a : Nat) : ∀ n k : Nat, zIn s v a n k = -1 ∨ ∃ j, j < k + n ∧ s 6 (s 10 v 0).toNat j = -1 ∧ s 13 v 0 + zOff s (s 10 v 0).toNat j ≤ zIn s v a n k ∧ zIn s v a n k + zLen s a ≤ s 13 v 0 + zOff s (s 10 v 0).toNat (j + 1)
  | 0, k => Or.inl rfl
  | n + 1, k => by
    rw [zIn]
    split
    · rename_i h
      obtain ⟨f1, f2, _⟩ := (zFind_r s (zBit (2 ^ (s 11 v 0).toNat)) a (s 13 v 0 + zOff s (s 10 v 0).toNat k) (s 13 v 0 + zOff s (s 10 v 0).toNat (k + 1))).resolve_left h.2
      exact Or.inr ⟨k, by omega, h.1, f1, f2⟩
    · rcases zIn_r s v a n (k + 1) with h | ⟨j, h1, h2⟩
      · exact Or.inl h
      · exact Or.inr ⟨j, by omega, h2⟩
theorem zRest_r {s : zS} (h : zInv s) {v a : Nat} (hv : (v : Int) < s 9 0 0) (hd : ¬ s 13 v 0 = -1) (hg : zGd s (s 10 v 0).toNat) : zRest s v a = -1 ∨ (s 13 v 0 < zRest s v a ∧ zRest s v a + zLen s a < s 13 v 0 + zLen s (s 10 v 0).toNat ∧ ∀ m : Nat, zRest s v a ≤ (m : Int) → (m : Int) < zRest s v a + zLen s a → s 21 ((s 11 v 0).toNat + 4) m ≠ (v : Int) ∧ s 21 (s 12 v 0).toNat m = (v : Int)) := by
  have hvv := h.v hv hd
  obtain ⟨hb, hc, hs1, hs2, hu1, hu2, hq, hdc, hdm⟩ := h
  rcases zIn_r s v a (zSc s (s 10 v 0).toNat) 0 with h | ⟨j, h1, h2, h3, h4⟩
  · exact Or.inl h
  refine Or.inr ?_
  change s 13 v 0 + zOff s (s 10 v 0).toNat j ≤ zRest s v a at h3
  change zRest s v a + zLen s a ≤ s 13 v 0 + zOff s (s 10 v 0).toNat (j + 1) at h4
  obtain ⟨b, eb⟩ : ∃ b, (s 10 v 0).toNat = b := ⟨_, rfl⟩
  rw [eb] at hg h1 h2 h3 h4 hvv ⊢
  have hscb := (hc.sc b).2
  have hj0 : j ≠ 0 := fun e => hg.2.1 (by rw [← e]; exact h2)
  have hj1 : j ≠ zSc s b - 1 := fun e => hg.2.2 (by rw [← e]; exact h2)
  have hstep : ∀ p q : Nat, p ≤ q → zOff s b p ≤ zOff s b q := fun p q hpq => by
    have h6 := hc.offm b p (q - p)
    rw [show p + (q - p) = q by omega] at h6
    exact h6
  have o1 : zOff s b 1 = s 7 b 0 := by
    show (0 : Int) + s 7 b 0 = s 7 b 0
    omega
  have o2 := hs1 b 0 (by omega)
  have o3 := hstep 1 j (by omega)
  have o4 : zOff s b (j + 2) = zOff s b (j + 1) + s 7 b (j + 1) := rfl
  have o5 := hs1 b (j + 1) (by omega)
  have o6 := hc.offl (a := b) (k := j + 2) (by omega)
  refine ⟨by omega, by omega, fun m g1 g2 => ⟨fun g3 => ?_, ?_⟩⟩
  · obtain ⟨k1, k2, k3, j2, k4, k5, k6, k7⟩ := ((hdm (s 11 v 0).toNat m).2 v).mp g3
    rw [eb] at k4 k5 k6 k7
    have hne : j2 ≠ j := fun e => k5 (by rw [e]; exact h2)
    rcases Nat.lt_or_ge j2 j with l1 | l1
    · have := hstep (j2 + 1) j (by omega)
      omega
    · have := hstep (j + 1) j2 (by omega)
      omega
  · refine ((hdc (s 12 v 0).toNat m (by omega)).2 v).mpr ⟨hv, hd, by omega, by omega, ?_⟩
    rw [eb]
    omega
