/-! ===== what class and model share; what each call answers ===== -/
/-- two states that agree, requests and what is found apart -/
def zSm (c t : zS) : Prop := ∀ g i j, (g ≤ 13 ∨ g = 21) → t g i j = c g i j
theorem zSm.f {c t : zS} (h : zSm c t) {g : Nat} (hg : g ≤ 13 ∨ g = 21) : t g = c g := funext fun i => funext fun j => h g i j hg
theorem zSm.svc {c t : zS} (h : zSm c t) (a : Nat) : zSc t a = zSc c a ∧ (∀ k, zOff t a k = zOff c a k) ∧ zLen t a = zLen c a ∧ zWork t a = zWork c a ∧ zAsk t a = zAsk c a := zSvc_cg (h 5 a 0 (by omega)) (congrFun (h.f (by omega)) a) (congrFun (h.f (by omega)) a)
theorem zSm.le {c t : zS} (h : zSm c t) (a : Nat) : zLen t a = zLen c a := (h.svc a).2.2.1
theorem zSm.ch {c t : zS} (h : zSm c t) (a : Nat) (x : Int) : zChair t a x = zChair c a x := by
  unfold zChair zFr
  rw [h.f (g := 21) (Or.inr rfl), h.le a]
theorem zSm.lo {c t : zS} (h : zSm c t) (i : Int) : zLoad t i = zLoad c i := by
  unfold zLoad
  rw [h 9 0 0 (by omega)]
  refine zsm_cong (fun v hv => ?_)
  rw [h 13 v 0 (by omega), h 11 v 0 (by omega), h 10 v 0 (by omega), (h.svc _).2.2.2.1]
theorem zSm.can {c t : zS} (h : zSm c t) (i a : Nat) (x : Int) : zCan t i a x = zCan c i a x := zCan_cg (h 1 i 0 (by omega)) (h 2 i 0 (by omega)) (h 3 i 0 (by omega)) (h 5 a 0 (by omega)) (congrFun (h.f (by omega)) a) (congrFun (h.f (by omega)) a) (congrFun (h.f (Or.inr rfl)) (i + 4))
theorem zSm.ge {c t : zS} (h : zSm c t) {who : Nat → Bool} (a : Nat) (x : Int) : zGet t who a x = zGet c who a x := by
  unfold zGet
  rw [h 0 0 0 (by omega), zMem_cg (s := t) (s' := c) (fun i => h.can i a x) (fun i => h.lo i)]
theorem zSm.ro {c t : zS} (h : zSm c t) {who : Nat → Bool} (a : Nat) (x : Int) : zRoomB t who a x = zRoomB c who a x := by
  unfold zRoomB
  rw [h.ge, h.ch]
theorem zSm.fi {c t : zS} (h : zSm c t) {who : Nat → Bool} (a : Nat) (x to : Int) : zFind t who a x to = zFind c who a x to := zScan_cg (h.le a) (fun y => h.ro a y) _ _
theorem zSm.rf (c : zS) : zSm c c := fun _ _ _ _ => rfl
theorem zSm.tr {a b c : zS} (h : zSm a b) (h2 : zSm b c) : zSm a c := fun g i j hg => (h2 g i j hg).trans (h g i j hg)
theorem zSm.u {c t : zS} (h : zSm c t) (f i j : Nat) (v : Int) : zSm (zsu c f i j v) (zsu t f i j v) := fun g a b hg => by
  unfold zsu
  by_cases hq : g = f ∧ a = i ∧ b = j
  · rw [if_pos hq, if_pos hq]
  · rw [if_neg hq, if_neg hq]
    exact h g a b hg
theorem zSm.r {c t : zS} (h : zSm c t) {f : Nat} (hf : ¬ (f ≤ 13 ∨ f = 21)) (i j : Nat) (v : Int) : zSm c (zsu t f i j v) := fun g a b hg => by
  have hq9 : ¬ (g = f ∧ a = i ∧ b = j) := fun hq => hf (hq.1 ▸ hg)
  unfold zsu
  rw [if_neg hq9]
  exact h g a b hg
theorem zSm.l {c t : zS} (h : zSm c t) {f : Nat} (hf : ¬ (f ≤ 13 ∨ f = 21)) (i j : Nat) (v : Int) : zSm (zsu c f i j v) t := fun g a b hg => by
  have hq9 : ¬ (g = f ∧ a = i ∧ b = j) := fun hq => hf (hq.1 ▸ hg)
  unfold zsu
  rw [if_neg hq9]
  exact h g a b hg
theorem zSm.M {c t : zS} (h : zSm c t) (v : Nat) (b : Int) : zSm (zOpM c v b) (zOpM t v b) := fun g p q hg => by
  by_cases h21 : g = 21
  · subst h21
    show (if (p : Int) = t 12 v 0 then zfil (t 21 p) (t 13 v 0) (t 13 v 0 + zLen t (t 10 v 0).toNat) b q else if (p : Int) = t 11 v 0 + 4 then zMk t (t 10 v 0).toNat (t 13 v 0) b (t 21 p) (zSc t (t 10 v 0).toNat) q else t 21 p q) = (if (p : Int) = c 12 v 0 then zfil (c 21 p) (c 13 v 0) (c 13 v 0 + zLen c (c 10 v 0).toNat) b q else if (p : Int) = c 11 v 0 + 4 then zMk c (c 10 v 0).toNat (c 13 v 0) b (c 21 p) (zSc c (c 10 v 0).toNat) q else c 21 p q)
    rw [h 12 v 0 (by omega), h.f (g := 21) (Or.inr rfl), h 13 v 0 (by omega), h 10 v 0 (by omega), h 11 v 0 (by omega), h.le, (h.svc _).1, zMk_cg (s := t) (s' := c) (congrFun (h.f (by omega)) _) (congrFun (h.f (by omega)) _)]
  · rw [show zOpM t v b g p q = t g p q from if_neg h21, show zOpM c v b g p q = c g p q from if_neg h21]
    exact h g p q hg
theorem zSm.O {c t : zS} (h : zSm c t) (v : Nat) : zSm (zOpO c v) (zOpO t v) := (h.M v (-1)).u _ _ _ _
theorem zSm.L {c t : zS} (h : zSm c t) (v : Nat) (i d x : Int) : zSm (zOpL c v i d x) (zOpL t v i d x) := (((h.u _ _ _ _).u _ _ _ _).u _ _ _ _).M _ _
theorem zSm.B {c t : zS} (h : zSm c t) (a : Nat) (i d x : Int) : zSm (zOpB c a i d x) (zOpB t a i d x) := by
  unfold zOpB zOpV
  rw [h 9 0 0 (by omega)]
  exact zSm.L ((((h.u _ _ _ _).u _ _ _ _).u _ _ _ _).u _ _ _ _) _ _ _ _
theorem zSm.R (c : zS) (p : Int) : zSm (zOpR c p) c := fun g i j hg => by
  unfold zOpR
  rw [if_neg (by omega), if_neg (by omega)]
/-- what the model's state has of the book's -/
def zRel (c t : zS) : Prop := zSm c t ∧ t 14 0 0 = c 14 0 0 ∧ ∀ i : Nat, (i : Int) < c 14 0 0 → t 15 i 0 = c 15 i 0 ∧ t 16 i 0 = c 16 i 0
theorem zRel.x {c t : zS} (h : zRel c t) {f : Nat} (hf : f = 23 ∨ f = 24 ∨ f = 25) (i j : Nat) (v : Int) : zRel c (zsu t f i j v) :=
  ⟨h.1.r (by omega) i j v, (zsu_n (by omega)).trans h.2.1, fun k hk => ⟨(zsu_n (by omega)).trans (h.2.2 k hk).1, (zsu_n (by omega)).trans (h.2.2 k hk).2⟩⟩
theorem zRel.fd {c t : zS} (h : zRel c t) (p q : Int) : zRel c (zFd t p q) := (h.x (by omega) 0 0 p).x (by omega) 0 0 q
theorem zRel.B {c t : zS} (h : zRel c t) (a : Nat) (i d x : Int) : zRel (zOpB c a i d x) (zOpB t a i d x) := ⟨h.1.B a i d x, h.2.1, h.2.2⟩
theorem zRel.L {c t : zS} (h : zRel c t) (v : Nat) (i d x : Int) : zRel (zOpL c v i d x) (zOpL t v i d x) := ⟨h.1.L v i d x, h.2.1, h.2.2⟩
theorem zRel.O {c t : zS} (h : zRel c t) (v : Nat) : zRel (zOpO c v) (zOpO t v) := ⟨h.1.O v, h.2.1, h.2.2⟩
theorem zAll_t {s t t' : zS} {o : zOx} (h : ∀ kd, 16 ≤ kd → kd < 32 → zMod t kd 0 = zMod t' kd 0) : zAll s t o = zAll s t' o := by
  funext a
  simp only [zAll]
  by_cases h5 : a % 64 = 5
  · rw [if_pos h5, if_pos h5]
  · rw [if_neg h5, if_neg h5]
    by_cases h16 : a % 64 < 16
    · rw [if_pos h16, if_pos h16]
    · rw [if_neg h16, if_neg h16]
      by_cases h33 : a % 64 = 33
      · rw [if_pos h33, if_pos h33]
      · rw [if_neg h33, if_neg h33]
        by_cases h0 : a / 64 = 0
        · by_cases h32 : a % 64 < 32
          · rw [h0]
            exact h (a % 64) (by omega) h32
          · rw [h0]
            have key : ∀ u : zS, ∀ kd, 32 ≤ kd → zMod u kd 0 = none := fun u kd h => by
              obtain ⟨d, rfl⟩ : ∃ d, kd = d + 32 := ⟨kd - 32, by omega⟩
              rfl
            rw [key _ _ (by omega), key _ _ (by omega)]
        · have key : ∀ u : zS, zMod u (a % 64) (a / 64) = none := fun u => if_pos h0
          rw [key, key]
theorem zAll_m2 {s c t : zS} {o : zOx} (h : zSm c t) (h14 : t 14 0 0 = c 14 0 0) (h15 : ∀ i, t 15 i 0 = c 15 i 0) (h16 : ∀ i, t 16 i 0 = c 16 i 0) (h23 : t 23 0 0 = c 23 0 0) (h24 : t 24 0 0 = c 24 0 0) (h25 : t 25 0 0 = c 25 0 0) : zAll s t o = zAll s c o := by
  have e0 := h 0 0 0 (by omega)
  have e4 := h 4 0 0 (by omega)
  have e9 := h 9 0 0 (by omega)
  exact zAll_t (zKm (P := fun kd => zMod t kd 0 = zMod c kd 0) ⟨(by
    show some (zOb 8 [.ref 17, .ref 18, .ref 19, .int (zI (t 0 0 0)), .ref 20, .ref 21, .ref 22, .ref 23, .int (zI (t 4 0 0)), .ref 24, .ref 25, .ref 26, .ref 27, .int (zI (t 9 0 0)), .ref 28, .ref 29, .ref 30, .ref 31, .int (zI (t 14 0 0)), .int (zI (t 23 0 0)), .int (zI (t 24 0 0)), .int (zI (t 25 0 0))]) = some (zOb 8 [.ref 17, .ref 18, .ref 19, .int (zI (c 0 0 0)), .ref 20, .ref 21, .ref 22, .ref 23, .int (zI (c 4 0 0)), .ref 24, .ref 25, .ref 26, .ref 27, .int (zI (c 9 0 0)), .ref 28, .ref 29, .ref 30, .ref 31, .int (zI (c 14 0 0)), .int (zI (c 23 0 0)), .int (zI (c 24 0 0)), .int (zI (c 25 0 0))])
    rw [e0, e4, e9, h14, h23, h24, h25]), (congrArg some (congrArg (zAi 0 5) (funext fun j => h 1 _ _ (by omega)))), (congrArg some (congrArg (zAi 0 5) (funext fun j => h 2 _ _ (by omega)))), (congrArg some (congrArg (zAi 0 5) (funext fun j => h 3 _ _ (by omega)))), (congrArg some (congrArg (zAi 0 40) (funext fun j => h 6 _ _ (by omega)))), (congrArg some (congrArg (zAi 0 40) (funext fun j => h 7 _ _ (by omega)))), (congrArg some (congrArg (zAi 0 8) (funext fun j => h 5 _ _ (by omega)))), (congrArg some (congrArg (zAi 1 8) (funext fun j => h 8 _ _ (by omega)))), (congrArg some (congrArg (zAi 0 30) (funext fun j => h 10 _ _ (by omega)))), (congrArg some (congrArg (zAi 0 30) (funext fun j => h 11 _ _ (by omega)))), (congrArg some (congrArg (zAi 0 30) (funext fun j => h 12 _ _ (by omega)))), (congrArg some (congrArg (zAi 0 30) (funext fun j => h 13 _ _ (by omega)))), (congrArg some (congrArg (zAi 0 3000) (funext fun j => h 21 _ _ (Or.inr rfl)))), (congrArg some (congrArg (zAi 0 2400) (funext fun j => by
    show (if j < 2400 then t 21 (j / 600) (j % 600) else 0) = (if j < 2400 then c 21 (j / 600) (j % 600) else 0)
    rw [h 21 _ _ (Or.inr rfl)]))), (congrArg some (congrArg (zAi 0 6) (funext fun j => h15 j))), (congrArg some (congrArg (zAi 0 6) (funext fun j => h16 j)))⟩)
/-- the model's state: the book's, and its own beyond it -/
def zMix (c u : zS) : zS := fun g i j => match g with
  | 15 => if (i : Int) < c 14 0 0 then c 15 i j else u 15 i j
  | 16 => if (i : Int) < c 14 0 0 then c 16 i j else u 16 i j
  | 23 => u 23 i j
  | 24 => u 24 i j
  | 25 => u 25 i j
  | _ => c g i j
theorem zK14 {g : Nat} {P : Nat → Prop} (hg : g ≤ 13 ∨ g = 21) (h : P 0 ∧ P 1 ∧ P 2 ∧ P 3 ∧ P 4 ∧ P 5 ∧ P 6 ∧ P 7 ∧ P 8 ∧ P 9 ∧ P 10 ∧ P 11 ∧ P 12 ∧ P 13 ∧ P 21) : P g := by
  obtain ⟨h0, h1, h2, h3, h4, h5, h6, h7, h8, h9, h10, h11, h12, h13, h14⟩ := h
  rcases (show g = 0 ∨ g = 1 ∨ g = 2 ∨ g = 3 ∨ g = 4 ∨ g = 5 ∨ g = 6 ∨ g = 7 ∨ g = 8 ∨ g = 9 ∨ g = 10 ∨ g = 11 ∨ g = 12 ∨ g = 13 ∨ g = 21 by omega) with e | e | e | e | e | e | e | e | e | e | e | e | e | e | e <;> subst e <;> assumption
theorem zMix_s (c u : zS) : zSm c (zMix c u) := fun g i j hg => zK14 (P := fun g => zMix c u g i j = c g i j) hg ⟨rfl, rfl, rfl, rfl, rfl, rfl, rfl, rfl, rfl, rfl, rfl, rfl, rfl, rfl, rfl⟩
theorem zMix_r (c u : zS) : zRel c (zMix c u) := ⟨zMix_s c u, rfl, fun i hi => ⟨if_pos hi, if_pos hi⟩⟩
theorem zAll_mix {s c t : zS} {o : zOx} (h : zRel c t) : zAll s t o = zAll s (zMix c t) o := by
  refine zAll_m2 (fun g i j hg => (h.1 g i j hg).trans (zMix_s c t g i j hg).symm) h.2.1 ?_ ?_ rfl rfl rfl
  · intro i
    show t 15 i 0 = if (i : Int) < c 14 0 0 then c 15 i 0 else t 15 i 0
    by_cases hi : (i : Int) < c 14 0 0
    · rw [if_pos hi]; exact (h.2.2 i hi).1
    · rw [if_neg hi]
  · intro i
    show t 16 i 0 = if (i : Int) < c 14 0 0 then c 16 i 0 else t 16 i 0
    by_cases hi : (i : Int) < c 14 0 0
    · rw [if_pos hi]; exact (h.2.2 i hi).2
    · rw [if_neg hi]
theorem zMix_b {c u : zS} (hb : zB c) (hu : zB u) : zB (zMix c u) := fun g i j => by
  unfold zMix
  split
  · split
    · exact hb _ _ _
    · exact hu _ _ _
  · split
    · exact hb _ _ _
    · exact hu _ _ _
  · exact hu _ _ _
  · exact hu _ _ _
  · exact hu _ _ _
  · exact hb _ _ _
theorem zMix_c {c u : zS} (h : zC1 c) : zC1 (zMix c u) := h
/-- while the model serves: the book's state, and the model's list -/
def zHy (d c u : zS) : zS := fun g i j => match g with
  | 14 => c 14 i j
  | 15 => u 15 i j
  | 16 => u 16 i j
  | 17 => c 17 i j
  | 18 => c 18 i j
  | 19 => c 19 i j
  | 20 => c 20 i j
  | 22 => c 22 i j
  | 23 => u 23 i j
  | 24 => u 24 i j
  | 25 => u 25 i j
  | _ => d g i j
theorem zHy_s (d c u : zS) : zSm d (zHy d c u) := fun g i j hg => zK14 (P := fun g => zHy d c u g i j = d g i j) hg ⟨rfl, rfl, rfl, rfl, rfl, rfl, rfl, rfl, rfl, rfl, rfl, rfl, rfl, rfl, rfl⟩
theorem zHy_b {d c u : zS} (hd : zB d) (hb : zB c) (hu : zB u) : zB (zHy d c u) := fun g i j => by
  unfold zHy
  split <;> first | exact hd _ _ _ | exact hb _ _ _ | exact hu _ _ _
theorem zHy_c {d c u : zS} (hd : zC1 d) (hc : zC1 c) (h4 : d 4 0 0 = c 4 0 0) : zC1 (zHy d c u) := by
  obtain ⟨c1, c2, c3, c4, c5, c6, c7, c8, c9, c10, c11, c12, c13, c14, c15⟩ := hd
  obtain ⟨_, _, _, d4, d5, _, _, _, _, d10, _, d12, d13, _, _⟩ := hc
  refine ⟨c1, c2, c3, d4, d5, c6, c7, c8, c9, d10, c11, d12, ?_, c14, c15⟩
  intro r hr
  have h1 := d13 r hr
  have e : zHy d c u 4 0 0 = c 4 0 0 := h4
  rw [e]
  exact h1
theorem zAll_hy {s d c t : zS} {o : zOx} (h : zSm d t) (h14 : t 14 0 0 = c 14 0 0) : zAll s t o = zAll s (zHy d c t) o := zAll_m2 (fun g i j hg => (h g i j hg).trans (zHy_s d c t g i j hg).symm) h14 (fun i => rfl) (fun i => rfl) rfl rfl rfl
theorem zScan_wc {s : zS} {who who' : Nat → Bool} {a : Nat} {to : Int} (hr : ∀ x, zRoomB s who a x = zRoomB s who' a x) : ∀ n x, zScan s who a to n x = zScan s who' a to n x
  | 0, _ => rfl
  | n + 1, x => by rw [zScan, zScan, hr, zScan_wc hr n]
theorem zFind_31 {s : zS} (hc : zC1 s) (a : Nat) (x to : Int) : zFind s (zWho (-1)) a x to = zFind s (zBit 31) a x to := zScan_wc (fun y => by unfold zRoomB; rw [zWho_31 hc]) _ _
theorem zFind_1 {s : zS} (hc : zC1 s) {w : Int} (h0 : 0 ≤ w) (h1 : w < s 0 0 0) (a : Nat) (x to : Int) : zFind s (zWho w) a x to = zFind s (zBit (2 ^ w.toNat)) a x to := zScan_wc (fun y => by unfold zRoomB; rw [zWho_1 hc h0 h1]) _ _
theorem zSw_13 : ∀ (n : Nat) {c : zS} {p : Nat} {m : Int} {v : Nat}, 0 ≤ c 9 0 0 → (v : Int) < c 9 0 0 → (zSw n c p m).1 13 v 0 = c 13 v 0
  | 0, _, _, _, _, _, _ => rfl
  | n + 1, c, p, m, v, h0, h => by
    rw [zSw]
    split
    · exact zSw_13 n h0 h
    · refine (zSw_13 n (c := zSwB c p) (show 0 ≤ c 9 0 0 + 1 by omega) (show (v : Int) < c 9 0 0 + 1 by omega)).trans ?_
      exact (zsu_n (s := zsu (zsu (zOpV c (c 15 p 0).toNat) 11 (c 9 0 0).toNat 0 _) 12 (c 9 0 0).toNat 0 _) (f := 13) (i := (c 9 0 0).toNat) (j := 0) (g := 13) (a := v) (b := 0) (by omega)).trans (show zOpV c (c 15 p 0).toNat 13 v 0 = c 13 v 0 from if_neg (fun h => by omega))
