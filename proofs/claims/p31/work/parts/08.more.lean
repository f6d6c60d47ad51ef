/-! ===== further rules ===== -/
theorem zu_zu (M : zM) (t : Nat) (o o' : zO) : zu (zu M t o) t o' = zu M t o' := by
  funext q
  simp only [zu]
  split <;> rfl
theorem zu_id {M : zM} {t : Nat} {o : zO} (h : M t = some o) : zu M t o = M := by
  funext q
  simp only [zu]
  split
  · rename_i e; rw [e, h]
  · rfl
theorem zu_cm {M : zM} {t u : Nat} {o o' : zO} (h : t ≠ u) : zu (zu M t o) u o' = zu (zu M u o') t o := by
  funext q
  simp only [zu]
  split
  · rename_i e; rw [if_neg (by rw [e]; exact Ne.symm h)]
  · rfl
/-- two heaps that agree but at one place -/
theorem zu_ext {M M' : zM} {t : Nat} {o : zO} (h1 : M' t = some o) (h2 : ∀ q, q ≠ t → M' q = M q) : zu M t o = M' := by
  funext q
  simp only [zu]
  split
  · rename_i e; rw [e, h1]
  · rename_i e; exact (h2 q e).symm
section ZM
variable {k : zC} {G : zG} {R : Room} {nL : Nat} {Q : State → Prop} {M : zM} {cl sl pc : Nat} {lv : List (Nat × Value)} {st : List Value} {cc : ByteArray} {own : String} {ret : Option FieldType} {tb : List ExceptionTableEntry} {Rc Rc' : Option Value → zM → Prop} {Xc Xc' : String → zM → Prop}
theorem arrV_ext {c : ClassId} {n : Nat} {f g : Nat → Value} (h : ∀ j, j < n → f j = g j) : arrV c n f = arrV c n g := by
  have e : (Array.ofFn (n := n) fun j => f j.val) = Array.ofFn (n := n) fun j => g j.val := congrArg Array.ofFn (funext fun j => h j.val j.isLt)
  show ({ cls := c, slots := Array.ofFn (n := n) fun j => f j.val, vm := .none } : Cell) = { cls := c, slots := Array.ofFn (n := n) fun j => g j.val, vm := .none }
  rw [e]
theorem zRep_ext {L : Nat → Nat} {H : Heap} {t : Nat} {o o' : zO} (hm : M t = some o) (ho : zoo M o') (hat : ∀ q : Nat, va_at G.1 vwCl (q, zme G L o) H → va_at G.1 vwCl (q, zme G L o') H) (hR : zRep G L M H) : zRep G L (zu M t o') H := by
  obtain ⟨e1, hz, hi, ws, hP, hD, hw⟩ := id hR
  obtain ⟨j, hj⟩ := hw t _ hm
  have hP1 : va_P G.1 vwCl (ws.set j (L t, zme G L o')) H := hP.set hD hj (hat _ (hP j _ hj)) (fun _ _ => rfl)
  exact zRep_set hm ho hR hD hw hj hP1 (hD.set hj)
/-- what an array holds beyond its end is free -/
theorem z_ext {t n kd : Nat} {f : Nat → Int} (f' : Nat → Int) (hm : M t = some (zAi kd n f)) (h : ∀ j, j < n → f j = f' j) (kk : zJ k G R nL Q (zu M t (zAi kd n f')) cl sl pc lv st) : zJ k G R nL Q M cl sl pc lv st := by
  intro L H locs ls hR hA hv hs hS hl
  refine kk L H locs ls (zRep_ext hm trivial (fun q hq => ?_) hR) (zAg_u hA) (fun q hq => zok_u (hv q hq)) (fun v hv => zok_u (hs v hv)) hS hl
  by_cases e : kd = 2
  · have e2 : ∀ g : Nat → Int, zme G L (zAi kd n g) = .inl (G.2.1 kd, n, .inr (.inl (fun j => zL (g j)))) := fun g => if_pos e
    rw [e2] at hq ⊢
    show H[q]? = some (vp_cell _ _)
    rw [show H[q]? = some (vp_cell _ _) from hq, vp_cell_l, vp_cell_l]
    exact congrArg some (arrV_ext fun j hj => by rw [h j hj])
  · have e2 : ∀ g : Nat → Int, zme G L (zAi kd n g) = .inl (G.2.1 kd, n, .inl (fun j => zI (g j))) := fun g => if_neg e
    rw [e2] at hq ⊢
    show H[q]? = some (vp_cell _ _)
    rw [show H[q]? = some (vp_cell _ _) from hq, vp_cell_i, vp_cell_i]
    exact congrArg some (arrV_ext fun j hj => by rw [h j hj])
theorem z_extr {t n kd : Nat} {f : Nat → Option Nat} (f' : Nat → Option Nat) (hm : M t = some (zAr kd n f)) (h : ∀ j, j < n → f j = f' j) (h0 : ∀ j, n ≤ j → f' j = none) (kk : zJ k G R nL Q (zu M t (zAr kd n f')) cl sl pc lv st) : zJ k G R nL Q M cl sl pc lv st := by
  intro L H locs ls hR hA hv hs hS hl
  refine kk L H locs ls (zRep_ext hm (fun j a e => ?_) (fun q hq => ?_) hR) (zAg_u hA) (fun q hq => zok_u (hv q hq)) (fun v hv => zok_u (hs v hv)) hS hl
  · rcases Nat.lt_or_ge j n with hj | hj
    · exact hR.2.1 t _ hm j a ((h j hj).trans e)
    · rw [h0 j hj] at e; cases e
  · show H[q]? = some (vp_cell _ _)
    rw [show H[q]? = some (vp_cell _ _) from hq, vp_cell_q, vp_cell_q]
    exact congrArg some (arrV_ext fun j hj => by rw [h j hj])
/-- a cast to the object's own class -/
theorem z_cast (F : zF k G cc nL own wsL_law ret tb) {t ci N index : Nat} {C : String} {T : u_T} {fs : List Value} (hw9 : Cond.classLink own index C ∈ wsL_law) (hm : M t = some (zOb ci fs)) (hc : vwCl[ci]? = some (C, T, N)) (d : decode cc pc = .ok (.checkcast index, 3)) (kk : zJ k G R nL Q M (cl) (sl) (pc + 3) lv (.ref t :: st)) : zJ k G R nL Q M (cl) (sl) (pc) lv (.ref t :: st) := by
  obtain ⟨⟨p, l, e, s, m⟩, ⟨args, below, meth, c⟩, L0, M0⟩ := k
  obtain ⟨⟨hx, hb, hml, hown, hts⟩, hLow, hfl, hlk, hrt, htb⟩ := F
  intro L H locs ls hR hA hv hs hS hl
  obtain ⟨cell, g1, g2, g3⟩ := z_recv hR hLow.1 hm hc
  have hat := (hLow.1.1 ci _ hc).2
  intro T9 hT X
  obtain ⟨vm', X', stp⟩ := X.checkcastYes hx hown (hts _ hw9) (by rw [hT]; exact g1) g2 g3 (va_assign (s := s) ⟨g3, by have e9 := Option.some.inj (hat.1.symm.trans g3); rw [← e9]; exact hat.2⟩) (g := F0 m pc ls ((Value.ref t :: st).map (zmr L))) rfl rfl (by rw [hb]; exact d)
  obtain ⟨t9, a1, b1⟩ := kk L H locs ls hR hA hv hs hS hl (T9.setVm vm') hT X'
  exact ⟨t9, stp t9 a1, b1⟩
/-- the empty array that every list begins with -/
theorem z_gets (F : zF k G cc nL own wsL_law ret tb) {index : Nat} (hown9 : own = RJx4a65c) (hw9 : Cond.fieldLink own index "java/util/ArrayList" "DEFAULTCAPACITY_EMPTY_ELEMENTDATA" "[Ljava/lang/Object;" ∈ wsL_law) (d : decode cc pc = .ok (.getstatic index, 3)) (kk : zJ k G R nL Q M (cl) (sl) (pc + 3) lv (.ref 63 :: st)) : zJ k G R nL Q M (cl) (sl) (pc) lv (st) := by
  obtain ⟨⟨p, l, e, s, m⟩, ⟨args, below, meth, c⟩, L0, M0⟩ := k
  obtain ⟨⟨hx, hb, hml, hown, hts⟩, hLow, hfl, hlk, hrt, htb⟩ := F
  intro L H locs ls hR hA hv hs hS hl
  obtain ⟨e1, hz, hi, ws, hP, hD, hw⟩ := id hR
  refine va_gets hx hb hLow.2.2.2.1 hS hown (hts _ hw9) (fun _ h => h) d ?_
  have key := kk L H locs ls hR hA hv (zs_r (Or.inr rfl) hs) hS hl
  rw [List.map_cons, show zmr L (.ref 63) = .ref (G.2.2.2 63) from congrArg Value.ref (e1 63 rfl).1] at key
  exact key
/-! ===== lists of numbers: a stretch written over ===== -/
def zfil (f : Nat → Int) (a b : Int) (v : Int) : Nat → Int := fun j => if a ≤ (j : Int) ∧ (j : Int) < b then v else f j
theorem zfil_0 (f : Nat → Int) {a b : Int} (v : Int) (h : b ≤ a) : zfil f a b v = f := by
  funext j
  exact if_neg (by omega)
theorem zfil_s (f : Nat → Int) {a i : Int} (v : Int) (h0 : 0 ≤ i) (h : a ≤ i) : zup (zfil f a i v) i.toNat v = zfil f a (i + 1) v := by
  funext j
  simp only [zup, zfil]
  by_cases e : j = i.toNat
  · rw [if_pos e, if_pos (by omega)]
  · rw [if_neg e]
    by_cases e2 : a ≤ (j : Int) ∧ (j : Int) < i
    · rw [if_pos e2, if_pos (by omega)]
    · rw [if_neg e2, if_neg (by omega)]
theorem zTk_cong {f g : Nat → Int} : ∀ {m : Nat}, (∀ j, j < m → f j = g j) → zTk f m = zTk g m
  | 0, _ => rfl
  | m + 1, h => by rw [zTk, zTk, zTk_cong (fun j hj => h j (by omega)), h m (by omega)]
theorem zTk_r (f : Nat → Int) : ∀ m, 0 ≤ zTk f m ∧ zTk f m ≤ m
  | 0 => ⟨by simp [zTk], by simp [zTk]⟩
  | m + 1 => by
    have ih := zTk_r f m
    rw [zTk]
    constructor <;> split <;> omega
theorem zTk_mono (f : Nat → Int) (a : Nat) : ∀ b, zTk f a ≤ zTk f (a + b)
  | 0 => Int.le_refl _
  | b + 1 => by
    have ih := zTk_mono f a b
    rw [← Nat.add_assoc, zTk]
    split <;> omega
/-- nothing is taken in a stretch iff the counts at its ends are the same -/
theorem zTk_free (f : Nat → Int) (a : Nat) : ∀ b, zTk f a = zTk f (a + b) ↔ ∀ j, a ≤ j → j < a + b → f j = -1
  | 0 => ⟨fun _ j h1 h2 => absurd h2 (by omega), fun _ => rfl⟩
  | b + 1 => by
    have ih := zTk_free f a b
    have hm := zTk_mono f a b
    rw [← Nat.add_assoc, zTk]
    constructor
    · intro h j h1 h2
      have hc : f (a + b) = -1 := by
        by_cases hc : f (a + b) = -1
        · exact hc
        · rw [if_neg hc] at h; omega
      rw [if_pos hc, Int.add_zero] at h
      by_cases e : j = a + b
      · rw [e]; exact hc
      · exact ih.mp h j h1 (by omega)
    · intro h
      rw [if_pos (h (a + b) (by omega) (by omega)), Int.add_zero]
      exact ih.mpr fun j h1 h2 => h j h1 (by omega)
theorem zTk_step {f f' : Nat → Int} {w x : Int} (h0 : 0 ≤ w) (hx : x = (if (w.toNat : Int) ≤ w then zTk f' w.toNat else zTk f w.toNat) + (if f' w.toNat = -1 then 0 else 1)) : zup (fun (j : Nat) => if (j : Int) ≤ w then zTk f' j else zTk f j) (w + 1).toNat x = fun (j : Nat) => if (j : Int) ≤ w + 1 then zTk f' j else zTk f j := by
  funext j
  simp only [zup]
  have e : (w + 1).toNat = w.toNat + 1 := by omega
  by_cases hj : j = (w + 1).toNat
  · rw [if_pos hj, if_pos (by omega), hx, if_pos (by omega), hj, e, zTk]
  · rw [if_neg hj]
    by_cases h : (j : Int) ≤ w
    · rw [if_pos h, if_pos (by omega)]
    · rw [if_neg h, if_neg (by omega)]
end ZM
