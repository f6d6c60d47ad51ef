/-! ===== the abstract machine: values with symbolic addresses, a heap as a function of them ===== -/
/-- an abstract object: an array of numbers (kind, length, contents), of references, an object (class, fields) -/
abbrev zO : Type := (Nat × Nat × (Nat → Int)) ⊕ ((Nat × Nat × (Nat → Option Nat)) ⊕ (Nat × List Value))
abbrev zM : Type := Nat → Option zO
/-- the world's constants: the classes' numbers, the arrays' classes, the first new address, the addresses that stood before (63: the empty array, 127: the script, 191: the class object of Object[]) -/
abbrev zG : Type := va_G × (Nat → ClassId) × Nat × (Nat → Nat)
abbrev zAi (k n : Nat) (f : Nat → Int) : zO := .inl (k, n, f)
abbrev zAr (k n : Nat) (f : Nat → Option Nat) : zO := .inr (.inl (k, n, f))
abbrev zOb (ci : Nat) (fs : List Value) : zO := .inr (.inr (ci, fs))
def zI (z : Int) : Int32 := Int32.ofInt z
def zL (z : Int) : Int64 := Int64.ofInt z
abbrev zE : Nat := 63
abbrev zX : Nat := 127
def zTy (G : zG) : List (ClassId × FieldType) := [(G.2.1 0, .int), (G.2.1 1, .boolean), (G.2.1 2, .int), (G.2.1 3, .object "SalonBook$Diary"), (G.2.1 4, .object "java/lang/Object")]
def zA (G : zG) : Nat → Prop := fun q => G.2.2.1 ≤ q
def zmr (L : Nat → Nat) (v : Value) : Value := match v with
  | .ref a => .ref (L a)
  | w => w
def zmq (L : Nat → Nat) (q : Nat × Value) : Nat × Value := (q.1, zmr L q.2)
def zme (G : zG) (L : Nat → Nat) (o : zO) : va_E := match o with
  | .inl (k, n, f) => if k = 2 then .inl (G.2.1 k, n, .inr (.inl (fun j => zL (f j)))) else .inl (G.2.1 k, n, .inl (fun j => zI (f j)))
  | .inr (.inl (k, n, f)) => .inl (G.2.1 k, n, .inr (.inr (.inr (.inr (fun j => (f j).map L)))))
  | .inr (.inr (ci, fs)) => .inr (ci, fs.map (zmr L))
/-- an address that stands -/
def zin (M : zM) (a : Nat) : Prop := (M a).isSome = true ∨ a % 64 = 63
def zok (M : zM) (v : Value) : Prop := ∀ a, v = .ref a → zin M a
def zoo (M : zM) (o : zO) : Prop := match o with
  | .inl _ => True
  | .inr (.inl (_, _, f)) => ∀ j a, f j = some a → zin M a
  | .inr (.inr (_, fs)) => ∀ v ∈ fs, zok M v
def zu (M : zM) (t : Nat) (o : zO) : zM := fun q => if q = t then some o else M q
theorem zu_s (M : zM) (t : Nat) (o : zO) : zu M t o t = some o := if_pos rfl
theorem zu_n {M : zM} {t q : Nat} {o : zO} (h : q ≠ t) : zu M t o q = M q := if_neg h
theorem zin_u {M : zM} {t : Nat} {o : zO} {a : Nat} (h : zin M a) : zin (zu M t o) a := by
  rcases h with h | h
  · by_cases e : a = t
    · exact Or.inl (by rw [e, zu_s]; rfl)
    · exact Or.inl (by rw [zu_n e]; exact h)
  · exact Or.inr h
theorem zok_u {M : zM} {t : Nat} {o : zO} {v : Value} (h : zok M v) : zok (zu M t o) v := fun a e => zin_u (h a e)
theorem zoo_u {M : zM} {t : Nat} {o : zO} {x : zO} (h : zoo M x) : zoo (zu M t o) x := by
  rcases x with x | ⟨k, n, f⟩ | ⟨ci, fs⟩
  · trivial
  · exact fun j a e => zin_u (h j a e)
  · exact fun v hv => zok_u (h v hv)
def zRep (G : zG) (L : Nat → Nat) (M : zM) (H : Heap) : Prop :=
  (∀ a, a % 64 = 63 → L a = G.2.2.2 a ∧ M a = none) ∧ (∀ t o, M t = some o → zoo M o) ∧ (∀ t u, (M t).isSome = true → (M u).isSome = true → L t = L u → t = u) ∧
  ∃ ws : va_W, va_P G.1 vwCl ws H ∧ va_D (zA G) ws ∧ ∀ t o, M t = some o → ∃ k : Nat, ws[k]? = some (L t, zme G L o)
/-- what stood at a method's start is where it was -/
def zAg (L0 : Nat → Nat) (M0 : zM) (L : Nat → Nat) (M : zM) : Prop := ∀ a, zin M0 a → zin M a ∧ L a = L0 a
def zStr : List (Nat × String) := [(106, "no more steps"), (112, "service was booked or requested"), (114, "usual service out of range"), (164, "no place for the visit"), (174, "no more requests"), (182, "no such request"), (212, "no such chair"), (230, "minutes out of range"), (238, "no such minute"), (240, "no such service"), (245, "no such member of staff"), (247, "no such visit"), (253, "visit was dropped"), (255, "no more services"), (257, "no more visits"), (261, "no such place"), (41, "skills out of range"), (50, "shift out of range"), (58, "no more staff"), (73, "skill out of range")]
theorem zmr_cat (L : Nat → Nat) (v : Value) : (zmr L v).category = v.category := by cases v <;> rfl
theorem zI_add (a b : Int) : zI a + zI b = zI (a + b) := (Int32.ofInt_add a b).symm
theorem zI_sub (a b : Int) : zI a - zI b = zI (a - b) := (Int32.ofInt_sub a b).symm
theorem zI_mul (a b : Int) : zI a * zI b = zI (a * b) := (Int32.ofInt_mul a b).symm
theorem zI_x (x : Int32) : zI x.toInt = x := Int32.ofInt_toInt x
/-- in the range of an int -/
abbrev zR (z : Int) : Prop := -2147483648 ≤ z ∧ z < 2147483648
theorem zI_t {z : Int} (h : zR z) : (zI z).toInt = z := by
  rw [zI, Int32.toInt_ofInt, show Int32.size = 4294967296 from rfl]
  have h1 := h.1
  have h2 := h.2
  rw [Int.bmod_def]
  omega
theorem zI_r (x : Int32) : zR x.toInt := ⟨Int32.le_toInt x, Int32.toInt_lt x⟩
theorem zI_le {a b : Int} (ha : zR a) (hb : zR b) : zI a ≤ zI b ↔ a ≤ b := by rw [Int32.le_iff_toInt_le, zI_t ha, zI_t hb]
theorem zI_lt {a b : Int} (ha : zR a) (hb : zR b) : zI a < zI b ↔ a < b := by rw [Int32.lt_iff_toInt_lt, zI_t ha, zI_t hb]
theorem zI_eq {a b : Int} (ha : zR a) (hb : zR b) : zI a = zI b ↔ a = b := ⟨fun h => by rw [← zI_t ha, h, zI_t hb], fun h => by rw [h]⟩
theorem zI_c {z : Int} (h0 : 0 ≤ z) (h1 : z < 2147483648) : (zI z).toNatClampNeg = z.toNat := by
  show (zI z).toInt.toNat = _
  rw [zI_t ⟨by omega, h1⟩]
theorem zI_in {z : Int} {n : Nat} (h0 : 0 ≤ z) (h1 : z < n) (hn : n < 2147483648) : vp_in (zI z) n := by
  intro h
  rw [zI_c h0 (by omega)] at h
  rcases h with h | h
  · have := (zI_lt (a := z) (b := 0) ⟨by omega, by omega⟩ ⟨by omega, by omega⟩).mp h
    omega
  · omega
theorem zI_0 : zI 0 = 0 := rfl
