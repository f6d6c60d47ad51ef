/-! ===== the state: what the book holds, as numbers; and the heap that holds it ===== -/
/-- field, place, second place. 0 members, 1 skills, 2 from, 3 to; 4 services, 5 steps, 6 a step's skill, 7 its minutes, 8 used; 9 visits, 10 service, 11 member, 12 chair, 13 start (-1: dropped); 14 requests, 15 service, 16 latest; 17 the request's number, 18 how many were ever made, 19 service, 20 latest of the request so numbered; 21 the visit of a day's minute (days 0 to 3 chairs, 4 on members); 22 candidates; 23 found member, 24 found chair, 25 thrown -/
abbrev zS : Type := Nat → Nat → Nat → Int
def zsu (s : zS) (f i j : Nat) (v : Int) : zS := fun g a b => if g = f ∧ a = i ∧ b = j then v else s g a b
theorem zsu_s (s : zS) (f i j : Nat) (v : Int) : zsu s f i j v f i j = v := if_pos ⟨rfl, rfl, rfl⟩
theorem zsu_n {s : zS} {f i j g a b : Nat} {v : Int} (h : ¬ (g = f ∧ a = i ∧ b = j)) : zsu s f i j v g a b = s g a b := if_neg h
def zsm (f : Nat → Int) : Nat → Int
  | 0 => 0
  | n + 1 => zsm f n + f n
theorem zsm_cong {f g : Nat → Int} : ∀ {n : Nat}, (∀ k, k < n → f k = g k) → zsm f n = zsm g n
  | 0, _ => rfl
  | n + 1, h => by rw [zsm, zsm, zsm_cong (fun k hk => h k (by omega)), h n (by omega)]
/-- minutes of the steps ahead of step k -/
def zOff (s : zS) (a k : Nat) : Int := zsm (s 7 a) k
def zSc (s : zS) (a : Nat) : Nat := (s 5 a 0).toNat
def zLen (s : zS) (a : Nat) : Int := zOff s a (zSc s a)
def zWork (s : zS) (a : Nat) : Int := zsm (fun k => if s 6 a k = -1 then 0 else s 7 a k) (zSc s a)
def zAskN (s : zS) (a : Nat) : Nat → Nat
  | 0 => 0
  | k + 1 => zAskN s a k ||| (if s 6 a k = -1 then 0 else 2 ^ (s 6 a k).toNat)
def zAsk (s : zS) (a : Nat) : Int := (zAskN s a (zSc s a) : Nat)
/-- how many minutes of a day before m are taken -/
def zTk (f : Nat → Int) : Nat → Int
  | 0 => 0
  | m + 1 => zTk f m + if f m = -1 then 0 else 1
def zCap : Nat → Nat
  | 0 => 10
  | 1 => 15
  | 2 => 22
  | _ => 33
/-- which array of the visits' list stands -/
def zVer (n : Int) : Nat := if n ≤ 10 then 0 else if n ≤ 15 then 1 else if n ≤ 22 then 2 else 3
/-- the least count at which the v-th array of the visits' list has been made -/
def zMin : Nat → Int
  | 0 => 1
  | 1 => 11
  | 2 => 16
  | _ => 23
def zDat (s : zS) : Nat → Nat
  | 0 => if s 0 0 0 = 0 then zE else 2
  | 1 => if s 4 0 0 = 0 then zE else 66
  | 2 => if s 9 0 0 = 0 then zE else 256 * zVer (s 9 0 0) + 130
  | _ => if s 18 0 0 = 0 then zE else 194
/-- the class's part of the heap: kind, number -/
def zCls (s : zS) (kd i : Nat) : Option zO := match kd with
  | 0 => if i = 0 then some (zOb 7 [.ref 1, .ref 65, .ref 129, .ref 193, .ref 3, .ref 4]) else none
  | 1 => if i = 0 then some (zOb 0 [.int (zI (s 0 0 0)), .ref (zDat s 0), .int (zI (s 0 0 0))]) else if i = 1 then some (zOb 0 [.int (zI (s 4 0 0)), .ref (zDat s 1), .int (zI (s 4 0 0))]) else if i = 2 then some (zOb 0 [.int (zI (s 9 0 0)), .ref (zDat s 2), .int (zI (s 9 0 0))]) else if i = 3 then some (zOb 0 [.int (zI (2 * s 18 0 0 - s 14 0 0)), .ref (zDat s 3), .int (zI (s 14 0 0))]) else none
  | 2 => if i % 4 = 0 then (if i = 0 ∧ 0 < s 0 0 0 then some (zAr 4 10 (fun j => if (j : Int) < s 0 0 0 then some (64 * j + 9) else none)) else none)
    else if i % 4 = 1 then (if i = 1 ∧ 0 < s 4 0 0 then some (zAr 4 10 (fun j => if (j : Int) < s 4 0 0 then some (64 * j + 10) else none)) else none)
    else if i % 4 = 2 then (if i / 4 ≤ 3 ∧ zMin (i / 4) ≤ s 9 0 0 then some (zAr 4 (zCap (i / 4)) (fun j => if (j : Int) < s 9 0 0 ∧ j < zCap (i / 4) then some (64 * j + 14) else none)) else none)
    else (if i = 3 ∧ 0 < s 18 0 0 then some (zAr 4 10 (fun j => if (j : Int) < s 14 0 0 then some (64 * (s 17 j 0).toNat + 15) else none)) else none)
  | 3 => if i = 0 then some (zAr 3 4 (fun j => if j < 4 then some (64 * j + 6) else none)) else none
  | 4 => if i = 0 then some (zOb 3 [.ref 5]) else none
  | 6 => if (i : Int) < 4 + s 0 0 0 then some (zOb 1 [.ref (64 * i + 7), .ref (64 * i + 8)]) else none
  | 7 => if (i : Int) < 4 + s 0 0 0 then some (zAi 0 600 (s 21 i)) else none
  | 8 => if (i : Int) < 4 + s 0 0 0 then some (zAi 0 601 (zTk (s 21 i))) else none
  | 9 => if (i : Int) < s 0 0 0 then some (zOb 2 [.int (zI (s 1 i 0)), .int (zI (s 2 i 0)), .int (zI (s 3 i 0)), .ref (64 * (i + 4) + 6)]) else none
  | 10 => if (i : Int) < s 4 0 0 then some (zOb 5 [.int (zI i), .ref (64 * i + 11), .ref (64 * i + 12), .ref (64 * i + 13), .int (zI (s 5 i 0)), .int (zI (zLen s i)), .int (zI (zWork s i)), .int (zI (zAsk s i)), .int (zI (s 8 i 0))]) else none
  | 11 => if (i : Int) < s 4 0 0 then some (zAi 0 5 (fun k => if (k : Int) < s 5 i 0 then s 6 i k else 0)) else none
  | 12 => if (i : Int) < s 4 0 0 then some (zAi 0 5 (fun k => if (k : Int) < s 5 i 0 then zOff s i k else 0)) else none
  | 13 => if (i : Int) < s 4 0 0 then some (zAi 0 5 (fun k => if (k : Int) < s 5 i 0 then zOff s i (k + 1) else 0)) else none
  | 14 => if (i : Int) < s 9 0 0 then some (zOb 6 [.int (zI i), .ref (64 * (s 10 i 0).toNat + 10), .int (zI (if s 13 i 0 = -1 then -1 else s 11 i 0)), .int (zI (if s 13 i 0 = -1 then -1 else s 12 i 0)), .int (zI (s 13 i 0))]) else none
  | 15 => if (i : Int) < s 18 0 0 then some (zOb 4 [.ref (64 * (s 19 i 0).toNat + 10), .int (zI (s 20 i 0))]) else none
  | _ => none
/-- a number that nothing asks for, and the candidates of the last search -/
abbrev zOx : Type := Int × (Nat → Int)
/-- the heap: the class's part of s, and the candidates o (t and o's number are of no account here) -/
def zAll (s t : zS) (o : zOx) : zM := fun a => if a % 64 = 5 then (if a / 64 = 0 then some (zAi 1 600 o.2) else none) else if a % 64 < 16 then zCls s (a % 64) (a / 64) else none
theorem zAll_c {s t : zS} {o : zOx} {kd i : Nat} (h : kd < 16 ∧ kd ≠ 5) : zAll s t o (64 * i + kd) = zCls s kd i := by
  have h1 : (64 * i + kd) % 64 = kd := by omega
  have h2 : (64 * i + kd) / 64 = i := by omega
  simp only [zAll, h1, h2, if_neg h.2, if_pos h.1]
theorem zAll_0 (s t : zS) (o : zOx) : zAll s t o 0 = some (zOb 7 [.ref 1, .ref 65, .ref 129, .ref 193, .ref 3, .ref 4]) := rfl
theorem zAll_1 (s t : zS) (o : zOx) : zAll s t o 1 = some (zOb 0 [.int (zI (s 0 0 0)), .ref (zDat s 0), .int (zI (s 0 0 0))]) := rfl
theorem zAll_65 (s t : zS) (o : zOx) : zAll s t o 65 = some (zOb 0 [.int (zI (s 4 0 0)), .ref (zDat s 1), .int (zI (s 4 0 0))]) := rfl
theorem zAll_129 (s t : zS) (o : zOx) : zAll s t o 129 = some (zOb 0 [.int (zI (s 9 0 0)), .ref (zDat s 2), .int (zI (s 9 0 0))]) := rfl
theorem zAll_193 (s t : zS) (o : zOx) : zAll s t o 193 = some (zOb 0 [.int (zI (2 * s 18 0 0 - s 14 0 0)), .ref (zDat s 3), .int (zI (s 14 0 0))]) := rfl
theorem zAll_3 (s t : zS) (o : zOx) : zAll s t o 3 = some (zAr 3 4 (fun j => if j < 4 then some (64 * j + 6) else none)) := rfl
theorem zAll_4 (s t : zS) (o : zOx) : zAll s t o 4 = some (zOb 3 [.ref 5]) := rfl
theorem zAll_5 (s t : zS) (o : zOx) : zAll s t o 5 = some (zAi 1 600 o.2) := rfl
theorem zAll_d6 {s : zS} (t : zS) (o : zOx) {i : Nat} (h : (i : Int) < 4 + s 0 0 0) : zAll s t o (64 * i + 6) = some (zOb 1 [.ref (64 * i + 7), .ref (64 * i + 8)]) := (zAll_c (by decide)).trans (if_pos h)
theorem zAll_d7 {s : zS} (t : zS) (o : zOx) {i : Nat} (h : (i : Int) < 4 + s 0 0 0) : zAll s t o (64 * i + 7) = some (zAi 0 600 (s 21 i)) := (zAll_c (by decide)).trans (if_pos h)
theorem zAll_d8 {s : zS} (t : zS) (o : zOx) {i : Nat} (h : (i : Int) < 4 + s 0 0 0) : zAll s t o (64 * i + 8) = some (zAi 0 601 (zTk (s 21 i))) := (zAll_c (by decide)).trans (if_pos h)
theorem zAll_m {s : zS} (t : zS) (o : zOx) {i : Nat} (h : (i : Int) < s 0 0 0) : zAll s t o (64 * i + 9) = some (zOb 2 [.int (zI (s 1 i 0)), .int (zI (s 2 i 0)), .int (zI (s 3 i 0)), .ref (64 * (i + 4) + 6)]) := (zAll_c (by decide)).trans (if_pos h)
theorem zAll_s {s : zS} (t : zS) (o : zOx) {i : Nat} (h : (i : Int) < s 4 0 0) : zAll s t o (64 * i + 10) = some (zOb 5 [.int (zI i), .ref (64 * i + 11), .ref (64 * i + 12), .ref (64 * i + 13), .int (zI (s 5 i 0)), .int (zI (zLen s i)), .int (zI (zWork s i)), .int (zI (zAsk s i)), .int (zI (s 8 i 0))]) := (zAll_c (by decide)).trans (if_pos h)
theorem zAll_s1 {s : zS} (t : zS) (o : zOx) {i : Nat} (h : (i : Int) < s 4 0 0) : zAll s t o (64 * i + 11) = some (zAi 0 5 (fun k => if (k : Int) < s 5 i 0 then s 6 i k else 0)) := (zAll_c (by decide)).trans (if_pos h)
theorem zAll_s2 {s : zS} (t : zS) (o : zOx) {i : Nat} (h : (i : Int) < s 4 0 0) : zAll s t o (64 * i + 12) = some (zAi 0 5 (fun k => if (k : Int) < s 5 i 0 then zOff s i k else 0)) := (zAll_c (by decide)).trans (if_pos h)
theorem zAll_s3 {s : zS} (t : zS) (o : zOx) {i : Nat} (h : (i : Int) < s 4 0 0) : zAll s t o (64 * i + 13) = some (zAi 0 5 (fun k => if (k : Int) < s 5 i 0 then zOff s i (k + 1) else 0)) := (zAll_c (by decide)).trans (if_pos h)
theorem zAll_v {s : zS} (t : zS) (o : zOx) {i : Nat} (h : (i : Int) < s 9 0 0) : zAll s t o (64 * i + 14) = some (zOb 6 [.int (zI i), .ref (64 * (s 10 i 0).toNat + 10), .int (zI (if s 13 i 0 = -1 then -1 else s 11 i 0)), .int (zI (if s 13 i 0 = -1 then -1 else s 12 i 0)), .int (zI (s 13 i 0))]) := (zAll_c (by decide)).trans (if_pos h)
theorem zAll_q {s : zS} (t : zS) (o : zOx) {i : Nat} (h : (i : Int) < s 18 0 0) : zAll s t o (64 * i + 15) = some (zOb 4 [.ref (64 * (s 19 i 0).toNat + 10), .int (zI (s 20 i 0))]) := (zAll_c (by decide)).trans (if_pos h)
