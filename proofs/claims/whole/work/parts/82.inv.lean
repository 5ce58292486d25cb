/-! ===== the invariant between class and reference ===== -/
/-- late years as the class keeps them, out of the reference's three rows of 21 -/
def lateOf (S : Nat → Int32) : Int64 := (S 75).toInt64 ||| (S 76).toInt64 <<< 21 ||| (S 77).toInt64 <<< 42
/-- a State of the class at a, against the reference's row -/
def RSt (h : aH) (a : Nat) (S : Nat → Int32) : Prop :=
  (hI h a 0 = S 0 ∧ hI h a 1 = S 1 ∧ hI h a 2 = S 2 ∧ hI h a 3 = S 3 ∧ hI h a 4 = S 4 ∧ hI h a 5 = S 10 ∧ hL h a 6 = lateOf S) ∧ (∀ p, p < 8 → hI h (a + 1) p = S (11 + 4 * p) ∧ hI h (a + 2) p = S (12 + 4 * p) ∧ hI h (a + 3) p = S (14 + 4 * p)) ∧ (∀ e, e < 4 → hI h (a + 4) e = S (13 + 4 * e)) ∧ ∀ k, k < 32 → hI h (a + 5) k = S (43 + k) ∧ hI h (a + 6) k = S (78 + k)
/-- a number between two -/
abbrev Btw (x lo hi : Int32) : Prop := lo ≤ x ∧ x ≤ hi
/-- easts and wests as numbers -/
def nE (S : Nat → Int32) : Nat := (S 3).toNatClampNeg
def nW (S : Nat → Int32) : Nat := (S 4).toNatClampNeg
/-- three rows of late years -/
def LateR (S : Nat → Int32) (o : Nat) : Prop := Btw (S o) 0 2097151 ∧ Btw (S (o + 1)) 0 2097151 ∧ Btw (S (o + 2)) 0 524287
/-- hands are joined on both sides -/
def PairE (S : Nat → Int32) : Prop := ∀ e, e < nE S → (S (12 + 4 * e) = -1 ∧ S (13 + 4 * e) = 0) ∨ ∃ w, w < nW S ∧ S (12 + 4 * e) = nI w ∧ S (28 + 4 * w) = nI e ∧ S (29 + 4 * w) = S (13 + 4 * e)
def PairW (S : Nat → Int32) : Prop := ∀ w, w < nW S → (S (28 + 4 * w) = -1 ∧ S (29 + 4 * w) = 0) ∨ ∃ e, e < nE S ∧ S (28 + 4 * w) = nI e ∧ S (12 + 4 * e) = nI w
/-- what holds of a row of the reference -/
def VS (S : Nat → Int32) : Prop :=
  (S 0 = 0 ∨ S 0 = 1) ∧ Btw (S 3) 0 4 ∧ Btw (S 4) 0 4 ∧ (S 0 = 0 → S 3 = 0 ∧ S 4 = 0) ∧ LateR S 75 ∧
  (∀ k, k < 32 → Btw (S (43 + k)) 0 20 ∧ Btw (S (78 + k)) 0 20) ∧ PairE S ∧ PairW S
/-- what holds of the told part -/
def VT (S : Nat → Int32) : Prop := LateR S 150 ∧ ∀ k, k < 32 → Btw (S (110 + k)) 0 20
/-- the year is at most n -/
def YR (S : Nat → Int32) (n : Nat) : Prop := ∃ y : Nat, y ≤ n ∧ S 10 = nI y
/-- the row at the begin, as the text told it -/
def beginOf (S : Nat → Int32) : Nat → Int32 := fun j =>
  if j = 10 then 0 else if 11 ≤ j ∧ j < 43 then (if (j - 11) % 4 = 0 then S (142 + (j - 11) / 4) else if (j - 11) % 4 = 1 then -1 else 0) else if 43 ≤ j ∧ j < 75 then S (110 + (j - 43)) else if 75 ≤ j ∧ j < 78 then S (150 + (j - 75)) else S j
/-- a World of the class at a, against a row, the rule in force, x -/
def RW (h : aH) (a : Nat) (S : Nat → Int32) (force x : Int32) : Prop :=
  RSt h (a + 8) S ∧ (VS S ∧ VT S ∧ YR S 999) ∧ ((S 0 = 1 → RSt h (a + 1) (beginOf S)) ∧ (hI h (a + 1) 0 = 0 ∨ hI h (a + 1) 0 = 1)) ∧ hI h a 5 = S 183 ∧ Btw (S 183) 0 10 ∧ hI h a 6 = force ∧ hI h a 7 = x ∧ Btw x 0 2147483647 ∧
  ∀ i, i < 10 → nI i < S 183 → hI h (a + 15) i = S (153 + 3 * i) ∧ hI h (a + 16) i = S (154 + 3 * i) ∧ hI h (a + 17) i = S (155 + 3 * i) ∧ Btw (S (153 + 3 * i)) 0 30 ∧ (0 ≤ S (154 + 3 * i) ∧ S (154 + 3 * i) < S 3)
def RTape (h : aH) : Prop := hI h 1 1 = hI h 308 1 ∧ Btw (hI h 308 1) 0 400 ∧ ∀ j, j < 400 → hI h 2 j = hI h 309 j ∧ Btw (hI h 309 j) (-128) 127
/-- the kinds of steps: class to reference -/
def kindOf (k : Int32) : Int32 := if k = 6 then 14 else if 7 ≤ k ∧ k ≤ 11 then k - 1 else if k = 14 then 11 else k
/-- kinds of values on the stack by a step: false a number, true a test -/
def tyS (st : List Bool) (s v : Int32) : Option (List Bool) :=
  if s = 0 then (if st.length < 60 then some (false :: st) else none)
  else if s = 1 then (if st.length < 60 ∧ 0 ≤ v ∧ v ≤ 10 then some (false :: st) else none)
  else if s = 11 then (match st with | true :: r => some (true :: r) | _ => none)
  else if s = 12 ∨ s = 13 then (match st with | true :: true :: r => some (true :: r) | _ => none)
  else if 6 ≤ s ∧ s ≤ 10 then (match st with | false :: false :: r => some (true :: r) | _ => none)
  else (match st with | false :: false :: r => some (false :: r) | _ => none)
/-- .. by n steps from i on -/
def tyR (sg : Nat → Int32) : Nat → Nat → List Bool → Option (List Bool)
  | 0, _, st => some st
  | n + 1, i, st => (tyS st (sg i &&& 15) (sg i >>> 4)).bind (tyR sg n (i + 1))
/-- rule k of the class against text k of the reference; the two hold the same steps at the same places -/
def RRule (h : aH) (k : Nat) : Prop :=
  hI h (66 + 5 * k) 5 = hI h 313 k ∧ Btw (hI h 313 k) 0 12 ∧
  (∀ i, i < 256 → nI i < hI h 311 k → hI h 310 (400 * k + i) &&& 15 = kindOf (hI h (67 + 5 * k) i &&& 15) ∧ hI h 310 (400 * k + i) >>> 4 = hI h (67 + 5 * k) i >>> 4) ∧
  ∀ c, c < 12 → nI c < hI h 313 k → ∃ i j l : Nat, i ≤ j ∧ j ≤ l ∧ l ≤ 256 ∧ nI l ≤ hI h 311 k ∧ hI h (68 + 5 * k) c = nI i ∧ hI h (69 + 5 * k) c = nI j ∧ hI h (70 + 5 * k) c = nI l ∧ hI h 312 (48 * k + 4 * c) = nI i ∧ hI h 312 (48 * k + 4 * c + 1) = nI j ∧ hI h 312 (48 * k + 4 * c + 2) = (if j = l then -1 else nI j) ∧ hI h 312 (48 * k + 4 * c + 3) = nI l ∧ tyR (fun z => hI h 310 (400 * k + z)) (j - i) i [] = some [false] ∧ (j < l → tyR (fun z => hI h 310 (400 * k + z)) (l - j) j [] = some [true])
def RRules (h : aH) : Prop := hI h 0 4 = hI h 308 2 ∧ Btw (hI h 308 2) 0 6 ∧ ∀ k, k < 6 → nI k < hI h 308 2 → RRule h k
/-- a row with its moving part out of another row's stretch -/
def withPart (S w : Nat → Int32) (o : Nat) : Nat → Int32 := fun j => if 10 ≤ j ∧ j < 78 then w (o + (j - 10)) else S j
def RPast (h : aH) : Prop := hI h 0 9 = hI h 308 29 ∧ Btw (hI h 308 29) 0 20 ∧ Btw (hI h 0 8) 0 19 ∧
  ∀ i, i < 20 → nI i < hI h 308 29 → RSt h (168 + 7 * (((hI h 0 8).toNatClampNeg + 20 - (hI h 308 29).toNatClampNeg + i) % 20)) (withPart (hI h 318) (hI h 323) (68 * i)) ∧ VS (withPart (hI h 318) (hI h 323) (68 * i)) ∧ YR (withPart (hI h 318) (hI h 323) (68 * i)) 999
def RImages (h : aH) : Prop := ∀ k, k < 4 → (hI h 332 k = 0 ∨ hI h 332 k = 1) ∧ hI h (96 + 18 * k) 8 = hI h 332 k ∧ (hI h 332 k = 1 → RW h (96 + 18 * k) (fun i => hI h 329 (184 * k + i)) (hI h 330 k) (hI h 331 k) ∧ (-1 ≤ hI h 330 k ∧ hI h 330 k < hI h 308 2))
/-- THE INVARIANT -/
def Inv (h : aH) : Prop := Str h ∧ RTape h ∧ RRules h ∧ RW h 11 (hI h 318) (hI h 308 21) (hI h 308 22) ∧ (-1 ≤ hI h 308 21 ∧ hI h 308 21 < hI h 308 2) ∧ RPast h ∧ RImages h ∧ hI h 308 23 = 0
theorem Inv.n {h : aH} (hI : Inv h) : h.1 = aNN := hI.1.1
