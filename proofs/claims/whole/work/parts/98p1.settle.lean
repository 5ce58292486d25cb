/-! ===== settled: the class ===== -/
abbrev eWo (S rw : Row) (e w : Nat) : Prop := rw e < 0 ∨ S (43 + 4 * e + (rw e).toNatClampNeg) < S (43 + 4 * e + w)
abbrev wWo (S ho : Row) (e w : Nat) : Prop := ho w < 0 ∨ S (59 + 4 * (ho w).toNatClampNeg + w) < S (59 + 4 * e + w)
def wdR (S rw ho : Row) (e w : Nat) : Bool := decide (canJ S e w) && (decide (eWo S rw e w) && decide (wWo S ho e w))
def wrE (S rw ho : Row) (e : Nat) : Nat → Nat → Bool
  | 0, _ => false
  | k + 1, w => wdR S rw ho e w || wrE S rw ho e k (w + 1)
def wrA (S rw ho : Row) : Nat → Nat → Bool
  | 0, _ => false
  | k + 1, e => wrE S rw ho e (nW S) 0 || wrA S rw ho k (e + 1)
def sumE (S rw : Row) (e : Nat) (x : Int32) : Int32 := if rw e < 0 then x else x + (S (43 + 4 * e + (rw e).toNatClampNeg) + S (59 + 4 * e + (rw e).toNatClampNeg))
def sumR (S rw : Row) : Nat → Int32
  | 0 => 0
  | e + 1 => sumE S rw e (sumR S rw e)
def RO (S rw ho : Row) : Prop := (∀ e, e < 4 → rw e = -1 ∨ ∃ w, w < nW S ∧ rw e = nI w) ∧ ∀ w, w < 4 → ho w = -1 ∨ ∃ e, e < nE S ∧ ho w = nI e
theorem sumR_n {S rw ho : Row} (v : VS S) (o : RO S rw ho) : ∀ e, e ≤ 4 → ∃ n, n ≤ 40 * e ∧ sumR S rw e = nI n := by
  have v4 := v.e4.2
  intro e
  induction e with
  | zero => intro _; exact ⟨0, Nat.le_refl _, rfl⟩
  | succ e ih =>
    intro h
    obtain ⟨n, hn, en⟩ := ih (by omega)
    rw [sumR, sumE, en]
    rcases o.1 e (by omega) with z | ⟨w, hw, z⟩
    · rw [z, if_pos (by decide)]; exact ⟨n, by omega, rfl⟩
    · rw [z, if_neg (nI_pos (by omega)), nI_clamp (by omega)]
      obtain ⟨a, ha, ea⟩ := btw_nI (v.lk (4 * e + w) (by omega)).1 (m := 20) (by decide)
      obtain ⟨b, hb, eb⟩ := btw_nI (v.lk (16 + 4 * e + w) (by omega)).1 (m := 20) (by decide)
      rw [show 43 + 4 * e + w = 43 + (4 * e + w) by omega, show 59 + 4 * e + w = 43 + (16 + 4 * e + w) by omega, ea, eb, nI_add, nI_add]
      exact ⟨n + (a + b), by omega, rfl⟩
/-- what was found so far: how many, the first, the best -/
abbrev Acc := Nat × Row × Int32
def tk (S rw ho : Row) (a : Acc) : Acc := if wrA S rw ho (nE S) 0 = true then a else (a.1 + 1, (if a.1 = 0 then rw else a.2.1), (if a.1 = 0 then sumR S rw (nE S) else if a.2.2 < sumR S rw (nE S) then sumR S rw (nE S) else a.2.2))
def accC (h : aH) (a : Acc) : Prop := hI h 53 3 = nI a.1 ∧ hI h 53 4 = (if a.1 = 0 then 0 else a.2.2) ∧ ∀ e, e < 4 → hI h 56 e = (if a.1 = 0 then -1 else a.2.1 e)
def CR (h : aH) (rw ho : Row) : Prop := ∀ i, i < 4 → hI h 54 i = rw i ∧ hI h 55 i = ho i
theorem in54 {k : Nat} (h : k < 4) : aIn (nI k) (sh 54).2 := by rw [sh_54]; exact vp_in_nI h (by decide)
theorem in55 {k : Nat} (h : k < 4) : aIn (nI k) (sh 55).2 := by rw [sh_55]; exact vp_in_nI h (by decide)
theorem in56 {k : Nat} (h : k < 4) : aIn (nI k) (sh 56).2 := by rw [sh_56]; exact vp_in_nI h (by decide)
