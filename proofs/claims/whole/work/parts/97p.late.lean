/-! ===== late boats ===== -/
theorem l_ext {x y : Int64} (h : x.toBitVec.toNat = y.toBitVec.toNat) : x = y := Int64.toBitVec_inj.mp (BitVec.eq_of_toNat_eq h)
theorem lN_tn {n : Nat} (h : n < 2 ^ 64) : (lN n).toBitVec.toNat = n := Nat.mod_eq_of_lt h
def latN (S : Row) : Nat := (lateOf S).toBitVec.toNat
theorem LateR.n {S : Row} {o : Nat} (l : LateR S o) : ∃ a b c : Nat, a < 2 ^ 21 ∧ b < 2 ^ 21 ∧ c < 2 ^ 19 ∧ S o = nI a ∧ S (o + 1) = nI b ∧ S (o + 2) = nI c := by
  obtain ⟨h1, h2, h3⟩ := l
  obtain ⟨a, ha, ea⟩ := btw_nI h1 (m := 2097151) (by decide)
  obtain ⟨b, hb, eb⟩ := btw_nI h2 (m := 2097151) (by decide)
  obtain ⟨c, hc, ec⟩ := btw_nI h3 (m := 524287) (by decide)
  exact ⟨a, b, c, by omega, by omega, by omega, ea, eb, ec⟩
theorem or_add {i a b : Nat} (h : b < 2 ^ i) : b ||| a * 2 ^ i = b + 2 ^ i * a := by
  rw [Nat.or_comm, Nat.mul_comm, ← Nat.two_pow_add_eq_or_of_lt h]; omega
theorem latN_eq {S : Row} {a b c : Nat} (ha : a < 2 ^ 21) (hb : b < 2 ^ 21) (hc : c < 2 ^ 19) (ea : S 75 = nI a) (eb : S 76 = nI b) (ec : S 77 = nI c) : latN S = 2 ^ 21 * (2 ^ 21 * c + b) + a := by
  have sh21 : ∀ n, n < 2 ^ 21 → (lN n <<< (21 : Int64)).toBitVec.toNat = n * 2 ^ 21 := fun n hn => by
    rw [Int64.toBitVec_shiftLeft, show ((21 : Int64).toBitVec.smod 64) = 21#64 by decide, BitVec.shiftLeft_eq', show (21#64).toNat = 21 by decide, BitVec.toNat_shiftLeft, lN_tn (by omega), Nat.shiftLeft_eq]
    exact Nat.mod_eq_of_lt (by omega)
  have sh42 : ∀ n, n < 2 ^ 19 → (lN n <<< (42 : Int64)).toBitVec.toNat = n * 2 ^ 42 := fun n hn => by
    rw [Int64.toBitVec_shiftLeft, show ((42 : Int64).toBitVec.smod 64) = 42#64 by decide, BitVec.shiftLeft_eq', show (42#64).toNat = 42 by decide, BitVec.toNat_shiftLeft, lN_tn (by omega), Nat.shiftLeft_eq]
    exact Nat.mod_eq_of_lt (by omega)
  unfold latN lateOf
  rw [ea, eb, ec, nI_l (by omega), nI_l (by omega), nI_l (by omega), Int64.toBitVec_or, Int64.toBitVec_or, BitVec.toNat_or, BitVec.toNat_or, sh21 b hb, sh42 c hc, lN_tn (by omega), or_add ha, or_add (i := 42) (by omega)]
  omega
def lateB (S : Row) : Bool := decide (¬ 60 < S 10) && (latN S).testBit (S 10).toNatClampNeg
theorem sh_63 : ∀ y, y < 61 → (((nI y).toInt64.toUInt64 &&& Int64.toUInt64 63).toBitVec % 64).toNat = y := by decide +kernel
theorem bit_l {x : Int64} {y : Nat} (hy : y < 61) : (lg_cmp (((x.toUInt64 >>> ((nI y).toInt64.toUInt64 &&& Int64.toUInt64 63)).toInt64) &&& 1) 0 = 0) ↔ x.toBitVec.toNat.testBit y = false := by
  rw [lg_cmp_eq]
  have e : (((x.toUInt64 >>> ((nI y).toInt64.toUInt64 &&& Int64.toUInt64 63)).toInt64) &&& 1).toBitVec.toNat = x.toBitVec.toNat / 2 ^ y % 2 := by
    rw [Int64.toBitVec_and, BitVec.toNat_and, show ((1 : Int64).toBitVec.toNat) = 2 ^ 1 - 1 by decide, Nat.and_two_pow_sub_one_eq_mod]
    have q : ((x.toUInt64 >>> ((nI y).toInt64.toUInt64 &&& Int64.toUInt64 63)).toInt64).toBitVec.toNat = x.toBitVec.toNat / 2 ^ y := by
      show (x.toUInt64 >>> ((nI y).toInt64.toUInt64 &&& Int64.toUInt64 63)).toBitVec.toNat = _
      rw [UInt64.toBitVec_shiftRight, BitVec.ushiftRight_eq', BitVec.toNat_ushiftRight, sh_63 y hy, Nat.shiftRight_eq_div_pow]
      rfl
    rw [q]
  have t : x.toBitVec.toNat.testBit y = decide (x.toBitVec.toNat / 2 ^ y % 2 = 1) := Nat.testBit_eq_decide_div_mod_eq
  rw [t, decide_eq_false_iff_not]
  constructor
  · intro h
    rw [h] at e
    have : ((0 : Int64).toBitVec.toNat) = 0 := by decide
    omega
  · intro h
    refine l_ext ?_
    rw [e]
    have : ((0 : Int64).toBitVec.toNat) = 0 := by decide
    have := Nat.mod_two_eq_zero_or_one (x.toBitVec.toNat / 2 ^ y)
    omega
theorem isLateS {h : aH} {a : Nat} (ha : a ∈ stL) {S : Row} (r : RSt h a S) {n : Nat} (y : YR S n) (hn : n < 100000) : f_X8_isLate h a = some (bB (lateB S), h) := by
  obtain ⟨k, hk, ek⟩ := y
  unfold lateB latN
  by_cases c : (60 : Int32) < S 10
  · rw [decide_eq_false (fun q => q c)]
    simp only [f_X8_isLate, qst0 ha, r.s5, if_pos c]
    rfl
  · have k60 : k < 61 := by
      rw [ek] at c
      have : ¬ 60 < k := fun z => c (nI_lt (a := 60) z (by omega))
      omega
    rw [decide_eq_true c]
    simp only [f_X8_isLate, qst0 ha, r.s5, if_neg c, r.s6]
    rw [ek, nI_clamp (by omega)]
    cases t : (lateOf S).toBitVec.toNat.testBit k with
    | false => rw [if_pos ((bit_l k60).mpr t)]; rfl
    | true => rw [if_neg (fun q => by rw [(bit_l k60).mp q] at t; cases t)]; rfl
theorem sm31 : ∀ k, k < 31 → ((nI k &&& 31).toBitVec.smod 32).toNat = k := by decide +kernel
theorem bitI_n {n k : Nat} (hn : n < 2 ^ 31) (hk : k < 31) : bitI (nI n) k ↔ n.testBit k = true := by
  have t : n.testBit k = decide (n / 2 ^ k % 2 = 1) := Nat.testBit_eq_decide_div_mod_eq
  rw [t, decide_eq_true_iff]
  show (nI n >>> (nI k &&& 31)) &&& 1 = 1 ↔ _
  have : n / 2 ^ k ≤ n := Nat.div_le_self _ _
  rw [pk_shrN hn _ k (sm31 k hk), pk_andN (m := 1) (by omega) 1 (by decide), show (1 : Int32) = nI 1 from rfl, nI_eq (by omega) (by decide)]
theorem b1_bB {p : Prop} [Decidable p] {b : Bool} (h : p ↔ b = true) : b1 p = bB b := by
  cases b with
  | true => rw [b1, if_pos (h.mpr rfl)]; rfl
  | false => rw [b1, if_neg (fun q => by have := h.mp q; cases this)]; rfl
theorem isLateR {h : aH} (hS : Str h) {S : Row} (eS : hI h 318 = S) (l : LateR S 75) {n : Nat} (y : YR S n) (hn : n < 100000) : f_X12_isLate h 308 (S 10) = some (bB (lateB S), h) := by
  obtain ⟨k, hk, ek⟩ := y
  obtain ⟨a, b, c, ha, hb, hc, ea, eb, ec⟩ := l.n
  unfold lateB
  rw [latN_eq ha hb hc ea eb ec]
  by_cases q : (60 : Int32) < S 10
  · rw [decide_eq_false (fun z => z q)]
    simp only [f_X12_isLate, if_pos q]
    rfl
  · have k60 : k < 61 := by
      rw [ek] at q
      have : ¬ 60 < k := fun z => q (nI_lt (a := 60) z (by omega))
      omega
    rw [decide_eq_true q]
    have d21 : nI k / 21 = nI (k / 21) := pk_div (d := 21) (by omega) (by decide) (by decide)
    have m21 : nI k - nI (k / 21) * 21 = nI (k % 21) := by
      have := pk_rem (a := k) (d := 21) (by omega) (by decide) (by decide)
      rw [show nI 21 = (21 : Int32) from rfl, d21] at this
      exact this
    have e75 : (75 : Int32) + nI (k / 21) = nI (75 + k / 21) := nI_add 75 (k / 21)
    have hx : f_X12_isLate h 308 (S 10) = some (b1 (bitI (S (75 + k / 21)) (k % 21)), h) := by
      simp only [f_X12_isLate, if_neg q, q_308, r_308_20 hS, Option.bind_some, aLet]
      rw [ek, d21, m21, e75]
      simp only [q_318, if_pos (in318 (show 75 + k / 21 < 184 by omega)), nI_clamp (show 75 + k / 21 < 2 ^ 31 by omega), eS, isOf_eq, aBind_some, b1_0]
      unfold b1
      split <;> rfl
    rw [hx, ek, nI_clamp (by omega)]
    have tb : b1 (bitI (S (75 + k / 21)) (k % 21)) = bB ((2 ^ 21 * (2 ^ 21 * c + b) + a).testBit k) := by
      refine b1_bB ?_
      have cs : k / 21 = 0 ∨ k / 21 = 1 ∨ k / 21 = 2 := by omega
      rcases cs with z | z | z
      · rw [z, ea, bitI_n (by omega) (by omega), Nat.testBit_two_pow_mul_add _ ha, if_pos (by omega), show k % 21 = k by omega]
      · rw [z, eb, bitI_n (by omega) (by omega), Nat.testBit_two_pow_mul_add _ ha, if_neg (by omega), Nat.testBit_two_pow_mul_add _ hb, if_pos (by omega), show k % 21 = k - 21 by omega]
      · rw [z, ec, bitI_n (by omega) (by omega), Nat.testBit_two_pow_mul_add _ ha, if_neg (by omega), Nat.testBit_two_pow_mul_add _ hb, if_neg (by omega), show k % 21 = k - 21 - 21 by omega]
    rw [tb]
    rfl
