/-! ===== count, hold ===== -/
theorem popc_lt {k x : Nat} (m : Nat) (h : x < 2 ^ k) : popc (k + m) x = popc k x := by
  rw [popc_split, Nat.mod_eq_of_lt h, Nat.div_eq_of_lt h, popc_0, Nat.add_zero]
theorem late_popc {a b c : Nat} (ha : a < 2 ^ 21) (hb : b < 2 ^ 21) (hc : c < 2 ^ 19) : popc 64 (2 ^ 21 * (2 ^ 21 * c + b) + a) = popc 31 a + popc 31 b + popc 31 c := by
  have m1 : ∀ M x, x < 2 ^ 21 → (2 ^ 21 * M + x) % 2 ^ 21 = x ∧ (2 ^ 21 * M + x) / 2 ^ 21 = M := fun M x hx => ⟨by omega, by omega⟩
  have p1 := popc_split 21 43 (2 ^ 21 * (2 ^ 21 * c + b) + a)
  have p2 := popc_split 21 22 (2 ^ 21 * c + b)
  rw [(m1 _ a ha).1, (m1 _ a ha).2] at p1
  rw [(m1 _ b hb).1, (m1 _ b hb).2] at p2
  have q1 := popc_lt 10 ha
  have q2 := popc_lt 10 hb
  have q3 := popc_lt (k := 22) (x := c) 9 (by omega)
  simp only [Nat.reduceAdd] at p1 p2 q1 q2 q3
  rw [p1, p2, q1, q2, q3, Nat.add_assoc]
theorem in75 : aIn (75 : Int32) (sh 318).2 := in318 (k := 75) (by decide)
theorem cl75 : (75 : Int32).toNatClampNeg = 75 := by decide
theorem in76 : aIn (76 : Int32) (sh 318).2 := in318 (k := 76) (by decide)
theorem cl76 : (76 : Int32).toNatClampNeg = 76 := by decide
theorem in77 : aIn (77 : Int32) (sh 318).2 := in318 (k := 77) (by decide)
theorem cl77 : (77 : Int32).toNatClampNeg = 77 := by decide
theorem lateYears_eq {h : aH} (hS : Str h) {S : Row} (eS : hI h 318 = S) (l : LateR S 75) : f_X12_lateYears h 308 = some (nI (popc 64 (latN S)), h) := by
  obtain ⟨a, b, c, ha, hb, hc, ea, eb, ec⟩ := l.n
  have eb' : S 76 = nI b := eb
  have ec' : S 77 = nI c := ec
  rw [latN_eq ha hb hc ea eb ec, late_popc ha hb hc]
  simp only [f_X12_lateYears, q_308, r_308_20 hS, Option.bind_some, q_318, if_pos in75, cl75, if_pos in76, cl76, if_pos in77, cl77, eS, ea, eb', ec', bits_eq (h := h) (show a < 2 ^ 31 by omega), bits_eq (h := h) (show b < 2 ^ 31 by omega), bits_eq (h := h) (show c < 2 ^ 31 by omega), aBind_some, nI_add]
theorem lateC_eq {h : aH} {S : Row} (r : RSt h 19 S) : f_J13_bitCount_95d88 h (hL h 19 6) = some (nI (popc 64 (latN S)), h) := by
  rw [longCount, r.s6]; rfl
theorem op_count : Op_count Inv := by
  intro h hV x1
  have hS := hV.1
  have r : RSt h 19 (hI h 318) := hV.2.2.2.1.1
  have v : VS (hI h 318) := hV.2.2.2.1.2.1.1
  have y : YR (hI h 318) 999 := hV.2.2.2.1.2.1.2.2
  have v3 := v.e3
  have v4 := v.e4
  by_cases z0 : x1 = 0
  · refine ⟨hI h 318 1, h, h, ?_, ?_, hV⟩
    · show f_X11_count h 0 x1 = _
      simp only [f_X11_count, q_0, r_0_5 hS, r_11_1 hS, r_0_0 hS, Option.bind_some, q_11, q_1, qst0 m19, if_pos z0, r.s1]
    · show f_X12_count h 308 x1 = _
      subst z0
      simp only [f_X12_count, q_308, r_308_20 hS, Option.bind_some, aLet, q_318, if_true, show (0 : Int32) + 1 = 1 by decide, if_pos in1, cl1]
  by_cases z1 : x1 = 1
  · refine ⟨hI h 318 2, h, h, ?_, ?_, hV⟩
    · show f_X11_count h 0 x1 = _
      simp only [f_X11_count, q_0, r_0_5 hS, r_11_1 hS, r_0_0 hS, Option.bind_some, q_11, q_1, qst0 m19, if_neg z0, if_pos z1, r.s2]
    · show f_X12_count h 308 x1 = _
      subst z1
      simp only [f_X12_count, q_308, r_308_20 hS, Option.bind_some, aLet, q_318, if_neg (show ¬ (1 : Int32) = 0 by decide), if_true, show (1 : Int32) + 1 = 2 by decide, if_pos in2, cl2]
  by_cases z2 : x1 = 2
  · refine ⟨hI h 318 3, h, h, ?_, ?_, hV⟩
    · show f_X11_count h 0 x1 = _
      simp only [f_X11_count, q_0, r_0_5 hS, r_11_1 hS, r_0_0 hS, Option.bind_some, q_11, q_1, qst0 m19, if_neg z0, if_neg z1, if_pos z2, r.s3]
    · show f_X12_count h 308 x1 = _
      subst z2
      simp only [f_X12_count, q_308, r_308_20 hS, Option.bind_some, aLet, q_318, if_neg (show ¬ (2 : Int32) = 0 by decide), if_neg (show ¬ (2 : Int32) = 1 by decide), if_true, show (2 : Int32) + 1 = 3 by decide, if_pos in3, cl3]
  by_cases z3 : x1 = 3
  · refine ⟨hI h 318 4, h, h, ?_, ?_, hV⟩
    · show f_X11_count h 0 x1 = _
      simp only [f_X11_count, q_0, r_0_5 hS, r_11_1 hS, r_0_0 hS, Option.bind_some, q_11, q_1, qst0 m19, if_neg z0, if_neg z1, if_neg z2, if_pos z3, r.s4]
    · show f_X12_count h 308 x1 = _
      subst z3
      simp only [f_X12_count, q_308, r_308_20 hS, Option.bind_some, aLet, q_318, if_neg (show ¬ (3 : Int32) = 0 by decide), if_neg (show ¬ (3 : Int32) = 1 by decide), if_neg (show ¬ (3 : Int32) = 2 by decide), if_true, show (3 : Int32) + 1 = 4 by decide, if_pos in4, cl4]
  by_cases z4 : x1 = 4
  · refine ⟨hI h 308 2, h, h, ?_, ?_, hV⟩
    · show f_X11_count h 0 x1 = _
      simp only [f_X11_count, q_0, r_0_5 hS, r_11_1 hS, r_0_0 hS, Option.bind_some, q_11, q_1, qst0 m19, if_neg z0, if_neg z1, if_neg z2, if_neg z3, if_pos z4, hV.2.2.1.1]
    · show f_X12_count h 308 x1 = _
      simp only [f_X12_count, q_308, r_308_20 hS, Option.bind_some, q_318, if_neg z0, if_neg z1, if_neg z2, if_neg z3, if_pos z4]
  by_cases z5 : x1 = 5
  · refine ⟨hI h 308 21, h, h, ?_, ?_, hV⟩
    · show f_X11_count h 0 x1 = _
      simp only [f_X11_count, q_0, r_0_5 hS, r_11_1 hS, r_0_0 hS, Option.bind_some, q_11, q_1, qst0 m19, if_neg z0, if_neg z1, if_neg z2, if_neg z3, if_neg z4, if_pos z5, hV.2.2.2.1.2.2.2.2.2.1]
    · show f_X12_count h 308 x1 = _
      simp only [f_X12_count, q_308, r_308_20 hS, Option.bind_some, q_318, if_neg z0, if_neg z1, if_neg z2, if_neg z3, if_neg z4, if_pos z5]
  by_cases z6 : x1 = 6
  · refine ⟨hI h 318 10, h, h, ?_, ?_, hV⟩
    · show f_X11_count h 0 x1 = _
      simp only [f_X11_count, q_0, r_0_5 hS, r_11_1 hS, r_0_0 hS, Option.bind_some, q_11, q_1, qst0 m19, if_neg z0, if_neg z1, if_neg z2, if_neg z3, if_neg z4, if_neg z5, if_pos z6, r.s5]
    · show f_X12_count h 308 x1 = _
      simp only [f_X12_count, q_308, r_308_20 hS, Option.bind_some, q_318, if_neg z0, if_neg z1, if_neg z2, if_neg z3, if_neg z4, if_neg z5, if_pos z6, if_pos in10, cl10]
  by_cases z7 : x1 = 7
  · refine ⟨jb (hI h 318) 12 (nE (hI h 318)), h, h, ?_, ?_, hV⟩
    · show f_X11_count h 0 x1 = _
      simp only [f_X11_count, q_0, r_0_5 hS, r_11_1 hS, r_0_0 hS, Option.bind_some, q_11, q_1, qst0 m19, if_neg z0, if_neg z1, if_neg z2, if_neg z3, if_neg z4, if_neg z5, if_neg z6, if_pos z7, r.s3, v3.1, joinedBits0 hS m19 r v3.2, aBind_some]
    · show f_X12_count h 308 x1 = _
      simp only [f_X12_count, q_308, r_308_20 hS, Option.bind_some, q_318, if_neg z0, if_neg z1, if_neg z2, if_neg z3, if_neg z4, if_neg z5, if_neg z6, if_pos z7, joinedOf0 hS rfl v, aBind_some]
  by_cases z8 : x1 = 8
  · refine ⟨jb (hI h 318) 28 (nW (hI h 318)), h, h, ?_, ?_, hV⟩
    · show f_X11_count h 0 x1 = _
      simp only [f_X11_count, q_0, r_0_5 hS, r_11_1 hS, r_0_0 hS, Option.bind_some, q_11, q_1, qst0 m19, if_neg z0, if_neg z1, if_neg z2, if_neg z3, if_neg z4, if_neg z5, if_neg z6, if_neg z7, if_pos z8, r.s4, v4.1, joinedBits1 hS m19 r v4.2, aBind_some]
    · show f_X12_count h 308 x1 = _
      simp only [f_X12_count, q_308, r_308_20 hS, Option.bind_some, q_318, if_neg z0, if_neg z1, if_neg z2, if_neg z3, if_neg z4, if_neg z5, if_neg z6, if_neg z7, if_pos z8, joinedOf1 hS rfl v, aBind_some]
  by_cases z9 : x1 = 9
  · refine ⟨(if lateB (hI h 318) = true then 1 else 0), h, h, ?_, ?_, hV⟩
    · show f_X11_count h 0 x1 = _
      simp only [f_X11_count, q_0, r_0_5 hS, r_11_1 hS, r_0_0 hS, Option.bind_some, q_11, q_1, qst0 m19, if_neg z0, if_neg z1, if_neg z2, if_neg z3, if_neg z4, if_neg z5, if_neg z6, if_neg z7, if_neg z8, if_pos z9, isLateS m19 r y (by decide), aBind_some, bB_0]
      split <;> rfl
    · show f_X12_count h 308 x1 = _
      simp only [f_X12_count, q_308, r_308_20 hS, Option.bind_some, q_318, if_neg z0, if_neg z1, if_neg z2, if_neg z3, if_neg z4, if_neg z5, if_neg z6, if_neg z7, if_neg z8, if_pos z9, if_pos in10, cl10, isLateR hS rfl v.lt y (by decide), aBind_some, bB_0]
      split <;> rfl
  by_cases z10 : x1 = 10
  · refine ⟨nI (popc 64 (latN (hI h 318))), h, h, ?_, ?_, hV⟩
    · show f_X11_count h 0 x1 = _
      simp only [f_X11_count, q_0, r_0_5 hS, r_11_1 hS, r_0_0 hS, Option.bind_some, q_11, q_1, qst0 m19, if_neg z0, if_neg z1, if_neg z2, if_neg z3, if_neg z4, if_neg z5, if_neg z6, if_neg z7, if_neg z8, if_neg z9, if_pos z10, lateC_eq r, aBind_some]
    · show f_X12_count h 308 x1 = _
      simp only [f_X12_count, q_308, r_308_20 hS, Option.bind_some, q_318, if_neg z0, if_neg z1, if_neg z2, if_neg z3, if_neg z4, if_neg z5, if_neg z6, if_neg z7, if_neg z8, if_neg z9, if_pos z10, lateYears_eq hS rfl v.lt, aBind_some]
  by_cases z11 : x1 = 11
  · refine ⟨hI h 318 183, h, h, ?_, ?_, hV⟩
    · show f_X11_count h 0 x1 = _
      simp only [f_X11_count, q_0, r_0_5 hS, r_11_1 hS, r_0_0 hS, Option.bind_some, q_11, q_1, qst0 m19, if_neg z0, if_neg z1, if_neg z2, if_neg z3, if_neg z4, if_neg z5, if_neg z6, if_neg z7, if_neg z8, if_neg z9, if_neg z10, if_pos z11, hV.2.2.2.1.2.2.2.1]
    · show f_X12_count h 308 x1 = _
      simp only [f_X12_count, q_308, r_308_20 hS, Option.bind_some, q_318, if_neg z0, if_neg z1, if_neg z2, if_neg z3, if_neg z4, if_neg z5, if_neg z6, if_neg z7, if_neg z8, if_neg z9, if_neg z10, if_pos z11, if_pos in183, cl183]
  by_cases z12 : x1 = 12
  · refine ⟨hI h 308 29, h, h, ?_, ?_, hV⟩
    · show f_X11_count h 0 x1 = _
      simp only [f_X11_count, q_0, r_0_5 hS, r_11_1 hS, r_0_0 hS, Option.bind_some, q_11, q_1, qst0 m19, if_neg z0, if_neg z1, if_neg z2, if_neg z3, if_neg z4, if_neg z5, if_neg z6, if_neg z7, if_neg z8, if_neg z9, if_neg z10, if_neg z11, if_pos z12, hV.2.2.2.2.2.1.1]
    · show f_X12_count h 308 x1 = _
      simp only [f_X12_count, q_308, r_308_20 hS, Option.bind_some, q_318, if_neg z0, if_neg z1, if_neg z2, if_neg z3, if_neg z4, if_neg z5, if_neg z6, if_neg z7, if_neg z8, if_neg z9, if_neg z10, if_neg z11, if_pos z12]
  by_cases z13 : x1 = 13
  · refine ⟨hI h 308 22, h, h, ?_, ?_, hV⟩
    · show f_X11_count h 0 x1 = _
      simp only [f_X11_count, q_0, r_0_5 hS, r_11_1 hS, r_0_0 hS, Option.bind_some, q_11, q_1, qst0 m19, if_neg z0, if_neg z1, if_neg z2, if_neg z3, if_neg z4, if_neg z5, if_neg z6, if_neg z7, if_neg z8, if_neg z9, if_neg z10, if_neg z11, if_neg z12, if_pos z13, hV.2.2.2.1.2.2.2.2.2.2.1]
    · show f_X12_count h 308 x1 = _
      simp only [f_X12_count, q_308, r_308_20 hS, Option.bind_some, q_318, if_neg z0, if_neg z1, if_neg z2, if_neg z3, if_neg z4, if_neg z5, if_neg z6, if_neg z7, if_neg z8, if_neg z9, if_neg z10, if_neg z11, if_neg z12, if_pos z13]
  by_cases z14 : x1 = 14
  · refine ⟨hI h 308 1, h, h, ?_, ?_, hV⟩
    · show f_X11_count h 0 x1 = _
      simp only [f_X11_count, q_0, r_0_5 hS, r_11_1 hS, r_0_0 hS, Option.bind_some, q_11, q_1, qst0 m19, if_neg z0, if_neg z1, if_neg z2, if_neg z3, if_neg z4, if_neg z5, if_neg z6, if_neg z7, if_neg z8, if_neg z9, if_neg z10, if_neg z11, if_neg z12, if_neg z13, if_pos z14, hV.2.1.1]
    · show f_X12_count h 308 x1 = _
      simp only [f_X12_count, q_308, r_308_20 hS, Option.bind_some, q_318, if_neg z0, if_neg z1, if_neg z2, if_neg z3, if_neg z4, if_neg z5, if_neg z6, if_neg z7, if_neg z8, if_neg z9, if_neg z10, if_neg z11, if_neg z12, if_neg z13, if_pos z14]
  refine ⟨-1, h, h, ?_, ?_, hV⟩
  · show f_X11_count h 0 x1 = _
    simp only [f_X11_count, q_0, r_0_5 hS, r_11_1 hS, Option.bind_some, q_11, qst0 m19, if_neg z0, if_neg z1, if_neg z2, if_neg z3, if_neg z4, if_neg z5, if_neg z6, if_neg z7, if_neg z8, if_neg z9, if_neg z10, if_neg z11, if_neg z12, if_neg z13, if_neg z14]
  · show f_X12_count h 308 x1 = _
    simp only [f_X12_count, if_neg z0, if_neg z1, if_neg z2, if_neg z3, if_neg z4, if_neg z5, if_neg z6, if_neg z7, if_neg z8, if_neg z9, if_neg z10, if_neg z11, if_neg z12, if_neg z13, if_neg z14]
theorem VS.late {S T : Row} (v : VS S) (o : ∀ j, j < 75 ∨ 78 ≤ j → T j = S j) (l : LateR T 75) : VS T := by
  have v3 := v.e3.2
  have v4 := v.e4.2
  have n3 : nE T = nE S := nE_of (o 3 (by decide))
  have n4 : nW T = nW S := nW_of (o 4 (by decide))
  obtain ⟨a, b, c, d, _, g, p, q⟩ := v
  refine ⟨?_, ?_, ?_, ?_, l, fun k hk => ⟨?_, ?_⟩, fun e he => ?_, fun w hw => ?_⟩
  · rw [o 0 (by decide)]; exact a
  · rw [o 3 (by decide)]; exact b
  · rw [o 4 (by decide)]; exact c
  · rw [o 0 (by decide), o 3 (by decide), o 4 (by decide)]; exact d
  · rw [o _ (by omega)]; exact (g k hk).1
  · rw [o _ (by omega)]; exact (g k hk).2
  · rw [n3] at he
    rw [n4, o _ (by omega), o _ (by omega)]
    rcases p e he with z | ⟨w, hw, z1, z2, z3⟩
    · exact Or.inl z
    · exact Or.inr ⟨w, hw, z1, by rw [o _ (by omega)]; exact z2, by rw [o _ (by omega)]; exact z3⟩
  · rw [n4] at hw
    rw [n3, o _ (by omega), o _ (by omega)]
    rcases q w hw with z | ⟨e, he, z1, z2⟩
    · exact Or.inl z
    · exact Or.inr ⟨e, he, z1, by rw [o _ (by omega)]; exact z2⟩
theorem nI_or {a b : Nat} (ha : a < 2 ^ 32) (hb : b < 2 ^ 32) : nI a ||| nI b = nI (a ||| b) := by
  refine Int32.toBitVec_inj.mp (BitVec.eq_of_toNat_eq ?_)
  have : a ||| b < 2 ^ 32 := Nat.or_lt_two_pow ha hb
  rw [Int32.toBitVec_or, BitVec.toNat_or, pk_tn ha, pk_tn hb, pk_tn this]
theorem one_sh : ∀ j, j < 21 → (1 : Int32) <<< (nI j &&& 31) = nI (2 ^ j) := by decide +kernel
theorem one_shL : ∀ k, k < 61 → ((1 : Int64) <<< ((nI k).toInt64 &&& 63)).toBitVec.toNat = 2 ^ k := by decide +kernel
theorem p_or {n j x : Nat} (hx : x < 2 ^ n) (hj : j < n) : x ||| 2 ^ j < 2 ^ n := Nat.or_lt_two_pow hx (Nat.pow_lt_pow_right (by decide) hj)
/-- one year more is late -/
def lateT (S : Row) (k : Nat) : Row := upd S (75 + k / 21) (S (75 + k / 21) ||| (1 <<< (nI (k % 21) &&& 31)))
theorem lateT_o {S : Row} {k j : Nat} (hk : k < 61) (h : j < 75 ∨ 78 ≤ j) : lateT S k j = S j := by
  unfold lateT; rw [upd_ne _ _ (by omega)]
theorem lateT_n {S : Row} (l : LateR S 75) {k : Nat} (hk : k < 61) : ∃ a b c : Nat, a < 2 ^ 21 ∧ b < 2 ^ 21 ∧ c < 2 ^ 19 ∧ lateT S k 75 = nI a ∧ lateT S k 76 = nI b ∧ lateT S k 77 = nI c ∧ 2 ^ 21 * (2 ^ 21 * c + b) + a = latN S ||| 2 ^ k := by
  obtain ⟨a, b, c, ha, hb, hc, ea, eb, ec⟩ := l.n
  have eb' : S 76 = nI b := eb
  have ec' : S 77 = nI c := ec
  rw [latN_eq ha hb hc ea eb ec]
  have cs : k / 21 = 0 ∨ k / 21 = 1 ∨ k / 21 = 2 := by omega
  have sh := one_sh (k % 21) (by omega)
  have lp : 2 ^ (k % 21) < 2 ^ 32 := Nat.pow_lt_pow_right (by decide) (by omega)
  unfold lateT
  rw [sh]
  rcases cs with z | z | z
  · refine ⟨a ||| 2 ^ (k % 21), b, c, p_or ha (by omega), hb, hc, ?_, ?_, ?_, ?_⟩
    · rw [z, upd_at, ea, nI_or (by omega) lp]
    · rw [z, upd_ne _ _ (by decide)]; exact eb
    · rw [z, upd_ne _ _ (by decide)]; exact ec
    · refine Nat.eq_of_testBit_eq (fun i => ?_)
      rw [Nat.testBit_two_pow_mul_add _ (p_or ha (by omega)), Nat.testBit_or, Nat.testBit_or, Nat.testBit_two_pow_mul_add _ ha, Nat.testBit_two_pow, Nat.testBit_two_pow, show k % 21 = k by omega]
      split
      · rfl
      · rw [decide_eq_false (show ¬ k = i by omega), Bool.or_false]
  · refine ⟨a, b ||| 2 ^ (k % 21), c, ha, p_or hb (by omega), hc, ?_, ?_, ?_, ?_⟩
    · rw [z, upd_ne _ _ (by decide)]; exact ea
    · rw [z]
      show upd S 76 (S 76 ||| nI (2 ^ (k % 21))) 76 = _
      rw [upd_at, eb', nI_or (by omega) lp]
    · rw [z, upd_ne _ _ (by decide)]; exact ec
    · refine Nat.eq_of_testBit_eq (fun i => ?_)
      rw [Nat.testBit_two_pow_mul_add _ ha, Nat.testBit_or, Nat.testBit_two_pow_mul_add _ ha, Nat.testBit_two_pow_mul_add _ (p_or hb (by omega)), Nat.testBit_two_pow_mul_add _ hb, Nat.testBit_or, Nat.testBit_two_pow, Nat.testBit_two_pow, show k % 21 = k - 21 by omega]
      split
      · rw [decide_eq_false (show ¬ k = i by omega), Bool.or_false]
      · split
        · congr 1
          exact decide_eq_decide.mpr (by omega)
        · rw [decide_eq_false (show ¬ k = i by omega), Bool.or_false]
  · refine ⟨a, b, c ||| 2 ^ (k % 21), ha, hb, p_or hc (by omega), ?_, ?_, ?_, ?_⟩
    · rw [z, upd_ne _ _ (by decide)]; exact ea
    · rw [z, upd_ne _ _ (by decide)]; exact eb
    · rw [z]
      show upd S 77 (S 77 ||| nI (2 ^ (k % 21))) 77 = _
      rw [upd_at, ec', nI_or (by omega) lp]
    · refine Nat.eq_of_testBit_eq (fun i => ?_)
      rw [Nat.testBit_two_pow_mul_add _ ha, Nat.testBit_or, Nat.testBit_two_pow_mul_add _ ha, Nat.testBit_two_pow_mul_add _ hb, Nat.testBit_two_pow_mul_add _ hb, Nat.testBit_or, Nat.testBit_two_pow, Nat.testBit_two_pow, show k % 21 = k - 21 - 21 by omega]
      split
      · rw [decide_eq_false (show ¬ k = i by omega), Bool.or_false]
      · split
        · rw [decide_eq_false (show ¬ k = i by omega), Bool.or_false]
        · congr 1
          exact decide_eq_decide.mpr (by omega)
theorem nI_btw {n m : Nat} (h : n ≤ m) (hm : m < 2 ^ 31) : Btw (nI n) 0 (nI m) := ⟨nI_pos' (by omega), nI_le h hm⟩
theorem lateT_R {S : Row} (l : LateR S 75) {k : Nat} (hk : k < 61) : LateR (lateT S k) 75 := by
  obtain ⟨a, b, c, ha, hb, hc, ea, eb, ec, _⟩ := lateT_n l hk
  refine ⟨?_, ?_, ?_⟩
  · rw [ea]; exact nI_btw (m := 2097151) (by omega) (by decide)
  · show Btw (lateT S k 76) 0 2097151
    rw [eb]; exact nI_btw (m := 2097151) (by omega) (by decide)
  · show Btw (lateT S k 77) 0 524287
    rw [ec]; exact nI_btw (m := 524287) (by omega) (by decide)
theorem lateT_l {S : Row} (l : LateR S 75) {k : Nat} (hk : k < 61) : lateOf S ||| (1 <<< ((nI k).toInt64 &&& 63)) = lateOf (lateT S k) := by
  obtain ⟨a, b, c, ha, hb, hc, ea, eb, ec, e⟩ := lateT_n l hk
  refine l_ext ?_
  rw [Int64.toBitVec_or, BitVec.toNat_or, one_shL k hk]
  show latN S ||| 2 ^ k = latN (lateT S k)
  rw [latN_eq ha hb hc ea eb ec, e]
def holdC (q : aH) : Option (Int32 × aH) := aLet (pL q 19 6 ((hL q 19 6) ||| (1 <<< ((hI q 19 5 : Int32).toInt64 &&& 63)))) fun h30 => aBind (f_J13_bitCount_95d88 h30 (hL h30 19 6)) fun r31 h32 => some (r31, h32)
theorem holdC_eq {g : aH} {S : Row} (r : RSt g 19 S) (l : LateR S 75) {k : Nat} (hk : k < 61) (ek : S 10 = nI k) : ∃ g', holdC g = some (nI (popc 64 (latN (lateT S k))), g') ∧ RSt g' 19 (lateT S k) ∧ Upd CA g g' := by
  have r2 : RSt (pL g 19 6 (lateOf (lateT S k))) 19 (lateT S k) := r.wLt (fun j p q s => lateT_o hk (by omega)) rfl
  refine ⟨pL g 19 6 (lateOf (lateT S k)), ?_, r2, Upd.pL (by unfold CA stA; omega)⟩
  unfold holdC
  rw [r.s6, r.s5, ek, lateT_l l hk]
  simp only [aLet, lateC_eq r2, aBind_some]
theorem holdR_eq {g : aH} (hS : Str g) {S : Row} (eS : hI g 318 = S) (l : LateR S 75) {k : Nat} (hk : k < 61) (ek : S 10 = nI k) : ((hR g 308 20).bind fun b32 => ((hR g 308 20).bind fun b33 => (if (sh b33).1 = 0 then (if aIn 10 (sh b33).2 then (aLet (75 + ((hI g b33 (10 : Int32).toNatClampNeg) / 21)) fun x35 => (if (sh b32).1 = 0 then (if aIn x35 (sh b32).2 then ((hR g 308 20).bind fun b37 => (if (sh b37).1 = 0 then (if aIn 10 (sh b37).2 then (if aIn x35 (sh b32).2 then (aLet (pI g b32 x35.toNatClampNeg ((hI g b32 x35.toNatClampNeg) ||| (1 <<< (((hI g b37 (10 : Int32).toNatClampNeg) - (hI g b37 (10 : Int32).toNatClampNeg) / 21 * 21) &&& 31)))) fun h39 => (aBind (f_X12_lateYears h39 308) fun r40 h41 => some (r40, h41))) else none) else none) else none)) else none) else none)) else none) else none))) = some (nI (popc 64 (latN (lateT S k))), wI g 318 (lateT S k)) := by
  have d21 : nI k / 21 = nI (k / 21) := pk_div (d := 21) (by omega) (by decide) (by decide)
  have m21 : nI k - nI (k / 21) * 21 = nI (k % 21) := by
    have := pk_rem (a := k) (d := 21) (by omega) (by decide) (by decide)
    rw [show nI 21 = (21 : Int32) from rfl, d21] at this
    exact this
  have e75 : (75 : Int32) + nI (k / 21) = nI (75 + k / 21) := nI_add 75 (k / 21)
  have ly := lateYears_eq (h := wI g 318 (lateT S k)) hS (hI_wI_eq _ _ _) (lateT_R l hk)
  have lt : upd S (75 + k / 21) (S (75 + k / 21) ||| (1 <<< (nI (k % 21) &&& 31))) = lateT S k := rfl
  simp only [r_308_20 hS, Option.bind_some, q_318, if_pos in10, cl10, eS, ek, d21, m21, e75, aLet, if_pos (in318 (show 75 + k / 21 < 184 by omega)), nI_clamp (show 75 + k / 21 < 2 ^ 31 by omega), pI_d, lt, ly, aBind_some]
theorem op_hold : Op_hold Inv := by
  intro h hV _
  have hS := hV.1
  have r : RSt h 19 (hI h 318) := hV.2.2.2.1.1
  have v : VS (hI h 318) := hV.2.2.2.1.2.1.1
  have y : YR (hI h 318) 999 := hV.2.2.2.1.2.1.2.2
  have n1 : ¬ (1 : Int32) = 0 := by decide
  have lS := isLateS m19 r y (by decide)
  have lR := isLateR hS rfl v.lt y (by decide)
  rcases v.1 with z | z
  · refine ⟨-1, h, h, ?_, ?_, hV⟩
    · show f_X11_hold h 0 = _
      simp only [f_X11_hold, q_0, r_0_5 hS, r_11_1 hS, Option.bind_some, q_11, qst0 m19, r.s0, z, if_true]
    · show f_X12_hold h 308 = _
      simp only [f_X12_hold, q_308, isIsle_eq hS v, z, aBind_some, if_true]
  obtain ⟨k, hk, ek⟩ := y
  by_cases c : 60 < k
  · have c1 : (60 : Int32) < nI k := nI_lt (a := 60) c (by omega)
    refine ⟨-1, h, h, ?_, ?_, hV⟩
    · show f_X11_hold h 0 = _
      simp only [f_X11_hold, q_0, r_0_5 hS, r_11_1 hS, Option.bind_some, q_11, qst0 m19, r.s0, z, if_neg n1, r.s5, ek, if_pos c1]
    · show f_X12_hold h 308 = _
      simp only [f_X12_hold, q_308, isIsle_eq hS v, z, aBind_some, if_neg n1, r_308_20 hS, Option.bind_some, q_318, if_pos in10, cl10, ek, if_pos c1]
  have c1 : ¬ (60 : Int32) < nI k := nI_nlt (a := 60) (by omega) (by decide)
  rw [ek] at lR
  cases lb : lateB (hI h 318) with
  | true =>
    rw [lb] at lS lR
    refine ⟨-1, h, h, ?_, ?_, hV⟩
    · show f_X11_hold h 0 = _
      simp only [f_X11_hold, q_0, r_0_5 hS, r_11_1 hS, Option.bind_some, q_11, qst0 m19, r.s0, z, if_neg n1, r.s5, ek, if_neg c1, lS, aBind_some, bB]
    · show f_X12_hold h 308 = _
      simp only [f_X12_hold, q_308, isIsle_eq hS v, z, aBind_some, if_neg n1, r_308_20 hS, Option.bind_some, q_318, if_pos in10, cl10, ek, if_neg c1, lR, bB]
  | false =>
    rw [lb] at lS lR
    have k61 : k < 61 := by omega
    obtain ⟨h1, h2, h3, h4, f1, f2, f3, f4, c2, S2, I4⟩ := act_op hV (C := holdC) (R := fun g => ((hR g 308 20).bind fun b32 => ((hR g 308 20).bind fun b33 => (if (sh b33).1 = 0 then (if aIn 10 (sh b33).2 then (aLet (75 + ((hI g b33 (10 : Int32).toNatClampNeg) / 21)) fun x35 => (if (sh b32).1 = 0 then (if aIn x35 (sh b32).2 then ((hR g 308 20).bind fun b37 => (if (sh b37).1 = 0 then (if aIn 10 (sh b37).2 then (if aIn x35 (sh b32).2 then (aLet (pI g b32 x35.toNatClampNeg ((hI g b32 x35.toNatClampNeg) ||| (1 <<< (((hI g b37 (10 : Int32).toNatClampNeg) - (hI g b37 (10 : Int32).toNatClampNeg) / 21 * 21) &&& 31)))) fun h39 => (aBind (f_X12_lateYears h39 308) fun r40 h41 => some (r40, h41))) else none) else none) else none)) else none) else none)) else none) else none)))) (T := lateT (hI h 318) k) (v := nI (popc 64 (latN (lateT (hI h 318) k))))
      (fun g sg rg _ _ => holdC_eq rg v.lt k61 ek)
      (fun g sg cg _ => ⟨_, holdR_eq sg (cg 318 (by omega) (by omega)) v.lt k61 ek, hI_wI_eq _ _ _, Upd.wI (by unfold RA; omega), fun j _ => by rw [hI_wI_ne _ _ (by decide)]⟩)
      (fun j hj => lateT_o k61 (by omega)) (v.late (fun j hj => lateT_o k61 hj) (lateT_R v.lt k61)) ⟨k, hk, by rw [lateT_o k61 (by omega)]; exact ek⟩
    have k18 := c2 318 (by omega)
    have ii := isIsle_eq S2 (by rw [k18]; exact v)
    rw [k18, z] at ii
    have lR2 := isLateR S2 k18 v.lt ⟨k, hk, ek⟩ (by decide)
    rw [lb, ek] at lR2
    refine ⟨nI (popc 64 (latN (lateT (hI h 318) k))), h2, h4, ?_, ?_, I4⟩
    · show f_X11_hold h 0 = _
      simp only [f_X11_hold, q_0, r_0_5 hS, r_11_1 hS, Option.bind_some, q_11, qst0 m19, r.s0, z, if_neg n1, r.s5, ek, if_neg c1, lS, aBind_some, bB, if_true, f1]
      exact f2
    · show f_X12_hold h2 308 = _
      simp only [f_X12_hold, q_308, ii, aBind_some, if_neg n1, r_308_20 S2, Option.bind_some, q_318, if_pos in10, cl10, k18, ek, if_neg c1, lR2, bB, if_true, f3]
      exact f4
