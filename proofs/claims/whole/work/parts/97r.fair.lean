/-! ===== fair ===== -/
theorem rules_m : ∀ k, k < 6 → (10, k, 66 + 5 * k) ∈ rfL := by decide +kernel
theorem in10r {k : Nat} (h : k < 6) : aIn (nI k) (sh 10).2 := by rw [sh_10]; exact vp_in_nI h (by decide)
/-- a rule's number that is there -/
def RlIn (h : aH) (f : Option Nat) : Prop := ∀ k, f = some k → k < 6 ∧ nI k < hI h 0 4
theorem ruleOf_eq {h : aH} (hS : Str h) {f : Option Nat} (i : RlIn h f) : f_X11_ruleOf h 0 (frI f) = some (rlA f, h) := by
  cases f with
  | none => exact if_pos (show (-1 : Int32) < 0 by decide)
  | some k =>
    obtain ⟨hk, lt⟩ := i k rfl
    have c : ¬ nI k < 0 := nI_pos (by omega)
    have rk : hR h 10 k = some (66 + 5 * k) := hS.at _ _ _ (rules_m k hk)
    simp only [f_X11_ruleOf, frI, if_neg c, q_0, if_neg (Int32.not_le.mpr lt), r_0_3 hS, Option.bind_some, q_10, if_pos (in10r hk), nI_clamp (show k < 2 ^ 31 by omega), rk, rlA, Option.map_some]
theorem ruleIn_eq {h : aH} (hS : Str h) {f : Option Nat} (i : RlIn h f) (e : hI h 11 6 = frI f) : f_X11_ruleInForce h 0 = some (rlA f, h) := by
  simp only [f_X11_ruleInForce, q_0, r_0_5 hS, Option.bind_some, q_11, e, ruleOf_eq hS i, aBind_some]
theorem rule_num {h : aH} (hV : Inv h) {x : Int32} (h1 : -1 ≤ x) (h2 : x < hI h 308 2) : ∃ f, x = frI f ∧ RlOK h f ∧ RlIn h f := by
  have rr := hV.2.2.1
  by_cases c : x < 0
  · refine ⟨none, ?_, (fun k q => by cases q), (fun k q => by cases q)⟩
    rcases Int32.lt_or_le x (-1) with z | z
    · exact absurd h1 (Int32.not_le.mpr z)
    · refine Int32.le_antisymm ?_ h1
      have q : x.toInt < 0 := Int32.lt_iff_toInt_lt.mp c
      refine Int32.le_iff_toInt_le.mpr ?_
      have e : (-1 : Int32).toInt = -1 := by decide
      have e2 : (frI none).toInt = -1 := by decide
      omega
  · obtain ⟨n, hn, en⟩ := btw_nI rr.2.1 (m := 6) (by decide)
    rw [en] at h2
    obtain ⟨k, hk, ek⟩ := nI_of c
    rw [ek] at h2
    have hkn := (nI_ltI hk (by omega)).mp h2
    refine ⟨some k, ek, fun k' q => ?_, fun k' q => ?_⟩
    · cases q
      exact ⟨by omega, rr.2.2 k (by omega) (by rw [en]; exact h2)⟩
    · cases q
      exact ⟨by omega, by rw [rr.1, en]; exact h2⟩
theorem Inv.rule {h : aH} (hV : Inv h) : ∃ f, hI h 308 21 = frI f ∧ hI h 11 6 = frI f ∧ RlOK h f ∧ RlIn h f := by
  obtain ⟨f, e, o, i⟩ := rule_num hV hV.2.2.2.2.1.1 hV.2.2.2.2.1.2
  exact ⟨f, e, by rw [hV.2.2.2.1.2.2.2.2.2.1]; exact e, o, i⟩
theorem in0 : aIn (0 : Int32) (sh 318).2 := in318 (k := 0) (by decide)
theorem isIsle_eq {h : aH} (hS : Str h) (v : VS (hI h 318)) : f_X12_isIsle h 308 = some (hI h 318 0, h) := by
  simp only [f_X12_isIsle, q_308, r_308_20 hS, Option.bind_some, q_318, if_pos in0, z_clamp]
  rcases v.1 with z | z
  · rw [z, if_neg (by decide)]
  · rw [z, if_pos rfl]
theorem RX.key {a b : aH} (x : RX a b) : ∀ j, keyE j → hI b 308 j = hI a 308 j := fun j hj => x.2 j (by unfold keyE at hj; omega)
theorem op_fair : Op_fair Inv := by
  intro h hV _
  have hS := hV.1
  have r : RSt h 19 (hI h 318) := hV.2.2.2.1.1
  have v : VS (hI h 318) := hV.2.2.2.1.2.1.1
  have y : YR (hI h 318) 999 := hV.2.2.2.1.2.1.2.2
  have n1 : ¬ (1 : Int32) = 0 := by decide
  rcases v.1 with z | z
  · refine ⟨-1, h, h, ?_, ?_, hV⟩
    · show f_X11_fair h 0 = _
      simp only [f_X11_fair, q_0, r_0_5 hS, r_11_1 hS, Option.bind_some, q_11, qst0 m19, r.s0, z, if_true]
    · show f_X12_fair h 308 = _
      simp only [f_X12_fair, q_308, isIsle_eq hS v, z, aBind_some, if_true]
  obtain ⟨k, hk, ek⟩ := y
  by_cases c : k = 999
  · subst c
    have c1 : ¬ nI 999 < 999 := by decide
    have c2 : nI 999 = 999 := rfl
    refine ⟨-1, h, h, ?_, ?_, hV⟩
    · show f_X11_fair h 0 = _
      simp only [f_X11_fair, q_0, r_0_5 hS, r_11_1 hS, Option.bind_some, q_11, qst0 m19, r.s0, z, if_neg n1, r.s5, ek, if_neg c1]
    · show f_X12_fair h 308 = _
      simp only [f_X12_fair, q_308, isIsle_eq hS v, z, aBind_some, if_neg n1, r_308_20 hS, Option.bind_some, q_318, if_pos in10, cl10, ek, if_pos c2]
  · have c1 : nI k < 999 := nI_lt (b := 999) (by omega) (by decide)
    have c2 : ¬ nI k = 999 := fun q => c ((nI_eq (b := 999) (by omega) (by decide)).mp q)
    obtain ⟨f, e21, e6, ok, ri⟩ := hV.rule
    have y' : YR (hI h 318) 998 := ⟨k, by omega, ek⟩
    have v23 : hI h 308 23 = bB false := hV.2.2.2.2.2.2.2
    obtain ⟨h1, h2, h3, h4, f1, f2, f3, f4, c2', S2, I4⟩ := act_op hV (C := fun q => (hR q 0 11).bind fun b28 => aBind (f_X11_ruleInForce q 0) fun r29 h30 => aBind (f_X8_isLate h30 19) fun r31 h32 => if (sh b28).1 = 7 then f_X0_pass h32 b28 19 r29 r31 else none) (R := fun q => f_X12_passes q 308) (T := passS h f (lateB (hI h 318)) (hI h 318)) (v := passC h f (lateB (hI h 318)) (hI h 318))
      (fun g sg rg cg c0 => by
        obtain ⟨g', fg, rg', ug⟩ := pass_eq sg m19 rg v ok (fun b p q => cg b (by omega) (by omega) (by omega)) (lateB (hI h 318))
        refine ⟨g', ?_, rg', ug.mono (fun b hb => by unfold CA; rcases hb with hb | hb; exact Or.inl hb; exact Or.inr (by omega))⟩
        have rI := ruleIn_eq sg (f := f) (fun k q => ⟨(ri k q).1, by rw [c0 4 (by decide) (by decide)]; exact (ri k q).2⟩) (by rw [cg 11 (by omega) (by omega) (by omega)]; exact e6)
        simp only [r_0_11 sg, Option.bind_some, rI, aBind_some, isLateS m19 rg y' (by decide), q_38, fg])
      (fun g sg cg kg => by
        obtain ⟨g', fg, sg', xg⟩ := passes_eq sg (cg 318 (by omega) (by omega)) v y' (by decide) ok (by rw [kg 21 (by decide)]; exact e21) (fun b p q => cg b (by omega) (by omega)) (d := false) (by rw [kg 23 (by decide)]; exact v23)
        rw [Bool.false_or] at fg sg'
        exact ⟨g', fg, sg', xg.1.mono (fun b hb => by unfold RA; omega), xg.key⟩)
      (fun j hj => (passS_ok v).2.1 j (by omega)) (passS_ok v).1 (y'.pass v)
    have k18 := c2' 318 (by omega)
    refine ⟨passC h f (lateB (hI h 318)) (hI h 318), h2, h4, ?_, ?_, I4⟩
    · show f_X11_fair h 0 = _
      simp only [f_X11_fair, q_0, r_0_5 hS, r_11_1 hS, Option.bind_some, q_11, qst0 m19, r.s0, z, if_neg n1, r.s5, ek, if_pos c1, f1, aBind_some]
      have f2' : ((hR h1 0 11).bind fun b28 => aBind (f_X11_ruleInForce h1 0) fun r29 h30 => aBind (f_X8_isLate h30 19) fun r31 h32 => if (sh b28).1 = 7 then f_X0_pass h32 b28 19 r29 r31 else none) = some (passC h f (lateB (hI h 318)) (hI h 318), h2) := f2
      rw [← f2']
      cases hR h1 0 11 with
      | none => rfl
      | some b =>
        simp only [Option.bind_some]
        cases f_X11_ruleInForce h1 0 with
        | none => rfl
        | some p =>
          obtain ⟨p1, p2⟩ := p
          simp only [aBind_some]
          cases f_X8_isLate p2 19 with
          | none => rfl
          | some q =>
            obtain ⟨q1, q2⟩ := q
            simp only [aBind_some]
            split
            · cases f_X0_pass q2 b 19 p1 q1 with
              | none => rfl
              | some w => rfl
            · rfl
    · have ii := isIsle_eq S2 (by rw [k18]; exact v)
      rw [k18, z] at ii
      show f_X12_fair h2 308 = _
      simp only [f_X12_fair, q_308, ii, aBind_some, if_neg n1, r_308_20 S2, Option.bind_some, q_318, if_pos in10, cl10, k18, ek, if_neg c2, f3, f4]
