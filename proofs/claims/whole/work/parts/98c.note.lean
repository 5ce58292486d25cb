/-! ===== note ===== -/
theorem VS.of {S T : Row} (v : VS S) (o : ∀ j, j < 110 → T j = S j) : VS T := by
  have v3 := v.e3.2
  have v4 := v.e4.2
  have n3 : nE T = nE S := nE_of (o 3 (by decide))
  have n4 : nW T = nW S := nW_of (o 4 (by decide))
  obtain ⟨a, b, c, d, ⟨f1, f2, f3⟩, g, p, q⟩ := v
  refine ⟨?_, ?_, ?_, ?_, ⟨?_, ?_, ?_⟩, fun k hk => ⟨?_, ?_⟩, fun e he => ?_, fun w hw => ?_⟩
  · rw [o 0 (by decide)]; exact a
  · rw [o 3 (by decide)]; exact b
  · rw [o 4 (by decide)]; exact c
  · rw [o 0 (by decide), o 3 (by decide), o 4 (by decide)]; exact d
  · rw [o 75 (by decide)]; exact f1
  · rw [o 76 (by decide)]; exact f2
  · rw [o 77 (by decide)]; exact f3
  · rw [o _ (by omega)]; exact (g k hk).1
  · rw [o _ (by omega)]; exact (g k hk).2
  · rw [n3] at he
    rw [n4, o _ (by omega), o _ (by omega)]
    rcases p e he with z | ⟨w, hw, z1, z2, z3⟩
    · exact Or.inl z
    · exact Or.inr ⟨w, hw, z1, by rw [o _ (by omega)]; exact z2, by rw [o _ (by omega)]; exact z3⟩
  · rw [n4] at hw
    rw [n3, o _ (by omega), o _ (by omega)]
    rcases q w hw with z | ⟨e, he, z1, z2⟩
    · exact Or.inl z
    · exact Or.inr ⟨e, he, z1, by rw [o _ (by omega)]; exact z2⟩
theorem VT.of {S T : Row} (v : VT S) (o : ∀ j, 110 ≤ j → j < 153 → T j = S j) : VT T := by
  obtain ⟨⟨a, b, c⟩, d⟩ := v
  refine ⟨⟨?_, ?_, ?_⟩, fun k hk => ?_⟩
  · rw [o 150 (by decide) (by decide)]; exact a
  · rw [o (150 + 1) (by decide) (by decide)]; exact b
  · rw [o (150 + 2) (by decide) (by decide)]; exact c
  · rw [o _ (by omega) (by omega)]; exact d k hk
theorem beginOf_of {S T : Row} (o : ∀ j, j < 153 → T j = S j) {j : Nat} (hj : j < 110) : beginOf T j = beginOf S j := by
  unfold beginOf
  split
  · rfl
  · split
    · split
      · exact o _ (by omega)
      · rfl
    · split
      · exact o _ (by omega)
      · split
        · exact o _ (by omega)
        · exact o _ (by omega)
abbrev ntC : Nat → Prop := fun b => b = 11 ∨ b = 26 ∨ b = 27 ∨ b = 28 ∨ b = 318
theorem Inv.told {h h' : aH} (hV : Inv h) (u : Upd ntC h h') (eS : ∀ j, j < 153 → hI h' 318 j = hI h 318 j) (e6 : hI h' 11 6 = hI h 11 6) (e7 : hI h' 11 7 = hI h 11 7) (n5 : hI h' 11 5 = hI h' 318 183) (nb : Btw (hI h' 318 183) 0 10)
    (nt : ∀ i, i < 10 → nI i < hI h' 318 183 → hI h' 26 i = hI h' 318 (153 + 3 * i) ∧ hI h' 27 i = hI h' 318 (154 + 3 * i) ∧ hI h' 28 i = hI h' 318 (155 + 3 * i) ∧ Btw (hI h' 318 (153 + 3 * i)) 0 30 ∧ (0 ≤ hI h' 318 (154 + 3 * i) ∧ hI h' 318 (154 + 3 * i) < hI h' 318 3)) : Inv h' := by
  obtain ⟨v0, v1, v2, v3, v4, v5, v6, v7⟩ := hV
  have o : ∀ b, ¬ ntC b → hI h' b = hI h b := fun b hb => u.2.2.1 b hb
  have ol : ∀ b, ¬ ntC b → hL h' b = hL h b := fun b hb => u.2.2.2 b hb
  have o0 := o 0 (by unfold ntC; omega)
  have o8 := o 308 (by unfold ntC; omega)
  have o23 := o 323 (by unfold ntC; omega)
  refine ⟨u.str v0, v1.mv (by rw [o 1 (by unfold ntC; omega)]) (o 2 (by unfold ntC; omega)) (by rw [o8]) (o 309 (by unfold ntC; omega)), v2.mv (by rw [o0]) (by rw [o8]) (fun b _ _ => o b (by unfold ntC; omega)) (fun b _ _ => o b (by unfold ntC; omega)), ?_, by rw [o8]; exact v4, ?_, v6.mv (fun b _ _ => ⟨o b (by unfold ntC; omega), ol b (by unfold ntC; omega)⟩) (by rw [o8]) (fun b _ _ => o b (by unfold ntC; omega)), by rw [o8]; exact v7⟩
  · obtain ⟨r1, ⟨r2a, r2b, r2c⟩, r3, r4, r5, r6, r7, r8, r9⟩ := v3
    rw [o8]
    refine ⟨r1.mv (fun b h1 h2 => o b (by unfold ntC; omega)) (ol _ (by unfold ntC; omega)) (fun j hj => eS j (by omega)), ⟨r2a.of (fun j hj => eS j (by omega)), r2b.of (fun j _ hj => eS j hj), r2c.eq (eS 10 (by decide))⟩, ⟨fun q => (r3.1 (by rw [← eS 0 (by decide)]; exact q)).mv (fun b h1 h2 => o b (by unfold ntC; omega)) (ol _ (by unfold ntC; omega)) (fun j hj => beginOf_of eS hj), by rw [o (11 + 1) (by unfold ntC; omega)]; exact r3.2⟩, n5, nb, by rw [e6]; exact r6, by rw [e7]; exact r7, r8, nt⟩
  · obtain ⟨a, b, c, d⟩ := v5
    refine ⟨by rw [o0, o8]; exact a, by rw [o8]; exact b, by rw [o0]; exact c, fun i hi hlt => ?_⟩
    rw [o8] at hlt
    obtain ⟨p1, p2, p3⟩ := d i hi hlt
    rw [o0, o8, o23]
    have ew : ∀ j, j < 110 → withPart (hI h' 318) (hI h 323) (68 * i) j = withPart (hI h 318) (hI h 323) (68 * i) j := fun j hj => by
      unfold withPart
      split
      · rfl
      · exact eS j (by omega)
    exact ⟨p1.mv (fun b h1 h2 => o b (by unfold ntC; omega)) (ol _ (by unfold ntC; omega)) ew, p2.of ew, p3.eq (ew 10 (by decide))⟩
theorem sh_26 : sh 26 = (0, 10) := by decide
theorem sh_27 : sh 27 = (0, 10) := by decide
theorem sh_28 : sh 28 = (0, 10) := by decide
theorem q_26 {α : Type} {x y : α} : (if (sh 26).1 = 0 then x else y) = x := if_pos (by rw [sh_26])
theorem q_27 {α : Type} {x y : α} : (if (sh 27).1 = 0 then x else y) = x := if_pos (by rw [sh_27])
theorem q_28 {α : Type} {x y : α} : (if (sh 28).1 = 0 then x else y) = x := if_pos (by rw [sh_28])
theorem in26 {k : Nat} (h : k < 10) : aIn (nI k) (sh 26).2 := by rw [sh_26]; exact vp_in_nI h (by decide)
theorem in27 {k : Nat} (h : k < 10) : aIn (nI k) (sh 27).2 := by rw [sh_27]; exact vp_in_nI h (by decide)
theorem in28 {k : Nat} (h : k < 10) : aIn (nI k) (sh 28).2 := by rw [sh_28]; exact vp_in_nI h (by decide)
theorem in183 : aIn (183 : Int32) (sh 318).2 := in318 (k := 183) (by decide)
theorem cl183 : (183 : Int32).toNatClampNeg = 183 := by decide
theorem i153 (m : Nat) : (153 : Int32) + 3 * nI m = nI (153 + 3 * m) := by
  rw [show (153 : Int32) = nI 153 from rfl, show (3 : Int32) = nI 3 from rfl, pk_mul, nI_add]
def noteH (h : aH) (m : Nat) (x1 x2 x3 : Int32) : aH := pI (pI (pI (pI h 26 m x1) 27 m x2) 28 m x3) 11 5 (nI (m + 1))
theorem addNote_eq {h : aH} (hS : Str h) {m : Nat} (hm : m < 10) (e5 : hI h 11 5 = nI m) (x1 x2 x3 : Int32) : f_X10_addNote h 11 x1 x2 x3 = some ((), noteH h m x1 x2 x3) := by
  have c : ¬ (10 : Int32) ≤ nI m := nI_ge (b := 10) hm (by decide)
  simp only [f_X10_addNote, q_11, e5, if_neg c, r_11_2 hS, r_11_3 hS, r_11_4 hS, Option.bind_some, aLet, q_26, q_27, q_28, if_pos (in26 hm), if_pos (in27 hm), if_pos (in28 hm), nI_clamp (show m < 2 ^ 31 by omega), hR_pI, hI_ne _ (show (11 : Nat) ≠ 26 by decide), hI_ne _ (show (11 : Nat) ≠ 27 by decide), hI_ne _ (show (11 : Nat) ≠ 28 by decide), i1, noteH]
theorem noteC {h : aH} (hS : Str h) {m : Nat} (hm : m ≤ 10) (e5 : hI h 11 5 = nI m) (x1 x2 x3 : Int32) : b_X11_note_53 h 0 x1 x2 x3 1 = if (0 ≤ x1 ∧ x1 ≤ 30) ∧ m < 10 then some (nI (m + 1), noteH h m x1 x2 x3) else some (-2, h) := by
  have n1 : ¬ (1 : Int32) = 0 := by decide
  simp only [b_X11_note_53, if_neg n1]
  by_cases a : x1 < 0
  · rw [if_pos a, if_neg (fun q => absurd a (Int32.not_lt.mpr q.1.1))]
  · rw [if_neg a]
    by_cases b : 30 < x1
    · rw [if_pos b, if_neg (fun q => absurd b (Int32.not_lt.mpr q.1.2))]
    · rw [if_neg b]
      by_cases c : m < 10
      · have c' : nI m < 10 := nI_lt (b := 10) c (by decide)
        have sh1 : hR (noteH h m x1 x2 x3) 0 5 = some 11 := r_0_5 hS
        have sh2 : hI (noteH h m x1 x2 x3) 11 5 = nI (m + 1) := by unfold noteH; rw [hI_eq, upd_at]
        simp only [q_0, r_0_5 hS, Option.bind_some, q_11, e5, if_pos c', addNote_eq hS c e5, aBind_some, sh1, sh2, if_pos (show (0 ≤ x1 ∧ x1 ≤ 30) ∧ m < 10 from ⟨⟨Int32.not_lt.mp a, Int32.not_lt.mp b⟩, c⟩)]
      · have c' : ¬ nI m < 10 := fun q => c ((nI_ltI (b := 10) (by omega) (by decide)).mp q)
        simp only [q_0, r_0_5 hS, Option.bind_some, q_11, e5, if_neg c', if_neg (show ¬ ((0 ≤ x1 ∧ x1 ≤ 30) ∧ m < 10) from fun q => c q.2)]
def noteS (S : Row) (m : Nat) (x1 x2 x3 : Int32) : Row := upd (upd (upd (upd S (153 + 3 * m) x1) (153 + 3 * m + 1) x2) (153 + 3 * m + 2) x3) 183 (nI (m + 1))
theorem noteR {h : aH} (hS : Str h) {S : Row} (eS : hI h 318 = S) {m : Nat} (hm : m ≤ 10) (em : S 183 = nI m) (x1 x2 x3 : Int32) : b_X12_note_49 h 308 x1 x2 x3 = if m < 10 then some (nI (m + 1), wI h 318 (noteS S m x1 x2 x3)) else some (-2, h) := by
  by_cases c : m < 10
  · have c' : ¬ nI m = 10 := fun q => by have := (nI_eq (b := 10) (by omega) (by decide)).mp q; omega
    have t : (upd (upd (upd S (153 + 3 * m) x1) (153 + 3 * m + 1) x2) (153 + 3 * m + 2) x3) 183 = nI m := by
      rw [upd_ne _ _ (by omega), upd_ne _ _ (by omega), upd_ne _ _ (by omega), em]
    rw [if_pos c]
    simp only [b_X12_note_49, q_308, r_308_20 hS, Option.bind_some, q_318, if_pos in183, cl183, eS, em, if_neg c', aLet, i153, if_pos (in318 (show 153 + 3 * m < 184 by omega)), if_pos (in318 (show 153 + 3 * m + 1 < 184 by omega)), if_pos (in318 (show 153 + 3 * m + 2 < 184 by omega)), nI_clamp (show 153 + 3 * m < 2 ^ 31 by omega), nI_clamp (show 153 + 3 * m + 1 < 2 ^ 31 by omega), nI_clamp (show 153 + 3 * m + 2 < 2 ^ 31 by omega), pI_d, hR_wI, hI_wI_eq, wI_wI, i1, i2, t, upd_at, noteS]
  · have e : m = 10 := by omega
    subst e
    rw [if_neg c]
    simp only [b_X12_note_49, q_308, r_308_20 hS, Option.bind_some, q_318, if_pos in183, cl183, eS, em, if_pos (show nI 10 = (10 : Int32) from rfl)]
theorem note_inv {h : aH} (hV : Inv h) {m : Nat} (hm : m < 10) (em : hI h 318 183 = nI m) {x1 x3 : Int32} (b : 0 ≤ x1 ∧ x1 ≤ 30) {e : Nat} (he : e < nE (hI h 318)) : Inv (wI (noteH h m x1 (nI e) x3) 318 (noteS (hI h 318) m x1 (nI e) x3)) := by
  have v : VS (hI h 318) := hV.2.2.2.1.2.1.1
  have v3 := v.e3
  have k18 : hI (wI (noteH h m x1 (nI e) x3) 318 (noteS (hI h 318) m x1 (nI e) x3)) 318 = noteS (hI h 318) m x1 (nI e) x3 := hI_wI_eq _ _ _
  have k11 : hI (wI (noteH h m x1 (nI e) x3) 318 (noteS (hI h 318) m x1 (nI e) x3)) 11 = upd (hI h 11) 5 (nI (m + 1)) := by
    rw [hI_wI_ne _ _ (by decide)]; unfold noteH; rw [hI_eq, hI_ne _ (by decide), hI_ne _ (by decide), hI_ne _ (by decide)]
  have k26 : hI (wI (noteH h m x1 (nI e) x3) 318 (noteS (hI h 318) m x1 (nI e) x3)) 26 = upd (hI h 26) m x1 := by
    rw [hI_wI_ne _ _ (by decide)]; unfold noteH; rw [hI_ne _ (by decide), hI_ne _ (by decide), hI_ne _ (by decide), hI_eq]
  have k27 : hI (wI (noteH h m x1 (nI e) x3) 318 (noteS (hI h 318) m x1 (nI e) x3)) 27 = upd (hI h 27) m (nI e) := by
    rw [hI_wI_ne _ _ (by decide)]; unfold noteH; rw [hI_ne _ (by decide), hI_ne _ (by decide), hI_eq, hI_ne _ (by decide)]
  have k28 : hI (wI (noteH h m x1 (nI e) x3) 318 (noteS (hI h 318) m x1 (nI e) x3)) 28 = upd (hI h 28) m x3 := by
    rw [hI_wI_ne _ _ (by decide)]; unfold noteH; rw [hI_ne _ (by decide), hI_eq, hI_ne _ (by decide), hI_ne _ (by decide)]
  have u : Upd ntC h (wI (noteH h m x1 (nI e) x3) 318 (noteS (hI h 318) m x1 (nI e) x3)) := by
    unfold noteH
    exact ((((Upd.pI (by unfold ntC; omega)).tr (Upd.pI (by unfold ntC; omega))).tr (Upd.pI (by unfold ntC; omega))).tr (Upd.pI (by unfold ntC; omega))).tr (Upd.wI (by unfold ntC; omega))
  have t183 : noteS (hI h 318) m x1 (nI e) x3 183 = nI (m + 1) := by unfold noteS; rw [upd_at]
  have lo : ∀ j, j < 153 + 3 * m → noteS (hI h 318) m x1 (nI e) x3 j = hI h 318 j := fun j hj => by
    unfold noteS; rw [upd_ne _ _ (by omega), upd_ne _ _ (by omega), upd_ne _ _ (by omega), upd_ne _ _ (by omega)]
  refine hV.told u ?_ ?_ ?_ ?_ ?_ ?_
  · intro j hj; rw [k18]; exact lo j (by omega)
  · rw [k11, upd_ne _ _ (by decide)]
  · rw [k11, upd_ne _ _ (by decide)]
  · rw [k11, k18, upd_at, t183]
  · rw [k18, t183]; exact ⟨nI_pos' (by omega), nI_le (b := 10) (by omega) (by decide)⟩
  · intro i hi hlt
    rw [k18, t183] at hlt
    have hlt' := (nI_ltI (by omega) (by omega)).mp hlt
    rw [k18, k26, k27, k28]
    rcases Nat.lt_or_ge i m with q | q
    · obtain ⟨a1, a2, a3, a4, a5⟩ := hV.2.2.2.1.2.2.2.2.2.2.2.2 i hi (by rw [em]; exact nI_lt q (by omega))
      rw [upd_ne _ _ (by omega), upd_ne _ _ (by omega), upd_ne _ _ (by omega), lo _ (by omega), lo _ (by omega), lo _ (by omega), lo 3 (by omega)]
      exact ⟨a1, a2, a3, a4, a5⟩
    · have ei : i = m := by omega
      subst ei
      have t1 : noteS (hI h 318) i x1 (nI e) x3 (153 + 3 * i) = x1 := by
        unfold noteS; rw [upd_ne _ _ (by omega), upd_ne _ _ (by omega), upd_ne _ _ (by omega), upd_at]
      have t2 : noteS (hI h 318) i x1 (nI e) x3 (154 + 3 * i) = nI e := by
        rw [show 154 + 3 * i = 153 + 3 * i + 1 by omega]; unfold noteS; rw [upd_ne _ _ (by omega), upd_ne _ _ (by omega), upd_at]
      have t3 : noteS (hI h 318) i x1 (nI e) x3 (155 + 3 * i) = x3 := by
        rw [show 155 + 3 * i = 153 + 3 * i + 2 by omega]; unfold noteS; rw [upd_ne _ _ (by omega), upd_at]
      rw [upd_at, upd_at, upd_at, t1, t2, t3, lo 3 (by omega), v3.1]
      exact ⟨rfl, rfl, rfl, b, nI_pos' (by omega), nI_lt he (by omega)⟩
theorem op_note : Op_note Inv := by
  intro h hV x1 x2 x3
  have hS := hV.1
  have r : RSt h 19 (hI h 318) := hV.2.2.2.1.1
  have v : VS (hI h 318) := hV.2.2.2.1.2.1.1
  have n1 : ¬ (1 : Int32) = 0 := by decide
  have i1' : ∀ g, f_X12_in g x1.toInt64 0 30 = some (if 0 ≤ x1 ∧ x1 ≤ 30 then 1 else 0, g) := fun g => in_i (h := g) x1 0 30 (by decide) (by decide)
  by_cases k : x1 = -1
  · subst k
    refine ⟨0, pI h 11 5 0, wI (pI h 11 5 0) 318 (upd (hI h 318) 183 0), ?_, ?_, ?_⟩
    · show f_X11_note h 0 (-1) x2 x3 = _
      simp only [f_X11_note, if_true, q_0, r_0_5 hS, Option.bind_some, q_11, aLet]
    · show f_X12_note (pI h 11 5 0) 308 (-1) x2 x3 = _
      simp only [f_X12_note, if_true, q_308, hR_pI, hR_wI, r_308_20 hS, Option.bind_some, q_318, if_pos in183, cl183, aLet, pI_d, hI_wI_ne _ _ (show (318 : Nat) ≠ 11 by decide)]
    · have k18 : hI (wI (pI h 11 5 0) 318 (upd (hI h 318) 183 0)) 318 = upd (hI h 318) 183 0 := hI_wI_eq _ _ _
      have k11 : hI (wI (pI h 11 5 0) 318 (upd (hI h 318) 183 0)) 11 = upd (hI h 11) 5 0 := by rw [hI_wI_ne _ _ (by decide), hI_eq]
      refine hV.told ((Upd.pI (by unfold ntC; omega)).tr (Upd.wI (by unfold ntC; omega))) ?_ ?_ ?_ ?_ ?_ ?_
      · intro j hj; rw [k18, upd_ne _ _ (by omega)]
      · rw [k11, upd_ne _ _ (by decide)]
      · rw [k11, upd_ne _ _ (by decide)]
      · rw [k11, k18, upd_at, upd_at]
      · rw [k18, upd_at]; decide
      · intro i hi hlt
        rw [k18, upd_at] at hlt
        exact absurd hlt (nI_pos (by omega))
  obtain ⟨m, hm, em⟩ := btw_nI hV.2.2.2.1.2.2.2.2.1 (m := 10) (by decide)
  have e5 : hI h 11 5 = nI m := by rw [hV.2.2.2.1.2.2.2.1]; exact em
  rcases hasEastV v x2 with z | ⟨e, he, rfl⟩
  · refine ⟨-2, h, h, ?_, ?_, hV⟩
    · show f_X11_note h 0 x1 x2 x3 = _
      simp only [f_X11_note, if_neg k, q_0, r_0_5 hS, r_11_1 hS, Option.bind_some, q_11, qst0 m19, noEast m19 r z, aBind_some, if_true, b_X11_note_52, b_X11_note_53]
    · show f_X12_note h 308 x1 x2 x3 = _
      simp only [f_X12_note, if_neg k, i1', q_308, noEastR hS z, aBind_some, if_true]
      split <;> rfl
  have fin : ∀ (C : f_X11_note h 0 x1 (nI e) x3 = b_X11_note_53 h 0 x1 (nI e) x3 1) (R : ∀ g, Str g → hI g 318 = hI h 318 → (0 ≤ x1 ∧ x1 ≤ 30) → f_X12_note g 308 x1 (nI e) x3 = b_X12_note_49 g 308 x1 (nI e) x3) (R' : ¬ (0 ≤ x1 ∧ x1 ≤ 30) → f_X12_note h 308 x1 (nI e) x3 = some (-2, h)), Pair Inv h (fun q => f_X11_note q 0 x1 (nI e) x3) (fun q => f_X12_note q 308 x1 (nI e) x3) := by
    intro C R R'
    by_cases b : 0 ≤ x1 ∧ x1 ≤ 30
    · by_cases l : m < 10
      · have Sn : Str (noteH h m x1 (nI e) x3) := hS
        have sn : hI (noteH h m x1 (nI e) x3) 318 = hI h 318 := by
          unfold noteH; rw [hI_ne _ (by decide), hI_ne _ (by decide), hI_ne _ (by decide), hI_ne _ (by decide)]
        refine ⟨nI (m + 1), noteH h m x1 (nI e) x3, wI (noteH h m x1 (nI e) x3) 318 (noteS (hI h 318) m x1 (nI e) x3), ?_, ?_, note_inv hV l em b he⟩
        · show f_X11_note h 0 x1 (nI e) x3 = _
          rw [C, noteC hS hm e5, if_pos ⟨b, l⟩]
        · show f_X12_note (noteH h m x1 (nI e) x3) 308 x1 (nI e) x3 = _
          rw [R _ Sn sn b, noteR Sn sn hm em, if_pos l]
      · refine ⟨-2, h, h, ?_, ?_, hV⟩
        · show f_X11_note h 0 x1 (nI e) x3 = _
          rw [C, noteC hS hm e5, if_neg (fun q => l q.2)]
        · show f_X12_note h 308 x1 (nI e) x3 = _
          rw [R h hS rfl b, noteR hS rfl hm em, if_neg l]
    · refine ⟨-2, h, h, ?_, R' b, hV⟩
      show f_X11_note h 0 x1 (nI e) x3 = _
      rw [C, noteC hS hm e5, if_neg (fun q => b q.1)]
  by_cases k3 : x3 = -1
  · refine fin ?_ ?_ ?_
    · simp only [f_X11_note, if_neg k, q_0, r_0_5 hS, r_11_1 hS, Option.bind_some, q_11, qst0 m19, yesEast m19 r v he, aBind_some, if_neg n1, if_pos k3, b_X11_note_48]
    · intro g Sg sg b
      have ye : f_X12_isEast g 308 (nI e) = some (1, g) := yesEastR Sg (by rw [sg]; exact v) (by rw [sg]; exact he)
      simp only [f_X12_note, if_neg k, i1', if_pos b, q_308, ye, aBind_some, if_neg n1, if_pos k3]
    · intro b
      simp only [f_X12_note, if_neg k, i1', if_neg b, aBind_some, if_true]
  rcases hasWestV v x3 with z | ⟨w, hw, rfl⟩
  · refine ⟨-2, h, h, ?_, ?_, hV⟩
    · show f_X11_note h 0 x1 (nI e) x3 = _
      simp only [f_X11_note, if_neg k, q_0, r_0_5 hS, r_11_1 hS, Option.bind_some, q_11, qst0 m19, yesEast m19 r v he, noWest m19 r z, aBind_some, if_neg n1, if_neg k3, if_true, b_X11_note_52, b_X11_note_53]
    · show f_X12_note h 308 x1 (nI e) x3 = _
      simp only [f_X12_note, if_neg k, i1', q_308, yesEastR hS v he, noWestR hS z, aBind_some, if_neg n1, if_neg k3, if_true]
      split <;> rfl
  · refine fin ?_ ?_ ?_
    · simp only [f_X11_note, if_neg k, q_0, r_0_5 hS, r_11_1 hS, Option.bind_some, q_11, qst0 m19, yesEast m19 r v he, yesWest m19 r v hw, aBind_some, if_neg n1, if_neg k3, b_X11_note_48]
    · intro g Sg sg b
      have ye : f_X12_isEast g 308 (nI e) = some (1, g) := yesEastR Sg (by rw [sg]; exact v) (by rw [sg]; exact he)
      have yw : f_X12_isWest g 308 (nI w) = some (1, g) := yesWestR Sg (by rw [sg]; exact v) (by rw [sg]; exact hw)
      simp only [f_X12_note, if_neg k, i1', if_pos b, q_308, ye, yw, aBind_some, if_neg n1, if_neg k3]
    · intro b
      simp only [f_X12_note, if_neg k, i1', if_neg b, aBind_some, if_true]
