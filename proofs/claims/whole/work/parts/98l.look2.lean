theorem up_i : ∀ R, R < 7 → ∀ i, i ≤ R → ¬ nI R ≤ nI i - 1 ∧ nI i - 1 + 1 = nI (i + 1) - 1 := by decide +kernel
theorem lookC {h : aH} (hV : Inv h) {R : Nat} (l6 : R ≤ 6) (hR : hI h 308 2 = nI R) (r : RSt h 12 (beginOf (hI h 318))) {m : Nat} (b : NtB (hI h 318) m) (c : NtC h (hI h 318) m) {n : Nat} (hn : n ≤ 30) (x2 : Int32) :
    ∃ h1 h', f_X4_startLook h 57 = some ((), h1) ∧ f_X11_look_43 2000 h1 0 (nI n) x2 (-1) = some (if x2 = 0 then (lkW (alk (fun t => fitP h (rfN t) (beginOf (hI h 318)) m 31) (fun t e => passN h (rfN t) (beginOf (hI h 318)) (n + 1) (12 + 4 * e)) (R + 1)) (nE (hI h 318))).1 else (lkW (alk (fun t => fitP h (rfN t) (beginOf (hI h 318)) m 31) (fun t e => passN h (rfN t) (beginOf (hI h 318)) (n + 1) (12 + 4 * e)) (R + 1)) (nE (hI h 318))).2, h') ∧ Upd qC h h' := by
  have hS := hV.1
  have v : VS (hI h 318) := hV.2.2.2.1.2.1.1
  have r19 : RSt h 19 (hI h 318) := hV.2.2.2.1.1
  have v3 := v.e3
  have v0 : VS (beginOf (hI h 318)) := v.begin hV.2.2.2.1.2.1.2.1
  have b0 : NtB (beginOf (hI h 318)) m := b.of (fun j hj => beginOf_hi hj)
  have c0 : NtC h (beginOf (hI h 318)) m := c.of (fun j hj => beginOf_hi hj)
  have eR0 : hI h 0 4 = nI R := by rw [hV.2.2.1.1]; exact hR
  obtain ⟨B, eB⟩ : ∃ B : Nat → Bool, B = (fun t => fitP h (rfN t) (beginOf (hI h 318)) m 31) := ⟨_, rfl⟩
  have eB' : ∀ t, fitP h (rfN t) (beginOf (hI h 318)) m 31 = B t := fun t => by rw [eB]
  obtain ⟨V, eV⟩ : ∃ V : Nat → Nat → Int32, V = (fun t e => passN h (rfN t) (beginOf (hI h 318)) (n + 1) (12 + 4 * e)) := ⟨_, rfl⟩
  have eV' : ∀ t e, passN h (rfN t) (beginOf (hI h 318)) (n + 1) (12 + 4 * e) = V t e := fun t e => by rw [eV]
  rw [← eB, ← eV]
  obtain ⟨h1, e1⟩ : ∃ h1, h1 = pI h 57 3 0 := ⟨_, rfl⟩
  have u1 : Upd qC h h1 := by rw [e1]; exact Upd.pI (by unfold qC; omega)
  have f1 : f_X4_startLook h 57 = some ((), h1) := by simp only [f_X4_startLook, q_57, aLet, ← e1]
  have lq : ∀ c, lC c → qC c := fun c hc => by unfold lC pC stA at hc; unfold qC; omega
  have key : ∃ h', f_X11_look_43 2000 h1 0 (nI n) x2 (nI 0 - 1) = some (if x2 = 0 then (lkW (alk B V (R + 1)) (nE (hI h 318))).1 else (lkW (alk B V (R + 1)) (nE (hI h 318))).2, h') ∧ Upd qC h h' := by
    refine itLoop (σ := aH × Int32) (fun k s => f_X11_look_43 k s.1 0 (nI n) x2 s.2) (fun i s => s = (s.1, nI i - 1) ∧ hI s.1 57 3 = nI (cIx B i).1 ∧ (∀ j, j < (cIx B i).1 → ∀ e, e < 4 → hI s.1 65 (4 * j + e) = V ((cIx B i).2 j) e) ∧ Upd qC h s.1)
      (fun o => ∃ h', o = some (if x2 = 0 then (lkW (alk B V (R + 1)) (nE (hI h 318))).1 else (lkW (alk B V (R + 1)) (nE (hI h 318))).2, h') ∧ Upd qC h h') (R + 1) ?_ ?_ 2000 0 (h1, nI 0 - 1) ⟨rfl, by rw [e1, hI_eq, upd_at]; rfl, fun j hj => absurd hj (Nat.not_lt_zero j), u1⟩ (by omega) (by omega)
    · rintro k i s hi ⟨es, a3, aw, u⟩
      have Ss := u.str hS
      have o : ∀ b, ¬ qC b → hI s.1 b = hI h b := fun b hb => u.2.2.1 b hb
      obtain ⟨q1, q2⟩ := up_i R (by omega) i (by omega)
      obtain ⟨rk, ri⟩ := rfN_ok hV hR l6 (r := i) (by omega)
      have cl : (cIx B i).1 ≤ i := cIx_le i
      obtain ⟨h2, f2, b3, b65, u2⟩ := addLook Ss (r.up u (fun b p q => by unfold qC; omega)) v0 (YR.begin _) rk (fun b p q => o b (by unfold qC; omega)) b0 (by
        unfold NtC
        rw [o 11 (by unfold qC; omega), o 26 (by unfold qC; omega), o 27 (by unfold qC; omega), o 28 (by unfold qC; omega)]
        exact c0) (k := (cIx B i).1) (by omega) a3 hn
      rw [eB' i] at b3 b65
      have ro := ruleOf_eq Ss (f := rfN i) (fun k q => ⟨(ri k q).1, by rw [o 0 (by unfold qC; omega)]; exact (ri k q).2⟩)
      refine Or.inr ⟨(h2, nI (i + 1) - 1), ⟨rfl, ?_, ?_, u.tr (u2.mono lq)⟩, ?_⟩
      · show hI h2 57 3 = _
        rw [b3, cIx]
        cases B i with
        | true => rfl
        | false => rfl
      · intro j hj e he
        show hI h2 65 (4 * j + e) = _
        rw [b65]
        cases eb : B i with
        | false =>
          have c' : cIx B (i + 1) = cIx B i := by rw [cIx, if_neg (by rw [eb]; decide)]
          rw [c'] at hj ⊢
          rw [if_neg (by decide)]
          exact aw j hj e he
        | true =>
          have c' : cIx B (i + 1) = ((cIx B i).1 + 1, fun j => if j = (cIx B i).1 then i else (cIx B i).2 j) := by rw [cIx, if_pos eb]
          rw [c'] at hj ⊢
          rw [if_pos rfl]
          show w4 (hI s.1 65) (4 * (cIx B i).1) _ 4 (4 * j + e) = V (if j = (cIx B i).1 then i else (cIx B i).2 j) e
          have hj' : j < (cIx B i).1 + 1 := hj
          by_cases y : j = (cIx B i).1
          · rw [if_pos y, y, w4_in 4 e he]; exact eV' i e
          · rw [if_neg y, w4_out 4 (by omega)]; exact aw j (by omega) e he
      · rw [es]
        show b_X11_look_43 (f_X11_look_43 k) s.1 0 (nI n) x2 (nI i - 1) = _
        have e4 : hI s.1 0 4 = nI R := by rw [o 0 (by unfold qC; omega)]; exact eR0
        simp only [b_X11_look_43, q_0, e4, if_neg q1, r_0_14 Ss, r_0_5 Ss, Option.bind_some, q2]
        rw [rfN_i i (by omega), ro]
        simp only [aBind_some, q_57, f2]
    · rintro k s ⟨es, a3, aw, u⟩
      have Ss := u.str hS
      have o : ∀ b, ¬ qC b → hI s.1 b = hI h b := fun b hb => u.2.2.1 b hb
      have cl : (cIx B (R + 1)).1 ≤ R + 1 := cIx_le (R + 1)
      have e4 : hI s.1 0 4 = nI R := by rw [o 0 (by unfold qC; omega)]; exact eR0
      have q1 : nI R ≤ nI (R + 1) - 1 := by rw [nI_pred]; exact Int32.le_refl _
      obtain ⟨h2, f2, d7, d8, u2⟩ := chooseC Ss (C := (cIx B (R + 1)).1) (E := nE (hI h 318)) (by omega) v3.2 a3 (M := alk B V (R + 1)) (fun e => by have : alk B V (R + 1) e ≤ R + 1 := alk_le; omega) (fun g' hg Sg g3 e he => by
        rw [alk_ix]
        exact mostC Sg (by omega) he g3 (fun j hj => by rw [hg]; exact aw j hj e he)) (fun e => alk_0)
      have S2 := u2.str Ss
      have e3 : hI s.1 19 3 = nI (nE (hI h 318)) := by rw [o 19 (by unfold qC; omega), r19.s3, v3.1]
      refine ⟨h2, ?_, u.tr (u2.mono (fun c hc => by unfold qC; omega))⟩
      rw [es]
      show b_X11_look_43 (f_X11_look_43 k) s.1 0 (nI n) x2 (nI (R + 1) - 1) = _
      simp only [b_X11_look_43, q_0, e4, if_pos q1, r_0_14 Ss, r_0_5 Ss, Option.bind_some, q_11, r_11_1 Ss, qst0 m19, e3, q_57, f2, aBind_some, r_0_14 S2, d7, d8]
      split <;> rfl
  obtain ⟨h', f', u'⟩ := key
  exact ⟨h1, h', f1, f', u'⟩
theorem op_look : Op_look Inv := by
  intro h hV x1 x2
  have hS := hV.1
  have r : RSt h 19 (hI h 318) := hV.2.2.2.1.1
  have v : VS (hI h 318) := hV.2.2.2.1.2.1.1
  have n1 : ¬ (1 : Int32) = 0 := by decide
  have i1' : ∀ g, f_X12_in g x1.toInt64 0 30 = some (if 0 ≤ x1 ∧ x1 ≤ 30 then 1 else 0, g) := fun g => in_i (h := g) x1 0 30 (by decide) (by decide)
  have i2' : ∀ g, f_X12_in g x2.toInt64 0 1 = some (if 0 ≤ x2 ∧ x2 ≤ 1 then 1 else 0, g) := fun g => in_i (h := g) x2 0 1 (by decide) (by decide)
  rcases v.1 with z | z
  · refine ⟨-1, h, h, ?_, ?_, hV⟩
    · show f_X11_look h 0 x1 x2 = _
      simp only [f_X11_look, q_0, r_0_5 hS, r_11_1 hS, Option.bind_some, q_11, qst0 m19, r.s0, z, if_true]
    · show f_X12_look h 308 x1 x2 = _
      simp only [f_X12_look, q_308, isIsle_eq hS v, z, aBind_some, if_true]
  by_cases b1' : 0 ≤ x1 ∧ x1 ≤ 30
  · by_cases b2' : 0 ≤ x2 ∧ x2 ≤ 1
    · obtain ⟨R, l6, eR⟩ := btw_nI hV.2.2.1.2.1 (m := 6) (by decide)
      obtain ⟨n, hn, en⟩ := btw_nI (M := 30) (m := 30) b1' (by decide)
      obtain ⟨m, nb, nc⟩ := hV.nt
      obtain ⟨h0, h1, f0, f1, u1⟩ := lookC hV l6 eR (hV.2.2.2.1.2.2.1.1 z) nb nc hn x2
      have S1 := u1.str hS
      have o1 : ∀ b, ¬ qC b → hI h1 b = hI h b := fun b hb => u1.2.2.1 b hb
      have s18 : hI h1 318 = hI h 318 := o1 318 (by unfold qC; omega)
      have o8 : hI h1 308 = hI h 308 := o1 308 (by unfold qC; omega)
      obtain ⟨g, fg, a1, a2, a3, a4, ug, kg⟩ := fills_eq (th := some n) hV S1 v hV.2.2.2.1.2.1.2.1 s18 l6 (by rw [o8]; exact eR) eR (fun b p q => o1 b (by unfold qC; omega)) (by rw [o8]; exact hV.2.2.2.2.2.2.2) nb (fun t q => by cases q; omega)
      have Sg := ug.str S1
      have e2 : hI g 308 2 = nI R := by rw [kg 2 (by decide), o8]; exact eR
      have lr := lookR Sg a3 v l6 (B := fun t => fitP h (rfN t) (beginOf (hI h 318)) m 31) (V := fun t e => passN h (rfN t) (beginOf (hI h 318)) (n + 1) (12 + 4 * e)) e2 a1 (fun e he r hr => a2 n rfl r hr e he) x2
      refine ⟨if x2 = 0 then (lkW (alk (fun t => fitP h (rfN t) (beginOf (hI h 318)) m 31) (fun t e => passN h (rfN t) (beginOf (hI h 318)) (n + 1) (12 + 4 * e)) (R + 1)) (nE (hI h 318))).1 else (lkW (alk (fun t => fitP h (rfN t) (beginOf (hI h 318)) m 31) (fun t e => passN h (rfN t) (beginOf (hI h 318)) (n + 1) (12 + 4 * e)) (R + 1)) (nE (hI h 318))).2, h1, g, ?_, ?_, ?_⟩
      · show f_X11_look h 0 x1 x2 = _
        simp only [f_X11_look, q_0, r_0_5 hS, r_11_1 hS, r_0_14 hS, Option.bind_some, q_11, q_57, qst0 m19, r.s0, z, if_neg n1, if_neg (Int32.not_lt.mpr b1'.1), if_neg (Int32.not_lt.mpr b1'.2), if_neg (Int32.not_lt.mpr b2'.1), if_pos b2'.2, f0, aBind_some]
        rw [en, f1]
      · have ii := isIsle_eq S1 (by rw [s18]; exact v)
        rw [s18, z] at ii
        have fg' : f_X12_fillsFits h1 308 x1 = some ((), g) := by rw [en]; exact fg
        show f_X12_look h1 308 x1 x2 = _
        simp only [f_X12_look, q_308, ii, aBind_some, if_neg n1, i1', if_pos b1', i2', if_pos b2', fg']
        rw [lr]
      · refine hV.query ((u1.mono (fun b hb => by unfold qC at hb; unfold Sq; omega)).tr (ug.mono (fun b hb => by unfold Sq; omega))) (by rw [a3]) (fun j hj => ?_)
        rw [kg j (by unfold keyE at hj; omega), o8]
    · refine ⟨-1, h, h, ?_, ?_, hV⟩
      · show f_X11_look h 0 x1 x2 = _
        simp only [f_X11_look, q_0, r_0_5 hS, r_11_1 hS, Option.bind_some, q_11, qst0 m19, r.s0, z, if_neg n1, if_neg (Int32.not_lt.mpr b1'.1), if_neg (Int32.not_lt.mpr b1'.2)]
        by_cases c : x2 < 0
        · rw [if_pos c]
        · rw [if_neg c, if_neg (fun q => b2' ⟨Int32.not_lt.mp c, q⟩)]
      · show f_X12_look h 308 x1 x2 = _
        simp only [f_X12_look, q_308, isIsle_eq hS v, z, aBind_some, if_neg n1, i1', if_pos b1', i2', if_neg b2', if_true]
  · refine ⟨-1, h, h, ?_, ?_, hV⟩
    · show f_X11_look h 0 x1 x2 = _
      simp only [f_X11_look, q_0, r_0_5 hS, r_11_1 hS, Option.bind_some, q_11, qst0 m19, r.s0, z, if_neg n1]
      by_cases c : x1 < 0
      · rw [if_pos c]
      · rw [if_neg c, if_pos (by rcases Int32.lt_or_le 30 x1 with y | y; exact y; exact absurd ⟨Int32.not_lt.mp c, y⟩ b1')]
    · show f_X12_look h 308 x1 x2 = _
      simp only [f_X12_look, q_308, isIsle_eq hS v, z, aBind_some, if_neg n1, i1', if_neg b1', if_true]
