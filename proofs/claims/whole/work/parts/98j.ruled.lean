/-! ===== ruled ===== -/
def rdI (B : Nat → Bool) (R : Nat) : Nat → Int32 × Int32
  | 0 => (0, -2)
  | i + 1 => if B (R - i) = true then ((rdI B R i).1 + 1, frI (rfN (R - i))) else rdI B R i
theorem dn_c : ∀ t, t < 8 → nI (t + 1) - 2 + (-1) = nI t - 2 ∧ nI (t + 1) - 2 = frI (rfN t) ∧ ¬ nI (t + 1) - 2 < -1 := by decide +kernel
theorem dn_r : ∀ t, t < 8 → nI (t + 1) - 1 + (-1) = nI t - 1 ∧ nI (t + 1) - 1 = nI t := by decide +kernel
theorem qC58 : ∀ c, pC 58 c → qC c := fun c hc => by unfold pC stA at hc; unfold qC; omega
theorem ruledC {h : aH} (hV : Inv h) {R : Nat} (l6 : R ≤ 6) (hR : hI h 308 2 = nI R) (r : RSt h 12 (beginOf (hI h 318))) {m : Nat} (b : NtB (hI h 318) m) (c : NtC h (hI h 318) m) (x1 : Int32) :
    ∃ h', f_X11_ruled_38 2000 h 0 x1 0 (-2) (nI (R + 1) - 2) = some (if x1 = 0 then (rdI (fun t => fitP h (rfN t) (beginOf (hI h 318)) m 31) R (R + 1)).1 else (rdI (fun t => fitP h (rfN t) (beginOf (hI h 318)) m 31) R (R + 1)).2, h') ∧ Upd qC h h' := by
  have hS := hV.1
  have v0 : VS (beginOf (hI h 318)) := hV.2.2.2.1.2.1.1.begin hV.2.2.2.1.2.1.2.1
  have b0 : NtB (beginOf (hI h 318)) m := b.of (fun j hj => beginOf_hi hj)
  have c0 : NtC h (beginOf (hI h 318)) m := c.of (fun j hj => beginOf_hi hj)
  obtain ⟨B, eB⟩ : ∃ B : Nat → Bool, B = (fun t => fitP h (rfN t) (beginOf (hI h 318)) m 31) := ⟨_, rfl⟩
  have eB' : ∀ t, fitP h (rfN t) (beginOf (hI h 318)) m 31 = B t := fun t => by rw [eB]
  rw [← eB]
  refine itLoop (σ := aH × (Int32 × Int32) × Int32) (fun k s => f_X11_ruled_38 k s.1 0 x1 s.2.1.1 s.2.1.2 s.2.2) (fun i s => s = (s.1, rdI B R i, nI (R + 1 - i) - 2) ∧ Upd qC h s.1)
    (fun o => ∃ h', o = some (if x1 = 0 then (rdI B R (R + 1)).1 else (rdI B R (R + 1)).2, h') ∧ Upd qC h h') (R + 1) ?_ ?_ 2000 0 (h, (0, -2), nI (R + 1) - 2) ⟨rfl, Upd.rf h⟩ (by omega) (by omega)
  · rintro k i s hi ⟨es, u⟩
    have Ss := u.str hS
    obtain ⟨t, et⟩ : ∃ t, t = R - i := ⟨_, rfl⟩
    have e1 : R + 1 - i = t + 1 := by omega
    have e2 : R + 1 - (i + 1) = t := by omega
    obtain ⟨d1, d2, d3⟩ := dn_c t (by omega)
    obtain ⟨rk, ri⟩ := rfN_ok hV hR l6 (r := t) (by omega)
    have o : ∀ b, ¬ qC b → hI s.1 b = hI h b := fun b hb => u.2.2.1 b hb
    have rt : RSt s.1 12 (beginOf (hI h 318)) := r.up u (fun b p q => by unfold qC; omega)
    obtain ⟨h2, f2, u2⟩ := fits_eq Ss rt v0 (YR.begin _) rk (fun b p q => o b (by unfold qC; omega)) b0 (by
      unfold NtC
      rw [o 11 (by unfold qC; omega), o 26 (by unfold qC; omega), o 27 (by unfold qC; omega), o 28 (by unfold qC; omega)]
      exact c0)
    rw [eB' t] at f2
    have ro := ruleOf_eq Ss (f := rfN t) (fun k q => ⟨(ri k q).1, by rw [o 0 (by unfold qC; omega)]; exact (ri k q).2⟩)
    refine Or.inr ⟨(h2, rdI B R (i + 1), nI (R + 1 - (i + 1)) - 2), ⟨rfl, u.tr (u2.mono qC58)⟩, ?_⟩
    rw [es, e1, e2]
    show b_X11_ruled_38 (f_X11_ruled_38 k) s.1 0 x1 (rdI B R i).1 (rdI B R i).2 (nI (t + 1) - 2) = f_X11_ruled_38 k h2 0 x1 (rdI B R (i + 1)).1 (rdI B R (i + 1)).2 (nI t - 2)
    rw [rdI, ← et]
    have d2' := d2
    simp only [b_X11_ruled_38, if_neg d3, q_0, r_0_14 Ss, r_0_5 Ss, Option.bind_some, b_X11_ruled_70, d1]
    rw [d2, ro]
    simp only [aBind_some, q_57, f2, bB_0]
    cases B t with
    | true => rfl
    | false => rfl
  · rintro k s ⟨es, u⟩
    refine ⟨s.1, ?_, u⟩
    rw [es, Nat.sub_self]
    show b_X11_ruled_38 (f_X11_ruled_38 k) s.1 0 x1 (rdI B R (R + 1)).1 (rdI B R (R + 1)).2 (nI 0 - 2) = _
    simp only [b_X11_ruled_38, if_pos (show nI 0 - 2 < -1 by decide)]
    split <;> rfl
theorem ruledR {g : aH} (hS : Str g) {R : Nat} (l6 : R ≤ 6) {B : Nat → Bool} (f : ∀ r, r ≤ R → hI g 327 r = bB (B r)) (x1 : Int32) :
    f_X12_ruled_36 2000 g 308 x1 0 (-2) (nI R) = some (if x1 = 0 then (rdI B R (R + 1)).1 else (rdI B R (R + 1)).2, g) := by
  have st : nI R = nI (R + 1) - 1 := ((dn_r R (by omega)).2).symm
  rw [st]
  refine itLoop (σ := (Int32 × Int32) × Int32) (fun k s => f_X12_ruled_36 k g 308 x1 s.1.1 s.1.2 s.2) (fun i s => s = (rdI B R i, nI (R + 1 - i) - 1))
    (fun o => o = some (if x1 = 0 then (rdI B R (R + 1)).1 else (rdI B R (R + 1)).2, g)) (R + 1) ?_ ?_ 2000 0 ((0, -2), nI (R + 1) - 1) rfl (by omega) (by omega)
  · rintro k i _ hi rfl
    obtain ⟨t, et⟩ : ∃ t, t = R - i := ⟨_, rfl⟩
    have e1 : R + 1 - i = t + 1 := by omega
    have e2 : R + 1 - (i + 1) = t := by omega
    obtain ⟨d1, d2⟩ := dn_r t (by omega)
    have q : ¬ nI t < 0 := nI_pos (by omega)
    have ft := f t (by omega)
    have m1 := rfN_i t (by omega)
    refine Or.inr ⟨_, rfl, ?_⟩
    show f_X12_ruled_36 (k + 1) g 308 x1 (rdI B R i).1 (rdI B R i).2 (nI (R + 1 - i) - 1) = f_X12_ruled_36 k g 308 x1 (rdI B R (i + 1)).1 (rdI B R (i + 1)).2 (nI (R + 1 - (i + 1)) - 1)
    rw [e1, e2, rdI, ← et, ← d1, d2]
    show b_X12_ruled_36 (f_X12_ruled_36 k) g 308 x1 (rdI B R i).1 (rdI B R i).2 (nI t) = _
    simp only [b_X12_ruled_36, if_neg q, q_308, r_308_33 hS, Option.bind_some, q_327, if_pos (in327 (show t < 7 by omega)), nI_clamp (show t < 2 ^ 31 by omega), ft, bB_0, b_X12_ruled_62, aLet, m1]
    cases B t with
    | true => rfl
    | false => rfl
  · rintro k _ rfl
    show f_X12_ruled_36 (k + 1) g 308 x1 (rdI B R (R + 1)).1 (rdI B R (R + 1)).2 (nI (R + 1 - (R + 1)) - 1) = _
    rw [Nat.sub_self]
    show b_X12_ruled_36 (f_X12_ruled_36 k) g 308 x1 (rdI B R (R + 1)).1 (rdI B R (R + 1)).2 (nI 0 - 1) = _
    simp only [b_X12_ruled_36, if_pos (show nI 0 - 1 < 0 by decide)]
    split <;> rfl
theorem m_2 : ∀ R, R < 7 → nI R - 1 = nI (R + 1) - 2 := by decide +kernel
theorem op_ruled : Op_ruled Inv := by
  intro h hV x1
  have hS := hV.1
  have r : RSt h 19 (hI h 318) := hV.2.2.2.1.1
  have v : VS (hI h 318) := hV.2.2.2.1.2.1.1
  have n1 : ¬ (1 : Int32) = 0 := by decide
  have i1' : ∀ g, f_X12_in g x1.toInt64 0 1 = some (if 0 ≤ x1 ∧ x1 ≤ 1 then 1 else 0, g) := fun g => in_i (h := g) x1 0 1 (by decide) (by decide)
  rcases v.1 with z | z
  · refine ⟨-3, h, h, ?_, ?_, hV⟩
    · show f_X11_ruled h 0 x1 = _
      simp only [f_X11_ruled, q_0, r_0_5 hS, r_11_1 hS, Option.bind_some, q_11, qst0 m19, r.s0, z, if_true]
    · show f_X12_ruled h 308 x1 = _
      simp only [f_X12_ruled, q_308, isIsle_eq hS v, z, aBind_some, if_true]
  by_cases b : 0 ≤ x1 ∧ x1 ≤ 1
  · obtain ⟨R, l6, eR⟩ := btw_nI hV.2.2.1.2.1 (m := 6) (by decide)
    have eR0 : hI h 0 4 = nI R := by rw [hV.2.2.1.1]; exact eR
    obtain ⟨m, nb, nc⟩ := hV.nt
    obtain ⟨h1, f1, u1⟩ := ruledC hV l6 eR (hV.2.2.2.1.2.2.1.1 z) nb nc x1
    have S1 := u1.str hS
    have o1 : ∀ b, ¬ qC b → hI h1 b = hI h b := fun b hb => u1.2.2.1 b hb
    have s18 : hI h1 318 = hI h 318 := o1 318 (by unfold qC; omega)
    have o8 : hI h1 308 = hI h 308 := o1 308 (by unfold qC; omega)
    obtain ⟨g, fg, a1, a2, a3, a4, ug, kg⟩ := fills_eq (th := some 0) hV S1 v hV.2.2.2.1.2.1.2.1 s18 l6 (by rw [o8]; exact eR) eR (fun b p q => o1 b (by unfold qC; omega)) (by rw [o8]; exact hV.2.2.2.2.2.2.2) nb (fun t q => by cases q; omega)
    have Sg := ug.str S1
    refine ⟨if x1 = 0 then (rdI (fun t => fitP h (rfN t) (beginOf (hI h 318)) m 31) R (R + 1)).1 else (rdI (fun t => fitP h (rfN t) (beginOf (hI h 318)) m 31) R (R + 1)).2, h1, g, ?_, ?_, ?_⟩
    · show f_X11_ruled h 0 x1 = _
      simp only [f_X11_ruled, q_0, r_0_5 hS, r_11_1 hS, Option.bind_some, q_11, qst0 m19, r.s0, z, if_neg n1, if_neg (Int32.not_lt.mpr b.1), if_pos b.2, aLet, eR0]
      rw [m_2 R (by omega), f1]
    · have ii := isIsle_eq S1 (by rw [s18]; exact v)
      rw [s18, z] at ii
      have e2 : hI g 308 2 = nI R := by rw [kg 2 (by decide), o8]; exact eR
      have rr := ruledR Sg l6 (B := fun t => fitP h (rfN t) (beginOf (hI h 318)) m 31) a1 x1
      have fg' : f_X12_fillsFits h1 308 0 = some ((), g) := fg
      show f_X12_ruled h1 308 x1 = _
      simp only [f_X12_ruled, q_308, ii, aBind_some, if_neg n1, i1', if_pos b, fg', aLet, e2]
      rw [rr]
    · refine hV.query ((u1.mono (fun b hb => by unfold qC at hb; unfold Sq; omega)).tr (ug.mono (fun b hb => by unfold Sq; omega))) (by rw [a3]) (fun j hj => ?_)
      rw [kg j (by unfold keyE at hj; omega), o8]
  · refine ⟨-3, h, h, ?_, ?_, hV⟩
    · show f_X11_ruled h 0 x1 = _
      simp only [f_X11_ruled, q_0, r_0_5 hS, r_11_1 hS, Option.bind_some, q_11, qst0 m19, r.s0, z, if_neg n1]
      by_cases c : x1 < 0
      · rw [if_pos c]
      · rw [if_neg c, if_neg (fun q => b ⟨Int32.not_lt.mp c, q⟩)]
    · show f_X12_ruled h 308 x1 = _
      simp only [f_X12_ruled, q_308, isIsle_eq hS v, z, aBind_some, if_neg n1, i1', if_neg b, if_true]
