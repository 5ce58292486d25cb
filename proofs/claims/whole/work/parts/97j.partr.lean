/-! ===== at a fair: those who part, in the reference ===== -/
def RX (h h' : aH) : Prop := Upd (fun c => c = 308 ∨ (314 ≤ c ∧ c ≤ 322)) h h' ∧ ∀ j, j ≠ 18 → hI h' 308 j = hI h 308 j
theorem RX.tr {a b c : aH} (x : RX a b) (y : RX b c) : RX a c := ⟨x.1.tr y.1, fun j hj => (y.2 j hj).trans (x.2 j hj)⟩
theorem RX.rf (a : aH) : RX a a := ⟨Upd.rf a, fun _ _ => rfl⟩
theorem RV.rx {a b : aH} (x : RV a b) : RX a b := ⟨x.1.mono (fun c hc => by omega), x.2⟩
theorem RX.wI {h : aH} {c : Nat} {f : Row} (hc : 314 ≤ c ∧ c ≤ 322) : RX h (wI h c f) := ⟨Upd.wI (Or.inr hc), fun j _ => by rw [hI_wI_ne _ _ (by omega)]⟩
theorem RX.pI {h : aH} {c i : Nat} {x : Int32} (hc : 314 ≤ c ∧ c ≤ 322) : RX h (pI h c i x) := RX.wI hc
theorem RX.str {a b : aH} (x : RX a b) (s : Str a) : Str b := x.1.str s
theorem RX.o {a b : aH} (x : RX a b) {c : Nat} (h1 : c ≠ 308) (h2 : ¬ (314 ≤ c ∧ c ≤ 322)) : hI b c = hI a c := x.1.2.2.1 c (by omega)
theorem was_loop {h : aH} (hS : Str h) {S : Row} (eS : hI h 318 = S) (v : VS S) : ∃ h', f_X12_passes_11 2000 h 308 0 = f_X12_passes_42 2000 h' 308 0 ∧ hI h' 318 = S ∧ (∀ e, e < nE S → hI h' 319 e = S (12 + 4 * e)) ∧ Upd (fun c => c = 319) h h' := by
  have e3 := v.e3
  refine itLoop (σ := aH × Int32) (fun n s => f_X12_passes_11 n s.1 308 s.2)
    (fun i s => s = (s.1, nI i) ∧ (∀ e, e < i → hI s.1 319 e = S (12 + 4 * e)) ∧ Upd (fun c => c = 319) h s.1)
    (fun o => ∃ h', o = f_X12_passes_42 2000 h' 308 0 ∧ hI h' 318 = S ∧ (∀ e, e < nE S → hI h' 319 e = S (12 + 4 * e)) ∧ Upd (fun c => c = 319) h h') (nE S) ?_ ?_ 2000 0 (h, 0) ?_ (by omega) (by omega)
  · rintro m i s hi ⟨es, bi, u⟩
    have S1 := u.str hS
    have s18 : hI s.1 318 = S := by rw [u.2.2.1 318 (by decide), eS]
    have c3 : ¬ nI (nE S) ≤ nI i := nI_ge hi (by omega)
    have wr := withR0 S1 (show i < 4 by omega)
    rw [s18] at wr
    refine Or.inr ⟨(pI s.1 319 i (S (12 + 4 * i)), nI (i + 1)), ⟨rfl, fun e he => ?_, u.tr (Upd.pI rfl)⟩, ?_⟩
    · show hI (pI s.1 319 i (S (12 + 4 * i))) 319 e = _
      rw [hI_eq]
      by_cases c : e = i
      · rw [c, upd_at]
      · rw [upd_ne _ _ c]; exact bi e (by omega)
    · rw [es]
      show b_X12_passes_11 (f_X12_passes_11 m) s.1 308 (nI i) = _
      simp only [b_X12_passes_11, q_308, r_308_20 S1, r_308_24 S1, Option.bind_some, q_318, if_pos in3, cl3, s18, e3.1, if_neg c3, wr, aBind_some, q_319, if_pos (in319 (show i < 4 by omega)), aLet, nI_clamp (show i < 2 ^ 31 by omega), i1]
  · rintro m s ⟨es, bi, u⟩
    have S1 := u.str hS
    have s18 : hI s.1 318 = S := by rw [u.2.2.1 318 (by decide), eS]
    refine ⟨s.1, ?_, s18, bi, u⟩
    rw [es]
    show b_X12_passes_11 (f_X12_passes_11 m) s.1 308 (nI (nE S)) = _
    simp only [b_X12_passes_11, q_308, r_308_20 S1, Option.bind_some, q_318, if_pos in3, cl3, s18, e3.1, if_pos (Int32.le_refl (nI (nE S)))]
  · exact ⟨rfl, fun e he => by omega, Upd.rf h⟩
theorem partsR {h h0 : aH} (hS : Str h) {S : Row} (eS : hI h 318 = S) (v : VS S) {f : Option Nat} (ok : RlOK h0 f) (eF : hI h 308 21 = frI f) (eC : ∀ b, 310 ≤ b → b ≤ 313 → hI h b = hI h0 b) :
    ∃ h', f_X12_passes_11 2000 h 308 0 = aBind (f_X12_joinsAll h' 308) (fun r24 h25 => b_X12_passes_111 h25 308 r24) ∧ hI h' 318 = partA h0 f S (nE S) ∧ (∀ e, e < nE S → hI h' 319 e = S (12 + 4 * e)) ∧ RX h h' := by
  have e3 := v.e3
  obtain ⟨g0, fg0, sg0, bg0, ug0⟩ := was_loop hS eS v
  rw [fg0]
  have x0 : RX h g0 := ⟨ug0.mono (fun c hc => by omega), fun j _ => by rw [ug0.2.2.1 308 (by decide)]⟩
  refine itLoop (σ := aH × Int32) (fun n s => f_X12_passes_42 n s.1 308 s.2)
    (fun i s => s = (s.1, nI i) ∧ hI s.1 318 = partA h0 f S i ∧ (∀ e, e < nE S → hI s.1 319 e = S (12 + 4 * e)) ∧ RX h s.1)
    (fun o => ∃ h', o = aBind (f_X12_joinsAll h' 308) (fun r24 h25 => b_X12_passes_111 h25 308 r24) ∧ hI h' 318 = partA h0 f S (nE S) ∧ (∀ e, e < nE S → hI h' 319 e = S (12 + 4 * e)) ∧ RX h h') (nE S) ?_ ?_ 2000 0 (g0, 0) ⟨rfl, sg0, bg0, x0⟩ (by omega) (by omega)
  · rintro m i s hi ⟨es, si, bi, x⟩
    obtain ⟨vi, oi, pi⟩ := partA_i (h0 := h0) (f := f) v (i := i) (by omega)
    have S1 := x.str hS
    have hi4 : i < 4 := by omega
    have c3 : ¬ nI (nE S) ≤ nI i := nI_ge hi (by omega)
    have p3 : partA h0 f S i 3 = nI (nE S) := by rw [oi 3 (by omega), e3.1]
    have pS : partA h0 f S i (12 + 4 * i) = S (12 + 4 * i) := pi i hi4 (by omega)
    have n3 : nE (partA h0 f S i) = nE S := nE_of (oi 3 (by omega))
    have fr := isFreeR0 S1 hi4
    rw [si, pS] at fr
    have n1 : ¬ (1 : Int32) = 0 := by decide
    by_cases q : S (12 + 4 * i) < 0
    · rw [if_pos q] at fr
      refine Or.inr ⟨(s.1, nI (i + 1)), ⟨rfl, ?_, bi, x⟩, ?_⟩
      · rw [partA, partE, if_pos (by rw [pS]; exact q)]; exact si
      · rw [es]
        show b_X12_passes_42 (f_X12_passes_42 m) s.1 308 (nI i) = _
        simp only [b_X12_passes_42, q_308, r_308_20 S1, Option.bind_some, q_318, if_pos in3, cl3, si, p3, if_neg c3, fr, aBind_some, if_neg n1, b_X12_passes_100, i1]
    · rw [if_neg q] at fr
      have q' : ¬ partA h0 f S i (12 + 4 * i) < 0 := by rw [pS]; exact q
      obtain ⟨w, hw, pe, pw, py⟩ := with_e vi (by rw [n3]; exact hi) q'
      have hw4 : w < 4 := by have := vi.e4.2; omega
      have ew : wOf (partA h0 f S i) i = w := by unfold wOf; rw [pe, nI_clamp (by omega)]
      have ec : ∀ g, RX h g → ∀ b, 310 ≤ b → b ≤ 313 → hI g b = hI h0 b := fun g xg b p q => by rw [xg.o (by omega) (by omega), eC b p q]
      have ef : ∀ g, RX h g → hI g 308 21 = frI f := fun g xg => by rw [xg.2 21 (by decide), eF]
      obtain ⟨g1, f1, v1⟩ := staysR0 S1 si vi ok (ef _ x) (ec _ x) hi4 hw4 pe py
      have x1 : RX h g1 := x.tr v1.rx
      have S2 := x1.str hS
      have s1 : hI g1 318 = partA h0 f S i := by rw [v1.1.2.2.1 318 (by decide), si]
      have wr := withR0 S2 hi4
      rw [s1, pe] at wr
      obtain ⟨g2, f2, v2⟩ := staysR1 S2 s1 vi ok (ef _ x1) (ec _ x1) hi4 hw4 pw py
      have x2 : RX h g2 := x1.tr v2.rx
      have S3 := x2.str hS
      have s2 : hI g2 318 = partA h0 f S i := by rw [v2.1.2.2.1 318 (by decide), s1]
      have b2 : ∀ e, e < nE S → hI g2 319 e = S (12 + 4 * e) := fun e he => by rw [v2.1.2.2.1 319 (by decide), v1.1.2.2.1 319 (by decide)]; exact bi e he
      have hd : f_X12_passes_42 (m + 1) s.1 308 s.2 = if bB (stay0 h0 f (partA h0 f S i) i w) = 0 then b_X12_passes_94 (f_X12_passes_42 m) g2 308 (nI i) else if bB (stay1 h0 f (partA h0 f S i) i w) = 0 then b_X12_passes_94 (f_X12_passes_42 m) g2 308 (nI i) else b_X12_passes_100 (f_X12_passes_42 m) g2 308 (nI i) := by
        rw [es]
        show b_X12_passes_42 (f_X12_passes_42 m) s.1 308 (nI i) = _
        simp only [b_X12_passes_42, q_308, r_308_20 S1, Option.bind_some, q_318, if_pos in3, cl3, si, p3, if_neg c3, fr, aBind_some, if_true, f1, wr, f2]
      have fin : (stay0 h0 f (partA h0 f S i) i w && stay1 h0 f (partA h0 f S i) i w) = false → ∃ s' : aH × Int32, (s' = (s'.1, nI (i + 1)) ∧ hI s'.1 318 = partA h0 f S (i + 1) ∧ (∀ e, e < nE S → hI s'.1 319 e = S (12 + 4 * e)) ∧ RX h s'.1) ∧ b_X12_passes_94 (f_X12_passes_42 m) g2 308 (nI i) = f_X12_passes_42 m s'.1 308 s'.2 := fun hst => by
        have pf := partsFrom_eq S3 hi4 hw4 (by rw [s2]; exact pe)
        rw [s2] at pf
        refine ⟨(wI g2 318 (partT (partA h0 f S i) i w), nI (i + 1)), ⟨rfl, ?_, fun e he => ?_, x2.tr (RX.wI (by omega))⟩, ?_⟩
        · rw [partA, partE, if_neg q', ew, if_neg (by rw [hst]; decide)]; exact hI_wI_eq _ _ _
        · show hI (wI g2 318 _) 319 e = _
          rw [hI_wI_ne _ _ (by decide)]; exact b2 e he
        · simp only [b_X12_passes_94, q_308, pf, aBind_some, b_X12_passes_100, i1]
      cases c0 : stay0 h0 f (partA h0 f S i) i w with
      | false =>
        obtain ⟨s', p1, p2⟩ := fin (by rw [c0]; rfl)
        refine Or.inr ⟨s', p1, ?_⟩
        rw [hd, c0, ← p2]; rfl
      | true =>
        cases c1 : stay1 h0 f (partA h0 f S i) i w with
        | false =>
          obtain ⟨s', p1, p2⟩ := fin (by rw [c0, c1]; rfl)
          refine Or.inr ⟨s', p1, ?_⟩
          rw [hd, c0, c1, ← p2]; rfl
        | true =>
          refine Or.inr ⟨(g2, nI (i + 1)), ⟨rfl, ?_, b2, x2⟩, ?_⟩
          · rw [partA, partE, if_neg q', ew, if_pos (by rw [c0, c1]; rfl)]; exact s2
          · rw [hd, c0, c1, ← i1]; rfl
  · rintro m s ⟨es, si, bi, x⟩
    have S1 := x.str hS
    have oi := (partA_i (h0 := h0) (f := f) v (i := nE S) (by omega)).2.1
    have p3 : partA h0 f S (nE S) 3 = nI (nE S) := by rw [oi 3 (by omega), e3.1]
    refine ⟨s.1, ?_, si, bi, x⟩
    rw [es]
    show b_X12_passes_42 (f_X12_passes_42 m) s.1 308 (nI (nE S)) = _
    simp only [b_X12_passes_42, q_308, r_308_20 S1, Option.bind_some, q_318, if_pos in3, cl3, si, p3, if_pos (Int32.le_refl (nI (nE S)))]
