/-! ===== at a fair: those who part ===== -/
def wOf (S : Row) (e : Nat) : Nat := (S (12 + 4 * e)).toNatClampNeg
def partE (h0 : aH) (f : Option Nat) (S : Row) (e : Nat) : Row :=
  if S (12 + 4 * e) < 0 then S else if (stay0 h0 f S e (wOf S e) && stay1 h0 f S e (wOf S e)) = true then S else partT S e (wOf S e)
def partA (h0 : aH) (f : Option Nat) (S : Row) : Nat → Row
  | 0 => S
  | e + 1 => partE h0 f (partA h0 f S e) e
theorem partE_o {h0 : aH} {f : Option Nat} {S : Row} (v : VS S) {e : Nat} (he : e < nE S) {j : Nat} (hj : j < 11 ∨ 43 ≤ j) : partE h0 f S e j = S j := by
  unfold partE
  split
  · rfl
  · rename_i q
    split
    · rfl
    · obtain ⟨w, hw, pe, _⟩ := with_e v he q
      have e3 := v.e3.2
      have e4 := v.e4.2
      rw [show wOf S e = w by unfold wOf; rw [pe, nI_clamp (by omega)]]
      exact partT_o (by omega) (by omega) hj
theorem partE_p {h0 : aH} {f : Option Nat} {S : Row} (v : VS S) {e : Nat} (he : e < nE S) {e' : Nat} (h4 : e' < 4) (ne : e' ≠ e) : partE h0 f S e (12 + 4 * e') = S (12 + 4 * e') := by
  unfold partE
  split
  · rfl
  · rename_i q
    split
    · rfl
    · obtain ⟨w, hw, pe, _⟩ := with_e v he q
      have e3 := v.e3.2
      have e4 := v.e4.2
      rw [show wOf S e = w by unfold wOf; rw [pe, nI_clamp (by omega)], (partT_pe (by omega) (by omega) h4).1, if_neg ne]
theorem VS.pE {h0 : aH} {f : Option Nat} {S : Row} (v : VS S) {e : Nat} (he : e < nE S) : VS (partE h0 f S e) := by
  unfold partE
  split
  · exact v
  · rename_i q
    split
    · exact v
    · obtain ⟨w, hw, pe, pw, _⟩ := with_e v he q
      have e4 := v.e4.2
      rw [show wOf S e = w by unfold wOf; rw [pe, nI_clamp (by omega)]]
      exact v.part he hw pe pw
theorem partA_i {h0 : aH} {f : Option Nat} {S : Row} (v : VS S) : ∀ {i : Nat}, i ≤ nE S → VS (partA h0 f S i) ∧ (∀ j, j < 11 ∨ 43 ≤ j → partA h0 f S i j = S j) ∧ ∀ e, e < 4 → i ≤ e → partA h0 f S i (12 + 4 * e) = S (12 + 4 * e) := by
  intro i
  induction i with
  | zero => intro _; exact ⟨v, fun _ _ => rfl, fun _ _ _ => rfl⟩
  | succ i ih =>
    intro hi
    obtain ⟨a, b, c⟩ := ih (by omega)
    have n3 : nE (partA h0 f S i) = nE S := nE_of (b 3 (by omega))
    have he : i < nE (partA h0 f S i) := by rw [n3]; omega
    refine ⟨a.pE he, fun j hj => ?_, fun e he4 hie => ?_⟩
    · rw [partA, partE_o a he hj, b j hj]
    · rw [partA, partE_p a he he4 (by omega), c e he4 (by omega)]
theorem st_hall : ∀ a ∈ stL, a + 6 < 38 ∨ 45 < a := by decide +kernel
theorem in42 {k : Nat} (h : k < 4) : aIn (nI k) (sh 42).2 := by rw [sh_42]; exact vp_in_nI h (by decide)
theorem in43 {k : Nat} (h : k < 4) : aIn (nI k) (sh 43).2 := by rw [sh_43]; exact vp_in_nI h (by decide)
theorem in44 {k : Nat} (h : k < 4) : aIn (nI k) (sh 44).2 := by rw [sh_44]; exact vp_in_nI h (by decide)
theorem in319 {k : Nat} (h : k < 4) : aIn (nI k) (sh 319).2 := by rw [sh_319]; exact vp_in_nI h (by decide)
theorem in320 {k : Nat} (h : k < 4) : aIn (nI k) (sh 320).2 := by rw [sh_320]; exact vp_in_nI h (by decide)
theorem in321 {k : Nat} (h : k < 4) : aIn (nI k) (sh 321).2 := by rw [sh_321]; exact vp_in_nI h (by decide)
theorem in322 {k : Nat} (h : k < 4) : aIn (nI k) (sh 322).2 := by rw [sh_322]; exact vp_in_nI h (by decide)
/-- class cells that a fair changes beside the state -/
abbrev pC (a : Nat) : Nat → Prop := fun c => stA a c ∨ (40 ≤ c ∧ c ≤ 44)
theorem RSt.up {h h' : aH} {a : Nat} {S : Row} {A : Nat → Prop} (r : RSt h a S) (u : Upd A h h') (n : ∀ b, a ≤ b → b ≤ a + 6 → ¬ A b) : RSt h' a S :=
  r.mv (fun b p q => u.2.2.1 b (n b p q)) (u.2.2.2 a (n a (by omega) (by omega))) (fun _ _ => rfl)
theorem partThose_eq {h h0 : aH} (hS : Str h) {a : Nat} (ha : a ∈ stL) {S : Row} (r : RSt h a S) (v : VS S) {f : Option Nat} (ok : RlOK h0 f) (eC : ∀ b, 66 ≤ b → b ≤ 95 → hI h b = hI h0 b) (na : ∀ b, stA a b → ¬ (66 ≤ b ∧ b ≤ 95)) :
    ∃ h', f_X0_partThose h 38 a (rlA f) = some ((), h') ∧ RSt h' a (partA h0 f S (nE S)) ∧ (∀ e, e < nE S → hI h' 42 e = S (12 + 4 * e)) ∧ Upd (pC a) h h' := by
  have e3 := v.e3
  have hh := st_hall a ha
  refine itLoop (σ := aH × Int32) (fun n s => f_X0_partThose_2 n s.1 38 a (rlA f) s.2)
    (fun i s => s = (s.1, nI i) ∧ RSt s.1 a (partA h0 f S i) ∧ (∀ e, e < i → hI s.1 42 e = S (12 + 4 * e)) ∧ Upd (pC a) h s.1)
    (fun o => ∃ h', o = some ((), h') ∧ RSt h' a (partA h0 f S (nE S)) ∧ (∀ e, e < nE S → hI h' 42 e = S (12 + 4 * e)) ∧ Upd (pC a) h h') (nE S) ?_ ?_ 2000 0 (h, 0) ?_ (by omega) (by omega)
  · rintro m i s hi ⟨es, ri, bi, u⟩
    obtain ⟨vi, oi, pi⟩ := partA_i (h0 := h0) (f := f) v (i := i) (by omega)
    have S1 := u.str hS
    have hi4 : i < 4 := by omega
    have c3 : ¬ nI (nE S) ≤ nI i := nI_ge hi (by omega)
    have r3 : hI s.1 a 3 = nI (nE S) := by rw [ri.s3, oi 3 (by omega), e3.1]
    have pS : partA h0 f S i (12 + 4 * i) = S (12 + 4 * i) := pi i hi4 (by omega)
    have n3 : nE (partA h0 f S i) = nE S := nE_of (oi 3 (by omega))
    have pn := partnerS0 S1 ha ri hi4
    rw [pS] at pn
    obtain ⟨g, dg⟩ : ∃ g, g = pI s.1 42 i (S (12 + 4 * i)) := ⟨_, rfl⟩
    have ug : Upd (fun c => c = 42) s.1 g := by rw [dg]; exact Upd.pI rfl
    have ugA : Upd (pC a) h g := u.tr (ug.mono (fun c hc => Or.inr (by omega)))
    have Sg := ugA.str hS
    have rg : RSt g a (partA h0 f S i) := ri.up ug (fun b p q => by omega)
    have bg : ∀ e, e < i + 1 → hI g 42 e = S (12 + 4 * e) := fun e he => by
      rw [dg, hI_eq]
      by_cases c : e = i
      · rw [c, upd_at]
      · rw [upd_ne _ _ c]; exact bi e (by omega)
    by_cases q : S (12 + 4 * i) < 0
    · refine Or.inr ⟨(g, nI (i + 1)), ⟨rfl, ?_, bg, ugA⟩, ?_⟩
      · rw [partA, partE, if_pos (by rw [pS]; exact q)]; exact rg
      · rw [es]
        show b_X0_partThose_2 (f_X0_partThose_2 m) s.1 38 a (rlA f) (nI i) = _
        simp only [b_X0_partThose_2, qst0 ha, r3, if_neg c3, pn, aBind_some, q_38, r_38_1 S1, Option.bind_some, q_42, if_pos (in42 hi4), aLet, nI_clamp (show i < 2 ^ 31 by omega), if_pos q, b_X0_partThose_69, i1, ← dg]
    · have q' : ¬ partA h0 f S i (12 + 4 * i) < 0 := by rw [pS]; exact q
      obtain ⟨w, hw, pe, pw, _⟩ := with_e vi (by rw [n3]; exact hi) q'
      have hw4 : w < 4 := by have := vi.e4.2; omega
      have ew : wOf (partA h0 f S i) i = w := by unfold wOf; rw [pe, nI_clamp (by omega)]
      have pw' : S (12 + 4 * i) = nI w := by rw [← pS]; exact pe
      have eg : ∀ g', Upd jC g g' → ∀ b, 66 ≤ b → b ≤ 95 → hI g' b = hI h0 b := fun g' u' b p q => by
        rw [u'.2.2.1 b (by omega), ugA.2.2.1 b (fun z => z.elim (fun z => na b z ⟨p, q⟩) (fun z => by omega)), eC b p q]
      obtain ⟨g1, f1, u1⟩ := staysC0 Sg ha rg vi ok (eg g (Upd.rf g)) hi4 hw4
      have S2 := u1.str Sg
      have r1 : RSt g1 a (partA h0 f S i) := rg.up u1 (fun b p q => by omega)
      obtain ⟨g2, f2, u2⟩ := staysC1 S2 ha r1 vi ok (eg g1 u1) hi4 hw4
      have S3 := u2.str S2
      have r2 : RSt g2 a (partA h0 f S i) := r1.up u2 (fun b p q => by omega)
      have jp : ∀ c, jC c → pC a c := fun c hc => Or.inr (by omega)
      have fin : ∀ g', Upd jC g g' → RSt g' a (partA h0 f S i) → Str g' → (stay0 h0 f (partA h0 f S i) i w && stay1 h0 f (partA h0 f S i) i w) = false → ∃ s' : aH × Int32, (s' = (s'.1, nI (i + 1)) ∧ RSt s'.1 a (partA h0 f S (i + 1)) ∧ (∀ e, e < i + 1 → hI s'.1 42 e = S (12 + 4 * e)) ∧ Upd (pC a) h s'.1) ∧ b_X0_partThose_63 (f_X0_partThose_2 m) g' 38 a (rlA f) (nI i) = f_X0_partThose_2 m s'.1 38 a (rlA f) s'.2 := fun g' u' r' S' hst => by
        obtain ⟨k, fk, rk, uk⟩ := partTwo_eq S' ha hi4 hw4 r' pe
        refine ⟨(k, nI (i + 1)), ⟨rfl, ?_, fun e he => ?_, (ugA.tr (u'.mono jp)).tr (uk.mono (fun c hc => Or.inl hc))⟩, ?_⟩
        · rw [partA, partE, if_neg q', ew, if_neg (by rw [hst]; decide)]; exact rk
        · rw [uk.2.2.1 42 (by unfold stA; omega), u'.2.2.1 42 (by omega)]; exact bg e he
        · simp only [b_X0_partThose_63, qst0 ha, fk, aBind_some, b_X0_partThose_69, i1]
      have hd : ∀ x, f_X0_partThose_2 (m + 1) s.1 38 a (rlA f) s.2 = x ↔ aBind (f_X3_stays g 39 a (rlA f) 0 (nI i) (nI w)) (fun r30 h31 => if r30 = 0 then b_X0_partThose_63 (f_X0_partThose_2 m) h31 38 a (rlA f) (nI i) else (hR h31 38 0).bind fun b32 => if (sh b32).1 = 10 then aBind (f_X3_stays h31 b32 a (rlA f) 1 (nI i) (nI w)) (fun r34 h35 => if r34 = 0 then b_X0_partThose_63 (f_X0_partThose_2 m) h35 38 a (rlA f) (nI i) else b_X0_partThose_69 (f_X0_partThose_2 m) h35 38 a (rlA f) (nI i)) else none) = x := fun x => by
        rw [es]
        show b_X0_partThose_2 (f_X0_partThose_2 m) s.1 38 a (rlA f) (nI i) = x ↔ _
        have cw : ¬ nI w < 0 := nI_pos (by omega)
        simp only [b_X0_partThose_2, qst0 ha, r3, if_neg c3, pn, aBind_some, q_38, r_38_1 S1, r_38_0 Sg, Option.bind_some, q_42, if_pos (in42 hi4), aLet, nI_clamp (show i < 2 ^ 31 by omega), pw', if_neg cw, q_39]
        rw [← pw', ← dg]
        simp only [r_38_0 Sg, Option.bind_some, q_39]
      cases c0 : stay0 h0 f (partA h0 f S i) i w with
      | false =>
        obtain ⟨s', p1, p2⟩ := fin g1 u1 r1 S2 (by rw [c0]; rfl)
        refine Or.inr ⟨s', p1, (hd _).mpr ?_⟩
        rw [f1, c0]
        simp only [aBind_some, bB, if_true]
        exact p2
      | true =>
        cases c1 : stay1 h0 f (partA h0 f S i) i w with
        | false =>
          obtain ⟨s', p1, p2⟩ := fin g2 (u1.tr u2) r2 S3 (by rw [c0, c1]; rfl)
          refine Or.inr ⟨s', p1, (hd _).mpr ?_⟩
          rw [f1, c0]
          simp only [aBind_some, bB, if_neg (show ¬ (1 : Int32) = 0 by decide), r_38_0 S2, Option.bind_some, q_39]
          rw [f2, c1]
          simp only [aBind_some, bB, if_true]
          exact p2
        | true =>
          refine Or.inr ⟨(g2, nI (i + 1)), ⟨rfl, ?_, fun e he => ?_, ugA.tr ((u1.tr u2).mono jp)⟩, (hd _).mpr ?_⟩
          · rw [partA, partE, if_neg q', ew, if_pos (by rw [c0, c1]; rfl)]; exact r2
          · rw [(u1.tr u2).2.2.1 42 (by omega)]; exact bg e he
          · rw [f1, c0]
            simp only [aBind_some, bB, if_neg (show ¬ (1 : Int32) = 0 by decide), r_38_0 S2, Option.bind_some, q_39]
            rw [f2, c1]
            simp only [aBind_some, bB, if_neg (show ¬ (1 : Int32) = 0 by decide), b_X0_partThose_69, i1]
  · rintro m s ⟨es, ri, bi, u⟩
    have oi := (partA_i (h0 := h0) (f := f) v (i := nE S) (by omega)).2.1
    have r3 : hI s.1 a 3 = nI (nE S) := by rw [ri.s3, oi 3 (by omega), e3.1]
    refine ⟨s.1, ?_, ri, bi, u⟩
    rw [es]
    show b_X0_partThose_2 (f_X0_partThose_2 m) s.1 38 a (rlA f) (nI (nE S)) = _
    simp only [b_X0_partThose_2, qst0 ha, r3, if_pos (Int32.le_refl (nI (nE S)))]
  · exact ⟨rfl, r, fun e he => by omega, Upd.rf h⟩
