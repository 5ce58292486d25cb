/-! ===== at a fair: the class's asking and joining ===== -/
abbrev kC : Nat → Prop := fun c => c = 43 ∨ c = 44
theorem ask_eq {h : aH} (hS : Str h) {a : Nat} (ha : a ∈ stL) {S : Row} (r : RSt h a S) (v : VS S) {B A H : Row} (k : CAsk h (nE S) B A H) (ho : HOK S H) {e w : Nat} (he : e < nE S) (hw : w < nW S) : ∃ h', f_X0_ask h 38 a (nI e) (nI w) = some ((), h') ∧ CAsk h' (nE S) B (askA A e w) (askH S H e w) ∧ Upd kC h h' := by
  have h3 := v.e3.2
  have h4 := v.e4.2
  have hh := st_hall a ha
  have he4 : e < 4 := by omega
  have hw4 : w < 4 := by omega
  obtain ⟨g, dg⟩ : ∃ g, g = pI h 43 e (A e ||| (1 <<< (nI w &&& 31))) := ⟨_, rfl⟩
  have ug : Upd kC h g := by rw [dg]; exact Upd.pI (Or.inl rfl)
  have Sg := ug.str hS
  have rg : RSt g a S := r.up ug (fun b p q => by omega)
  have g44 : hI g 44 = hI h 44 := by rw [dg, hI_ne _ (by decide)]
  have kg : CAsk g (nE S) B (askA A e w) H := by
    refine ⟨fun e' he' => by rw [ug.2.2.1 42 (by omega)]; exact k.1 e' he', fun i hi => ⟨?_, by rw [g44]; exact (k.2 i hi).2⟩⟩
    rw [dg, hI_eq, askA]
    by_cases c : i = e
    · rw [c, upd_at, upd_at]
    · rw [upd_ne _ _ c, upd_ne _ _ c]; exact (k.2 i hi).1
  have hd : f_X0_ask h 38 a (nI e) (nI w) = b_X0_ask_37 g 38 a (nI e) (nI w) (rivL S H w) := by
    by_cases c : H w < 0
    · have c' : ¬ 0 ≤ H w := Int32.not_le.mpr c
      simp only [f_X0_ask, q_38, r_38_2 hS, Option.bind_some, q_43, if_pos (in43 he4), aLet, nI_clamp (show e < 2 ^ 31 by omega), (k.2 e he4).1, ← dg, r_38_3 Sg, q_44, if_pos (in44 hw4), nI_clamp (show w < 2 ^ 31 by omega), g44, (k.2 w hw4).2, if_neg c', rivL, if_pos c]
    · obtain ⟨e', he', _, eH, _⟩ := (ho.1 w hw4).resolve_left (fun q => c (by rw [q]; decide))
      have c' : 0 ≤ H w := Int32.not_lt.mp c
      have lk := likeS1 Sg ha rg (show e' < 4 by omega) hw4
      rw [← eH] at lk
      simp only [f_X0_ask, q_38, r_38_2 hS, Option.bind_some, q_43, if_pos (in43 he4), aLet, nI_clamp (show e < 2 ^ 31 by omega), (k.2 e he4).1, ← dg, r_38_3 Sg, q_44, if_pos (in44 hw4), nI_clamp (show w < 2 ^ 31 by omega), g44, (k.2 w hw4).2, if_pos c', qst0 ha, lk, aBind_some, rivL, if_neg c]
      rw [eH, nI_clamp (by omega)]
  by_cases c : rivL S H w < S (59 + 4 * e + w)
  · refine ⟨pI g 44 w (nI e), ?_, ?_, ug.tr (Upd.pI (Or.inr rfl))⟩
    · rw [hd]
      simp only [b_X0_ask_37, qst0 ha, likeS1 Sg ha rg he4 hw4, aBind_some, if_neg (Int32.not_le.mpr c), q_38, r_38_3 Sg, Option.bind_some, q_44, if_pos (in44 hw4), aLet, nI_clamp (show w < 2 ^ 31 by omega)]
    · refine ⟨fun e' he' => by rw [hI_ne _ (by decide)]; exact kg.1 e' he', fun i hi => ⟨by rw [hI_ne _ (by decide)]; exact (kg.2 i hi).1, ?_⟩⟩
      rw [hI_eq, askH, if_pos c]
      by_cases d : i = w
      · rw [d, upd_at, upd_at]
      · rw [upd_ne _ _ d, upd_ne _ _ d]; exact (kg.2 i hi).2
  · refine ⟨g, ?_, ?_, ug⟩
    · rw [hd]
      simp only [b_X0_ask_37, qst0 ha, likeS1 Sg ha rg he4 hw4, aBind_some, if_pos (Int32.not_lt.mp c)]
    · rw [askH, if_neg c]; exact kg
theorem askOnce_eq {h : aH} (hS : Str h) {a : Nat} (ha : a ∈ stL) {S : Row} (r : RSt h a S) (v : VS S) {B A H : Row} (k : CAsk h (nE S) B A H) (ho : HOK S H) :
    (selF S A B H (nE S) 0 = none ∧ f_X0_askOnce h 38 a = some (0, h)) ∨ ∃ q h', selF S A B H (nE S) 0 = some q ∧ f_X0_askOnce h 38 a = some (1, h') ∧ CAsk h' (nE S) B (askA A q.1 q.2) (askH S H q.1 q.2) ∧ Upd kC h h' := by
  have e3 := v.e3
  have e4 := v.e4
  refine itLoop (σ := Int32) (fun n s => f_X0_askOnce_2 n h 38 a s) (fun i s => s = nI i ∧ selF S A B H (nE S - i) i = selF S A B H (nE S) 0)
    (fun o => (selF S A B H (nE S) 0 = none ∧ o = some (0, h)) ∨ ∃ q h', selF S A B H (nE S) 0 = some q ∧ o = some (1, h') ∧ CAsk h' (nE S) B (askA A q.1 q.2) (askH S H q.1 q.2) ∧ Upd kC h h') (nE S) ?_ ?_ 2000 0 0 ⟨rfl, rfl⟩ (by omega) (by omega)
  · rintro m i _ hi ⟨rfl, hs⟩
    have hi4 : i < 4 := by omega
    have c3 : ¬ nI (nE S) ≤ nI i := nI_ge hi (by omega)
    have n1 : ¬ (1 : Int32) = 0 := by decide
    rw [show nE S - i = (nE S - (i + 1)) + 1 by omega, selF] at hs
    by_cases c1 : S (12 + 4 * i) < 0
    · by_cases c2 : atH H i
      · rw [if_neg (fun q => q.2.1 c2)] at hs
        refine Or.inr ⟨nI (i + 1), ⟨rfl, hs⟩, ?_⟩
        show b_X0_askOnce_2 (f_X0_askOnce_2 m) h 38 a (nI i) = _
        simp only [b_X0_askOnce_2, qst0 ha, r.s3, e3.1, if_neg c3, isFreeS0 hS ha r hi4, if_pos c1, aBind_some, if_neg n1, q_38, isAtHand_eq hS k, b1_0, if_pos c2, b_X0_askOnce_47, i1]
      · rcases favN_c (S := S) (ae := A i) (be := B i) (e := i) (nW S) e4.2 with z | ⟨w, hw, z, o⟩
        · rw [if_neg (fun q => by have := q.2.2; rw [z] at this; exact absurd this (by decide))] at hs
          refine Or.inr ⟨nI (i + 1), ⟨rfl, hs⟩, ?_⟩
          show b_X0_askOnce_2 (f_X0_askOnce_2 m) h 38 a (nI i) = _
          simp only [b_X0_askOnce_2, qst0 ha, r.s3, e3.1, if_neg c3, isFreeS0 hS ha r hi4, if_pos c1, aBind_some, if_neg n1, q_38, isAtHand_eq hS k, b1_0, if_neg c2, if_true, favourite_eq hS ha r v k hi, z, if_pos (show (-1 : Int32) < 0 by decide), b_X0_askOnce_47, i1]
        · have cw : ¬ nI w < 0 := nI_pos (by omega)
          rw [if_pos ⟨c1, c2, by rw [z]; exact nI_pos' (by omega)⟩, z, nI_clamp (by omega)] at hs
          obtain ⟨h', f', k', u'⟩ := ask_eq hS ha r v k ho hi hw
          refine Or.inl (Or.inr ⟨(i, w), h', hs.symm, ?_, k', u'⟩)
          show b_X0_askOnce_2 (f_X0_askOnce_2 m) h 38 a (nI i) = _
          simp only [b_X0_askOnce_2, qst0 ha, r.s3, e3.1, if_neg c3, isFreeS0 hS ha r hi4, if_pos c1, aBind_some, if_neg n1, q_38, isAtHand_eq hS k, b1_0, if_neg c2, if_true, favourite_eq hS ha r v k hi, z, if_neg cw, f']
    · rw [if_neg (fun q => c1 q.1)] at hs
      refine Or.inr ⟨nI (i + 1), ⟨rfl, hs⟩, ?_⟩
      show b_X0_askOnce_2 (f_X0_askOnce_2 m) h 38 a (nI i) = _
      simp only [b_X0_askOnce_2, qst0 ha, r.s3, e3.1, if_neg c3, isFreeS0 hS ha r hi4, if_neg c1, aBind_some, if_true, b_X0_askOnce_47, i1]
  · rintro m _ ⟨rfl, hs⟩
    rw [Nat.sub_self, selF] at hs
    refine Or.inl ⟨hs.symm, ?_⟩
    show b_X0_askOnce_2 (f_X0_askOnce_2 m) h 38 a (nI (nE S)) = _
    simp only [b_X0_askOnce_2, qst0 ha, r.s3, e3.1, if_pos (Int32.le_refl (nI (nE S)))]
def A0 : Row := fun _ => 0
def H0 : Row := fun _ => -1
theorem HOK0 (S : Row) : HOK S H0 := ⟨fun _ _ => Or.inl rfl, fun _ _ _ _ _ _ => rfl⟩
theorem AOK0 : AOK A0 := fun _ _ => ⟨0, by decide, rfl⟩
theorem askAround_eq {h : aH} (hS : Str h) {a : Nat} (ha : a ∈ stL) {S : Row} (r : RSt h a S) (v : VS S) {B : Row} (kB : ∀ e, e < nE S → hI h 42 e = B e) :
    ∃ h', f_X0_askAround h 38 a = some ((), h') ∧ CAsk h' (nE S) B (askN S B 16 (A0, H0)).1 (askN S B 16 (A0, H0)).2 ∧ Upd kC h h' := by
  have hh := st_hall a ha
  have st : ∃ h', f_X0_askAround h 38 a = f_X0_askAround_29 2000 h' 38 a 0 ∧ CAsk h' (nE S) B A0 H0 ∧ Upd kC h h' := by
    refine itLoop (σ := aH × Int32) (fun n s => f_X0_askAround_2 n s.1 38 a s.2) (fun i s => s = (s.1, nI i) ∧ (∀ j, j < i → hI s.1 43 j = 0 ∧ hI s.1 44 j = -1) ∧ Upd kC h s.1)
      (fun o => ∃ h', o = f_X0_askAround_29 2000 h' 38 a 0 ∧ CAsk h' (nE S) B A0 H0 ∧ Upd kC h h') 4 ?_ ?_ 2000 0 (h, 0) ⟨rfl, fun j hj => by omega, Upd.rf h⟩ (by omega) (by omega)
    · rintro m i s hi ⟨es, kj, u⟩
      have S1 := u.str hS
      have c : ¬ (4 : Int32) ≤ nI i := nI_ge (b := 4) hi (by decide)
      refine Or.inr ⟨(pI (pI s.1 43 i 0) 44 i (-1), nI (i + 1)), ⟨rfl, fun j hj => ?_, (u.tr (Upd.pI (A := kC) (Or.inl rfl))).tr (Upd.pI (Or.inr rfl))⟩, ?_⟩
      · show hI (pI (pI s.1 43 i 0) 44 i (-1)) 43 j = 0 ∧ hI (pI (pI s.1 43 i 0) 44 i (-1)) 44 j = -1
        rw [hI_ne _ (by decide), hI_eq, hI_eq, hI_ne _ (by decide)]
        by_cases d : j = i
        · rw [d, upd_at, upd_at]; exact ⟨rfl, rfl⟩
        · rw [upd_ne _ _ d, upd_ne _ _ d]; exact kj j (by omega)
      · rw [es]
        show b_X0_askAround_2 (f_X0_askAround_2 m) s.1 38 a (nI i) = _
        simp only [b_X0_askAround_2, if_neg c, q_38, r_38_2 S1, r_38_3 S1, hR_pI, Option.bind_some, q_43, q_44, if_pos (in43 hi), if_pos (in44 hi), aLet, nI_clamp (show i < 2 ^ 31 by omega), i1]
    · rintro m s ⟨es, kj, u⟩
      refine ⟨s.1, ?_, ⟨fun e he => by rw [u.2.2.1 42 (by omega)]; exact kB e he, kj⟩, u⟩
      rw [es]
      show b_X0_askAround_2 (f_X0_askAround_2 m) s.1 38 a (nI 4) = _
      simp only [b_X0_askAround_2, if_pos (show (4 : Int32) ≤ nI 4 by decide)]
  obtain ⟨g, fg, kg, ug⟩ := st
  rw [fg]
  refine itLoop (σ := aH × Int32) (fun n s => f_X0_askAround_29 n s.1 38 a s.2)
    (fun i s => s = (s.1, nI i) ∧ ∃ q : Row × Row, CAsk s.1 (nE S) B q.1 q.2 ∧ HOK S q.2 ∧ askN S B (16 - i) q = askN S B 16 (A0, H0) ∧ Upd kC h s.1)
    (fun o => ∃ h', o = some ((), h') ∧ CAsk h' (nE S) B (askN S B 16 (A0, H0)).1 (askN S B 16 (A0, H0)).2 ∧ Upd kC h h') 16 ?_ ?_ 2000 0 (g, 0) ⟨rfl, (A0, H0), kg, HOK0 S, rfl, ug⟩ (by omega) (by omega)
  · rintro m i s hi ⟨es, q, k, ho, hq, u⟩
    have S1 := u.str hS
    have r1 : RSt s.1 a S := r.up u (fun b p q => by omega)
    have c : ¬ (16 : Int32) ≤ nI i := nI_ge (b := 16) hi (by decide)
    have n1 : ¬ (1 : Int32) = 0 := by decide
    rw [show 16 - i = (16 - (i + 1)) + 1 by omega, askN] at hq
    rcases askOnce_eq S1 ha r1 v k ho with ⟨z, f1⟩ | ⟨p, h', z, f1, k', u'⟩
    · rw [z] at hq
      refine Or.inl ⟨s.1, ?_, by rw [← hq]; exact k, u⟩
      rw [es]
      show b_X0_askAround_29 (f_X0_askAround_29 m) s.1 38 a (nI i) = _
      simp only [b_X0_askAround_29, if_neg c, q_38, f1, aBind_some, if_true]
    · have z' := z
      rw [z] at hq
      refine Or.inr ⟨(h', nI (i + 1)), ⟨rfl, _, k', ho.ask v z', hq, u.tr u'⟩, ?_⟩
      rw [es]
      show b_X0_askAround_29 (f_X0_askAround_29 m) s.1 38 a (nI i) = _
      simp only [b_X0_askAround_29, if_neg c, q_38, f1, aBind_some, if_neg n1, i1]
  · rintro m s ⟨es, q, k, ho, hq, u⟩
    rw [Nat.sub_self, askN] at hq
    refine ⟨s.1, ?_, by rw [← hq]; exact k, u⟩
    rw [es]
    show b_X0_askAround_29 (f_X0_askAround_29 m) s.1 38 a (nI 16) = _
    simp only [b_X0_askAround_29, if_pos (show (16 : Int32) ≤ nI 16 by decide)]
/-- those at hand are joined -/
def joinA (S H : Row) : Nat → Row
  | 0 => S
  | w + 1 => if H w < 0 then joinA S H w else joinT (joinA S H w) (H w).toNatClampNeg w
def cntA (H : Row) : Nat → Int32
  | 0 => 0
  | w + 1 => if H w < 0 then cntA H w else cntA H w + 1
theorem joinA_i {S H : Row} (v : VS S) (k : HOK S H) : ∀ {i : Nat}, i ≤ nW S → VS (joinA S H i) ∧ (∀ j, j < 11 ∨ 43 ≤ j → joinA S H i j = S j) ∧ (∀ w, i ≤ w → w < 4 → joinA S H i (28 + 4 * w) = S (28 + 4 * w)) ∧ ∀ e, e < nE S → (∀ w, w < i → H w ≠ nI e) → joinA S H i (12 + 4 * e) = S (12 + 4 * e) := by
  have h3 := v.e3.2
  have h4 := v.e4.2
  intro i
  induction i with
  | zero => intro _; exact ⟨v, fun _ _ => rfl, fun _ _ _ => rfl, fun _ _ _ => rfl⟩
  | succ i ih =>
    intro hi
    obtain ⟨a, b, c, d⟩ := ih (by omega)
    rw [joinA]
    by_cases q : H i < 0
    · rw [if_pos q]
      exact ⟨a, b, fun w h1 h2 => c w (by omega) h2, fun e h1 h2 => d e h1 (fun w hw => h2 w (by omega))⟩
    · rw [if_neg q]
      obtain ⟨e, he, hw, eH, fe, fw⟩ := (k.1 i (by omega)).resolve_left (fun z => q (by rw [z]; decide))
      rw [eH, nI_clamp (by omega)]
      have n3 : nE (joinA S H i) = nE S := nE_of (b 3 (by omega))
      have n4 : nW (joinA S H i) = nW S := nW_of (b 4 (by omega))
      have nw : ∀ w, w < i → H w ≠ nI e := fun w hw z => by
        have := k.2 w i (by omega) (by omega) (by rw [z, eH]) (by omega)
        rw [z] at this
        exact nI_m1 (by omega) this
      refine ⟨a.join (by omega) (by omega) (by rw [d e he nw]; exact fe) (by rw [c i (by omega) (by omega)]; exact fw), fun j hj => ?_, fun w h1 h2 => ?_, fun e' h1 h2 => ?_⟩
      · rw [joinT_o (by omega) (by omega) hj, b j hj]
      · rw [(joinT_pw (by omega) (by omega) h2).1, if_neg (by omega), c w (by omega) h2]
      · have ne : ¬ e' = e := fun z => h2 i (by omega) (by rw [z, eH])
        rw [(joinT_pe (by omega) (by omega) (by omega)).1, if_neg ne, d e' h1 (fun w hw => h2 w (by omega))]
theorem joinAll_eq {h : aH} (hS : Str h) {a : Nat} (ha : a ∈ stL) {S : Row} (r : RSt h a S) (v : VS S) {n : Nat} {B A H : Row} (k : CAsk h n B A H) (ho : HOK S H) :
    ∃ h', f_X0_joinThoseAtHand h 38 a = some (cntA H (nW S), h') ∧ RSt h' a (joinA S H (nW S)) ∧ Upd (stA a) h h' := by
  have h3 := v.e3.2
  have e4 := v.e4
  have hh := st_hall a ha
  refine itLoop (σ := aH × Int32 × Int32) (fun n s => f_X0_joinThoseAtHand_4 n s.1 38 a s.2.1 s.2.2)
    (fun i s => s = (s.1, cntA H i, nI i) ∧ RSt s.1 a (joinA S H i) ∧ Upd (stA a) h s.1)
    (fun o => ∃ h', o = some (cntA H (nW S), h') ∧ RSt h' a (joinA S H (nW S)) ∧ Upd (stA a) h h') (nW S) ?_ ?_ 2000 0 (h, 0, 0) ⟨rfl, r, Upd.rf h⟩ (by omega) (by omega)
  · rintro m i s hi ⟨es, ri, u⟩
    have S1 := u.str hS
    have hi4 : i < 4 := by omega
    obtain ⟨vi, oi, _⟩ := joinA_i v ho (i := i) (by omega)
    have c : ¬ nI (nW S) ≤ nI i := nI_ge hi (by omega)
    have r4 : hI s.1 a 4 = nI (nW S) := by rw [ri.s4, oi 4 (by omega), e4.1]
    have k44 : hI s.1 44 i = H i := by rw [u.2.2.1 44 (by unfold stA; omega)]; exact (k.2 i hi4).2
    by_cases q : H i < 0
    · refine Or.inr ⟨(s.1, cntA H (i + 1), nI (i + 1)), ⟨rfl, ?_, u⟩, ?_⟩
      · rw [joinA, if_pos q]; exact ri
      · rw [es]
        show b_X0_joinThoseAtHand_4 (f_X0_joinThoseAtHand_4 m) s.1 38 a (cntA H i) (nI i) = _
        simp only [b_X0_joinThoseAtHand_4, qst0 ha, r4, if_neg c, q_38, r_38_3 S1, Option.bind_some, q_44, if_pos (in44 hi4), nI_clamp (show i < 2 ^ 31 by omega), k44, if_pos q, b_X0_joinThoseAtHand_36, i1, cntA]
    · obtain ⟨e, he, hw, eH, fe, fw⟩ := (ho.1 i hi4).resolve_left (fun z => q (by rw [z]; decide))
      obtain ⟨g, fg, rg, ug⟩ := joinTwo_eq S1 ha (show e < 4 by omega) hi4 ri
      refine Or.inr ⟨(g, cntA H (i + 1), nI (i + 1)), ⟨rfl, ?_, u.tr ug⟩, ?_⟩
      · rw [joinA, if_neg q, eH, nI_clamp (by omega)]; exact rg
      · rw [es]
        show b_X0_joinThoseAtHand_4 (f_X0_joinThoseAtHand_4 m) s.1 38 a (cntA H i) (nI i) = _
        simp only [b_X0_joinThoseAtHand_4, qst0 ha, r4, if_neg c, q_38, r_38_3 S1, Option.bind_some, q_44, if_pos (in44 hi4), nI_clamp (show i < 2 ^ 31 by omega), k44, if_neg q, cntA]
        rw [eH, fg]
        simp only [aBind_some, b_X0_joinThoseAtHand_36, i1]
  · rintro m s ⟨es, ri, u⟩
    have oi := (joinA_i v ho (i := nW S) (by omega)).2.1
    have r4 : hI s.1 a 4 = nI (nW S) := by rw [ri.s4, oi 4 (by omega), e4.1]
    refine ⟨s.1, ?_, ri, u⟩
    rw [es]
    show b_X0_joinThoseAtHand_4 (f_X0_joinThoseAtHand_4 m) s.1 38 a (cntA H (nW S)) (nI (nW S)) = _
    simp only [b_X0_joinThoseAtHand_4, qst0 ha, r4, if_pos (Int32.le_refl (nI (nW S)))]
