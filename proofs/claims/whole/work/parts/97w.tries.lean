/-! ===== tries ===== -/
def sumT (h0 : aH) (f : Option Nat) (T : Row) (e : Nat) : Nat → Int32
  | 0 => 0
  | i + 1 => sumT h0 f T e i + likeP (passN h0 f T (i + 1)) e
theorem sumC {h h0 : aH} (hS : Str h) {T : Row} (r : RSt h 46 T) (v : VS T) {m : Nat} (y : YR T m) (hm : m ≤ 1000) {f : Option Nat} (ok : RlOK h0 f) (eC : ∀ b, 66 ≤ b → b ≤ 95 → hI h b = hI h0 b) {n : Nat} (hn : n ≤ 60) {e : Nat} (he : e < nE T) :
    ∃ h', b_X1_sumOfTry_24 h 45 (rlA f) (nI e) (nI n) = some (sumT h0 f T e n, h') ∧ Upd (pC 46) h h' := by
  refine itLoop (σ := aH × Int32 × Int32) (fun k s => f_X1_sumOfTry_30 k s.1 45 (rlA f) (nI e) (nI n) s.2.1 s.2.2) (fun i s => s = (s.1, sumT h0 f T e i, nI i) ∧ RSt s.1 46 (passN h0 f T i) ∧ Upd (pC 46) h s.1)
    (fun o => ∃ h', o = some (sumT h0 f T e n, h') ∧ Upd (pC 46) h h') n ?_ ?_ 2000 0 (h, 0, 0) ⟨rfl, r, Upd.rf h⟩ (by omega) (by omega)
  · rintro k i s hi ⟨es, ri, u⟩
    have S1 := u.str hS
    obtain ⟨vi, oi, yi⟩ := passN_ok (h0 := h0) (f := f) v y i
    obtain ⟨vj, oj, yj⟩ := passN_ok (h0 := h0) (f := f) v y (i + 1)
    have c : ¬ nI n ≤ nI i := nI_ge hi (by omega)
    obtain ⟨h2, f2, r2, u2⟩ := pass_eq S1 m46 ri vi ok (fun b p q => by rw [u.2.2.1 b (by unfold pC stA; omega), eC b p q]) (lateB (passN h0 f T i))
    have S2 := u2.str S1
    have lp := likePS S2 m46 r2 vj (e := e) (by show e < nE (passN h0 f T (i + 1)); rw [nE_of (oj 3 (by omega))]; exact he)
    refine Or.inr ⟨(h2, sumT h0 f T e (i + 1), nI (i + 1)), ⟨rfl, r2, u.tr u2⟩, ?_⟩
    rw [es]
    show b_X1_sumOfTry_30 (f_X1_sumOfTry_30 k) s.1 45 (rlA f) (nI e) (nI n) (sumT h0 f T e i) (nI i) = _
    simp only [b_X1_sumOfTry_30, if_neg c, q_45, r_45_0 S1, r_45_1 S1, r_45_1 S2, Option.bind_some, q_46, isLateS m46 ri yi (by omega), aBind_some, q_38, f2, lp, aLet, i1, sumT]
    rfl
  · rintro k s ⟨es, ri, u⟩
    refine ⟨s.1, ?_, u⟩
    rw [es]
    show b_X1_sumOfTry_30 (f_X1_sumOfTry_30 k) s.1 45 (rlA f) (nI e) (nI n) (sumT h0 f T e n) (nI n) = _
    simp only [b_X1_sumOfTry_30, if_pos (Int32.le_refl (nI n))]
theorem tryC0 {h h0 : aH} (hS : Str h) {S : Row} (r : RSt h 19 S) (v : VS S) {m : Nat} (y : YR S m) (hm : m ≤ 1000) {f : Option Nat} (ok : RlOK h0 f) (eC : ∀ b, 66 ≤ b → b ≤ 95 → hI h b = hI h0 b) {n : Nat} (hn : n ≤ 60) {e : Nat} (he : e < nE S) :
    ∃ h', f_X1_sumOfTry h 45 19 (rlA f) (nI e) (-1) (nI n) = some (sumT h0 f S e n, h') ∧ Upd (pC 46) h h' := by
  obtain ⟨h1, f1, r1, u1⟩ := copyFrom_eq hS m46 m19 (by decide) r v.1
  obtain ⟨h2, f2, u2⟩ := sumC (u1.str hS) r1 v y hm ok (fun b p q => by rw [u1.2.2.1 b (by unfold stA; omega), eC b p q]) hn he
  refine ⟨h2, ?_, (u1.mono (fun c hc => Or.inl hc)).tr u2⟩
  simp only [f_X1_sumOfTry, q_45, r_45_1 hS, Option.bind_some, q_46, f1, aBind_some, if_pos (show (-1 : Int32) < 0 by decide), f2]
theorem tryC1 {h h0 : aH} (hS : Str h) {S : Row} (r : RSt h 19 S) (v : VS S) {m : Nat} (y : YR S m) (hm : m ≤ 1000) {f : Option Nat} (ok : RlOK h0 f) (eC : ∀ b, 66 ≤ b → b ≤ 95 → hI h b = hI h0 b) {n : Nat} (hn : n ≤ 60) {e w : Nat} (he : e < nE S) (hw : w < nW S) (cj : canJ S e w) :
    ∃ h', f_X1_sumOfTry h 45 19 (rlA f) (nI e) (nI w) (nI n) = some (sumT h0 f (joinT S e w) e n, h') ∧ Upd (pC 46) h h' := by
  have v3 := v.e3.2
  have v4 := v.e4.2
  obtain ⟨h1, f1, r1, u1⟩ := copyFrom_eq hS m46 m19 (by decide) r v.1
  have S1 := u1.str hS
  obtain ⟨h2, f2, r2, u2⟩ := joinTwo_eq S1 m46 (show e < 4 by omega) (show w < 4 by omega) r1
  have o : ∀ j, j < 11 ∨ 43 ≤ j → joinT S e w j = S j := fun j hj => joinT_o (by omega) (by omega) hj
  obtain ⟨h3, f3, u3⟩ := sumC (u2.str S1) r2 (v.join he hw cj.1 cj.2.1) (y.eq (o 10 (by omega))) hm ok (fun b p q => by rw [u2.2.2.1 b (by unfold stA; omega), u1.2.2.1 b (by unfold stA; omega), eC b p q]) hn (e := e) (by rw [nE_of (o 3 (by omega))]; exact he)
  refine ⟨h3, ?_, ((u1.tr u2).mono (fun c hc => Or.inl hc)).tr u3⟩
  simp only [f_X1_sumOfTry, q_45, r_45_1 hS, r_45_1 S1, Option.bind_some, q_46, f1, aBind_some, if_neg (nI_pos (show w < 2 ^ 31 by omega)), f2, f3]
/-- whom it is best to try -/
def bt (h0 : aH) (f : Option Nat) (S : Row) (e n : Nat) : Nat → Int32 × Int32
  | 0 => (-1, sumT h0 f S e n)
  | w + 1 => if canJ S e w ∧ (bt h0 f S e n w).2 < sumT h0 f (joinT S e w) e n then (nI w, sumT h0 f (joinT S e w) e n) else bt h0 f S e n w
theorem tryAll_eq {h h0 : aH} (hS : Str h) {S : Row} (r : RSt h 19 S) (v : VS S) {m : Nat} (y : YR S m) (hm : m ≤ 1000) {f : Option Nat} (ok : RlOK h0 f) (eC : ∀ b, 66 ≤ b → b ≤ 95 → hI h b = hI h0 b) {n : Nat} (hn : n ≤ 60) {e : Nat} (he : e < nE S) :
    ∃ h', f_X1_tryAll h 45 19 (rlA f) (nI e) (nI n) = some ((), h') ∧ hI h' 45 2 = (bt h0 f S e n (nW S)).1 ∧ hI h' 45 3 = (bt h0 f S e n (nW S)).2 ∧ Upd qC h h' := by
  have v3 := v.e3.2
  have e4 := v.e4
  obtain ⟨g0, d0⟩ : ∃ g0, g0 = pI h 45 2 (-1) := ⟨_, rfl⟩
  have u0 : Upd qC h g0 := by rw [d0]; exact Upd.pI (by unfold qC; omega)
  obtain ⟨g1, f1, u1⟩ := tryC0 (u0.str hS) (r.up u0 (fun b p q => by unfold qC; omega)) v y hm ok (fun b p q => by rw [u0.2.2.1 b (by unfold qC; omega), eC b p q]) hn he
  obtain ⟨g2, d2⟩ : ∃ g2, g2 = pI g1 45 3 (sumT h0 f S e n) := ⟨_, rfl⟩
  have u2 : Upd qC h g2 := (u0.tr (u1.mono pC46)).tr (by rw [d2]; exact Upd.pI (by unfold qC; omega))
  have e2 : hI g2 45 2 = -1 := by rw [d2, hI_eq, upd_ne _ _ (by decide), u1.2.2.1 45 (by unfold pC stA; omega), d0, hI_eq, upd_at]
  have e3 : hI g2 45 3 = sumT h0 f S e n := by rw [d2, hI_eq, upd_at]
  have key : ∃ h', f_X1_tryAll_22 2000 g2 45 19 (rlA f) (nI e) (nI n) 0 = some ((), h') ∧ hI h' 45 2 = (bt h0 f S e n (nW S)).1 ∧ hI h' 45 3 = (bt h0 f S e n (nW S)).2 ∧ Upd qC h h' := by
    refine itLoop (σ := aH × Int32) (fun k s => f_X1_tryAll_22 k s.1 45 19 (rlA f) (nI e) (nI n) s.2) (fun i s => s = (s.1, nI i) ∧ hI s.1 45 2 = (bt h0 f S e n i).1 ∧ hI s.1 45 3 = (bt h0 f S e n i).2 ∧ Upd qC h s.1)
      (fun o => ∃ h', o = some ((), h') ∧ hI h' 45 2 = (bt h0 f S e n (nW S)).1 ∧ hI h' 45 3 = (bt h0 f S e n (nW S)).2 ∧ Upd qC h h') (nW S) ?_ ?_ 2000 0 (g2, 0) ⟨rfl, e2, e3, u2⟩ (by omega) (by omega)
    · rintro k i s hi ⟨es, b2, b3, u⟩
      have S1 := u.str hS
      have r1 : RSt s.1 19 S := r.up u (fun b p q => by unfold qC; omega)
      have c : ¬ nI (nW S) ≤ nI i := nI_ge hi (by omega)
      have r4 : hI s.1 19 4 = nI (nW S) := by rw [r1.s4, e4.1]
      have cj := couldJoinS S1 m19 r1 (show e < 4 by omega) (show i < 4 by omega)
      by_cases q : canJ S e i
      · obtain ⟨h2, f2, u2'⟩ := tryC1 S1 r1 v y hm ok (fun b p q => by rw [u.2.2.1 b (by unfold qC; omega), eC b p q]) hn he hi q
        have k45 : hI h2 45 = hI s.1 45 := u2'.2.2.1 45 (by unfold pC stA; omega)
        by_cases l : sumT h0 f (joinT S e i) e n ≤ (bt h0 f S e n i).2
        · have no : ¬ (canJ S e i ∧ (bt h0 f S e n i).2 < sumT h0 f (joinT S e i) e n) := fun z => absurd z.2 (Int32.not_lt.mpr l)
          refine Or.inr ⟨(h2, nI (i + 1)), ⟨rfl, ?_, ?_, u.tr (u2'.mono pC46)⟩, ?_⟩
          · rw [bt, if_neg no]; show hI h2 45 2 = _; rw [k45]; exact b2
          · rw [bt, if_neg no]; show hI h2 45 3 = _; rw [k45]; exact b3
          · rw [es]
            show b_X1_tryAll_22 (f_X1_tryAll_22 k) s.1 45 19 (rlA f) (nI e) (nI n) (nI i) = _
            simp only [b_X1_tryAll_22, qst0 m19, r4, if_neg c, cj, aBind_some, b1_0, if_pos q, if_neg (show ¬ (1 : Int32) = 0 by decide), q_45, f2, k45, b3, if_pos l, b_X1_tryAll_75, i1]
        · have yes : canJ S e i ∧ (bt h0 f S e n i).2 < sumT h0 f (joinT S e i) e n := ⟨q, Int32.not_le.mp l⟩
          refine Or.inr ⟨(pI (pI h2 45 2 (nI i)) 45 3 (sumT h0 f (joinT S e i) e n), nI (i + 1)), ⟨rfl, ?_, ?_, ((u.tr (u2'.mono pC46)).tr (Upd.pI (A := qC) (by unfold qC; omega))).tr (Upd.pI (by unfold qC; omega))⟩, ?_⟩
          · rw [bt, if_pos yes]; show hI (pI (pI h2 45 2 (nI i)) 45 3 _) 45 2 = _; rw [hI_eq, upd_ne _ _ (by decide), hI_eq, upd_at]
          · rw [bt, if_pos yes]; show hI (pI (pI h2 45 2 (nI i)) 45 3 _) 45 3 = _; rw [hI_eq, upd_at]
          · rw [es]
            show b_X1_tryAll_22 (f_X1_tryAll_22 k) s.1 45 19 (rlA f) (nI e) (nI n) (nI i) = _
            simp only [b_X1_tryAll_22, qst0 m19, r4, if_neg c, cj, aBind_some, b1_0, if_pos q, if_neg (show ¬ (1 : Int32) = 0 by decide), q_45, f2, k45, b3, if_neg l, aLet, b_X1_tryAll_75, i1]
      · have no : ¬ (canJ S e i ∧ (bt h0 f S e n i).2 < sumT h0 f (joinT S e i) e n) := fun z => q z.1
        refine Or.inr ⟨(s.1, nI (i + 1)), ⟨rfl, ?_, ?_, u⟩, ?_⟩
        · rw [bt, if_neg no]; exact b2
        · rw [bt, if_neg no]; exact b3
        · rw [es]
          show b_X1_tryAll_22 (f_X1_tryAll_22 k) s.1 45 19 (rlA f) (nI e) (nI n) (nI i) = _
          simp only [b_X1_tryAll_22, qst0 m19, r4, if_neg c, cj, aBind_some, b1_0, if_neg q, if_true, b_X1_tryAll_75, i1]
    · rintro k s ⟨es, b2, b3, u⟩
      have r1 : RSt s.1 19 S := r.up u (fun b p q => by unfold qC; omega)
      have r4 : hI s.1 19 4 = nI (nW S) := by rw [r1.s4, e4.1]
      refine ⟨s.1, ?_, b2, b3, u⟩
      rw [es]
      show b_X1_tryAll_22 (f_X1_tryAll_22 k) s.1 45 19 (rlA f) (nI e) (nI n) (nI (nW S)) = _
      simp only [b_X1_tryAll_22, qst0 m19, r4, if_pos (Int32.le_refl (nI (nW S)))]
  obtain ⟨h', f', r'⟩ := key
  refine ⟨h', ?_, r'⟩
  simp only [f_X1_tryAll, q_45, aLet, ← d0, f1, aBind_some, ← d2, f']
theorem likedIn_eq {h g h0 : aH} (hS : Str h) (x : RX h g) {S T : Row} {f : Option Nat} (v : VS T) {m : Nat} (y : YR T m) (hm : m ≤ 1000) (ok : RlOK h0 f) (eF : hI h 308 21 = frI f) (eC : ∀ b, 310 ≤ b → b ≤ 313 → hI h b = hI h0 b) (eD : hI h 308 23 = 0) (es : hI g 318 = T) (k : Kp h S) (oT : ∀ j, j < 10 ∨ 78 ≤ j → T j = S j) {e : Nat} (he : e < nE T) {n : Nat} (hn : n ≤ 60) :
    ∃ g', f_X12_likedIn g 308 (nI e) (nI n) = some (sumT h0 f T e n, g') ∧ hI g' 318 = S ∧ RX h g' := by
  refine itLoop (σ := aH × Int32 × Int32) (fun k s => f_X12_likedIn_5 k s.1 308 (nI e) (nI n) s.2.1 s.2.2) (fun i s => s = (s.1, sumT h0 f T e i, nI i) ∧ hI s.1 318 = passN h0 f T i ∧ RX h s.1)
    (fun o => ∃ g', o = some (sumT h0 f T e n, g') ∧ hI g' 318 = S ∧ RX h g') n ?_ ?_ 2000 0 (g, 0, 0) ⟨rfl, es, x⟩ (by omega) (by omega)
  · rintro m' i s hi ⟨es', si, x'⟩
    have c : ¬ nI n ≤ nI i := nI_ge hi (by omega)
    obtain ⟨g', fg, sg, xg⟩ := pass_step hS x' v y (by omega) ok eF eC eD si
    obtain ⟨vj, oj, yj⟩ := passN_ok (h0 := h0) (f := f) v y (i + 1)
    have lp := likePR (xg.str hS) sg vj (e := e) (by rw [nE_of (oj 3 (by omega))]; exact he)
    refine Or.inr ⟨(g', sumT h0 f T e (i + 1), nI (i + 1)), ⟨rfl, sg, xg⟩, ?_⟩
    rw [es']
    show b_X12_likedIn_5 (f_X12_likedIn_5 m') s.1 308 (nI e) (nI n) (sumT h0 f T e i) (nI i) = _
    simp only [b_X12_likedIn_5, if_neg c, q_308, fg, aBind_some, lp, aLet, i1, sumT]
  · rintro m' s ⟨es', si, x'⟩
    have oj := (passN_ok (h0 := h0) (f := f) v y n).2.1
    have lb := (k.rx x').lays (x'.str hS) (fun j hj => by rw [si, oj j (by omega), oT j hj])
    refine ⟨wI s.1 318 S, ?_, hI_wI_eq _ _ _, x'.tr (RX.wI (by omega))⟩
    rw [es']
    show b_X12_likedIn_5 (f_X12_likedIn_5 m') s.1 308 (nI e) (nI n) (sumT h0 f T e n) (nI n) = _
    simp only [b_X12_likedIn_5, if_pos (Int32.le_refl (nI n)), q_308, lb, aBind_some]
theorem what2 {x : Int32} (h : 0 ≤ x ∧ x ≤ 1) : x = 0 ∨ x = 1 := by
  obtain ⟨n, hn, rfl⟩ := btw_nI (M := 1) (m := 1) h (by decide)
  have : n = 0 ∨ n = 1 := by omega
  rcases this with rfl | rfl
  · exact Or.inl rfl
  · exact Or.inr rfl
theorem op_tries : Op_tries Inv := by
  intro h hV x1 x2 x3
  have hS := hV.1
  have r : RSt h 19 (hI h 318) := hV.2.2.2.1.1
  have v : VS (hI h 318) := hV.2.2.2.1.2.1.1
  have y : YR (hI h 318) 999 := hV.2.2.2.1.2.1.2.2
  have v3 := v.e3.2
  have v4 := v.e4.2
  have n1 : ¬ (1 : Int32) = 0 := by decide
  have i2' : ∀ g, f_X12_in g x2.toInt64 1 30 = some (if 1 ≤ x2 ∧ x2 ≤ 30 then 1 else 0, g) := fun g => in_i (h := g) x2 1 30 (by decide) (by decide)
  have i3' : ∀ g, f_X12_in g x3.toInt64 0 1 = some (if 0 ≤ x3 ∧ x3 ≤ 1 then 1 else 0, g) := fun g => in_i (h := g) x3 0 1 (by decide) (by decide)
  rcases hasEastV v x1 with z | ⟨e, he, rfl⟩
  · refine ⟨-2, h, h, ?_, ?_, hV⟩
    · show f_X11_tries h 0 x1 x2 x3 = _
      simp only [f_X11_tries, f_X8_isFreeEast, q_0, r_0_5 hS, r_11_1 hS, Option.bind_some, q_11, qst0 m19, noEast m19 r z, aBind_some, if_true]
    · show f_X12_tries h 308 x1 x2 x3 = _
      simp only [f_X12_tries, q_308, noEastR hS z, aBind_some, if_true]
  by_cases nc : ¬ hI h 318 (12 + 4 * e) < 0
  · refine ⟨-2, h, h, ?_, ?_, hV⟩
    · show f_X11_tries h 0 (nI e) x2 x3 = _
      simp only [f_X11_tries, q_0, r_0_5 hS, r_11_1 hS, Option.bind_some, q_11, qst0 m19, isFreeES hS m19 r he v, if_neg nc, aBind_some, if_true]
    · show f_X12_tries h 308 (nI e) x2 x3 = _
      simp only [f_X12_tries, q_308, yesEastR hS v he, isFreeR0 hS (show e < 4 by omega), if_neg nc, aBind_some, if_neg n1, if_true]
  have c := Decidable.not_not.mp nc
  have hdC : f_X11_tries h 0 (nI e) x2 x3 = (if x2 < 1 then some (-2, h) else if 30 < x2 then some (-2, h) else if x3 < 0 then some (-2, h) else if x3 ≤ 1 then aBind (f_X11_ruleInForce h 0) (fun r32 h33 => aBind (f_X1_tryAll h33 45 19 r32 (nI e) x2) (fun r35 h36 => if x3 = 0 then (hR h36 0 12).bind (fun b37 => if (sh b37).1 = 8 then some (hI h36 b37 2, h36) else none) else (hR h36 0 12).bind (fun b39 => if (sh b39).1 = 8 then some (hI h36 b39 3, h36) else none))) else some (-2, h)) := by
    obtain ⟨f, e21, e6, ok, ri⟩ := hV.rule
    simp only [f_X11_tries, q_0, r_0_5 hS, r_11_1 hS, Option.bind_some, q_11, qst0 m19, isFreeES hS m19 r he v, if_pos c, aBind_some, if_neg n1, r_0_12 hS, ruleIn_eq hS ri e6, q_45]
  by_cases nb2 : ¬ (1 ≤ x2 ∧ x2 ≤ 30)
  · refine ⟨-2, h, h, ?_, ?_, hV⟩
    · show f_X11_tries h 0 (nI e) x2 x3 = _
      rw [hdC]
      by_cases c1 : x2 < 1
      · rw [if_pos c1]
      · rw [if_neg c1, if_pos (by rcases Int32.lt_or_le 30 x2 with z | z; exact z; exact absurd ⟨Int32.not_lt.mp c1, z⟩ nb2)]
    · show f_X12_tries h 308 (nI e) x2 x3 = _
      simp only [f_X12_tries, q_308, yesEastR hS v he, isFreeR0 hS (show e < 4 by omega), if_pos c, aBind_some, if_neg n1, if_true, i2', if_neg nb2]
  have b2 := Decidable.not_not.mp nb2
  have c1 : ¬ x2 < 1 := Int32.not_lt.mpr b2.1
  have c2 : ¬ 30 < x2 := Int32.not_lt.mpr b2.2
  by_cases nb3 : ¬ (0 ≤ x3 ∧ x3 ≤ 1)
  · refine ⟨-2, h, h, ?_, ?_, hV⟩
    · show f_X11_tries h 0 (nI e) x2 x3 = _
      rw [hdC, if_neg c1, if_neg c2]
      by_cases c3 : x3 < 0
      · rw [if_pos c3]
      · rw [if_neg c3, if_neg (fun z => nb3 ⟨Int32.not_lt.mp c3, z⟩)]
    · show f_X12_tries h 308 (nI e) x2 x3 = _
      simp only [f_X12_tries, q_308, yesEastR hS v he, isFreeR0 hS (show e < 4 by omega), if_pos c, aBind_some, if_neg n1, if_true, i2', if_pos b2, i3', if_neg nb3]
  have b3 := Decidable.not_not.mp nb3
  have c3 : ¬ x3 < 0 := Int32.not_lt.mpr b3.1
  obtain ⟨n, hn, en⟩ := btw_nI (M := 30) (m := 30) ⟨Int32.le_trans (by decide) b2.1, b2.2⟩ (by decide)
  obtain ⟨f, e21, e6, ok, ri⟩ := hV.rule
  have e23 : hI h 308 23 = 0 := hV.2.2.2.2.2.2.2
  obtain ⟨h1, f1, t2, t3, u1⟩ := tryAll_eq hS r v y (by decide) ok (fun _ _ _ => rfl) (n := n) (by omega) he
  have S1 := u1.str hS
  have o1 : ∀ b, ¬ qC b → hI h1 b = hI h b := fun b hb => u1.2.2.1 b hb
  have s18 : hI h1 318 = hI h 318 := o1 318 (by unfold qC; omega)
  obtain ⟨S, eS⟩ : ∃ S, S = hI h 318 := ⟨_, rfl⟩
  rw [← eS] at v y s18 c t2 t3 he v3 v4
  obtain ⟨g1, d1⟩ : ∃ g1, g1 = wI h1 324 (va_cpy (hI h1 318) (hI h1 324) 10 0 68) := ⟨_, rfl⟩
  have k1 : Kp g1 S := by rw [d1, ← s18]; exact Kp.keep h1
  have Sg1 : Str g1 := by rw [d1]; exact S1
  have og : ∀ b, b ≠ 324 → hI g1 b = hI h1 b := fun b hb => by rw [d1, hI_wI_ne _ _ hb]
  have aF : hI g1 308 21 = frI f := by rw [og 308 (by decide), o1 308 (by unfold qC; omega)]; exact e21
  have aC : ∀ b, 310 ≤ b → b ≤ 313 → hI g1 b = hI h b := fun b p q => by rw [og b (by omega), o1 b (by unfold qC; omega)]
  have aD : hI g1 308 23 = 0 := by rw [og 308 (by decide), o1 308 (by unfold qC; omega)]; exact e23
  obtain ⟨g2, f2, s2, x2'⟩ := likedIn_eq Sg1 (RX.rf g1) v y (by decide) ok aF aC aD (by rw [og 318 (by decide), s18]) k1 (fun _ _ => rfl) he (n := n) (by omega)
  have e4 := v.e4
  have hRf : ∃ h4, f_X12_tries_60 2000 g2 308 (nI e) (nI n) x3 (-1) (sumT h f S e n) 0 = some (if x3 = 0 then (bt h f S e n (nW S)).1 else (bt h f S e n (nW S)).2, h4) ∧ Inv h4 := by
    refine itLoop (σ := aH × Int32 × Int32 × Int32) (fun m s => f_X12_tries_60 m s.1 308 (nI e) (nI n) x3 s.2.1 s.2.2.1 s.2.2.2) (fun i s => s = (s.1, (bt h f S e n i).1, (bt h f S e n i).2, nI i) ∧ hI s.1 318 = S ∧ RX g1 s.1)
      (fun o => ∃ h4, o = some (if x3 = 0 then (bt h f S e n (nW S)).1 else (bt h f S e n (nW S)).2, h4) ∧ Inv h4) (nW S) ?_ ?_ 2000 0 (g2, -1, sumT h f S e n, 0) ⟨rfl, s2, x2'⟩ (by omega) (by omega)
    · rintro m i s hi ⟨es, si, x⟩
      have Ss := x.str Sg1
      have c4 : ¬ nI (nW S) ≤ nI i := nI_ge hi (by omega)
      have cj := canJoinR Ss (show e < 4 by omega) (show i < 4 by omega)
      rw [si] at cj
      by_cases q : canJ S e i
      · have jn := joins_eq Ss (show e < 4 by omega) (show i < 4 by omega)
        rw [si] at jn
        have o : ∀ j, j < 11 ∨ 43 ≤ j → joinT S e i j = S j := fun j hj => joinT_o (by omega) (by omega) hj
        obtain ⟨g', fg, sg, xg⟩ := likedIn_eq (T := joinT S e i) Sg1 (x.tr (RX.wI (h := s.1) (c := 318) (f := joinT S e i) (by omega))) (v.join he hi q.1 q.2.1) (y.eq (o 10 (by omega))) (by decide) ok aF aC aD (hI_wI_eq _ _ _) k1 (fun j hj => o j (by omega)) (e := e) (by rw [nE_of (o 3 (by omega))]; exact he) (n := n) (by omega)
        refine Or.inr ⟨(g', (bt h f S e n (i + 1)).1, (bt h f S e n (i + 1)).2, nI (i + 1)), ⟨rfl, sg, xg⟩, ?_⟩
        rw [es]
        show b_X12_tries_60 (f_X12_tries_60 m) s.1 308 (nI e) (nI n) x3 (bt h f S e n i).1 (bt h f S e n i).2 (nI i) = _
        simp only [b_X12_tries_60, q_308, r_308_20 Ss, Option.bind_some, q_318, if_pos in4, cl4, si, e4.1, if_neg c4, cj, aBind_some, b1_0, if_pos q, if_neg (show ¬ (1 : Int32) = 0 by decide), jn, fg, b_X12_tries_118, i1]
        by_cases l : (bt h f S e n i).2 < sumT h f (joinT S e i) e n
        · rw [if_pos l, show bt h f S e n (i + 1) = (nI i, sumT h f (joinT S e i) e n) by rw [bt, if_pos ⟨q, l⟩]]
        · rw [if_neg l, show bt h f S e n (i + 1) = bt h f S e n i by rw [bt, if_neg (fun z => l z.2)]]
      · have no : ¬ (canJ S e i ∧ (bt h f S e n i).2 < sumT h f (joinT S e i) e n) := fun z => q z.1
        refine Or.inr ⟨(s.1, (bt h f S e n (i + 1)).1, (bt h f S e n (i + 1)).2, nI (i + 1)), ⟨rfl, si, x⟩, ?_⟩
        rw [es]
        show b_X12_tries_60 (f_X12_tries_60 m) s.1 308 (nI e) (nI n) x3 (bt h f S e n i).1 (bt h f S e n i).2 (nI i) = _
        simp only [b_X12_tries_60, q_308, r_308_20 Ss, Option.bind_some, q_318, if_pos in4, cl4, si, e4.1, if_neg c4, cj, aBind_some, b1_0, if_neg q, if_true, b_X12_tries_118, i1]
        rw [show bt h f S e n (i + 1) = bt h f S e n i by rw [bt, if_neg no]]
    · rintro m s ⟨es, si, x⟩
      have Ss := x.str Sg1
      refine ⟨s.1, ?_, ?_⟩
      · rw [es]
        show b_X12_tries_60 (f_X12_tries_60 m) s.1 308 (nI e) (nI n) x3 (bt h f S e n (nW S)).1 (bt h f S e n (nW S)).2 (nI (nW S)) = _
        simp only [b_X12_tries_60, q_308, r_308_20 Ss, Option.bind_some, q_318, if_pos in4, cl4, si, e4.1, if_pos (Int32.le_refl (nI (nW S)))]
        split <;> rfl
      · have uu : Upd Sq h s.1 := (u1.mono (fun b hb => by unfold Sq; unfold qC at hb; omega)).tr ((show Upd Sq h1 g1 by rw [d1]; exact Upd.wI (by unfold Sq; omega)).tr (x.1.mono (fun b hb => by unfold Sq; omega)))
        refine hV.query uu (by rw [si, eS]) (fun j hj => ?_)
        rw [x.key j hj, og 308 (by decide), o1 308 (by unfold qC; omega)]
  obtain ⟨h4, f4, I4⟩ := hRf
  refine ⟨if x3 = 0 then (bt h f S e n (nW S)).1 else (bt h f S e n (nW S)).2, h1, h4, ?_, ?_, I4⟩
  · show f_X11_tries h 0 (nI e) x2 x3 = _
    rw [hdC, if_neg c1, if_neg c2, if_neg c3, if_pos b3.2, ruleIn_eq hS ri e6]
    simp only [aBind_some]
    rw [en, f1]
    simp only [aBind_some, r_0_12 S1, Option.bind_some, q_45, t2, t3]
    split <;> rfl
  · have ye : f_X12_isEast h1 308 (nI e) = some (1, h1) := yesEastR S1 (by rw [s18]; exact v) (by rw [s18]; exact he)
    have fr := isFreeR0 S1 (show e < 4 by omega)
    rw [s18, if_pos c] at fr
    show f_X12_tries h1 308 (nI e) x2 x3 = _
    simp only [f_X12_tries, q_308, ye, fr, aBind_some, if_neg n1, i2', if_pos b2, i3', if_pos b3, keeps_eq S1]
    rw [← d1, en, f2]
    simp only [aBind_some]
    exact f4
