/-! ===== lasts, keep ===== -/
def tog (h0 : aH) (f : Option Nat) (S : Row) (e : Nat) (W : Int32) : Nat → Nat → Nat
  | 0, i => i
  | k + 1, i => if passN h0 f S (i + 1) (12 + 4 * e) = W then tog h0 f S e W k (i + 1) else i
theorem tog_le {h0 : aH} {f : Option Nat} {S : Row} {e : Nat} {W : Int32} : ∀ k i, i ≤ tog h0 f S e W k i ∧ tog h0 f S e W k i ≤ i + k := by
  intro k
  induction k with
  | zero => intro i; exact ⟨Nat.le_refl _, Nat.le_refl _⟩
  | succ k ih =>
    intro i
    rw [tog]
    split
    · have := ih (i + 1); omega
    · omega
theorem passN_y {h0 : aH} {f : Option Nat} {S : Row} (v : VS S) {k : Nat} (ek : S 10 = nI k) : ∀ i, passN h0 f S i 10 = nI (k + i) := by
  intro i
  induction i with
  | zero => exact ek
  | succ i ih =>
    have vi := (passN_ok (h0 := h0) (f := f) v (⟨k, Nat.le_refl k, ek⟩ : YR S k) i).1
    rw [passN, (passS_ok vi).2.2, ih, nI_1]; rfl
theorem togC {h h0 : aH} (hS : Str h) {S : Row} (r : RSt h 46 S) (v : VS S) {m : Nat} (y : YR S m) (hm : m ≤ 1000) {f : Option Nat} (ok : RlOK h0 f) (eC : ∀ b, 66 ≤ b → b ≤ 95 → hI h b = hI h0 b) {n : Nat} (hn : n ≤ 60) {e : Nat} (he : e < 4) :
    ∃ h', f_X1_fairsTogetherFromHere h 45 (rlA f) (nI e) (nI n) = some (nI (tog h0 f S e (S (12 + 4 * e)) n 0), h') ∧ Upd qC h h' := by
  have key : ∃ h', f_X1_fairsTogetherFromHere_14 2000 h 45 (rlA f) (nI e) (nI n) (S (12 + 4 * e)) 0 = some (nI (tog h0 f S e (S (12 + 4 * e)) n 0), h') ∧ Upd qC h h' := by
    refine itLoop (σ := aH × Int32) (fun k s => f_X1_fairsTogetherFromHere_14 k s.1 45 (rlA f) (nI e) (nI n) (S (12 + 4 * e)) s.2) (fun i s => s = (s.1, nI i) ∧ RSt s.1 46 (passN h0 f S i) ∧ tog h0 f S e (S (12 + 4 * e)) (n - i) i = tog h0 f S e (S (12 + 4 * e)) n 0 ∧ Upd qC h s.1)
      (fun o => ∃ h', o = some (nI (tog h0 f S e (S (12 + 4 * e)) n 0), h') ∧ Upd qC h h') n ?_ ?_ 2000 0 (h, 0) ⟨rfl, r, rfl, Upd.rf h⟩ (by omega) (by omega)
    · rintro k i s hi ⟨es, ri, ht, u⟩
      have S1 := u.str hS
      obtain ⟨vi, oi, yi⟩ := passN_ok (h0 := h0) (f := f) v y i
      have c : ¬ nI n ≤ nI i := nI_ge hi (by omega)
      obtain ⟨h2, f2, r2, u2⟩ := pass_eq S1 m46 ri vi ok (fun b p q => by rw [u.2.2.1 b (by unfold qC; omega), eC b p q]) (lateB (passN h0 f S i))
      have S2 := u2.str S1
      have pn := partnerS0 S2 m46 r2 he
      rw [show n - i = (n - (i + 1)) + 1 by omega, tog] at ht
      have hd : f_X1_fairsTogetherFromHere_14 (k + 1) s.1 45 (rlA f) (nI e) (nI n) (S (12 + 4 * e)) s.2 = if passN h0 f S (i + 1) (12 + 4 * e) = S (12 + 4 * e) then f_X1_fairsTogetherFromHere_14 k h2 45 (rlA f) (nI e) (nI n) (S (12 + 4 * e)) (nI (i + 1)) else some (nI i, h2) := by
        rw [es]
        show b_X1_fairsTogetherFromHere_14 (f_X1_fairsTogetherFromHere_14 k) s.1 45 (rlA f) (nI e) (nI n) (S (12 + 4 * e)) (nI i) = _
        simp only [b_X1_fairsTogetherFromHere_14, if_neg c, q_45, r_45_0 S1, r_45_1 S1, r_45_1 S2, Option.bind_some, q_46, isLateS m46 ri yi (by omega), aBind_some, q_38, f2, pn, i1]
        rfl
      by_cases q : passN h0 f S (i + 1) (12 + 4 * e) = S (12 + 4 * e)
      · rw [if_pos q] at ht hd
        exact Or.inr ⟨(h2, nI (i + 1)), ⟨rfl, r2, ht, u.tr (u2.mono pC46)⟩, hd⟩
      · rw [if_neg q] at ht hd
        exact Or.inl ⟨h2, by rw [← ht]; exact hd, u.tr (u2.mono pC46)⟩
    · rintro k s ⟨es, ri, ht, u⟩
      rw [Nat.sub_self, tog] at ht
      refine ⟨s.1, ?_, u⟩
      rw [es, ← ht]
      show b_X1_fairsTogetherFromHere_14 (f_X1_fairsTogetherFromHere_14 k) s.1 45 (rlA f) (nI e) (nI n) (S (12 + 4 * e)) (nI n) = _
      simp only [b_X1_fairsTogetherFromHere_14, if_pos (Int32.le_refl (nI n))]
  obtain ⟨h', f', u'⟩ := key
  refine ⟨h', ?_, u'⟩
  simp only [f_X1_fairsTogetherFromHere, q_45, r_45_1 hS, Option.bind_some, q_46, partnerS0 hS m46 r he, aBind_some, f']
/-- what a question's fairs ended in -/
theorem q_end {h h1 g h0 : aH} (hV : Inv h) (u1 : Upd qC h h1) (S1 : Str h1) {n : Nat} {f : Option Nat} (x : RX (wI h1 324 (va_cpy (hI h1 318) (hI h1 324) 10 0 68)) g) (sg : hI g 318 = passN h0 f (hI h 318) n) (k : Kp g (hI h 318)) :
    f_X12_laysBack g 308 = some ((), wI g 318 (hI h 318)) ∧ Inv (wI g 318 (hI h 318)) := by
  have v : VS (hI h 318) := hV.2.2.2.1.2.1.1
  have y : YR (hI h 318) 999 := hV.2.2.2.1.2.1.2.2
  have Sg : Str g := x.str (show Str (wI h1 324 _) from S1)
  exact ⟨k.lays Sg (fun j hj => by rw [sg, (passN_ok v y n).2.1 j (by omega)]), (ahead_fin hV u1 S1 x sg k 0).2⟩
theorem op_lasts : Op_lasts Inv := by
  intro h hV x1
  have hS := hV.1
  have r : RSt h 19 (hI h 318) := hV.2.2.2.1.1
  have v : VS (hI h 318) := hV.2.2.2.1.2.1.1
  have y : YR (hI h 318) 999 := hV.2.2.2.1.2.1.2.2
  have v3 := v.e3.2
  have v4 := v.e4.2
  have n1 : ¬ (1 : Int32) = 0 := by decide
  rcases hasEastV v x1 with z | ⟨e, he, rfl⟩
  · refine ⟨-1, h, h, ?_, ?_, hV⟩
    · show f_X11_lasts h 0 x1 = _
      simp only [f_X11_lasts, f_X8_isJoinedEast, q_0, r_0_5 hS, r_11_1 hS, Option.bind_some, q_11, qst0 m19, noEast m19 r z, aBind_some, if_true]
    · show f_X12_lasts h 308 x1 = _
      simp only [f_X12_lasts, q_308, noEastR hS z, aBind_some, if_true]
  by_cases c : hI h 318 (12 + 4 * e) < 0
  · refine ⟨-1, h, h, ?_, ?_, hV⟩
    · show f_X11_lasts h 0 (nI e) = _
      simp only [f_X11_lasts, q_0, r_0_5 hS, r_11_1 hS, Option.bind_some, q_11, qst0 m19, isJoinedS hS m19 r he v, if_pos c, aBind_some, if_true]
    · show f_X12_lasts h 308 (nI e) = _
      simp only [f_X12_lasts, q_308, yesEastR hS v he, isFreeR0 hS (show e < 4 by omega), if_pos c, aBind_some, if_neg n1]
  obtain ⟨f, e21, e6, ok, ri⟩ := hV.rule
  have e23 : hI h 308 23 = 0 := hV.2.2.2.2.2.2.2
  obtain ⟨k, hk, ek⟩ := y
  have y : YR (hI h 318) 999 := ⟨k, hk, ek⟩
  obtain ⟨hA, fA, rA, uA⟩ := copyFrom_eq hS m46 m19 (by decide) r v.1
  have uA' : Upd qC h hA := uA.mono (fun c hc => by unfold stA at hc; unfold qC; omega)
  obtain ⟨h1, f1, u1'⟩ := togC (uA.str hS) rA v y (by decide) ok (fun b p q => uA.2.2.1 b (by unfold stA; omega)) (n := 60) (by decide) (e := e) (by omega)
  have u1 := uA'.tr u1'
  have S1 := u1.str hS
  have o1 : ∀ b, ¬ qC b → hI h1 b = hI h b := fun b hb => u1.2.2.1 b hb
  have s18 : hI h1 318 = hI h 318 := o1 318 (by unfold qC; omega)
  obtain ⟨W, eW⟩ : ∃ W, W = hI h 318 (12 + 4 * e) := ⟨_, rfl⟩
  rw [← eW] at f1
  obtain ⟨t, et⟩ : ∃ t, t = tog h f (hI h 318) e W 60 0 := ⟨_, rfl⟩
  rw [← et] at f1
  have tl := tog_le (h0 := h) (f := f) (S := hI h 318) (e := e) (W := W) 60 0
  rw [← et] at tl
  -- the reference
  obtain ⟨g1, d1⟩ : ∃ g1, g1 = wI h1 324 (va_cpy (hI h1 318) (hI h1 324) 10 0 68) := ⟨_, rfl⟩
  have k1 : Kp g1 (hI h 318) := by rw [d1, ← s18]; exact Kp.keep h1
  have Sg1 : Str g1 := by rw [d1]; exact S1
  have og : ∀ b, b ≠ 324 → hI g1 b = hI h1 b := fun b hb => by rw [d1, hI_wI_ne _ _ hb]
  have hRf : ∃ h4, f_X12_lasts_37 2000 g1 308 (nI e) W (-2) 0 = some (if t = 60 then -2 else nI (k + t), h4) ∧ Inv h4 := by
    refine itLoop (σ := aH × Int32 × Int32) (fun n s => f_X12_lasts_37 n s.1 308 (nI e) W s.2.1 s.2.2) (fun i s => (s = (s.1, -2, nI i) ∧ hI s.1 318 = passN h f (hI h 318) i ∧ tog h f (hI h 318) e W (60 - i) i = t ∧ RX g1 s.1) ∨ (∃ j, 1 ≤ i ∧ t < 60 ∧ s = (s.1, nI (k + t), nI j) ∧ hI s.1 318 = passN h f (hI h 318) i ∧ RX g1 s.1))
      (fun o => ∃ h4, o = some (if t = 60 then -2 else nI (k + t), h4) ∧ Inv h4) 60 ?_ ?_ 2000 0 (g1, -2, 0) (Or.inl ⟨rfl, by rw [og 318 (by decide), s18]; rfl, et.symm, RX.rf g1⟩) (by omega) (by omega)
    · rintro n i s hi (⟨es, si, ht, x⟩ | ⟨j, _, t60, es, si, x⟩)
      · have Ss := x.str Sg1
        obtain ⟨vi, oi, ⟨yi, hyi, eyi⟩⟩ := passN_ok (h0 := h) (f := f) v (⟨k, Nat.le_refl k, ek⟩ : YR (hI h 318) k) i
        have c60 : ¬ (60 : Int32) ≤ nI i := nI_ge (b := 60) hi (by decide)
        have c0 : ¬ (0 : Int32) ≤ -2 := by decide
        obtain ⟨g', fg, sg, xg⟩ := pass_step Sg1 x v y (by omega) ok (by rw [og 308 (by decide), o1 308 (by unfold qC; omega)]; exact e21) (fun b p q => by rw [og b (by omega), o1 b (by unfold qC; omega)]) (by rw [og 308 (by decide), o1 308 (by unfold qC; omega)]; exact e23) si
        have wr := withR0 (xg.str Sg1) (p := e) (by omega)
        rw [sg] at wr
        rw [show 60 - i = (60 - (i + 1)) + 1 by omega, tog] at ht
        have yr : passN h f (hI h 318) i 10 = nI (k + i) := passN_y v ek i
        have hd : f_X12_lasts_37 (n + 1) s.1 308 (nI e) W s.2.1 s.2.2 = if passN h f (hI h 318) (i + 1) (12 + 4 * e) = W then f_X12_lasts_37 n g' 308 (nI e) W (-2) (nI (i + 1)) else f_X12_lasts_37 n g' 308 (nI e) W (nI (k + i)) (nI (i + 1)) := by
          rw [es]
          show b_X12_lasts_37 (f_X12_lasts_37 n) s.1 308 (nI e) W (-2) (nI i) = _
          simp only [b_X12_lasts_37, if_neg c60, if_neg c0, q_308, r_308_20 Ss, Option.bind_some, q_318, if_pos in10, cl10, aLet, si, yr, fg, aBind_some, wr, b_X12_lasts_76, i1]
        by_cases q : passN h f (hI h 318) (i + 1) (12 + 4 * e) = W
        · rw [if_pos q] at ht hd
          exact Or.inr ⟨(g', -2, nI (i + 1)), Or.inl ⟨rfl, sg, ht, xg⟩, hd⟩
        · rw [if_neg q] at ht hd
          subst ht
          exact Or.inr ⟨(g', nI (k + i), nI (i + 1)), Or.inr ⟨i + 1, by omega, hi, rfl, sg, xg⟩, hd⟩
      · have fin := q_end hV u1 S1 (by rw [← d1]; exact x) si (k1.rx x)
        refine Or.inl ⟨wI s.1 318 (hI h 318), ?_, fin.2⟩
        rw [es, if_neg (by omega)]
        show b_X12_lasts_37 (f_X12_lasts_37 n) s.1 308 (nI e) W (nI (k + t)) (nI j) = _
        simp only [b_X12_lasts_37, if_pos (nI_pos' (show k + t < 2 ^ 31 by omega)), b_X12_lasts_82, q_308, fin.1, aBind_some]
        split <;> rfl
    · rintro n s (⟨es, si, ht, x⟩ | ⟨j, _, t60, es, si, x⟩)
      · have fin := q_end hV u1 S1 (by rw [← d1]; exact x) si (k1.rx x)
        rw [Nat.sub_self, tog] at ht
        refine ⟨wI s.1 318 (hI h 318), ?_, fin.2⟩
        rw [es, if_pos ht.symm]
        show b_X12_lasts_37 (f_X12_lasts_37 n) s.1 308 (nI e) W (-2) (nI 60) = _
        simp only [b_X12_lasts_37, if_pos (show (60 : Int32) ≤ nI 60 by decide), b_X12_lasts_82, q_308, fin.1, aBind_some]
      · have fin := q_end hV u1 S1 (by rw [← d1]; exact x) si (k1.rx x)
        refine ⟨wI s.1 318 (hI h 318), ?_, fin.2⟩
        rw [es, if_neg (by omega)]
        show b_X12_lasts_37 (f_X12_lasts_37 n) s.1 308 (nI e) W (nI (k + t)) (nI j) = _
        simp only [b_X12_lasts_37, if_pos (nI_pos' (show k + t < 2 ^ 31 by omega)), b_X12_lasts_82, q_308, fin.1, aBind_some]
        split <;> rfl
  obtain ⟨h4, f4, I4⟩ := hRf
  refine ⟨if t = 60 then -2 else nI (k + t), h1, h4, ?_, ?_, I4⟩
  · show f_X11_lasts h 0 (nI e) = _
    have e5 : hI h1 19 5 = nI k := by rw [o1 19 (by unfold qC; omega), r.s5, ek]
    have c60 : (nI t = 60) ↔ t = 60 := nI_eq (b := 60) (by omega) (by decide)
    have f1' : f_X1_fairsTogetherFromHere hA 45 (rlA f) (nI e) 60 = some (nI t, h1) := f1
    simp only [f_X11_lasts, q_0, r_0_5 hS, r_11_1 hS, Option.bind_some, q_11, qst0 m19, isJoinedS hS m19 r he v, if_neg c, aBind_some, if_neg n1, r_0_12 hS, ruleIn_eq hS ri e6, q_45, f_X1_fairsTogether, r_45_1 hS, q_46, fA, f1', c60, r_0_5 S1, r_11_1 S1, e5, nI_add]
    split <;> rfl
  · have ye : f_X12_isEast h1 308 (nI e) = some (1, h1) := yesEastR S1 (by rw [s18]; exact v) (by rw [s18]; exact he)
    have fr := isFreeR0 S1 (show e < 4 by omega)
    have wr := withR0 S1 (p := e) (by omega)
    rw [s18, if_neg c] at fr
    rw [s18, ← eW] at wr
    show f_X12_lasts h1 308 (nI e) = _
    simp only [f_X12_lasts, q_308, ye, fr, aBind_some, if_neg n1, if_true, wr, keeps_eq S1, ← d1, f4]
