/-! ===== by which rules notes are so ===== -/
def fitP (h0 : aH) (f : Option Nat) (S0 : Row) (m : Nat) : Nat → Bool
  | 0 => true
  | i + 1 => fitP h0 f S0 m i && ntB S0 (passN h0 f S0 (i + 1)) (nI i) m 0
theorem fitP_f {h0 : aH} {f : Option Nat} {S0 : Row} {m i : Nat} (q : fitP h0 f S0 m i = false) : ∀ j, i ≤ j → fitP h0 f S0 m j = false := by
  intro j
  induction j with
  | zero => intro h; have : i = 0 := by omega
            subst this; exact q
  | succ j ih =>
    intro h
    rcases Nat.lt_or_ge j i with z | z
    · have : i = j + 1 := by omega
      subst this; exact q
    · rw [fitP, ih z, Bool.false_and]
theorem ntB_hi {S T : Row} {m : Nat} (b : NtB S m) {i : Nat} (hi : fT S m ≤ i) (h2 : i < 2 ^ 31) : ∀ k c, c + k = m → ntB S T (nI i) k c = true := by
  intro k
  induction k with
  | zero => intro c _; rfl
  | succ k ih =>
    intro c hc
    obtain ⟨d1, d2, d3, d4⟩ := b.2.2 c (by omega)
    have g := fT_ge (S := S) m c (by omega)
    rw [ntB, if_neg (fun q => by
      have q1 := q.1
      rw [d1] at q1
      have := (nI_eq (by omega) h2).mp q1
      omega)]
    exact ih (c + 1) (by omega)
theorem fitP_hi {h0 : aH} {f : Option Nat} {S0 : Row} {m : Nat} (b : NtB S0 m) : ∀ j, fT S0 m ≤ j → j ≤ 31 → fitP h0 f S0 m j = fitP h0 f S0 m (fT S0 m) := by
  intro j
  induction j with
  | zero => intro h _; have : fT S0 m = 0 := by omega
            rw [this]
  | succ j ih =>
    intro h h2
    rcases Nat.lt_or_ge j (fT S0 m) with z | z
    · have : fT S0 m = j + 1 := by omega
      rw [this]
    · rw [fitP, ntB_hi b z (by omega) m 0 (by omega), Bool.and_true]
      exact ih z (by omega)
theorem pC58n {c : Nat} (h : c < 40 ∨ (45 ≤ c ∧ c < 58) ∨ 65 ≤ c) : ¬ pC 58 c := by unfold pC stA; omega
theorem fitsC {h h0 : aH} (hS : Str h) {S0 : Row} (r : RSt h 58 S0) (v : VS S0) (y : YR S0 0) {f : Option Nat} (ok : RlOK h0 f) (eC : ∀ b, 66 ≤ b → b ≤ 95 → hI h b = hI h0 b) {m : Nat} (b : NtB S0 m) (c : NtC h S0 m) :
    ∃ h', f_X4_fitsFromHere h 57 11 (rlA f) = some (bB (fitP h0 f S0 m 31), h') ∧ Upd (pC 58) h h' := by
  have lF := fT_le b m (Nat.le_refl m)
  have key : ∃ h', f_X4_fitsFromHere_8 2000 h 57 11 (rlA f) (nI (fT S0 m)) 0 = some (bB (fitP h0 f S0 m 31), h') ∧ Upd (pC 58) h h' := by
    refine itLoop (σ := aH × Int32) (fun k s => f_X4_fitsFromHere_8 k s.1 57 11 (rlA f) (nI (fT S0 m)) s.2) (fun i s => s = (s.1, nI i) ∧ RSt s.1 58 (passN h0 f S0 i) ∧ fitP h0 f S0 m i = true ∧ Upd (pC 58) h s.1)
      (fun o => ∃ h', o = some (bB (fitP h0 f S0 m 31), h') ∧ Upd (pC 58) h h') (fT S0 m) ?_ ?_ 2000 0 (h, 0) ⟨rfl, r, rfl, Upd.rf h⟩ (by omega) (by omega)
    · rintro k i s hi ⟨es, ri, fi, u⟩
      have Ss := u.str hS
      obtain ⟨vi, oi, yi⟩ := passN_ok (h0 := h0) (f := f) v y i
      obtain ⟨vj, oj, yj⟩ := passN_ok (h0 := h0) (f := f) v y (i + 1)
      have q : ¬ nI (fT S0 m) ≤ nI i := nI_ge hi (by omega)
      obtain ⟨h2, f2, r2, u2⟩ := pass_eq Ss m58 ri vi ok (fun b p q => by rw [u.2.2.1 b (pC58n (by omega)), eC b p q]) (lateB (passN h0 f S0 i))
      have S2 := u2.str Ss
      have u3 := u.tr u2
      have c2 : NtC h2 S0 m := by
        unfold NtC
        rw [u3.2.2.1 11 (pC58n (by omega)), u3.2.2.1 26 (pC58n (by omega)), u3.2.2.1 27 (pC58n (by omega)), u3.2.2.1 28 (pC58n (by omega))]
        exact c
      have nt := notesC S2 b c2 m58 r2 (nI i)
      have hd : f_X4_fitsFromHere_8 (k + 1) s.1 57 11 (rlA f) (nI (fT S0 m)) s.2 = if ntB S0 (passN h0 f S0 (i + 1)) (nI i) m 0 = true then f_X4_fitsFromHere_8 k h2 57 11 (rlA f) (nI (fT S0 m)) (nI (i + 1)) else some (0, h2) := by
        rw [es]
        show b_X4_fitsFromHere_8 (f_X4_fitsFromHere_8 k) s.1 57 11 (rlA f) (nI (fT S0 m)) (nI i) = _
        have nt' : f_X10_notesAreSo h2 11 58 (nI i) = some (bB (ntB S0 (passN h0 f S0 (i + 1)) (nI i) m 0), h2) := nt
        simp only [b_X4_fitsFromHere_8, if_neg q, q_57, r_57_0 Ss, r_57_1 Ss, Option.bind_some, qst0 m58, isLateS m58 ri yi (by omega), aBind_some, q_38, f2, r_57_1 S2, q_11, nt', bB_0, i1]
      cases e : ntB S0 (passN h0 f S0 (i + 1)) (nI i) m 0 with
      | true =>
        rw [e, if_pos rfl] at hd
        exact Or.inr ⟨(h2, nI (i + 1)), ⟨rfl, r2, by rw [fitP, fi, e]; rfl, u3⟩, hd⟩
      | false =>
        rw [e, if_neg (by decide)] at hd
        have fl : fitP h0 f S0 m 31 = false := fitP_f (i := i + 1) (by rw [fitP, fi, e]; rfl) 31 (by omega)
        exact Or.inl ⟨h2, by rw [fl]; exact hd, u3⟩
    · rintro k s ⟨es, ri, fi, u⟩
      refine ⟨s.1, ?_, u⟩
      rw [es, fitP_hi b 31 lF (Nat.le_refl _), fi]
      show b_X4_fitsFromHere_8 (f_X4_fitsFromHere_8 k) s.1 57 11 (rlA f) (nI (fT S0 m)) (nI (fT S0 m)) = _
      simp only [b_X4_fitsFromHere_8, if_pos (Int32.le_refl (nI (fT S0 m)))]
      rfl
  obtain ⟨h', f', u'⟩ := key
  refine ⟨h', ?_, u'⟩
  simp only [f_X4_fitsFromHere, q_11, fairsTo_eq hS b c, aBind_some, f']
theorem m12 : 12 ∈ stL := by decide
theorem bB01 (b : Bool) : bB b = 0 ∨ bB b = 1 := by cases b <;> simp [bB]
theorem fits_eq {h h0 : aH} (hS : Str h) {S0 : Row} (r : RSt h 12 S0) (v : VS S0) (y : YR S0 0) {f : Option Nat} (ok : RlOK h0 f) (eC : ∀ b, 66 ≤ b → b ≤ 95 → hI h b = hI h0 b) {m : Nat} (b : NtB S0 m) (c : NtC h S0 m) :
    ∃ h', f_X4_fits h 57 11 (rlA f) = some (bB (fitP h0 f S0 m 31), h') ∧ Upd (pC 58) h h' := by
  obtain ⟨hA, fA, rA, uA⟩ := copyFrom_eq hS m58 m12 (by decide) r v.1
  have uA' : Upd (pC 58) h hA := uA.mono (fun c hc => Or.inl hc)
  obtain ⟨h1, f1, u1⟩ := fitsC (uA.str hS) rA v y ok (fun b p q => by rw [uA'.2.2.1 b (pC58n (by omega)), eC b p q]) b (by
    unfold NtC
    rw [uA'.2.2.1 11 (pC58n (by omega)), uA'.2.2.1 26 (pC58n (by omega)), uA'.2.2.1 27 (pC58n (by omega)), uA'.2.2.1 28 (pC58n (by omega))]
    exact c)
  refine ⟨h1, ?_, uA'.tr u1⟩
  simp only [f_X4_fits, q_57, r_57_1 hS, Option.bind_some, q_11, r_11_0 hS, qst0 m58, fA, aBind_some, f1, if_pos (bB01 _)]
/-! the reference's -/
def w4 (W : Row) (o : Nat) (T : Row) : Nat → Row
  | 0 => W
  | e + 1 => upd (w4 W o T e) (o + e) (T (12 + 4 * e))
theorem w4_in {W T : Row} {o : Nat} : ∀ n e, e < n → w4 W o T n (o + e) = T (12 + 4 * e) := by
  intro n
  induction n with
  | zero => intro e he; omega
  | succ n ih =>
    intro e he
    rw [w4]
    by_cases q : e = n
    · rw [q, upd_at]
    · rw [upd_ne _ _ (by omega)]; exact ih e (by omega)
theorem w4_out {W T : Row} {o j : Nat} : ∀ n, (j < o ∨ o + n ≤ j) → w4 W o T n j = W j := by
  intro n
  induction n with
  | zero => intro _; rfl
  | succ n ih => intro h; rw [w4, upd_ne _ _ (by omega)]; exact ih (by omega)
theorem in327 {k : Nat} (h : k < 7) : aIn (nI k) (sh 327).2 := by rw [sh_327]; exact vp_in_nI h (by decide)
theorem in328 {k : Nat} (h : k < 28) : aIn (nI k) (sh 328).2 := by rw [sh_328]; exact vp_in_nI h (by decide)
theorem i4r (r e : Nat) : (4 : Int32) * nI r + nI e = nI (4 * r + e) := by rw [show (4 : Int32) = nI 4 from rfl, pk_mul, nI_add]
theorem isSo_eq {g : aH} (hS : Str g) {T : Row} (eS : hI g 318 = T) {r : Nat} (hr : r < 7) (K : aH → Nat → Int32 → Int32 → Int32 → Int32 → Option (Int32 × aH)) (x3 : Int32) (i : Nat) : f_X12_isSo_39 K 2000 g 308 (nI r) (nI i) x3 (nI i) 0 = K (wI g 328 (w4 (hI g 328) (4 * r) T 4)) 308 (nI r) (nI i) x3 (nI (i + 1)) := by
  refine itLoop (σ := aH × Int32) (fun k s => f_X12_isSo_39 K k s.1 308 (nI r) (nI i) x3 (nI i) s.2) (fun e s => s = (wI g 328 (w4 (hI g 328) (4 * r) T e), nI e)) (fun o => o = K (wI g 328 (w4 (hI g 328) (4 * r) T 4)) 308 (nI r) (nI i) x3 (nI (i + 1))) 4 ?_ ?_ 2000 0 (g, 0) ?_ (by omega) (by omega)
  · rintro k e _ he rfl
    refine Or.inr ⟨_, rfl, ?_⟩
    show b_X12_isSo_39 K (f_X12_isSo_39 K k) (wI g 328 (w4 (hI g 328) (4 * r) T e)) 308 (nI r) (nI i) x3 (nI i) (nI e) = _
    have c : ¬ (4 : Int32) ≤ nI e := nI_ge (b := 4) he (by decide)
    have wr := withR0 (h := wI g 328 (w4 (hI g 328) (4 * r) T e)) hS he
    rw [hI_wI_ne _ _ (by decide), eS] at wr
    simp only [b_X12_isSo_39, if_neg c, if_true, q_308, hR_wI, r_308_34 hS, Option.bind_some, wr, aBind_some, aLet, i4r, q_328, if_pos (in328 (show 4 * r + e < 28 by omega)), nI_clamp (show 4 * r + e < 2 ^ 31 by omega), pI_wI, i1, w4]
  · rintro k _ rfl
    show b_X12_isSo_39 K (f_X12_isSo_39 K k) (wI g 328 (w4 (hI g 328) (4 * r) T 4)) 308 (nI r) (nI i) x3 (nI i) (nI 4) = _
    simp only [b_X12_isSo_39, if_pos (show (4 : Int32) ≤ nI 4 by decide), b_X12_isSo_76, i1]
  · show (g, (0 : Int32)) = (wI g 328 (hI g 328), nI 0)
    rw [wI_self]; rfl
theorem isSo_ne {g : aH} {x1 x2 : Int32} (K : aH → Nat → Int32 → Int32 → Int32 → Int32 → Option (Int32 × aH)) (x3 : Int32) {i : Nat} (n : ¬ nI i = x2) : f_X12_isSo_39 K 2000 g 308 x1 x2 x3 (nI i) 0 = K g 308 x1 x2 x3 (nI (i + 1)) := by
  show b_X12_isSo_39 K (f_X12_isSo_39 K 1999) g 308 x1 x2 x3 (nI i) 0 = _
  simp only [b_X12_isSo_39, if_neg (show ¬ (4 : Int32) ≤ 0 by decide), if_neg n, b_X12_isSo_76, i1]
def KX (h h' : aH) : Prop := Upd (fun c => c = 308 ∨ (314 ≤ c ∧ c ≤ 322) ∨ c = 328) h h' ∧ ∀ j, j ≠ 18 → hI h' 308 j = hI h 308 j
theorem KX.rf (a : aH) : KX a a := ⟨Upd.rf a, fun _ _ => rfl⟩
theorem KX.tr {a b c : aH} (x : KX a b) (y : KX b c) : KX a c := ⟨x.1.tr y.1, fun j hj => (y.2 j hj).trans (x.2 j hj)⟩
theorem RX.kx {a b : aH} (x : RX a b) : KX a b := ⟨x.1.mono (fun c hc => by omega), x.2⟩
theorem KX.w {h : aH} {f : Row} : KX h (wI h 328 f) := ⟨Upd.wI (by omega), fun j _ => by rw [hI_wI_ne _ _ (by omega)]⟩
def thI (W : Row) (r : Nat) (th : Option Nat) (P : Nat → Row) (i : Nat) : Row := match th with
  | none => W
  | some t => if t < i then w4 W (4 * r) (P (t + 1)) 4 else W
theorem isSoR {g h0 : aH} (hS : Str g) {S0 : Row} (v : VS S0) (y : YR S0 0) {f : Option Nat} (ok : RlOK h0 f) (eF : hI g 308 21 = frI f) (eC : ∀ b, 310 ≤ b → b ≤ 313 → hI g b = hI h0 b) (eD : hI g 308 23 = 0) (es : hI g 318 = S0) {m : Nat} (b : NtB S0 m) {r : Nat} (hr : r < 7) {th : Option Nat} (ht : ∀ t, th = some t → t ≤ 30) :
    ∃ g', f_X12_isSo g 308 (nI r) (frI th) = some (bB (fitP h0 f S0 m 31), g') ∧ hI g' 318 = passN h0 f S0 31 ∧ hI g' 328 = thI (hI g 328) r th (passN h0 f S0) 31 ∧ KX g g' := by
  refine itLoop (σ := aH × Int32 × Int32) (fun k s => f_X12_isSo_5 k s.1 308 (nI r) (frI th) s.2.1 s.2.2) (fun i s => s = (s.1, bB (fitP h0 f S0 m i), nI i) ∧ hI s.1 318 = passN h0 f S0 i ∧ hI s.1 328 = thI (hI g 328) r th (passN h0 f S0) i ∧ KX g s.1)
    (fun o => ∃ g', o = some (bB (fitP h0 f S0 m 31), g') ∧ hI g' 318 = passN h0 f S0 31 ∧ hI g' 328 = thI (hI g 328) r th (passN h0 f S0) 31 ∧ KX g g') 31 ?_ ?_ 2000 0 (g, 1, 0) ⟨rfl, es, ?_, KX.rf g⟩ (by omega) (by omega)
  · rintro k i s hi ⟨e', si, wi, x⟩
    have Ss := x.1.str hS
    obtain ⟨vi, oi, yi⟩ := passN_ok (h0 := h0) (f := f) v y i
    obtain ⟨vj, oj, yj⟩ := passN_ok (h0 := h0) (f := f) v y (i + 1)
    have q : ¬ (30 : Int32) < nI i := nI_nlt (a := 30) (by omega) (by decide)
    obtain ⟨g1, fg, sg, xg⟩ := passes_eq Ss si vi yi (by omega) ok (by rw [x.2 21 (by decide)]; exact eF) (fun b p q => by rw [x.1.2.2.1 b (by omega), eC b p q]) (d := false) (by rw [x.2 23 (by decide)]; exact eD)
    rw [Bool.false_or] at fg sg
    have S1 := xg.str Ss
    have hj : ∀ j, 78 ≤ j → passN h0 f S0 (i + 1) j = S0 j := fun j hj => oj j (by omega)
    have nt := notesR S1 (b.of hj) sg (nI i)
    rw [ntB_of hj] at nt
    have x1 := x.tr xg.kx
    have w1 : hI g1 328 = thI (hI g 328) r th (passN h0 f S0) i := by rw [xg.o (by decide) (by decide)]; exact wi
    have mid : ∃ g2, f_X12_isSo_39 (f_X12_isSo_5 k) 2000 g1 308 (nI r) (frI th) (bB (fitP h0 f S0 m (i + 1))) (nI i) 0 = f_X12_isSo_5 k g2 308 (nI r) (frI th) (bB (fitP h0 f S0 m (i + 1))) (nI (i + 1)) ∧ hI g2 318 = passN h0 f S0 (i + 1) ∧ hI g2 328 = thI (hI g 328) r th (passN h0 f S0) (i + 1) ∧ KX g g2 := by
      cases th with
      | none => exact ⟨g1, isSo_ne _ _ (nI_m1 (by omega)), sg, w1, x1⟩
      | some t =>
        have lt := ht t rfl
        by_cases z : t = i
        · subst z
          refine ⟨wI g1 328 (w4 (hI g1 328) (4 * r) (passN h0 f S0 (t + 1)) 4), isSo_eq S1 sg hr _ _ t, by rw [hI_wI_ne _ _ (by decide)]; exact sg, ?_, x1.tr KX.w⟩
          rw [hI_wI_eq, w1]
          simp only [thI, if_neg (show ¬ t < t by omega), if_pos (show t < t + 1 by omega)]
        · refine ⟨g1, isSo_ne _ _ (fun w => z ((nI_eq (by omega) (by omega)).mp w).symm), sg, ?_, x1⟩
          rw [w1]
          simp only [thI]
          by_cases y' : t < i
          · rw [if_pos y', if_pos (by omega)]
          · rw [if_neg y', if_neg (by omega)]
    obtain ⟨g2, m1, m2, m3, m4⟩ := mid
    refine Or.inr ⟨(g2, bB (fitP h0 f S0 m (i + 1)), nI (i + 1)), ⟨rfl, m2, m3, m4⟩, ?_⟩
    rw [e']
    show b_X12_isSo_5 (f_X12_isSo_5 k) s.1 308 (nI r) (frI th) (bB (fitP h0 f S0 m i)) (nI i) = f_X12_isSo_5 k g2 308 (nI r) (frI th) (bB (fitP h0 f S0 m (i + 1))) (nI (i + 1))
    rw [← m1]
    cases e : fitP h0 f S0 m i with
    | false =>
      have e1 : fitP h0 f S0 m (i + 1) = false := by rw [fitP, e, Bool.false_and]
      rw [e1]
      simp only [b_X12_isSo_5, if_neg q, q_308, fg, aBind_some, bB, if_true, b_X12_isSo_34, b_X12_isSo_35]
    | true =>
      cases e2 : ntB S0 (passN h0 f S0 (i + 1)) (nI i) m 0 with
      | false =>
        have e1 : fitP h0 f S0 m (i + 1) = false := by rw [fitP, e, e2]; rfl
        rw [e2] at nt
        rw [e1]
        simp only [b_X12_isSo_5, if_neg q, q_308, fg, aBind_some, bB, if_neg (show ¬ (1 : Int32) = 0 by decide), nt, if_true, b_X12_isSo_34, b_X12_isSo_35]
      | true =>
        have e1 : fitP h0 f S0 m (i + 1) = true := by rw [fitP, e, e2]; rfl
        rw [e2] at nt
        rw [e1]
        simp only [b_X12_isSo_5, if_neg q, q_308, fg, aBind_some, bB, if_neg (show ¬ (1 : Int32) = 0 by decide), nt, b_X12_isSo_35]
  · rintro k s ⟨e', si, wi, x⟩
    refine ⟨s.1, ?_, si, wi, x⟩
    rw [e']
    show b_X12_isSo_5 (f_X12_isSo_5 k) s.1 308 (nI r) (frI th) (bB (fitP h0 f S0 m 31)) (nI 31) = _
    simp only [b_X12_isSo_5, if_pos (show (30 : Int32) < nI 31 by decide), if_pos (bB01 _)]
  · unfold thI
    cases th with
    | none => rfl
    | some t => simp only [if_neg (show ¬ t < 0 by omega)]
/-- the r-th of none and the rules -/
def rfN (r : Nat) : Option Nat := if r = 0 then none else some (r - 1)
theorem rfN_i : ∀ r, r < 7 → nI r - 1 = frI (rfN r) := by decide +kernel
theorem rfN_ok {h : aH} (hV : Inv h) {R : Nat} (hR : hI h 308 2 = nI R) (l6 : R ≤ 6) {r : Nat} (hr : r ≤ R) : RlOK h (rfN r) ∧ RlIn h (rfN r) := by
  have rr := hV.2.2.1
  unfold rfN
  by_cases q : r = 0
  · rw [if_pos q]; exact ⟨(fun k z => by cases z), (fun k z => by cases z)⟩
  · rw [if_neg q]
    refine ⟨fun k z => ?_, fun k z => ?_⟩
    · cases z
      exact ⟨by omega, rr.2.2 (r - 1) (by omega) (by rw [hR]; exact nI_lt (by omega) (by omega))⟩
    · cases z
      exact ⟨by omega, by rw [rr.1, hR]; exact nI_lt (by omega) (by omega)⟩
theorem nbB (b : Bool) : vp_nar .boolean (bB b) = bB b := by cases b; exact nb0; exact nb1
def LX (h h' : aH) : Prop := Upd (fun c => c = 308 ∨ (314 ≤ c ∧ c ≤ 322) ∨ c = 327 ∨ c = 328) h h' ∧ ∀ j, j ≠ 18 → j ≠ 21 → hI h' 308 j = hI h 308 j
theorem LX.rf (a : aH) : LX a a := ⟨Upd.rf a, fun _ _ _ => rfl⟩
theorem LX.tr {a b c : aH} (x : LX a b) (y : LX b c) : LX a c := ⟨x.1.tr y.1, fun j hj hk => (y.2 j hj hk).trans (x.2 j hj hk)⟩
theorem KX.lx {a b : aH} (x : KX a b) : LX a b := ⟨x.1.mono (fun c hc => by omega), fun j h _ => x.2 j h⟩
theorem LX.f {h : aH} (x : Int32) : LX h (pI h 308 21 x) := ⟨Upd.pI (by omega), fun j _ q => by rw [hI_eq, upd_ne _ _ q]⟩
theorem LX.p {h : aH} {i : Nat} (x : Int32) : LX h (pI h 327 i x) := ⟨Upd.pI (by omega), fun j _ _ => by rw [hI_ne _ (by decide)]⟩
theorem LX.w {h : aH} (f : Row) : LX h (wI h 318 f) := ⟨Upd.wI (by omega), fun j _ _ => by rw [hI_wI_ne _ _ (by decide)]⟩
theorem fills_eq {g h : aH} (hV : Inv h) (hS : Str g) {S : Row} (vS : VS S) (tS : VT S) (eS : hI g 318 = S) {R : Nat} (l6 : R ≤ 6) (eR : hI g 308 2 = nI R) (hR : hI h 308 2 = nI R) (eC : ∀ b, 310 ≤ b → b ≤ 313 → hI g b = hI h b) (eD : hI g 308 23 = 0) {m : Nat} (b : NtB S m) {th : Option Nat} (ht : ∀ t, th = some t → t ≤ 30) :
    ∃ g', f_X12_fillsFits g 308 (frI th) = some ((), g') ∧ (∀ r, r ≤ R → hI g' 327 r = bB (fitP h (rfN r) (beginOf S) m 31)) ∧ (∀ t, th = some t → ∀ r, r ≤ R → ∀ e, e < 4 → hI g' 328 (4 * r + e) = passN h (rfN r) (beginOf S) (t + 1) (12 + 4 * e)) ∧ hI g' 318 = S ∧ hI g' 308 21 = hI g 308 21 ∧ Upd (fun c => c = 308 ∨ (314 ≤ c ∧ c ≤ 322) ∨ c = 324 ∨ c = 327 ∨ c = 328) g g' ∧ (∀ j, j ≠ 18 → hI g' 308 j = hI g 308 j) := by
  obtain ⟨g1, d1⟩ : ∃ g1, g1 = wI g 324 (va_cpy (hI g 318) (hI g 324) 10 0 68) := ⟨_, rfl⟩
  have k1 : Kp g1 S := by rw [d1, ← eS]; exact Kp.keep g
  have S1 : Str g1 := by rw [d1]; exact hS
  have og : ∀ b, b ≠ 324 → hI g1 b = hI g b := fun b hb => by rw [d1, hI_wI_ne _ _ hb]
  have v0 := vS.begin tS
  have y0 := YR.begin S
  have b0 : NtB (beginOf S) m := b.of (fun j hj => beginOf_hi hj)
  have key : ∃ g', f_X12_fillsFits_11 2000 g1 308 (frI th) (hI g 308 21) 0 = some ((), g') ∧ (∀ r, r ≤ R → hI g' 327 r = bB (fitP h (rfN r) (beginOf S) m 31)) ∧ (∀ t, th = some t → ∀ r, r ≤ R → ∀ e, e < 4 → hI g' 328 (4 * r + e) = passN h (rfN r) (beginOf S) (t + 1) (12 + 4 * e)) ∧ hI g' 318 = S ∧ hI g' 308 21 = hI g 308 21 ∧ LX g1 g' := by
    refine itLoop (σ := aH × Int32) (fun k s => f_X12_fillsFits_11 k s.1 308 (frI th) (hI g 308 21) s.2) (fun i s => s = (s.1, nI i) ∧ (∀ r, r < i → hI s.1 327 r = bB (fitP h (rfN r) (beginOf S) m 31)) ∧ (∀ t, th = some t → ∀ r, r < i → ∀ e, e < 4 → hI s.1 328 (4 * r + e) = passN h (rfN r) (beginOf S) (t + 1) (12 + 4 * e)) ∧ (∀ j, j < 10 ∨ 78 ≤ j → hI s.1 318 j = S j) ∧ LX g1 s.1)
      (fun o => ∃ g', o = some ((), g') ∧ (∀ r, r ≤ R → hI g' 327 r = bB (fitP h (rfN r) (beginOf S) m 31)) ∧ (∀ t, th = some t → ∀ r, r ≤ R → ∀ e, e < 4 → hI g' 328 (4 * r + e) = passN h (rfN r) (beginOf S) (t + 1) (12 + 4 * e)) ∧ hI g' 318 = S ∧ hI g' 308 21 = hI g 308 21 ∧ LX g1 g') (R + 1) ?_ ?_ 2000 0 (g1, 0) ⟨rfl, fun r hr => by omega, fun t _ r hr => by omega, fun j _ => by rw [og 318 (by decide), eS], LX.rf g1⟩ (by omega) (by omega)
    · rintro k i s hi ⟨e', a1, a2, a3, x⟩
      have Ss := x.1.str S1
      have e2 : hI s.1 308 2 = nI R := by rw [x.2 2 (by decide) (by decide), og 308 (by decide)]; exact eR
      have q : ¬ nI R < nI i := nI_nlt (by omega) (by omega)
      obtain ⟨g2, eg2⟩ : ∃ g2, g2 = pI s.1 308 21 (frI (rfN i)) := ⟨_, rfl⟩
      have S2 : Str g2 := by rw [eg2]; exact Ss
      have x2 : LX g1 g2 := by rw [eg2]; exact x.tr (LX.f _)
      have bg := begins_eq S2
      have s2 : hI g2 318 = hI s.1 318 := by rw [eg2, hI_ne _ (by decide)]
      rw [s2, beginOf_eq a3] at bg
      obtain ⟨g3, eg3⟩ : ∃ g3, g3 = wI g2 318 (beginOf S) := ⟨_, rfl⟩
      rw [← eg3] at bg
      have S3 : Str g3 := by rw [eg3]; exact S2
      have x3 : LX g1 g3 := by rw [eg3]; exact x2.tr (LX.w _)
      obtain ⟨rk, ri⟩ := rfN_ok hV hR l6 (r := i) (by omega)
      have f21 : hI g3 308 21 = frI (rfN i) := by rw [eg3, hI_wI_ne _ _ (by decide), eg2, hI_eq, upd_at]
      obtain ⟨g4, f4, s4, w4', x4⟩ := isSoR S3 v0 y0 rk f21 (fun b p q => by rw [x3.1.2.2.1 b (by omega), og b (by omega), eC b p q]) (by rw [x3.2 23 (by decide) (by decide), og 308 (by decide)]; exact eD) (by rw [eg3, hI_wI_eq]) b0 (r := i) (by omega) ht
      have S4 := x4.1.str S3
      have o327 : hI g4 327 = hI s.1 327 := by rw [x4.1.2.2.1 327 (by decide), eg3, hI_wI_ne _ _ (by decide), eg2, hI_ne _ (by decide)]
      have o328 : hI g3 328 = hI s.1 328 := by rw [eg3, hI_wI_ne _ _ (by decide), eg2, hI_ne _ (by decide)]
      refine Or.inr ⟨(pI g4 327 i (bB (fitP h (rfN i) (beginOf S) m 31)), nI (i + 1)), ⟨rfl, fun r hr => ?_, fun t et r hr e he => ?_, fun j hj => ?_, (x3.tr x4.lx).tr (LX.p _)⟩, ?_⟩
      · show hI (pI g4 327 i _) 327 r = _
        rw [hI_eq, o327]
        by_cases z : r = i
        · rw [z, upd_at]
        · rw [upd_ne _ _ z]; exact a1 r (by omega)
      · show hI (pI g4 327 i _) 328 (4 * r + e) = _
        rw [hI_ne _ (by decide), w4', o328]
        subst et
        simp only [thI, if_pos (show t < 31 by have := ht t rfl; omega)]
        by_cases z : r = i
        · rw [z, w4_in 4 e he]
        · rw [w4_out 4 (by omega)]; exact a2 t rfl r (by omega) e he
      · show hI (pI g4 327 i _) 318 j = S j
        rw [hI_ne _ (by decide), s4, (passN_ok v0 y0 31).2.1 j (by omega)]
        rcases hj with hj | hj
        · exact beginOf_lo hj
        · exact beginOf_hi hj
      · rw [e']
        show b_X12_fillsFits_11 (f_X12_fillsFits_11 k) s.1 308 (frI th) (hI g 308 21) (nI i) = _
        have m1 := rfN_i i (by omega)
        simp only [b_X12_fillsFits_11, q_308, e2, if_neg q, aLet, m1, ← eg2, bg, aBind_some, r_308_33 S3, Option.bind_some, f4, q_327, if_pos (in327 (show i < 7 by omega)), nI_clamp (show i < 2 ^ 31 by omega), nbB, i1]
    · rintro k s ⟨e', a1, a2, a3, x⟩
      have Ss := x.1.str S1
      have e2 : hI s.1 308 2 = nI R := by rw [x.2 2 (by decide) (by decide), og 308 (by decide)]; exact eR
      obtain ⟨g2, eg2⟩ : ∃ g2, g2 = pI s.1 308 21 (hI g 308 21) := ⟨_, rfl⟩
      have S2 : Str g2 := by rw [eg2]; exact Ss
      have o2 : ∀ b, b ≠ 308 → hI g2 b = hI s.1 b := fun b hb => by rw [eg2, hI_ne _ hb]
      have k2 : Kp g2 S := fun j hj => by rw [o2 324 (by decide), x.1.2.2.1 324 (by decide)]; exact k1 j hj
      have lay := k2.lays S2 (fun j hj => by rw [o2 318 (by decide)]; exact a3 j hj)
      refine ⟨wI g2 318 S, ?_, fun r hr => ?_, fun t et r hr e he => ?_, hI_wI_eq _ _ _, ?_, ?_⟩
      · rw [e']
        show b_X12_fillsFits_11 (f_X12_fillsFits_11 k) s.1 308 (frI th) (hI g 308 21) (nI (R + 1)) = _
        simp only [b_X12_fillsFits_11, q_308, e2, if_pos (nI_lt (show R < R + 1 by omega) (by omega)), aLet, ← eg2, lay, aBind_some]
      · rw [hI_wI_ne _ _ (by decide), o2 327 (by decide)]; exact a1 r (by omega)
      · rw [hI_wI_ne _ _ (by decide), o2 328 (by decide)]; exact a2 t et r (by omega) e he
      · rw [hI_wI_ne _ _ (by decide), eg2, hI_eq, upd_at]
      · rw [eg2]; exact (x.tr (LX.f _)).tr (LX.w _)
  obtain ⟨g', f', a1, a2, a3, a4, x⟩ := key
  refine ⟨g', ?_, a1, a2, a3, a4, ?_, fun j hj => ?_⟩
  · simp only [f_X12_fillsFits, q_308, aLet, keeps_eq hS, aBind_some, ← d1, f']
  · exact (show Upd _ g g1 by rw [d1]; exact Upd.wI (by omega)).tr (x.1.mono (fun c hc => by omega))
  · by_cases z : j = 21
    · rw [z]; exact a4
    · rw [x.2 j hj z, og 308 (by decide)]
