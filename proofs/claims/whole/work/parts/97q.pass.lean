/-! ===== a fair ===== -/
theorem ln_0 (l t : Int32) : t ≤ l → l ≤ t → l + 0 = lrn l t := fun a b => by rw [lrn, if_pos a, if_pos b, Int32.add_zero]
theorem ln_m (l t : Int32) : t ≤ l → ¬ l ≤ t → l + (-1) = lrn l t := fun a b => by rw [lrn, if_pos a, if_neg b, Int32.sub_eq_add_neg]
theorem ln_p (l t : Int32) : ¬ t ≤ l → l + 1 = lrn l t := fun a => by rw [lrn, if_neg a]
theorem k16 (s e w : Nat) : (((16 : Int32) * nI s) + (4 * nI e)) + nI w = nI (16 * s + 4 * e + w) := by
  rw [show (16 : Int32) = nI 16 from rfl, show (4 : Int32) = nI 4 from rfl, pk_mul, pk_mul, nI_add, nI_add]
theorem i43 (k : Nat) : (43 : Int32) + nI k = nI (43 + k) := nI_add 43 k
theorem i78 (k : Nat) : (78 : Int32) + nI k = nI (78 + k) := nI_add 78 k
theorem learn_st {h : aH} (hS : Str h) {e w s : Nat} (he : e < 4) (hw : w < 4) (hs : s < 2) (K : aH → Nat → Int32 → Int32 → Int32 → Option (Unit × aH)) : b_X12_learns_15 K h 308 (nI e) (nI w) (nI s) = K (wI h 318 (upd (hI h 318) (43 + (16 * s + 4 * e + w)) (lrn (hI h 318 (43 + (16 * s + 4 * e + w))) (hI h 318 (78 + (16 * s + 4 * e + w)))))) 308 (nI e) (nI w) (nI (s + 1)) := by
  have c : ¬ (2 : Int32) ≤ nI s := nI_ge (b := 2) hs (by decide)
  by_cases q : hI h 318 (78 + (16 * s + 4 * e + w)) ≤ hI h 318 (43 + (16 * s + 4 * e + w))
  · by_cases p : hI h 318 (43 + (16 * s + 4 * e + w)) ≤ hI h 318 (78 + (16 * s + 4 * e + w))
    · simp only [b_X12_learns_15, if_neg c, aLet, k16, q_308, r_308_20 hS, Option.bind_some, i43, i78, q_318, if_pos (in318 (show 43 + (16 * s + 4 * e + w) < 184 by omega)), if_pos (in318 (show 78 + (16 * s + 4 * e + w) < 184 by omega)), nI_clamp (show 43 + (16 * s + 4 * e + w) < 2 ^ 31 by omega), nI_clamp (show 78 + (16 * s + 4 * e + w) < 2 ^ 31 by omega), if_pos q, if_pos p, b_X12_learns_98, ln_0 _ _ q p, i1, pI_d]
    · simp only [b_X12_learns_15, if_neg c, aLet, k16, q_308, r_308_20 hS, Option.bind_some, i43, i78, q_318, if_pos (in318 (show 43 + (16 * s + 4 * e + w) < 184 by omega)), if_pos (in318 (show 78 + (16 * s + 4 * e + w) < 184 by omega)), nI_clamp (show 43 + (16 * s + 4 * e + w) < 2 ^ 31 by omega), nI_clamp (show 78 + (16 * s + 4 * e + w) < 2 ^ 31 by omega), if_pos q, if_neg p, b_X12_learns_98, ln_m _ _ q p, i1, pI_d]
  · simp only [b_X12_learns_15, if_neg c, aLet, k16, q_308, r_308_20 hS, Option.bind_some, i43, i78, q_318, if_pos (in318 (show 43 + (16 * s + 4 * e + w) < 184 by omega)), if_pos (in318 (show 78 + (16 * s + 4 * e + w) < 184 by omega)), nI_clamp (show 43 + (16 * s + 4 * e + w) < 2 ^ 31 by omega), nI_clamp (show 78 + (16 * s + 4 * e + w) < 2 ^ 31 by omega), if_neg q, b_X12_learns_98, ln_p _ _ q, i1, pI_d]
theorem learns_eq {h : aH} (hS : Str h) {S : Row} (eS : hI h 318 = S) (v : VS S) {e : Nat} (he : e < nE S) : f_X12_learns h 308 (nI e) = some ((), wI h 318 (learnE S e)) := by
  have he4 : e < 4 := by have := v.e3.2; omega
  have wr := withR0 hS he4
  rw [eS] at wr
  by_cases q : S (12 + 4 * e) < 0
  · rw [learnE, if_pos q]
    have : wI h 318 S = h := by rw [← eS]; exact wI_self h 318
    simp only [f_X12_learns, q_308, wr, aBind_some, if_neg (Int32.not_le.mpr q), this]
  · obtain ⟨w, hw, pe, pw, _⟩ := with_e v he q
    have hw4 : w < 4 := by have := v.e4.2; omega
    have ew : wOf S e = w := by unfold wOf; rw [pe, nI_clamp (by omega)]
    rw [pe] at wr
    rw [learnE, if_neg q, ew]
    simp only [f_X12_learns, q_308, wr, aBind_some, if_pos (nI_pos' (show w < 2 ^ 31 by omega))]
    show b_X12_learns_15 (f_X12_learns_15 1999) h 308 (nI e) (nI w) (nI 0) = _
    rw [learn_st hS he4 hw4 (s := 0) (by decide) (f_X12_learns_15 1999), eS, show 43 + (16 * 0 + 4 * e + w) = 43 + 4 * e + w by omega, show 78 + (16 * 0 + 4 * e + w) = 78 + 4 * e + w by omega]
    obtain ⟨T, eT⟩ : ∃ T, T = upd S (43 + 4 * e + w) (lrn (S (43 + 4 * e + w)) (S (78 + 4 * e + w))) := ⟨_, rfl⟩
    rw [← eT]
    show b_X12_learns_15 (f_X12_learns_15 1998) (wI h 318 T) 308 (nI e) (nI w) (nI 1) = _
    rw [learn_st (h := wI h 318 T) hS he4 hw4 (s := 1) (by decide) (f_X12_learns_15 1998), hI_wI_eq, wI_wI, show 43 + (16 * 1 + 4 * e + w) = 59 + 4 * e + w by omega, show 78 + (16 * 1 + 4 * e + w) = 94 + 4 * e + w by omega]
    have t1 : T (59 + 4 * e + w) = S (59 + 4 * e + w) := by rw [eT, upd_ne _ _ (by omega)]
    have t2 : T (94 + 4 * e + w) = S (94 + 4 * e + w) := by rw [eT, upd_ne _ _ (by omega)]
    rw [t1, t2]
    obtain ⟨U, eU⟩ : ∃ U, U = upd T (59 + 4 * e + w) (lrn (S (59 + 4 * e + w)) (S (94 + 4 * e + w))) := ⟨_, rfl⟩
    rw [← eU]
    have u1 : U (11 + 4 * e + 2) = S (13 + 4 * e) := by rw [eU, upd_ne _ _ (by omega), eT, upd_ne _ _ (by omega)]; congr 1; omega
    have u2 : upd U (11 + 4 * e + 2) (S (13 + 4 * e) + 1) (27 + 4 * w + 2) = S (29 + 4 * w) := by rw [upd_ne _ _ (by omega), eU, upd_ne _ _ (by omega), eT, upd_ne _ _ (by omega)]; congr 1; omega
    show b_X12_learns_15 (f_X12_learns_15 1997) (wI h 318 U) 308 (nI e) (nI w) (nI 2) = _
    simp only [b_X12_learns_15, if_pos (show (2 : Int32) ≤ nI 2 by decide), q_308, hR_wI, r_308_20 hS, Option.bind_some, f_X12_placeOf, aBind_some, pl0, pl1, aLet, i2, q_318, if_pos (in318 (show 11 + 4 * e + 2 < 184 by omega)), if_pos (in318 (show 27 + 4 * w + 2 < 184 by omega)), nI_clamp (show 11 + 4 * e + 2 < 2 ^ 31 by omega), nI_clamp (show 27 + 4 * w + 2 < 2 ^ 31 by omega), hI_wI_eq, pI_wI, u1, u2]
    rw [learnT, ← eT, ← eU, show 13 + 4 * e = 11 + 4 * e + 2 by omega, show 29 + 4 * w = 27 + 4 * w + 2 by omega]
theorem yearR {h : aH} (hS : Str h) {S : Row} (eS : hI h 318 = S) (v : VS S) (x : Int32) : b_X12_passes_111 h 308 x = some (x, wI h 318 (yearT S)) := by
  have e3 := v.e3
  refine itLoop (σ := aH × Int32) (fun n s => f_X12_passes_113 n s.1 308 x s.2) (fun i s => s = (wI h 318 (learnA S i), nI i)) (fun o => o = some (x, wI h 318 (yearT S))) (nE S) ?_ ?_ 2000 0 (h, 0) ?_ (by omega) (by omega)
  · rintro m i _ hi rfl
    refine Or.inr ⟨_, rfl, ?_⟩
    obtain ⟨vi, oi⟩ := learnA_i v (i := i) (by omega)
    have c : ¬ nI (nE S) ≤ nI i := nI_ge hi (by omega)
    have r3 : learnA S i 3 = nI (nE S) := by rw [oi 3 (by omega), e3.1]
    have le := learns_eq (h := wI h 318 (learnA S i)) hS (hI_wI_eq _ _ _) vi (e := i) (by rw [nE_of (oi 3 (by omega))]; exact hi)
    rw [wI_wI] at le
    show b_X12_passes_113 (f_X12_passes_113 m) (wI h 318 (learnA S i)) 308 x (nI i) = _
    simp only [b_X12_passes_113, q_308, hR_wI, r_308_20 hS, Option.bind_some, q_318, if_pos in3, cl3, hI_wI_eq, r3, if_neg c, le, aBind_some, i1, learnA]
  · rintro m _ rfl
    obtain ⟨vi, oi⟩ := learnA_i v (i := nE S) (by omega)
    have r3 : learnA S (nE S) 3 = nI (nE S) := by rw [oi 3 (by omega), e3.1]
    have r10 : learnA S (nE S) 10 = S 10 := oi 10 (by omega)
    show b_X12_passes_113 (f_X12_passes_113 m) (wI h 318 (learnA S (nE S))) 308 x (nI (nE S)) = _
    simp only [b_X12_passes_113, q_308, hR_wI, r_308_20 hS, Option.bind_some, q_318, if_pos in3, cl3, hI_wI_eq, r3, if_pos (Int32.le_refl (nI (nE S))), if_pos in10, cl10, aLet, pI_wI, r10, yearT]
  · show (h, (0 : Int32)) = (wI h 318 S, nI 0)
    rw [← eS, wI_self]; rfl
/-- a fair as it changes a row -/
def bef (S : Row) : Row := fun e => S (12 + 4 * e)
def fairS (h0 : aH) (f : Option Nat) (S : Row) : Row := joinA (partA h0 f S (nE S)) (askN (partA h0 f S (nE S)) (bef S) 16 (A0, H0)).2 (nW (partA h0 f S (nE S)))
def fairC (h0 : aH) (f : Option Nat) (S : Row) : Int32 := cntA (askN (partA h0 f S (nE S)) (bef S) 16 (A0, H0)).2 (nW (partA h0 f S (nE S)))
def passS (h0 : aH) (f : Option Nat) (l : Bool) (S : Row) : Row := yearT (if l = true then S else fairS h0 f S)
def passC (h0 : aH) (f : Option Nat) (l : Bool) (S : Row) : Int32 := if l = true then 0 else fairC h0 f S
theorem fairS_ok {h0 : aH} {f : Option Nat} {S : Row} (v : VS S) : VS (fairS h0 f S) ∧ ∀ j, j < 11 ∨ 43 ≤ j → fairS h0 f S j = S j := by
  obtain ⟨a, b, _⟩ := partA_i (h0 := h0) (f := f) v (i := nE S) (by omega)
  obtain ⟨c, d, _⟩ := joinA_i a (askN_ok a (B := bef S) (n := 16) (s := (A0, H0)) (HOK0 _)) (i := nW (partA h0 f S (nE S))) (by omega)
  exact ⟨c, fun j hj => (d j hj).trans (b j hj)⟩
theorem passS_ok {h0 : aH} {f : Option Nat} {l : Bool} {S : Row} (v : VS S) : VS (passS h0 f l S) ∧ (∀ j, j < 10 ∨ 75 ≤ j → passS h0 f l S j = S j) ∧ passS h0 f l S 10 = S 10 + 1 := by
  unfold passS
  split
  · exact yearT_ok v
  · obtain ⟨a, b⟩ := fairS_ok (h0 := h0) (f := f) v
    obtain ⟨c, d, e⟩ := yearT_ok a
    exact ⟨c, fun j hj => (d j hj).trans (b j (by omega)), by rw [e, b 10 (by omega)]⟩
theorem YR.pass {h0 : aH} {f : Option Nat} {l : Bool} {S : Row} (v : VS S) {n : Nat} (y : YR S n) : YR (passS h0 f l S) (n + 1) := by
  obtain ⟨k, hk, ek⟩ := y
  exact ⟨k + 1, by omega, by rw [(passS_ok v).2.2, ek, nI_1]⟩
theorem st_rule : ∀ a ∈ stL, a + 6 < 66 ∨ 95 < a := by decide +kernel
theorem pass_eq {h h0 : aH} (hS : Str h) {a : Nat} (ha : a ∈ stL) {S : Row} (r : RSt h a S) (v : VS S) {f : Option Nat} (ok : RlOK h0 f) (eC : ∀ b, 66 ≤ b → b ≤ 95 → hI h b = hI h0 b) (l : Bool) :
    ∃ h', f_X0_pass h 38 a (rlA f) (bB l) = some (passC h0 f l S, h') ∧ RSt h' a (passS h0 f l S) ∧ Upd (pC a) h h' := by
  have hh := st_hall a ha
  have hr := st_rule a ha
  cases l with
  | true =>
    obtain ⟨h', f', r', u'⟩ := passYear_eq hS ha r v
    refine ⟨h', ?_, r', u'.mono (fun c hc => Or.inl hc)⟩
    simp only [f_X0_pass, bB, if_neg (show ¬ (1 : Int32) = 0 by decide), b_X0_pass_25, qst0 ha, f', aBind_some, passC, if_true]
  | false =>
    obtain ⟨h1, f1, r1, b1', u1⟩ := partThose_eq hS ha r v ok eC (fun b hb q => by unfold stA at hb; omega)
    obtain ⟨vp, op, _⟩ := partA_i (h0 := h0) (f := f) v (i := nE S) (by omega)
    have n3 : nE (partA h0 f S (nE S)) = nE S := nE_of (op 3 (by omega))
    obtain ⟨h2, f2, k2, u2⟩ := askAround_eq (u1.str hS) ha r1 vp (B := bef S) (fun e he => b1' e (by omega))
    have r2 : RSt h2 a (partA h0 f S (nE S)) := r1.up u2 (fun b p q => by omega)
    obtain ⟨h3, f3, r3, u3⟩ := joinAll_eq (u2.str (u1.str hS)) ha r2 vp k2 (askN_ok vp (HOK0 _))
    have vf := (fairS_ok (h0 := h0) (f := f) v).1
    obtain ⟨h4, f4, r4, u4⟩ := passYear_eq (u3.str (u2.str (u1.str hS))) ha r3 vf
    refine ⟨h4, ?_, r4, ((u1.tr (u2.mono (fun c hc => Or.inr (by omega)))).tr (u3.mono (fun c hc => Or.inl hc))).tr (u4.mono (fun c hc => Or.inl hc))⟩
    simp only [f_X0_pass, bB, if_true, q_38, f1, aBind_some, f2, f3, b_X0_pass_25, qst0 ha, f4, passC, if_neg (show ¬ false = true by decide)]
    rfl
theorem passes_eq {h h0 : aH} (hS : Str h) {S : Row} (eS : hI h 318 = S) (v : VS S) {n : Nat} (y : YR S n) (hn : n < 100000) {f : Option Nat} (ok : RlOK h0 f) (eF : hI h 308 21 = frI f) (eC : ∀ b, 310 ≤ b → b ≤ 313 → hI h b = hI h0 b) {d : Bool} (eD : hI h 308 23 = bB d) :
    ∃ h', f_X12_passes h 308 = some (passC h0 f (d || lateB S) S, h') ∧ hI h' 318 = passS h0 f (d || lateB S) S ∧ RX h h' := by
  have ln : f_X12_isLateNow h 308 = some (bB (d || lateB S), h) := by
    cases d with
    | true => simp only [f_X12_isLateNow, q_308, eD, bB, if_neg (show ¬ (1 : Int32) = 0 by decide), Bool.true_or]
    | false =>
      simp only [f_X12_isLateNow, q_308, eD, bB, if_true, r_308_20 hS, Option.bind_some, q_318, if_pos in10, cl10, eS, isLateR hS eS v.lt y hn, aBind_some, Bool.false_or]
      cases lateB S <;> rfl
  cases c : (d || lateB S) with
  | true =>
    rw [c] at ln
    refine ⟨wI h 318 (yearT S), ?_, hI_wI_eq _ _ _, RX.wI (by omega)⟩
    simp only [f_X12_passes, q_308, ln, aBind_some, bB, if_neg (show ¬ (1 : Int32) = 0 by decide), yearR hS eS v, passC, if_true]
  | false =>
    rw [c] at ln
    obtain ⟨h1, f1, s1, b1', x1⟩ := partsR hS eS v ok eF eC
    obtain ⟨vp, op, _⟩ := partA_i (h0 := h0) (f := f) v (i := nE S) (by omega)
    have n3 : nE (partA h0 f S (nE S)) = nE S := nE_of (op 3 (by omega))
    obtain ⟨h2, f2, s2, x2⟩ := joinsAll_eq (x1.str hS) s1 vp (B := bef S) (fun e he => b1' e (by omega))
    have vf := (fairS_ok (h0 := h0) (f := f) v).1
    have yr := yearR (x2.str (x1.str hS)) s2 vf (fairC h0 f S)
    refine ⟨_, ?_, hI_wI_eq _ _ _, (x1.tr x2).tr (RX.wI (by omega))⟩
    simp only [f_X12_passes, q_308, ln, aBind_some, bB, if_true, f1, f2, passC, if_neg (show ¬ false = true by decide)]
    exact yr
