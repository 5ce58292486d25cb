/-! ===== rule: the reference's tests ===== -/
theorem isH_93 {t : Row} {n p w : Nat} (hp : p ≤ n) (hn : n ≤ 400) (bt : ∀ j, j < 400 → Btw (t j) (-128) 127) (z : bya t n (sk t n p) = 93) : isH t n p w = false := by
  cases o : isH t n p w with
  | false => rfl
  | true =>
    exfalso
    have hl := isH_lt hp o
    have h1 := (of_decide_eq_true o).1
    have sl := sk_le (t := t) hp
    obtain ⟨a1, a2, a3, a4⟩ := fd_s (ble t) (p := sk t n p) sl.2
    have lt : 97 ≤ t (sk t n p) ∧ t (sk t n p) ≤ 122 := of_decide_eq_true (a3 (sk t n p) (Nat.le_refl _) (by unfold lw at h1; omega))
    have e : t (sk t n p) = 93 := (tq_c (c := 93) hl.2.2 (bt _ (by omega)) (by decide)).mp z
    rw [e] at lt
    exact absurd lt.1 (by decide)
theorem isH_s {t : Row} {n p w : Nat} (ss : sk t n p = p) : isH t n p w = isWB t p (lw t n p) w := by unfold isH; rw [ss]
theorem bsOf {st : List Nat} (ok : okTu st) (h : hdS 1 st) : isBs st := by
  cases st with
  | nil => exact Or.inl rfl
  | cons y r =>
    have s := h y r rfl
    rcases ok.x with e | e | e | e
    · exact Or.inr ⟨r, by rw [e]⟩
    · rw [e] at s; exact absurd s (by decide)
    · rw [e] at s; exact absurd s (by decide)
    · rw [e] at s; exact absurd s (by decide)
theorem bsOf2 {st : List Nat} (ok : okTu st) (h : hdS 2 st) : isBs st ∨ ∃ r, st = 13 :: r := by
  cases st with
  | nil => exact Or.inl (Or.inl rfl)
  | cons y r =>
    have s := h y r rfl
    rcases ok.x with e | e | e | e
    · exact Or.inl (Or.inr ⟨r, by rw [e]⟩)
    · rw [e] at s; exact absurd s (by decide)
    · rw [e] at s; exact absurd s (by decide)
    · exact Or.inr ⟨r, by rw [e]⟩
theorem factLR {t : Row} {n k : Nat} (hk : k < 6) : ∀ (M : Nat) (h : aH) (st : List Nat) (s : GS) (K : Nat), RS h t n k st s → st.length ≤ s.1 → n < M + s.1 → M + 1 < K → gB (gF t n (10 - dp st) s) (cont t n st) ≠ none → (∃ h' f, f_X12_fact_2 K h 308 1 = some (0, h') ∧ gB (gF t n (10 - dp st) s) (cont t n st) = gX f ∧ RRx h' t n f ∧ FQ k h h') ∨ (∃ h' st' s', f_X12_fact_2 K h 308 1 = some (1, h') ∧ RS h' t n k st' s' ∧ st'.length ≤ s'.1 ∧ s.1 ≤ s'.1 ∧ gB (gF t n (10 - dp st) s) (cont t n st) = cont t n st' s' ∧ FQ k h h') := by
  intro M
  induction M with
  | zero =>
    intro h st s K r _ h1
    have := r.1.1.2.1
    omega
  | succ M ih =>
    intro h st s K r hl0 h1 h2 hne
    have hp := r.1.1.2.1
    have hn := r.1.1.1.2.2.1
    have sl := sk_le (t := t) hp
    have ss := sk_sk (t := t) hp
    have d10 := r.2.2.2.2.2.1
    have se := seeT r.1
    obtain ⟨g1, eg1⟩ : ∃ g1, g1 = rP h (sk t n s.1) := ⟨_, rfl⟩
    have R1 : RS g1 t n k st (sk t n s.1, s.2) := by rw [eg1]; exact r.p sl.2
    have u1 : FS k h g1 := by rw [eg1]; exact FS.p
    rw [← eg1] at se
    have p8 : hI g1 308 8 = nI (sk t n s.1) := R1.1.1.2.2.1
    have wd := wordT R1.1.1 ss (w := 7237492) (by decide)
    have wd' : f_X12_isWord g1 308 7237492 = some (bB (isH t n s.1 7237492), g1) := wd
    obtain ⟨K', rfl⟩ : ∃ K', K = K' + 2 := ⟨K - 2, by omega⟩
    have code : f_X12_fact_2 (K' + 2) h 308 1 = if isH t n s.1 7237492 = true then (aBind (f_X12_opens g1 308 11) fun r35 h36 => if r35 = 0 then some (0, h36) else aBind (f_X12_passWord h36 308) fun r37 h38 => f_X12_fact_2 (K' + 1) h38 308 1) else if bya t n (sk t n s.1) = 91 then (aBind (f_X12_opens g1 308 91) fun r30 h31 => if r30 = 0 then some (0, h31) else f_X12_fact_2 (K' + 1) (pI h31 308 8 (hI h31 308 8 + 1)) 308 1) else f_X12_fact_2 (K' + 1) g1 308 0 := by
      show b_X12_fact_2 (f_X12_fact_2 (K' + 1)) h 308 1 = _
      simp only [b_X12_fact_2, if_neg (show ¬ (1 : Int32) = 0 by decide), q_308, se, aBind_some, wd', bB_0, b_X12_fact_72, aLet]
    have op10 : ∀ x : Int32, dp st = 10 → ∃ h', f_X12_opens g1 308 x = some (0, h') ∧ RRx h' t n (blm (sk t n s.1) 2 0) ∧ FS k g1 h' := fun x d => by
      obtain ⟨g2, e2, c2, u2⟩ := failK R1.1 2 (sk t n s.1) (blm_ne2 (by omega) (Or.inl rfl))
      refine ⟨g2, ?_, c2, u2⟩
      have f13 : hI g1 308 13 = 10 := by rw [R1.2.2.2.1, d]; rfl
      simp only [f_X12_opens, q_308, f13, if_true, p8, e2, aBind_some, true_or]
    by_cases o : isH t n s.1 7237492 = true
    · rw [if_pos o] at code
      have hl := isH_lt hp o
      by_cases d : dp st = 10
      · obtain ⟨g2, e2, c2, u2⟩ := op10 11 d
        have eF : gF t n (10 - dp st) s = gX (blm (sk t n s.1) 2 0) := by
          rw [d]
          show gF t n 0 s = _
          rw [gF, if_pos o]
        refine Or.inl ⟨g2, _, ?_, by rw [eF]; rfl, c2, (u1.tr u2).q⟩
        rw [code, e2, aBind_some, if_pos rfl]
      · obtain ⟨g2, e2, R2, u2⟩ := opensR R1 (x := 11) (Or.inr rfl) (by omega) (by omega)
        have e2' : f_X12_opens g1 308 11 = some (1, g2) := e2
        have ps : f_X12_passWord g2 308 = some ((), rP g2 (lw t n (sk t n s.1))) := passK R2.1
        have R3 : RS (rP g2 (lw t n (sk t n s.1))) t n k (11 :: st) (lw t n (sk t n s.1), s.2) := R2.p hl.2.1
        have dd : dp (11 :: st) = dp st + 1 := by rw [dp, if_pos (Or.inr rfl)]; omega
        have eq : gB (gF t n (10 - dp st) s) (cont t n st) = gB (gF t n (10 - dp (11 :: st)) (lw t n (sk t n s.1), s.2)) (cont t n (11 :: st)) := by
          rw [dd, show 10 - dp st = (10 - (dp st + 1)) + 1 by omega, gF, if_pos o, gB_a]
          exact gB_cg (fun s1 _ => (cont_e (Or.inl rfl) s1).symm)
        rw [eq] at hne ⊢
        have code2 : f_X12_fact_2 (K' + 2) h 308 1 = f_X12_fact_2 (K' + 1) (rP g2 (lw t n (sk t n s.1))) 308 1 := by
          rw [code, e2', aBind_some, if_neg (by decide), ps, aBind_some]
        rw [code2]
        have Q : FQ k h (rP g2 (lw t n (sk t n s.1))) := u1.q.tr (u2.tr FS.p.q)
        rcases ih _ (11 :: st) (lw t n (sk t n s.1), s.2) (K' + 1) R3 (by rw [List.length_cons]; show st.length + 1 ≤ lw t n (sk t n s.1); omega) (by show n < M + lw t n (sk t n s.1); omega) (by omega) hne with ⟨h', f, a1, a2, a3, a4⟩ | ⟨h', st', s', a1, a2, a3, a4, a5, a6⟩
        · exact Or.inl ⟨h', f, a1, a2, a3, Q.tr a4⟩
        · have a4' : lw t n (sk t n s.1) ≤ s'.1 := a4
          exact Or.inr ⟨h', st', s', a1, a2, a3, by omega, a5, Q.tr a6⟩
    · rw [if_neg o] at code
      by_cases z : bya t n (sk t n s.1) = 91
      · rw [if_pos z] at code
        have hq := bya_c z (by decide)
        by_cases d : dp st = 10
        · obtain ⟨g2, e2, c2, u2⟩ := op10 91 d
          have eF : gF t n (10 - dp st) s = gX (blm (sk t n s.1) 2 0) := by
            rw [d]
            show gF t n 0 s = _
            rw [gF, if_neg o, if_pos z]
          refine Or.inl ⟨g2, _, ?_, by rw [eF]; rfl, c2, (u1.tr u2).q⟩
          rw [code, e2, aBind_some, if_pos rfl]
        · obtain ⟨g2, e2, R2, u2⟩ := opensR R1 (x := 91) (Or.inl rfl) (by omega) (by omega)
          have e2' : f_X12_opens g1 308 91 = some (1, g2) := e2
          have p28 : hI g2 308 8 = nI (sk t n s.1) := R2.1.1.2.2.1
          have pp := R2.1.pp (sk t n s.1 + 1)
          have R3 : RS (rP g2 (sk t n s.1 + 1)) t n k (91 :: st) (sk t n s.1 + 1, s.2) := R2.p (q := sk t n s.1 + 1) (by omega)
          have dd : dp (91 :: st) = dp st + 1 := by rw [dp, if_pos (Or.inl rfl)]; omega
          have eq : gB (gF t n (10 - dp st) s) (cont t n st) = gB (gF t n (10 - dp (91 :: st)) (sk t n s.1 + 1, s.2)) (cont t n (91 :: st)) := by
            rw [dd, show 10 - dp st = (10 - (dp st + 1)) + 1 by omega, gF, if_neg o, if_pos z]
            unfold gTs gPt
            rw [gB_a, gB_a, gB_a]
            refine gB_cg (fun s1 _ => ?_)
            rw [cont_91]
            unfold gA gO gPt
            rw [gB_a]
          rw [eq] at hne ⊢
          have code2 : f_X12_fact_2 (K' + 2) h 308 1 = f_X12_fact_2 (K' + 1) (rP g2 (sk t n s.1 + 1)) 308 1 := by
            rw [code, e2', aBind_some, if_neg (by decide), p28, i1, pp]
          rw [code2]
          have Q : FQ k h (rP g2 (sk t n s.1 + 1)) := u1.q.tr (u2.tr FS.p.q)
          rcases ih _ (91 :: st) (sk t n s.1 + 1, s.2) (K' + 1) R3 (by rw [List.length_cons]; show st.length + 1 ≤ sk t n s.1 + 1; omega) (by show n < M + (sk t n s.1 + 1); omega) (by omega) hne with ⟨h', f, a1, a2, a3, a4⟩ | ⟨h', st', s', a1, a2, a3, a4, a5, a6⟩
          · exact Or.inl ⟨h', f, a1, a2, a3, Q.tr a4⟩
          · have a4' : sk t n s.1 + 1 ≤ s'.1 := a4
            exact Or.inr ⟨h', st', s', a1, a2, a3, by omega, a5, Q.tr a6⟩
      · rw [if_neg z] at code
        have eF : gF t n (10 - dp st) s = gCp t n (sk t n s.1, s.2) := by
          rw [gCp_sk hp]
          cases 10 - dp st with
          | zero => rw [gF, if_neg o, if_neg z]
          | succ e' => rw [gF, if_neg o, if_neg z]
        rw [eF] at hne ⊢
        obtain ⟨g2, e2, c2, u2⟩ := compareR hk R1.1 (gB_n hne)
        have code2 : f_X12_fact_2 (K' + 2) h 308 1 = some (bB (okR (gCp t n (sk t n s.1, s.2))), g2) := by
          rw [code]
          show b_X12_fact_2 (f_X12_fact_2 K') g1 308 0 = _
          simp only [b_X12_fact_2, if_true, q_308, e2, aBind_some]
          cases okR (gCp t n (sk t n s.1, s.2)) with
          | true => rfl
          | false => rfl
        rw [code2]
        cases q : gCp t n (sk t n s.1, s.2) with
        | none => rw [q] at c2; exact c2.elim
        | some v =>
          rw [q] at c2
          cases v with
          | inl f => exact Or.inl ⟨g2, f, rfl, rfl, c2, (u1.tr u2).q⟩
          | inr s' =>
            have mm := mo_cp (sk t n s.1, s.2) s' sl.2 q
            have m1 : sk t n s.1 ≤ s'.1 := mm.1
            exact Or.inr ⟨g2, st, s', rfl, R1.fs u2 c2, by omega, by omega, rfl, (u1.tr u2).q⟩
theorem closesR {t : Row} {n k : Nat} (hk : k < 6) : ∀ (M : Nat) (h : aH) (st : List Nat) (s : GS) (K : Nat), RS h t n k st s → hdS 3 st → st.length ≤ s.1 → n < M + s.1 → M < K → cont t n st s ≠ none → ∃ h' st' s', f_X12_closes_5 K h 308 = some ((), h') ∧ RS h' t n k st' s' ∧ st'.length ≤ s'.1 ∧ s.1 ≤ s'.1 ∧ sk t n s'.1 = s'.1 ∧ hdS 3 st' ∧ (bya t n s'.1 = 93 → ¬ 91 ∈ st') ∧ cont t n st s = cont t n st' s' ∧ FQ k h h' := by
  intro M
  induction M with
  | zero =>
    intro h st s K r _ _ h1
    have := r.1.1.2.1
    omega
  | succ M ih =>
    intro h st s K r hd hl0 h1 h2 hne
    have hp := r.1.1.2.1
    have hn := r.1.1.1.2.2.1
    have ok := r.2.2.2.2.1
    have sl := sk_le (t := t) hp
    have ss := sk_sk (t := t) hp
    have se := seeT r.1
    obtain ⟨g1, eg1⟩ : ∃ g1, g1 = rP h (sk t n s.1) := ⟨_, rfl⟩
    have R1 : RS g1 t n k st (sk t n s.1, s.2) := by rw [eg1]; exact r.p sl.2
    have u1 : FS k h g1 := by rw [eg1]; exact FS.p
    rw [← eg1] at se
    have cs := cont_sk (t := t) st s ok hp
    obtain ⟨K', rfl⟩ : ∃ K', K = K' + 1 := ⟨K - 1, by omega⟩
    have ins := insR R1
    have stop : (bya t n (sk t n s.1) = 93 → ¬ 91 ∈ st) → f_X12_closes_5 (K' + 1) h 308 = some ((), g1) → ∃ h' st' s', f_X12_closes_5 (K' + 1) h 308 = some ((), h') ∧ RS h' t n k st' s' ∧ st'.length ≤ s'.1 ∧ s.1 ≤ s'.1 ∧ sk t n s'.1 = s'.1 ∧ hdS 3 st' ∧ (bya t n s'.1 = 93 → ¬ 91 ∈ st') ∧ cont t n st s = cont t n st' s' ∧ FQ k h h' := fun a b => ⟨g1, st, (sk t n s.1, s.2), b, R1, by show st.length ≤ sk t n s.1; omega, sl.1, ss, hd, a, cs.symm, u1.q⟩
    by_cases z : bya t n (sk t n s.1) = 93
    · by_cases i : 91 ∈ st
      · rw [decide_eq_true i] at ins
        have bt : ∀ j, j < 400 → Btw (t j) (-128) 127 := fun j hj => (r.1.1.1.2.2.2 j hj).2
        have na : isH t n (sk t n s.1) 6385252 = false := isH_93 sl.2 hn bt (by rw [ss]; exact z)
        have no : isH t n (sk t n s.1) 28530 = false := isH_93 sl.2 hn bt (by rw [ss]; exact z)
        have hq := bya_c z (by decide)
        have l400 := R1.2.2.2.2.2.2
        rw [← cs] at hne
        obtain ⟨g2, st2, L2, a1, a2, a3, a4, a5, a6, a7⟩ := setR (x1 := 1) (p0 := sk t n s.1) hk (Or.inr (Or.inr ⟨rfl, na, ss⟩)) st g1 (sk t n s.1, s.2) 2000 R1 hne (by omega)
        have bs := bsOf a2.2.2.2.2.1 a4
        have i2 := a6.mp i
        rcases bs with e | ⟨rr, e⟩
        · rw [e] at i2; cases i2
        · subst e
          obtain ⟨b1, b2, b3, b4, b5, b6, b7⟩ := a2
          have dd : dp (91 :: rr) = dp rr + 1 := by rw [dp, if_pos (Or.inl rfl)]; omega
          rw [List.length_cons] at b2 b7 a5
          rw [dd] at b4 b6
          have S2 := b1.1.1.1
          obtain ⟨g4, eg4⟩ : ∃ g4, g4 = pI (pI g2 308 16 (nI rr.length)) 308 13 (nI (dp rr)) := ⟨_, rfl⟩
          have o8 : hI g4 308 = upd (upd (hI g2 308) 16 (nI rr.length)) 13 (nI (dp rr)) := by rw [eg4, hI_eq, hI_eq]
          have oo : ∀ c, c ≠ 308 → hI g4 c = hI g2 c := fun c q => by rw [eg4, hI_ne _ q, hI_ne _ q]
          have e8 : ∀ j, j ≠ 13 → j ≠ 16 → hI g4 308 j = hI g2 308 j := fun j p q => by rw [o8, upd_ne _ _ p, upd_ne _ _ q]
          have u4 : Upd (fun c => c = 308 ∨ c = 315) g2 g4 := by rw [eg4]; exact (Upd.pI (Or.inl rfl)).tr (Upd.pI (Or.inl rfl))
          have c4 : RRk g4 t n k (sk t n s.1, s.2.1, L2) := b1.f (u4.str S2) e8 (fun c p q => oo c p)
          have R4 : RS g4 t n k rr (sk t n s.1, s.2.1, L2) := ⟨c4, by rw [o8, upd_ne _ _ (by decide), upd_at], by rw [oo 315 (by decide)]; exact b3.2, by rw [o8, upd_at], b5.2, by omega, by omega⟩
          have p8 : hI g4 308 8 = nI (sk t n s.1) := c4.1.2.2.1
          have pp := c4.pp (sk t n s.1 + 1)
          have R5 : RS (rP g4 (sk t n s.1 + 1)) t n k rr (sk t n s.1 + 1, s.2.1, L2) := R4.p (q := sk t n s.1 + 1) (by omega)
          have e91 : cont t n (91 :: rr) (sk t n s.1, s.2.1, L2) = cont t n rr (sk t n s.1 + 1, s.2.1, L2) := by
            rw [cont_c (s := (sk t n s.1, s.2.1, L2)) (Or.inr ⟨rr, rfl⟩) ss na no, cE, if_pos rfl]
            show gB (gCl t n (sk t n s.1, s.2.1, L2)) _ = _
            unfold gCl
            show gB (if bya t n (sk t n (sk t n s.1)) = 93 then gK (sk t n (sk t n s.1) + 1, _) else _) _ = _
            rw [ss, if_pos z]
            rfl
          have e3 : cont t n st (sk t n s.1, s.2) = cont t n rr (sk t n s.1 + 1, s.2.1, L2) := a3.trans e91
          have hne5 : cont t n rr (sk t n s.1 + 1, s.2.1, L2) ≠ none := by rw [← e3]; exact hne
          obtain ⟨g6, st6, L6, d1, d2, d3, d4, d5, d6, d7⟩ := setR (x1 := 3) (p0 := sk t n s.1 + 1) hk (Or.inl rfl) rr (rP g4 (sk t n s.1 + 1)) (sk t n s.1 + 1, s.2.1, L2) 2000 R5 hne5 (by omega)
          have hne6 : cont t n st6 (sk t n s.1 + 1, s.2.1, L6) ≠ none := by rw [← d3]; exact hne5
          obtain ⟨h', st', s', f1, f2, f3, f4, f5, f6, f7, f8, f9⟩ := ih g6 st6 (sk t n s.1 + 1, s.2.1, L6) K' d2 d4 (by show st6.length ≤ sk t n s.1 + 1; omega) (by show n < M + (sk t n s.1 + 1); omega) (by omega) hne6
          have f4' : sk t n s.1 + 1 ≤ s'.1 := f4
          refine ⟨h', st', s', ?_, f2, f3, by omega, f5, f6, f7, ?_, u1.q.tr (a7.tr ((FQ.f u4 e8).tr (FS.p.q.tr (d7.tr f9))))⟩
          · show b_X12_closes_5 (f_X12_closes_5 K') h 308 = _
            have a1' : f_X12_settles g1 308 1 = some ((), g2) := a1
            have d1' : f_X12_settles (rP g4 (sk t n s.1 + 1)) 308 3 = some ((), g6) := d1
            have e16 : hI (pI g2 308 16 (nI rr.length)) 308 13 = nI (dp rr + 1) := by rw [hI_eq, upd_ne _ _ (by decide)]; exact b4
            simp only [b_X12_closes_5, q_308, se, aBind_some, if_pos z, ins, bB, if_neg (show ¬ (1 : Int32) = 0 by decide), a1', b2, nI_sub1, aLet, e16, ← eg4, p8, i1, pp, d1', f1]
          · rw [← cs, e3]
            exact d3.trans f8
      · rw [decide_eq_false i] at ins
        refine stop (fun _ => i) ?_
        show b_X12_closes_5 (f_X12_closes_5 K') h 308 = _
        simp only [b_X12_closes_5, q_308, se, aBind_some, if_pos z, ins, bB, if_true]
    · refine stop (fun y => absurd y z) ?_
      show b_X12_closes_5 (f_X12_closes_5 K') h 308 = _
      simp only [b_X12_closes_5, q_308, se, aBind_some, if_neg z]
theorem pushR {h : aH} {t : Row} {n k x : Nat} {st : List Nat} {s : GS} (r : RS h t n k st s) (hx : x = 12 ∨ (x = 13 ∧ isBs st)) (hl : st.length < 400) : RS (pI (pI h 315 st.length (nI x)) 308 16 (nI (st.length + 1))) t n k (x :: st) s ∧ FQ k h (pI (pI h 315 st.length (nI x)) 308 16 (nI (st.length + 1))) := by
  obtain ⟨r1, r2, r3, r4, r5, r6, r7⟩ := r
  have S := r1.1.1.1
  have d1 : dp (x :: st) = dp st := by rw [dp, if_neg (by omega)]; omega
  obtain ⟨g, eg⟩ : ∃ g, g = pI (pI h 315 st.length (nI x)) 308 16 (nI (st.length + 1)) := ⟨_, rfl⟩
  rw [← eg]
  have o8 : hI g 308 = upd (hI h 308) 16 (nI (st.length + 1)) := by rw [eg, hI_eq, hI_ne _ (by decide)]
  have o15 : hI g 315 = upd (hI h 315) st.length (nI x) := by rw [eg, hI_ne _ (by decide), hI_eq]
  have u : Upd (fun c => c = 308 ∨ c = 315) h g := by rw [eg]; exact (Upd.pI (Or.inr rfl)).tr (Upd.pI (Or.inl rfl))
  have e8 : ∀ j, j ≠ 13 → j ≠ 16 → hI g 308 j = hI h 308 j := fun j p q => by rw [o8, upd_ne _ _ q]
  refine ⟨⟨r1.f (u.str S) e8 (fun c p q => u.2.2.1 c (by omega)), ?_, ⟨?_, ?_⟩, ?_, ⟨?_, r5⟩, by omega, by rw [List.length_cons]; omega⟩, FQ.f u e8⟩
  · rw [o8, upd_at, List.length_cons]
  · rw [o15, upd_at]
  · rw [o15]; exact ST.up (Nat.le_refl _) r3
  · rw [o8, upd_ne _ _ (by decide), d1]; exact r4
  · rcases hx with e | e
    · exact Or.inr (Or.inr (Or.inl e))
    · exact Or.inr (Or.inr (Or.inr e))
theorem cont_in {t : Row} {n : Nat} : ∀ (st : List Nat) (s : GS), okTu st → sk t n s.1 = s.1 → isH t n s.1 6385252 = false → isH t n s.1 28530 = false → ¬ bya t n s.1 = 93 → 91 ∈ st → cont t n st s ≠ none → cont t n st s = gX (blm s.1 0 0) := by
  intro st
  induction st with
  | nil => intro s _ _ _ _ _ i; cases i
  | cons x r ih =>
    intro s ok ss na no z i hne
    have em : (x = 11 ∨ x = 12 ∨ x = 13) → cont t n (x :: r) s = gB (gEm x 0 s) (cont t n r) → cont t n (x :: r) s = gX (blm s.1 0 0) := fun hx e => by
      rw [e] at hne ⊢
      have l := em_len (gB_n hne)
      rw [em_ok l, gB_k] at hne ⊢
      have i' : 91 ∈ r := by
        rcases List.mem_cons.mp i with q | q
        · omega
        · exact q
      exact ih (s.1, s.2.1, (x, 0) :: s.2.2) ok.2 ss na no z i' hne
    rcases ok.1 with e | e | e | ⟨e, b⟩
    · subst e
      rw [cont_c (Or.inr ⟨r, rfl⟩) ss na no, cE, if_pos rfl]
      show gB (gCl t n s) _ = _
      unfold gCl
      rw [ss, if_neg z]
      rfl
    · exact em (Or.inl e) (cont_e (Or.inl e) s)
    · exact em (Or.inr (Or.inl e)) (cont_e (Or.inr e) s)
    · have b' : isBs r := b
      exact em (Or.inr (Or.inr e)) (by rw [e]; exact cont_13e b' ss na)
