/-! ===== rule: the reference's whole test ===== -/
theorem tested54 {h : aH} {t : Row} {n p : Nat} {f : Int32} (c : RT h t n p f) (ss : sk t n p = p) (k12 : aH → Nat → Int32 → Option (Int32 × aH)) : b_X12_tested_49 k12 h 308 = if isH t n p 6385252 = true then b_X12_tested_76 k12 h 308 1 12 else b_X12_tested_76 k12 h 308 1 13 := by
  have wd := wordT c ss (w := 6385252) (by decide)
  have wd' : f_X12_isWord h 308 6385252 = some (bB (isH t n p 6385252), h) := by rw [isH_s ss]; exact wd
  simp only [b_X12_tested_49, b_X12_tested_54, if_neg (show ¬ (1 : Int32) = 0 by decide), q_308, wd', aBind_some, bB_0]
/-- a sign goes onto the stack -/
theorem tested76 {h : aH} {t : Row} {n k x : Nat} {st : List Nat} {s : GS} (hk : k < 6) (r : RS h t n k st s) (hl : st.length ≤ s.1) (ss : sk t n s.1 = s.1) (hne : cont t n st s ≠ none) (hx : (x = 12 ∧ isH t n s.1 6385252 = true) ∨ (x = 13 ∧ isH t n s.1 6385252 = false ∧ isH t n s.1 28530 = true)) (k12 : aH → Nat → Int32 → Option (Int32 × aH)) : ∃ h' st' L', b_X12_tested_76 k12 h 308 1 (nI x) = k12 h' 308 1 ∧ RS h' t n k (x :: st') (lw t n s.1, s.2.1, L') ∧ (x :: st').length ≤ lw t n s.1 ∧ s.1 < lw t n s.1 ∧ cont t n st s = gB (gF t n (10 - dp (x :: st')) (lw t n s.1, s.2.1, L')) (cont t n (x :: st')) ∧ FQ k h h' := by
  have hp := r.1.1.2.1
  have hn := r.1.1.1.2.2.1
  have l400 := r.2.2.2.2.2.2
  have lwl : s.1 < lw t n s.1 ∧ lw t n s.1 ≤ n ∧ s.1 < n := by
    rcases hx with ⟨_, o⟩ | ⟨_, _, o⟩
    · have := isH_lt hp o; rw [ss] at this; exact this
    · have := isH_lt hp o; rw [ss] at this; exact this
  have ps := passK r.1
  have R1 : RS (rP h (lw t n s.1)) t n k st (lw t n s.1, s.2) := r.p lwl.2.1
  have x4 : x = 91 ∨ x = 11 ∨ x = 12 ∨ x = 13 := by omega
  have sx := str_eq (h := rP h (lw t n s.1)) x4
  have hs : str x = 3 ∨ str x = 2 ∨ (str x = 1 ∧ isH t n s.1 6385252 = false ∧ sk t n s.1 = s.1) := by
    rcases hx with ⟨rfl, _⟩ | ⟨rfl, a, _⟩
    · exact Or.inr (Or.inl rfl)
    · exact Or.inr (Or.inr ⟨rfl, a, ss⟩)
  obtain ⟨g2, st2, L2, a1, a2, a3, a4, a5, a6, a7⟩ := setR (x1 := str x) (p0 := s.1) hk hs st (rP h (lw t n s.1)) (lw t n s.1, s.2) 2000 R1 hne (by omega)
  have ok2 := a2.2.2.2.2.1
  have S2 := a2.1.1.1.1
  have f16 : hI g2 308 16 = nI st2.length := a2.2.1
  have hb : x = 12 ∨ (x = 13 ∧ isBs st2) := by
    rcases hx with ⟨e, _⟩ | ⟨e, _⟩
    · exact Or.inl e
    · refine Or.inr ⟨e, bsOf ok2 ?_⟩
      rw [e] at a4
      exact a4
  obtain ⟨R3, u3⟩ := pushR a2 hb (by omega)
  have dd : dp (x :: st2) = dp st2 := by rw [dp, if_neg (by omega)]; omega
  refine ⟨_, st2, L2, ?_, R3, by rw [List.length_cons]; omega, lwl.1, ?_, FS.p.q.tr (a7.tr u3)⟩
  · have a1' : f_X12_settles (rP h (lw t n s.1)) 308 (nI (str x)) = some ((), g2) := a1
    have e16 : hI (pI g2 315 st2.length (nI x)) 308 16 = nI st2.length := by rw [hI_ne _ (by decide)]; exact f16
    simp only [b_X12_tested_76, q_308, ps, aBind_some, sx, a1', r_308_15 S2, Option.bind_some, aLet, f16, q_315, if_pos (in_315 (show st2.length < 400 by omega)), nI_clamp (show st2.length < 2 ^ 31 by omega), e16, i1]
  · rw [dd]
    have e0 : cont t n st s = cont t n st2 (s.1, s.2.1, L2) := a3
    rw [e0]
    rcases hx with ⟨rfl, o⟩ | ⟨rfl, na, o⟩
    · have y := cont_and (s := (s.1, s.2.1, L2)) hn hp (bsOf2 ok2 a4) o
      have y' : cont t n st2 (s.1, s.2.1, L2) = gB (gF t n (10 - dp st2) (lw t n (sk t n s.1), s.2.1, L2)) (cont t n (12 :: st2)) := y
      rw [ss] at y'
      exact y'
    · have y := cont_or (s := (s.1, s.2.1, L2)) hn hp (bsOf ok2 a4) na o
      have y' : cont t n st2 (s.1, s.2.1, L2) = gB (gF t n (10 - dp st2) (lw t n (sk t n s.1), s.2.1, L2)) (cont t n (13 :: st2)) := y
      rw [ss] at y'
      exact y'
/-- no sign comes -/
theorem testedE {h : aH} {t : Row} {n k : Nat} {st : List Nat} {s : GS} (hk : k < 6) (r : RS h t n k st s) (ss : sk t n s.1 = s.1) (hne : cont t n st s ≠ none) (na : isH t n s.1 6385252 = false) (no : isH t n s.1 28530 = false) (i93 : bya t n s.1 = 93 → ¬ 91 ∈ st) (K : Nat) : ∃ h', f_X12_tested_12 (K + 1) h 308 0 = some (bB (okR (cont t n st s)), h') ∧ RRu h' t n k (cont t n st s) ∧ FQ k h h' := by
  have hp := r.1.1.2.1
  have hn := r.1.1.1.2.2.1
  have ok := r.2.2.2.2.1
  have l400 := r.2.2.2.2.2.2
  have ins := insR r
  have code : f_X12_tested_12 (K + 1) h 308 0 = if decide (91 ∈ st) = true then (aBind (f_X12_see h 308) fun r26 h27 => aBind (f_X12_fails h27 308 0 (hI h27 308 8)) fun r28 h29 => if r28 = 0 ∨ r28 = 1 then some (r28, h29) else none) else (aBind (f_X12_settles h 308 1) fun r24 h25 => some (1, h25)) := by
    show b_X12_tested_12 (f_X12_tested_12 K) h 308 0 = _
    simp only [b_X12_tested_12, if_true, q_308, ins, aBind_some, bB_0]
  rw [code]
  by_cases i : 91 ∈ st
  · rw [if_pos (decide_eq_true i)]
    have e := cont_in st s ok ss na no (fun y => i93 y i) i hne
    rw [e]
    have se := seeS r.1 ss
    have p8 : hI h 308 8 = nI s.1 := r.1.1.2.2.1
    obtain ⟨g2, e2, c2, u2⟩ := failK r.1 0 s.1 (blm_ne (by omega) (Or.inl rfl))
    refine ⟨g2, ?_, c2, u2.q⟩
    rw [se, aBind_some, p8, e2]
    rfl
  · rw [if_neg (fun y => i (of_decide_eq_true y))]
    obtain ⟨g2, st2, L2, a1, a2, a3, a4, a5, a6, a7⟩ := setR (x1 := 1) (p0 := s.1) hk (Or.inr (Or.inr ⟨rfl, na, ss⟩)) st h s 2000 r hne (by omega)
    have a1' : f_X12_settles h 308 1 = some ((), g2) := a1
    have a3' : cont t n st s = cont t n st2 (s.1, s.2.1, L2) := a3
    rcases bsOf a2.2.2.2.2.1 a4 with e | ⟨rr, e⟩
    · subst e
      have e0 : cont t n [] (s.1, s.2.1, L2) = gK (s.1, s.2.1, L2) := cont_c (s := (s.1, s.2.1, L2)) (Or.inl rfl) ss na no
      rw [a3', e0, a1', aBind_some]
      exact ⟨g2, rfl, a2.1, a7⟩
    · exact absurd (a6.mpr (by rw [e]; exact List.mem_cons_self)) i
theorem testedLR {t : Row} {n k : Nat} (hk : k < 6) : ∀ (M : Nat) (h : aH) (st : List Nat) (s : GS) (K : Nat), RS h t n k st s → st.length ≤ s.1 → n < M + s.1 → M + 1 < K → gB (gF t n (10 - dp st) s) (cont t n st) ≠ none → ∃ h', f_X12_tested_12 K h 308 1 = some (bB (okR (gB (gF t n (10 - dp st) s) (cont t n st))), h') ∧ RRu h' t n k (gB (gF t n (10 - dp st) s) (cont t n st)) ∧ FQ k h h' := by
  intro M
  induction M with
  | zero =>
    intro h st s K r _ h1
    have := r.1.1.2.1
    omega
  | succ M ih =>
    intro h st s K r hl0 h1 h2 hne
    have hn := r.1.1.1.2.2.1
    obtain ⟨K', rfl⟩ : ∃ K', K = K' + 2 := ⟨K - 2, by omega⟩
    have code : f_X12_tested_12 (K' + 2) h 308 1 = aBind (f_X12_fact h 308) fun r33 h34 => if r33 = 0 then some (0, h34) else aBind (f_X12_closes h34 308) fun r35 h36 => aBind (f_X12_isWord h36 308 6385252) fun r37 h38 => if r37 = 0 then (aBind (f_X12_isWord h38 308 28530) fun r39 h40 => if r39 = 0 then b_X12_tested_54 (f_X12_tested_12 (K' + 1)) h40 308 0 else b_X12_tested_49 (f_X12_tested_12 (K' + 1)) h40 308) else b_X12_tested_49 (f_X12_tested_12 (K' + 1)) h38 308 := by
      show b_X12_tested_12 (f_X12_tested_12 (K' + 1)) h 308 1 = _
      simp only [b_X12_tested_12, if_neg (show ¬ (1 : Int32) = 0 by decide), q_308]
    rw [code]
    rcases factLR hk 401 h st s 2000 r hl0 (by omega) (by omega) hne with ⟨g1, f, a1, a2, a3, a4⟩ | ⟨g1, st1, s1, a1, a2, a3, a4, a5, a6⟩
    · have a1' : f_X12_fact h 308 = some (0, g1) := a1
      rw [a2, a1', aBind_some]
      exact ⟨g1, rfl, a3, a4⟩
    · have a1' : f_X12_fact h 308 = some (1, g1) := a1
      rw [a1', aBind_some, if_neg (by decide)]
      rw [a5] at hne ⊢
      have l400 := a2.2.2.2.2.2.2
      obtain ⟨g2, st2, L2, b1, b2, b3, b4, b5, b6, b7⟩ := setR (x1 := 3) (p0 := s1.1) hk (Or.inl rfl) st1 g1 s1 2000 a2 hne (by omega)
      have b3' : cont t n st1 s1 = cont t n st2 (s1.1, s1.2.1, L2) := b3
      rw [b3'] at hne ⊢
      obtain ⟨g3, st3, s3, c1, c2, c3, c4, c5, c6, c7, c8, c9⟩ := closesR hk 401 g2 st2 (s1.1, s1.2.1, L2) 2000 b2 b4 (by show st2.length ≤ s1.1; omega) (by omega) (by omega) hne
      rw [c8] at hne ⊢
      have c4' : s1.1 ≤ s3.1 := c4
      have b1' : f_X12_settles g1 308 3 = some ((), g2) := b1
      have cl : f_X12_closes g1 308 = some ((), g3) := by
        unfold f_X12_closes
        rw [q_308, b1', aBind_some]
        exact c1
      rw [cl, aBind_some]
      have Q : FQ k h g3 := a6.tr (b7.tr c9)
      have w1 := wordT c2.1.1 c5 (w := 6385252) (by decide)
      have w1' : f_X12_isWord g3 308 6385252 = some (bB (isH t n s3.1 6385252), g3) := by rw [isH_s c5]; exact w1
      have w2 := wordT c2.1.1 c5 (w := 28530) (by decide)
      have w2' : f_X12_isWord g3 308 28530 = some (bB (isH t n s3.1 28530), g3) := by rw [isH_s c5]; exact w2
      have t49 := tested54 c2.1.1 c5 (f_X12_tested_12 (K' + 1))
      rw [w1', aBind_some, bB_0, w2', aBind_some, bB_0, t49]
      have go : ∀ x, ((x = 12 ∧ isH t n s3.1 6385252 = true) ∨ (x = 13 ∧ isH t n s3.1 6385252 = false ∧ isH t n s3.1 28530 = true)) → ∃ h', b_X12_tested_76 (f_X12_tested_12 (K' + 1)) g3 308 1 (nI x) = some (bB (okR (cont t n st3 s3)), h') ∧ RRu h' t n k (cont t n st3 s3) ∧ FQ k h h' := fun x hx => by
        obtain ⟨g4, st4, L4, d1, d2, d3, d4, d5, d6⟩ := tested76 hk c2 c3 c5 hne hx (f_X12_tested_12 (K' + 1))
        rw [d5] at hne ⊢
        obtain ⟨g5, e1, e2, e3⟩ := ih g4 (x :: st4) (lw t n s3.1, s3.2.1, L4) (K' + 1) d2 d3 (by show n < M + lw t n s3.1; omega) (by omega) hne
        exact ⟨g5, by rw [d1]; exact e1, e2, Q.tr (d6.tr e3)⟩
      by_cases oa : isH t n s3.1 6385252 = true
      · rw [if_pos oa, if_pos oa]
        exact go 12 (Or.inl ⟨rfl, oa⟩)
      · rw [if_neg oa]
        have oa' := Bool.not_eq_true _ |>.mp oa
        by_cases oo : isH t n s3.1 28530 = true
        · rw [if_pos oo, if_neg oa]
          exact go 13 (Or.inr ⟨rfl, oa', oo⟩)
        · rw [if_neg oo]
          obtain ⟨g4, e1, e2, e3⟩ := testedE hk c2 c5 hne oa' (Bool.not_eq_true _ |>.mp oo) c7 K'
          refine ⟨g4, ?_, e2, Q.tr e3⟩
          rw [← e1]
          simp only [b_X12_tested_54, if_true]
theorem testedR {h : aH} {t : Row} {n k : Nat} {s : GS} (hk : k < 6) (c : RRk h t n k s) (hne : gTs t n (gF t n 10) s ≠ none) : ∃ h', f_X12_tested h 308 = some (bB (okR (gTs t n (gF t n 10) s)), h') ∧ RRu h' t n k (gTs t n (gF t n 10) s) ∧ FQ k h h' := by
  have hn := c.1.1.2.2.1
  have S := c.1.1.1
  have eq : gTs t n (gF t n 10) s = gB (gF t n (10 - dp []) s) (cont t n []) := by
    show gB (gB (gF t n 10 s) (gA t n 0)) (gO t n 0) = gB (gF t n 10 s) _
    rw [gB_a]
    refine gB_cg (fun s1 _ => ?_)
    rw [cont_0, gB_i]
  rw [eq] at hne ⊢
  obtain ⟨g, eg⟩ : ∃ g, g = pI (pI h 308 16 0) 308 13 0 := ⟨_, rfl⟩
  have o8 : hI g 308 = upd (upd (hI h 308) 16 0) 13 0 := by rw [eg, hI_eq, hI_eq]
  have u : Upd (fun c => c = 308 ∨ c = 315) h g := by rw [eg]; exact (Upd.pI (Or.inl rfl)).tr (Upd.pI (Or.inl rfl))
  have e8 : ∀ j, j ≠ 13 → j ≠ 16 → hI g 308 j = hI h 308 j := fun j p q => by rw [o8, upd_ne _ _ p, upd_ne _ _ q]
  have R : RS g t n k [] s := ⟨c.f (u.str S) e8 (fun c p q => u.2.2.1 c (by omega)), by rw [o8, upd_ne _ _ (by decide), upd_at]; rfl, True.intro, by rw [o8, upd_at]; rfl, True.intro, by decide, by decide⟩
  obtain ⟨h', e1, e2, e3⟩ := testedLR hk 401 g [] s 2000 R (Nat.zero_le _) (by omega) (by omega) hne
  refine ⟨h', ?_, e2, (FQ.f u e8).tr e3⟩
  unfold f_X12_tested
  rw [q_308, aLet_e, aLet_e, ← eg]
  exact e1
