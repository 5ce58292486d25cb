/-! ===== rule: the reference's sums and facts ===== -/
theorem opT_n {c : Int32} (h : opT c = none) : ¬ c = 42 ∧ ¬ c = 47 ∧ ¬ c = 37 := by
  unfold opT at h
  by_cases a : c = 42
  · rw [if_pos a] at h; cases h
  · rw [if_neg a] at h
    by_cases b : c = 47
    · rw [if_pos b] at h; cases h
    · rw [if_neg b] at h
      by_cases d : c = 37
      · rw [if_pos d] at h; cases h
      · exact ⟨a, b, d⟩
theorem opT_v {c : Int32} {k : Nat} (h : opT c = some k) : (c = 42 ∧ k = 4) ∨ (c = 47 ∧ k = 5) ∨ (c = 37 ∧ k = 14) := by
  unfold opT at h
  by_cases a : c = 42
  · rw [if_pos a] at h; injection h with h; exact Or.inl ⟨a, h.symm⟩
  · rw [if_neg a] at h
    by_cases b : c = 47
    · rw [if_pos b] at h; injection h with h; exact Or.inr (Or.inl ⟨b, h.symm⟩)
    · rw [if_neg b] at h
      by_cases d : c = 37
      · rw [if_pos d] at h; injection h with h; exact Or.inr (Or.inr ⟨d, h.symm⟩)
      · rw [if_neg d] at h; cases h
theorem opS_n {c : Int32} (h : opS c = none) : ¬ c = 43 ∧ ¬ c = 45 := by
  unfold opS at h
  by_cases a : c = 43
  · rw [if_pos a] at h; cases h
  · rw [if_neg a] at h
    by_cases b : c = 45
    · rw [if_pos b] at h; cases h
    · exact ⟨a, b⟩
theorem opS_v {c : Int32} {k : Nat} (h : opS c = some k) : (c = 43 ∧ k = 2) ∨ (c = 45 ∧ k = 3) := by
  unfold opS at h
  by_cases a : c = 43
  · rw [if_pos a] at h; injection h with h; exact Or.inl ⟨a, h.symm⟩
  · rw [if_neg a] at h
    by_cases b : c = 45
    · rw [if_pos b] at h; injection h with h; exact Or.inr ⟨b, h.symm⟩
    · rw [if_neg b] at h; cases h
theorem tq_c {t : Row} {n q : Nat} {c : Nat} (hq : q < n) (bt : Btw (t q) (-128) 127) (hc : c < 128) : bya t n q = nI c ↔ t q = nI c := by
  unfold bya
  rw [if_pos hq]
  exact byte_c bt hc
theorem term36 {g : aH} {t : Row} {n k kk : Nat} {s : GS} (c : RRk g t n k s) (hq : s.1 < n) (o : opT (bya t n s.1) = some kk) (k9 : aH → Nat → Option (Int32 × aH)) : b_X12_term_36 k9 g 308 = b_X12_term_74 k9 g 308 (nI kk) := by
  have hn := c.1.1.2.2.1
  have S := c.1.1.1
  have tt := c.1.1.2.2.2 s.1 (by omega)
  have p8 : hI g 308 8 = nI s.1 := c.1.2.2.1
  have tc : ∀ x, x < 128 → (bya t n s.1 = nI x ↔ t s.1 = nI x) := fun x hx => tq_c hq tt.2 hx
  rcases opT_v o with ⟨a, rfl⟩ | ⟨a, rfl⟩ | ⟨a, rfl⟩
  · have e : t s.1 = 42 := (tc 42 (by decide)).mp a
    simp only [b_X12_term_36, q_308, r_308_0 S, Option.bind_some, aLet, p8, q_309, if_pos (in_309 (show s.1 < 400 by omega)), nI_clamp (show s.1 < 2 ^ 31 by omega), tt.1, e, if_true]
    rfl
  · have e : t s.1 = 47 := (tc 47 (by decide)).mp a
    simp only [b_X12_term_36, q_308, r_308_0 S, Option.bind_some, aLet, p8, q_309, if_pos (in_309 (show s.1 < 400 by omega)), nI_clamp (show s.1 < 2 ^ 31 by omega), tt.1, e, if_neg (show ¬ (47 : Int32) = 42 by decide), if_true]
    rfl
  · have e : t s.1 = 37 := (tc 37 (by decide)).mp a
    simp only [b_X12_term_36, q_308, r_308_0 S, Option.bind_some, aLet, p8, q_309, if_pos (in_309 (show s.1 < 400 by omega)), nI_clamp (show s.1 < 2 ^ 31 by omega), tt.1, e, if_neg (show ¬ (37 : Int32) = 42 by decide), if_neg (show ¬ (37 : Int32) = 47 by decide)]
    rfl
theorem termLR {t : Row} {n k : Nat} (hk : k < 6) : ∀ (M : Nat) (h : aH) (s : GS) (a K : Nat), RRk h t n k s → n < M + s.1 → M < K → n < a + s.1 → gTL t n a s ≠ none → ∃ h', f_X12_term_9 K h 308 = some (bB (okR (gTL t n a s)), h') ∧ RRu h' t n k (gTL t n a s) ∧ FS k h h' := by
  intro M
  induction M with
  | zero =>
    intro h s a K c h1
    have := c.1.2.1
    omega
  | succ M ih =>
    intro h s a K c h1 h2 h3 hne
    have hp := c.1.2.1
    have hn := c.1.1.2.2.1
    have sl := sk_le (t := t) hp
    have ss := sk_sk (t := t) hp
    have se := seeT c
    obtain ⟨g1, eg1⟩ : ∃ g1, g1 = rP h (sk t n s.1) := ⟨_, rfl⟩
    have c1 : RRk g1 t n k (sk t n s.1, s.2) := by rw [eg1]; exact c.p sl.2
    have u1 : FS k h g1 := by rw [eg1]; exact FS.p
    rw [← eg1] at se
    have se1 : f_X12_see g1 308 = some (bya t n (sk t n s.1), g1) := seeS c1 ss
    obtain ⟨K', rfl⟩ : ∃ K', K = K' + 1 := ⟨K - 1, by omega⟩
    obtain ⟨a', rfl⟩ : ∃ a', a = a' + 1 := ⟨a - 1, by omega⟩
    cases o : opT (bya t n (sk t n s.1)) with
    | none =>
      have eT : gTL t n (a' + 1) s = gK (sk t n s.1, s.2) := by rw [gTL, o]
      rw [eT]
      have y := opT_n o
      refine ⟨g1, ?_, c1, u1⟩
      show b_X12_term_9 (f_X12_term_9 K') h 308 = _
      simp only [b_X12_term_9, q_308, se, aBind_some, if_neg y.1, se1, if_neg y.2.1, if_neg y.2.2]
      rfl
    | some kk =>
      have kc := opT_c o
      have eT : gTL t n (a' + 1) s = gB (gVal t n (sk t n s.1 + 1, s.2)) (fun s' => gB (gEm kk 0 s') (gTL t n a')) := by rw [gTL, o]
      rw [eT] at hne ⊢
      have t36 := term36 c1 kc.1 o (f_X12_term_9 K')
      have code : f_X12_term_9 (K' + 1) h 308 = b_X12_term_74 (f_X12_term_9 K') g1 308 (nI kk) := by
        show b_X12_term_9 (f_X12_term_9 K') h 308 = _
        rcases opT_v o with ⟨y, _⟩ | ⟨y, _⟩ | ⟨y, _⟩
        · simp only [b_X12_term_9, q_308, se, aBind_some, y, if_true, t36]
        · simp only [b_X12_term_9, q_308, se, aBind_some, y, if_neg (show ¬ (47 : Int32) = 42 by decide), se1, if_true, t36]
        · simp only [b_X12_term_9, q_308, se, aBind_some, y, if_neg (show ¬ (37 : Int32) = 42 by decide), se1, if_neg (show ¬ (37 : Int32) = 47 by decide), if_true, t36]
      have p8 : hI g1 308 8 = nI (sk t n s.1) := c1.1.2.2.1
      have pp := c1.pp (sk t n s.1 + 1)
      have c2 : RRk (rP g1 (sk t n s.1 + 1)) t n k (sk t n s.1 + 1, s.2) := c1.p (q := sk t n s.1 + 1) (by omega)
      obtain ⟨g3, e3, c3, u3⟩ := valueR hk c2 (gB_n hne)
      rw [code]
      cases q : gVal t n (sk t n s.1 + 1, s.2) with
      | none => rw [q] at c3; exact c3.elim
      | some v =>
        rw [q] at e3 c3
        cases v with
        | inl f =>
          refine ⟨g3, ?_, c3, u1.tr (FS.p.tr u3)⟩
          have e3' : f_X12_value (rP g1 (sk t n s.1 + 1)) 308 = some (0, g3) := e3
          simp only [b_X12_term_74, q_308, p8, i1, aLet, pp, e3', aBind_some, if_true]
          rfl
        | inr s3 =>
          rw [q] at hne
          have hne3 : gB (gEm kk 0 s3) (gTL t n a') ≠ none := hne
          have l3 := em_len (gB_n hne3)
          have em := em_ok (a := kk) (x := 0) l3
          show ∃ h', _ = some (bB (okR (gB (gEm kk 0 s3) (gTL t n a'))), h') ∧ RRu h' t n k (gB (gEm kk 0 s3) (gTL t n a')) ∧ _
          rw [em, gB_k] at hne3 ⊢
          obtain ⟨g4, e4, c4, u4⟩ := putsR hk c3 l3 kk 0
          have e4' : f_X12_puts g3 308 (nI kk) 0 = some ((), g4) := e4
          have mm := mo_val (sk t n s.1 + 1, s.2) s3 (show sk t n s.1 + 1 ≤ n by omega) q
          have m1 : sk t n s.1 + 1 ≤ s3.1 := mm.1
          obtain ⟨g5, e5, c5, u5⟩ := ih g4 (s3.1, s3.2.1, (kk, 0) :: s3.2.2) a' K' c4 (show n < M + s3.1 by omega) (by omega) (show n < a' + s3.1 by omega) hne3
          refine ⟨g5, ?_, c5, u1.tr (FS.p.tr (u3.tr (u4.tr u5)))⟩
          have e3' : f_X12_value (rP g1 (sk t n s.1 + 1)) 308 = some (1, g3) := e3
          simp only [b_X12_term_74, q_308, p8, i1, aLet, pp, e3', aBind_some, if_neg (show ¬ (1 : Int32) = 0 by decide), e4', e5]
theorem termR {h : aH} {t : Row} {n k : Nat} {s : GS} (hk : k < 6) (c : RRk h t n k s) (hne : gTerm t n s ≠ none) : ∃ h', f_X12_term h 308 = some (bB (okR (gTerm t n s)), h') ∧ RRu h' t n k (gTerm t n s) ∧ FS k h h' := by
  have hn := c.1.1.2.2.1
  unfold gTerm at hne ⊢
  obtain ⟨g3, e3, c3, u3⟩ := valueR hk c (gB_n hne)
  unfold f_X12_term
  rw [q_308]
  cases q : gVal t n s with
  | none => rw [q] at c3; exact c3.elim
  | some v =>
    rw [q] at e3 c3
    rw [e3, aBind_some]
    cases v with
    | inl f => exact ⟨g3, rfl, c3, u3⟩
    | inr s3 =>
      rw [q] at hne
      obtain ⟨g5, e5, c5, u5⟩ := termLR hk 401 g3 s3 401 2000 c3 (by omega) (by omega) (by omega) hne
      refine ⟨g5, ?_, c5, u3.tr u5⟩
      rw [if_neg (bB_t s3)]
      exact e5
theorem sum27 {g : aH} {t : Row} {n k kk : Nat} {s : GS} (c : RRk g t n k s) (hq : s.1 < n) (o : opS (bya t n s.1) = some kk) (k9 : aH → Nat → Option (Int32 × aH)) : b_X12_sum_27 k9 g 308 = b_X12_sum_46 k9 g 308 (nI kk) := by
  have hn := c.1.1.2.2.1
  have S := c.1.1.1
  have tt := c.1.1.2.2.2 s.1 (by omega)
  have p8 : hI g 308 8 = nI s.1 := c.1.2.2.1
  have tc : ∀ x, x < 128 → (bya t n s.1 = nI x ↔ t s.1 = nI x) := fun x hx => tq_c hq tt.2 hx
  rcases opS_v o with ⟨a, rfl⟩ | ⟨a, rfl⟩
  · have e : t s.1 = 43 := (tc 43 (by decide)).mp a
    simp only [b_X12_sum_27, q_308, r_308_0 S, Option.bind_some, aLet, p8, q_309, if_pos (in_309 (show s.1 < 400 by omega)), nI_clamp (show s.1 < 2 ^ 31 by omega), tt.1, e, if_true]
    rfl
  · have e : t s.1 = 45 := (tc 45 (by decide)).mp a
    simp only [b_X12_sum_27, q_308, r_308_0 S, Option.bind_some, aLet, p8, q_309, if_pos (in_309 (show s.1 < 400 by omega)), nI_clamp (show s.1 < 2 ^ 31 by omega), tt.1, e, if_neg (show ¬ (45 : Int32) = 43 by decide)]
    rfl
theorem sumLR {t : Row} {n k : Nat} (hk : k < 6) : ∀ (M : Nat) (h : aH) (s : GS) (a K : Nat), RRk h t n k s → n < M + s.1 → M < K → n < a + s.1 → gSL t n a s ≠ none → ∃ h', f_X12_sum_9 K h 308 = some (bB (okR (gSL t n a s)), h') ∧ RRu h' t n k (gSL t n a s) ∧ FS k h h' := by
  intro M
  induction M with
  | zero =>
    intro h s a K c h1
    have := c.1.2.1
    omega
  | succ M ih =>
    intro h s a K c h1 h2 h3 hne
    have hp := c.1.2.1
    have hn := c.1.1.2.2.1
    have sl := sk_le (t := t) hp
    have ss := sk_sk (t := t) hp
    have se := seeT c
    obtain ⟨g1, eg1⟩ : ∃ g1, g1 = rP h (sk t n s.1) := ⟨_, rfl⟩
    have c1 : RRk g1 t n k (sk t n s.1, s.2) := by rw [eg1]; exact c.p sl.2
    have u1 : FS k h g1 := by rw [eg1]; exact FS.p
    rw [← eg1] at se
    have se1 : f_X12_see g1 308 = some (bya t n (sk t n s.1), g1) := seeS c1 ss
    obtain ⟨K', rfl⟩ : ∃ K', K = K' + 1 := ⟨K - 1, by omega⟩
    obtain ⟨a', rfl⟩ : ∃ a', a = a' + 1 := ⟨a - 1, by omega⟩
    cases o : opS (bya t n (sk t n s.1)) with
    | none =>
      have eT : gSL t n (a' + 1) s = gK (sk t n s.1, s.2) := by rw [gSL, o]
      rw [eT]
      have y := opS_n o
      refine ⟨g1, ?_, c1, u1⟩
      show b_X12_sum_9 (f_X12_sum_9 K') h 308 = _
      simp only [b_X12_sum_9, q_308, se, aBind_some, if_neg y.1, se1, if_neg y.2]
      rfl
    | some kk =>
      have kc := opS_c o
      have eT : gSL t n (a' + 1) s = gB (gTerm t n (sk t n s.1 + 1, s.2)) (fun s' => gB (gEm kk 0 s') (gSL t n a')) := by rw [gSL, o]
      rw [eT] at hne ⊢
      have t36 := sum27 c1 kc.1 o (f_X12_sum_9 K')
      have code : f_X12_sum_9 (K' + 1) h 308 = b_X12_sum_46 (f_X12_sum_9 K') g1 308 (nI kk) := by
        show b_X12_sum_9 (f_X12_sum_9 K') h 308 = _
        rcases opS_v o with ⟨y, _⟩ | ⟨y, _⟩
        · simp only [b_X12_sum_9, q_308, se, aBind_some, y, if_true, t36]
        · simp only [b_X12_sum_9, q_308, se, aBind_some, y, if_neg (show ¬ (45 : Int32) = 43 by decide), se1, if_true, t36]
      have p8 : hI g1 308 8 = nI (sk t n s.1) := c1.1.2.2.1
      have pp := c1.pp (sk t n s.1 + 1)
      have c2 : RRk (rP g1 (sk t n s.1 + 1)) t n k (sk t n s.1 + 1, s.2) := c1.p (q := sk t n s.1 + 1) (by omega)
      obtain ⟨g3, e3, c3, u3⟩ := termR hk c2 (gB_n hne)
      rw [code]
      cases q : gTerm t n (sk t n s.1 + 1, s.2) with
      | none => rw [q] at c3; exact c3.elim
      | some v =>
        rw [q] at e3 c3
        cases v with
        | inl f =>
          refine ⟨g3, ?_, c3, u1.tr (FS.p.tr u3)⟩
          have e3' : f_X12_term (rP g1 (sk t n s.1 + 1)) 308 = some (0, g3) := e3
          simp only [b_X12_sum_46, q_308, p8, i1, aLet, pp, e3', aBind_some, if_true]
          rfl
        | inr s3 =>
          rw [q] at hne
          have hne3 : gB (gEm kk 0 s3) (gSL t n a') ≠ none := hne
          have l3 := em_len (gB_n hne3)
          have em := em_ok (a := kk) (x := 0) l3
          show ∃ h', _ = some (bB (okR (gB (gEm kk 0 s3) (gSL t n a'))), h') ∧ RRu h' t n k (gB (gEm kk 0 s3) (gSL t n a')) ∧ _
          rw [em, gB_k] at hne3 ⊢
          obtain ⟨g4, e4, c4, u4⟩ := putsR hk c3 l3 kk 0
          have e4' : f_X12_puts g3 308 (nI kk) 0 = some ((), g4) := e4
          have mm := mo_term (sk t n s.1 + 1, s.2) s3 (show sk t n s.1 + 1 ≤ n by omega) q
          have m1 : sk t n s.1 + 1 ≤ s3.1 := mm.1
          obtain ⟨g5, e5, c5, u5⟩ := ih g4 (s3.1, s3.2.1, (kk, 0) :: s3.2.2) a' K' c4 (show n < M + s3.1 by omega) (by omega) (show n < a' + s3.1 by omega) hne3
          refine ⟨g5, ?_, c5, u1.tr (FS.p.tr (u3.tr (u4.tr u5)))⟩
          have e3' : f_X12_term (rP g1 (sk t n s.1 + 1)) 308 = some (1, g3) := e3
          simp only [b_X12_sum_46, q_308, p8, i1, aLet, pp, e3', aBind_some, if_neg (show ¬ (1 : Int32) = 0 by decide), e4', e5]
theorem sumRu {h : aH} {t : Row} {n k : Nat} {s : GS} (hk : k < 6) (c : RRk h t n k s) (hne : gSum t n s ≠ none) : ∃ h', f_X12_sum h 308 = some (bB (okR (gSum t n s)), h') ∧ RRu h' t n k (gSum t n s) ∧ FS k h h' := by
  have hn := c.1.1.2.2.1
  unfold gSum at hne ⊢
  obtain ⟨g3, e3, c3, u3⟩ := termR hk c (gB_n hne)
  unfold f_X12_sum
  rw [q_308]
  cases q : gTerm t n s with
  | none => rw [q] at c3; exact c3.elim
  | some v =>
    rw [q] at e3 c3
    rw [e3, aBind_some]
    cases v with
    | inl f => exact ⟨g3, rfl, c3, u3⟩
    | inr s3 =>
      rw [q] at hne
      obtain ⟨g5, e5, c5, u5⟩ := sumLR hk 401 g3 s3 401 2000 c3 (by omega) (by omega) (by omega) hne
      refine ⟨g5, ?_, c5, u3.tr u5⟩
      rw [if_neg (bB_t s3)]
      exact e5
/-- behind the comparer -/
def cmpT (g : aH) (q kk : Nat) : Option (Int32 × aH) := aBind (f_X12_makes g 308 (nI q)) fun r22 h23 => if r22 = 0 then some (0, h23) else b_X12_compare_152 h23 308 (nI (kk - 6))
theorem gCm_v {t : Row} {n q : Nat} {z : Nat × Nat} (h : gCm t n q = some z) : (bya t n q = 60 ∧ bya t n (q + 1) = 61 ∧ z = (7, q + 2)) ∨ (bya t n q = 60 ∧ ¬ bya t n (q + 1) = 61 ∧ z = (6, q + 1)) ∨ (bya t n q = 62 ∧ bya t n (q + 1) = 61 ∧ z = (9, q + 2)) ∨ (bya t n q = 62 ∧ ¬ bya t n (q + 1) = 61 ∧ z = (10, q + 1)) ∨ (bya t n q = 61 ∧ z = (8, q + 1)) := by
  unfold gCm at h
  by_cases a : bya t n q = 60
  · rw [if_pos a] at h
    by_cases b : bya t n (q + 1) = 61
    · rw [if_pos b] at h; injection h with h; exact Or.inl ⟨a, b, h.symm⟩
    · rw [if_neg b] at h; injection h with h; exact Or.inr (Or.inl ⟨a, b, h.symm⟩)
  · rw [if_neg a] at h
    by_cases b : bya t n q = 62
    · rw [if_pos b] at h
      by_cases d : bya t n (q + 1) = 61
      · rw [if_pos d] at h; injection h with h; exact Or.inr (Or.inr (Or.inl ⟨b, d, h.symm⟩))
      · rw [if_neg d] at h; injection h with h; exact Or.inr (Or.inr (Or.inr (Or.inl ⟨b, d, h.symm⟩)))
    · rw [if_neg b] at h
      by_cases d : bya t n q = 61
      · rw [if_pos d] at h; injection h with h; exact Or.inr (Or.inr (Or.inr (Or.inr ⟨d, h.symm⟩)))
      · rw [if_neg d] at h; cases h
theorem gCm_n {t : Row} {n q : Nat} (h : gCm t n q = none) : ¬ bya t n q = 60 ∧ ¬ bya t n q = 61 ∧ ¬ bya t n q = 62 := by
  unfold gCm at h
  by_cases a : bya t n q = 60
  · rw [if_pos a] at h
    by_cases b : bya t n (q + 1) = 61
    · rw [if_pos b] at h; cases h
    · rw [if_neg b] at h; cases h
  · rw [if_neg a] at h
    by_cases b : bya t n q = 62
    · rw [if_pos b] at h
      by_cases d : bya t n (q + 1) = 61
      · rw [if_pos d] at h; cases h
      · rw [if_neg d] at h; cases h
    · rw [if_neg b] at h
      by_cases d : bya t n q = 61
      · rw [if_pos d] at h; cases h
      · exact ⟨a, d, b⟩
theorem eq44 {g : aH} {t : Row} {n k : Nat} {s : GS} (c : RRk g t n k s) (hq : s.1 < n) (x1 x2 : Int32) (h61 : ¬ x1 = 61) : b_X12_compare_44 g 308 x1 x2 = if bya t n (s.1 + 1) = 61 then b_X12_compare_105 (rP g (s.1 + 2)) 308 x1 x2 1 else b_X12_compare_105 (rP g (s.1 + 1)) 308 x1 x2 0 := by
  have hn := c.1.1.2.2.1
  have S := c.1.1.1
  have p8 : hI g 308 8 = nI s.1 := c.1.2.2.1
  have pp := c.pp (s.1 + 1)
  have e1 : hI (rP g (s.1 + 1)) 308 1 = nI n := by rw [rS_j _ _ _ _ (by decide) (by decide)]; exact c.1.1.2.1
  have e8 : hI (rP g (s.1 + 1)) 308 8 = nI (s.1 + 1) := rS_8 _ _ _ _
  have rr : hR (rP g (s.1 + 1)) 308 0 = some 309 := r_308_0 S
  have p2 : pI (rP g (s.1 + 1)) 308 8 (nI (s.1 + 1 + 1)) = rP g (s.1 + 2) := rS_p g (hI g 308) (s.1 + 1) (s.1 + 2) 0
  have c0 : b_X12_compare_89 (rP g (s.1 + 1)) 308 x1 x2 = b_X12_compare_105 (rP g (s.1 + 1)) 308 x1 x2 0 := by
    simp only [b_X12_compare_89, b_X12_compare_90, if_true]
  have c9 : b_X12_compare_90 (rP g (s.1 + 1)) 308 x1 x2 1 = b_X12_compare_105 (rP g (s.1 + 2)) 308 x1 x2 1 := by
    simp only [b_X12_compare_90, if_neg (show ¬ (1 : Int32) = 0 by decide), q_308, aLet, e8, i1, p2]
  by_cases y : s.1 + 1 < n
  · have tt := c.1.1.2.2.2 (s.1 + 1) (by omega)
    have e9 : hI (rP g (s.1 + 1)) 309 (s.1 + 1) = t (s.1 + 1) := by rw [rS_o _ _ _ _ (by decide)]; exact tt.1
    have tc := tq_c (t := t) (c := 61) y tt.2 (by decide)
    by_cases z : bya t n (s.1 + 1) = 61
    · have w : t (s.1 + 1) = 61 := tc.mp z
      rw [if_pos z]
      simp only [b_X12_compare_44, q_308, p8, i1, aLet, pp, if_neg h61, e1, e8, if_neg (nI_ge y (show n < 2 ^ 31 by omega)), rr, Option.bind_some, q_309, if_pos (in_309 (show s.1 + 1 < 400 by omega)), nI_clamp (show s.1 + 1 < 2 ^ 31 by omega), e9, w, if_true, c9]
    · have w : ¬ t (s.1 + 1) = 61 := fun q => z (tc.mpr q)
      rw [if_neg z]
      simp only [b_X12_compare_44, q_308, p8, i1, aLet, pp, if_neg h61, e1, e8, if_neg (nI_ge y (show n < 2 ^ 31 by omega)), rr, Option.bind_some, q_309, if_pos (in_309 (show s.1 + 1 < 400 by omega)), nI_clamp (show s.1 + 1 < 2 ^ 31 by omega), e9, if_neg w, c0]
  · have z : ¬ bya t n (s.1 + 1) = 61 := fun q => y (bya_c q (by decide))
    rw [if_neg z]
    simp only [b_X12_compare_44, q_308, p8, i1, aLet, pp, if_neg h61, e1, e8, if_pos (nI_le (show n ≤ s.1 + 1 by omega) (show s.1 + 1 < 2 ^ 31 by omega)), c0]
theorem cmp44 {g : aH} {t : Row} {n k : Nat} {s : GS} (c : RRk g t n k s) {z : Nat × Nat} (o : gCm t n s.1 = some z) : b_X12_compare_44 g 308 (bya t n s.1) (nI s.1) = cmpT (rP g z.2) s.1 z.1 := by
  have hq : s.1 < n := by have := gCm_c o; omega
  rcases gCm_v o with ⟨a, b, rfl⟩ | ⟨a, b, rfl⟩ | ⟨a, b, rfl⟩ | ⟨a, b, rfl⟩ | ⟨a, rfl⟩
  · rw [eq44 c hq _ _ (by rw [a]; decide), if_pos b, a]
    unfold b_X12_compare_105 cmpT
    rw [q_308]
    rfl
  · rw [eq44 c hq _ _ (by rw [a]; decide), if_neg b, a]
    unfold b_X12_compare_105 cmpT
    rw [q_308]
    rfl
  · rw [eq44 c hq _ _ (by rw [a]; decide), if_pos b, a]
    unfold b_X12_compare_105 cmpT
    rw [q_308]
    rfl
  · rw [eq44 c hq _ _ (by rw [a]; decide), if_neg b, a]
    unfold b_X12_compare_105 cmpT
    rw [q_308]
    rfl
  · have p8 : hI g 308 8 = nI s.1 := c.1.2.2.1
    have pp := c.pp (s.1 + 1)
    rw [a]
    have e : b_X12_compare_44 g 308 61 (nI s.1) = b_X12_compare_105 (rP g (s.1 + 1)) 308 61 (nI s.1) 0 := by
      simp only [b_X12_compare_44, q_308, p8, i1, aLet, pp, if_true, b_X12_compare_89, b_X12_compare_90]
    rw [e]
    unfold b_X12_compare_105 cmpT
    rw [q_308]
    rfl
theorem compareR {h : aH} {t : Row} {n k : Nat} {s : GS} (hk : k < 6) (c : RRk h t n k s) (hne : gCp t n s ≠ none) : ∃ h', f_X12_compare h 308 = some (bB (okR (gCp t n s)), h') ∧ RRu h' t n k (gCp t n s) ∧ FS k h h' := by
  unfold gCp at hne ⊢
  obtain ⟨g1, e1, c1, u1⟩ := sumRu hk c (gB_n hne)
  unfold f_X12_compare
  rw [q_308]
  cases q : gSum t n s with
  | none => rw [q] at c1; exact c1.elim
  | some v =>
    rw [q] at e1 c1
    rw [e1, aBind_some]
    cases v with
    | inl f => exact ⟨g1, rfl, c1, u1⟩
    | inr s1 =>
      rw [q] at hne
      rw [if_neg (bB_t s1)]
      have c1' : RRk g1 t n k s1 := c1
      have hne' : gCp2 t n s1 ≠ none := hne
      show ∃ h', _ = some (bB (okR (gCp2 t n s1)), h') ∧ RRu h' t n k (gCp2 t n s1) ∧ _
      have hp := c1'.1.2.1
      have hn := c1'.1.1.2.2.1
      have sl := sk_le (t := t) hp
      have se := seeT c1'
      obtain ⟨g2, eg2⟩ : ∃ g2, g2 = rP g1 (sk t n s1.1) := ⟨_, rfl⟩
      have c2 : RRk g2 t n k (sk t n s1.1, s1.2) := by rw [eg2]; exact c1'.p sl.2
      have u2 : FS k g1 g2 := by rw [eg2]; exact FS.p
      rw [← eg2] at se
      have p8 : hI g2 308 8 = nI (sk t n s1.1) := c2.1.2.2.1
      rw [se, aBind_some, aLet_e, p8]
      unfold gCp2 at hne' ⊢
      cases o : gCm t n (sk t n s1.1) with
      | none =>
        have y := gCm_n o
        obtain ⟨g3, e3, x3, u3⟩ := failK c2 0 (sk t n s1.1) (blm_ne (by omega) (Or.inl rfl))
        refine ⟨g3, ?_, x3, u1.tr (u2.tr u3)⟩
        rw [if_neg y.1, if_neg y.2.1, if_neg y.2.2, e3]
        rfl
      | some z =>
        rw [o] at hne'
        have hz := gCm_c o
        have hne2 : gB (gCnt (sk t n s1.1) (z.2, s1.2)) (fun s2 => gB (gSum t n s2) (gEm z.1 0)) ≠ none := hne'
        have m44 := cmp44 c2 o
        have m44' : b_X12_compare_44 g2 308 (bya t n (sk t n s1.1)) (nI (sk t n s1.1)) = cmpT (rP g2 z.2) (sk t n s1.1) z.1 := m44
        have pick : (if bya t n (sk t n s1.1) = 60 then b_X12_compare_44 g2 308 (bya t n (sk t n s1.1)) (nI (sk t n s1.1)) else if bya t n (sk t n s1.1) = 61 then b_X12_compare_44 g2 308 (bya t n (sk t n s1.1)) (nI (sk t n s1.1)) else if bya t n (sk t n s1.1) = 62 then b_X12_compare_44 g2 308 (bya t n (sk t n s1.1)) (nI (sk t n s1.1)) else aBind (f_X12_fails g2 308 0 (nI (sk t n s1.1))) fun r27 h28 => if r27 = 0 ∨ r27 = 1 then some (r27, h28) else none) = cmpT (rP g2 z.2) (sk t n s1.1) z.1 := by
          rw [m44']
          by_cases a : bya t n (sk t n s1.1) = 60
          · rw [if_pos a]
          · rw [if_neg a]
            by_cases b : bya t n (sk t n s1.1) = 61
            · rw [if_pos b]
            · rw [if_neg b]
              by_cases d : bya t n (sk t n s1.1) = 62
              · rw [if_pos d]
              · rcases gCm_v o with ⟨q1, _⟩ | ⟨q1, _⟩ | ⟨q1, _⟩ | ⟨q1, _⟩ | ⟨q1, _⟩
                · exact absurd q1 a
                · exact absurd q1 a
                · exact absurd q1 d
                · exact absurd q1 d
                · exact absurd q1 b
        rw [pick]
        have c3 : RRk (rP g2 z.2) t n k (z.2, s1.2) := c2.p (q := z.2) hz.2.1
        obtain ⟨g4, e4, c4, u4⟩ := makesR c3 (q := sk t n s1.1) (by omega)
        unfold cmpT
        show ∃ h', _ = some (bB (okR (gB (gCnt (sk t n s1.1) (z.2, s1.2)) (fun s2 => gB (gSum t n s2) (gEm z.1 0)))), h') ∧ RRu h' t n k (gB (gCnt (sk t n s1.1) (z.2, s1.2)) (fun s2 => gB (gSum t n s2) (gEm z.1 0))) ∧ _
        cases q2 : gCnt (sk t n s1.1) (z.2, s1.2) with
        | none => rw [q2] at c4; exact c4.elim
        | some v =>
          rw [q2] at e4 c4
          rw [e4, aBind_some]
          cases v with
          | inl f => exact ⟨g4, rfl, c4, u1.tr (u2.tr (FS.p.tr u4))⟩
          | inr s4 =>
            rw [q2] at hne2
            have hne3 : gB (gSum t n s4) (gEm z.1 0) ≠ none := hne2
            rw [if_neg (bB_t s4)]
            obtain ⟨g5, e5, c5, u5⟩ := sumRu hk c4 (gB_n hne3)
            unfold b_X12_compare_152
            rw [q_308]
            show ∃ h', _ = some (bB (okR (gB (gSum t n s4) (gEm z.1 0))), h') ∧ RRu h' t n k (gB (gSum t n s4) (gEm z.1 0)) ∧ _
            cases q3 : gSum t n s4 with
            | none => rw [q3] at c5; exact c5.elim
            | some v =>
              rw [q3] at e5 c5
              rw [e5, aBind_some]
              cases v with
              | inl f => exact ⟨g5, rfl, c5, u1.tr (u2.tr (FS.p.tr (u4.tr u5)))⟩
              | inr s5 =>
                rw [q3] at hne3
                have hne4 : gEm z.1 0 s5 ≠ none := hne3
                have l5 := em_len hne4
                obtain ⟨g6, e6, c6, u6⟩ := putsR hk c5 l5 z.1 0
                have ez : (6 : Int32) + nI (z.1 - 6) = nI z.1 := by
                  have := nI_add 6 (z.1 - 6)
                  rw [show 6 + (z.1 - 6) = z.1 by omega] at this
                  exact this
                have e6' : f_X12_puts g5 308 (nI z.1) 0 = some ((), g6) := e6
                rw [if_neg (bB_t s5), ez, e6', aBind_some]
                show ∃ h', _ = some (bB (okR (gEm z.1 0 s5)), h') ∧ RRu h' t n k (gEm z.1 0 s5) ∧ _
                rw [em_ok l5]
                exact ⟨g6, rfl, c6, u1.tr (u2.tr (FS.p.tr (u4.tr (u5.tr u6))))⟩
