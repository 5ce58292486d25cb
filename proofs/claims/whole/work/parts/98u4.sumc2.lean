/-! ===== rule: the class's sums, the loop ===== -/
theorem gB_r (r : Rs) (f g G : GS → Rs) : gB (gB r (fun s => gB (f s) g)) G = gB (gB r f) (fun s => gB (g s) G) := by
  match r with
  | none => rfl
  | some (.inl _) => rfl
  | some (.inr s) => exact gB_a (f s) g G
theorem gSL_s {t : Row} {n b k : Nat} {x : GS} (hq : sk t n x.1 = x.1) (o : opS (bya t n x.1) = some k) : gSL t n (b + 1) x = gB (gB (gVal t n (x.1 + 1, x.2)) (gTL t n 401)) (fun s' => gB (gEm k 0 s') (gSL t n b)) := by
  rw [gSL, hq, o]
  rfl
theorem gSL_e {t : Row} {n b : Nat} {x : GS} (hq : sk t n x.1 = x.1) (o : opS (bya t n x.1) = none) : gSL t n (b + 1) x = gK x := by
  rw [gSL, hq, o]
theorem gEw_end {t : Row} {n b : Nat} {x : GS} {W : Option Nat} (hq : sk t n x.1 = x.1) (o : opS (bya t n x.1) = none) : gB (gEw W x) (gSL t n (b + 1)) = gEw W x := by
  cases W with
  | none => exact gSL_e hq o
  | some w =>
    show gB (gEm w 0 x) _ = gEm w 0 x
    unfold gEm
    by_cases y : x.2.2.length < 256
    · rw [if_pos y]
      exact gSL_e (x := (x.1, x.2.1, (w, 0) :: x.2.2)) hq o
    · rw [if_neg y]
      rfl
theorem gEw_op {t : Row} {n b k : Nat} {x : GS} {W : Option Nat} (hq : sk t n x.1 = x.1) (o : opS (bya t n x.1) = some k) : gB (gEw W x) (gSL t n (b + 1)) = gB (gB (gEw W (x.1 + 1, x.2)) (gVal t n)) (fun s2 => gB (gTL t n 401 s2) (fun s3 => gB (gEw (some k) s3) (gSL t n b))) := by
  cases W with
  | none =>
    show gSL t n (b + 1) x = gB (gVal t n (x.1 + 1, x.2)) _
    rw [gSL_s hq o, gB_a]
    rfl
  | some w =>
    show gB (gEm w 0 x) _ = gB (gB (gEm w 0 (x.1 + 1, x.2)) _) _
    unfold gEm
    by_cases y : x.2.2.length < 256
    · rw [if_pos y, if_pos (show (x.1 + 1, x.2).2.2.length < 256 from y)]
      show gSL t n (b + 1) (x.1, x.2.1, (w, 0) :: x.2.2) = gB (gVal t n (x.1 + 1, x.2.1, (w, 0) :: x.2.2)) _
      rw [gSL_s (x := (x.1, x.2.1, (w, 0) :: x.2.2)) hq o, gB_a]
      rfl
    · rw [if_neg y, if_neg (show ¬ (x.1 + 1, x.2).2.2.length < 256 from y)]
      rfl
theorem mo_ew {n : Nat} {W : Option Nat} : Mo n (gEw W) := by
  cases W with
  | none => intro s s' h e; have := gK_inj e; subst this; exact ⟨Nat.le_refl _, h⟩
  | some k => exact mo_em
theorem ckT : ∀ k, k < 15 → (k = 4 ∨ k = 5 ∨ k = 14) → ¬ nI (ck k) = -1 ∧ ¬ nI (ck k) = 2 ∧ ¬ nI (ck k) = 3 := by decide +kernel
theorem ckS : ∀ k, k < 15 → (k = 2 ∨ k = 3) → ¬ nI (ck k) = -1 ∧ nI (ck k) = nI k := by decide +kernel
theorem w48 {h : aH} {t : Row} {n ra : Nat} {s : GS} (m : ra ∈ rlL) (c : CRk h t n ra s) {W : Option Nat} (hW : okO W) (hne : gEw W s ≠ none) (k8 : aH → Nat → Int32 → Int32 → Option (Unit × aH)) (x2 x3 : Int32) : ∃ h', b_X6_readSum_48 k8 h 4 (wW W) x2 x3 = b_X6_readSum_74 k8 h' 4 (wW W) x2 x3 1 ∧ CRu h' t n ra (gEw W s) ∧ CU ra h h' := by
  cases W with
  | none =>
    refine ⟨h, ?_, c, CU.rf h⟩
    simp only [b_X6_readSum_48, b_X6_readSum_53, if_neg (show ¬ (1 : Int32) = 0 by decide), wW, if_true]
  | some k =>
    have hk := hW k rfl
    have c2 : CRu h t n ra (gK s) := c
    obtain ⟨h1, e1, c1, u1⟩ := emitC m c2 (k := k) (x := 0) (by omega) (by decide) hne
    have e1' : f_X5_emit h ra (nI (ck k)) 0 = some ((), h1) := e1
    have y := (ckS k (by omega) hk).1
    refine ⟨h1, ?_, c1, u1⟩
    simp only [b_X6_readSum_48, b_X6_readSum_53, if_neg (show ¬ (1 : Int32) = 0 by decide), wW, if_neg y, q_4, c.2.1, Option.bind_some, qrl0 m, e1', aBind_some]
theorem sumLC {t : Row} {n ra : Nat} (m : ra ∈ rlL) : ∀ (M : Nat) (h : aH) (s : GS) (W : Option Nat) (i a b K : Nat), CRk h t n ra s → okO W → n < M + s.1 → i ≤ s.1 → M < K → n < a + s.1 → n < b + s.1 → gB (gTL t n a s) (fun s1 => gB (gEw W s1) (gSL t n b)) ≠ none → ∃ h', f_X6_readSum_8 K h 4 (wW W) (nI i) = some ((), h') ∧ CRu h' t n ra (gB (gTL t n a s) (fun s1 => gB (gEw W s1) (gSL t n b))) ∧ CU ra h h' := by
  intro M
  induction M with
  | zero =>
    intro h s W i a b K c _ h1
    have := c.1.2.1
    omega
  | succ M ih =>
    intro h s W i a b K c hW h1 h2 h3 h4 h5 hne
    have ct := c.1
    have S := ct.1.1
    have hn := ct.1.2.2.1
    have hp := ct.2.1
    have sl := sk_le (t := t) hp
    have ss := sk_sk (t := t) hp
    have f3 : hI h 1 3 = 0 := ct.2.2.2
    have r41 := c.2.1
    obtain ⟨K', rfl⟩ : ∃ K', K = K' + 2 := ⟨K - 2, by omega⟩
    obtain ⟨a', rfl⟩ : ∃ a', a = a' + 1 := ⟨a - 1, by omega⟩
    obtain ⟨b', rfl⟩ : ∃ b', b = b' + 1 := ⟨b - 1, by omega⟩
    cases oT : opT (bya t n (sk t n s.1)) with
    | some k =>
      have kk := opT_c oT
      have oC : opC (bya t n (sk t n s.1)) = some k := by unfold opC; rw [oT]
      have eO : f_X6_takeOperator h 4 = some (nI (ck k), cS h (sk t n s.1 + 1) 0) := by rw [takeOpC c, oC]
      have eT : gTL t n (a' + 1) s = gB (gVal t n (sk t n s.1 + 1, s.2)) (fun s' => gB (gEm k 0 s') (gTL t n a')) := by rw [gTL, oT]
      have eA : gB (gTL t n (a' + 1) s) (fun s1 => gB (gEw W s1) (gSL t n (b' + 1))) = gB (gB (gVal t n (sk t n s.1 + 1, s.2)) (gEm k 0)) (fun s' => gB (gTL t n a' s') (fun s1 => gB (gEw W s1) (gSL t n (b' + 1)))) := by rw [eT]; exact gB_r _ _ _ _
      rw [eA] at hne ⊢
      have c1 : CRu (cS h (sk t n s.1 + 1) 0) t n ra (gK (sk t n s.1 + 1, s.2)) := c.cs m (by omega)
      obtain ⟨g2, e2, c2, u2⟩ := readValueC m c1 (gB_n (gB_n hne))
      obtain ⟨g3, e3, c3, u3⟩ := emitC m c2 (k := k) (x := 0) (by omega) (by decide) (gB_n hne)
      have e3' : f_X5_emit g2 ra (nI (ck k)) 0 = some ((), g3) := e3
      have r2 : hR g2 4 1 = some ra := u2.2.2.trans r41
      have U : CU ra h g3 := (CU.cs m).tr (u2.tr u3)
      have c3' : CRu g3 t n ra (gB (gVal t n (sk t n s.1 + 1, s.2)) (gEm k 0)) := c3
      have y := ckT k (by omega) kk.2
      have c4 : ¬ (400 : Int32) ≤ nI i := nI_ge (b := 400) (by omega) (by decide)
      have code : f_X6_readSum_8 (K' + 2) h 4 (wW W) (nI i) = f_X6_readSum_8 (K' + 1) g3 4 (wW W) (nI (i + 1)) := by
        show b_X6_readSum_8 (f_X6_readSum_8 (K' + 1)) h 4 (wW W) (nI i) = _
        simp only [b_X6_readSum_8, if_neg c4, q_4, r_4_0 S, Option.bind_some, q_1, f3, if_true, eO, aBind_some, if_neg y.1, if_neg y.2.1, if_neg y.2.2, b_X6_readSum_53, b_X6_readSum_74, e2, r2, qrl0 m, e3', b_X6_readSum_97, i1]
      rw [code]
      cases q : gB (gVal t n (sk t n s.1 + 1, s.2)) (gEm k 0) with
      | none => rw [q] at c3'; exact c3'.elim
      | some v =>
        cases v with
        | inl f =>
          rw [q] at c3'
          obtain ⟨g4, e4, c4, u4⟩ := sumX m c3' (wW W) (nI (i + 1)) K'
          exact ⟨g4, e4, c4, U.tr u4⟩
        | inr s3 =>
          rw [q] at c3' hne
          have mm := (mo_val.b mo_em) (sk t n s.1 + 1, s.2) s3 (show sk t n s.1 + 1 ≤ n by omega) q
          have m1 : sk t n s.1 + 1 ≤ s3.1 := mm.1
          obtain ⟨g4, e4, c4, u4⟩ := ih g3 s3 W (i + 1) a' (b' + 1) (K' + 1) c3' hW (by omega) (by omega) (by omega) (by omega) (by omega) hne
          exact ⟨g4, e4, c4, U.tr u4⟩
    | none =>
      have eT : gTL t n (a' + 1) s = gK (sk t n s.1, s.2) := by rw [gTL, oT]
      have eG : gB (gTL t n (a' + 1) s) (fun s1 => gB (gEw W s1) (gSL t n (b' + 1))) = gB (gEw W (sk t n s.1, s.2)) (gSL t n (b' + 1)) := by rw [eT]; rfl
      rw [eG] at hne ⊢
      cases oS : opS (bya t n (sk t n s.1)) with
      | none =>
        have oC : opC (bya t n (sk t n s.1)) = none := by unfold opC; rw [oT]; exact oS
        have eO : f_X6_takeOperator h 4 = some (-1, cS h (sk t n s.1) 0) := by rw [takeOpC c, oC]
        rw [gEw_end (x := (sk t n s.1, s.2)) ss oS] at hne ⊢
        obtain ⟨g2, e2, c2, u2⟩ := s103C m (c.cs m sl.2) hW hne
        refine ⟨g2, ?_, c2, (CU.cs m).tr u2⟩
        show b_X6_readSum_8 (f_X6_readSum_8 (K' + 1)) h 4 (wW W) (nI i) = _
        by_cases c4 : (400 : Int32) ≤ nI i
        · have i4 : 400 ≤ i := (nI_leI (a := 400) (by decide) (by omega)).mp c4
          have eq : sk t n s.1 = s.1 := by omega
          rw [eq, ct.e] at e2
          simp only [b_X6_readSum_8, if_pos c4, e2]
        · simp only [b_X6_readSum_8, if_neg c4, q_4, r_4_0 S, Option.bind_some, q_1, f3, if_true, eO, aBind_some, e2]
      | some k =>
        have kk := opS_c oS
        have oC : opC (bya t n (sk t n s.1)) = some k := by unfold opC; rw [oT]; exact oS
        have eO : f_X6_takeOperator h 4 = some (nI (ck k), cS h (sk t n s.1 + 1) 0) := by rw [takeOpC c, oC]
        rw [gEw_op (x := (sk t n s.1, s.2)) ss oS] at hne ⊢
        have c1 : CRk (cS h (sk t n s.1 + 1) 0) t n ra (sk t n s.1 + 1, s.2) := c.cs m (by omega)
        obtain ⟨g2, e2, c2, u2⟩ := w48 m c1 hW (gB_n (gB_n hne)) (f_X6_readSum_8 (K' + 1)) (nI i) (nI (ck k))
        obtain ⟨g3, e3, c3, u3⟩ := readValueC m c2 (gB_n hne)
        have U : CU ra h g3 := (CU.cs m).tr (u2.tr u3)
        have y := ckS k (by omega) kk.2
        have c4 : ¬ (400 : Int32) ≤ nI i := nI_ge (b := 400) (by omega) (by decide)
        have code : f_X6_readSum_8 (K' + 2) h 4 (wW W) (nI i) = f_X6_readSum_8 (K' + 1) g3 4 (wW (some k)) (nI (i + 1)) := by
          show b_X6_readSum_8 (f_X6_readSum_8 (K' + 1)) h 4 (wW W) (nI i) = f_X6_readSum_8 (K' + 1) g3 4 (nI (ck k)) (nI (i + 1))
          have e74 : b_X6_readSum_74 (f_X6_readSum_8 (K' + 1)) g2 4 (wW W) (nI i) (nI (ck k)) 1 = f_X6_readSum_8 (K' + 1) g3 4 (nI (ck k)) (nI (i + 1)) := by
            simp only [b_X6_readSum_74, q_4, e3, aBind_some, if_neg (show ¬ (1 : Int32) = 0 by decide), b_X6_readSum_97, i1]
          simp only [b_X6_readSum_8, if_neg c4, q_4, r_4_0 S, Option.bind_some, q_1, f3, if_true, eO, aBind_some, if_neg y.1, e2, e74]
          rcases kk.2 with z | z
          · subst z; exact if_pos rfl
          · subst z; rw [if_neg (show ¬ nI (ck 3) = 2 by decide), if_pos (show nI (ck 3) = 3 from rfl)]
        rw [code]
        cases q : gB (gEw W (sk t n s.1 + 1, s.2)) (gVal t n) with
        | none => rw [q] at c3; exact c3.elim
        | some v =>
          cases v with
          | inl f =>
            rw [q] at c3
            obtain ⟨g4, e4, c4, u4⟩ := sumX m c3 (wW (some k)) (nI (i + 1)) K'
            exact ⟨g4, e4, c4, U.tr u4⟩
          | inr s3 =>
            rw [q] at c3 hne
            have mm := (mo_ew.b mo_val) (sk t n s.1 + 1, s.2) s3 (show sk t n s.1 + 1 ≤ n by omega) q
            have m1 : sk t n s.1 + 1 ≤ s3.1 := mm.1
            obtain ⟨g4, e4, c4, u4⟩ := ih g3 s3 (some k) (i + 1) 401 b' (K' + 1) c3 (fun x hx => by injection hx with hx; subst hx; exact kk.2) (by omega) (by omega) (by omega) (by omega) (by omega) hne
            exact ⟨g4, e4, c4, U.tr u4⟩
theorem readSumC {h : aH} {t : Row} {n ra : Nat} {r : Rs} (m : ra ∈ rlL) (c : CRu h t n ra r) (hne : gB r (gSum t n) ≠ none) : ∃ h', f_X6_readSum h 4 = some ((), h') ∧ CRu h' t n ra (gB r (gSum t n)) ∧ CU ra h h' := by
  have eA : gB r (gSum t n) = gB (gB r (gVal t n)) (fun s => gB (gTL t n 401 s) (fun s1 => gB (gEw none s1) (gSL t n 401))) := by
    match r with
    | none => rfl
    | some (.inl _) => rfl
    | some (.inr s) => exact gB_a (gVal t n s) (gTL t n 401) (gSL t n 401)
  rw [eA] at hne ⊢
  obtain ⟨g2, e2, c2, u2⟩ := readValueC m c (gB_n hne)
  have code : f_X6_readSum h 4 = f_X6_readSum_8 2000 g2 4 (wW none) (nI 0) := by
    unfold f_X6_readSum
    rw [q_4, e2, aBind_some]
    rfl
  rw [code]
  cases q : gB r (gVal t n) with
  | none => rw [q] at c2; exact c2.elim
  | some v =>
    cases v with
    | inl f =>
      rw [q] at c2
      obtain ⟨g4, e4, c4, u4⟩ := sumX m c2 (wW none) (nI 0) 1999
      exact ⟨g4, e4, c4, u2.tr u4⟩
    | inr s3 =>
      rw [q] at c2 hne
      have c3 : CRk g2 t n ra s3 := c2
      have hn := c3.1.1.2.2.1
      obtain ⟨g4, e4, c4, u4⟩ := sumLC m 401 g2 s3 none 0 401 401 2000 c3 (fun x hx => by cases hx) (by omega) (by omega) (by omega) (by omega) (by omega) hne
      exact ⟨g4, e4, c4, u2.tr u4⟩
