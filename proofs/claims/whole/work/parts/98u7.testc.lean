/-! ===== rule: the class's tests ===== -/
theorem ifW_ok : okW (sLen.getD 3 0) (chW 3) 0 [(2, 26982)] = true := by decide +kernel
theorem orW_ok : okW (sLen.getD 4 0) (chW 4) 0 [(2, 28530)] = true := by decide +kernel
theorem anW_ok : okW (sLen.getD 5 0) (chW 5) 0 [(3, 6385252)] = true := by decide +kernel
theorem noW_ok : okW (sLen.getD 6 0) (chW 6) 0 [(3, 7237492)] = true := by decide +kernel
theorem nextWC {h : aH} {t : Row} {n ra i w L : Nat} {s : GS} (hi : i < 7) (ok : okW (sLen.getD i 0) (chW i) 0 [(L, w)] = true) (c : CRk h t n ra s) : f_X6_isNextWord h 4 (1000 + i) = if isH t n s.1 w = true then some (1, cS h (lw t n (sk t n s.1)) 0) else some (0, cS h (sk t n s.1) 0) := by
  have ct := c.1
  have S := ct.1.1
  have f3 : hI h 1 3 = 0 := ct.2.2.2
  have tw := takeWordC ct.1 (tabW hi) ok (show [(L, w)].length < 100 from Nat.le_of_ble_eq_true rfl) ct.2.1 0
  rw [ct.e] at tw
  simp only [kW] at tw
  unfold isH
  by_cases y : isWB t (sk t n s.1) (lw t n (sk t n s.1)) w = true
  · rw [if_pos y] at tw ⊢
    have tw' : f_X9_takeWord h 1 (1000 + i) = some (nI 0, cS h (lw t n (sk t n s.1)) 0) := tw
    simp only [f_X6_isNextWord, q_4, r_4_0 S, Option.bind_some, q_1, f3, if_true, tw', aBind_some, if_neg (show ¬ nI 0 = -1 by decide)]
  · rw [if_neg y] at tw ⊢
    have tw' : f_X9_takeWord h 1 (1000 + i) = some (-1, cS h (sk t n s.1) 0) := tw
    simp only [f_X6_isNextWord, q_4, r_4_0 S, Option.bind_some, q_1, f3, if_true, tw', aBind_some]
theorem nextWX {h : aH} {t : Row} {n ra : Nat} {f : Int32} (c : CRx h t n ra f) (A : Nat) : f_X6_isNextWord h 4 A = some (0, h) := by
  obtain ⟨f0, r1, p, z, ct, hz, ez⟩ := c
  simp only [f_X6_isNextWord, q_4, r_4_0 ct.1.1, Option.bind_some, q_1, ct.2.2.2, if_neg f0]
def TC (t : Row) (n ra : Nat) (F : GS → Rs) (call : aH → Option (Unit × aH)) : Prop := ∀ (h : aH) (r : Rs), CRu h t n ra r → gB r F ≠ none → ∃ h', call h = some ((), h') ∧ CRu h' t n ra (gB r F) ∧ CU ra h h'
theorem CRu.hr {h : aH} {t : Row} {n ra : Nat} {r : Rs} (c : CRu h t n ra r) : hR h 4 1 = some ra := by
  match r with
  | none => exact c.elim
  | some (.inl f) => have c' : CRx h t n ra f := c; exact c'.2.1
  | some (.inr s) => have c' : CRk h t n ra s := c; exact c'.2.1
theorem CRk.sk {h : aH} {t : Row} {n ra : Nat} {s : GS} (c : CRk h t n ra s) (e : sk t n s.1 = s.1) : CRk h t n ra (sk t n s.1, s.2) := by rw [e]; exact c
theorem andX {h : aH} {t : Row} {n ra : Nat} {f : Int32} (c : CRx h t n ra f) (rc : Nat → aH → Nat → Int32 → Option (Unit × aH)) (d i : Int32) (K : Nat) : f_X6_readPart_7 (rc) (K + 1) h 4 d i = some ((), h) := by
  have x := nextWX c 1005
  show b_X6_readPart_7 rc (f_X6_readPart_7 rc K) h 4 d i = _
  by_cases y : (400 : Int32) ≤ i
  · simp only [b_X6_readPart_7, if_pos y]
  · simp only [b_X6_readPart_7, if_neg y, q_4, x, aBind_some, if_true]
theorem andLC {t : Row} {n ra : Nat} (m : ra ∈ rlL) {F : GS → Rs} (hF : Mo n F) {rc : Nat → aH → Nat → Int32 → Option (Unit × aH)} {d : Int32} (T : TC t n ra F (fun h => rc 2 h 4 d)) : ∀ (M : Nat) (h : aH) (s : GS) (i a K : Nat), CRk h t n ra s → n < M + s.1 → i ≤ s.1 → M < K → n < a + s.1 → gWL t n 6385252 12 F a s ≠ none → ∃ h', f_X6_readPart_7 rc K h 4 d (nI i) = some ((), h') ∧ CRu h' t n ra (gWL t n 6385252 12 F a s) ∧ CU ra h h' := by
  intro M
  induction M with
  | zero =>
    intro h s i a K c h1
    have := c.1.2.1
    omega
  | succ M ih =>
    intro h s i a K c h1 h2 h3 h4 hne
    have ct := c.1
    have S := ct.1.1
    have hn := ct.1.2.2.1
    have hp := ct.2.1
    have sl := sk_le (t := t) hp
    obtain ⟨K', rfl⟩ : ∃ K', K = K' + 2 := ⟨K - 2, by omega⟩
    obtain ⟨a', rfl⟩ : ∃ a', a = a' + 1 := ⟨a - 1, by omega⟩
    have nw := nextWC (i := 5) (by decide) anW_ok c
    have nw' : f_X6_isNextWord h 4 1005 = if isH t n s.1 6385252 = true then some (1, cS h (lw t n (sk t n s.1)) 0) else some (0, cS h (sk t n s.1) 0) := nw
    by_cases o : isH t n s.1 6385252 = true
    · have hl := isH_lt hp o
      rw [if_pos o] at nw'
      have eT : gWL t n 6385252 12 F (a' + 1) s = gB (gB (F (lw t n (sk t n s.1), s.2)) (gEm 12 0)) (gWL t n 6385252 12 F a') := by rw [gWL, if_pos o, gB_a]
      rw [eT] at hne ⊢
      have c1 : CRu (cS h (lw t n (sk t n s.1)) 0) t n ra (gK (lw t n (sk t n s.1), s.2)) := c.cs m hl.2.1
      obtain ⟨g2, e2, c2, u2⟩ := T _ _ c1 (gB_n (gB_n hne))
      obtain ⟨g3, e3, c3, u3⟩ := emitC m c2 (k := 12) (x := 0) (by decide) (by decide) (gB_n hne)
      have e2' : rc 2 (cS h (lw t n (sk t n s.1)) 0) 4 d = some ((), g2) := e2
      have e3' : f_X5_emit g2 ra 12 0 = some ((), g3) := e3
      have r2 := c2.hr
      have U : CU ra h g3 := (CU.cs m).tr (u2.tr u3)
      have c4 : ¬ (400 : Int32) ≤ nI i := nI_ge (b := 400) (by omega) (by decide)
      have code : f_X6_readPart_7 rc (K' + 2) h 4 d (nI i) = f_X6_readPart_7 rc (K' + 1) g3 4 d (nI (i + 1)) := by
        show b_X6_readPart_7 rc (f_X6_readPart_7 rc (K' + 1)) h 4 d (nI i) = _
        simp only [b_X6_readPart_7, if_neg c4, q_4, nw', aBind_some, if_neg (show ¬ (1 : Int32) = 0 by decide), e2', r2, Option.bind_some, qrl0 m, e3', i1]
      rw [code]
      have c3' : CRu g3 t n ra (gB (F (lw t n (sk t n s.1), s.2)) (gEm 12 0)) := c3
      cases q : gB (F (lw t n (sk t n s.1), s.2)) (gEm 12 0) with
      | none => rw [q] at c3'; exact c3'.elim
      | some v =>
        cases v with
        | inl f =>
          rw [q] at c3'
          exact ⟨g3, andX c3' rc d _ K', c3', U⟩
        | inr s3 =>
          rw [q] at c3' hne
          have mm := (hF.b mo_em) (lw t n (sk t n s.1), s.2) s3 hl.2.1 q
          have m1 : lw t n (sk t n s.1) ≤ s3.1 := mm.1
          obtain ⟨g4, e4, c4, u4⟩ := ih g3 s3 (i + 1) a' (K' + 1) c3' (by omega) (by omega) (by omega) (by omega) hne
          exact ⟨g4, e4, c4, U.tr u4⟩
    · rw [if_neg o] at nw'
      have eT : gWL t n 6385252 12 F (a' + 1) s = gK (sk t n s.1, s.2) := by rw [gWL, if_neg o]
      rw [eT]
      by_cases c4 : (400 : Int32) ≤ nI i
      · have i4 : 400 ≤ i := (nI_leI (a := 400) (by decide) (by omega)).mp c4
        refine ⟨h, ?_, c.sk (by omega), CU.rf h⟩
        show b_X6_readPart_7 rc (f_X6_readPart_7 rc (K' + 1)) h 4 d (nI i) = _
        simp only [b_X6_readPart_7, if_pos c4]
      · refine ⟨cS h (sk t n s.1) 0, ?_, c.cs m sl.2, CU.cs m⟩
        show b_X6_readPart_7 rc (f_X6_readPart_7 rc (K' + 1)) h 4 d (nI i) = _
        simp only [b_X6_readPart_7, if_neg c4, q_4, nw', aBind_some, if_true]
theorem partTC {t : Row} {n ra : Nat} (hn : n ≤ 400) (m : ra ∈ rlL) {F : GS → Rs} (hF : Mo n F) {rc : Nat → aH → Nat → Int32 → Option (Unit × aH)} {d : Int32} (T : TC t n ra F (fun h => rc 2 h 4 d)) : TC t n ra (fun s => gB (F s) (gWL t n 6385252 12 F 401)) (fun h => fb_X6_readPart rc h 4 d) := by
  intro h r c hne
  have eA : gB r (fun s => gB (F s) (gWL t n 6385252 12 F 401)) = gB (gB r F) (gWL t n 6385252 12 F 401) := (gB_a _ _ _).symm
  rw [eA] at hne ⊢
  obtain ⟨g2, e2, c2, u2⟩ := T h r c (gB_n hne)
  have e2' : rc 2 h 4 d = some ((), g2) := e2
  have code : fb_X6_readPart rc h 4 d = f_X6_readPart_7 rc 2000 g2 4 d (nI 0) := by
    unfold fb_X6_readPart
    rw [q_4, e2', aBind_some]
    rfl
  show ∃ h', fb_X6_readPart rc h 4 d = _ ∧ _
  rw [code]
  cases q : gB r F with
  | none => rw [q] at c2; exact c2.elim
  | some v =>
    cases v with
    | inl f =>
      rw [q] at c2
      exact ⟨g2, andX c2 rc d _ 1999, c2, u2⟩
    | inr s3 =>
      rw [q] at c2 hne
      obtain ⟨g4, e4, c4, u4⟩ := andLC m hF T 401 g2 s3 0 401 2000 c2 (by omega) (by omega) (by omega) (by omega) hne
      exact ⟨g4, e4, c4, u2.tr u4⟩
theorem orX {h : aH} {t : Row} {n ra : Nat} {f : Int32} (c : CRx h t n ra f) (rc : Nat → aH → Nat → Int32 → Option (Unit × aH)) (d i : Int32) (K : Nat) : f_X6_readTest_7 (rc) (K + 1) h 4 d i = some ((), h) := by
  have x := nextWX c 1004
  show b_X6_readTest_7 rc (f_X6_readTest_7 rc K) h 4 d i = _
  by_cases y : (400 : Int32) ≤ i
  · simp only [b_X6_readTest_7, if_pos y]
  · simp only [b_X6_readTest_7, if_neg y, q_4, x, aBind_some, if_true]
theorem orLC {t : Row} {n ra : Nat} (m : ra ∈ rlL) {F : GS → Rs} (hF : Mo n F) {rc : Nat → aH → Nat → Int32 → Option (Unit × aH)} {d : Int32} (T : TC t n ra F (fun h => rc 1 h 4 d)) : ∀ (M : Nat) (h : aH) (s : GS) (i a K : Nat), CRk h t n ra s → n < M + s.1 → i ≤ s.1 → M < K → n < a + s.1 → gWL t n 28530 13 F a s ≠ none → ∃ h', f_X6_readTest_7 rc K h 4 d (nI i) = some ((), h') ∧ CRu h' t n ra (gWL t n 28530 13 F a s) ∧ CU ra h h' := by
  intro M
  induction M with
  | zero =>
    intro h s i a K c h1
    have := c.1.2.1
    omega
  | succ M ih =>
    intro h s i a K c h1 h2 h3 h4 hne
    have ct := c.1
    have S := ct.1.1
    have hn := ct.1.2.2.1
    have hp := ct.2.1
    have sl := sk_le (t := t) hp
    obtain ⟨K', rfl⟩ : ∃ K', K = K' + 2 := ⟨K - 2, by omega⟩
    obtain ⟨a', rfl⟩ : ∃ a', a = a' + 1 := ⟨a - 1, by omega⟩
    have nw := nextWC (i := 4) (by decide) orW_ok c
    have nw' : f_X6_isNextWord h 4 1004 = if isH t n s.1 28530 = true then some (1, cS h (lw t n (sk t n s.1)) 0) else some (0, cS h (sk t n s.1) 0) := nw
    by_cases o : isH t n s.1 28530 = true
    · have hl := isH_lt hp o
      rw [if_pos o] at nw'
      have eT : gWL t n 28530 13 F (a' + 1) s = gB (gB (F (lw t n (sk t n s.1), s.2)) (gEm 13 0)) (gWL t n 28530 13 F a') := by rw [gWL, if_pos o, gB_a]
      rw [eT] at hne ⊢
      have c1 : CRu (cS h (lw t n (sk t n s.1)) 0) t n ra (gK (lw t n (sk t n s.1), s.2)) := c.cs m hl.2.1
      obtain ⟨g2, e2, c2, u2⟩ := T _ _ c1 (gB_n (gB_n hne))
      obtain ⟨g3, e3, c3, u3⟩ := emitC m c2 (k := 13) (x := 0) (by decide) (by decide) (gB_n hne)
      have e2' : rc 1 (cS h (lw t n (sk t n s.1)) 0) 4 d = some ((), g2) := e2
      have e3' : f_X5_emit g2 ra 13 0 = some ((), g3) := e3
      have r2 := c2.hr
      have U : CU ra h g3 := (CU.cs m).tr (u2.tr u3)
      have c4 : ¬ (400 : Int32) ≤ nI i := nI_ge (b := 400) (by omega) (by decide)
      have code : f_X6_readTest_7 rc (K' + 2) h 4 d (nI i) = f_X6_readTest_7 rc (K' + 1) g3 4 d (nI (i + 1)) := by
        show b_X6_readTest_7 rc (f_X6_readTest_7 rc (K' + 1)) h 4 d (nI i) = _
        simp only [b_X6_readTest_7, if_neg c4, q_4, nw', aBind_some, if_neg (show ¬ (1 : Int32) = 0 by decide), e2', r2, Option.bind_some, qrl0 m, e3', i1]
      rw [code]
      have c3' : CRu g3 t n ra (gB (F (lw t n (sk t n s.1), s.2)) (gEm 13 0)) := c3
      cases q : gB (F (lw t n (sk t n s.1), s.2)) (gEm 13 0) with
      | none => rw [q] at c3'; exact c3'.elim
      | some v =>
        cases v with
        | inl f =>
          rw [q] at c3'
          exact ⟨g3, orX c3' rc d _ K', c3', U⟩
        | inr s3 =>
          rw [q] at c3' hne
          have mm := (hF.b mo_em) (lw t n (sk t n s.1), s.2) s3 hl.2.1 q
          have m1 : lw t n (sk t n s.1) ≤ s3.1 := mm.1
          obtain ⟨g4, e4, c4, u4⟩ := ih g3 s3 (i + 1) a' (K' + 1) c3' (by omega) (by omega) (by omega) (by omega) hne
          exact ⟨g4, e4, c4, U.tr u4⟩
    · rw [if_neg o] at nw'
      have eT : gWL t n 28530 13 F (a' + 1) s = gK (sk t n s.1, s.2) := by rw [gWL, if_neg o]
      rw [eT]
      by_cases c4 : (400 : Int32) ≤ nI i
      · have i4 : 400 ≤ i := (nI_leI (a := 400) (by decide) (by omega)).mp c4
        refine ⟨h, ?_, c.sk (by omega), CU.rf h⟩
        show b_X6_readTest_7 rc (f_X6_readTest_7 rc (K' + 1)) h 4 d (nI i) = _
        simp only [b_X6_readTest_7, if_pos c4]
      · refine ⟨cS h (sk t n s.1) 0, ?_, c.cs m sl.2, CU.cs m⟩
        show b_X6_readTest_7 rc (f_X6_readTest_7 rc (K' + 1)) h 4 d (nI i) = _
        simp only [b_X6_readTest_7, if_neg c4, q_4, nw', aBind_some, if_true]
theorem testTC {t : Row} {n ra : Nat} (hn : n ≤ 400) (m : ra ∈ rlL) {F : GS → Rs} (hF : Mo n F) {rc : Nat → aH → Nat → Int32 → Option (Unit × aH)} {d : Int32} (T : TC t n ra F (fun h => rc 1 h 4 d)) : TC t n ra (fun s => gB (F s) (gWL t n 28530 13 F 401)) (fun h => fb_X6_readTest rc h 4 d) := by
  intro h r c hne
  have eA : gB r (fun s => gB (F s) (gWL t n 28530 13 F 401)) = gB (gB r F) (gWL t n 28530 13 F 401) := (gB_a _ _ _).symm
  rw [eA] at hne ⊢
  obtain ⟨g2, e2, c2, u2⟩ := T h r c (gB_n hne)
  have e2' : rc 1 h 4 d = some ((), g2) := e2
  have code : fb_X6_readTest rc h 4 d = f_X6_readTest_7 rc 2000 g2 4 d (nI 0) := by
    unfold fb_X6_readTest
    rw [q_4, e2', aBind_some]
    rfl
  show ∃ h', fb_X6_readTest rc h 4 d = _ ∧ _
  rw [code]
  cases q : gB r F with
  | none => rw [q] at c2; exact c2.elim
  | some v =>
    cases v with
    | inl f =>
      rw [q] at c2
      exact ⟨g2, orX c2 rc d _ 1999, c2, u2⟩
    | inr s3 =>
      rw [q] at c2 hne
      obtain ⟨g4, e4, c4, u4⟩ := orLC m hF T 401 g2 s3 0 401 2000 c2 (by omega) (by omega) (by omega) (by omega) hne
      exact ⟨g4, e4, c4, u2.tr u4⟩
theorem closeC {h : aH} {t : Row} {n ra : Nat} {r : Rs} (m : ra ∈ rlL) (c : CRu h t n ra r) : ∃ h', f_X6_closeBracket h 4 = some ((), h') ∧ CRu h' t n ra (gB r (gCl t n)) ∧ CU ra h h' := by
  match r with
  | none => exact c.elim
  | some (.inl f) =>
    have c' : CRx h t n ra f := c
    obtain ⟨f0, r1, p, z, ct, hz, ez⟩ := c'
    refine ⟨h, ?_, c, CU.rf h⟩
    simp only [f_X6_closeBracket, q_4, r_4_0 ct.1.1, Option.bind_some, q_1, ct.2.2.2, if_neg f0]
  | some (.inr s) =>
    have c' : CRk h t n ra s := c
    have ct := c'.1
    have S := ct.1.1
    have hn := ct.1.2.2.1
    have sl := sk_le (t := t) ct.2.1
    have f3 : hI h 1 3 = 0 := ct.2.2.2
    have ts := takeSignC ct.1 ct.2.1 0 93
    rw [ct.e] at ts
    show ∃ h', _ ∧ CRu h' t n ra (gCl t n s) ∧ _
    unfold gCl
    by_cases z : bya t n (sk t n s.1) = 93
    · rw [if_pos z] at ts ⊢
      have hq := bya_c z (by decide)
      refine ⟨_, ?_, c'.cs m (q := sk t n s.1 + 1) (by omega), CU.cs m⟩
      simp only [f_X6_closeBracket, q_4, r_4_0 S, Option.bind_some, q_1, f3, if_true, ts, aBind_some, if_neg (show ¬ (1 : Int32) = 0 by decide)]
    · rw [if_neg z] at ts ⊢
      have bl := blameC h (sk t n s.1) (sk t n s.1) 0 0
      refine ⟨_, ?_, c'.cx m (q := sk t n s.1) sl.2 (blm_ne (p := sk t n s.1) (by omega) (Or.inl rfl)), CU.cs m⟩
      simp only [f_X6_closeBracket, q_4, r_4_0 S, Option.bind_some, q_1, f3, if_true, ts, aBind_some, cS_R, cS_12, bl]
theorem cmprX {h : aH} {t : Row} {n ra : Nat} {f : Int32} (m : ra ∈ rlL) (c : CRx h t n ra f) : ∃ h', f_X6_takeComparer h 4 = some (9, h') ∧ CRx h' t n ra f ∧ CU ra h h' := by
  have c' := c
  obtain ⟨f0, r1, p, z, ct, hz, ez⟩ := c'
  have e1 := seekC ct.1 ct.2.1 f
  rw [ct.e] at e1
  refine ⟨_, ?_, c.cs m (q := sk t n p) (sk_le ct.2.1).2, CU.cs m⟩
  simp only [f_X6_takeComparer, q_4, r_4_0 ct.1.1, Option.bind_some, q_1, e1, aBind_some, cS_R, cS_13, if_neg f0]
/-- the comparer, as a function -/
def gCq (t : Row) (n : Nat) (s : GS) : Rs := match gCm t n (sk t n s.1) with
    | none => gX (blm (sk t n s.1) 0 0)
    | some z => gCnt (sk t n s.1) (z.2, s.2)
def kCq (t : Row) (n : Nat) (s : GS) : Nat := match gCm t n (sk t n s.1) with
    | none => 8
    | some z => z.1
theorem gCp2_e {t : Row} {n : Nat} (s : GS) : gCp2 t n s = gB (gB (gCq t n s) (gSum t n)) (gEm (kCq t n s) 0) := by
  unfold gCp2 gCq kCq
  cases gCm t n (sk t n s.1) with
  | none => rfl
  | some z => exact (gB_a _ _ _).symm
theorem cmprC {h : aH} {t : Row} {n ra : Nat} {s : GS} (m : ra ∈ rlL) (c : CRk h t n ra s) : ∃ h', f_X6_takeComparer h 4 = some (nI (ck (kCq t n s)), h') ∧ CRu h' t n ra (gCq t n s) ∧ CU ra h h' := by
  have ct := c.1
  have b := ct.1
  have S := b.1
  have hn := b.2.2.1
  have hp := ct.2.1
  have sl := sk_le (t := t) hp
  have ss := sk_sk (t := t) hp
  have e1 := seekC b hp 0
  rw [ct.e] at e1
  have t60 := takeSignC b sl.2 0 60
  have t62 := takeSignC b sl.2 0 62
  have t61 := takeSignC b sl.2 0 61
  rw [ss] at t60 t62 t61
  have on : sk t n s.1 < n → f_X9_takeSignAtOnce (cS h (sk t n s.1 + 1) 0) 1 61 = if bya t n (sk t n s.1 + 1) = 61 then some (1, cS h (sk t n s.1 + 1 + 1) 0) else some (0, cS h (sk t n s.1 + 1) 0) := fun y => onceC b (p := sk t n s.1 + 1) (by omega) 0 61
  unfold gCq kCq
  cases o : gCm t n (sk t n s.1) with
  | none =>
    have y := gCm_n o
    rw [if_neg y.1] at t60
    rw [if_neg y.2.1] at t61
    rw [if_neg y.2.2] at t62
    have bl := blameC h (sk t n s.1) (sk t n s.1) 0 0
    have cx := c.cx m sl.2 (blm_ne (p := sk t n s.1) (by omega) (Or.inl rfl))
    obtain ⟨g2, e2, c2, u2⟩ := countX m cx (sk t n s.1)
    refine ⟨g2, ?_, c2, (CU.cs m).tr u2⟩
    simp only [f_X6_takeComparer, q_4, r_4_0 S, Option.bind_some, q_1, e1, aBind_some, cS_R, cS_13, if_true, t60, t62, t61, bl, b_X6_takeComparer_114, e2]
    rfl
  | some z =>
    have hz := gCm_c o
    have q1 : sk t n s.1 < n := by omega
    have on' := on q1
    have c1 : CRu (cS h z.2 0) t n ra (gK (z.2, s.2)) := c.cs m hz.2.1
    obtain ⟨g2, e2, c2, u2⟩ := countC m c1 (q := sk t n s.1) (by omega)
    refine ⟨g2, ?_, c2, (CU.cs m).tr u2⟩
    rcases gCm_v o with ⟨a, d, rfl⟩ | ⟨a, d, rfl⟩ | ⟨a, d, rfl⟩ | ⟨a, d, rfl⟩ | ⟨a, rfl⟩
    · rw [if_pos a] at t60
      rw [if_pos d] at on'
      have e2' : f_X6_countValue (cS h (sk t n s.1 + 1 + 1) 0) 4 (nI (sk t n s.1)) = some ((), g2) := e2
      simp only [f_X6_takeComparer, q_4, r_4_0 S, Option.bind_some, q_1, e1, aBind_some, cS_R, cS_13, if_true, t60, if_neg (show ¬ (1 : Int32) = 0 by decide), on', b_X6_takeComparer_54, b_X6_takeComparer_114, e2']
      rfl
    · rw [if_pos a] at t60
      rw [if_neg d] at on'
      have e2' : f_X6_countValue (cS h (sk t n s.1 + 1) 0) 4 (nI (sk t n s.1)) = some ((), g2) := e2
      simp only [f_X6_takeComparer, q_4, r_4_0 S, Option.bind_some, q_1, e1, aBind_some, cS_R, cS_13, if_true, t60, if_neg (show ¬ (1 : Int32) = 0 by decide), on', b_X6_takeComparer_54, b_X6_takeComparer_114, e2']
      rfl
    · rw [if_neg (show ¬ bya t n (sk t n s.1) = 60 by rw [a]; decide)] at t60
      rw [if_pos a] at t62
      rw [if_pos d] at on'
      have e2' : f_X6_countValue (cS h (sk t n s.1 + 1 + 1) 0) 4 (nI (sk t n s.1)) = some ((), g2) := e2
      simp only [f_X6_takeComparer, q_4, r_4_0 S, Option.bind_some, q_1, e1, aBind_some, cS_R, cS_13, if_true, t60, t62, if_neg (show ¬ (1 : Int32) = 0 by decide), on', b_X6_takeComparer_89, b_X6_takeComparer_114, e2']
      rfl
    · rw [if_neg (show ¬ bya t n (sk t n s.1) = 60 by rw [a]; decide)] at t60
      rw [if_pos a] at t62
      rw [if_neg d] at on'
      have e2' : f_X6_countValue (cS h (sk t n s.1 + 1) 0) 4 (nI (sk t n s.1)) = some ((), g2) := e2
      simp only [f_X6_takeComparer, q_4, r_4_0 S, Option.bind_some, q_1, e1, aBind_some, cS_R, cS_13, if_true, t60, t62, if_neg (show ¬ (1 : Int32) = 0 by decide), on', b_X6_takeComparer_89, b_X6_takeComparer_114, e2']
      rfl
    · rw [if_neg (show ¬ bya t n (sk t n s.1) = 60 by rw [a]; decide)] at t60
      rw [if_neg (show ¬ bya t n (sk t n s.1) = 62 by rw [a]; decide)] at t62
      rw [if_pos a] at t61
      have e2' : f_X6_countValue (cS h (sk t n s.1 + 1) 0) 4 (nI (sk t n s.1)) = some ((), g2) := e2
      simp only [f_X6_takeComparer, q_4, r_4_0 S, Option.bind_some, q_1, e1, aBind_some, cS_R, cS_13, if_true, t60, t62, t61, if_neg (show ¬ (1 : Int32) = 0 by decide), b_X6_takeComparer_114, e2']
      rfl
theorem kCq_lt {t : Row} {n : Nat} (s : GS) : kCq t n s < 15 := by
  unfold kCq
  cases o : gCm t n (sk t n s.1) with
  | none => decide
  | some z => have := gCm_c o; show z.1 < 15; omega
/-- a fact that compares -/
theorem compC {h : aH} {t : Row} {n ra : Nat} {r : Rs} (m : ra ∈ rlL) (rc : Nat → aH → Nat → Int32 → Option (Unit × aH)) (d : Int32) (c : CRu h t n ra r) (hne : gB r (gCp t n) ≠ none) : ∃ h', b_X6_readFact_75 rc h 4 d 0 0 = some ((), h') ∧ CRu h' t n ra (gB r (gCp t n)) ∧ CU ra h h' := by
  have eA : gB r (gCp t n) = gB (gB r (gSum t n)) (gCp2 t n) := (gB_a _ _ _).symm
  rw [eA] at hne ⊢
  obtain ⟨g2, e2, c2, u2⟩ := readSumC m c (gB_n hne)
  cases q : gB r (gSum t n) with
  | none => rw [q] at c2; exact c2.elim
  | some v =>
    rw [q] at c2 hne
    cases v with
    | inl f =>
      have c2' : CRx g2 t n ra f := c2
      obtain ⟨g3, e3, c3, u3⟩ := cmprX m c2'
      have c3' : CRu g3 t n ra (gX f) := c3
      obtain ⟨g4, e4, c4, u4⟩ := readSumC m c3' (fun y => gX_nn y)
      have c4' : CRx g4 t n ra f := c4
      obtain ⟨g5, e5, c5, u5⟩ := emitX m c4' 9 0
      refine ⟨g5, ?_, c5, u2.tr (u3.tr (u4.tr u5))⟩
      simp only [b_X6_readFact_75, if_true, q_4, e2, aBind_some, e3, e4, c4'.2.1, Option.bind_some, qrl0 m, e5]
    | inr s =>
      have hne' : gCp2 t n s ≠ none := hne
      show ∃ h', _ ∧ CRu h' t n ra (gCp2 t n s) ∧ _
      rw [gCp2_e] at hne' ⊢
      obtain ⟨g3, e3, c3, u3⟩ := cmprC m (show CRk g2 t n ra s from c2)
      obtain ⟨g4, e4, c4, u4⟩ := readSumC m c3 (gB_n hne')
      obtain ⟨g5, e5, c5, u5⟩ := emitC m c4 (k := kCq t n s) (x := 0) (kCq_lt s) (by decide) hne'
      have e5' : f_X5_emit g4 ra (nI (ck (kCq t n s))) 0 = some ((), g5) := e5
      refine ⟨g5, ?_, c5, u2.tr (u3.tr (u4.tr u5))⟩
      simp only [b_X6_readFact_75, if_true, q_4, e2, aBind_some, e3, e4, c4.hr, Option.bind_some, qrl0 m, e5']
theorem gVal_sk {t : Row} {n : Nat} {s : GS} (hp : s.1 ≤ n) : gVal t n (sk t n s.1, s.2) = gVal t n s := by
  unfold gVal
  show (if (decide (sk t n (sk t n s.1) < n) && bdg t (sk t n (sk t n s.1))) = true then _ else _) = _
  unfold nx
  simp only [sk_sk hp, gd_sk hp, nv_sk hp, nf_sk hp]
theorem gCp_sk {t : Row} {n : Nat} {s : GS} (hp : s.1 ≤ n) : gCp t n (sk t n s.1, s.2) = gCp t n s := by
  unfold gCp gSum gTerm
  rw [gVal_sk hp]
theorem isH_sk {t : Row} {n p w : Nat} (hp : p ≤ n) : isH t n (sk t n p) w = isH t n p w := by unfold isH; rw [sk_sk hp]
/-- a fact, but for what it calls -/
theorem factTC {t : Row} {n ra : Nat} (m : ra ∈ rlL) {rc : Nat → aH → Nat → Int32 → Option (Unit × aH)} {e : Nat} (he : e ≤ 10) (T2 : ∀ e', e = e' + 1 → TC t n ra (gF t n e') (fun h => rc 2 h 4 (nI (10 - e')))) (T0 : ∀ e', e = e' + 1 → TC t n ra (gTs t n (gF t n e')) (fun h => rc 0 h 4 (nI (10 - e')))) : TC t n ra (gF t n e) (fun h => fb_X6_readFact rc h 4 (nI (10 - e))) := by
  intro h r c hne
  show ∃ h', fb_X6_readFact rc h 4 (nI (10 - e)) = _ ∧ _
  match r with
  | none => exact c.elim
  | some (.inl f) =>
    have c' : CRx h t n ra f := c
    have c0 := c'
    obtain ⟨f0, r1, p, z, ct, hz, ez⟩ := c'
    have e1 := seekC ct.1 ct.2.1 f
    rw [ct.e] at e1
    have c1 : CRx (cS h (sk t n p) f) t n ra f := c0.cs m (q := sk t n p) (sk_le ct.2.1).2
    have nw := nextWX c1 1006
    have cr : CRu (cS h (sk t n p) f) t n ra (gX f) := c1
    obtain ⟨g2, e2, c2, u2⟩ := compC m rc (nI (10 - e)) cr (fun y => gX_nn y)
    refine ⟨g2, ?_, c2, (CU.cs m).tr u2⟩
    simp only [fb_X6_readFact, q_4, r_4_0 ct.1.1, Option.bind_some, q_1, e1, aBind_some, nw, if_true, cS_R, cS_13, if_neg f0, b_X6_readFact_45, b_X6_readFact_46, e2]
  | some (.inr s) =>
    have c' : CRk h t n ra s := c
    have ct := c'.1
    have b := ct.1
    have S := b.1
    have hn := b.2.2.1
    have hp := ct.2.1
    have sl := sk_le (t := t) hp
    have ss := sk_sk (t := t) hp
    have e1 := seekC b hp 0
    rw [ct.e] at e1
    have c1 : CRk (cS h (sk t n s.1) 0) t n ra (sk t n s.1, s.2) := c'.cs m sl.2
    have nw := nextWC (i := 6) (by decide) noW_ok c1
    have nw' : f_X6_isNextWord (cS h (sk t n s.1) 0) 4 1006 = if isH t n (sk t n s.1) 7237492 = true then some (1, cS (cS h (sk t n s.1) 0) (lw t n (sk t n (sk t n s.1))) 0) else some (0, cS (cS h (sk t n s.1) 0) (sk t n (sk t n s.1)) 0) := nw
    have cc : ∀ q, cS (cS h (sk t n s.1) 0) q 0 = cS h q 0 := fun q => by
      have x := cS_p h (sk t n s.1) q 0
      rw [← x]
      have y := cS_p (cS h (sk t n s.1) 0) (sk t n s.1) q 0
      rw [c1.1.e] at y
      exact y.symm
    rw [isH_sk hp, cc, cc, ss] at nw'
    have hne' : gF t n e s ≠ none := hne
    show ∃ h', _ ∧ CRu h' t n ra (gF t n e s) ∧ _
    by_cases o : isH t n s.1 7237492 = true
    · rw [if_pos o] at nw'
      have hl := isH_lt hp o
      cases e with
      | zero =>
        have eF : gF t n 0 s = gX (blm (sk t n s.1) 2 0) := by rw [gF, if_pos o]
        rw [eF]
        have bl := blameC h (lw t n (sk t n s.1)) (sk t n s.1) 0 2
        refine ⟨_, ?_, c'.cx m (q := lw t n (sk t n s.1)) hl.2.1 (blm_ne2 (p := sk t n s.1) (by omega) (Or.inl rfl)), CU.cs m⟩
        simp only [fb_X6_readFact, q_4, r_4_0 S, Option.bind_some, q_1, e1, aBind_some, nw', if_neg (show ¬ (1 : Int32) = 0 by decide), cS_R, b_X6_readFact_45, b_X6_readFact_46, b_X6_readFact_57, if_neg (show ¬ nI (10 - 0) < 10 by decide), bl]
      | succ e' =>
        have eF : gF t n (e' + 1) s = gB (gF t n e' (lw t n (sk t n s.1), s.2)) (gEm 11 0) := by rw [gF, if_pos o]
        rw [eF] at hne' ⊢
        have c2 : CRu (cS h (lw t n (sk t n s.1)) 0) t n ra (gK (lw t n (sk t n s.1), s.2)) := c'.cs m hl.2.1
        obtain ⟨g2, e2, c3, u2⟩ := T2 e' rfl _ _ c2 (gB_n hne')
        obtain ⟨g3, e3, c4, u3⟩ := emitC m c3 (k := 11) (x := 0) (by decide) (by decide) hne'
        have e2' : rc 2 (cS h (lw t n (sk t n s.1)) 0) 4 (nI (10 - (e' + 1) + 1)) = some ((), g2) := by rw [show 10 - (e' + 1) + 1 = 10 - e' by omega]; exact e2
        have e3' : f_X5_emit g2 ra 14 0 = some ((), g3) := e3
        refine ⟨g3, ?_, c4, (CU.cs m).tr (u2.tr u3)⟩
        have lt : nI (10 - (e' + 1)) < 10 := nI_lt (b := 10) (by omega) (by decide)
        simp only [fb_X6_readFact, q_4, r_4_0 S, Option.bind_some, q_1, e1, aBind_some, nw', if_neg (show ¬ (1 : Int32) = 0 by decide), b_X6_readFact_45, b_X6_readFact_46, b_X6_readFact_57, if_pos lt, b_X6_readFact_75, i1, e2', c3.hr, qrl0 m, e3']
    · rw [if_neg o] at nw'
      have ts := takeSignC b sl.2 0 91
      rw [ss] at ts
      by_cases z : bya t n (sk t n s.1) = 91
      · rw [if_pos z] at ts
        have hq := bya_c z (by decide)
        cases e with
        | zero =>
          have eF : gF t n 0 s = gX (blm (sk t n s.1) 2 0) := by rw [gF, if_neg o, if_pos z]
          rw [eF]
          have bl := blameC h (sk t n s.1 + 1) (sk t n s.1) 0 2
          refine ⟨_, ?_, c'.cx m (q := sk t n s.1 + 1) (by omega) (blm_ne2 (p := sk t n s.1) (by omega) (Or.inl rfl)), CU.cs m⟩
          simp only [fb_X6_readFact, q_4, r_4_0 S, Option.bind_some, q_1, e1, aBind_some, nw', if_true, cS_R, cS_13, ts, if_neg (show ¬ (1 : Int32) = 0 by decide), b_X6_readFact_46, b_X6_readFact_57, if_neg (show ¬ nI (10 - 0) < 10 by decide), bl]
        | succ e' =>
          have eF : gF t n (e' + 1) s = gB (gTs t n (gF t n e') (sk t n s.1 + 1, s.2)) (gCl t n) := by rw [gF, if_neg o, if_pos z]
          rw [eF] at hne' ⊢
          have c2 : CRu (cS h (sk t n s.1 + 1) 0) t n ra (gK (sk t n s.1 + 1, s.2)) := c'.cs m (q := sk t n s.1 + 1) (by omega)
          obtain ⟨g2, e2, c3, u2⟩ := T0 e' rfl _ _ c2 (gB_n hne')
          obtain ⟨g3, e3, c4, u3⟩ := closeC m c3
          have e2' : rc 0 (cS h (sk t n s.1 + 1) 0) 4 (nI (10 - (e' + 1) + 1)) = some ((), g2) := by rw [show 10 - (e' + 1) + 1 = 10 - e' by omega]; exact e2
          refine ⟨g3, ?_, c4, (CU.cs m).tr (u2.tr u3)⟩
          have lt : nI (10 - (e' + 1)) < 10 := nI_lt (b := 10) (by omega) (by decide)
          simp only [fb_X6_readFact, q_4, r_4_0 S, Option.bind_some, q_1, e1, aBind_some, nw', if_true, cS_R, cS_13, ts, if_neg (show ¬ (1 : Int32) = 0 by decide), b_X6_readFact_46, b_X6_readFact_57, if_pos lt, b_X6_readFact_75, i1, e2', e3]
      · rw [if_neg z] at ts
        have eF : gF t n e s = gCp t n (sk t n s.1, s.2) := by
          rw [gCp_sk hp]
          cases e with
          | zero => rw [gF, if_neg o, if_neg z]
          | succ e' => rw [gF, if_neg o, if_neg z]
        rw [eF] at hne' ⊢
        have c2 : CRu (cS h (sk t n s.1) 0) t n ra (gK (sk t n s.1, s.2)) := c1
        obtain ⟨g2, e2, c3, u2⟩ := compC m rc (nI (10 - e)) c2 hne'
        refine ⟨g2, ?_, c3, (CU.cs m).tr u2⟩
        simp only [fb_X6_readFact, q_4, r_4_0 S, Option.bind_some, q_1, e1, aBind_some, nw', if_true, cS_R, cS_13, ts, b_X6_readFact_45, b_X6_readFact_46, e2]
theorem factC {t : Row} {n ra : Nat} (hn : n ≤ 400) (m : ra ∈ rlL) : ∀ (e : Nat), e ≤ 10 → ∀ K, 3 * e + 1 ≤ K → TC t n ra (gF t n e) (fun h => fr_X6 K 2 h 4 (nI (10 - e))) := by
  intro e
  induction e with
  | zero =>
    intro _ K hK
    obtain ⟨K', rfl⟩ : ∃ K', K = K' + 1 := ⟨K - 1, by omega⟩
    exact factTC m (rc := fr_X6 K') (by omega) (fun e' y => by omega) (fun e' y => by omega)
  | succ e ih =>
    intro he K hK
    obtain ⟨K', rfl⟩ : ∃ K', K = K' + 3 := ⟨K - 3, by omega⟩
    refine factTC m (rc := fr_X6 (K' + 2)) he (fun e' y => ?_) (fun e' y => ?_)
    · have y' : e' = e := by omega
      subst y'
      exact ih (by omega) (K' + 2) (by omega)
    · have y' : e' = e := by omega
      subst y'
      have a := ih (by omega) K' (by omega)
      have b := partTC hn m (mo_f e') (rc := fr_X6 K') a
      exact testTC hn m (mo_pt (mo_f e')) (rc := fr_X6 (K' + 1)) b
theorem readTestC {t : Row} {n ra : Nat} (hn : n ≤ 400) (m : ra ∈ rlL) : TC t n ra (gTs t n (gF t n 10)) (fun h => f_X6_readTest h 4 0) := by
  have a := factC (t := t) hn m 10 (by omega) 38 (by omega)
  have b := partTC hn m (mo_f 10) (rc := fr_X6 38) a
  exact testTC hn m (mo_pt (mo_f 10)) (rc := fr_X6 39) b
