/-! ===== rule: the class's sums ===== -/
theorem rl_ge : ∀ a ∈ rlL, 5 ≤ a ∧ a ≤ 91 := by decide
def SC (g : Row) : List (Nat × Nat) → Prop
  | [] => True
  | x :: r => g r.length = nI (ck x.1 + 16 * x.2) ∧ SC g r
theorem SC.up {g : Row} {i : Nat} {x : Int32} : ∀ {L : List (Nat × Nat)}, L.length ≤ i → SC g L → SC (upd g i x) L := by
  intro L
  induction L with
  | nil => intro _ _; exact True.intro
  | cons z r ih =>
    intro h c
    rw [List.length_cons] at h
    exact ⟨by rw [upd_ne _ _ (show r.length ≠ i by omega)]; exact c.1, ih (by omega) c.2⟩
abbrev kA (ra : Nat) : Nat → Prop := fun c => c = 1 ∨ c = 4 ∨ c = ra ∨ c = ra + 1
def CU (ra : Nat) (h h' : aH) : Prop := Upd (kA ra) h h' ∧ hI h' ra 5 = hI h ra 5 ∧ hR h' 4 1 = hR h 4 1
theorem CU.rf {ra : Nat} (h : aH) : CU ra h h := ⟨Upd.rf h, rfl, rfl⟩
theorem CU.tr {ra : Nat} {a b c : aH} (x : CU ra a b) (y : CU ra b c) : CU ra a c := ⟨x.1.tr y.1, y.2.1.trans x.2.1, y.2.2.trans x.2.2⟩
theorem CU.cs {ra : Nat} (m : ra ∈ rlL) {h : aH} {q : Nat} {f : Int32} : CU ra h (cS h q f) := by
  have g := rl_ge ra m
  exact ⟨(cS_u h q f).mono (fun _ y => Or.inl y), by rw [cS_o _ _ _ (show ra ≠ 1 by omega)], rfl⟩
def CRk (h : aH) (t : Row) (n ra : Nat) (s : GS) : Prop := CT h t n s.1 0 ∧ hR h 4 1 = some ra ∧ s.2.1 ≤ 60 ∧ hI h 4 2 = nI s.2.1 ∧ s.2.2.length ≤ 256 ∧ hI h ra 4 = nI s.2.2.length ∧ SC (hI h (ra + 1)) s.2.2
def CRx (h : aH) (t : Row) (n ra : Nat) (f : Int32) : Prop := ¬ f = 0 ∧ hR h 4 1 = some ra ∧ ∃ p z, CT h t n p f ∧ z ≤ 256 ∧ hI h ra 4 = nI z
def CRu (h : aH) (t : Row) (n ra : Nat) (r : Rs) : Prop := match r with
  | none => False
  | some (.inl f) => CRx h t n ra f
  | some (.inr s) => CRk h t n ra s
theorem CRk.cs {h : aH} {t : Row} {n ra : Nat} {s : GS} (m : ra ∈ rlL) (c : CRk h t n ra s) {q : Nat} (hq : q ≤ n) : CRk (cS h q 0) t n ra (q, s.2) := by
  have g := rl_ge ra m
  obtain ⟨c1, c2, c3, c4, c5, c6, c7⟩ := c
  exact ⟨CT.of c1.1 hq, c2, c3, by rw [cS_o _ _ _ (by decide)]; exact c4, c5, by rw [cS_o _ _ _ (show ra ≠ 1 by omega)]; exact c6, by rw [cS_o _ _ _ (show ra + 1 ≠ 1 by omega)]; exact c7⟩
theorem CRk.cx {h : aH} {t : Row} {n ra : Nat} {s : GS} (m : ra ∈ rlL) (c : CRk h t n ra s) {q : Nat} (hq : q ≤ n) {f : Int32} (f0 : ¬ f = 0) : CRx (cS h q f) t n ra f := by
  have g := rl_ge ra m
  obtain ⟨c1, c2, c3, c4, c5, c6, c7⟩ := c
  exact ⟨f0, c2, q, _, CT.of c1.1 hq, c5, by rw [cS_o _ _ _ (show ra ≠ 1 by omega)]; exact c6⟩
theorem CRx.cs {h : aH} {t : Row} {n ra : Nat} {f : Int32} (m : ra ∈ rlL) (c : CRx h t n ra f) {q : Nat} (hq : q ≤ n) : CRx (cS h q f) t n ra f := by
  have g := rl_ge ra m
  obtain ⟨c1, c2, p, z, c3, c4, c5⟩ := c
  exact ⟨c1, c2, q, z, CT.of c3.1 hq, c4, by rw [cS_o _ _ _ (show ra ≠ 1 by omega)]; exact c5⟩
/-- a step -/
theorem emitX {h : aH} {t : Row} {n ra : Nat} {f : Int32} (m : ra ∈ rlL) (c : CRx h t n ra f) (x1 x2 : Int32) : ∃ h', f_X5_emit h ra x1 x2 = some ((), h') ∧ CRx h' t n ra f ∧ CU ra h h' := by
  have g := rl_ge ra m
  have c' := c
  obtain ⟨f0, r1, p, z, ct, hz, ez⟩ := c
  have S := ct.1.1
  have rr := (S.rl m).1
  by_cases y : z = 256
  · refine ⟨h, ?_, c', CU.rf h⟩
    simp only [f_X5_emit, qrl0 m, ez, y, if_pos (show (256 : Int32) ≤ nI 256 by decide)]
  · have c1 : ¬ (256 : Int32) ≤ nI z := nI_ge (b := 256) (by omega) (by decide)
    have u : Upd (fun c => c = ra ∨ c = ra + 1) h (pI (pI h (ra + 1) z (x1 ||| (x2 <<< (4 &&& 31)))) ra 4 (nI (z + 1))) := (Upd.pI (Or.inr rfl)).tr (Upd.pI (Or.inl rfl))
    refine ⟨pI (pI h (ra + 1) z (x1 ||| (x2 <<< (4 &&& 31)))) ra 4 (nI (z + 1)), ?_, ⟨f0, r1, p, z + 1, ct.mv u (by omega) (by omega), by omega, by rw [hI_eq, upd_at]⟩, u.mono (fun _ y => Or.inr (Or.inr y)), ?_, rfl⟩
    · simp only [f_X5_emit, qrl0 m, ez, if_neg c1, rr, Option.bind_some, aLet, qrl1 m, if_pos (inrl1 m (show z < 256 by omega)), nI_clamp (show z < 2 ^ 31 by omega), hI_ne _ (show ra ≠ ra + 1 by omega), i1]
    · rw [hI_eq, upd_ne _ _ (by decide), hI_ne _ (by omega)]
theorem emitC {h : aH} {t : Row} {n ra : Nat} {r : Rs} (m : ra ∈ rlL) (c : CRu h t n ra r) {k x : Nat} (hk : k < 15) (hx : x < 100000) (hne : gB r (gEm k x) ≠ none) : ∃ h', f_X5_emit h ra (nI (ck k)) (nI x) = some ((), h') ∧ CRu h' t n ra (gB r (gEm k x)) ∧ CU ra h h' := by
  have g := rl_ge ra m
  match r with
  | none => exact c.elim
  | some (.inl f) => exact emitX m c _ _
  | some (.inr s) =>
    have c' : CRk h t n ra s := c
    obtain ⟨ct, r1, v1, v2, l1, l2, sc⟩ := c'
    have l : s.2.2.length < 256 := by
      by_cases y : s.2.2.length < 256
      · exact y
      · exact absurd (show gEm k x s = none by unfold gEm; rw [if_neg y]) hne
    have e : gB (some (Sum.inr s)) (gEm k x) = gK (s.1, s.2.1, (k, x) :: s.2.2) := by
      show gEm k x s = _
      unfold gEm
      rw [if_pos l]
    rw [e]
    have S := ct.1.1
    have rr := (S.rl m).1
    obtain ⟨z, ez⟩ : ∃ z, z = s.2.2.length := ⟨_, rfl⟩
    rw [← ez] at l l2
    have c1 : ¬ (256 : Int32) ≤ nI z := nI_ge (b := 256) (by omega) (by decide)
    have sv := stp_or (a := ck k) (v := x) (ck_lt k hk).1 hx
    have u : Upd (fun c => c = ra ∨ c = ra + 1) h (pI (pI h (ra + 1) z (nI (ck k + 16 * x))) ra 4 (nI (z + 1))) := (Upd.pI (Or.inr rfl)).tr (Upd.pI (Or.inl rfl))
    refine ⟨pI (pI h (ra + 1) z (nI (ck k + 16 * x))) ra 4 (nI (z + 1)), ?_, ⟨ct.mv u (by omega) (by omega), r1, v1, ?_, ?_, ?_, ?_, ?_⟩, u.mono (fun _ y => Or.inr (Or.inr y)), ?_, rfl⟩
    · simp only [f_X5_emit, qrl0 m, l2, if_neg c1, rr, Option.bind_some, aLet, qrl1 m, if_pos (inrl1 m l), nI_clamp (show z < 2 ^ 31 by omega), hI_ne _ (show ra ≠ ra + 1 by omega), i1, sv]
    · rw [hI_ne _ (by omega), hI_ne _ (by omega)]; exact v2
    · show ((k, x) :: s.2.2).length ≤ 256
      rw [List.length_cons]; omega
    · show _ = nI ((k, x) :: s.2.2).length
      rw [hI_eq, upd_at, List.length_cons, ez]
    · rw [hI_ne _ (show ra + 1 ≠ ra by omega), hI_eq, ez, upd_at]
    · rw [hI_ne _ (show ra + 1 ≠ ra by omega), hI_eq, ez]
      exact SC.up (Nat.le_refl _) sc
    · rw [hI_eq, upd_ne _ _ (by decide), hI_ne _ (by omega)]
theorem blm_ne2 {p : Nat} {k : Int32} (hp : p ≤ 400) (hk : k = 2 ∨ k = 3) : ¬ blm p k 0 = 0 := by
  unfold blm
  rw [if_pos rfl]
  have e : (1 + 8 * nI p) + k = nI (1 + 8 * p + k.toNatClampNeg) := by
    have e8 : (8 : Int32) = nI 8 := rfl
    have e1 : (1 : Int32) = nI 1 := rfl
    have ek : k = nI k.toNatClampNeg := by rcases hk with rfl | rfl <;> rfl
    rw [e8, e1, pk_mul, nI_add]
    conv => lhs; rw [ek]
    rw [nI_add]
  have k4 : k.toNatClampNeg ≤ 4 := by rcases hk with rfl | rfl <;> decide
  rw [e]
  intro y
  have y' : nI (1 + 8 * p + k.toNatClampNeg) = nI 0 := y
  have := (nI_eq (by omega) (by omega)).mp y'
  omega
/-- a value is counted -/
theorem countX {h : aH} {t : Row} {n ra : Nat} {f : Int32} (m : ra ∈ rlL) (c : CRx h t n ra f) (q : Nat) : ∃ h', f_X6_countValue h 4 (nI q) = some ((), h') ∧ CRx h' t n ra f ∧ CU ra h h' := by
  have g := rl_ge ra m
  obtain ⟨f0, r1, p, z, ct, hz, ez⟩ := c
  have S := ct.1.1
  have u : Upd (fun c => c = 4) h (pI h 4 2 (hI h 4 2 + 1)) := Upd.pI rfl
  refine ⟨pI h 4 2 (hI h 4 2 + 1), ?_, ⟨f0, r1, p, z, ct.mv u (by decide) (by decide), hz, by rw [hI_ne _ (by omega)]; exact ez⟩, u.mono (fun _ y => Or.inr (Or.inl y)), by rw [hI_ne _ (by omega)], rfl⟩
  have bl := blameC h p q f 3
  rw [blm_f f0, ct.e] at bl
  by_cases y : hI h 4 2 < 60
  · simp only [f_X6_countValue, q_4, if_pos y, b_X6_countValue_18, aLet]
  · simp only [f_X6_countValue, q_4, if_neg y, r_4_0 S, Option.bind_some, q_1, bl, aBind_some, b_X6_countValue_18, aLet]
theorem countC {h : aH} {t : Row} {n ra : Nat} {r : Rs} (m : ra ∈ rlL) (c : CRu h t n ra r) {q : Nat} (hq : q ≤ 400) : ∃ h', f_X6_countValue h 4 (nI q) = some ((), h') ∧ CRu h' t n ra (gB r (gCnt q)) ∧ CU ra h h' := by
  have g := rl_ge ra m
  match r with
  | none => exact c.elim
  | some (.inl f) => exact countX m c q
  | some (.inr s) =>
    have c' : CRk h t n ra s := c
    have c0 := c'
    obtain ⟨ct, r1, v1, v2, l1, l2, sc⟩ := c'
    have S := ct.1.1
    show ∃ h', _ ∧ CRu h' t n ra (gCnt q s) ∧ _
    unfold gCnt
    by_cases y : s.2.1 = 60
    · rw [if_pos y]
      have bl := blameC h s.1 q 0 3
      rw [ct.e] at bl
      have cx := c0.cx m ct.2.1 (blm_ne2 (p := q) hq (Or.inr rfl))
      obtain ⟨f0, r1', p', z', ct', hz', ez'⟩ := cx
      have S' := ct'.1.1
      have u : Upd (fun c => c = 4) (cS h s.1 (blm q 3 0)) (pI (cS h s.1 (blm q 3 0)) 4 2 (hI (cS h s.1 (blm q 3 0)) 4 2 + 1)) := Upd.pI rfl
      refine ⟨pI (cS h s.1 (blm q 3 0)) 4 2 (hI (cS h s.1 (blm q 3 0)) 4 2 + 1), ?_, ⟨f0, r1', p', z', ct'.mv u (by decide) (by decide), hz', by rw [hI_ne _ (by omega)]; exact ez'⟩, (CU.cs m).tr ⟨u.mono (fun _ y => Or.inr (Or.inl y)), by rw [hI_ne _ (by omega)], rfl⟩⟩
      have nl : ¬ hI h 4 2 < 60 := by rw [v2, y]; decide
      simp only [f_X6_countValue, q_4, if_neg nl, r_4_0 S, Option.bind_some, q_1, bl, aBind_some, b_X6_countValue_18, aLet]
    · rw [if_neg y]
      have u : Upd (fun c => c = 4) h (pI h 4 2 (nI (s.2.1 + 1))) := Upd.pI rfl
      refine ⟨pI h 4 2 (nI (s.2.1 + 1)), ?_, ⟨ct.mv u (by decide) (by decide), r1, ?_, ?_, l1, ?_, ?_⟩, u.mono (fun _ y => Or.inr (Or.inl y)), by rw [hI_ne _ (by omega)], rfl⟩
      · have nl : nI s.2.1 < 60 := nI_lt (b := 60) (by omega) (by decide)
        simp only [f_X6_countValue, q_4, v2, if_pos nl, b_X6_countValue_18, aLet, i1]
      · show s.2.1 + 1 ≤ 60; omega
      · rw [hI_eq, upd_at]
      · rw [hI_ne _ (by omega)]; exact l2
      · rw [hI_ne _ (by omega)]; exact sc
theorem digHC {h : aH} {t : Row} {n : Nat} (b : TB h t n) {p : Nat} (hp : p ≤ n) (f : Int32) : f_X9_isDigitHere (cS h p f) 1 = some (bB (decide (p < n) && bdg t p), cS h p f) := by
  have hn := b.2.2.1
  have by' := byteC b p f (q := p) (by omega)
  unfold bya at by'
  by_cases c : p < n
  · rw [if_pos c] at by'
    have dd := isDigC (cS h p f) (b.2.2.2 p (by omega)).2
    rw [decide_eq_true c, Bool.true_and]
    simp only [f_X9_isDigitHere, q_1, cS_12, by', aBind_some, dd]
    unfold bdg
    cases decide (48 ≤ t p ∧ t p ≤ 57) with
    | true => rfl
    | false => rfl
  · rw [if_neg c] at by'
    rw [decide_eq_false c, Bool.false_and]
    simp only [f_X9_isDigitHere, q_1, cS_12, by', aBind_some]
    rfl
theorem nf_sk {t : Row} {n p : Nat} {m f : Int32} (hp : p ≤ n) : nf t n (sk t n p) m f = nf t n p m f := by unfold nf; rw [sk_sk hp]
theorem nv_sk {t : Row} {n p : Nat} (hp : p ≤ n) : nv t n (sk t n p) = nv t n p := by unfold nv; rw [sk_sk hp]
theorem readValueC {h : aH} {t : Row} {n ra : Nat} {r : Rs} (m : ra ∈ rlL) (c : CRu h t n ra r) (hne : gB r (gVal t n) ≠ none) : ∃ h', f_X6_readValue h 4 = some ((), h') ∧ CRu h' t n ra (gB r (gVal t n)) ∧ CU ra h h' := by
  have gg := rl_ge ra m
  match r with
  | none => exact c.elim
  | some (.inl f) =>
    have c' : CRx h t n ra f := c
    obtain ⟨f0, r1, p, z, ct, hz, ez⟩ := c'
    refine ⟨h, ?_, c, CU.rf h⟩
    simp only [f_X6_readValue, q_4, r_4_0 ct.1.1, Option.bind_some, q_1, ct.2.2.2, if_neg f0]
  | some (.inr s) =>
    have c' : CRk h t n ra s := c
    have ct := c'.1
    have b := ct.1
    have S := b.1
    have hn := b.2.2.1
    have hp := ct.2.1
    have sl := sk_le (t := t) hp
    have ll := lw_le (t := t) sl.2
    have ss := sk_sk (t := t) hp
    have e1 := seekC b hp 0
    rw [ct.e] at e1
    have d1 := digHC b sl.2 0
    have f3 : hI h 1 3 = 0 := ct.2.2.2
    have r41 := c'.2.1
    show ∃ h', _ ∧ CRu h' t n ra (gVal t n s) ∧ _
    have hne' : gVal t n s ≠ none := hne
    unfold gVal at hne' ⊢
    by_cases z : (decide (sk t n s.1 < n) && bdg t (sk t n s.1)) = true
    · rw [z] at d1
      rw [if_pos z] at hne' ⊢
      have nn := takeNumberC b sl.2 0 99999
      rw [nf_sk hp, nv_sk hp, ss] at nn
      by_cases g : gd t n s.1 99999 = true
      · rw [if_pos g] at hne' ⊢
        rw [nf_gd g, if_pos rfl] at nn
        obtain ⟨x, hx, ex⟩ := nv_nn hp g
        rw [ex, nI_clamp (show x < 2 ^ 31 by omega)] at hne' ⊢
        rw [ex] at nn
        have c2 : CRu (cS h (nx t n s.1) 0) t n ra (gK (nx t n s.1, s.2)) := c'.cs m (nx_le hp)
        obtain ⟨h2, e2, c3, u2⟩ := emitC m c2 (k := 0) (x := x) (by decide) hx (gB_n hne')
        obtain ⟨h3, e3, c4, u3⟩ := countC m c3 (q := sk t n s.1) (by omega)
        refine ⟨h3, ?_, c4, (CU.cs m).tr (u2.tr u3)⟩
        have e2' : f_X5_emit (cS h (de t n (sk t n s.1)) 0) ra 0 (nI x) = some ((), h2) := e2
        simp only [f_X6_readValue, q_4, r_4_0 S, Option.bind_some, q_1, f3, if_true, e1, aBind_some, cS_R, d1, bB, if_neg (show ¬ (1 : Int32) = 0 by decide), r41, nn, qrl0 m, e2', b_X6_readValue_83, e3]
      · rw [if_neg g] at hne' ⊢
        have f0 : ¬ nf t n s.1 99999 0 = 0 := nf_ng hn hp (Bool.not_eq_true _ |>.mp g)
        rw [if_neg f0] at nn
        have c2 : CRx (cS h (nx t n s.1) (nf t n s.1 99999 0)) t n ra (nf t n s.1 99999 0) := c'.cx m (nx_le hp) f0
        obtain ⟨h2, e2, c3, u2⟩ := emitX m c2 0 0
        obtain ⟨h3, e3, c4, u3⟩ := countX m c3 (sk t n s.1)
        refine ⟨h3, ?_, c4, (CU.cs m).tr (u2.tr u3)⟩
        have e2' : f_X5_emit (cS h (de t n (sk t n s.1)) (nf t n s.1 99999 0)) ra 0 0 = some ((), h2) := e2
        simp only [f_X6_readValue, q_4, r_4_0 S, Option.bind_some, q_1, f3, if_true, e1, aBind_some, cS_R, d1, bB, if_neg (show ¬ (1 : Int32) = 0 by decide), r41, nn, qrl0 m, e2', b_X6_readValue_83, e3]
    · rw [Bool.not_eq_true _ |>.mp z] at d1
      rw [if_neg z] at hne' ⊢
      have tw := takeWordC b (tabW (i := 1) (by decide)) wdW_ok (by decide) sl.2 0
      rw [ss, show 1000 + 1 = 1001 from rfl] at tw
      cases kw : kW t (sk t n s.1) (lw t n (sk t n s.1)) wdW 0 with
      | none =>
        rw [kw] at tw
        have tw' : f_X9_takeWord (cS h (sk t n s.1) 0) 1 1001 = some (-1, cS h (sk t n s.1) 0) := tw
        have bl := blameC h (sk t n s.1) (sk t n s.1) 0 0
        refine ⟨cS h (sk t n s.1) (blm (sk t n s.1) 0 0), ?_, c'.cx m sl.2 (blm_ne (by omega) (Or.inl rfl)), CU.cs m⟩
        simp only [f_X6_readValue, q_4, r_4_0 S, Option.bind_some, q_1, f3, if_true, e1, aBind_some, cS_R, d1, bB, tw', bl]
      | some k =>
        rw [kw] at tw hne'
        have tw' : f_X9_takeWord (cS h (sk t n s.1) 0) 1 1001 = some (nI k, cS h (lw t n (sk t n s.1)) 0) := tw
        have hk := kW_lt wdW 0 k kw
        have hk' : k < 11 := by
          have : wdW.length = 11 := rfl
          omega
        have hne2 : gB (gEm 1 k (lw t n (sk t n s.1), s.2)) (gCnt (sk t n s.1)) ≠ none := hne'
        have c2 : CRu (cS h (lw t n (sk t n s.1)) 0) t n ra (gK (lw t n (sk t n s.1), s.2)) := c'.cs m ll.2
        obtain ⟨h2, e2, c3, u2⟩ := emitC m c2 (k := 1) (x := k) (by decide) (by omega) (gB_n hne2)
        obtain ⟨h3, e3, c4, u3⟩ := countC m c3 (q := sk t n s.1) (by omega)
        refine ⟨h3, ?_, c4, (CU.cs m).tr (u2.tr u3)⟩
        have e2' : f_X5_emit (cS h (lw t n (sk t n s.1)) 0) ra 1 (nI k) = some ((), h2) := e2
        simp only [f_X6_readValue, q_4, r_4_0 S, Option.bind_some, q_1, f3, if_true, e1, aBind_some, cS_R, d1, bB, tw', if_neg (nI_m1 (show k < 2147483648 by omega)), r41, qrl0 m, e2', b_X6_readValue_83, e3]
/-- the sign between values -/
def opC (c : Int32) : Option Nat := match opT c with
  | some k => some k
  | none => opS c
theorem takeOpC {h : aH} {t : Row} {n ra : Nat} {s : GS} (c : CRk h t n ra s) : f_X6_takeOperator h 4 = match opC (bya t n (sk t n s.1)) with
    | some k => some (nI (ck k), cS h (sk t n s.1 + 1) 0)
    | none => some (-1, cS h (sk t n s.1) 0) := by
  have ct := c.1
  have S := ct.1.1
  have e := nextC ct.1 ct.2.1 0
  rw [ct.e] at e
  have t96 : ∀ x, b_X6_takeOperator_96 (cS h (sk t n s.1) 0) 4 x = some (x, cS h (sk t n s.1 + 1) 0) := fun x => by
    simp only [b_X6_takeOperator_96, q_4, cS_R, r_4_0 S, Option.bind_some, q_1, cS_12, i1, aLet, cS_p]
  unfold f_X6_takeOperator
  simp only [q_4, r_4_0 S, Option.bind_some, q_1, e, aBind_some, t96]
  generalize bya t n (sk t n s.1) = ch
  unfold opC opT opS
  by_cases a : ch = 42
  · subst a; rfl
  · by_cases b : ch = 47
    · subst b; rfl
    · by_cases d : ch = 37
      · subst d; rfl
      · by_cases f : ch = 43
        · subst f; rfl
        · by_cases g : ch = 45
          · subst g; rfl
          · simp only [if_neg a, if_neg b, if_neg d, if_neg f, if_neg g, ite_self]
def gEw (W : Option Nat) (s : GS) : Rs := match W with
  | none => gK s
  | some k => gEm k 0 s
def wW (W : Option Nat) : Int32 := match W with
  | none => -1
  | some k => nI (ck k)
theorem s103X {h : aH} {t : Row} {n ra : Nat} {f : Int32} (m : ra ∈ rlL) (c : CRx h t n ra f) (w : Int32) : ∃ h', b_X6_readSum_103 h 4 w = some ((), h') ∧ CRx h' t n ra f ∧ CU ra h h' := by
  by_cases y : w = -1
  · exact ⟨h, by simp only [b_X6_readSum_103, if_pos y], c, CU.rf h⟩
  · obtain ⟨h1, e1, c1, u1⟩ := emitX m c w 0
    exact ⟨h1, by simp only [b_X6_readSum_103, if_neg y, q_4, c.2.1, Option.bind_some, qrl0 m, e1, aBind_some], c1, u1⟩
theorem sumX {h : aH} {t : Row} {n ra : Nat} {f : Int32} (m : ra ∈ rlL) (c : CRx h t n ra f) (w i : Int32) (K : Nat) : ∃ h', f_X6_readSum_8 (K + 1) h 4 w i = some ((), h') ∧ CRx h' t n ra f ∧ CU ra h h' := by
  obtain ⟨h1, e1, c1, u1⟩ := s103X m c w
  obtain ⟨f0, r1, p, z, ct, hz, ez⟩ := c
  refine ⟨h1, ?_, c1, u1⟩
  show b_X6_readSum_8 (f_X6_readSum_8 K) h 4 w i = _
  by_cases y : (400 : Int32) ≤ i
  · simp only [b_X6_readSum_8, if_pos y, e1]
  · simp only [b_X6_readSum_8, if_neg y, q_4, r_4_0 ct.1.1, Option.bind_some, q_1, ct.2.2.2, if_neg f0, e1]
def okO (W : Option Nat) : Prop := ∀ k, W = some k → k = 2 ∨ k = 3
theorem s103C {h : aH} {t : Row} {n ra : Nat} {s : GS} (m : ra ∈ rlL) (c : CRk h t n ra s) {W : Option Nat} (hW : okO W) (hne : gEw W s ≠ none) : ∃ h', b_X6_readSum_103 h 4 (wW W) = some ((), h') ∧ CRu h' t n ra (gEw W s) ∧ CU ra h h' := by
  cases W with
  | none => exact ⟨h, by simp only [b_X6_readSum_103, wW, if_true], c, CU.rf h⟩
  | some k =>
    have hk := hW k rfl
    have c2 : CRu h t n ra (gK s) := c
    obtain ⟨h1, e1, c1, u1⟩ := emitC m c2 (k := k) (x := 0) (by omega) (by decide) hne
    have e1' : f_X5_emit h ra (nI (ck k)) 0 = some ((), h1) := e1
    have y : ¬ nI (ck k) = -1 := by rcases hk with rfl | rfl <;> decide
    exact ⟨h1, by simp only [b_X6_readSum_103, wW, if_neg y, q_4, c.2.1, Option.bind_some, qrl0 m, e1', aBind_some], c1, u1⟩
