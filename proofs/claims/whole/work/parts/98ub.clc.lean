/-! ===== rule: clauses, as functions ===== -/
abbrev Cl := List (Nat × Nat × Nat)
def gS2 (t : Row) (n : Nat) (s : GS) : Rs := if isH t n s.1 26982 = true then gTs t n (gF t n 10) (lw t n (sk t n s.1), s.2) else gK (sk t n s.1, s.2)
def gSt (t : Row) (n : Nat) (s : GS) : GS := (lw t n (sk t n s.1), s.2)
def gClA (t : Row) (n c : Nat) (s : GS) : Rs := if isH t n s.1 1937006969 = true then (if c = 12 then gX (blm (sk t n s.1) 4 0) else gB (gSum t n (gSt t n s)) (gS2 t n)) else gX (blm (sk t n s.1) 0 0)
def gJ (t : Row) (n : Nat) (s : GS) : Nat := match gSum t n (gSt t n s) with
  | some (.inr s1) => s1.2.2.length
  | _ => 0
def gRc (t : Row) (n : Nat) (s s2 : GS) : Nat × Nat × Nat := (s.2.2.length, gJ t n s, s2.2.2.length)
def gEd (t : Row) (n : Nat) (s : GS) (C : Cl) : Sum Int32 (GS × Cl) := if bya t n (sk t n s.1) = -1 then .inr (s, C) else .inl (blm (sk t n s.1) 0 0)
def gRd (t : Row) (n : Nat) : Nat → GS → Cl → Option (Sum Int32 (GS × Cl))
  | 0, _, _ => none
  | m + 1, s, C => match gClA t n C.length s with
    | none => none
    | some (.inl f) => some (.inl f)
    | some (.inr s2) => if bya t n (sk t n s2.1) = 59 then gRd t n m (sk t n s2.1 + 1, s2.2) (gRc t n s s2 :: C) else some (gEd t n s2 (gRc t n s s2 :: C))
theorem mo_s2 {t : Row} {n : Nat} : Mo n (gS2 t n) := by
  intro s s' h e
  unfold gS2 at e
  by_cases o : isH t n s.1 26982 = true
  · rw [if_pos o] at e
    have hl := isH_lt h o
    have a := Mo.mv (mo_ts (mo_f 10)) (s := s) (q := lw t n (sk t n s.1)) (by omega) hl.2.1 e
    exact ⟨a.2.1, a.2.2⟩
  · rw [if_neg o] at e; exact mo_sk h e
/-! ===== rule: the class's clauses ===== -/
def CC (g2 g3 g4 : Row) : Cl → Prop
  | [] => True
  | x :: r => (g2 r.length = nI x.1 ∧ g3 r.length = nI x.2.1 ∧ g4 r.length = nI x.2.2) ∧ CC g2 g3 g4 r
theorem CC.up {g2 g3 g4 h2 h3 h4 : Row} {i : Nat} (e2 : ∀ j, j < i → h2 j = g2 j) (e3 : ∀ j, j < i → h3 j = g3 j) (e4 : ∀ j, j < i → h4 j = g4 j) : ∀ {L : Cl}, L.length ≤ i → CC g2 g3 g4 L → CC h2 h3 h4 L := by
  intro L
  induction L with
  | nil => intro _ _; exact True.intro
  | cons z r ih =>
    intro h c
    rw [List.length_cons] at h
    exact ⟨by rw [e2 _ (by omega), e3 _ (by omega), e4 _ (by omega)]; exact c.1, ih (by omega) c.2⟩
abbrev vA (ra : Nat) : Nat → Prop := fun c => c = 1 ∨ c = 4 ∨ (ra ≤ c ∧ c ≤ ra + 4)
theorem CU.v {ra : Nat} {h h' : aH} (u : CU ra h h') : Upd (vA ra) h h' := u.1.mono (fun c y => by
  rcases y with y | y | y | y
  · exact Or.inl y
  · exact Or.inr (Or.inl y)
  · exact Or.inr (Or.inr (by omega))
  · exact Or.inr (Or.inr (by omega)))
theorem CRu.up {h h' : aH} {t : Row} {n ra : Nat} {r : Rs} (c : CRu h t n ra r) (S : Str h') (e1 : hI h' 1 = hI h 1) (e2 : hI h' 2 = hI h 2) (e4 : hI h' 4 = hI h 4) (er : hI h' ra 4 = hI h ra 4) (es : hI h' (ra + 1) = hI h (ra + 1)) (eR : hR h' 4 1 = hR h 4 1) : CRu h' t n ra r := by
  have ct : ∀ p f, CT h t n p f → CT h' t n p f := fun p f q => ⟨⟨S, by rw [e1]; exact q.1.2.1, q.1.2.2.1, by rw [e2]; exact q.1.2.2.2⟩, q.2.1, by rw [e1]; exact q.2.2.1, by rw [e1]; exact q.2.2.2⟩
  match r with
  | none => exact c.elim
  | some (.inl f) =>
    have c' : CRx h t n ra f := c
    obtain ⟨a, b, p, z, d, e, g⟩ := c'
    exact ⟨a, by rw [eR]; exact b, p, z, ct _ _ d, e, by rw [er]; exact g⟩
  | some (.inr s) =>
    have c' : CRk h t n ra s := c
    obtain ⟨c1, c2, c3, c4, c5, c6, c7⟩ := c'
    exact ⟨ct _ _ c1, by rw [eR]; exact c2, c3, by rw [e4]; exact c4, c5, by rw [er]; exact c6, by rw [es]; exact c7⟩
theorem addC {h : aH} {t : Row} {n ra : Nat} {r : Rs} (m : ra ∈ rlL) (c : CRu h t n ra r) {k : Nat} (hk : k < 12) (e5 : hI h ra 5 = nI k) (x1 x2 : Int32) : ∃ h', f_X5_addClause h ra x1 x2 = some ((), h') ∧ CRu h' t n ra r ∧ hI h' ra 5 = nI (k + 1) ∧ hI h' (ra + 2) = upd (hI h (ra + 2)) k x1 ∧ hI h' (ra + 3) = upd (hI h (ra + 3)) k x2 ∧ hI h' (ra + 4) = upd (hI h (ra + 4)) k (hI h ra 4) ∧ Upd (vA ra) h h' := by
  have g := rl_ge ra m
  have S : Str h := by
    match r with
    | none => exact c.elim
    | some (.inl f) => have c' : CRx h t n ra f := c; obtain ⟨_, _, _, _, ct, _⟩ := c'; exact ct.1.1
    | some (.inr s) => have c' : CRk h t n ra s := c; exact c'.1.1.1
  obtain ⟨r0, r1, r2, r3⟩ := S.rl m
  obtain ⟨h', eh⟩ : ∃ h', h' = pI (pI (pI (pI h (ra + 2) k x1) (ra + 3) k x2) (ra + 4) k (hI h ra 4)) ra 5 (nI (k + 1)) := ⟨_, rfl⟩
  have u : Upd (vA ra) h h' := by
    rw [eh]
    exact (((Upd.pI (Or.inr (Or.inr (by omega)))).tr (Upd.pI (Or.inr (Or.inr (by omega))))).tr (Upd.pI (Or.inr (Or.inr (by omega))))).tr (Upd.pI (Or.inr (Or.inr (by omega))))
  have o : ∀ c, c ≠ ra → c ≠ ra + 2 → c ≠ ra + 3 → c ≠ ra + 4 → hI h' c = hI h c := fun c a b d e => by rw [eh, hI_ne _ a, hI_ne _ e, hI_ne _ d, hI_ne _ b]
  have o0 : hI h' ra = upd (hI h ra) 5 (nI (k + 1)) := by rw [eh, hI_eq, hI_ne _ (by omega), hI_ne _ (by omega), hI_ne _ (by omega)]
  refine ⟨h', ?_, c.up (u.str S) (o 1 (by omega) (by omega) (by omega) (by omega)) (o 2 (by omega) (by omega) (by omega) (by omega)) (o 4 (by omega) (by omega) (by omega) (by omega)) (by rw [o0, upd_ne _ _ (by decide)]) (o (ra + 1) (by omega) (by omega) (by omega) (by omega)) (by rw [eh]; rfl), by rw [o0, upd_at], ?_, ?_, ?_, u⟩
  · have c12 : ¬ (12 : Int32) ≤ nI k := nI_ge (b := 12) hk (by decide)
    rw [eh]
    simp only [f_X5_addClause, qrl0 m, e5, if_neg c12, r1, Option.bind_some, aLet, qrl2 m, if_pos (inrl2 m hk), nI_clamp (show k < 2 ^ 31 by omega), hR_pI, r2, hI_ne _ (show ra ≠ ra + 2 by omega), qrl3 m, if_pos (inrl3 m hk), r3, hI_ne _ (show ra ≠ ra + 3 by omega), qrl4 m, if_pos (inrl4 m hk), hI_ne _ (show ra ≠ ra + 4 by omega), i1]
  · rw [eh, hI_ne _ (by omega), hI_ne _ (by omega), hI_ne _ (by omega), hI_eq]
  · rw [eh, hI_ne _ (by omega), hI_ne _ (by omega), hI_eq, hI_ne _ (by omega)]
  · rw [eh, hI_ne _ (by omega), hI_eq, hI_ne _ (by omega), hI_ne _ (by omega)]
def CQ (h : aH) (t : Row) (n ra : Nat) (s : GS) (C : Cl) : Prop := CRk h t n ra s ∧ hI h ra 5 = nI C.length ∧ CC (hI h (ra + 2)) (hI h (ra + 3)) (hI h (ra + 4)) C ∧ C.length ≤ 12
theorem clauseC {h : aH} {t : Row} {n ra : Nat} {s : GS} {C : Cl} (m : ra ∈ rlL) (c : CQ h t n ra s C) (hne : gClA t n C.length s ≠ none) : ∃ h', f_X6_readClause h 4 (nI C.length) = some ((), h') ∧ Upd (vA ra) h h' ∧ (match gClA t n C.length s with
    | none => False
    | some (.inl f) => CRx h' t n ra f
    | some (.inr s2) => CQ h' t n ra s2 (gRc t n s s2 :: C)) := by
  have gg := rl_ge ra m
  obtain ⟨c1, c2, c3, c4⟩ := c
  have ct := c1.1
  have b := ct.1
  have S := b.1
  have hn := b.2.2.1
  have hp := ct.2.1
  have sl := sk_le (t := t) hp
  have ll := lw_le (t := t) sl.2
  have ss := sk_sk (t := t) hp
  have e1 := seekC b hp 0
  rw [ct.e] at e1
  have tw := takeWordC b (tabW (i := 2) (by decide)) stW_ok (by decide) sl.2 0
  rw [ss, show 1000 + 2 = 1002 from rfl] at tw
  have r41 := c1.2.1
  unfold gClA at hne ⊢
  unfold isH at hne ⊢
  by_cases o : isWB t (sk t n s.1) (lw t n (sk t n s.1)) 1937006969 = true
  · rw [if_pos o] at hne ⊢
    have tw' : f_X9_takeWord (cS h (sk t n s.1) 0) 1 1002 = some (nI 0, cS h (lw t n (sk t n s.1)) 0) := by
      rw [tw]
      unfold stW
      simp only [kW, if_pos o]
    by_cases y : C.length = 12
    · rw [if_pos y]
      have bl := blameC h (lw t n (sk t n s.1)) (sk t n s.1) 0 4
      refine ⟨_, ?_, (CU.cs m).v, c1.cx m ll.2 (blm_ne (p := sk t n s.1) (by omega) (Or.inr (Or.inr rfl)))⟩
      have n12 : ¬ nI C.length < 12 := by rw [y]; decide
      simp only [f_X6_readClause, q_4, r_4_0 S, Option.bind_some, q_1, e1, aBind_some, cS_R, tw', if_neg (show ¬ nI 0 = -1 by decide), if_neg n12, bl]
    · rw [if_neg y] at hne ⊢
      have l12 : nI C.length < 12 := nI_lt (b := 12) (by omega) (by decide)
      have k1 : CRu (cS h (lw t n (sk t n s.1)) 0) t n ra (gK (gSt t n s)) := c1.cs m ll.2
      have u1 : CU ra h (cS h (lw t n (sk t n s.1)) 0) := CU.cs m
      have sz1 : hI (cS h (lw t n (sk t n s.1)) 0) ra 4 = nI s.2.2.length := by rw [cS_o _ _ _ (show ra ≠ 1 by omega)]; exact c1.2.2.2.2.2.1
      obtain ⟨g2, e2, k2, u2⟩ := readSumC m k1 (gB_n hne)
      have k2' : CRu g2 t n ra (gSum t n (gSt t n s)) := k2
      have S2 : ∀ x, hR g2 4 1 = some x → hR g2 4 1 = some x := fun _ q => q
      -- the test
      have nxt : ∃ g3, (∀ x3 x4, (aBind (f_X6_isNextWord g2 4 1003) fun r42 h43 => if r42 = 0 then b_X6_readClause_82 h43 4 x3 x4 else aBind (f_X6_readTest h43 4 0) fun r44 h45 => b_X6_readClause_82 h45 4 x3 x4) = b_X6_readClause_82 g3 4 x3 x4) ∧ CRu g3 t n ra (gB (gSum t n (gSt t n s)) (gS2 t n)) ∧ CU ra g2 g3 := by
        cases q : gSum t n (gSt t n s) with
        | none => rw [q] at k2'; exact k2'.elim
        | some v =>
          rw [q] at k2' hne
          cases v with
          | inl f =>
            have nw := nextWX (show CRx g2 t n ra f from k2') 1003
            refine ⟨g2, fun x3 x4 => ?_, k2', CU.rf g2⟩
            rw [nw, aBind_some, if_pos rfl]
          | inr s1 =>
            have k2s : CRk g2 t n ra s1 := k2'
            have hne1 : gS2 t n s1 ≠ none := hne
            show ∃ g3, _ ∧ CRu g3 t n ra (gS2 t n s1) ∧ _
            have nw := nextWC (i := 3) (by decide) ifW_ok k2s
            have nw' : f_X6_isNextWord g2 4 1003 = if isH t n s1.1 26982 = true then some (1, cS g2 (lw t n (sk t n s1.1)) 0) else some (0, cS g2 (sk t n s1.1) 0) := nw
            unfold gS2 at hne1 ⊢
            by_cases oi : isH t n s1.1 26982 = true
            · rw [if_pos oi] at nw' hne1 ⊢
              have hl := isH_lt k2s.1.2.1 oi
              have k3 : CRu (cS g2 (lw t n (sk t n s1.1)) 0) t n ra (gK (lw t n (sk t n s1.1), s1.2)) := k2s.cs m hl.2.1
              obtain ⟨g3, e3, k4, u3⟩ := readTestC hn m _ _ k3 hne1
              have e3' : f_X6_readTest (cS g2 (lw t n (sk t n s1.1)) 0) 4 0 = some ((), g3) := e3
              refine ⟨g3, fun x3 x4 => ?_, k4, (CU.cs m).tr u3⟩
              rw [nw', aBind_some, if_neg (by decide), e3', aBind_some]
            · rw [if_neg oi] at nw' hne1 ⊢
              refine ⟨cS g2 (sk t n s1.1) 0, fun x3 x4 => ?_, k2s.cs m (sk_le k2s.1.2.1).2, CU.cs m⟩
              rw [nw', aBind_some, if_pos rfl]
      obtain ⟨g3, e3, k3, u3⟩ := nxt
      have U : CU ra h g3 := u1.tr (u2.tr u3)
      have f5 : hI g3 ra 5 = nI C.length := by rw [U.2.1]; exact c2
      obtain ⟨g4, e4, k4, a5, a2, a3, a4, ua⟩ := addC m k3 (k := C.length) (by omega) f5 (nI s.2.2.length) (hI g2 ra 4)
      have r2 : hR g2 4 1 = some ra := k2.hr
      have r3 : hR g3 4 1 = some ra := k3.hr
      have e3' := e3 (nI s.2.2.length) (hI g2 ra 4)
      refine ⟨g4, ?_, U.v.tr ua, ?_⟩
      · have q1 : f_X6_readClause h 4 (nI C.length) = (aBind (f_X6_isNextWord g2 4 1003) fun r42 h43 => if r42 = 0 then b_X6_readClause_82 h43 4 (nI s.2.2.length) (hI g2 ra 4) else aBind (f_X6_readTest h43 4 0) fun r44 h45 => b_X6_readClause_82 h45 4 (nI s.2.2.length) (hI g2 ra 4)) := by
          unfold f_X6_readClause
          rw [q_4, r_4_0 S, Option.bind_some, q_1, e1, aBind_some, cS_R, r_4_0 S, Option.bind_some, q_1, tw', aBind_some, if_neg (show ¬ nI 0 = -1 by decide), if_pos l12, cS_R, r41, Option.bind_some, qrl0 m, aLet_e, sz1, e2, aBind_some, r2, Option.bind_some, qrl0 m, aLet_e]
        rw [q1, e3']
        unfold b_X6_readClause_82
        rw [q_4, r3, Option.bind_some, qrl0 m, e4, aBind_some]
      · have k4' := k4
        cases q : gB (gSum t n (gSt t n s)) (gS2 t n) with
        | none => rw [q] at k4'; exact k4'.elim
        | some v =>
          rw [q] at k4'
          cases v with
          | inl f => exact k4'
          | inr s2 =>
            have k4s : CRk g4 t n ra s2 := k4'
            obtain ⟨s1, q1, q2⟩ := gB_ok (show gB (gSum t n (gSt t n s)) (gS2 t n) = gK s2 from q)
            rw [q1] at k2'
            have k2s : CRk g2 t n ra s1 := k2'
            have j1 : gJ t n s = s1.2.2.length := by unfold gJ; rw [q1]; rfl
            have o2 : ∀ j, 2 ≤ j → j ≤ 4 → hI g3 (ra + j) = hI h (ra + j) := fun j p q => U.1.2.2.1 (ra + j) (by unfold kA; omega)
            have k3' := k3
            rw [q] at k3'
            have k3s : CRk g3 t n ra s2 := k3'
            refine ⟨k4s, ?_, ⟨⟨?_, ?_, ?_⟩, ?_⟩, ?_⟩
            · rw [a5, List.length_cons]
            · rw [a2, upd_at]; rfl
            · rw [a3, upd_at, k2s.2.2.2.2.2.1]
              show _ = nI (gJ t n s)
              rw [j1]
            · rw [a4, upd_at]
              exact k3s.2.2.2.2.2.1
            · refine CC.up (i := C.length) (fun j hj => ?_) (fun j hj => ?_) (fun j hj => ?_) (Nat.le_refl _) c3
              · rw [a2, upd_ne _ _ (by omega), o2 2 (by omega) (by omega)]
              · rw [a3, upd_ne _ _ (by omega), o2 3 (by omega) (by omega)]
              · rw [a4, upd_ne _ _ (by omega), o2 4 (by omega) (by omega)]
            · rw [List.length_cons]; omega
  · rw [if_neg o]
    have tw' : f_X9_takeWord (cS h (sk t n s.1) 0) 1 1002 = some (-1, cS h (sk t n s.1) 0) := by
      rw [tw]
      unfold stW
      simp only [kW, if_neg o]
    have bl := blameC h (sk t n s.1) (sk t n s.1) 0 0
    refine ⟨_, ?_, (CU.cs m).v, c1.cx m sl.2 (blm_ne (p := sk t n s.1) (by omega) (Or.inl rfl))⟩
    simp only [f_X6_readClause, q_4, r_4_0 S, Option.bind_some, q_1, e1, aBind_some, cS_R, tw', if_true, bl]
/-- the end, with a fault -/
theorem r77X {h : aH} {t : Row} {n ra : Nat} {f : Int32} (m : ra ∈ rlL) (c : CRx h t n ra f) : ∃ h', b_X6_readInto_77 h 4 = some (f, h') ∧ Upd (vA ra) h h' := by
  obtain ⟨f0, r1, p, z, ct, hz, ez⟩ := c
  have S := ct.1.1
  have nx := nextC ct.1 ct.2.1 f
  rw [ct.e] at nx
  have bl := blameC h (sk t n p) (sk t n p) f 0
  rw [blm_f f0] at bl
  refine ⟨cS h (sk t n p) f, ?_, (CU.cs m).v⟩
  by_cases y : bya t n (sk t n p) = -1
  · simp only [b_X6_readInto_77, q_4, r_4_0 S, Option.bind_some, q_1, nx, aBind_some, if_pos y, cS_R, cS_13]
  · simp only [b_X6_readInto_77, q_4, r_4_0 S, Option.bind_some, q_1, nx, aBind_some, if_neg y, cS_R, cS_12, bl, cS_13]
def CE (h : aH) (t : Row) (n ra : Nat) (v : Sum Int32 (GS × Cl)) (F : Int32) : Prop := match v with
  | .inl f => F = f ∧ ¬ f = 0
  | .inr z => F = 0 ∧ ∃ p, CQ h t n ra (p, z.1.2) z.2
theorem r77C {h : aH} {t : Row} {n ra : Nat} {s : GS} {C : Cl} (m : ra ∈ rlL) (c : CQ h t n ra s C) : ∃ F h', b_X6_readInto_77 h 4 = some (F, h') ∧ Upd (vA ra) h h' ∧ CE h' t n ra (gEd t n s C) F := by
  have gg := rl_ge ra m
  obtain ⟨c1, c2, c3, c4⟩ := c
  have ct := c1.1
  have S := ct.1.1
  have hn := ct.1.2.2.1
  have sl := sk_le (t := t) ct.2.1
  have nx := nextC ct.1 ct.2.1 0
  rw [ct.e] at nx
  unfold gEd
  by_cases y : bya t n (sk t n s.1) = -1
  · rw [if_pos y]
    refine ⟨0, cS h (sk t n s.1) 0, ?_, (CU.cs m).v, rfl, sk t n s.1, c1.cs m sl.2, ?_, ?_, c4⟩
    · simp only [b_X6_readInto_77, q_4, r_4_0 S, Option.bind_some, q_1, nx, aBind_some, if_pos y, cS_R, cS_13]
    · rw [cS_o _ _ _ (show ra ≠ 1 by omega)]; exact c2
    · rw [cS_o _ _ _ (show ra + 2 ≠ 1 by omega), cS_o _ _ _ (show ra + 3 ≠ 1 by omega), cS_o _ _ _ (show ra + 4 ≠ 1 by omega)]; exact c3
  · rw [if_neg y]
    have bl := blameC h (sk t n s.1) (sk t n s.1) 0 0
    refine ⟨blm (sk t n s.1) 0 0, cS h (sk t n s.1) (blm (sk t n s.1) 0 0), ?_, (CU.cs m).v, rfl, blm_ne (by omega) (Or.inl rfl)⟩
    simp only [b_X6_readInto_77, q_4, r_4_0 S, Option.bind_some, q_1, nx, aBind_some, if_neg y, cS_R, cS_12, bl, cS_13]
theorem CQ.cs {h : aH} {t : Row} {n ra : Nat} {s : GS} {C : Cl} (m : ra ∈ rlL) (c : CQ h t n ra s C) {q : Nat} (hq : q ≤ n) : CQ (cS h q 0) t n ra (q, s.2) C := by
  have gg := rl_ge ra m
  obtain ⟨c1, c2, c3, c4⟩ := c
  exact ⟨c1.cs m hq, by rw [cS_o _ _ _ (show ra ≠ 1 by omega)]; exact c2, by rw [cS_o _ _ _ (show ra + 2 ≠ 1 by omega), cS_o _ _ _ (show ra + 3 ≠ 1 by omega), cS_o _ _ _ (show ra + 4 ≠ 1 by omega)]; exact c3, c4⟩
theorem gEd_sk {t : Row} {n : Nat} {s : GS} {C : Cl} {h : aH} {ra : Nat} {F : Int32} (hp : s.1 ≤ n) (e : CE h t n ra (gEd t n (sk t n s.1, s.2) C) F) : CE h t n ra (gEd t n s C) F := by
  unfold gEd at e ⊢
  have e' : CE h t n ra (if bya t n (sk t n (sk t n s.1)) = -1 then .inr ((sk t n s.1, s.2), C) else .inl (blm (sk t n (sk t n s.1)) 0 0)) F := e
  rw [sk_sk hp] at e'
  by_cases y : bya t n (sk t n s.1) = -1
  · rw [if_pos y] at e' ⊢; exact e'
  · rw [if_neg y] at e' ⊢; exact e'
theorem loopRC {t : Row} {n ra : Nat} (m : ra ∈ rlL) : ∀ (M : Nat) (h : aH) (s : GS) (C : Cl) (K : Nat) (v : Sum Int32 (GS × Cl)), CQ h t n ra s C → M < K → gRd t n M s C = some v → ∃ F h', f_X6_readInto_28 K h 4 1 (nI C.length) = some (F, h') ∧ Upd (vA ra) h h' ∧ CE h' t n ra v F := by
  intro M
  induction M with
  | zero => intro h s C K v _ _ e; cases e
  | succ M ih =>
    intro h s C K v c hK e
    obtain ⟨K', rfl⟩ : ∃ K', K = K' + 2 := ⟨K - 2, by omega⟩
    have c4 := c.2.2.2
    have hne : gClA t n C.length s ≠ none := fun y => by rw [gRd, y] at e; cases e
    obtain ⟨g2, e2, u2, x2⟩ := clauseC m c hne
    have S2 : hR g2 4 0 = some 1 := r_4_0 (u2.str c.1.1.1.1)
    have n12 : ¬ (12 : Int32) < nI C.length := nI_nlt (a := 12) c4 (by decide)
    rw [gRd] at e
    cases q : gClA t n C.length s with
    | none => exact absurd q hne
    | some w =>
      rw [q] at e x2
      cases w with
      | inl f =>
        have e' : some (Sum.inl f) = some v := e
        injection e' with e'
        subst e'
        have x2' : CRx g2 t n ra f := x2
        obtain ⟨g3, e3, u3⟩ := r77X m x2'
        have fl : hI g2 1 3 = f := by obtain ⟨_, _, _, _, ct, _⟩ := x2'; exact ct.2.2.2
        refine ⟨f, g3, ?_, u2.tr u3, rfl, x2'.1⟩
        show b_X6_readInto_28 (f_X6_readInto_28 (K' + 1)) h 4 1 (nI C.length) = _
        have e69 : f_X6_readInto_28 (K' + 1) g2 4 0 (nI (C.length + 1)) = some (f, g3) := by
          show b_X6_readInto_28 (f_X6_readInto_28 K') g2 4 0 (nI (C.length + 1)) = _
          simp only [b_X6_readInto_28, if_true, e3]
        simp only [b_X6_readInto_28, if_neg (show ¬ (1 : Int32) = 0 by decide), if_neg n12, q_4, e2, aBind_some, S2, Option.bind_some, q_1, fl, if_neg x2'.1, b_X6_readInto_69, b_X6_readInto_70, i1, e69]
      | inr s2 =>
        have x2' : CQ g2 t n ra s2 (gRc t n s s2 :: C) := x2
        have ct := x2'.1.1
        have hn := ct.1.2.2.1
        have sl := sk_le (t := t) ct.2.1
        have fl : hI g2 1 3 = 0 := ct.2.2.2
        have ts := takeSignC ct.1 ct.2.1 0 59
        rw [ct.e] at ts
        have e' : (if bya t n (sk t n s2.1) = 59 then gRd t n M (sk t n s2.1 + 1, s2.2) (gRc t n s s2 :: C) else some (gEd t n s2 (gRc t n s s2 :: C))) = some v := e
        by_cases y : bya t n (sk t n s2.1) = 59
        · rw [if_pos y] at e' ts
          have hq := bya_c y (by decide)
          have c3 : CQ (cS g2 (sk t n s2.1 + 1) 0) t n ra (sk t n s2.1 + 1, s2.2) (gRc t n s s2 :: C) := x2'.cs m (by omega)
          obtain ⟨F, g4, e4, u4, x4⟩ := ih _ _ _ (K' + 1) v c3 (by omega) e'
          refine ⟨F, g4, ?_, u2.tr ((CU.cs m).v.tr u4), x4⟩
          rw [List.length_cons] at e4
          show b_X6_readInto_28 (f_X6_readInto_28 (K' + 1)) h 4 1 (nI C.length) = _
          simp only [b_X6_readInto_28, if_neg (show ¬ (1 : Int32) = 0 by decide), if_neg n12, q_4, e2, aBind_some, S2, Option.bind_some, q_1, fl, if_true, ts, b_X6_readInto_70, i1, e4]
        · rw [if_neg y] at e' ts
          injection e' with e'
          have c3 : CQ (cS g2 (sk t n s2.1) 0) t n ra (sk t n s2.1, s2.2) (gRc t n s s2 :: C) := x2'.cs m sl.2
          obtain ⟨F, g4, e4, u4, x4⟩ := r77C m c3
          refine ⟨F, g4, ?_, u2.tr ((CU.cs m).v.tr u4), ?_⟩
          · show b_X6_readInto_28 (f_X6_readInto_28 (K' + 1)) h 4 1 (nI C.length) = _
            have e69 : f_X6_readInto_28 (K' + 1) (cS g2 (sk t n s2.1) 0) 4 0 (nI (C.length + 1)) = some (F, g4) := by
              show b_X6_readInto_28 (f_X6_readInto_28 K') _ 4 0 (nI (C.length + 1)) = _
              simp only [b_X6_readInto_28, if_true, e4]
            simp only [b_X6_readInto_28, if_neg (show ¬ (1 : Int32) = 0 by decide), if_neg n12, q_4, e2, aBind_some, S2, Option.bind_some, q_1, fl, if_true, ts, b_X6_readInto_69, b_X6_readInto_70, i1, e69]
          · rw [← e']
            exact gEd_sk ct.2.1 x4
theorem readRuleC {h : aH} {t : Row} {n ra : Nat} (m : ra ∈ rlL) (b : TB h t n) {v : Sum Int32 (GS × Cl)} (e : gRd t n 14 (0, 0, []) [] = some v) : ∃ F h', f_X6_readInto h 4 ra = some (F, h') ∧ Upd (vA ra) h h' ∧ CE h' t n ra v F := by
  have gg := rl_ge ra m
  obtain ⟨g1, eg1⟩ : ∃ g1, g1 = pR h 4 1 (some ra) := ⟨_, rfl⟩
  have i1' : ∀ c, hI g1 c = hI h c := fun c => by rw [eg1]; rfl
  have r1 : hR g1 4 1 = some ra := by rw [eg1]; show (if (4 : Nat) = 4 then va_up (hR h 4) 1 (some ra) else hR h 4) 1 = _; rw [if_pos rfl]; unfold va_up; rw [if_pos rfl]
  have u1 : Upd (vA ra) h g1 := by
    refine ⟨⟨by rw [eg1]; rfl, by rw [eg1]; rfl⟩, fun a j nj => ?_, fun a _ => i1' a, fun a _ => by rw [eg1]; rfl⟩
    rw [eg1]
    show (if a = 4 then va_up (hR h 4) 1 (some ra) else hR h a) j = _
    by_cases y : a = 4
    · rw [if_pos y, y]
      unfold va_up
      rw [if_neg (fun q => nj ⟨y, q⟩)]
    · rw [if_neg y]
  have S1 := u1.str b.1
  obtain ⟨g2, eg2⟩ : ∃ g2, g2 = pI (pI (pI g1 ra 4 0) ra 5 0) 4 2 0 := ⟨_, rfl⟩
  have u2 : Upd (vA ra) g1 g2 := by rw [eg2]; exact ((Upd.pI (Or.inr (Or.inr (by omega)))).tr (Upd.pI (Or.inr (Or.inr (by omega))))).tr (Upd.pI (Or.inr (Or.inl rfl)))
  have S2 := u2.str S1
  have o2 : ∀ c, c ≠ ra → c ≠ 4 → hI g2 c = hI h c := fun c a d => by rw [eg2, hI_ne _ d, hI_ne _ a, hI_ne _ a, i1' c]
  have or2 : hI g2 ra = upd (upd (hI h ra) 4 0) 5 0 := by rw [eg2, hI_ne _ (by omega), hI_eq, hI_eq, i1']
  have o4 : hI g2 4 2 = 0 := by rw [eg2, hI_eq, upd_at]
  have b2 : TB g2 t n := ⟨S2, by rw [o2 1 (by omega) (by omega)]; exact b.2.1, b.2.2.1, fun j hj => by rw [o2 2 (by omega) (by omega)]; exact b.2.2.2 j hj⟩
  have r2 : hR g2 4 1 = some ra := by rw [eg2]; exact r1
  have c3 : CQ (cS g2 0 0) t n ra (0, 0, []) [] := by
    refine ⟨⟨CT.of b2 (Nat.zero_le _), r2, by decide, ?_, by decide, ?_, True.intro⟩, ?_, True.intro, by decide⟩
    · rw [cS_o _ _ _ (by decide), o4]; rfl
    · rw [cS_o _ _ _ (show ra ≠ 1 by omega), or2, upd_ne _ _ (by decide), upd_at]; rfl
    · rw [cS_o _ _ _ (show ra ≠ 1 by omega), or2, upd_at]; rfl
  obtain ⟨F, h', e4, u4, x4⟩ := loopRC m 14 _ _ _ 2000 v c3 (by omega) e
  refine ⟨F, h', ?_, u1.tr (u2.tr ((CU.cs m).v.tr u4)), x4⟩
  have rw1 : pI (pI g2 1 2 0) 1 3 0 = cS g2 0 0 := by
    unfold cS
    rw [pI_d g2, pI_wI]
    rfl
  have rwd : f_X9_rewind g2 1 = some ((), cS g2 0 0) := by
    simp only [f_X9_rewind, q_1, aLet, rw1]
  have clr : f_X5_clear g1 ra = some ((), pI (pI g1 ra 4 0) ra 5 0) := by
    simp only [f_X5_clear, qrl0 m, aLet]
  unfold f_X6_readInto
  rw [q_4, aLet_e, ← eg1, r1, Option.bind_some, qrl0 m, clr, aBind_some, aLet_e, ← eg2, r_4_0 S2, Option.bind_some, q_1, rwd, aBind_some]
  exact e4
