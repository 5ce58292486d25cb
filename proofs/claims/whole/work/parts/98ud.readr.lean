/-! ===== rule: the reference reads it all ===== -/
theorem gSt_sk {t : Row} {n : Nat} {s : GS} (hp : s.1 ≤ n) : gSt t n (sk t n s.1, s.2) = gSt t n s := by
  unfold gSt
  show (lw t n (sk t n (sk t n s.1)), s.2) = _
  rw [sk_sk hp]
theorem gRc_sk {t : Row} {n : Nat} {s s2 : GS} (hp : s.1 ≤ n) : gRc t n (sk t n s.1, s.2) s2 = gRc t n s s2 := by
  unfold gRc gJ
  rw [gSt_sk hp]
theorem clauseRR {h : aH} {t : Row} {n k : Nat} {s : GS} {C : Cl} (hk : k < 6) (c : RQ h t n k s C) (ph : Ph s) (hne : gClA t n C.length s ≠ none) : ∃ h', f_X12_clauseHere h 308 = some (bB (okR (gClA t n C.length s)), h') ∧ FZ k h h' ∧ (match gClA t n C.length s with
    | none => False
    | some (.inl f) => RRx h' t n f
    | some (.inr s2) => RQ h' t n k s2 (gRc t n s s2 :: C)) := by
  obtain ⟨c1, c2, c3, c4, c5⟩ := c
  have hp := c1.1.2.1
  have hn := c1.1.1.2.2.1
  have sl := sk_le (t := t) hp
  have ss := sk_sk (t := t) hp
  have se := seeT c1
  obtain ⟨g1, eg1⟩ : ∃ g1, g1 = rP h (sk t n s.1) := ⟨_, rfl⟩
  have k1 : RRk g1 t n k (sk t n s.1, s.2) := by rw [eg1]; exact c1.p sl.2
  have u1 : FS k h g1 := by rw [eg1]; exact FS.p
  rw [← eg1] at se
  have p8 : hI g1 308 8 = nI (sk t n s.1) := k1.1.2.2.1
  have p11 : hI g1 308 11 = nI k := k1.2.2.2.1
  have n6 : ¬ nI k = 6 := fun y => by
    have := (nI_eq (b := 6) (by omega) (by decide)).mp y
    omega
  have p14 : hI g1 308 14 = nI C.length := by rw [u1.2.1 14 (by decide) (by decide) (by decide) (by decide)]; exact c2
  have wd := wordT k1.1 ss (w := 1937006969) (by decide)
  have wd' : f_X12_isWord g1 308 1937006969 = some (bB (isH t n s.1 1937006969), g1) := wd
  have code : f_X12_clauseHere h 308 = if isH t n s.1 1937006969 = true then b_X12_clauseHere_56 g1 308 (nI (sk t n s.1)) 0 else b_X12_clauseHere_49 g1 308 (nI (sk t n s.1)) := by
    unfold f_X12_clauseHere
    rw [q_308, se, aBind_some, aLet_e, p8, p11, if_neg n6]
    unfold b_X12_clauseHere_24
    rw [if_pos rfl, q_308, wd', aBind_some, bB_0]
  rw [code]
  unfold gClA at hne ⊢
  by_cases o : isH t n s.1 1937006969 = true
  · rw [if_pos o] at hne ⊢
    rw [if_pos o]
    have code2 : b_X12_clauseHere_56 g1 308 (nI (sk t n s.1)) 0 = b_X12_clauseHere_71 g1 308 (nI (sk t n s.1)) 0 12 (nI C.length) := by
      unfold b_X12_clauseHere_56
      rw [q_308, if_pos rfl, p14]
    rw [code2]
    unfold b_X12_clauseHere_71
    by_cases y : C.length = 12
    · rw [if_pos y]
      obtain ⟨g2, e2, x2, u2⟩ := failK k1 4 (sk t n s.1) (blm_ne (by omega) (Or.inr (Or.inr rfl)))
      refine ⟨g2, ?_, (u1.tr u2).q.z, x2⟩
      rw [if_pos (by rw [y]; rfl), q_308, e2]
      rfl
    · rw [if_neg y] at hne ⊢
      have n12 : ¬ nI C.length = 12 := fun q => y ((nI_eq (b := 12) (by omega) (by decide)).mp q)
      obtain ⟨g2, eg2⟩ : ∃ g2, g2 = pI g1 308 14 (nI (C.length + 1)) := ⟨_, rfl⟩
      have o8 : ∀ j, j ≠ 14 → hI g2 308 j = hI g1 308 j := fun j hj => by rw [eg2, hI_eq, upd_ne _ _ hj]
      have oo : ∀ c, c ≠ 308 → hI g2 c = hI g1 c := fun c hc => by rw [eg2, hI_ne _ hc]
      have k2 : RRk g2 t n k (sk t n s.1, s.2) := k1.g (by rw [eg2]; exact k1.1.1.1) (fun j hj => o8 j (by omega)) (fun c hc => oo c (by omega))
      have z2 : FZ k g1 g2 := ⟨by rw [eg2]; exact Upd.pI (Or.inl rfl), fun j _ _ _ _ _ q _ => o8 j q, fun j _ => by rw [oo 311 (by decide)], fun j _ => by rw [oo 310 (by decide)], fun j _ => by rw [oo 312 (by decide)], fun j _ => by rw [oo 313 (by decide)]⟩
      have gs := gSt_sk (t := t) hp
      have ph2 : Ph (sk t n s.1, s.2) := by
        unfold Ph at ph ⊢
        show 3 * s.2.2.length ≤ 6 * s.2.1 + sk t n s.1
        omega
      have hne2 : gB (gSum t n (gSt t n (sk t n s.1, s.2))) (gS2 t n) ≠ none := by rw [gs]; exact hne
      have q312 : hI g2 312 = hI h 312 := by rw [oo 312 (by decide), u1.1.2.2.1 312 (by decide)]
      obtain ⟨g3, e3, z3, f14, x3⟩ := stayR hk (C := C) (by omega) k2 ss ph2 (by rw [oo 313 (by decide), u1.1.2.2.1 313 (by decide)]; exact c3) (by rw [q312]; exact c4) hne2
      rw [gs] at e3 x3
      have h14 : hI g3 308 14 = nI (C.length + 1) := by rw [f14, eg2, hI_eq, upd_at]
      refine ⟨g3, ?_, u1.q.z.tr (z2.tr z3), ?_⟩
      · rw [if_neg n12, q_308, p14, i1, aLet_e, ← eg2, if_pos rfl, e3, aBind_some]
        cases okR (gB (gSum t n (gSt t n s)) (gS2 t n)) with
        | true => rfl
        | false => rfl
      · cases q : gB (gSum t n (gSt t n s)) (gS2 t n) with
        | none => rw [q] at x3; exact x3
        | some v =>
          rw [q] at x3
          cases v with
          | inl f => exact x3
          | inr s2 =>
            obtain ⟨a1, a2, a3⟩ := x3
            rw [gRc_sk hp] at a3
            exact ⟨a1, by rw [h14, List.length_cons], by rw [a2, List.length_cons], a3, by rw [List.length_cons]; omega⟩
  · rw [if_neg o] at hne ⊢
    rw [if_neg o]
    obtain ⟨g2, e2, x2, u2⟩ := failK k1 0 (sk t n s.1) (blm_ne (by omega) (Or.inl rfl))
    refine ⟨g2, ?_, (u1.tr u2).q.z, x2⟩
    unfold b_X12_clauseHere_49
    rw [q_308, e2]
    rfl
/-! what holds of a rule that was read -/
def OKC (C : Cl) (L : List (Nat × Nat)) : Prop := ∀ x ∈ C, ∃ M N2 N1 L0, L = M ++ (N2 ++ (N1 ++ L0)) ∧ x = (L0.length, (N1 ++ L0).length, (N2 ++ (N1 ++ L0)).length) ∧ tyL N1 [] = some [false] ∧ (N2 = [] ∨ tyL N2 [] = some [true])
def bdL (L : List (Nat × Nat)) : Prop := ∀ x ∈ L, x.1 < 15 ∧ x.2 < 100000
theorem OKC.up {C : Cl} {L : List (Nat × Nat)} (h : OKC C L) (N : List (Nat × Nat)) : OKC C (N ++ L) := by
  intro x hx
  obtain ⟨M, N2, N1, L0, a, b⟩ := h x hx
  exact ⟨N ++ M, N2, N1, L0, by rw [a, List.append_assoc], b⟩
theorem clA_ok {t : Row} {n c : Nat} {s : GS} (hn : n ≤ 400) (hp : s.1 ≤ n) (hv : s.2.1 ≤ 60) (ph : Ph s) : gClA t n c s ≠ none ∧ ∀ s2, gClA t n c s = gK s2 → s2.1 ≤ n ∧ s2.2.1 ≤ 60 ∧ Ph s2 ∧ c ≠ 12 ∧ ∃ N1 N2, s2.2.2 = N2 ++ (N1 ++ s.2.2) ∧ gJ t n s = (N1 ++ s.2.2).length ∧ tyL N1 [] = some [false] ∧ (N2 = [] ∨ tyL N2 [] = some [true]) ∧ bdL N1 ∧ bdL N2 := by
  have sl := sk_le (t := t) hp
  have ll := lw_le (t := t) sl.2
  unfold gClA
  by_cases o : isH t n s.1 1937006969 = true
  · rw [if_pos o]
    by_cases y : c = 12
    · rw [if_pos y]
      exact ⟨fun q => gX_nn q, fun _ q => (gX_k q).elim⟩
    · rw [if_neg y]
      have phS : 3 * s.2.2.length + 3 * (0 + 0) + 0 ≤ 6 * s.2.1 + lw t n (sk t n s.1) := by unfold Ph at ph; omega
      obtain ⟨x1, x2⟩ := gd_sum (t := t) hn (gSt t n s) ll.2 [] 0 hv (Nat.zero_le _) phS
      cases q : gSum t n (gSt t n s) with
      | none => exact absurd q x1
      | some v =>
        cases v with
        | inl f => exact ⟨fun q => gX_nn q, fun _ q => (gX_k q).elim⟩
        | inr s1 =>
          obtain ⟨a1, a2, a3, a4, a5, a6, N1, a7, a8, a9⟩ := x2 s1 q
          have a6' : 3 * s1.2.2.length + 3 * (1 + 0) + 0 ≤ 6 * s1.2.1 + s1.1 := a6
          have a7' : s1.2.2 = N1 ++ s.2.2 := a7
          have j1 : gJ t n s = (N1 ++ s.2.2).length := by
            have : gJ t n s = s1.2.2.length := by unfold gJ; rw [q]
            rw [this, a7']
          have sl1 := sk_le (t := t) a2
          show gS2 t n s1 ≠ none ∧ ∀ s2, gS2 t n s1 = gK s2 → _
          unfold gS2
          by_cases oi : isH t n s1.1 26982 = true
          · rw [if_pos oi]
            have hl := isH_lt a2 oi
            obtain ⟨y1, y2⟩ := gd_ts hn (gd_f (t := t) hn 10) (lw t n (sk t n s1.1), s1.2) hl.2.1 [] 0 a4 (Nat.zero_le _) (by show 3 * s1.2.2.length + 3 * (0 + 0) + 0 ≤ 6 * s1.2.1 + lw t n (sk t n s1.1); omega)
            refine ⟨y1, fun s2 e => ?_⟩
            obtain ⟨b1, b2, b3, b4, b5, b6, N2, b7, b8, b9⟩ := y2 s2 e
            have b6' : 3 * s2.2.2.length + 3 * (1 + 0) + 0 ≤ 6 * s2.2.1 + s2.1 := b6
            have b7' : s2.2.2 = N2 ++ s1.2.2 := b7
            exact ⟨b2, b4, by unfold Ph; omega, y, N1, N2, by rw [b7', a7'], j1, a8, Or.inr b8, a9, b9⟩
          · rw [if_neg oi]
            refine ⟨fun q => gK_nn q, fun s2 e => ?_⟩
            have := gK_inj e
            subst this
            exact ⟨sl1.2, a4, by unfold Ph; show 3 * s1.2.2.length ≤ 6 * s1.2.1 + sk t n s1.1; omega, y, N1, [], a7', j1, a8, Or.inl rfl, a9, fun x hx => by cases hx⟩
  · rw [if_neg o]
    exact ⟨fun q => gX_nn q, fun _ q => (gX_k q).elim⟩
theorem OKC.cl {t : Row} {n : Nat} {s s2 : GS} {C : Cl} (h : OKC C s.2.2) {N1 N2 : List (Nat × Nat)} (a : s2.2.2 = N2 ++ (N1 ++ s.2.2)) (b : gJ t n s = (N1 ++ s.2.2).length) (c : tyL N1 [] = some [false]) (d : N2 = [] ∨ tyL N2 [] = some [true]) : OKC (gRc t n s s2 :: C) s2.2.2 := by
  intro x hx
  rcases List.mem_cons.mp hx with y | y
  · refine ⟨[], N2, N1, s.2.2, a, ?_, c, d⟩
    rw [y]
    unfold gRc
    rw [b, a]
  · have z := (h.up N1).up N2
    rw [← a] at z
    exact z x y
theorem bdL.cl {N1 N2 L : List (Nat × Nat)} (h : bdL L) (a : bdL N1) (b : bdL N2) : bdL (N2 ++ (N1 ++ L)) := by
  intro x hx
  rcases List.mem_append.mp hx with y | y
  · exact b x y
  · rcases List.mem_append.mp y with z | z
    · exact a x z
    · exact h x z
theorem rd_ok {t : Row} {n : Nat} (hn : n ≤ 400) : ∀ (m : Nat) (s : GS) (C : Cl), s.1 ≤ n → s.2.1 ≤ 60 → Ph s → 12 < m + C.length → C.length ≤ 12 → OKC C s.2.2 → bdL s.2.2 → ∃ v, gRd t n m s C = some v ∧ ∀ z, v = .inr z → OKC z.2 z.1.2.2 ∧ bdL z.1.2.2 := by
  intro m
  induction m with
  | zero => intro s C _ _ _ h1 h2; omega
  | succ m ih =>
    intro s C hp hv ph h1 h2 ok bd
    obtain ⟨x1, x2⟩ := clA_ok (t := t) (c := C.length) hn hp hv ph
    rw [gRd]
    cases q : gClA t n C.length s with
    | none => exact absurd q x1
    | some v =>
      cases v with
      | inl f => exact ⟨.inl f, rfl, fun z e => by cases e⟩
      | inr s2 =>
        obtain ⟨a1, a2, a3, a4, N1, N2, a5, a6, a7, a8, a9, a10⟩ := x2 s2 q
        have ok2 := OKC.cl (t := t) (n := n) ok a5 a6 a7 a8
        have bd2 : bdL s2.2.2 := by rw [a5]; exact bd.cl a9 a10
        have sl := sk_le (t := t) a1
        show ∃ v, (if bya t n (sk t n s2.1) = 59 then gRd t n m (sk t n s2.1 + 1, s2.2) (gRc t n s s2 :: C) else some (gEd t n s2 (gRc t n s s2 :: C))) = some v ∧ _
        by_cases y : bya t n (sk t n s2.1) = 59
        · rw [if_pos y]
          have hq := bya_c y (by decide)
          exact ih (sk t n s2.1 + 1, s2.2) (gRc t n s s2 :: C) (by show sk t n s2.1 + 1 ≤ n; omega) a2 (by unfold Ph at a3 ⊢; show 3 * s2.2.2.length ≤ 6 * s2.2.1 + (sk t n s2.1 + 1); omega) (by rw [List.length_cons]; omega) (by rw [List.length_cons]; omega) ok2 bd2
        · rw [if_neg y]
          refine ⟨_, rfl, fun z e => ?_⟩
          unfold gEd at e
          by_cases w : bya t n (sk t n s2.1) = -1
          · rw [if_pos w] at e
            injection e with e
            subst e
            exact ⟨ok2, bd2⟩
          · rw [if_neg w] at e
            cases e
/-! the loop -/
def FZ1 (k : Nat) (h h' : aH) : Prop := Upd zA h h' ∧ (∀ j, j ≠ 1 → j ≠ 8 → j ≠ 9 → j ≠ 10 → j ≠ 12 → j ≠ 13 → j ≠ 14 → j ≠ 16 → hI h' 308 j = hI h 308 j) ∧ (∀ j, j ≠ k → hI h' 311 j = hI h 311 j) ∧ (∀ j, j < 400 * k ∨ 400 * k + 400 ≤ j → hI h' 310 j = hI h 310 j) ∧ (∀ j, j < 48 * k ∨ 48 * k + 48 ≤ j → hI h' 312 j = hI h 312 j) ∧ (∀ j, j ≠ k → hI h' 313 j = hI h 313 j)
theorem FZ.o {k : Nat} {a b : aH} (x : FZ k a b) : FZ1 k a b := ⟨x.1, fun j _ p q r s u v w => x.2.1 j p q r s u v w, x.2.2⟩
theorem FZ1.tr {k : Nat} {a b c : aH} (x : FZ1 k a b) (y : FZ1 k b c) : FZ1 k a c := ⟨x.1.tr y.1, fun j o p q r s u v w => (y.2.1 j o p q r s u v w).trans (x.2.1 j o p q r s u v w), fun j p => (y.2.2.1 j p).trans (x.2.2.1 j p), fun j p => (y.2.2.2.1 j p).trans (x.2.2.2.1 j p), fun j p => (y.2.2.2.2.1 j p).trans (x.2.2.2.2.1 j p), fun j p => (y.2.2.2.2.2 j p).trans (x.2.2.2.2.2 j p)⟩
theorem FZ1.p {k : Nat} {h : aH} : FZ1 k h (pI h 308 1 0) := ⟨Upd.pI (Or.inl rfl), fun j o _ _ _ _ _ _ _ => by rw [hI_eq, upd_ne _ _ o], fun j _ => by rw [hI_ne _ (by decide)], fun j _ => by rw [hI_ne _ (by decide)], fun j _ => by rw [hI_ne _ (by decide)], fun j _ => by rw [hI_ne _ (by decide)]⟩
def RF (h : aH) (k : Nat) (L : List (Nat × Nat)) (C : Cl) : Prop := L.length ≤ 256 ∧ hI h 311 k = nI L.length ∧ SR (fun i => hI h 310 (400 * k + i)) L ∧ hI h 313 k = nI C.length ∧ RCl (fun i => hI h 312 (48 * k + i)) C ∧ C.length ≤ 12
def REn (h : aH) (k : Nat) (v : Sum Int32 (GS × Cl)) : Prop := match v with
  | .inl f => hI h 308 9 = f
  | .inr z => RF h k z.1.2.2 z.2
def isRv (v : Sum Int32 (GS × Cl)) : Bool := match v with
  | .inl _ => false
  | .inr _ => true
theorem r88X {h : aH} {t : Row} {n k : Nat} {f : Int32} (c : RRx h t n f) : ∃ h', b_X12_readsAll_88 h 308 = some (0, h') ∧ FZ1 k h h' ∧ hI h' 308 1 = 0 ∧ hI h' 308 9 = f := by
  obtain ⟨f0, p, ct⟩ := c
  have e9 : hI (pI h 308 1 0) 308 9 = f := by rw [hI_eq, upd_ne _ _ (by decide)]; exact ct.2.2.2
  refine ⟨pI h 308 1 0, ?_, FZ1.p, by rw [hI_eq, upd_at], e9⟩
  simp only [b_X12_readsAll_88, q_308, aLet, e9, if_neg f0]
theorem r88K {h : aH} {t : Row} {n k : Nat} {s : GS} {C : Cl} (c : RQ h t n k s C) : ∃ h', b_X12_readsAll_88 h 308 = some (1, h') ∧ FZ1 k h h' ∧ hI h' 308 1 = 0 ∧ RF h' k s.2.2 C := by
  obtain ⟨c1, c2, c3, c4, c5⟩ := c
  have e9 : hI (pI h 308 1 0) 308 9 = 0 := by rw [hI_eq, upd_ne _ _ (by decide)]; exact c1.1.2.2.2
  refine ⟨pI h 308 1 0, ?_, FZ1.p, by rw [hI_eq, upd_at], c1.2.2.2.2.1, ?_, ?_, ?_, ?_, c5⟩
  · simp only [b_X12_readsAll_88, q_308, aLet, e9, if_true]
  · rw [hI_ne _ (by decide)]; exact c1.2.2.2.2.2.1
  · rw [hI_ne _ (by decide)]; exact c1.2.2.2.2.2.2
  · rw [hI_ne _ (by decide)]; exact c3
  · rw [hI_ne _ (by decide)]; exact c4
theorem RQ.p {h : aH} {t : Row} {n k : Nat} {s : GS} {C : Cl} (c : RQ h t n k s C) {q : Nat} (hq : q ≤ n) : RQ (rP h q) t n k (q, s.2) C := by
  obtain ⟨c1, c2, c3, c4, c5⟩ := c
  exact ⟨c1.p hq, by rw [rS_j _ _ _ _ (by decide) (by decide)]; exact c2, by rw [rS_o _ _ _ _ (by decide)]; exact c3, by rw [rS_o _ _ _ _ (by decide)]; exact c4, c5⟩
theorem loopRR {t : Row} {n k : Nat} (hk : k < 6) : ∀ (M : Nat) (h : aH) (s : GS) (C : Cl) (K : Nat) (v : Sum Int32 (GS × Cl)), RQ h t n k s C → Ph s → M < K → gRd t n M s C = some v → ∃ h', (aBind (f_X12_clauseHere h 308) fun r30 h31 => f_X12_readsAll_35 K h31 308 r30) = some (bB (isRv v), h') ∧ FZ1 k h h' ∧ hI h' 308 1 = 0 ∧ REn h' k v := by
  intro M
  induction M with
  | zero => intro h s C K v _ _ _ e; cases e
  | succ M ih =>
    intro h s C K v c ph hK e
    obtain ⟨K', rfl⟩ : ∃ K', K = K' + 1 := ⟨K - 1, by omega⟩
    have hn := c.1.1.1.2.2.1
    have hne : gClA t n C.length s ≠ none := fun y => by rw [gRd, y] at e; cases e
    obtain ⟨g2, e2, z2, x2⟩ := clauseRR hk c ph hne
    obtain ⟨_, pure2⟩ := clA_ok (t := t) (c := C.length) hn c.1.1.2.1 c.1.2.1 ph
    rw [gRd] at e
    rw [e2, aBind_some]
    cases q : gClA t n C.length s with
    | none => exact absurd q hne
    | some w =>
      rw [q] at e x2
      cases w with
      | inl f =>
        have e' : some (Sum.inl f) = some v := e
        injection e' with e'
        subst e'
        obtain ⟨g3, e3, z3, a1, a9⟩ := r88X (k := k) (show RRx g2 t n f from x2)
        refine ⟨g3, ?_, z2.o.tr z3, a1, a9⟩
        show b_X12_readsAll_35 (f_X12_readsAll_35 K') g2 308 0 = _
        simp only [b_X12_readsAll_35, if_true, b_X12_readsAll_66, e3]
        rfl
      | inr s2 =>
        have x2' : RQ g2 t n k s2 (gRc t n s s2 :: C) := x2
        obtain ⟨p1, p2, p3, _⟩ := pure2 s2 q
        have sl := sk_le (t := t) p1
        have ss := sk_sk (t := t) p1
        have se := seeT x2'.1
        obtain ⟨g3, eg3⟩ : ∃ g3, g3 = rP g2 (sk t n s2.1) := ⟨_, rfl⟩
        have c3 : RQ g3 t n k (sk t n s2.1, s2.2) (gRc t n s s2 :: C) := by rw [eg3]; exact x2'.p sl.2
        have u3 : FS k g2 g3 := by rw [eg3]; exact FS.p
        rw [← eg3] at se
        have p8 : hI g3 308 8 = nI (sk t n s2.1) := c3.1.1.2.2.1
        have e' : (if bya t n (sk t n s2.1) = 59 then gRd t n M (sk t n s2.1 + 1, s2.2) (gRc t n s s2 :: C) else some (gEd t n s2 (gRc t n s s2 :: C))) = some v := e
        show ∃ h', f_X12_readsAll_35 (K' + 1) g2 308 1 = _ ∧ _
        by_cases y : bya t n (sk t n s2.1) = 59
        · rw [if_pos y] at e'
          have hq := bya_c y (by decide)
          have pp := c3.1.pp (sk t n s2.1 + 1)
          have c4 : RQ (rP g3 (sk t n s2.1 + 1)) t n k (sk t n s2.1 + 1, s2.2) (gRc t n s s2 :: C) := c3.p (q := sk t n s2.1 + 1) (by omega)
          obtain ⟨g4, e4, z4, a1, a9⟩ := ih _ _ _ K' v c4 (by unfold Ph at p3 ⊢; show 3 * s2.2.2.length ≤ 6 * s2.2.1 + (sk t n s2.1 + 1); omega) (by omega) e'
          refine ⟨g4, ?_, z2.o.tr (u3.q.z.o.tr ((FS.p.q.z.o).tr z4)), a1, a9⟩
          rw [← e4]
          show b_X12_readsAll_35 (f_X12_readsAll_35 K') g2 308 1 = _
          simp only [b_X12_readsAll_35, if_neg (show ¬ (1 : Int32) = 0 by decide), q_308, se, aBind_some, if_pos y, p8, i1, aLet, pp]
        · rw [if_neg y] at e'
          injection e' with e'
          have se3 := seeS c3.1 ss
          have se3' : f_X12_see g3 308 = some (bya t n (sk t n s2.1), g3) := se3
          unfold gEd at e'
          by_cases w : bya t n (sk t n s2.1) = -1
          · rw [if_pos w] at e'
            subst e'
            obtain ⟨g4, e4, z4, a1, a9⟩ := r88K c3
            refine ⟨g4, ?_, z2.o.tr (u3.q.z.o.tr z4), a1, a9⟩
            show b_X12_readsAll_35 (f_X12_readsAll_35 K') g2 308 1 = _
            simp only [b_X12_readsAll_35, if_neg (show ¬ (1 : Int32) = 0 by decide), q_308, se, aBind_some, if_neg y, b_X12_readsAll_66, se3', if_pos w, e4]
            rfl
          · rw [if_neg w] at e'
            subst e'
            obtain ⟨g4, e4, x4, u4⟩ := failK c3.1 0 (sk t n s2.1) (blm_ne (by omega) (Or.inl rfl))
            obtain ⟨g5, e5, z5, a1, a9⟩ := r88X (k := k) x4
            refine ⟨g5, ?_, z2.o.tr (u3.q.z.o.tr (u4.q.z.o.tr z5)), a1, a9⟩
            show b_X12_readsAll_35 (f_X12_readsAll_35 K') g2 308 1 = _
            simp only [b_X12_readsAll_35, if_neg (show ¬ (1 : Int32) = 0 by decide), q_308, se, aBind_some, if_neg y, b_X12_readsAll_66, se3', if_neg w, p8, e4, e5]
            rfl
theorem readsAllK {h : aH} {t : Row} {n k : Nat} (hk : k < 6) (b : TRB h (hI h 308) t n) (e11 : hI h 308 11 = nI k) (e3 : hI h 313 k = 0) {v : Sum Int32 (GS × Cl)} (e : gRd t n 14 (0, 0, []) [] = some v) : ∃ h', f_X12_readsAll h 308 = some (bB (isRv v), h') ∧ FZ1 k h h' ∧ hI h' 308 1 = 0 ∧ REn h' k v := by
  obtain ⟨g, eg⟩ : ∃ g, g = pI (pI (pI (pI (pI h 311 k 0) 308 14 0) 308 8 0) 308 9 0) 308 12 0 := ⟨_, rfl⟩
  have Sg : Str g := by rw [eg]; exact b.1
  have g308 : hI g 308 = upd (upd (upd (upd (hI h 308) 14 0) 8 0) 9 0) 12 0 := by rw [eg, hI_eq, hI_eq, hI_eq, hI_eq, hI_ne _ (by decide)]
  have go : ∀ c, c ≠ 308 → c ≠ 311 → hI g c = hI h c := fun c h1 h2 => by rw [eg, hI_ne _ h1, hI_ne _ h1, hI_ne _ h1, hI_ne _ h1, hI_ne _ h2]
  have g311 : hI g 311 = upd (hI h 311) k 0 := by rw [eg, hI_ne _ (by decide), hI_ne _ (by decide), hI_ne _ (by decide), hI_ne _ (by decide), hI_eq]
  have ug : FZ1 k h g := by
    refine ⟨?_, fun j _ p q _ r _ s _ => by rw [g308, upd_ne _ _ r, upd_ne _ _ q, upd_ne _ _ p, upd_ne _ _ s], fun j hj => by rw [g311, upd_ne _ _ hj], fun j _ => by rw [go 310 (by decide) (by decide)], fun j _ => by rw [go 312 (by decide) (by decide)], fun j _ => by rw [go 313 (by decide) (by decide)]⟩
    rw [eg]
    exact ((((Upd.pI (Or.inr (Or.inr (Or.inl rfl)))).tr (Upd.pI (Or.inl rfl))).tr (Upd.pI (Or.inl rfl))).tr (Upd.pI (Or.inl rfl))).tr (Upd.pI (Or.inl rfl))
  have rt : RT g t n 0 0 := by
    refine ⟨⟨Sg, ?_, b.2.2.1, fun j hj => ?_⟩, by omega, ?_, ?_⟩
    · rw [g308, upd_ne _ _ (by decide), upd_ne _ _ (by decide), upd_ne _ _ (by decide), upd_ne _ _ (by decide)]; exact b.2.1
    · rw [go 309 (by decide) (by decide)]; exact b.2.2.2 j hj
    · rw [g308, upd_ne _ _ (by decide), upd_ne _ _ (by decide), upd_at]; rfl
    · rw [g308, upd_ne _ _ (by decide), upd_at]
  have rq : RQ g t n k (0, 0, []) [] := by
    refine ⟨⟨rt, by decide, ?_, ?_, by decide, ?_, True.intro⟩, ?_, ?_, True.intro, by decide⟩
    · rw [g308, upd_at]; rfl
    · rw [g308, upd_ne _ _ (by decide), upd_ne _ _ (by decide), upd_ne _ _ (by decide), upd_ne _ _ (by decide)]; exact e11
    · rw [g311, upd_at]; rfl
    · rw [g308, upd_ne _ _ (by decide), upd_ne _ _ (by decide), upd_ne _ _ (by decide), upd_at]; rfl
    · rw [go 313 (by decide) (by decide)]; exact e3
  obtain ⟨h', x1, x2, x3, x4⟩ := loopRR hk 14 g (0, 0, []) [] 2000 v rq (by unfold Ph; decide) (by omega) e
  refine ⟨h', ?_, ug.tr x2, x3, x4⟩
  unfold f_X12_readsAll
  rw [q_308, r_308_4 b.1, Option.bind_some, aLet_e, e11, q_311, if_pos (in_311 (show k < 7 by omega)), aLet_e, aLet_e, aLet_e, aLet_e, aLet_e, nI_clamp (show k < 2 ^ 31 by omega), ← eg]
  exact x1
