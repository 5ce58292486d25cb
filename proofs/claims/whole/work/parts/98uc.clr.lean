/-! ===== rule: the reference's clauses ===== -/
def RCl (g : Row) : Cl → Prop
  | [] => True
  | x :: r => (g (4 * r.length) = nI x.1 ∧ g (4 * r.length + 1) = nI x.2.1 ∧ g (4 * r.length + 2) = (if x.2.1 = x.2.2 then -1 else nI x.2.1) ∧ g (4 * r.length + 3) = nI x.2.2) ∧ RCl g r
theorem RCl.up {g h : Row} {i : Nat} (e : ∀ j, j < 4 * i → h j = g j) : ∀ {L : Cl}, L.length ≤ i → RCl g L → RCl h L := by
  intro L
  induction L with
  | nil => intro _ _; exact True.intro
  | cons z r ih =>
    intro hl c
    rw [List.length_cons] at hl
    exact ⟨by rw [e _ (by omega), e _ (by omega), e _ (by omega), e _ (by omega)]; exact c.1, ih (by omega) c.2⟩
theorem RRk.g {h h' : aH} {t : Row} {n k : Nat} {s : GS} (c : RRk h t n k s) (S : Str h') (e8 : ∀ j, (j = 1 ∨ j = 8 ∨ j = 9 ∨ j = 11 ∨ j = 12) → hI h' 308 j = hI h 308 j) (e : ∀ c, c = 309 ∨ c = 310 ∨ c = 311 → hI h' c = hI h c) : RRk h' t n k s := by
  obtain ⟨c1, c2, c3, c4, c5, c6, c7⟩ := c
  refine ⟨⟨⟨S, ?_, c1.1.2.2.1, ?_⟩, c1.2.1, ?_, ?_⟩, c2, ?_, ?_, c5, ?_, ?_⟩
  · rw [e8 1 (by omega)]; exact c1.1.2.1
  · rw [e 309 (by omega)]; exact c1.1.2.2.2
  · rw [e8 8 (by omega)]; exact c1.2.2.1
  · rw [e8 9 (by omega)]; exact c1.2.2.2
  · rw [e8 12 (by omega)]; exact c3
  · rw [e8 11 (by omega)]; exact c4
  · rw [e 311 (by omega)]; exact c6
  · rw [e 310 (by omega)]; exact c7
abbrev zA : Nat → Prop := fun c => c = 308 ∨ c = 310 ∨ c = 311 ∨ c = 312 ∨ c = 313 ∨ c = 315
def FZ (k : Nat) (h h' : aH) : Prop := Upd zA h h' ∧ (∀ j, j ≠ 8 → j ≠ 9 → j ≠ 10 → j ≠ 12 → j ≠ 13 → j ≠ 14 → j ≠ 16 → hI h' 308 j = hI h 308 j) ∧ (∀ j, j ≠ k → hI h' 311 j = hI h 311 j) ∧ (∀ j, j < 400 * k ∨ 400 * k + 400 ≤ j → hI h' 310 j = hI h 310 j) ∧ (∀ j, j < 48 * k ∨ 48 * k + 48 ≤ j → hI h' 312 j = hI h 312 j) ∧ (∀ j, j ≠ k → hI h' 313 j = hI h 313 j)
theorem FZ.rf {k : Nat} (h : aH) : FZ k h h := ⟨Upd.rf h, fun _ _ _ _ _ _ _ _ => rfl, fun _ _ => rfl, fun _ _ => rfl, fun _ _ => rfl, fun _ _ => rfl⟩
theorem FZ.tr {k : Nat} {a b c : aH} (x : FZ k a b) (y : FZ k b c) : FZ k a c := ⟨x.1.tr y.1, fun j p q r s u v w => (y.2.1 j p q r s u v w).trans (x.2.1 j p q r s u v w), fun j p => (y.2.2.1 j p).trans (x.2.2.1 j p), fun j p => (y.2.2.2.1 j p).trans (x.2.2.2.1 j p), fun j p => (y.2.2.2.2.1 j p).trans (x.2.2.2.2.1 j p), fun j p => (y.2.2.2.2.2 j p).trans (x.2.2.2.2.2 j p)⟩
theorem FQ.z {k : Nat} {a b : aH} (x : FQ k a b) : FZ k a b := ⟨x.1.mono (fun c y => by unfold zA; omega), fun j p q r s u _ w => x.2.1 j p q r s u w, x.2.2.1, x.2.2.2, fun j _ => by rw [x.1.2.2.1 312 (by decide)], fun j _ => by rw [x.1.2.2.1 313 (by decide)]⟩
theorem FZ.c {k : Nat} {h : aH} {i : Nat} {x : Int32} (hi : 48 * k ≤ i) (hi2 : i < 48 * k + 48) : FZ k h (pI h 312 i x) := ⟨Upd.pI (Or.inr (Or.inr (Or.inr (Or.inl rfl)))), fun j _ _ _ _ _ _ _ => by rw [hI_ne _ (by decide)], fun j _ => by rw [hI_ne _ (by decide)], fun j _ => by rw [hI_ne _ (by decide)], fun j hj => by rw [hI_eq, upd_ne _ _ (by omega)], fun j _ => by rw [hI_ne _ (by decide)]⟩
theorem FZ.d {k : Nat} {h : aH} {x : Int32} : FZ k h (pI h 313 k x) := ⟨Upd.pI (Or.inr (Or.inr (Or.inr (Or.inr (Or.inl rfl))))), fun j _ _ _ _ _ _ _ => by rw [hI_ne _ (by decide)], fun j _ => by rw [hI_ne _ (by decide)], fun j _ => by rw [hI_ne _ (by decide)], fun j _ => by rw [hI_ne _ (by decide)], fun j hj => by rw [hI_eq, upd_ne _ _ hj]⟩
theorem RRk.c {h : aH} {t : Row} {n k : Nat} {s : GS} (c : RRk h t n k s) {i : Nat} {x : Int32} : RRk (pI h 312 i x) t n k s := c.g c.1.1.1 (fun j _ => by rw [hI_ne _ (by decide)]) (fun c hc => by rw [hI_ne _ (by omega)])
def RQ (h : aH) (t : Row) (n k : Nat) (s : GS) (C : Cl) : Prop := RRk h t n k s ∧ hI h 308 14 = nI C.length ∧ hI h 313 k = nI C.length ∧ RCl (fun i => hI h 312 (48 * k + i)) C ∧ C.length ≤ 12
theorem in_312 {k : Nat} (h : k < 288) : aIn (nI k) (sh 312).2 := by rw [sh_312]; exact vp_in_nI h (by decide)
theorem in_313 {k : Nat} (h : k < 6) : aIn (nI k) (sh 313).2 := by rw [sh_313]; exact vp_in_nI h (by decide)
theorem r110 {h : aH} {t : Row} {n k c : Nat} {s : GS} (hk : k < 6) (hc : c < 12) (r : RRk h t n k s) (e3 : hI h 313 k = nI c) : b_X12_isStayHere_110 h 308 (nI (48 * k + 4 * c)) = some (1, pI (pI h 312 (48 * k + 4 * c + 3) (nI s.2.2.length)) 313 k (nI (c + 1))) := by
  have S := r.1.1.1
  have e11 := r.2.2.2.1
  have l := r.2.2.2.2.2.1
  have e0 : nI (48 * k + 4 * c) + 3 = nI (48 * k + 4 * c + 3) := nI_add _ 3
  simp only [b_X12_isStayHere_110, q_308, r_308_5 S, r_308_4 S, Option.bind_some, aLet, e11, q_311, if_pos (in_311 (show k < 7 by omega)), nI_clamp (show k < 2 ^ 31 by omega), e0, q_312, if_pos (in_312 (show 48 * k + 4 * c + 3 < 288 by omega)), nI_clamp (show 48 * k + 4 * c + 3 < 2 ^ 31 by omega), l, hR_pI, r_308_6 S, hI_ne _ (show (308 : Nat) ≠ 312 by decide), q_313, if_pos (in_313 hk), hI_ne _ (show (313 : Nat) ≠ 312 by decide), e3, i1]
theorem takesT {h : aH} {t : Row} {n k : Nat} {s : GS} (c : RRk h t n k s) : f_X12_takesWord h 308 26982 = if isH t n s.1 26982 = true then some (1, rP h (lw t n (sk t n s.1))) else some (0, rP h (sk t n s.1)) := by
  have x := takesWordR c.1.1 c.1.2.1 0 (w := 26982) (by decide)
  rw [c.1.e] at x
  exact x
def Ph (s : GS) : Prop := 3 * s.2.2.length ≤ 6 * s.2.1 + s.1
theorem ts_pos {t : Row} {n : Nat} (hn : n ≤ 400) {s s' : GS} (hp : s.1 ≤ n) (hv : s.2.1 ≤ 60) (ph : Ph s) (e : gTs t n (gF t n 10) s = gK s') : s.2.2.length < s'.2.2.length := by
  obtain ⟨_, x⟩ := gd_ts hn (gd_f (t := t) hn 10) s hp [] 0 hv (Nat.zero_le _) (by show 3 * s.2.2.length + 3 * (0 + 0) + 0 ≤ _; unfold Ph at ph; omega)
  obtain ⟨_, _, _, _, _, _, N, a, b, _⟩ := x s' e
  rw [a, List.length_append]
  cases N with
  | nil => exact absurd b (by decide)
  | cons z r => rw [List.length_cons]; omega
theorem ph_sum {t : Row} {n : Nat} (hn : n ≤ 400) {s s' : GS} (hp : s.1 ≤ n) (hv : s.2.1 ≤ 60) (ph : Ph s) (e : gSum t n s = gK s') : Ph s' := by
  obtain ⟨_, x⟩ := gd_sum (t := t) hn s hp [] 0 hv (Nat.zero_le _) (by show 3 * s.2.2.length + 3 * (0 + 0) + 0 ≤ _; unfold Ph at ph; omega)
  obtain ⟨_, _, _, _, _, b, _⟩ := x s' e
  have b' : 3 * s'.2.2.length + 3 * (1 + 0) + 0 ≤ 6 * s'.2.1 + s'.1 := b
  unfold Ph; omega
theorem stayR {h : aH} {t : Row} {n k : Nat} {s : GS} {C : Cl} (hk : k < 6) (hc : C.length < 12) (c : RRk h t n k s) (ss : sk t n s.1 = s.1) (ph : Ph s) (e3 : hI h 313 k = nI C.length) (rc : RCl (fun i => hI h 312 (48 * k + i)) C) (hne : gB (gSum t n (gSt t n s)) (gS2 t n) ≠ none) : ∃ h', f_X12_isStayHere h 308 = some (bB (okR (gB (gSum t n (gSt t n s)) (gS2 t n))), h') ∧ FZ k h h' ∧ hI h' 308 14 = hI h 308 14 ∧ (match gB (gSum t n (gSt t n s)) (gS2 t n) with
    | none => False
    | some (.inl f) => RRx h' t n f
    | some (.inr s2) => RRk h' t n k s2 ∧ hI h' 313 k = nI (C.length + 1) ∧ RCl (fun i => hI h' 312 (48 * k + i)) (gRc t n s s2 :: C)) := by
  have hn := c.1.1.2.2.1
  have hp := c.1.2.1
  have hv := c.2.1
  have ll := lw_le (t := t) hp
  have ps := passK c
  obtain ⟨B, eB⟩ : ∃ B, B = 48 * k + 4 * C.length := ⟨_, rfl⟩
  obtain ⟨g1, eg1⟩ : ∃ g1, g1 = rP h (lw t n s.1) := ⟨_, rfl⟩
  have eSt : gSt t n s = (lw t n s.1, s.2) := by unfold gSt; rw [ss]
  have c1 : RRk g1 t n k (gSt t n s) := by rw [eg1, eSt]; exact c.p ll.2
  have u1 : FS k h g1 := by rw [eg1]; exact FS.p
  rw [← eg1] at ps
  have S1 := c1.1.1.1
  have f3 : hI g1 313 k = nI C.length := by rw [u1.1.2.2.1 313 (by decide)]; exact e3
  have f11 := c1.2.2.2.1
  have fl : hI g1 311 k = nI s.2.2.length := c1.2.2.2.2.2.1
  have x48 : (48 : Int32) * nI k = nI (48 * k) := pk_mul 48 k
  have x4 : (4 : Int32) * nI C.length = nI (4 * C.length) := pk_mul 4 _
  have xB : nI (48 * k) + nI (4 * C.length) = nI B := by rw [nI_add, eB]
  obtain ⟨g2, eg2⟩ : ∃ g2, g2 = pI g1 312 B (nI s.2.2.length) := ⟨_, rfl⟩
  have c2 : RRk g2 t n k (gSt t n s) := by rw [eg2]; exact c1.c
  have z2 : FZ k h g2 := by rw [eg2]; exact u1.q.z.tr (FZ.c (by omega) (by omega))
  have hS : (gSt t n s).1 ≤ n := by rw [eSt]; exact ll.2
  have phS : Ph (gSt t n s) := by
    rw [eSt]
    unfold Ph at ph ⊢
    show 3 * s.2.2.length ≤ 6 * s.2.1 + lw t n s.1
    omega
  obtain ⟨g3, e3', c3, u3⟩ := sumRu hk c2 (gB_n hne)
  have code1 : f_X12_isStayHere h 308 = aBind (f_X12_sum g2 308) (fun r34 h35 => if r34 = 0 then some (0, h35) else ((hR h35 308 5).bind fun b36 => ((hR h35 308 4).bind fun b37 => (aLet (hI h35 308 11) fun x38 => (if (sh b37).1 = 0 then (if aIn x38 (sh b37).2 then (aLet (nI B + 1) fun x40 => (if (sh b36).1 = 0 then (if aIn x40 (sh b36).2 then (aLet (pI h35 b36 x40.toNatClampNeg (hI h35 b37 x38.toNatClampNeg)) fun h42 => ((hR h42 308 5).bind fun b43 => (aLet (nI B + 2) fun x44 => (if (sh b43).1 = 0 then (if aIn x44 (sh b43).2 then (aLet (pI h42 b43 x44.toNatClampNeg (-1)) fun h46 => (aBind (f_X12_takesWord h46 308 26982) fun r47 h48 => (if r47 = 0 then b_X12_isStayHere_110 h48 308 (nI B) else ((hR h48 308 5).bind fun b49 => ((hR h48 308 4).bind fun b50 => (aLet (hI h48 308 11) fun x51 => (if (sh b50).1 = 0 then (if aIn x51 (sh b50).2 then (aLet (nI B + 2) fun x53 => (if (sh b49).1 = 0 then (if aIn x53 (sh b49).2 then (aLet (pI h48 b49 x53.toNatClampNeg (hI h48 b50 x51.toNatClampNeg)) fun h55 => (aBind (f_X12_tested h55 308) fun r56 h57 => (if r56 = 0 then some (0, h57) else b_X12_isStayHere_110 h57 308 (nI B)))) else none) else none)) else none) else none))))))) else none) else none)))) else none) else none)) else none) else none))))) := by
    unfold f_X12_isStayHere
    rw [q_308, ps, aBind_some, r_308_6 S1, Option.bind_some, aLet_e, f11, q_313, if_pos (in_313 hk), nI_clamp (show k < 2 ^ 31 by omega), f3, x48, x4, xB, aLet_e, r_308_5 S1, Option.bind_some, r_308_4 S1, Option.bind_some, aLet_e, q_311, if_pos (in_311 (show k < 7 by omega)), q_312, if_pos (in_312 (show B < 288 by omega)), nI_clamp (show B < 2 ^ 31 by omega), nI_clamp (show k < 2 ^ 31 by omega), fl, aLet_e, ← eg2]
  rw [code1]
  cases q : gSum t n (gSt t n s) with
  | none => rw [q] at c3; exact c3.elim
  | some v =>
    rw [q] at c3 e3' hne
    rw [e3', aBind_some]
    cases v with
    | inl f => exact ⟨g3, rfl, z2.tr u3.q.z, by rw [u3.2.1 14 (by decide) (by decide) (by decide) (by decide), eg2, hI_ne _ (by decide), u1.2.1 14 (by decide) (by decide) (by decide) (by decide)], c3⟩
    | inr s1 =>
      have c3' : RRk g3 t n k s1 := c3
      have hne1 : gS2 t n s1 ≠ none := hne
      rw [if_neg (bB_t s1)]
      show ∃ h', _ = some (bB (okR (gS2 t n s1)), h') ∧ _ ∧ _ ∧ (match gS2 t n s1 with
        | none => False
        | some (.inl f) => RRx h' t n f
        | some (.inr s2) => RRk h' t n k s2 ∧ hI h' 313 k = nI (C.length + 1) ∧ RCl (fun i => hI h' 312 (48 * k + i)) (gRc t n s s2 :: C))
      have S3 := c3'.1.1.1
      have g11 := c3'.2.2.2.1
      have gl : hI g3 311 k = nI s1.2.2.length := c3'.2.2.2.2.2.1
      have j1 : gJ t n s = s1.2.2.length := by unfold gJ; rw [q]
      have b1 : nI B + 1 = nI (B + 1) := nI_add B 1
      have b2 : nI B + 2 = nI (B + 2) := nI_add B 2
      obtain ⟨g4, eg4⟩ : ∃ g4, g4 = pI (pI g3 312 (B + 1) (nI s1.2.2.length)) 312 (B + 2) (-1) := ⟨_, rfl⟩
      have c4 : RRk g4 t n k s1 := by rw [eg4]; exact c3'.c.c
      have z4 : FZ k h g4 := by rw [eg4]; exact z2.tr (u3.q.z.tr ((FZ.c (by omega) (by omega)).tr (FZ.c (by omega) (by omega))))
      have o14 : hI g4 308 14 = hI h 308 14 := by rw [eg4, hI_ne _ (by decide), hI_ne _ (by decide), u3.2.1 14 (by decide) (by decide) (by decide) (by decide), eg2, hI_ne _ (by decide), u1.2.1 14 (by decide) (by decide) (by decide) (by decide)]
      have o312 : hI g4 312 = upd (upd (upd (hI h 312) B (nI s.2.2.length)) (B + 1) (nI s1.2.2.length)) (B + 2) (-1) := by rw [eg4, hI_eq, hI_eq, u3.1.2.2.1 312 (by decide), eg2, hI_eq, u1.1.2.2.1 312 (by decide)]
      have o313 : hI g4 313 k = nI C.length := by rw [eg4, hI_ne _ (by decide), hI_ne _ (by decide), u3.1.2.2.1 313 (by decide), eg2, hI_ne _ (by decide)]; exact f3
      have tk := takesT c4
      rw [r_308_5 S3, Option.bind_some, r_308_4 S3, Option.bind_some, aLet_e, g11, q_311, if_pos (in_311 (show k < 7 by omega)), aLet_e, b1, q_312, if_pos (in_312 (show B + 1 < 288 by omega)), nI_clamp (show B + 1 < 2 ^ 31 by omega), nI_clamp (show k < 2 ^ 31 by omega), gl, aLet_e, hR_pI, r_308_5 S3, Option.bind_some, aLet_e, b2, q_312, if_pos (in_312 (show B + 2 < 288 by omega)), nI_clamp (show B + 2 < 2 ^ 31 by omega), aLet_e, ← eg4, tk]
      -- the row of clauses at the end
      have fin : ∀ (h' : aH) (x2 : Int32) (s2 : GS), hI h' 312 = upd (upd (upd (upd (hI h 312) B (nI s.2.2.length)) (B + 1) (nI s1.2.2.length)) (B + 2) x2) (B + 3) (nI s2.2.2.length) → x2 = (if s1.2.2.length = s2.2.2.length then -1 else nI s1.2.2.length) → RCl (fun i => hI h' 312 (48 * k + i)) (gRc t n s s2 :: C) := fun h' x2 s2 e1 e2 => by
        refine ⟨⟨?_, ?_, ?_, ?_⟩, RCl.up (i := C.length) (fun j hj => ?_) (Nat.le_refl _) rc⟩
        · show hI h' 312 (48 * k + 4 * C.length) = _
          rw [e1, ← eB, upd_ne _ _ (by omega), upd_ne _ _ (by omega), upd_ne _ _ (by omega), upd_at]; rfl
        · show hI h' 312 (48 * k + (4 * C.length + 1)) = nI (gJ t n s)
          rw [e1, show 48 * k + (4 * C.length + 1) = B + 1 by omega, upd_ne _ _ (by omega), upd_ne _ _ (by omega), upd_at, j1]
        · show hI h' 312 (48 * k + (4 * C.length + 2)) = if gJ t n s = s2.2.2.length then -1 else nI (gJ t n s)
          rw [e1, show 48 * k + (4 * C.length + 2) = B + 2 by omega, upd_ne _ _ (by omega), upd_at, j1, e2]
        · show hI h' 312 (48 * k + (4 * C.length + 3)) = _
          rw [e1, show 48 * k + (4 * C.length + 3) = B + 3 by omega, upd_at]; rfl
        · show hI h' 312 (48 * k + j) = hI h 312 (48 * k + j)
          rw [e1, upd_ne _ _ (by omega), upd_ne _ _ (by omega), upd_ne _ _ (by omega), upd_ne _ _ (by omega)]
      have hp1 := c4.1.2.1
      have sl1 := sk_le (t := t) hp1
      unfold gS2 at hne1 ⊢
      by_cases oi : isH t n s1.1 26982 = true
      · have hl := isH_lt hp1 oi
        rw [if_pos oi] at hne1 ⊢
        rw [if_pos oi, aBind_some, if_neg (by decide)]
        obtain ⟨g5, eg5⟩ : ∃ g5, g5 = rP g4 (lw t n (sk t n s1.1)) := ⟨_, rfl⟩
        have c5 : RRk g5 t n k (lw t n (sk t n s1.1), s1.2) := by rw [eg5]; exact c4.p hl.2.1
        have u5 : FS k g4 g5 := by rw [eg5]; exact FS.p
        rw [← eg5]
        have S5 := c5.1.1.1
        have h11 := c5.2.2.2.1
        have hl5 : hI g5 311 k = nI s1.2.2.length := c5.2.2.2.2.2.1
        obtain ⟨g6, eg6⟩ : ∃ g6, g6 = pI g5 312 (B + 2) (nI s1.2.2.length) := ⟨_, rfl⟩
        have c6 : RRk g6 t n k (lw t n (sk t n s1.1), s1.2) := by rw [eg6]; exact c5.c
        have z6 : FZ k h g6 := by rw [eg6]; exact z4.tr (u5.q.z.tr (FZ.c (by omega) (by omega)))
        rw [r_308_5 S5, Option.bind_some, r_308_4 S5, Option.bind_some, aLet_e, h11, q_311, if_pos (in_311 (show k < 7 by omega)), aLet_e, q_312, if_pos (in_312 (show B + 2 < 288 by omega)), nI_clamp (show B + 2 < 2 ^ 31 by omega), nI_clamp (show k < 2 ^ 31 by omega), hl5, aLet_e, ← eg6]
        obtain ⟨g7, e7, c7, u7⟩ := testedR hk c6 hne1
        have p14 : hI g6 308 14 = hI h 308 14 := by rw [eg6, hI_ne _ (by decide), u5.2.1 14 (by decide) (by decide) (by decide) (by decide)]; exact o14
        have q14 : hI g7 308 14 = hI h 308 14 := by rw [u7.2.1 14 (by decide) (by decide) (by decide) (by decide) (by decide) (by decide)]; exact p14
        cases q2 : gTs t n (gF t n 10) (lw t n (sk t n s1.1), s1.2) with
        | none => rw [q2] at c7; exact c7.elim
        | some w =>
          rw [q2] at c7 e7
          rw [e7, aBind_some]
          cases w with
          | inl f => exact ⟨g7, rfl, z6.tr u7.z, q14, c7⟩
          | inr s2 =>
            have c7' : RRk g7 t n k s2 := c7
            have ph1 : Ph s1 := ph_sum hn hS (show (gSt t n s).2.1 ≤ 60 from hv) phS q
            have lt : s1.2.2.length < s2.2.2.length := ts_pos (s := (lw t n (sk t n s1.1), s1.2)) hn hl.2.1 c4.2.1 (by unfold Ph at ph1 ⊢; show 3 * s1.2.2.length ≤ 6 * s1.2.1 + lw t n (sk t n s1.1); omega) q2
            have o3 : hI g7 313 k = nI C.length := by rw [u7.1.2.2.1 313 (by decide), eg6, hI_ne _ (by decide), u5.1.2.2.1 313 (by decide)]; exact o313
            have o2 : hI g7 312 = upd (upd (upd (hI h 312) B (nI s.2.2.length)) (B + 1) (nI s1.2.2.length)) (B + 2) (nI s1.2.2.length) := by rw [u7.1.2.2.1 312 (by decide), eg6, hI_eq, u5.1.2.2.1 312 (by decide), o312, upd_upd]
            have w110 := r110 hk hc c7' o3
            rw [← eB] at w110
            rw [if_neg (bB_t s2), w110]
            refine ⟨_, rfl, z6.tr (u7.z.tr ((FZ.c (by omega) (by omega)).tr FZ.d)), ?_, ?_, ?_, fin _ (nI s1.2.2.length) s2 ?_ ?_⟩
            · rw [hI_ne _ (by decide), hI_ne _ (by decide)]; exact q14
            · exact c7'.c.g c7'.1.1.1 (fun j _ => by rw [hI_ne _ (by decide)]) (fun c hc => by rw [hI_ne _ (by omega)])
            · rw [hI_eq, upd_at]
            · rw [hI_ne _ (by decide), hI_eq, o2]
            · rw [if_neg (by omega)]
      · rw [if_neg oi] at hne1 ⊢
        rw [if_neg oi, aBind_some, if_pos rfl]
        obtain ⟨g5, eg5⟩ : ∃ g5, g5 = rP g4 (sk t n s1.1) := ⟨_, rfl⟩
        have c5 : RRk g5 t n k (sk t n s1.1, s1.2) := by rw [eg5]; exact c4.p sl1.2
        have u5 : FS k g4 g5 := by rw [eg5]; exact FS.p
        rw [← eg5]
        have o3 : hI g5 313 k = nI C.length := by rw [u5.1.2.2.1 313 (by decide)]; exact o313
        have w110 := r110 hk hc c5 o3
        rw [← eB] at w110
        rw [w110]
        refine ⟨_, rfl, z4.tr (u5.q.z.tr ((FZ.c (by omega) (by omega)).tr FZ.d)), ?_, ?_, ?_, fin _ (-1) (sk t n s1.1, s1.2) ?_ ?_⟩
        · rw [hI_ne _ (by decide), hI_ne _ (by decide), u5.2.1 14 (by decide) (by decide) (by decide) (by decide)]; exact o14
        · exact c5.c.g c5.1.1.1 (fun j _ => by rw [hI_ne _ (by decide)]) (fun c hc => by rw [hI_ne _ (by omega)])
        · rw [hI_eq, upd_at]
        · rw [hI_ne _ (by decide), hI_eq, u5.1.2.2.1 312 (by decide), o312]
        · exact (if_pos rfl).symm
