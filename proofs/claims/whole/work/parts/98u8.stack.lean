/-! ===== rule: the reference's stack ===== -/
def ST (g : Row) : List Nat → Prop
  | [] => True
  | x :: r => g r.length = nI x ∧ ST g r
theorem ST.up {g : Row} {i : Nat} {x : Int32} : ∀ {L : List Nat}, L.length ≤ i → ST g L → ST (upd g i x) L := by
  intro L
  induction L with
  | nil => intro _ _; exact True.intro
  | cons z r ih =>
    intro h c
    rw [List.length_cons] at h
    exact ⟨by rw [upd_ne _ _ (show r.length ≠ i by omega)]; exact c.1, ih (by omega) c.2⟩
def dp : List Nat → Nat
  | [] => 0
  | x :: r => (if x = 91 ∨ x = 11 then 1 else 0) + dp r
/-- the stacks that come about -/
def okTu : List Nat → Prop
  | [] => True
  | x :: r => (x = 91 ∨ x = 11 ∨ x = 12 ∨ (x = 13 ∧ (r = [] ∨ ∃ r', r = 91 :: r'))) ∧ okTu r
def gA (t : Row) (n d : Nat) : GS → Rs := gWL t n 6385252 12 (gF t n (10 - d)) 401
def gO (t : Row) (n d : Nat) : GS → Rs := gWL t n 28530 13 (gPt t n (gF t n (10 - d))) 401
/-- what comes behind a fact, and behind the parts, with a stack -/
def cE (t : Row) (n : Nat) : List Nat → (GS → Rs) × (GS → Rs)
  | [] => (fun s => gB (gB (gA t n 0 s) (gO t n 0)) gK, gK)
  | x :: st => if x = 91 then (fun s => gB (gB (gA t n (dp st + 1) s) (gO t n (dp st + 1))) (fun s' => gB (gCl t n s') (cE t n st).1), fun s' => gB (gCl t n s') (cE t n st).1)
    else if x = 13 then (fun s => gB (gB (gB (gA t n (dp st) s) (gEm 13 0)) (gO t n (dp st))) (cE t n st).2, (cE t n st).2)
    else (fun s => gB (gEm x 0 s) (cE t n st).1, (cE t n st).2)
def cont (t : Row) (n : Nat) (st : List Nat) : GS → Rs := (cE t n st).1
theorem cont_0 {t : Row} {n : Nat} (s : GS) : cont t n [] s = gB (gB (gA t n 0 s) (gO t n 0)) gK := rfl
theorem cont_91 {t : Row} {n : Nat} {st : List Nat} (s : GS) : cont t n (91 :: st) s = gB (gB (gA t n (dp st + 1) s) (gO t n (dp st + 1))) (fun s' => gB (gCl t n s') (cont t n st)) := by
  unfold cont
  rw [cE, if_pos rfl]
theorem cont_13 {t : Row} {n : Nat} {st : List Nat} (s : GS) : cont t n (13 :: st) s = gB (gB (gB (gA t n (dp st) s) (gEm 13 0)) (gO t n (dp st))) (cE t n st).2 := by
  unfold cont
  rw [cE, if_neg (by decide), if_pos rfl]
theorem cont_e {t : Row} {n x : Nat} {st : List Nat} (hx : x = 11 ∨ x = 12) (s : GS) : cont t n (x :: st) s = gB (gEm x 0 s) (cont t n st) := by
  unfold cont
  rw [cE, if_neg (by omega), if_neg (by omega)]
/-- a stack's bottom: no sign waits -/
def isBs (st : List Nat) : Prop := st = [] ∨ ∃ r, st = 91 :: r
theorem cont_b {t : Row} {n : Nat} {st : List Nat} (h : isBs st) (s : GS) : cont t n st s = gB (gB (gA t n (dp st) s) (gO t n (dp st))) (cE t n st).2 := by
  rcases h with rfl | ⟨r, rfl⟩
  · rfl
  · rw [cont_91]
    have e : dp (91 :: r) = dp r + 1 := by rw [dp, if_pos (Or.inl rfl)]; omega
    rw [e, cE, if_pos rfl]
    rfl
theorem gB_cg {r : Rs} {f g : GS → Rs} (h : ∀ s', r = gK s' → f s' = g s') : gB r f = gB r g := by
  match r with
  | none => rfl
  | some (.inl _) => rfl
  | some (.inr s) => exact h s rfl
theorem gWL_y {t : Row} {n w k m : Nat} {F : GS → Rs} {s : GS} (h : isH t n s.1 w = true) : gWL t n w k F (m + 1) s = gB (F (lw t n (sk t n s.1), s.2)) (fun s' => gB (gEm k 0 s') (gWL t n w k F m)) := by rw [gWL, if_pos h]
theorem gWL_n {t : Row} {n w k m : Nat} {F : GS → Rs} {s : GS} (h : isH t n s.1 w = false) : gWL t n w k F (m + 1) s = gK (sk t n s.1, s.2) := by rw [gWL, if_neg (by rw [h]; decide)]
theorem gWL_sk {t : Row} {n w k m : Nat} {F : GS → Rs} {s : GS} (hp : s.1 ≤ n) : gWL t n w k F (m + 1) (sk t n s.1, s.2) = gWL t n w k F (m + 1) s := by
  rw [gWL, gWL]
  show (if isH t n (sk t n s.1) w = true then gB (F (lw t n (sk t n (sk t n s.1)), s.2)) _ else gK (sk t n (sk t n s.1), s.2)) = _
  rw [isH_sk hp, sk_sk hp]
theorem gWL_m {t : Row} {n w k : Nat} {F : GS → Rs} (hF : Mo n F) : ∀ (m : Nat) (s : GS), s.1 ≤ n → n < m + s.1 → gWL t n w k F m s = gWL t n w k F (m + 1) s := by
  intro m
  induction m with
  | zero => intro s h1 h2; omega
  | succ m ih =>
    intro s h1 h2
    by_cases o : isH t n s.1 w = true
    · have hl := isH_lt h1 o
      rw [gWL_y o, gWL_y (m := m + 1) o]
      refine gB_cg (fun s1 e1 => gB_cg (fun s2 e2 => ?_))
      have a := hF (lw t n (sk t n s.1), s.2) s1 hl.2.1 e1
      have a1 : lw t n (sk t n s.1) ≤ s1.1 := a.1
      have b := mo_em s1 s2 a.2 e2
      exact ih s2 b.2 (by omega)
    · have o' := Bool.not_eq_true _ |>.mp o
      rw [gWL_n o', gWL_n (m := m + 1) o']
theorem cont_sk {t : Row} {n : Nat} : ∀ (st : List Nat) (s : GS), okTu st → s.1 ≤ n → cont t n st (sk t n s.1, s.2) = cont t n st s := by
  intro st
  induction st with
  | nil => intro s _ hp; rw [cont_0, cont_0]; unfold gA; rw [gWL_sk hp]
  | cons x r ih =>
    intro s ok hp
    rcases ok.1 with rfl | rfl | rfl | ⟨rfl, _⟩
    · rw [cont_91, cont_91]; unfold gA; rw [gWL_sk hp]
    · rw [cont_e (Or.inl rfl), cont_e (Or.inl rfl)]
      unfold gEm
      by_cases y : s.2.2.length < 256
      · rw [if_pos y, if_pos (show (sk t n s.1, s.2).2.2.length < 256 from y)]
        exact ih (s.1, s.2.1, (11, 0) :: s.2.2) ok.2 hp
      · rw [if_neg y, if_neg (show ¬ (sk t n s.1, s.2).2.2.length < 256 from y)]
    · rw [cont_e (Or.inr rfl), cont_e (Or.inr rfl)]
      unfold gEm
      by_cases y : s.2.2.length < 256
      · rw [if_pos y, if_pos (show (sk t n s.1, s.2).2.2.length < 256 from y)]
        exact ih (s.1, s.2.1, (12, 0) :: s.2.2) ok.2 hp
      · rw [if_neg y, if_neg (show ¬ (sk t n s.1, s.2).2.2.length < 256 from y)]
    · rw [cont_13, cont_13]; unfold gA; rw [gWL_sk hp]
/-- an 'and' here -/
theorem cont_and {t : Row} {n : Nat} {st : List Nat} (hn : n ≤ 400) {s : GS} (hp : s.1 ≤ n) (h : isBs st ∨ ∃ r, st = 13 :: r) (o : isH t n s.1 6385252 = true) : cont t n st s = gB (gF t n (10 - dp st) (lw t n (sk t n s.1), s.2)) (cont t n (12 :: st)) := by
  have hl := isH_lt hp o
  have fu : ∀ d s1 s2, gF t n d (lw t n (sk t n s.1), s.2) = gK s1 → gEm 12 0 s1 = gK s2 → gWL t n 6385252 12 (gF t n d) 400 s2 = gWL t n 6385252 12 (gF t n d) 401 s2 := fun d s1 s2 e1 e2 => by
    have a := mo_f d (lw t n (sk t n s.1), s.2) s1 hl.2.1 e1
    have a1 : lw t n (sk t n s.1) ≤ s1.1 := a.1
    have b := mo_em s1 s2 a.2 e2
    exact gWL_m (mo_f d) 400 s2 b.2 (by omega)
  rcases h with h | ⟨r, rfl⟩
  · rw [cont_b h]
    unfold gA
    rw [gWL_y (m := 400) o, gB_a, gB_a]
    refine gB_cg (fun s1 e1 => ?_)
    rw [cont_e (Or.inr rfl)]
    show gB (gB (gEm 12 0 s1) _) _ = _
    rw [gB_a]
    refine gB_cg (fun s2 e2 => ?_)
    rw [fu _ s1 s2 e1 e2, cont_b h]
    unfold gA
    rw [gB_a]
  · have ed : dp (13 :: r) = dp r := by rw [dp, if_neg (by omega)]; omega
    rw [cont_13, ed]
    unfold gA
    rw [gWL_y (m := 400) o, gB_a, gB_a, gB_a]
    refine gB_cg (fun s1 e1 => ?_)
    rw [cont_e (Or.inr rfl)]
    show gB (gB (gEm 12 0 s1) _) _ = _
    rw [gB_a]
    refine gB_cg (fun s2 e2 => ?_)
    rw [fu _ s1 s2 e1 e2, cont_13]
    unfold gA
    rw [gB_a, gB_a]
/-- an 'or' here -/
theorem cont_or {t : Row} {n : Nat} {st : List Nat} (hn : n ≤ 400) {s : GS} (hp : s.1 ≤ n) (h : isBs st) (na : isH t n s.1 6385252 = false) (o : isH t n s.1 28530 = true) : cont t n st s = gB (gF t n (10 - dp st) (lw t n (sk t n s.1), s.2)) (cont t n (13 :: st)) := by
  have hl := isH_lt hp o
  have ss := sk_sk (t := t) hp
  have F := mo_pt (t := t) (mo_f (t := t) (n := n) (10 - dp st))
  have o' : isH t n (sk t n s.1, s.2).1 28530 = true := by show isH t n (sk t n s.1) 28530 = true; rw [isH_sk hp]; exact o
  rw [cont_b h]
  unfold gA
  rw [gWL_n (m := 400) na, gB_k]
  unfold gO
  rw [gWL_y (m := 400) o']
  show gB (gB (gPt t n (gF t n (10 - dp st)) (lw t n (sk t n (sk t n s.1)), s.2)) _) _ = _
  rw [ss]
  have e0 : gPt t n (gF t n (10 - dp st)) (lw t n (sk t n s.1), s.2) = gB (gF t n (10 - dp st) (lw t n (sk t n s.1), s.2)) (gWL t n 6385252 12 (gF t n (10 - dp st)) 401) := rfl
  have mp := F (lw t n (sk t n s.1), s.2)
  rw [e0, gB_a, gB_a]
  refine gB_cg (fun s1 e1 => ?_)
  rw [cont_13]
  unfold gA gO
  rw [gB_a, gB_a]
  refine gB_cg (fun s2 e2 => ?_)
  show gB (gB (gEm 13 0 s2) _) _ = gB (gEm 13 0 s2) _
  rw [gB_a]
  refine gB_cg (fun s3 e3 => ?_)
  have a := mo_f (10 - dp st) (lw t n (sk t n s.1), s.2) s1 hl.2.1 e1
  have a1 : lw t n (sk t n s.1) ≤ s1.1 := a.1
  have b := mo_wl (mo_f (10 - dp st)) 401 s1 s2 a.2 e2
  have c := mo_em s2 s3 b.2 e3
  rw [gWL_m F 400 s3 c.2 (by omega)]
/-- neither here -/
theorem cont_c {t : Row} {n : Nat} {st : List Nat} {s : GS} (h : isBs st) (ss : sk t n s.1 = s.1) (na : isH t n s.1 6385252 = false) (no : isH t n s.1 28530 = false) : cont t n st s = (cE t n st).2 s := by
  have e : (sk t n s.1, s.2) = s := by rw [ss]
  rw [cont_b h]
  unfold gA
  rw [gWL_n (m := 400) na, e, gB_k]
  unfold gO
  rw [gWL_n (m := 400) no, e, gB_k]
/-- a waiting or is put, where no and comes -/
theorem cont_13e {t : Row} {n : Nat} {r : List Nat} {s : GS} (h : isBs r) (ss : sk t n s.1 = s.1) (na : isH t n s.1 6385252 = false) : cont t n (13 :: r) s = gB (gEm 13 0 s) (cont t n r) := by
  have e : (sk t n s.1, s.2) = s := by rw [ss]
  rw [cont_13]
  unfold gA
  rw [gWL_n (m := 400) na, e, gB_k, gB_a]
  refine gB_cg (fun s1 e1 => ?_)
  have : s1 = (s.1, s.2.1, (13, 0) :: s.2.2) := by
    unfold gEm at e1
    by_cases y : s.2.2.length < 256
    · rw [if_pos y] at e1; exact (gK_inj e1).symm
    · rw [if_neg y] at e1; exact (gK_nn e1.symm).elim
  subst this
  rw [cont_b h]
  unfold gA
  rw [gWL_n (m := 400) (s := (s.1, s.2.1, (13, 0) :: s.2.2)) na]
  show _ = gB (gO t n (dp r) (sk t n s.1, s.2.1, (13, 0) :: s.2.2)) _
  rw [ss]
/-! the heap's stack -/
def RS (h : aH) (t : Row) (n k : Nat) (st : List Nat) (s : GS) : Prop := RRk h t n k s ∧ hI h 308 16 = nI st.length ∧ ST (hI h 315) st ∧ hI h 308 13 = nI (dp st) ∧ okTu st ∧ dp st ≤ 10 ∧ st.length ≤ 400
def FQ (k : Nat) (h h' : aH) : Prop := Upd (fun c => c = 308 ∨ c = 310 ∨ c = 311 ∨ c = 315) h h' ∧ (∀ j, j ≠ 8 → j ≠ 9 → j ≠ 10 → j ≠ 12 → j ≠ 13 → j ≠ 16 → hI h' 308 j = hI h 308 j) ∧ (∀ j, j ≠ k → hI h' 311 j = hI h 311 j) ∧ (∀ j, j < 400 * k ∨ 400 * k + 400 ≤ j → hI h' 310 j = hI h 310 j)
theorem FQ.rf {k : Nat} (h : aH) : FQ k h h := ⟨Upd.rf h, fun _ _ _ _ _ _ _ => rfl, fun _ _ => rfl, fun _ _ => rfl⟩
theorem FQ.tr {k : Nat} {a b c : aH} (x : FQ k a b) (y : FQ k b c) : FQ k a c := ⟨x.1.tr y.1, fun j p q r s u v => (y.2.1 j p q r s u v).trans (x.2.1 j p q r s u v), fun j p => (y.2.2.1 j p).trans (x.2.2.1 j p), fun j p => (y.2.2.2 j p).trans (x.2.2.2 j p)⟩
theorem FS.q {k : Nat} {a b : aH} (x : FS k a b) : FQ k a b := ⟨x.1.mono (fun c y => by omega), fun j p q r s _ _ => x.2.1 j p q r s, x.2.2.1, x.2.2.2⟩
theorem RS.fs {h h' : aH} {t : Row} {n k : Nat} {st : List Nat} {s s' : GS} (r : RS h t n k st s) (u : FS k h h') (c : RRk h' t n k s') : RS h' t n k st s' := by
  obtain ⟨r1, r2, r3, r4, r5, r6, r7⟩ := r
  exact ⟨c, by rw [u.2.1 16 (by decide) (by decide) (by decide) (by decide)]; exact r2, by rw [u.1.2.2.1 315 (by decide)]; exact r3, by rw [u.2.1 13 (by decide) (by decide) (by decide) (by decide)]; exact r4, r5, r6, r7⟩
theorem RS.p {h : aH} {t : Row} {n k : Nat} {st : List Nat} {s : GS} (r : RS h t n k st s) {q : Nat} (hq : q ≤ n) : RS (rP h q) t n k st (q, s.2) := r.fs FS.p (r.1.p hq)
/-- fields 13 and 16 of the reference's, and its stack, alone -/
theorem RRk.f {h h' : aH} {t : Row} {n k : Nat} {s : GS} (c : RRk h t n k s) (S : Str h') (e8 : ∀ j, j ≠ 13 → j ≠ 16 → hI h' 308 j = hI h 308 j) (e : ∀ c, c ≠ 308 → c ≠ 315 → hI h' c = hI h c) : RRk h' t n k s := by
  obtain ⟨c1, c2, c3, c4, c5, c6, c7⟩ := c
  refine ⟨⟨⟨S, ?_, c1.1.2.2.1, ?_⟩, c1.2.1, ?_, ?_⟩, c2, ?_, ?_, c5, ?_, ?_⟩
  · rw [e8 1 (by decide) (by decide)]; exact c1.1.2.1
  · rw [e 309 (by decide) (by decide)]; exact c1.1.2.2.2
  · rw [e8 8 (by decide) (by decide)]; exact c1.2.2.1
  · rw [e8 9 (by decide) (by decide)]; exact c1.2.2.2
  · rw [e8 12 (by decide) (by decide)]; exact c3
  · rw [e8 11 (by decide) (by decide)]; exact c4
  · rw [e 311 (by decide) (by decide)]; exact c6
  · rw [e 310 (by decide) (by decide)]; exact c7
theorem FQ.f {k : Nat} {h h' : aH} (u : Upd (fun c => c = 308 ∨ c = 315) h h') (e8 : ∀ j, j ≠ 13 → j ≠ 16 → hI h' 308 j = hI h 308 j) : FQ k h h' := ⟨u.mono (fun c y => by omega), fun j _ _ _ _ p q => e8 j p q, fun j _ => by rw [u.2.2.1 311 (by decide)], fun j _ => by rw [u.2.2.1 310 (by decide)]⟩
def str (x : Nat) : Nat := if x = 13 then 1 else if x = 12 then 2 else if x = 11 then 3 else 0
theorem str_eq {h : aH} {x : Nat} (hx : x = 91 ∨ x = 11 ∨ x = 12 ∨ x = 13) : f_X12_strength h (nI x) = some (nI (str x), h) := by
  rcases hx with rfl | rfl | rfl | rfl
  · rfl
  · rfl
  · rfl
  · rfl
theorem in_315 {k : Nat} (h : k < 400) : aIn (nI k) (sh 315).2 := by rw [sh_315]; exact vp_in_nI h (by decide)
def hdS (x1 : Nat) (st : List Nat) : Prop := ∀ y r, st = y :: r → str y < x1
theorem okTu.x {x : Nat} {r : List Nat} (h : okTu (x :: r)) : x = 91 ∨ x = 11 ∨ x = 12 ∨ x = 13 := by
  rcases h.1 with y | y | y | y
  · exact Or.inl y
  · exact Or.inr (Or.inl y)
  · exact Or.inr (Or.inr (Or.inl y))
  · exact Or.inr (Or.inr (Or.inr y.1))
theorem nI_sub1 {k : Nat} : nI (k + 1) - 1 = nI k := pk_sub (a := k + 1) (b := 1) (by omega)
/-- signs that bind as much are put -/
theorem setR {t : Row} {n k x1 p0 : Nat} (hk : k < 6) (hx : x1 = 3 ∨ x1 = 2 ∨ (x1 = 1 ∧ isH t n p0 6385252 = false ∧ sk t n p0 = p0)) : ∀ (st : List Nat) (h : aH) (s : GS) (K : Nat), RS h t n k st s → cont t n st (p0, s.2) ≠ none → st.length < K → ∃ h' st' L', f_X12_settles_0 K h 308 (nI x1) = some ((), h') ∧ RS h' t n k st' (s.1, s.2.1, L') ∧ cont t n st (p0, s.2) = cont t n st' (p0, s.2.1, L') ∧ hdS x1 st' ∧ st'.length ≤ st.length ∧ (91 ∈ st ↔ 91 ∈ st') ∧ FQ k h h' := by
  intro st
  induction st with
  | nil =>
    intro h s K r _ hK
    obtain ⟨K', rfl⟩ : ∃ K', K = K' + 1 := ⟨K - 1, by omega⟩
    refine ⟨h, [], s.2.2, ?_, r, rfl, (fun y r e => by cases e), Nat.le_refl _, Iff.rfl, FQ.rf h⟩
    have e16 : hI h 308 16 = 0 := r.2.1
    show b_X12_settles_0 (f_X12_settles_0 K') h 308 (nI x1) = _
    simp only [b_X12_settles_0, q_308, e16, if_pos (show (0 : Int32) ≤ 0 by decide)]
  | cons x st ih =>
    intro h s K r hne hK
    obtain ⟨K', rfl⟩ : ∃ K', K = K' + 1 := ⟨K - 1, by omega⟩
    rw [List.length_cons] at hK
    have r' := r
    obtain ⟨r1, r2, r3, r4, r5, r6, r7⟩ := r
    rw [List.length_cons] at r2 r7
    have S := r1.1.1.1
    have xx := r5.x
    have sx := str_eq (h := h) xx
    have e0 : hI h 315 st.length = nI x := r3.1
    have n0 : ¬ nI (st.length + 1) ≤ 0 := nI_ge (a := 0) (b := st.length + 1) (by omega) (by omega)
    have str4 : str x < 4 := by rcases xx with rfl | rfl | rfl | rfl <;> decide
    have x14 : x1 < 4 := by omega
    by_cases y : str x < x1
    · refine ⟨h, x :: st, s.2.2, ?_, r', rfl, (fun a b e => by injection e with e1 e2; subst e1; exact y), Nat.le_refl _, Iff.rfl, FQ.rf h⟩
      have lt : nI (str x) < nI x1 := nI_lt y (by omega)
      show b_X12_settles_0 (f_X12_settles_0 K') h 308 (nI x1) = _
      simp only [b_X12_settles_0, q_308, r2, if_neg n0, r_308_15 S, Option.bind_some, aLet, nI_sub1, q_315, if_pos (in_315 (show st.length < 400 by omega)), nI_clamp (show st.length < 2 ^ 31 by omega), e0, sx, aBind_some, if_pos lt]
    · have nl : ¬ nI (str x) < nI x1 := nI_nlt (by omega) (by omega)
      have x91 : x ≠ 91 := fun e => by
        have : str x = 0 := by rw [e]; rfl
        omega
      have eC : cont t n (x :: st) (p0, s.2) = gB (gEm x 0 (p0, s.2)) (cont t n st) := by
        rcases r5.1 with e | e | e | ⟨e, b⟩
        · exact absurd e x91
        · exact cont_e (Or.inl e) _
        · exact cont_e (Or.inr e) _
        · subst e
          rcases hx with hx | hx | ⟨_, h1, h2⟩
          · exact absurd (show str 13 < x1 by rw [hx]; decide) y
          · exact absurd (show str 13 < x1 by rw [hx]; decide) y
          · exact cont_13e b h2 h1
      rw [eC] at hne ⊢
      have l : s.2.2.length < 256 := em_len (s := (p0, s.2)) (gB_n hne)
      rw [em_ok (s := (p0, s.2)) l, gB_k] at hne ⊢
      have x15 : x < 15 := by omega
      -- the pop
      have hS16 : Str (pI h 308 16 (nI st.length)) := S
      have c1 : RRk (pI h 308 16 (nI st.length)) t n k s := r1.f S (fun j p q => by rw [hI_eq, upd_ne _ _ q]) (fun c p q => by rw [hI_ne _ p])
      obtain ⟨g2, e2, c2, u2⟩ := putsR hk c1 l x 0
      have e2' : f_X12_puts (pI h 308 16 (nI st.length)) 308 (nI x) 0 = some ((), g2) := e2
      have S2 := c2.1.1.1
      have f16 : hI g2 308 16 = nI st.length := by rw [u2.2.1 16 (by decide) (by decide) (by decide) (by decide), hI_eq, upd_at]
      have f13 : hI g2 308 13 = nI (dp (x :: st)) := by rw [u2.2.1 13 (by decide) (by decide) (by decide) (by decide), hI_eq, upd_ne _ _ (by decide)]; exact r4
      have f315 : hI g2 315 = hI h 315 := by rw [u2.1.2.2.1 315 (by decide), hI_ne _ (by decide)]
      have q1 : FQ k h (pI h 308 16 (nI st.length)) := FQ.f (Upd.pI (Or.inl rfl)) (fun j p q => by rw [hI_eq, upd_ne _ _ q])
      have e16 : hI (pI h 308 16 (nI st.length)) 308 16 = nI st.length := by rw [hI_eq, upd_at]
      have e15 : hI (pI h 308 16 (nI st.length)) 315 = hI h 315 := hI_ne _ (by decide)
      have pre : f_X12_settles_0 (K' + 1) h 308 (nI x1) = if nI x = 11 then f_X12_settles_0 K' (pI g2 308 13 (nI (dp (x :: st)) - 1)) 308 (nI x1) else f_X12_settles_0 K' g2 308 (nI x1) := by
        show b_X12_settles_0 (f_X12_settles_0 K') h 308 (nI x1) = _
        simp only [b_X12_settles_0, q_308, r2, if_neg n0, r_308_15 S, Option.bind_some, aLet, nI_sub1, q_315, if_pos (in_315 (show st.length < 400 by omega)), nI_clamp (show st.length < 2 ^ 31 by omega), e0, sx, aBind_some, if_neg nl, hR_pI, e16, e15, e2', r_308_15 S2, f16, f315, f13]
      have m91 : 91 ∈ x :: st ↔ 91 ∈ st := by
        rw [List.mem_cons]
        exact ⟨fun q => q.elim (fun z => absurd z.symm x91) id, Or.inr⟩
      by_cases z : x = 11
      · have d1 : dp (x :: st) = dp st + 1 := by rw [dp, if_pos (Or.inr z)]; omega
        rw [if_pos (by rw [z]; rfl), d1, nI_sub1] at pre
        rw [d1] at r6
        have c3 : RRk (pI g2 308 13 (nI (dp st))) t n k (s.1, s.2.1, (x, 0) :: s.2.2) := c2.f S2 (fun j p q => by rw [hI_eq, upd_ne _ _ p]) (fun c p q => by rw [hI_ne _ p])
        have R3 : RS (pI g2 308 13 (nI (dp st))) t n k st (s.1, s.2.1, (x, 0) :: s.2.2) := ⟨c3, by rw [hI_eq, upd_ne _ _ (by decide)]; exact f16, by rw [hI_ne _ (by decide), f315]; exact r3.2, by rw [hI_eq, upd_at], r5.2, by omega, by omega⟩
        obtain ⟨h', st', L', a1, a2, a3, a4, a5, a6, a7⟩ := ih _ _ K' R3 hne (by omega)
        exact ⟨h', st', L', by rw [pre]; exact a1, a2, a3, a4, by rw [List.length_cons]; omega, m91.trans a6, q1.tr (u2.q.tr ((FQ.f (Upd.pI (Or.inl rfl)) (fun j p q => by rw [hI_eq, upd_ne _ _ p])).tr a7))⟩
      · have d1 : dp (x :: st) = dp st := by rw [dp, if_neg (by omega)]; omega
        rw [if_neg (show ¬ nI x = 11 from fun q => z ((nI_eq (b := 11) (by omega) (by decide)).mp q))] at pre
        rw [d1] at r6 f13
        have R3 : RS g2 t n k st (s.1, s.2.1, (x, 0) :: s.2.2) := ⟨c2, f16, by rw [f315]; exact r3.2, f13, r5.2, by omega, by omega⟩
        obtain ⟨h', st', L', a1, a2, a3, a4, a5, a6, a7⟩ := ih _ _ K' R3 hne (by omega)
        exact ⟨h', st', L', by rw [pre]; exact a1, a2, a3, a4, by rw [List.length_cons]; omega, m91.trans a6, q1.tr (u2.q.tr a7)⟩
theorem ST.m {g : Row} : ∀ {st : List Nat}, okTu st → ST g st → ((∃ i, i < st.length ∧ g i = 91) ↔ 91 ∈ st) := by
  intro st
  induction st with
  | nil => intro _ _; exact ⟨fun ⟨i, h, _⟩ => absurd h (Nat.not_lt_zero i), fun h => (by cases h)⟩
  | cons x r ih =>
    intro ok c
    have xx := ok.x
    rw [List.mem_cons, List.length_cons, ← ih ok.2 c.2]
    constructor
    · rintro ⟨i, h1, h2⟩
      by_cases e : i = r.length
      · left
        rw [e, c.1] at h2
        have := (nI_eq (b := 91) (by omega) (by decide)).mp h2
        exact this.symm
      · exact Or.inr ⟨i, by omega, h2⟩
    · rintro (e | ⟨i, h1, h2⟩)
      · exact ⟨r.length, by omega, by rw [c.1, ← e]; rfl⟩
      · exact ⟨i, by omega, h2⟩
theorem insR {h : aH} {t : Row} {n k : Nat} {st : List Nat} {s : GS} (r : RS h t n k st s) : f_X12_isInside h 308 = some (bB (decide (91 ∈ st)), h) := by
  obtain ⟨r1, r2, r3, r4, r5, r6, r7⟩ := r
  have S := r1.1.1.1
  have iff := ST.m r5 r3
  refine itLoop (σ := Int32) (fun K x => f_X12_isInside_2 K h 308 x) (fun i x => x = nI i ∧ ∀ j, j < i → ¬ hI h 315 j = 91) (fun o => o = some (bB (decide (91 ∈ st)), h)) st.length ?_ ?_ 2000 0 0 ⟨rfl, fun j hj => by omega⟩ (by omega) (by omega)
  · rintro K i _ hi ⟨rfl, e⟩
    have c : ¬ nI st.length ≤ nI i := nI_ge hi (by omega)
    have hd : f_X12_isInside_2 (K + 1) h 308 (nI i) = if hI h 315 i = 91 then some (1, h) else f_X12_isInside_2 K h 308 (nI (i + 1)) := by
      show b_X12_isInside_2 (f_X12_isInside_2 K) h 308 (nI i) = _
      simp only [b_X12_isInside_2, q_308, r2, if_neg c, r_308_15 S, Option.bind_some, q_315, if_pos (in_315 (show i < 400 by omega)), nI_clamp (show i < 2 ^ 31 by omega), i1]
    by_cases y : hI h 315 i = 91
    · left
      rw [if_pos y] at hd
      rw [decide_eq_true (iff.mp ⟨i, hi, y⟩)]
      exact hd
    · rw [if_neg y] at hd
      refine Or.inr ⟨_, ⟨rfl, fun j hj => ?_⟩, hd⟩
      by_cases z : j = i
      · rw [z]; exact y
      · exact e j (by omega)
  · rintro K _ ⟨rfl, e⟩
    have no : ¬ 91 ∈ st := fun q => by
      obtain ⟨i, h1, h2⟩ := iff.mpr q
      exact e i h1 h2
    rw [decide_eq_false no]
    show b_X12_isInside_2 (f_X12_isInside_2 K) h 308 (nI st.length) = _
    simp only [b_X12_isInside_2, q_308, r2, if_pos (Int32.le_refl (nI st.length))]
    rfl
/-- one more on the stack -/
theorem opensR {h : aH} {t : Row} {n k x : Nat} {st : List Nat} {s : GS} (r : RS h t n k st s) (hx : x = 91 ∨ x = 11) (hd : dp st < 10) (hl : st.length < 400) : ∃ h', f_X12_opens h 308 (nI x) = some (1, h') ∧ RS h' t n k (x :: st) s ∧ FQ k h h' := by
  obtain ⟨r1, r2, r3, r4, r5, r6, r7⟩ := r
  have S := r1.1.1.1
  have d1 : dp (x :: st) = dp st + 1 := by rw [dp, if_pos hx]; omega
  obtain ⟨g, eg⟩ : ∃ g, g = pI (pI (pI h 308 13 (nI (dp st + 1))) 315 st.length (nI x)) 308 16 (nI (st.length + 1)) := ⟨_, rfl⟩
  have o8 : hI g 308 = upd (upd (hI h 308) 13 (nI (dp st + 1))) 16 (nI (st.length + 1)) := by rw [eg, hI_eq, hI_ne _ (by decide), hI_eq]
  have o15 : hI g 315 = upd (hI h 315) st.length (nI x) := by rw [eg, hI_ne _ (by decide), hI_eq, hI_ne _ (by decide)]
  have u : Upd (fun c => c = 308 ∨ c = 315) h g := by rw [eg]; exact ((Upd.pI (Or.inl rfl)).tr (Upd.pI (Or.inr rfl))).tr (Upd.pI (Or.inl rfl))
  have S' : Str g := u.str S
  have e8 : ∀ j, j ≠ 13 → j ≠ 16 → hI g 308 j = hI h 308 j := fun j p q => by rw [o8, upd_ne _ _ q, upd_ne _ _ p]
  have n10 : ¬ nI (dp st) = 10 := fun q => by
    have := (nI_eq (b := 10) (by omega) (by decide)).mp q
    omega
  have f16 : hI (pI h 308 13 (nI (dp st + 1))) 308 16 = nI st.length := by rw [hI_eq, upd_ne _ _ (by decide)]; exact r2
  have f16' : hI (pI (pI h 308 13 (nI (dp st + 1))) 315 st.length (nI x)) 308 16 = nI st.length := by rw [hI_ne _ (by decide)]; exact f16
  refine ⟨g, ?_, ⟨r1.f S' e8 (fun c p q => u.2.2.1 c (by omega)), ?_, ⟨?_, ?_⟩, ?_, ⟨?_, r5⟩, by omega, by rw [List.length_cons]; omega⟩, FQ.f u e8⟩
  · rw [eg]
    simp only [f_X12_opens, q_308, r4, if_neg n10, i1, aLet, hR_pI, r_308_15 S, Option.bind_some, f16, q_315, if_pos (in_315 hl), nI_clamp (show st.length < 2 ^ 31 by omega), f16']
  · rw [o8, upd_at, List.length_cons]
  · rw [o15, upd_at]
  · rw [o15]; exact ST.up (Nat.le_refl _) r3
  · rw [o8, upd_ne _ _ (by decide), upd_at, d1]
  · rcases hx with e | e
    · exact Or.inl e
    · exact Or.inr (Or.inl e)
