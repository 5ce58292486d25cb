/-! ===== rule: sizes and kinds of what is read ===== -/
def tyL : List (Nat × Nat) → List Bool → Option (List Bool)
  | [], st => some st
  | x :: r, st => (tyL r st).bind (fun u => tyS u (nI x.1) (nI x.2))
theorem tyL_app (N : List (Nat × Nat)) (st : List Bool) : ∀ M : List (Nat × Nat), tyL (M ++ N) st = (tyL N st).bind (tyL M) := by
  intro M
  induction M with
  | nil =>
    show tyL N st = _
    cases tyL N st with
    | none => rfl
    | some _ => rfl
  | cons x r ih =>
    show (tyL (r ++ N) st).bind _ = _
    rw [ih]
    cases tyL N st with
    | none => rfl
    | some _ => rfl
def GdP (n : Nat) (a b : List Bool) (s : GS) (r : Rs) : Prop := ∀ (st : List Bool) (w : Nat), s.2.1 ≤ 60 → a.length + st.length ≤ s.2.1 → 3 * s.2.2.length + 3 * (a.length + st.length) + w ≤ 6 * s.2.1 + s.1 → r ≠ none ∧ ∀ s' : GS, r = gK s' → s.1 ≤ s'.1 ∧ s'.1 ≤ n ∧ s.2.1 ≤ s'.2.1 ∧ s'.2.1 ≤ 60 ∧ b.length + st.length ≤ s'.2.1 ∧ 3 * s'.2.2.length + 3 * (b.length + st.length) + w ≤ 6 * s'.2.1 + s'.1 ∧ ∃ N, s'.2.2 = N ++ s.2.2 ∧ tyL N (a ++ st) = some (b ++ st) ∧ ∀ x ∈ N, x.1 < 15 ∧ x.2 < 100000
def GdF (n : Nat) (a b : List Bool) (f : GS → Rs) : Prop := ∀ s : GS, s.1 ≤ n → GdP n a b s (f s)
theorem GdP.x {n : Nat} {a b : List Bool} {s : GS} {e : Int32} : GdP n a b s (gX e) := fun _ _ _ _ _ => ⟨fun y => gX_nn y, fun _ y => (gX_k y).elim⟩
theorem GdP.b {n : Nat} {a b c : List Bool} {s : GS} {r : Rs} {g : GS → Rs} (x : GdP n a b s r) (y : GdF n b c g) : GdP n a c s (gB r g) := by
  intro st w h2 h3 h4
  obtain ⟨x1, x2⟩ := x st w h2 h3 h4
  match r with
  | none => exact absurd rfl x1
  | some (.inl z) => exact ⟨fun q => gX_nn q, fun _ q => (gX_k q).elim⟩
  | some (.inr s1) =>
    obtain ⟨a1, a2, a3, a4, a5, a6, N, a7, a8, a9⟩ := x2 s1 rfl
    obtain ⟨y1, y2⟩ := y s1 a2 st w a4 a5 a6
    refine ⟨y1, fun s' e => ?_⟩
    obtain ⟨b1, b2, b3, b4, b5, b6, M, b7, b8, b9⟩ := y2 s' e
    refine ⟨by omega, b2, by omega, b4, b5, b6, M ++ N, ?_, ?_, fun z hz => ?_⟩
    · rw [b7, a7, List.append_assoc]
    · rw [tyL_app, a8]; exact b8
    · rcases List.mem_append.mp hz with q | q
      · exact b9 z q
      · exact a9 z q
theorem GdF.b {n : Nat} {a b c : List Bool} {f g : GS → Rs} (x : GdF n a b f) (y : GdF n b c g) : GdF n a c (fun s => gB (f s) g) := fun s h => (x s h).b y
theorem GdP.mv {n : Nat} {a b : List Bool} {f : GS → Rs} (x : GdF n a b f) {s : GS} {q : Nat} (h1 : s.1 ≤ q) (h2 : q ≤ n) : GdP n a b s (f (q, s.2)) := by
  intro st w g2 g3 g4
  obtain ⟨x1, x2⟩ := x (q, s.2) h2 st w g2 g3 (by show 3 * s.2.2.length + 3 * (a.length + st.length) + w ≤ 6 * s.2.1 + q; omega)
  refine ⟨x1, fun s' e => ?_⟩
  obtain ⟨a1, a2⟩ := x2 s' e
  have a1' : q ≤ s'.1 := a1
  exact ⟨by omega, a2⟩
theorem GdF.k {n : Nat} {a : List Bool} : GdF n a a gK := fun s h st w g2 g3 g4 => ⟨fun y => gK_nn y, fun s' e => by
  have := gK_inj e
  subst this
  exact ⟨Nat.le_refl _, h, Nat.le_refl _, g2, g3, g4, [], rfl, rfl, fun x hx => by cases hx⟩⟩
theorem GdP.w {n : Nat} {a b : List Bool} {s : GS} {r : Rs} (c : List Bool) (x : GdP n a b s r) : GdP n (a ++ c) (b ++ c) s r := by
  intro st w g2 g3 g4
  rw [List.length_append] at g3 g4
  obtain ⟨x1, x2⟩ := x (c ++ st) w g2 (by rw [List.length_append]; omega) (by rw [List.length_append]; omega)
  refine ⟨x1, fun s' e => ?_⟩
  obtain ⟨a1, a2, a3, a4, a5, a6, N, a7, a8, a9⟩ := x2 s' e
  rw [List.length_append] at a5 a6
  rw [List.length_append, List.append_assoc, List.append_assoc]
  exact ⟨a1, a2, a3, a4, by omega, by omega, N, a7, a8, a9⟩
theorem gd_em {n : Nat} (hn : n ≤ 400) {a b : List Bool} {k x : Nat} (hk : k < 15) (hx : x < 100000) (hl : a.length = b.length + 1) (hb : 1 ≤ b.length) (ht : ∀ st, tyS (a ++ st) (nI k) (nI x) = some (b ++ st)) : GdF n a b (gEm k x) := by
  intro s hp st w g2 g3 g4
  have l : s.2.2.length < 256 := by omega
  unfold gEm
  rw [if_pos l]
  refine ⟨fun y => gK_nn y, fun s' e => ?_⟩
  have := gK_inj e
  subst this
  refine ⟨Nat.le_refl _, hp, Nat.le_refl _, g2, ?_, ?_, [(k, x)], rfl, ?_, fun z hz => ?_⟩
  · show b.length + st.length ≤ s.2.1; omega
  · show 3 * ((k, x) :: s.2.2).length + 3 * (b.length + st.length) + w ≤ 6 * s.2.1 + s.1
    rw [List.length_cons]; omega
  · exact ht st
  · rw [List.mem_singleton] at hz
    subst hz
    exact ⟨hk, hx⟩
theorem gd_val1 {n : Nat} (hn : n ≤ 400) {s : GS} {k x p q : Nat} (hk : k < 15) (hx : x < 100000) (h1 : s.1 ≤ q) (h2 : q ≤ n) (ht : ∀ st : List Bool, st.length < 60 → tyS st (nI k) (nI x) = some (false :: st)) : GdP n [] [false] s (gB (gEm k x (q, s.2)) (gCnt p)) := by
  intro st w g2 g3 g4
  have g3' : st.length ≤ s.2.1 := by rw [List.length_nil, Nat.zero_add] at g3; exact g3
  have g4' : 3 * s.2.2.length + 3 * st.length + w ≤ 6 * s.2.1 + s.1 := by rw [List.length_nil, Nat.zero_add] at g4; exact g4
  by_cases z : s.2.1 = 60
  · have l : s.2.2.length < 256 := by omega
    have e : gB (gEm k x (q, s.2)) (gCnt p) = gX (blm p 3 0) := by
      unfold gEm
      rw [if_pos (show (q, s.2).2.2.length < 256 from l), gB_k]
      unfold gCnt
      rw [if_pos (show (q, s.2.1, (k, x) :: s.2.2).2.1 = 60 from z)]
    rw [e]
    exact ⟨fun y => gX_nn y, fun _ y => (gX_k y).elim⟩
  · have l : s.2.2.length < 256 := by omega
    have e : gB (gEm k x (q, s.2)) (gCnt p) = gK (q, s.2.1 + 1, (k, x) :: s.2.2) := by
      unfold gEm
      rw [if_pos (show (q, s.2).2.2.length < 256 from l), gB_k]
      unfold gCnt
      rw [if_neg (show ¬ (q, s.2.1, (k, x) :: s.2.2).2.1 = 60 from z)]
    rw [e]
    refine ⟨fun y => gK_nn y, fun s' e => ?_⟩
    have := gK_inj e
    subst this
    refine ⟨h1, h2, Nat.le_succ _, ?_, ?_, ?_, [(k, x)], rfl, ?_, fun z hz => ?_⟩
    · show s.2.1 + 1 ≤ 60; omega
    · show [false].length + st.length ≤ s.2.1 + 1
      rw [List.length_singleton]; omega
    · show 3 * ((k, x) :: s.2.2).length + 3 * ([false].length + st.length) + w ≤ 6 * (s.2.1 + 1) + q
      rw [List.length_cons, List.length_singleton]; omega
    · exact ht st (by omega)
    · rw [List.mem_singleton] at hz
      subst hz
      exact ⟨hk, hx⟩
theorem kW_lt {t : Row} {s e : Nat} : ∀ (g : List (Nat × Nat)) (k x : Nat), kW t s e g k = some x → x < k + g.length := by
  intro g
  induction g with
  | nil => intro k x h; cases h
  | cons z r ih =>
    intro k x h
    rw [kW] at h
    rw [List.length_cons]
    by_cases y : isWB t s e z.2 = true
    · rw [if_pos y] at h
      injection h with h
      omega
    · rw [if_neg y] at h
      have := ih (k + 1) x h
      omega
theorem ty_w : ∀ k, k < 11 → (0 ≤ nI k ∧ nI k ≤ 10) := by decide +kernel
theorem gd_val {t : Row} {n : Nat} (hn : n ≤ 400) : GdF n [] [false] (gVal t n) := by
  intro s h
  have sl := sk_le (t := t) h
  have ll := lw_le (t := t) sl.2
  have dl := de_le (t := t) sl.2
  unfold gVal
  by_cases z : (decide (sk t n s.1 < n) && bdg t (sk t n s.1)) = true
  · rw [if_pos z]
    by_cases g : gd t n s.1 99999 = true
    · rw [if_pos g]
      obtain ⟨k, hk, ek⟩ := nv_nn h g
      have dl' : sk t n s.1 ≤ nx t n s.1 ∧ nx t n s.1 ≤ n := dl
      rw [ek, nI_clamp (show k < 2 ^ 31 by omega)]
      refine gd_val1 hn (by decide) hk (by omega) dl'.2 (fun st hs => ?_)
      unfold tyS
      rw [if_pos (show nI 0 = 0 from rfl), if_pos hs]
    · rw [if_neg g]
      exact GdP.x
  · rw [if_neg z]
    cases kw : kW t (sk t n s.1) (lw t n (sk t n s.1)) wdW 0 with
    | none => exact GdP.x
    | some k =>
      have hk := kW_lt wdW 0 k kw
      have hk' : k < 11 := by
        have : wdW.length = 11 := rfl
        omega
      refine gd_val1 hn (by decide) (by omega) (by omega) ll.2 (fun st hs => ?_)
      unfold tyS
      rw [if_neg (show ¬ nI 1 = 0 by decide), if_pos (show nI 1 = 1 from rfl), if_pos ⟨hs, ty_w k hk'⟩]
theorem ty_op : ∀ k, k < 15 → (k = 2 ∨ k = 3 ∨ k = 4 ∨ k = 5 ∨ k = 14) → ¬ nI k = 0 ∧ ¬ nI k = 1 ∧ ¬ nI k = 11 ∧ ¬ (nI k = 12 ∨ nI k = 13) ∧ ¬ (6 ≤ nI k ∧ nI k ≤ 10) := by decide +kernel
theorem ty_cp : ∀ k, k < 15 → (6 ≤ k ∧ k ≤ 10) → ¬ nI k = 0 ∧ ¬ nI k = 1 ∧ ¬ nI k = 11 ∧ ¬ (nI k = 12 ∨ nI k = 13) ∧ (6 ≤ nI k ∧ nI k ≤ 10) := by decide +kernel
theorem gd_op {n : Nat} (hn : n ≤ 400) {k : Nat} (hk : k = 2 ∨ k = 3 ∨ k = 4 ∨ k = 5 ∨ k = 14) : GdF n [false, false] [false] (gEm k 0) := by
  refine gd_em hn (by omega) (by decide) rfl (by decide) (fun st => ?_)
  obtain ⟨a, b, c, d, e⟩ := ty_op k (by omega) hk
  show tyS (false :: false :: st) _ _ = _
  unfold tyS
  rw [if_neg a, if_neg b, if_neg c, if_neg d, if_neg e]
  rfl
theorem gd_tl {t : Row} {n : Nat} (hn : n ≤ 400) : ∀ m, GdF n [false] [false] (gTL t n m) := by
  intro m
  induction m with
  | zero => exact GdF.k
  | succ m ih =>
    intro s h
    have sl := sk_le (t := t) h
    rw [gTL]
    cases o : opT (bya t n (sk t n s.1)) with
    | none => exact GdP.mv GdF.k sl.1 sl.2
    | some k =>
      have c := opT_c o
      exact GdP.b (b := [false, false]) (GdP.w (a := []) (b := [false]) [false] (GdP.mv (gd_val hn) (by omega) (by omega))) ((gd_op hn (by omega)).b ih)
theorem gd_term {t : Row} {n : Nat} (hn : n ≤ 400) : GdF n [] [false] (gTerm t n) := (gd_val hn).b (gd_tl hn 401)
theorem gd_sl {t : Row} {n : Nat} (hn : n ≤ 400) : ∀ m, GdF n [false] [false] (gSL t n m) := by
  intro m
  induction m with
  | zero => exact GdF.k
  | succ m ih =>
    intro s h
    have sl := sk_le (t := t) h
    rw [gSL]
    cases o : opS (bya t n (sk t n s.1)) with
    | none => exact GdP.mv GdF.k sl.1 sl.2
    | some k =>
      have c := opS_c o
      exact GdP.b (b := [false, false]) (GdP.w (a := []) (b := [false]) [false] (GdP.mv (gd_term hn) (by omega) (by omega))) ((gd_op hn (by omega)).b ih)
theorem gd_sum {t : Row} {n : Nat} (hn : n ≤ 400) : GdF n [] [false] (gSum t n) := (gd_term hn).b (gd_sl hn 401)
theorem gd_cnt {n : Nat} {a : List Bool} {p : Nat} : GdF n a a (gCnt p) := by
  intro s h st w g2 g3 g4
  unfold gCnt
  by_cases z : s.2.1 = 60
  · rw [if_pos z]
    exact ⟨fun y => gX_nn y, fun _ y => (gX_k y).elim⟩
  · rw [if_neg z]
    refine ⟨fun y => gK_nn y, fun s' e => ?_⟩
    have := gK_inj e
    subst this
    refine ⟨Nat.le_refl _, h, Nat.le_succ _, ?_, ?_, ?_, [], rfl, rfl, fun z hz => by cases hz⟩
    · show s.2.1 + 1 ≤ 60; omega
    · show a.length + st.length ≤ s.2.1 + 1; omega
    · show 3 * s.2.2.length + 3 * (a.length + st.length) + w ≤ 6 * (s.2.1 + 1) + s.1; omega
theorem gd_cp2 {t : Row} {n : Nat} (hn : n ≤ 400) : GdF n [false] [true] (gCp2 t n) := by
  intro s h
  have sl := sk_le (t := t) h
  unfold gCp2
  cases o : gCm t n (sk t n s.1) with
  | none => exact GdP.x
  | some z =>
    have c := gCm_c o
    have em : GdF n [false, false] [true] (gEm z.1 0) := by
      refine gd_em hn (by omega) (by decide) rfl (by decide) (fun st => ?_)
      obtain ⟨a, b, c, d, e⟩ := ty_cp z.1 (by omega) c.2.2
      show tyS (false :: false :: st) _ _ = _
      unfold tyS
      rw [if_neg a, if_neg b, if_neg c, if_neg d, if_pos e]
      rfl
    have sm : GdF n [false] [false, false] (gSum t n) := fun s h => GdP.w (a := []) (b := [false]) [false] (gd_sum hn s h)
    exact GdP.b (b := [false]) (GdP.mv gd_cnt (by omega) (by omega)) (sm.b em)
theorem gd_cp {t : Row} {n : Nat} (hn : n ≤ 400) : GdF n [] [true] (gCp t n) := (gd_sum hn).b (gd_cp2 hn)
theorem gd_and {n : Nat} (hn : n ≤ 400) {k : Nat} (hk : k = 12 ∨ k = 13) : GdF n [true, true] [true] (gEm k 0) := by
  refine gd_em hn (by omega) (by decide) rfl (by decide) (fun st => ?_)
  show tyS (true :: true :: st) _ _ = _
  unfold tyS
  rcases hk with rfl | rfl
  · rw [if_neg (by decide), if_neg (by decide), if_neg (by decide), if_pos (by decide)]; rfl
  · rw [if_neg (by decide), if_neg (by decide), if_neg (by decide), if_pos (by decide)]; rfl
theorem gd_wl {t : Row} {n w k : Nat} (hn : n ≤ 400) (hk : k = 12 ∨ k = 13) {F : GS → Rs} (hF : GdF n [] [true] F) : ∀ m, GdF n [true] [true] (gWL t n w k F m) := by
  intro m
  induction m with
  | zero => exact GdF.k
  | succ m ih =>
    intro s h
    have sl := sk_le (t := t) h
    rw [gWL]
    by_cases o : isH t n s.1 w = true
    · rw [if_pos o]
      have c := isH_lt h o
      exact GdP.b (b := [true, true]) (GdP.w (a := []) (b := [true]) [true] (GdP.mv hF (by omega) (by omega))) ((gd_and hn hk).b ih)
    · rw [if_neg o]
      exact GdP.mv GdF.k sl.1 sl.2
theorem gd_pt {t : Row} {n : Nat} (hn : n ≤ 400) {F : GS → Rs} (hF : GdF n [] [true] F) : GdF n [] [true] (gPt t n F) := hF.b (gd_wl hn (Or.inl rfl) hF 401)
theorem gd_ts {t : Row} {n : Nat} (hn : n ≤ 400) {F : GS → Rs} (hF : GdF n [] [true] F) : GdF n [] [true] (gTs t n F) := (gd_pt hn hF).b (gd_wl hn (Or.inr rfl) (gd_pt hn hF) 401)
theorem gd_cl {t : Row} {n : Nat} {a : List Bool} : GdF n a a (gCl t n) := by
  intro s h
  have sl := sk_le (t := t) h
  unfold gCl
  by_cases z : bya t n (sk t n s.1) = 93
  · rw [if_pos z]
    have := bya_c z (by decide)
    exact GdP.mv GdF.k (by omega) (by omega)
  · rw [if_neg z]; exact GdP.x
theorem isH_3 {t : Row} {n p : Nat} (hp : p ≤ n) (h : isH t n p 7237492 = true) : sk t n p + 3 ≤ lw t n (sk t n p) := by
  have sl := sk_le (t := t) hp
  obtain ⟨a1, a2, a3, a4⟩ := fd_s (ble t) (p := sk t n p) sl.2
  obtain ⟨h1, h2, h3⟩ := of_decide_eq_true h
  have lt := pkT_lt (t := t) (s := sk t n p) (lw t n (sk t n p) - sk t n p) (fun i hi => by
    obtain ⟨k, q1, q2, q3⟩ := let_n (of_decide_eq_true (a3 (sk t n p + i) (by omega) (by unfold lw at hi; omega)))
    rw [q3, nI_clamp (by omega)]; omega)
  rw [h3] at lt
  by_cases c : lw t n (sk t n p) - sk t n p ≤ 2
  · have := Nat.pow_le_pow_right (n := 256) (by decide) c
    omega
  · omega
theorem gd_f {t : Row} {n : Nat} (hn : n ≤ 400) : ∀ e, GdF n [] [true] (gF t n e) := by
  intro e
  induction e with
  | zero =>
    intro s h
    rw [gF]
    by_cases o : isH t n s.1 7237492 = true
    · rw [if_pos o]; exact GdP.x
    · rw [if_neg o]
      by_cases z : bya t n (sk t n s.1) = 91
      · rw [if_pos z]; exact GdP.x
      · rw [if_neg z]; exact gd_cp hn s h
  | succ d ih =>
    intro s h
    have sl := sk_le (t := t) h
    rw [gF]
    by_cases o : isH t n s.1 7237492 = true
    · rw [if_pos o]
      have c := isH_lt h o
      have c3 := isH_3 h o
      intro st w g2 g3 g4
      have g3' : st.length ≤ s.2.1 := by rw [List.length_nil, Nat.zero_add] at g3; exact g3
      have g4' : 3 * s.2.2.length + 3 * st.length + w ≤ 6 * s.2.1 + s.1 := by rw [List.length_nil, Nat.zero_add] at g4; exact g4
      obtain ⟨x1, x2⟩ := ih (lw t n (sk t n s.1), s.2) c.2.1 st (w + 3) g2 g3 (by
        show 3 * s.2.2.length + 3 * (0 + st.length) + (w + 3) ≤ 6 * s.2.1 + lw t n (sk t n s.1)
        omega)
      cases q : gF t n d (lw t n (sk t n s.1), s.2) with
      | none => exact absurd q x1
      | some v =>
        cases v with
        | inl z => exact ⟨fun y => gX_nn y, fun _ y => (gX_k y).elim⟩
        | inr s1 =>
          obtain ⟨a1, a2, a3, a4, a5, a6, N, a7, a8, a9⟩ := x2 s1 q
          have a1' : lw t n (sk t n s.1) ≤ s1.1 := a1
          have a3' : s.2.1 ≤ s1.2.1 := a3
          have a7' : s1.2.2 = N ++ s.2.2 := a7
          rw [List.length_singleton] at a5 a6
          have l : s1.2.2.length < 256 := by omega
          have e : gB (some (Sum.inr s1)) (gEm 11 0) = gK (s1.1, s1.2.1, (11, 0) :: s1.2.2) := by
            show gEm 11 0 s1 = _
            unfold gEm
            rw [if_pos l]
          rw [e]
          refine ⟨fun y => gK_nn y, fun s' e => ?_⟩
          have := gK_inj e
          subst this
          refine ⟨?_, a2, a3', a4, ?_, ?_, (11, 0) :: N, ?_, ?_, fun z hz => ?_⟩
          · show s.1 ≤ s1.1; omega
          · show [true].length + st.length ≤ s1.2.1
            rw [List.length_singleton]; omega
          · show 3 * ((11, 0) :: s1.2.2).length + 3 * ([true].length + st.length) + w ≤ 6 * s1.2.1 + s1.1
            rw [List.length_cons, List.length_singleton]; omega
          · show (11, 0) :: s1.2.2 = _
            rw [a7']; rfl
          · show (tyL N ([] ++ st)).bind _ = _
            rw [a8]
            rfl
          · rcases List.mem_cons.mp hz with y | y
            · subst y; exact ⟨by decide, by decide⟩
            · exact a9 z y
    · rw [if_neg o]
      by_cases z : bya t n (sk t n s.1) = 91
      · rw [if_pos z]
        have := bya_c z (by decide)
        exact GdP.b (GdP.mv (gd_ts hn ih) (by omega) (by omega)) gd_cl
      · rw [if_neg z]; exact gd_cp hn s h
