/-! ===== settled: rows as codes ===== -/
def dgE (b e P : Nat) : Nat → Nat := fun i => if i < e then P / b ^ (e - 1 - i) % b else 0
theorem dgE_s {b e P j : Nat} (hb : 0 < b) (hj : j < b) : dgE b (e + 1) (P * b + j) = fun i => if i = e then j else dgE b e P i := by
  funext i
  unfold dgE
  have q1 : (P * b + j) / b = P := by rw [Nat.mul_comm P b, Nat.mul_add_div hb, Nat.div_eq_of_lt hj, Nat.add_zero]
  rcases Nat.lt_trichotomy i e with z | z | z
  · rw [if_pos (by omega), if_neg (by omega), if_pos z, show e + 1 - 1 - i = (e - 1 - i) + 1 by omega, Nat.pow_succ, Nat.mul_comm (b ^ (e - 1 - i)) b, ← Nat.div_div_eq_div_mul, q1]
  · rw [if_pos (by omega), if_pos z, show e + 1 - 1 - i = 0 by omega, Nat.pow_zero, Nat.div_one, Nat.mul_comm P b, Nat.mul_add_mod, Nat.mod_eq_of_lt hj]
  · rw [if_neg (by omega), if_neg (by omega), if_neg (by omega)]
theorem dgE_lt {b e P i : Nat} (hb : 0 < b) : dgE b e P i < b := by
  unfold dgE
  split
  · exact Nat.mod_lt _ hb
  · exact hb
theorem dgE_hi {b e P i : Nat} (h : e ≤ i) : dgE b e P i = 0 := by unfold dgE; rw [if_neg (by omega)]
/-- the digits are a row -/
abbrev VD (S : Row) (d : Nat → Nat) (n : Nat) : Prop := ∀ e, e < n → d e = 0 ∨ (canJ S e (d e - 1) ∧ ∀ e', e' < n → e' = e ∨ ¬ d e' = d e)
def rwD (d : Nat → Nat) : Row := fun e => if d e = 0 then -1 else nI (d e - 1)
def hoD (d : Nat → Nat) : Nat → Nat → Int32
  | 0, _ => -1
  | n + 1, w => if d n = w + 1 then nI n else hoD d n w
theorem hoD_c (d : Nat → Nat) (w : Nat) : ∀ n, (hoD d n w = -1 ∧ ∀ i, i < n → ¬ d i = w + 1) ∨ ∃ i, i < n ∧ hoD d n w = nI i ∧ d i = w + 1 := by
  intro n
  induction n with
  | zero => exact Or.inl ⟨rfl, fun i hi => by omega⟩
  | succ n ih =>
    rw [hoD]
    by_cases z : d n = w + 1
    · rw [if_pos z]; exact Or.inr ⟨n, by omega, rfl, z⟩
    · rw [if_neg z]
      rcases ih with ⟨a, b⟩ | ⟨i, hi, a, b⟩
      · refine Or.inl ⟨a, fun i hi => ?_⟩
        by_cases y : i = n
        · rw [y]; exact z
        · exact b i (by omega)
      · exact Or.inr ⟨i, by omega, a, b⟩
theorem hoD_congr {d d' : Nat → Nat} {w : Nat} : ∀ n, (∀ i, i < n → d' i = d i) → hoD d' n w = hoD d n w := by
  intro n
  induction n with
  | zero => intro _; rfl
  | succ n ih => intro h; rw [hoD, hoD, h n (by omega), ih (fun i hi => h i (by omega))]
/-- the leaf -/
def LF (S : Row) (d : Nat → Nat) (a : Acc) : Acc := if VD S d (nE S) then tk S (rwD d) (hoD d (nE S)) a else a
def nsL (g : Nat → Acc → Acc) : Nat → Nat → Acc → Acc
  | 0, _, a => a
  | n + 1, P, a => nsL g n (P + 1) (g P a)
def nst (S : Row) (b : Nat) : Nat → Nat → Nat → Acc → Acc
  | 0, e, P, a => LF S (dgE b e P) a
  | k + 1, e, P, a => nsL (fun Q c => nst S b k (e + 1) Q c) b (P * b) a
theorem nsL_id {g : Nat → Acc → Acc} : ∀ n P a, (∀ Q, P ≤ Q → Q < P + n → ∀ c, g Q c = c) → nsL g n P a = a := by
  intro n
  induction n with
  | zero => intro P a _; rfl
  | succ n ih => intro P a h; rw [nsL, h P (by omega) (by omega), ih (P + 1) a (fun Q h1 h2 c => h Q (by omega) (by omega) c)]
theorem nsL_app {g : Nat → Acc → Acc} : ∀ m n P a, nsL g (m + n) P a = nsL g n (P + m) (nsL g m P a) := by
  intro m
  induction m with
  | zero => intro n P a; rw [Nat.zero_add, nsL, Nat.add_zero]
  | succ m ih => intro n P a; rw [show m + 1 + n = (m + n) + 1 by omega, nsL, nsL, ih n (P + 1) (g P a), show P + 1 + m = P + (m + 1) by omega]
theorem nsL_congr {g g' : Nat → Acc → Acc} : ∀ n P a, (∀ Q, P ≤ Q → Q < P + n → ∀ c, g Q c = g' Q c) → nsL g n P a = nsL g' n P a := by
  intro n
  induction n with
  | zero => intro P a _; rfl
  | succ n ih => intro P a h; rw [nsL, nsL, h P (by omega) (by omega), ih (P + 1) (g' P a) (fun Q h1 h2 c => h Q (by omega) (by omega) c)]
theorem nsL_mul {F : Nat → Acc → Acc} (m : Nat) : ∀ n Q a, nsL (fun q c => nsL F m (q * m) c) n Q a = nsL F (n * m) (Q * m) a := by
  intro n
  induction n with
  | zero => intro Q a; rw [Nat.zero_mul]; rfl
  | succ n ih => intro Q a; rw [nsL, ih (Q + 1), show (Q + 1) * m = Q * m + m from Nat.succ_mul Q m, show (n + 1) * m = m + n * m by rw [Nat.succ_mul, Nat.add_comm], nsL_app m (n * m)]
theorem nst_lin {S : Row} {b : Nat} : ∀ k e P a, nst S b k e P a = nsL (fun c x => LF S (dgE b (e + k) c) x) (b ^ k) (P * b ^ k) a := by
  intro k
  induction k with
  | zero => intro e P a; rw [nst, Nat.pow_zero, Nat.mul_one]; rfl
  | succ k ih =>
    intro e P a
    rw [nst]
    have h1 : nsL (fun Q c => nst S b k (e + 1) Q c) b (P * b) a = nsL (fun Q c => nsL (fun c x => LF S (dgE b (e + 1 + k) c) x) (b ^ k) (Q * b ^ k) c) b (P * b) a := nsL_congr b (P * b) a (fun Q _ _ c => ih (e + 1) Q c)
    rw [h1, nsL_mul (b ^ k) b (P * b) a, show e + 1 + k = e + (k + 1) by omega, Nat.pow_succ, Nat.mul_comm (b ^ k) b, Nat.mul_assoc]
theorem VD_pre {S : Row} {d d' : Nat → Nat} {n : Nat} (h : ∀ i, i < n → d' i = d i) (v : VD S d' (n + 1)) : VD S d n := by
  intro e he
  rcases v e (by omega) with z | ⟨z1, z2⟩
  · exact Or.inl (by rw [← h e he]; exact z)
  · refine Or.inr ⟨by rw [← h e he]; exact z1, fun e' he' => ?_⟩
    have := z2 e' (by omega)
    rw [h e he, h e' he'] at this
    exact this
theorem nst_bad {S : Row} {b : Nat} (hb : 0 < b) : ∀ k e P a, e + k = nE S → ¬ VD S (dgE b e P) e → nst S b k e P a = a := by
  intro k
  induction k with
  | zero =>
    intro e P a he h
    have : e = nE S := by omega
    rw [nst, LF, if_neg (by rw [← this]; exact h)]
  | succ k ih =>
    intro e P a he h
    rw [nst]
    refine nsL_id b (P * b) a (fun Q h1 h2 c => ?_)
    obtain ⟨j, hj, ej⟩ : ∃ j, j < b ∧ Q = P * b + j := ⟨Q - P * b, by omega, by omega⟩
    refine ih (e + 1) Q c (by omega) (fun v => h ?_)
    rw [ej, dgE_s hb hj] at v
    exact VD_pre (fun i hi => by show (if i = e then j else dgE b e P i) = dgE b e P i; rw [if_neg (by omega)]) v
theorem VD_0 {S : Row} {d : Nat → Nat} {n : Nat} (v : VD S d n) (z : d n = 0) : VD S d (n + 1) := by
  intro e he
  by_cases y : e = n
  · rw [y]; exact Or.inl z
  · rcases v e (by omega) with w | ⟨w1, w2⟩
    · exact Or.inl w
    · by_cases x : d e = 0
      · exact Or.inl x
      · refine Or.inr ⟨w1, fun e' he' => ?_⟩
        by_cases u : e' = n
        · rw [u, z]; exact Or.inr (fun t => x t.symm)
        · exact w2 e' (by omega)
theorem VD_w {S : Row} {d : Nat → Nat} {n w : Nat} (v : VD S d n) (f : ∀ i, i < n → ¬ d i = w + 1) (c : canJ S n w) : VD S (fun i => if i = n then w + 1 else d i) (n + 1) := by
  intro e he
  show (if e = n then w + 1 else d e) = 0 ∨ (canJ S e ((if e = n then w + 1 else d e) - 1) ∧ ∀ e', e' < n + 1 → e' = e ∨ ¬ (if e' = n then w + 1 else d e') = (if e = n then w + 1 else d e))
  by_cases y : e = n
  · rw [if_pos y]
    refine Or.inr ⟨by rw [y]; exact c, fun e' he' => ?_⟩
    by_cases u : e' = n
    · exact Or.inl (by omega)
    · rw [if_neg u]; exact Or.inr (f e' (by omega))
  · rw [if_neg y]
    rcases v e (by omega) with z | ⟨z1, z2⟩
    · exact Or.inl z
    · refine Or.inr ⟨z1, fun e' he' => ?_⟩
      by_cases u : e' = n
      · rw [if_pos u]; exact Or.inr (fun t => f e (by omega) t.symm)
      · rw [if_neg u]; exact z2 e' (by omega)
theorem chS_nst {S : Row} (vS : VS S) {b : Nat} (eb : b = nW S + 1) : ∀ k e P a, e + k = nE S → VD S (dgE b e P) e → chS S k e (rwD (dgE b e P)) (hoD (dgE b e P) e) a = nst S b k e P a := by
  have hb : 0 < b := by omega
  have v3 := vS.e3.2
  intro k
  induction k with
  | zero =>
    intro e P a he v
    have : e = nE S := by omega
    rw [chS, nst, LF, if_pos (by rw [← this]; exact v), ← this]
  | succ k ih =>
    intro e P a he v
    obtain ⟨d, ed⟩ : ∃ d, d = dgE b e P := ⟨_, rfl⟩
    have de : d e = 0 := by rw [ed]; exact dgE_hi (Nat.le_refl e)
    have d0 : dgE b (e + 1) (P * b) = d := by
      have this : dgE b (e + 1) (P * b) = fun i => if i = e then 0 else dgE b e P i := dgE_s (e := e) (P := P) (j := 0) hb hb
      rw [this, ed]
      funext i
      show (if i = e then 0 else dgE b e P i) = dgE b e P i
      by_cases y : i = e
      · rw [if_pos y, y, dgE_hi (Nat.le_refl e)]
      · rw [if_neg y]
    have h0 : (hoD d (e + 1)) = (hoD d e) := by
      funext w
      rw [hoD, de, if_neg (by omega)]
    have s0 : ∀ c, chS S k (e + 1) (rwD d) (hoD d e) c = nst S b k (e + 1) (P * b) c := fun c => by
      have := ih (e + 1) (P * b) c (by omega) (by rw [d0]; exact VD_0 (by rw [ed]; exact v) de)
      rw [d0, h0] at this
      exact this
    rw [← ed] at v ⊢
    have lp : ∀ n w c, w + n = nW S → chL S e (rwD d) (hoD d e) (fun r o x => chS S k (e + 1) r o x) n w c = nsL (fun Q c => nst S b k (e + 1) Q c) n (P * b + 1 + w) c := by
      intro n
      induction n with
      | zero => intro w c _; rfl
      | succ n ihn =>
        intro w c hw
        have hj : w + 1 < b := by omega
        have dw : dgE b (e + 1) (P * b + 1 + w) = fun i => if i = e then w + 1 else d i := by
          rw [show P * b + 1 + w = P * b + (w + 1) by omega, dgE_s hb hj, ed]
        have st : (if hoD d e w < 0 ∧ canJ S e w then chS S k (e + 1) (upd (rwD d) e (nI w)) (upd (hoD d e) w (nI e)) c else c) = nst S b k (e + 1) (P * b + 1 + w) c := by
          rcases hoD_c d w e with ⟨z1, z2⟩ | ⟨i, hi, z1, z2⟩
          · by_cases cj : canJ S e w
            · have vd := VD_w v z2 cj
              have r1 : rwD (fun i => if i = e then w + 1 else d i) = upd (rwD d) e (nI w) := by
                funext i
                by_cases y : i = e
                · rw [y, upd_at]
                  show (if (if e = e then w + 1 else d e) = 0 then -1 else nI ((if e = e then w + 1 else d e) - 1)) = nI w
                  rw [if_pos rfl, if_neg (by omega)]; rfl
                · rw [upd_ne _ _ y]
                  show (if (if i = e then w + 1 else d i) = 0 then -1 else nI ((if i = e then w + 1 else d i) - 1)) = (if d i = 0 then -1 else nI (d i - 1))
                  rw [if_neg y]
              have r2 : hoD (fun i => if i = e then w + 1 else d i) (e + 1) = upd (hoD d e) w (nI e) := by
                funext x
                rw [hoD]
                show (if (if e = e then w + 1 else d e) = x + 1 then nI e else hoD (fun i => if i = e then w + 1 else d i) e x) = _
                rw [if_pos rfl, hoD_congr (d := d) e (fun i hi => by show (if i = e then w + 1 else d i) = d i; rw [if_neg (by omega)])]
                by_cases y : x = w
                · rw [y, upd_at, if_pos rfl]
                · rw [upd_ne _ _ y, if_neg (by omega)]
              have iv := ih (e + 1) (P * b + 1 + w) c (by omega) (by rw [dw]; exact vd)
              rw [dw, r1, r2] at iv
              rw [if_pos ⟨by rw [z1]; decide, cj⟩, iv]
            · rw [if_neg (fun y => cj y.2), nst_bad hb k (e + 1) (P * b + 1 + w) c (by omega)]
              rw [dw]
              intro vv
              rcases vv e (by omega) with y | ⟨y, _⟩
              · have y' : (if e = e then w + 1 else d e) = 0 := y
                rw [if_pos rfl] at y'; omega
              · have y' : canJ S e ((if e = e then w + 1 else d e) - 1) := y
                rw [if_pos rfl] at y'
                exact cj y'
          · have ni : ¬ hoD d e w < 0 := by rw [z1]; exact nI_pos (by omega)
            rw [if_neg (fun y => ni y.1), nst_bad hb k (e + 1) (P * b + 1 + w) c (by omega)]
            rw [dw]
            intro vv
            rcases vv e (by omega) with y | ⟨_, y⟩
            · have y' : (if e = e then w + 1 else d e) = 0 := y
              rw [if_pos rfl] at y'; omega
            · rcases y i (by omega) with t | t
              · omega
              · have t' : ¬ (if i = e then w + 1 else d i) = (if e = e then w + 1 else d e) := t
                rw [if_pos rfl, if_neg (by omega)] at t'
                exact t' z2
        rw [chL, nsL, st, ihn (w + 1) _ (by omega), show P * b + 1 + (w + 1) = P * b + 1 + w + 1 by omega]
    rw [chS, nst, s0 a, lp (nW S) 0 _ (by omega), Nat.add_zero]
    have : b = nW S + 1 := eb
    rw [show nsL (fun Q c => nst S b k (e + 1) Q c) b (P * b) a = nsL (fun Q c => nst S b k (e + 1) Q c) (nW S + 1) (P * b) a by rw [← this], nsL]
