/-! ===== words: class ===== -/
def eqs (t ch : Row) (s a : Nat) : Nat → Nat → Bool
  | 0, _ => true
  | k + 1, i => decide (t (s + i) = ch (a + i)) && eqs t ch s a k (i + 1)
theorem eqs_iff {t ch : Row} {s a : Nat} : ∀ k i, eqs t ch s a k i = true ↔ ∀ j, i ≤ j → j < i + k → t (s + j) = ch (a + j) := by
  intro k
  induction k with
  | zero => intro i; exact ⟨fun _ j h1 h2 => by omega, fun _ => rfl⟩
  | succ k ih =>
    intro i
    rw [eqs, Bool.and_eq_true, ih (i + 1)]
    constructor
    · rintro ⟨h1, h2⟩ j p q
      by_cases y : j = i
      · rw [y]; exact of_decide_eq_true h1
      · exact h2 j (by omega) (by omega)
    · intro h0
      exact ⟨decide_eq_true (h0 i (Nat.le_refl i) (by omega)), fun j p q => h0 j (by omega) (by omega)⟩
def TAB (A L : Nat) (ch : Row) : Prop := sLn A = some (nI L) ∧ L ≤ 100 ∧ ∀ i, i < L → sCh A (nI i) = some (ch i)
theorem byteC2 {h : aH} {t : Row} {n : Nat} (b : TB h t n) (p : Nat) (f : Int32) {q : Nat} (hq : q ≤ 1000) : f_X9_byteAt (cS h p f) 1 (nI q) = some (bya t n q, cS h p f) := by
  by_cases w : q ≤ 400
  · exact byteC b p f w
  · have b1 := b.2.1
    have b2 := b.2.2.1
    unfold bya
    simp only [f_X9_byteAt, if_neg (nI_pos (show q < 2 ^ 31 by omega)), q_1, cS_11, b1, if_pos (nI_le (show n ≤ q by omega) (show q < 2 ^ 31 by omega)), if_neg (show ¬ q < n by omega)]
def eqa (t ch : Row) (n s a : Nat) : Nat → Bool
  | 0 => true
  | j + 1 => eqa t ch n s a j && decide (bya t n (s + j) = ch (a + j))
theorem eqa_iff {t ch : Row} {n s a : Nat} : ∀ k, eqa t ch n s a k = true ↔ ∀ j, j < k → bya t n (s + j) = ch (a + j) := by
  intro k
  induction k with
  | zero => exact ⟨fun _ j h1 => absurd h1 (Nat.not_lt_zero j), fun _ => rfl⟩
  | succ k ih =>
    rw [eqa, Bool.and_eq_true, ih]
    constructor
    · rintro ⟨h1, h2⟩ j p
      by_cases y : j = k
      · rw [y]; exact of_decide_eq_true h2
      · exact h1 j (by omega)
    · intro h0
      exact ⟨fun j p => h0 j (by omega), decide_eq_true (h0 k (by omega))⟩
theorem bB_tr : bB true = 1 := rfl
theorem bB_fa : bB false = 0 := rfl
theorem low_vv : ∀ k, k < 128 → nI k &&& 255 = nI k := by decide +kernel
/-- one letter of the table -/
theorem takeW_i {h : aH} {t : Row} {n : Nat} (b : TB h t n) {A L : Nat} {ch : Row} (tb : TAB A L ch) {s a j : Nat} (f x3 x4 : Int32) (hs : s ≤ 400) (hj : a + j < L) (nb : ¬ ch (a + j) = 32) (m : Nat) :
    f_X9_takeWord_45 (m + 1) (cS h s f) 1 A (nI s) x3 x4 (nI (s + j)) (bB (eqa t ch n s a j)) (nI (a + j)) = f_X9_takeWord_45 m (cS h s f) 1 A (nI s) x3 x4 (nI (s + (j + 1))) (bB (eqa t ch n s a (j + 1))) (nI (a + (j + 1))) := by
  have L1 := tb.2.1
  have c1 : ¬ nI L < nI (a + j) := nI_nlt (by omega) (by omega)
  have c2 : ¬ nI L ≤ nI (a + j) := nI_ge hj (by omega)
  have by' := byteC2 b s f (q := s + j) (by omega)
  show b_X9_takeWord_45 (f_X9_takeWord_45 m) (cS h s f) 1 A (nI s) x3 x4 (nI (s + j)) (bB (eqa t ch n s a j)) (nI (a + j)) = _
  simp only [b_X9_takeWord_45, tb.1, Option.bind_some, if_neg c1, if_neg c2, tb.2.2 (a + j) hj, if_neg nb, q_1, by', aBind_some, b_X9_takeWord_98, b_X9_takeWord_99, b_X9_takeWord_135, bB_0, i1, Nat.add_assoc]
  rw [show eqa t ch n s a (j + 1) = (eqa t ch n s a j && decide (bya t n (s + j) = ch (a + j))) from rfl]
  cases eqa t ch n s a j with
  | false => rw [Bool.false_and, if_neg Bool.false_ne_true, bB_fa]
  | true =>
    rw [Bool.true_and, if_pos (rfl : true = true)]
    by_cases y : bya t n (s + j) = ch (a + j)
    · rw [if_pos y, decide_eq_true y, bB_tr]
    · rw [if_neg y, decide_eq_false y, bB_fa]
theorem takeW_w {h : aH} {t : Row} {n : Nat} (b : TB h t n) {A L : Nat} {ch : Row} (tb : TAB A L ch) {s a z : Nat} (f x3 x4 : Int32) (hs : s ≤ 400) (hzL : z ≤ L) (nb : ∀ i, a ≤ i → i < z → ¬ ch i = 32) : ∀ j, a + j ≤ z → ∀ m, f_X9_takeWord_45 (m + j) (cS h s f) 1 A (nI s) x3 x4 (nI s) 1 (nI a) = f_X9_takeWord_45 m (cS h s f) 1 A (nI s) x3 x4 (nI (s + j)) (bB (eqa t ch n s a j)) (nI (a + j)) := by
  intro j
  induction j with
  | zero => intro _ m; rfl
  | succ j ih =>
    intro hj m
    rw [show m + (j + 1) = m + 1 + j by omega, ih (by omega) (m + 1)]
    exact takeW_i b tb f x3 x4 hs (by omega) (nb (a + j) (by omega) (by omega)) m
def mtB (t ch : Row) (s e a z : Nat) : Bool := decide (z - a = e - s) && eqs t ch s a (z - a) 0
/-- a word of the table -/
theorem takeW_s {h : aH} {t : Row} {n : Nat} (b : TB h t n) {A L : Nat} {ch : Row} (tb : TAB A L ch) {s e a z k : Nat} (f : Int32) (hse : s ≤ e) (hen : e ≤ n) (hl : ∀ j, s ≤ j → j < e → 97 ≤ t j ∧ t j ≤ 122) (haz : a ≤ z) (hzL : z ≤ L) (nb : ∀ i, a ≤ i → i < z → ¬ ch i = 32) (eb : z < L → ch z = 32) (m : Nat) :
    f_X9_takeWord_45 (m + 1 + (z - a)) (cS h s f) 1 A (nI s) (nI e) (nI k) (nI s) 1 (nI a) = if mtB t ch s e a z = true then some (nI k, cS h e f) else f_X9_takeWord_45 m (cS h s f) 1 A (nI s) (nI e) (nI (k + 1)) (nI s) 1 (nI (z + 1)) := by
  have b2 := b.2.2.1
  have L1 := tb.2.1
  have mt : mtB t ch s e a z = (eqa t ch n s a (z - a) && decide (s + (z - a) = e)) := by
    unfold mtB
    by_cases y : s + (z - a) = e
    · rw [decide_eq_true (show z - a = e - s by omega), decide_eq_true y, Bool.true_and, Bool.and_true]
      refine Bool.eq_iff_iff.mpr ?_
      rw [eqs_iff, eqa_iff]
      have v : ∀ j, j < z - a → bya t n (s + j) = t (s + j) := fun j hj => by
        have q := hl (s + j) (by omega) (by omega)
        obtain ⟨k, hk, ek⟩ := btw_nI (M := 122) (m := 122) ⟨Int32.le_trans (by decide) q.1, q.2⟩ (by decide)
        unfold bya
        rw [if_pos (show s + j < n by omega), ek]
        exact low_vv k (by omega)
      exact ⟨fun w j hj => (v j hj).trans (w j (Nat.zero_le j) (by omega)), fun w j _ hj => (v j (by omega)).symm.trans (w j (by omega))⟩
    · rw [decide_eq_false (show ¬ z - a = e - s by omega), decide_eq_false y, Bool.false_and, Bool.and_false]
  have key : b_X9_takeWord_107 (f_X9_takeWord_45 m) (cS h s f) 1 A (nI s) (nI e) (nI k) (nI (s + (z - a))) (bB (eqa t ch n s a (z - a))) (nI z) = if mtB t ch s e a z = true then some (nI k, cS h e f) else f_X9_takeWord_45 m (cS h s f) 1 A (nI s) (nI e) (nI (k + 1)) (nI s) 1 (nI (z + 1)) := by
    simp only [b_X9_takeWord_107, b_X9_takeWord_126, b_X9_takeWord_135, bB_0, q_1, aLet, cS_p, i1]
    rw [mt]
    cases eqa t ch n s a (z - a) with
    | false => rw [Bool.false_and, if_neg Bool.false_ne_true, if_neg Bool.false_ne_true]
    | true =>
      rw [Bool.true_and, if_pos (rfl : true = true)]
      by_cases y : s + (z - a) = e
      · rw [if_pos (show nI (s + (z - a)) = nI e by rw [y]), decide_eq_true y, if_pos (rfl : true = true)]
      · rw [if_neg (show ¬ nI (s + (z - a)) = nI e from fun w => y ((nI_eq (by omega) (by omega)).mp w)), decide_eq_false y, if_neg Bool.false_ne_true]
  rw [takeW_w b tb f (nI e) (nI k) (by omega) hzL nb (z - a) (by omega) (m + 1), show a + (z - a) = z by omega]
  show b_X9_takeWord_45 (f_X9_takeWord_45 m) (cS h s f) 1 A (nI s) (nI e) (nI k) (nI (s + (z - a))) (bB (eqa t ch n s a (z - a))) (nI z) = _
  rw [← key]
  have c1 : ¬ nI L < nI z := nI_nlt hzL (by omega)
  by_cases y : z < L
  · simp only [b_X9_takeWord_45, tb.1, Option.bind_some, if_neg c1, if_neg (nI_ge y (show L < 2 ^ 31 by omega)), tb.2.2 z y, if_pos (eb y)]
  · simp only [b_X9_takeWord_45, tb.1, Option.bind_some, if_neg c1, if_pos (nI_le (show L ≤ z by omega) (show z < 2 ^ 31 by omega))]
theorem takeW_e {h : aH} {A L : Nat} {ch : Row} (tb : TAB A L ch) {s : Nat} {a : Nat} (f x3 x4 x5 x6 : Int32) (ha : L < a) (ha2 : a ≤ 200) (m : Nat) : f_X9_takeWord_45 (m + 1) (cS h s f) 1 A (nI s) x3 x4 x5 x6 (nI a) = some (-1, cS h s f) := by
  show b_X9_takeWord_45 (f_X9_takeWord_45 m) (cS h s f) 1 A (nI s) x3 x4 x5 x6 (nI a) = _
  simp only [b_X9_takeWord_45, tb.1, Option.bind_some, if_pos (nI_lt ha (show a < 2 ^ 31 by omega))]
theorem takeW_0 {h : aH} {t : Row} {n : Nat} (b : TB h t n) (A : Nat) {p : Nat} (hp : p ≤ n) (f : Int32) : f_X9_takeWord (cS h p f) 1 A = f_X9_takeWord_45 2000 (cS h (sk t n p) f) 1 A (nI (sk t n p)) (nI (lw t n (sk t n p))) (nI 0) (nI (sk t n p)) 1 (nI 0) := by
  obtain ⟨hS, b1, b2, b3⟩ := b
  have b : TB h t n := ⟨hS, b1, b2, b3⟩
  have s := sk_le (t := t) hp
  have sk' := seekC b hp f
  obtain ⟨S0, eS0⟩ : ∃ s, s = sk t n p := ⟨_, rfl⟩
  rw [← eS0] at s sk' ⊢
  obtain ⟨a1, a2, a3, a4⟩ := fd_s (ble t) (p := S0) s.2
  have key : f_X9_takeWord_7 2000 (cS h S0 f) 1 A (nI S0) (nI S0) = b_X9_takeWord_33 (cS h S0 f) 1 A (nI S0) (nI (lw t n S0)) := by
    refine itLoop (σ := Int32) (fun k x => f_X9_takeWord_7 k (cS h S0 f) 1 A (nI S0) x) (fun i x => x = nI (S0 + i)) (fun o => o = b_X9_takeWord_33 (cS h S0 f) 1 A (nI S0) (nI (lw t n S0))) (lw t n S0 - S0) ?_ ?_ 2000 0 (nI S0) rfl (by omega) (by unfold lw; omega)
    · rintro k i _ hi rfl
      have q1 : S0 + i < fd (ble t) n S0 := by unfold lw at hi; omega
      have lt : 97 ≤ t (S0 + i) ∧ t (S0 + i) ≤ 122 := of_decide_eq_true (a3 (S0 + i) (by omega) q1)
      have c : ¬ nI n ≤ nI (S0 + i) := nI_ge (by omega) (by omega)
      have bt := (b3 (S0 + i) (by omega)).2
      have by' := byteC b S0 f (q := S0 + i) (by omega)
      unfold bya at by'
      rw [if_pos (by omega)] at by'
      have dd := isLetC (cS h S0 f) bt
      rw [decide_eq_true lt] at dd
      refine Or.inr ⟨_, rfl, ?_⟩
      show b_X9_takeWord_7 (f_X9_takeWord_7 k) (cS h S0 f) 1 A (nI S0) (nI (S0 + i)) = f_X9_takeWord_7 k (cS h S0 f) 1 A (nI S0) (nI (S0 + (i + 1)))
      simp only [b_X9_takeWord_7, q_1, cS_11, b1, if_neg c, by', aBind_some, dd, bB, if_neg (show ¬ (1 : Int32) = 0 by decide), i1, Nat.add_assoc]
    · rintro k _ rfl
      rw [show S0 + (lw t n S0 - S0) = lw t n S0 by unfold lw; omega]
      show b_X9_takeWord_7 (f_X9_takeWord_7 k) (cS h S0 f) 1 A (nI S0) (nI (lw t n S0)) = _
      by_cases c : lw t n S0 < n
      · have c' : ¬ nI n ≤ nI (lw t n S0) := nI_ge c (by omega)
        have bt := (b3 (lw t n S0) (by omega)).2
        have by' := byteC b S0 f (q := lw t n S0) (by omega)
        unfold bya at by'
        rw [if_pos c] at by'
        have nd : ¬ (97 ≤ t (lw t n S0) ∧ t (lw t n S0) ≤ 122) := of_decide_eq_false (a4 c)
        have dd := isLetC (cS h S0 f) bt
        rw [decide_eq_false nd] at dd
        simp only [b_X9_takeWord_7, q_1, cS_11, b1, if_neg c', by', aBind_some, dd, bB, if_true]
      · have c' : nI n ≤ nI (lw t n S0) := nI_le (by omega) (by have : lw t n S0 ≤ n := a2; omega)
        simp only [b_X9_takeWord_7, q_1, cS_11, b1, if_pos c']
  simp only [f_X9_takeWord, q_1, sk', aBind_some]
  rw [key]
  rfl
