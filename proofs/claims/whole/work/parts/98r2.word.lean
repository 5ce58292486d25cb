/-! ===== words: class ===== -/
def eqs (t ch : Row) (s a : Nat) : Nat → Nat → Bool
  | 0, _ => true
  | k + 1, i => decide (t (s + i) = ch (a + i)) && eqs t ch s a k (i + 1)
theorem eqs_iff {t ch : Row} {s a : Nat} : ∀ k i, eqs t ch s a k i = true ↔ ∀ j, i ≤ j → j < i + k → t (s + j) = ch (a + j) := by
  intro k
  induction k with
  | zero => intro i; exact ⟨fun _ j h1 h2 => by omega, fun _ => rfl⟩
  | succ k ih =>
    intro i
    rw [eqs, Bool.and_eq_true, ih (i + 1)]
    constructor
    · rintro ⟨h1, h2⟩ j p q
      by_cases y : j = i
      · rw [y]; exact of_decide_eq_true h1
      · exact h2 j (by omega) (by omega)
    · intro h0
      exact ⟨decide_eq_true (h0 i (Nat.le_refl i) (by omega)), fun j p q => h0 j (by omega) (by omega)⟩
def TAB (A L : Nat) (ch : Row) : Prop := sLn A = some (nI L) ∧ L ≤ 100 ∧ ∀ i, i < L → sCh A (nI i) = some (ch i)
theorem isSameC {h : aH} {t : Row} {n : Nat} (b : TB h t n) {A L : Nat} {ch : Row} (tb : TAB A L ch) {s a z : Nat} (f : Int32) (haz : a ≤ z) (hz : z ≤ L) (hs : s + (z - a) ≤ n) : f_X9_isSame (cS h s f) 1 A (nI a) (nI z) = some (bB (eqs t ch s a (z - a) 0), cS h s f) := by
  obtain ⟨hS, b1, b2, b3⟩ := b
  have L1 := tb.2.1
  refine itLoop (σ := Int32) (fun k x => f_X9_isSame_3 k (cS h s f) 1 A (nI a) (nI z) x) (fun i x => x = nI (a + i) ∧ eqs t ch s a (z - a - i) i = eqs t ch s a (z - a) 0) (fun o => o = some (bB (eqs t ch s a (z - a) 0), cS h s f)) (z - a) ?_ ?_ 2000 0 (nI a) ⟨rfl, rfl⟩ (by omega) (by omega)
  · rintro k i _ hi ⟨rfl, e⟩
    have c : ¬ nI z ≤ nI (a + i) := nI_ge (by omega) (by omega)
    have c2 : ¬ nI n ≤ nI (s + i) := nI_ge (by omega) (by omega)
    have at' : nI s + nI (a + i) - nI a = nI (s + i) := by rw [nI_add, pk_sub (by omega)]; congr 1; omega
    have tj : hI (cS h s f) 2 (s + i) = t (s + i) := by rw [cS_o _ _ _ (by decide), (b3 _ (by omega)).1]
    rw [show z - a - i = (z - a - (i + 1)) + 1 by omega, eqs] at e
    have hd : f_X9_isSame_3 (k + 1) (cS h s f) 1 A (nI a) (nI z) (nI (a + i)) = if t (s + i) = ch (a + i) then f_X9_isSame_3 k (cS h s f) 1 A (nI a) (nI z) (nI (a + (i + 1))) else some (0, cS h s f) := by
      show b_X9_isSame_3 (f_X9_isSame_3 k) (cS h s f) 1 A (nI a) (nI z) (nI (a + i)) = _
      simp only [b_X9_isSame_3, if_neg c, q_1, cS_12, at', aLet, cS_11, b1, if_neg c2, cS_R, r_1_0 hS, Option.bind_some, q_2, if_pos (in_2 (show s + i < 400 by omega)), nI_clamp (show s + i < 2 ^ 31 by omega), tj, tb.2.2 (a + i) (by omega), i1, Nat.add_assoc]
    by_cases y : t (s + i) = ch (a + i)
    · rw [decide_eq_true y, Bool.true_and] at e
      rw [if_pos y] at hd
      exact Or.inr ⟨_, ⟨rfl, e⟩, hd⟩
    · rw [decide_eq_false y, Bool.false_and] at e
      rw [if_neg y] at hd
      exact Or.inl (by rw [← e]; exact hd)
  · rintro k _ ⟨rfl, e⟩
    rw [Nat.sub_self, eqs] at e
    rw [← e]
    show f_X9_isSame_3 (k + 1) (cS h s f) 1 A (nI a) (nI z) (nI (a + (z - a))) = _
    rw [show a + (z - a) = z by omega]
    show b_X9_isSame_3 (f_X9_isSame_3 k) (cS h s f) 1 A (nI a) (nI z) (nI z) = _
    simp only [b_X9_isSame_3, if_pos (Int32.le_refl (nI z))]
    rfl
def mtB (t ch : Row) (s e a z : Nat) : Bool := decide (z - a = e - s) && eqs t ch s a (z - a) 0
theorem takeW_s {h : aH} {t : Row} {n : Nat} (b : TB h t n) {A L : Nat} {ch : Row} (tb : TAB A L ch) {s e a z k : Nat} (f : Int32) (hse : s ≤ e) (hen : e ≤ n) (haL : a < L) (haz : a ≤ z) (hzL : z ≤ L) (hk : k < 100) (nb : ∀ i, a ≤ i → i < z → ¬ ch i = 32) (eb : z < L → ch z = 32) (m : Nat) :
    f_X9_takeWord_39 (m + 1) (cS h s f) 1 A (nI s) (nI e) (nI a) (nI k) = if mtB t ch s e a z = true then some (nI k, cS h e f) else f_X9_takeWord_39 m (cS h s f) 1 A (nI s) (nI e) (nI (z + 1)) (nI (k + 1)) := by
  have b2 := b.2.2.1
  have L1 := tb.2.1
  have c : ¬ nI L ≤ nI a := nI_ge haL (by omega)
  have key : ∀ K : aH → Nat → Nat → Int32 → Int32 → Int32 → Int32 → Option (Int32 × aH), f_X9_takeWord_52 K 2000 (cS h s f) 1 A (nI s) (nI e) (nI a) (nI k) (nI a) = b_X9_takeWord_78 K (cS h s f) 1 A (nI s) (nI e) (nI a) (nI k) (nI z) := by
    intro K
    refine itLoop (σ := Int32) (fun j x => f_X9_takeWord_52 K j (cS h s f) 1 A (nI s) (nI e) (nI a) (nI k) x) (fun i x => x = nI (a + i)) (fun o => o = b_X9_takeWord_78 K (cS h s f) 1 A (nI s) (nI e) (nI a) (nI k) (nI z)) (z - a) ?_ ?_ 2000 0 (nI a) rfl (by omega) (by omega)
    · rintro j i _ hi rfl
      refine Or.inr ⟨_, rfl, ?_⟩
      have c1 : ¬ nI L ≤ nI (a + i) := nI_ge (by omega) (by omega)
      show b_X9_takeWord_52 K (f_X9_takeWord_52 K j) (cS h s f) 1 A (nI s) (nI e) (nI a) (nI k) (nI (a + i)) = f_X9_takeWord_52 K j (cS h s f) 1 A (nI s) (nI e) (nI a) (nI k) (nI (a + (i + 1)))
      simp only [b_X9_takeWord_52, tb.1, Option.bind_some, if_neg c1, tb.2.2 (a + i) (by omega), if_neg (nb (a + i) (by omega) (by omega)), i1, Nat.add_assoc]
    · rintro j _ rfl
      rw [show a + (z - a) = z by omega]
      show b_X9_takeWord_52 K (f_X9_takeWord_52 K j) (cS h s f) 1 A (nI s) (nI e) (nI a) (nI k) (nI z) = _
      by_cases y : z < L
      · simp only [b_X9_takeWord_52, tb.1, Option.bind_some, if_neg (nI_ge y (show L < 2 ^ 31 by omega)), tb.2.2 z y, if_pos (eb y)]
      · simp only [b_X9_takeWord_52, tb.1, Option.bind_some, if_pos (nI_le (show L ≤ z by omega) (show z < 2 ^ 31 by omega))]
  show b_X9_takeWord_39 (f_X9_takeWord_39 m) (cS h s f) 1 A (nI s) (nI e) (nI a) (nI k) = _
  simp only [b_X9_takeWord_39, tb.1, Option.bind_some, if_neg c]
  rw [key (f_X9_takeWord_39 m)]
  have d1 : nI z - nI a = nI (z - a) := pk_sub haz
  have d2 : nI e - nI s = nI (e - s) := pk_sub hse
  simp only [b_X9_takeWord_78, b_X9_takeWord_109, d1, d2, q_1, aLet, i1]
  unfold mtB
  by_cases y : z - a = e - s
  · rw [if_pos (by rw [y]), decide_eq_true y, Bool.true_and, isSameC b tb f haz hzL (by omega)]
    simp only [aBind_some, bB_0, cS_p]
  · rw [if_neg (fun w => y ((nI_eq (by omega) (by omega)).mp w)), decide_eq_false y, Bool.false_and, if_neg (by decide)]
theorem takeW_e {h : aH} {A L : Nat} {ch : Row} (tb : TAB A L ch) {s : Nat} {a : Nat} (f x3 x5 : Int32) (ha : L ≤ a) (ha2 : a ≤ 200) (m : Nat) : f_X9_takeWord_39 (m + 1) (cS h s f) 1 A (nI s) x3 (nI a) x5 = some (-1, cS h s f) := by
  show b_X9_takeWord_39 (f_X9_takeWord_39 m) (cS h s f) 1 A (nI s) x3 (nI a) x5 = _
  simp only [b_X9_takeWord_39, tb.1, Option.bind_some, if_pos (nI_le ha (show a < 2 ^ 31 by omega))]
theorem takeW_0 {h : aH} {t : Row} {n : Nat} (b : TB h t n) (A : Nat) {p : Nat} (hp : p ≤ n) (f : Int32) : f_X9_takeWord (cS h p f) 1 A = f_X9_takeWord_39 2000 (cS h (sk t n p) f) 1 A (nI (sk t n p)) (nI (lw t n (sk t n p))) (nI 0) (nI 0) := by
  obtain ⟨hS, b1, b2, b3⟩ := b
  have b : TB h t n := ⟨hS, b1, b2, b3⟩
  have s := sk_le (t := t) hp
  have sk' := seekC b hp f
  obtain ⟨S0, eS0⟩ : ∃ s, s = sk t n p := ⟨_, rfl⟩
  rw [← eS0] at s sk' ⊢
  obtain ⟨a1, a2, a3, a4⟩ := fd_s (ble t) (p := S0) s.2
  have key : f_X9_takeWord_7 2000 (cS h S0 f) 1 A (nI S0) (nI S0) = b_X9_takeWord_33 (cS h S0 f) 1 A (nI S0) (nI (lw t n S0)) := by
    refine itLoop (σ := Int32) (fun k x => f_X9_takeWord_7 k (cS h S0 f) 1 A (nI S0) x) (fun i x => x = nI (S0 + i)) (fun o => o = b_X9_takeWord_33 (cS h S0 f) 1 A (nI S0) (nI (lw t n S0))) (lw t n S0 - S0) ?_ ?_ 2000 0 (nI S0) rfl (by omega) (by unfold lw; omega)
    · rintro k i _ hi rfl
      have q1 : S0 + i < fd (ble t) n S0 := by unfold lw at hi; omega
      have lt : 97 ≤ t (S0 + i) ∧ t (S0 + i) ≤ 122 := of_decide_eq_true (a3 (S0 + i) (by omega) q1)
      have c : ¬ nI n ≤ nI (S0 + i) := nI_ge (by omega) (by omega)
      have bt := (b3 (S0 + i) (by omega)).2
      have by' := byteC b S0 f (q := S0 + i) (by omega)
      unfold bya at by'
      rw [if_pos (by omega)] at by'
      have dd := isLetC (cS h S0 f) bt
      rw [decide_eq_true lt] at dd
      refine Or.inr ⟨_, rfl, ?_⟩
      show b_X9_takeWord_7 (f_X9_takeWord_7 k) (cS h S0 f) 1 A (nI S0) (nI (S0 + i)) = f_X9_takeWord_7 k (cS h S0 f) 1 A (nI S0) (nI (S0 + (i + 1)))
      simp only [b_X9_takeWord_7, q_1, cS_11, b1, if_neg c, by', aBind_some, dd, bB, if_neg (show ¬ (1 : Int32) = 0 by decide), i1, Nat.add_assoc]
    · rintro k _ rfl
      rw [show S0 + (lw t n S0 - S0) = lw t n S0 by unfold lw; omega]
      show b_X9_takeWord_7 (f_X9_takeWord_7 k) (cS h S0 f) 1 A (nI S0) (nI (lw t n S0)) = _
      by_cases c : lw t n S0 < n
      · have c' : ¬ nI n ≤ nI (lw t n S0) := nI_ge c (by omega)
        have bt := (b3 (lw t n S0) (by omega)).2
        have by' := byteC b S0 f (q := lw t n S0) (by omega)
        unfold bya at by'
        rw [if_pos c] at by'
        have nd : ¬ (97 ≤ t (lw t n S0) ∧ t (lw t n S0) ≤ 122) := of_decide_eq_false (a4 c)
        have dd := isLetC (cS h S0 f) bt
        rw [decide_eq_false nd] at dd
        simp only [b_X9_takeWord_7, q_1, cS_11, b1, if_neg c', by', aBind_some, dd, bB, if_true]
      · have c' : nI n ≤ nI (lw t n S0) := nI_le (by omega) (by have : lw t n S0 ≤ n := a2; omega)
        simp only [b_X9_takeWord_7, q_1, cS_11, b1, if_pos c']
  simp only [f_X9_takeWord, q_1, sk', aBind_some]
  rw [key]
  rfl
