/-! ===== bits ===== -/
def popc : Nat → Nat → Nat
  | 0, _ => 0
  | n + 1, x => x % 2 + popc n (x / 2)
theorem popc_0 : ∀ n, popc n 0 = 0 := by
  intro n
  induction n with
  | zero => rfl
  | succ n ih => rw [popc, ih]
theorem popc_le : ∀ n x, popc n x ≤ n := by
  intro n
  induction n with
  | zero => intro x; exact Nat.le_refl _
  | succ n ih => intro x; rw [popc]; have := ih (x / 2); omega
theorem popc_split : ∀ k m x, popc (k + m) x = popc k (x % 2 ^ k) + popc m (x / 2 ^ k) := by
  intro k
  induction k with
  | zero => intro m x; rw [Nat.zero_add, Nat.pow_zero, Nat.div_one, Nat.mod_one, popc, Nat.zero_add]
  | succ k ih =>
    intro m x
    rw [show k + 1 + m = (k + m) + 1 by omega, popc, popc, ih m (x / 2)]
    have h1 : x % 2 ^ (k + 1) % 2 = x % 2 := by
      rw [Nat.pow_succ, Nat.mul_comm]; exact Nat.mod_mod_of_dvd x ⟨2 ^ k, rfl⟩
    have h2 : x % 2 ^ (k + 1) / 2 = x / 2 % 2 ^ k := by
      rw [Nat.pow_succ, Nat.mul_comm, Nat.mod_mul_right_div_self]
    have h3 : x / 2 / 2 ^ k = x / 2 ^ (k + 1) := by
      rw [Nat.div_div_eq_div_mul, Nat.pow_succ, Nat.mul_comm]
    rw [h1, h2, h3, Nat.add_assoc]
theorem and_2 (a b : Nat) : (a &&& b) / 2 = (a / 2) &&& (b / 2) ∧ (a &&& b) % 2 = (a % 2) &&& (b % 2) := by
  constructor
  · exact Nat.and_div_two
  · have := Nat.and_mod_two_pow (a := a) (b := b) (n := 1)
    rw [Nat.pow_one] at this; exact this
theorem popc_and : ∀ n x, 0 < x → x < 2 ^ n → popc n (x &&& (x - 1)) + 1 = popc n x := by
  intro n
  induction n with
  | zero => intro x h1 h2; rw [Nat.pow_zero] at h2; omega
  | succ n ih =>
    intro x h1 h2
    rw [Nat.pow_succ] at h2
    rw [popc, popc, (and_2 _ _).1, (and_2 _ _).2]
    rcases Nat.mod_two_eq_zero_or_one x with z | z
    · have e1 : (x - 1) / 2 = x / 2 - 1 := by omega
      have := ih (x / 2) (by omega) (by omega)
      rw [z, e1, Nat.zero_and]
      omega
    · have e1 : (x - 1) / 2 = x / 2 := by omega
      have e2 : (x - 1) % 2 = 0 := by omega
      rw [z, e1, e2, Nat.and_self, Nat.and_zero]
      omega
theorem nI_and {a b : Nat} (ha : a < 2 ^ 32) (hb : b < 2 ^ 32) : nI a &&& nI b = nI (a &&& b) := by
  refine Int32.toBitVec_inj.mp (BitVec.eq_of_toNat_eq ?_)
  have : a &&& b < 2 ^ 32 := Nat.and_lt_two_pow a hb
  rw [Int32.toBitVec_and, BitVec.toNat_and, pk_tn ha, pk_tn hb, pk_tn this]
theorem bits_eq {h : aH} {a : Nat} (ha : a < 2 ^ 31) : f_X12_bits h (nI a) = some (nI (popc 31 a), h) := by
  have pl := popc_le 31 a
  refine itLoop (σ := Int32 × Int32) (fun n s => f_X12_bits_4 n h s.1 s.2) (fun i s => ∃ x, x < 2 ^ 31 ∧ s = (nI i, nI x) ∧ popc 31 x + i = popc 31 a) (fun o => o = some (nI (popc 31 a), h)) (popc 31 a) ?_ ?_ 2000 0 (0, nI a) ⟨a, ha, rfl, Nat.add_zero _⟩ (by omega) (by omega)
  · rintro n i _ hi ⟨x, hx, rfl, hp⟩
    have x0 : 0 < x := by
      rcases Nat.eq_zero_or_pos x with z | z
      · rw [z, popc_0] at hp; omega
      · exact z
    have pa := popc_and 31 x x0 hx
    have la : x &&& (x - 1) < 2 ^ 31 := Nat.and_lt_two_pow x (by omega)
    have em : nI x - 1 = nI (x - 1) := by
      have := nI_pred (x - 1)
      rw [show x - 1 + 1 = x by omega] at this; exact this
    refine Or.inr ⟨(nI (i + 1), nI (x &&& (x - 1))), ⟨_, la, rfl, by omega⟩, ?_⟩
    show b_X12_bits_4 (f_X12_bits_4 n) h (nI i) (nI x) = _
    simp only [b_X12_bits_4, if_neg (nI_ne0 x0 hx), aLet, em, nI_and (show x < 2 ^ 32 by omega) (show x - 1 < 2 ^ 32 by omega), i1]
  · rintro n _ ⟨x, hx, rfl, hp⟩
    have x0 : x = 0 := by
      rcases Nat.eq_zero_or_pos x with z | z
      · exact z
      · have := popc_and 31 x z hx; omega
    subst x0
    show b_X12_bits_4 (f_X12_bits_4 n) h (nI (popc 31 a)) (nI 0) = _
    simp only [b_X12_bits_4, if_pos nI_0]
/-! those who are joined, as bits -/
def jb (S : Row) (o : Nat) : Nat → Int32
  | 0 => 0
  | i + 1 => if S (o + 4 * i) < 0 then jb S o i else jb S o i ||| (1 <<< (nI i &&& 31))
theorem jb_dec : ∀ i, i < 4 → ∀ a, a < 2 ^ i → (nI a ||| (1 <<< (nI i &&& 31))) = nI (a + 2 ^ i) := by decide +kernel
theorem jb_b {S : Row} {o : Nat} : ∀ i, i ≤ 4 → ∃ a, a < 2 ^ i ∧ jb S o i = nI a := by
  intro i
  induction i with
  | zero => intro _; exact ⟨0, by decide, rfl⟩
  | succ i ih =>
    intro hi
    obtain ⟨a, ha, e⟩ := ih (by omega)
    rw [jb]
    split
    · exact ⟨a, by rw [Nat.pow_succ]; omega, e⟩
    · exact ⟨a + 2 ^ i, by rw [Nat.pow_succ]; omega, by rw [e]; exact jb_dec i (by omega) a ha⟩
theorem joinedBits0 {h : aH} (hS : Str h) {a : Nat} (ha : a ∈ stL) {S : Row} (r : RSt h a S) {n : Nat} (hn : n ≤ 4) : f_X8_joinedBits h a 0 (nI n) = some (jb S 12 n, h) := by
  refine itLoop (σ := Int32 × Int32) (fun k s => f_X8_joinedBits_5 k h a 0 (nI n) s.1 s.2) (fun i s => s = (jb S 12 i, nI i)) (fun o => o = some (jb S 12 n, h)) n ?_ ?_ 2000 0 (0, 0) rfl (by omega) (by omega)
  · rintro k i _ hi rfl
    refine Or.inr ⟨_, rfl, ?_⟩
    have c : ¬ nI n ≤ nI i := nI_ge hi (by omega)
    show b_X8_joinedBits_5 (f_X8_joinedBits_5 k) h a 0 (nI n) (jb S 12 i) (nI i) = f_X8_joinedBits_5 k h a 0 (nI n) (jb S 12 (i + 1)) (nI (i + 1))
    by_cases q : S (12 + 4 * i) < 0
    · simp only [b_X8_joinedBits_5, if_neg c, qst0 ha, isFreeS0 hS ha r (show i < 4 by omega), if_pos q, aBind_some, if_neg (show ¬ (1 : Int32) = 0 by decide), b_X8_joinedBits_28, i1, jb]
    · simp only [b_X8_joinedBits_5, if_neg c, qst0 ha, isFreeS0 hS ha r (show i < 4 by omega), if_neg q, aBind_some, if_true, aLet, b_X8_joinedBits_28, i1, jb]
  · rintro k _ rfl
    show b_X8_joinedBits_5 (f_X8_joinedBits_5 k) h a 0 (nI n) (jb S 12 n) (nI n) = _
    simp only [b_X8_joinedBits_5, if_pos (Int32.le_refl (nI n))]
theorem joinedBits1 {h : aH} (hS : Str h) {a : Nat} (ha : a ∈ stL) {S : Row} (r : RSt h a S) {n : Nat} (hn : n ≤ 4) : f_X8_joinedBits h a 1 (nI n) = some (jb S 28 n, h) := by
  refine itLoop (σ := Int32 × Int32) (fun k s => f_X8_joinedBits_5 k h a 1 (nI n) s.1 s.2) (fun i s => s = (jb S 28 i, nI i)) (fun o => o = some (jb S 28 n, h)) n ?_ ?_ 2000 0 (0, 0) rfl (by omega) (by omega)
  · rintro k i _ hi rfl
    refine Or.inr ⟨_, rfl, ?_⟩
    have c : ¬ nI n ≤ nI i := nI_ge hi (by omega)
    show b_X8_joinedBits_5 (f_X8_joinedBits_5 k) h a 1 (nI n) (jb S 28 i) (nI i) = f_X8_joinedBits_5 k h a 1 (nI n) (jb S 28 (i + 1)) (nI (i + 1))
    by_cases q : S (28 + 4 * i) < 0
    · simp only [b_X8_joinedBits_5, if_neg c, qst0 ha, isFreeS1 hS ha r (show i < 4 by omega), if_pos q, aBind_some, if_neg (show ¬ (1 : Int32) = 0 by decide), b_X8_joinedBits_28, i1, jb]
    · simp only [b_X8_joinedBits_5, if_neg c, qst0 ha, isFreeS1 hS ha r (show i < 4 by omega), if_neg q, aBind_some, if_true, aLet, b_X8_joinedBits_28, i1, jb]
  · rintro k _ rfl
    show b_X8_joinedBits_5 (f_X8_joinedBits_5 k) h a 1 (nI n) (jb S 28 n) (nI n) = _
    simp only [b_X8_joinedBits_5, if_pos (Int32.le_refl (nI n))]
theorem joinedOf0 {h : aH} (hS : Str h) {S : Row} (eS : hI h 318 = S) (v : VS S) : f_X12_joinedOf h 308 0 = some (jb S 12 (nE S), h) := by
  have e3 := v.e3
  refine itLoop (σ := Int32 × Int32) (fun k s => f_X12_joinedOf_4 k h 308 0 s.1 s.2) (fun i s => s = (jb S 12 i, nI i)) (fun o => o = some (jb S 12 (nE S), h)) (nE S) ?_ ?_ 2000 0 (0, 0) rfl (by omega) (by omega)
  · rintro k i _ hi rfl
    refine Or.inr ⟨_, rfl, ?_⟩
    have c : ¬ nI (nE S) ≤ nI i := nI_ge hi (by omega)
    have fr := isFreeR0 hS (show i < 4 by omega)
    rw [eS] at fr
    show b_X12_joinedOf_4 (f_X12_joinedOf_4 k) h 308 0 (jb S 12 i) (nI i) = f_X12_joinedOf_4 k h 308 0 (jb S 12 (i + 1)) (nI (i + 1))
    by_cases q : S (12 + 4 * i) < 0
    · rw [if_pos q] at fr
      simp only [b_X12_joinedOf_4, q_308, r_308_20 hS, Option.bind_some, aLet, show (3 : Int32) + 0 = 3 by decide, q_318, if_pos in3, cl3, eS, e3.1, if_neg c, fr, aBind_some, if_neg (show ¬ (1 : Int32) = 0 by decide), b_X12_joinedOf_33, i1, jb, if_pos q, Int32.or_zero]
    · rw [if_neg q] at fr
      simp only [b_X12_joinedOf_4, q_308, r_308_20 hS, Option.bind_some, aLet, show (3 : Int32) + 0 = 3 by decide, q_318, if_pos in3, cl3, eS, e3.1, if_neg c, fr, aBind_some, if_true, b_X12_joinedOf_33, i1, jb, if_neg q]
  · rintro k _ rfl
    show b_X12_joinedOf_4 (f_X12_joinedOf_4 k) h 308 0 (jb S 12 (nE S)) (nI (nE S)) = _
    simp only [b_X12_joinedOf_4, q_308, r_308_20 hS, Option.bind_some, aLet, show (3 : Int32) + 0 = 3 by decide, q_318, if_pos in3, cl3, eS, e3.1, if_pos (Int32.le_refl (nI (nE S)))]
theorem joinedOf1 {h : aH} (hS : Str h) {S : Row} (eS : hI h 318 = S) (v : VS S) : f_X12_joinedOf h 308 1 = some (jb S 28 (nW S), h) := by
  have e3 := v.e4
  refine itLoop (σ := Int32 × Int32) (fun k s => f_X12_joinedOf_4 k h 308 1 s.1 s.2) (fun i s => s = (jb S 28 i, nI i)) (fun o => o = some (jb S 28 (nW S), h)) (nW S) ?_ ?_ 2000 0 (0, 0) rfl (by omega) (by omega)
  · rintro k i _ hi rfl
    refine Or.inr ⟨_, rfl, ?_⟩
    have c : ¬ nI (nW S) ≤ nI i := nI_ge hi (by omega)
    have fr := isFreeR1 hS (show i < 4 by omega)
    rw [eS] at fr
    show b_X12_joinedOf_4 (f_X12_joinedOf_4 k) h 308 1 (jb S 28 i) (nI i) = f_X12_joinedOf_4 k h 308 1 (jb S 28 (i + 1)) (nI (i + 1))
    by_cases q : S (28 + 4 * i) < 0
    · rw [if_pos q] at fr
      simp only [b_X12_joinedOf_4, q_308, r_308_20 hS, Option.bind_some, aLet, show (3 : Int32) + 1 = 4 by decide, q_318, if_pos in4, cl4, eS, e3.1, if_neg c, fr, aBind_some, if_neg (show ¬ (1 : Int32) = 0 by decide), b_X12_joinedOf_33, i1, jb, if_pos q, Int32.or_zero]
    · rw [if_neg q] at fr
      simp only [b_X12_joinedOf_4, q_308, r_308_20 hS, Option.bind_some, aLet, show (3 : Int32) + 1 = 4 by decide, q_318, if_pos in4, cl4, eS, e3.1, if_neg c, fr, aBind_some, if_true, b_X12_joinedOf_33, i1, jb, if_neg q]
  · rintro k _ rfl
    show b_X12_joinedOf_4 (f_X12_joinedOf_4 k) h 308 1 (jb S 28 (nW S)) (nI (nW S)) = _
    simp only [b_X12_joinedOf_4, q_308, r_308_20 hS, Option.bind_some, aLet, show (3 : Int32) + 1 = 4 by decide, q_318, if_pos in4, cl4, eS, e3.1, if_pos (Int32.le_refl (nI (nW S)))]
