/-! ===== bit counts of ints and longs ===== -/
theorem intC_h (h : aH) (x : Int32) : f_J6_bitCount_0f7a4 h x = some (((f_J6_bitCount_0f7a4 aH0 x).map Prod.fst).getD 0, h) := rfl
theorem intC_d : ∀ a, a < 16 → ((f_J6_bitCount_0f7a4 aH0 (nI a)).map Prod.fst).getD 0 = nI (popc 31 a) := by decide +kernel
theorem intCount (h : aH) : ∀ a, a < 16 → f_J6_bitCount_0f7a4 h (nI a) = some (nI (popc 31 a), h) := fun a ha => by rw [intC_h, intC_d a ha]
def val8 : List Nat → Nat
  | [] => 0
  | b :: bs => b + 256 * val8 bs
theorem and256 {a c p q : Nat} (ha : a < 256) (hc : c < 256) : (a + 256 * p) &&& (c + 256 * q) = (a &&& c) + 256 * (p &&& q) := by
  have e : ∀ x y : Nat, x < 256 → x + 256 * y = 2 ^ 8 * y + x := fun x y _ => by omega
  have l : a &&& c < 2 ^ 8 := Nat.and_lt_two_pow a (show c < 2 ^ 8 by omega)
  rw [e a p ha, e c q hc, e _ _ l]
  refine Nat.eq_of_testBit_eq (fun i => ?_)
  rw [Nat.testBit_and, Nat.testBit_two_pow_mul_add _ (show a < 2 ^ 8 by omega), Nat.testBit_two_pow_mul_add _ (show c < 2 ^ 8 by omega), Nat.testBit_two_pow_mul_add _ l, Nat.testBit_and, Nat.testBit_and]
  split <;> rfl
def msk (m : Nat) (bs : List Nat) : Nat := val8 (bs.map (fun _ => m))
def by8 (bs : List Nat) : Prop := ∀ b ∈ bs, b < 256
def g1 (b : Nat) : Nat := b - (b / 2 &&& 85)
def g2 (b : Nat) : Nat := (b &&& 51) + (b / 4 &&& 51)
def g3 (b : Nat) : Nat := (b + b / 16) % 16
theorem d1a : ∀ b, b < 256 → ∀ t, t < 2 → ((b / 2 + 128 * t) &&& 85) = (b / 2 &&& 85) := by decide +kernel
theorem d1b : ∀ b, b < 256 → (b / 2 &&& 85) ≤ b := by decide +kernel
theorem d2a : ∀ b, b < 256 → ∀ t, t < 4 → ((b / 4 + 64 * t) &&& 51) = (b / 4 &&& 51) := by decide +kernel
theorem d3a : ∀ b, b < 256 → g2 (g1 b) % 16 ≤ 4 ∧ g2 (g1 b) / 16 ≤ 4 ∧ g1 b < 256 ∧ g3 (g2 (g1 b)) = popc 8 b := by decide +kernel
theorem sw1 : ∀ bs, by8 bs → (val8 bs / 2 &&& msk 85 bs) ≤ val8 bs ∧ val8 bs - (val8 bs / 2 &&& msk 85 bs) = val8 (bs.map g1) := by
  intro bs
  induction bs with
  | nil => intro _; exact ⟨by decide, by decide⟩
  | cons b bs ih =>
    intro hb
    have h0 := hb b (List.mem_cons_self ..)
    obtain ⟨i1, i2⟩ := ih (fun x hx => hb x (List.mem_cons_of_mem _ hx))
    have e : val8 (b :: bs) / 2 = (b / 2 + 128 * (val8 bs % 2)) + 256 * (val8 bs / 2) := by rw [val8]; omega
    have m : msk 85 (b :: bs) = 85 + 256 * msk 85 bs := rfl
    have a : (val8 (b :: bs) / 2 &&& msk 85 (b :: bs)) = (b / 2 &&& 85) + 256 * (val8 bs / 2 &&& msk 85 bs) := by
      rw [e, m, and256 (by omega) (by decide), d1a b h0 _ (by omega)]
    have l := d1b b h0
    rw [a]
    have v : val8 (b :: bs) = b + 256 * val8 bs := rfl
    have v' : val8 ((b :: bs).map g1) = g1 b + 256 * val8 (bs.map g1) := rfl
    rw [v, v', ← i2]
    unfold g1
    constructor
    · omega
    · omega
theorem sw2 : ∀ bs, by8 bs → (val8 bs &&& msk 51 bs) + (val8 bs / 4 &&& msk 51 bs) = val8 (bs.map g2) := by
  intro bs
  induction bs with
  | nil => intro _; decide
  | cons b bs ih =>
    intro hb
    have h0 := hb b (List.mem_cons_self ..)
    have i1 := ih (fun x hx => hb x (List.mem_cons_of_mem _ hx))
    have e : val8 (b :: bs) / 4 = (b / 4 + 64 * (val8 bs % 4)) + 256 * (val8 bs / 4) := by rw [val8]; omega
    have m : msk 51 (b :: bs) = 51 + 256 * msk 51 bs := rfl
    rw [e, m, and256 (by omega) (by decide), d2a b h0 _ (by omega), val8, and256 h0 (by decide)]
    have v' : val8 ((b :: bs).map g2) = g2 b + 256 * val8 (bs.map g2) := rfl
    rw [v', ← i1]
    unfold g2
    omega
theorem sw3 : ∀ bs, (∀ b ∈ bs, b % 16 ≤ 4 ∧ b / 16 ≤ 4) → ((val8 bs + val8 bs / 16) &&& msk 15 bs) = val8 (bs.map g3) := by
  intro bs
  induction bs with
  | nil => intro _; decide
  | cons b bs ih =>
    intro hb
    have h0 := hb b (List.mem_cons_self ..)
    have i1 := ih (fun x hx => hb x (List.mem_cons_of_mem _ hx))
    have t : val8 bs % 16 ≤ 4 := by
      cases bs with
      | nil => decide
      | cons c cs => have := hb c (List.mem_cons_of_mem _ (List.mem_cons_self ..)); rw [val8]; omega
    have e : val8 (b :: bs) + val8 (b :: bs) / 16 = (b + b / 16 + 16 * (val8 bs % 16)) + 256 * (val8 bs + val8 bs / 16) := by rw [val8]; omega
    have m : msk 15 (b :: bs) = 15 + 256 * msk 15 bs := rfl
    rw [e, m, and256 (by omega) (by decide), i1, show (15 : Nat) = 2 ^ 4 - 1 by decide, Nat.and_two_pow_sub_one_eq_mod]
    have v' : val8 ((b :: bs).map g3) = g3 b + 256 * val8 (bs.map g3) := rfl
    rw [v']
    unfold g3
    omega
def byt : Nat → Nat → List Nat
  | 0, _ => []
  | n + 1, x => x % 256 :: byt n (x / 256)
theorem byt_v : ∀ n x, x < 256 ^ n → val8 (byt n x) = x := by
  intro n
  induction n with
  | zero => intro x h; rw [Nat.pow_zero] at h; rw [byt, val8]; omega
  | succ n ih => intro x h; rw [Nat.pow_succ] at h; rw [byt, val8, ih (x / 256) (by omega)]; omega
theorem byt_8 : ∀ n x, by8 (byt n x) := by
  intro n
  induction n with
  | zero => intro x b h; cases h
  | succ n ih =>
    intro x b h
    rcases List.mem_cons.mp h with z | z
    · rw [z]; omega
    · exact ih _ b z
theorem sw6a {a b c d B : Nat} (ha : a ≤ 32) (hb : b ≤ 32) (hc : c ≤ 32) (hd : d ≤ 32) : (a + 256 * b + 65536 * (c + 256 * d + 65536 * B)) / 4294967296 = B := by omega
theorem sw6b {a b C B q s : Nat} (hq : B % 128 = q) (ha : a + q < 128) (hs : s = a + q) : (a + 256 * b + 65536 * C + B) % 128 = s := by omega
theorem sw6c {a b c d B : Nat} (ha : a ≤ 32) (hb : b ≤ 32) (hc : c ≤ 32) (hd : d ≤ 32) (hB : B ≤ 1000000000) : (a + 256 * b + 65536 * (c + 256 * d + 65536 * B)) + B < 2 ^ 64 := by omega
