/-! ===== bit counts of ints and longs ===== -/
theorem intC_h (h : aH) (x : Int32) : f_J6_bitCount_0f7a4 h x = some (((f_J6_bitCount_0f7a4 aH0 x).map Prod.fst).getD 0, h) := rfl
theorem intC_d : ∀ a, a < 16 → ((f_J6_bitCount_0f7a4 aH0 (nI a)).map Prod.fst).getD 0 = nI (popc 31 a) := by decide +kernel
theorem intCount (h : aH) : ∀ a, a < 16 → f_J6_bitCount_0f7a4 h (nI a) = some (nI (popc 31 a), h) := fun a ha => by rw [intC_h, intC_d a ha]
def val8 : List Nat → Nat
  | [] => 0
  | b :: bs => b + 256 * val8 bs
theorem and256 {a c p q : Nat} (ha : a < 256) (hc : c < 256) : (a + 256 * p) &&& (c + 256 * q) = (a &&& c) + 256 * (p &&& q) := by
  have e : ∀ x y : Nat, x < 256 → x + 256 * y = 2 ^ 8 * y + x := fun x y _ => by omega
  have l : a &&& c < 2 ^ 8 := Nat.and_lt_two_pow a (show c < 2 ^ 8 by omega)
  rw [e a p ha, e c q hc, e _ _ l]
  refine Nat.eq_of_testBit_eq (fun i => ?_)
  rw [Nat.testBit_and, Nat.testBit_two_pow_mul_add _ (show a < 2 ^ 8 by omega), Nat.testBit_two_pow_mul_add _ (show c < 2 ^ 8 by omega), Nat.testBit_two_pow_mul_add _ l, Nat.testBit_and, Nat.testBit_and]
  split <;> rfl
def msk (m : Nat) (bs : List Nat) : Nat := val8 (bs.map (fun _ => m))
def by8 (bs : List Nat) : Prop := ∀ b ∈ bs, b < 256
def g1 (b : Nat) : Nat := b - (b / 2 &&& 85)
def g2 (b : Nat) : Nat := (b &&& 51) + (b / 4 &&& 51)
def g3 (b : Nat) : Nat := (b + b / 16) % 16
theorem d1a : ∀ b, b < 256 → ∀ t, t < 2 → ((b / 2 + 128 * t) &&& 85) = (b / 2 &&& 85) := by decide +kernel
theorem d1b : ∀ b, b < 256 → (b / 2 &&& 85) ≤ b := by decide +kernel
theorem d2a : ∀ b, b < 256 → ∀ t, t < 4 → ((b / 4 + 64 * t) &&& 51) = (b / 4 &&& 51) := by decide +kernel
theorem d3a : ∀ b, b < 256 → g2 (g1 b) % 16 ≤ 4 ∧ g2 (g1 b) / 16 ≤ 4 ∧ g1 b < 256 ∧ g3 (g2 (g1 b)) = popc 8 b := by decide +kernel
theorem sw1 : ∀ bs, by8 bs → (val8 bs / 2 &&& msk 85 bs) ≤ val8 bs ∧ val8 bs - (val8 bs / 2 &&& msk 85 bs) = val8 (bs.map g1) := by
  intro bs
  induction bs with
  | nil => intro _; exact ⟨by decide, by decide⟩
  | cons b bs ih =>
    intro hb
    have h0 := hb b (List.mem_cons_self ..)
    obtain ⟨i1, i2⟩ := ih (fun x hx => hb x (List.mem_cons_of_mem _ hx))
    have e : val8 (b :: bs) / 2 = (b / 2 + 128 * (val8 bs % 2)) + 256 * (val8 bs / 2) := by rw [val8]; omega
    have m : msk 85 (b :: bs) = 85 + 256 * msk 85 bs := rfl
    have a : (val8 (b :: bs) / 2 &&& msk 85 (b :: bs)) = (b / 2 &&& 85) + 256 * (val8 bs / 2 &&& msk 85 bs) := by
      rw [e, m, and256 (by omega) (by decide), d1a b h0 _ (by omega)]
    have l := d1b b h0
    rw [a]
    have v : val8 (b :: bs) = b + 256 * val8 bs := rfl
    have v' : val8 ((b :: bs).map g1) = g1 b + 256 * val8 (bs.map g1) := rfl
    rw [v, v', ← i2]
    unfold g1
    constructor
    · omega
    · omega
theorem sw2 : ∀ bs, by8 bs → (val8 bs &&& msk 51 bs) + (val8 bs / 4 &&& msk 51 bs) = val8 (bs.map g2) := by
  intro bs
  induction bs with
  | nil => intro _; decide
  | cons b bs ih =>
    intro hb
    have h0 := hb b (List.mem_cons_self ..)
    have i1 := ih (fun x hx => hb x (List.mem_cons_of_mem _ hx))
    have e : val8 (b :: bs) / 4 = (b / 4 + 64 * (val8 bs % 4)) + 256 * (val8 bs / 4) := by rw [val8]; omega
    have m : msk 51 (b :: bs) = 51 + 256 * msk 51 bs := rfl
    rw [e, m, and256 (by omega) (by decide), d2a b h0 _ (by omega), val8, and256 h0 (by decide)]
    have v' : val8 ((b :: bs).map g2) = g2 b + 256 * val8 (bs.map g2) := rfl
    rw [v', ← i1]
    unfold g2
    omega
theorem sw3 : ∀ bs, (∀ b ∈ bs, b % 16 ≤ 4 ∧ b / 16 ≤ 4) → ((val8 bs + val8 bs / 16) &&& msk 15 bs) = val8 (bs.map g3) := by
  intro bs
  induction bs with
  | nil => intro _; decide
  | cons b bs ih =>
    intro hb
    have h0 := hb b (List.mem_cons_self ..)
    have i1 := ih (fun x hx => hb x (List.mem_cons_of_mem _ hx))
    have t : val8 bs % 16 ≤ 4 := by
      cases bs with
      | nil => decide
      | cons c cs => have := hb c (List.mem_cons_of_mem _ (List.mem_cons_self ..)); rw [val8]; omega
    have e : val8 (b :: bs) + val8 (b :: bs) / 16 = (b + b / 16 + 16 * (val8 bs % 16)) + 256 * (val8 bs + val8 bs / 16) := by rw [val8]; omega
    have m : msk 15 (b :: bs) = 15 + 256 * msk 15 bs := rfl
    rw [e, m, and256 (by omega) (by decide), i1, show (15 : Nat) = 2 ^ 4 - 1 by decide, Nat.and_two_pow_sub_one_eq_mod]
    have v' : val8 ((b :: bs).map g3) = g3 b + 256 * val8 (bs.map g3) := rfl
    rw [v']
    unfold g3
    omega
def byt : Nat → Nat → List Nat
  | 0, _ => []
  | n + 1, x => x % 256 :: byt n (x / 256)
theorem byt_v : ∀ n x, x < 256 ^ n → val8 (byt n x) = x := by
  intro n
  induction n with
  | zero => intro x h; rw [Nat.pow_zero] at h; rw [byt, val8]; omega
  | succ n ih => intro x h; rw [Nat.pow_succ] at h; rw [byt, val8, ih (x / 256) (by omega)]; omega
theorem byt_8 : ∀ n x, by8 (byt n x) := by
  intro n
  induction n with
  | zero => intro x b h; cases h
  | succ n ih =>
    intro x b h
    rcases List.mem_cons.mp h with z | z
    · rw [z]; omega
    · exact ih _ b z
theorem sw6a {a b c d B : Nat} (ha : a ≤ 32) (hb : b ≤ 32) (hc : c ≤ 32) (hd : d ≤ 32) : (a + 256 * b + 65536 * (c + 256 * d + 65536 * B)) / 4294967296 = B := by omega
theorem sw6b {a b C B q s : Nat} (hq : B % 128 = q) (ha : a + q < 128) (hs : s = a + q) : (a + 256 * b + 65536 * C + B) % 128 = s := by omega
theorem sw6c {a b c d B : Nat} (ha : a ≤ 32) (hb : b ≤ 32) (hc : c ≤ 32) (hd : d ≤ 32) (hB : B ≤ 1000000000) : (a + 256 * b + 65536 * (c + 256 * d + 65536 * B)) + B < 2 ^ 64 := by omega
theorem sw6 {p0 p1 p2 p3 p4 p5 p6 p7 : Nat} (h0 : p0 ≤ 8) (h1 : p1 ≤ 8) (h2 : p2 ≤ 8) (h3 : p3 ≤ 8) (h4 : p4 ≤ 8) (h5 : p5 ≤ 8) (h6 : p6 ≤ 8) (h7 : p7 ≤ 8) :
    ∃ X Y Z, X = val8 [p0, p1, p2, p3, p4, p5, p6, p7] ∧ Y = X + X / 256 ∧ Z = Y + Y / 65536 ∧ (Z + Z / 4294967296) % 128 = p0 + p1 + p2 + p3 + p4 + p5 + p6 + p7 ∧ Z + Z / 4294967296 < 2 ^ 64 := by
  obtain ⟨A7, e7⟩ : ∃ A, A = p7 + 256 * 0 := ⟨_, rfl⟩
  obtain ⟨A6, e6⟩ : ∃ A, A = p6 + 256 * A7 := ⟨_, rfl⟩
  obtain ⟨A5, e5⟩ : ∃ A, A = p5 + 256 * A6 := ⟨_, rfl⟩
  obtain ⟨A4, e4⟩ : ∃ A, A = p4 + 256 * A5 := ⟨_, rfl⟩
  obtain ⟨A3, e3⟩ : ∃ A, A = p3 + 256 * A4 := ⟨_, rfl⟩
  obtain ⟨A2, e2⟩ : ∃ A, A = p2 + 256 * A3 := ⟨_, rfl⟩
  obtain ⟨A1, e1⟩ : ∃ A, A = p1 + 256 * A2 := ⟨_, rfl⟩
  obtain ⟨X, eX⟩ : ∃ A, A = p0 + 256 * A1 := ⟨_, rfl⟩
  have v : X = val8 [p0, p1, p2, p3, p4, p5, p6, p7] := by
    rw [eX, e1, e2, e3, e4, e5, e6, e7]; rfl
  have b7 : A7 ≤ 8 := by omega
  have b6 : A6 ≤ 2056 := by omega
  have b5 : A5 ≤ 526344 := by clear e7 e6; omega
  have b4 : A4 ≤ 134744072 := by clear e7 e6 e5; omega
  have t2 : A2 + A3 + A4 + A5 = (p2 + p3 + p4 + p5) + 256 * (p3 + p4 + p5 + p6) + 65536 * (A4 + A5 + A6 + A7) := by clear v eX e1 e7; omega
  have t1 : X + A1 + (A2 + A3) = (p0 + p1 + p2 + p3) + 256 * (p1 + p2 + p3 + p4) + 65536 * (A2 + A3 + A4 + A5) := by clear v e7 e6 e5 t2; omega
  have x1 : X / 256 = A1 := by clear v t1 t2 e1 e2 e3 e4 e5 e6 e7; omega
  have x2 : (X + A1) / 65536 = A2 + A3 := by clear v t1 t2 x1 e3 e4 e5 e6 e7; omega
  have m4 : (A4 + A5 + A6 + A7) % 128 = p4 + p5 + p6 + p7 := by clear v t1 t2 x1 x2 eX e1 e2 e3; omega
  clear eX e1 e2 e3 e4 e5 e6 e7
  obtain ⟨B, eB⟩ : ∃ B, B = A4 + A5 + A6 + A7 := ⟨_, rfl⟩
  have bB' : B ≤ 1000000000 := by omega
  rw [← eB] at t2 m4
  have z : (X + A1 + (A2 + A3)) / 4294967296 = B := by rw [t1, t2]; exact sw6a (by omega) (by omega) (by omega) (by omega)
  refine ⟨X, X + A1, X + A1 + (A2 + A3), v, by rw [x1], by rw [x2], ?_, ?_⟩
  · rw [z, t1]; exact sw6b m4 (by omega) (by omega)
  · rw [z, t1, t2]; exact sw6c (by omega) (by omega) (by omega) (by omega) bB'
theorem tn_sh {x : Int64} (k : Int32) (n : Nat) (hk : (((k.toInt64.toUInt64 &&& Int64.toUInt64 63).toBitVec % 64).toNat) = n) : ((x.toUInt64 >>> (k.toInt64.toUInt64 &&& Int64.toUInt64 63)).toInt64).toBitVec.toNat = x.toBitVec.toNat / 2 ^ n := by
  show (x.toUInt64 >>> (k.toInt64.toUInt64 &&& Int64.toUInt64 63)).toBitVec.toNat = _
  rw [UInt64.toBitVec_shiftRight, BitVec.ushiftRight_eq', BitVec.toNat_ushiftRight, hk, Nat.shiftRight_eq_div_pow]
  rfl
theorem tn_add {x y : Int64} (h : x.toBitVec.toNat + y.toBitVec.toNat < 2 ^ 64) : (x + y).toBitVec.toNat = x.toBitVec.toNat + y.toBitVec.toNat := by
  rw [Int64.toBitVec_add, BitVec.toNat_add, Nat.mod_eq_of_lt h]
theorem tn_sub {x y : Int64} (h : y.toBitVec.toNat ≤ x.toBitVec.toNat) : (x - y).toBitVec.toNat = x.toBitVec.toNat - y.toBitVec.toNat := by
  rw [Int64.toBitVec_sub, BitVec.toNat_sub_of_le h]
theorem tn_and {x y : Int64} : (x &&& y).toBitVec.toNat = x.toBitVec.toNat &&& y.toBitVec.toNat := by
  rw [Int64.toBitVec_and, BitVec.toNat_and]
theorem popc64 (N : Nat) : popc 64 N = popc 8 (N % 256) + popc 8 (N / 256 % 256) + popc 8 (N / 256 / 256 % 256) + popc 8 (N / 256 / 256 / 256 % 256) + popc 8 (N / 256 / 256 / 256 / 256 % 256) + popc 8 (N / 256 / 256 / 256 / 256 / 256 % 256) + popc 8 (N / 256 / 256 / 256 / 256 / 256 / 256 % 256) + popc 8 (N / 256 / 256 / 256 / 256 / 256 / 256 / 256 % 256) := by
  have sp : ∀ m y, popc (8 + m) y = popc 8 (y % 256) + popc m (y / 256) := fun m y => popc_split 8 m y
  have s7 : ∀ y, popc 8 y = popc 8 (y % 256) := fun y => by
    have := sp 0 y
    rw [popc, Nat.add_zero, Nat.add_zero] at this
    exact this
  have h1 := sp 56 N
  have h2 := sp 48 (N / 256)
  have h3 := sp 40 (N / 256 / 256)
  have h4 := sp 32 (N / 256 / 256 / 256)
  have h5 := sp 24 (N / 256 / 256 / 256 / 256)
  have h6 := sp 16 (N / 256 / 256 / 256 / 256 / 256)
  have h7 := sp 8 (N / 256 / 256 / 256 / 256 / 256 / 256)
  have h8 := s7 (N / 256 / 256 / 256 / 256 / 256 / 256 / 256)
  simp only [Nat.reduceAdd] at h1 h2 h3 h4 h5 h6 h7
  rw [h1, h2, h3, h4, h5, h6, h7, h8]
  simp only [Nat.add_assoc]
theorem lc_tail {x23 : Int64} {X Y Z s : Nat} (t23 : x23.toBitVec.toNat = X) (eY : Y = X + X / 256) (eZ : Z = Y + Y / 65536) (lZ : Z + Z / 4294967296 < 2 ^ 64) (eM : (Z + Z / 4294967296) % 128 = s) (x24 x25 x26 : Int64)
    (e24 : x24 = x23 + ((x23.toUInt64 >>> ((8 : Int32).toInt64.toUInt64 &&& Int64.toUInt64 63)).toInt64)) (e25 : x25 = x24 + ((x24.toUInt64 >>> ((16 : Int32).toInt64.toUInt64 &&& Int64.toUInt64 63)).toInt64)) (e26 : x26 = x25 + ((x25.toUInt64 >>> ((32 : Int32).toInt64.toUInt64 &&& Int64.toUInt64 63)).toInt64)) : x26.toInt32 &&& 127 = nI s := by
  have lY : Y ≤ Z := by omega
  have lX : X ≤ Y := by omega
  have t24 : x24.toBitVec.toNat = Y := by
    have ts := tn_sh (x := x23) 8 8 (by decide)
    rw [t23, show (2 : Nat) ^ 8 = 256 by decide] at ts
    rw [e24, tn_add (by rw [ts, t23]; omega), ts, t23, eY]
  have t25 : x25.toBitVec.toNat = Z := by
    have ts := tn_sh (x := x24) 16 16 (by decide)
    rw [t24, show (2 : Nat) ^ 16 = 65536 by decide] at ts
    rw [e25, tn_add (by rw [ts, t24]; omega), ts, t24, eZ]
  have t26 : x26.toBitVec.toNat = Z + Z / 4294967296 := by
    have ts := tn_sh (x := x25) 32 32 (by decide)
    rw [t25, show (2 : Nat) ^ 32 = 4294967296 by decide] at ts
    rw [e26, tn_add (by rw [ts, t25]; omega), ts, t25]
  rw [pk_and x26.toInt32 (m := 127) 7 (by decide)]
  have q : x26.toInt32.toBitVec.toNat = (Z + Z / 4294967296) % 2 ^ 32 := by
    rw [Int64.toBitVec_toInt32, BitVec.toNat_setWidth, t26]
  rw [q, ← eM]
  congr 1
  exact Nat.mod_mod_of_dvd _ ⟨2 ^ 25, by decide⟩
theorem lc_sp (h : aH) (x x21 x22 x23 x24 x25 x26 : Int64) (e21 : x21 = x - (((x.toUInt64 >>> ((1 : Int32).toInt64.toUInt64 &&& Int64.toUInt64 63)).toInt64) &&& 6148914691236517205)) (e22 : x22 = (x21 &&& 3689348814741910323) + (((x21.toUInt64 >>> ((2 : Int32).toInt64.toUInt64 &&& Int64.toUInt64 63)).toInt64) &&& 3689348814741910323)) (e23 : x23 = (x22 + ((x22.toUInt64 >>> ((4 : Int32).toInt64.toUInt64 &&& Int64.toUInt64 63)).toInt64)) &&& 1085102592571150095)
    (e24 : x24 = x23 + ((x23.toUInt64 >>> ((8 : Int32).toInt64.toUInt64 &&& Int64.toUInt64 63)).toInt64)) (e25 : x25 = x24 + ((x24.toUInt64 >>> ((16 : Int32).toInt64.toUInt64 &&& Int64.toUInt64 63)).toInt64)) (e26 : x26 = x25 + ((x25.toUInt64 >>> ((32 : Int32).toInt64.toUInt64 &&& Int64.toUInt64 63)).toInt64)) : f_J13_bitCount_95d88 h x = some (x26.toInt32 &&& 127, h) := by
  subst e26 e25 e24 e23 e22 e21
  rfl
theorem longCount (h : aH) (x : Int64) : f_J13_bitCount_95d88 h x = some (nI (popc 64 x.toBitVec.toNat), h) := by
  obtain ⟨N, eN⟩ : ∃ N, N = x.toBitVec.toNat := ⟨_, rfl⟩
  have hN : N < 2 ^ 64 := by rw [eN]; exact x.toBitVec.isLt
  obtain ⟨bs, ebs⟩ : ∃ bs, bs = byt 8 N := ⟨_, rfl⟩
  have vN : val8 bs = N := by rw [ebs]; exact byt_v 8 N (by omega)
  have b8 : by8 bs := by rw [ebs]; exact byt_8 8 N
  have m1 : (6148914691236517205 : Int64).toBitVec.toNat = msk 85 bs := by rw [ebs]; simp only [byt, msk, List.map, val8]; decide
  have m2 : (3689348814741910323 : Int64).toBitVec.toNat = msk 51 (bs.map g1) := by rw [ebs]; simp only [byt, msk, List.map, val8]; decide
  have m3 : (1085102592571150095 : Int64).toBitVec.toNat = msk 15 ((bs.map g1).map g2) := by rw [ebs]; simp only [byt, msk, List.map, val8]; decide
  have w1 := sw1 bs b8
  have b81 : by8 (bs.map g1) := fun b hb => by
    obtain ⟨c, hc, rfl⟩ := List.mem_map.mp hb
    exact (d3a c (b8 c hc)).2.2.1
  have w2 := sw2 (bs.map g1) b81
  have w3 := sw3 ((bs.map g1).map g2) (fun b hb => by
    obtain ⟨c, hc, rfl⟩ := List.mem_map.mp hb
    obtain ⟨d, hd, rfl⟩ := List.mem_map.mp hc
    exact ⟨(d3a d (b8 d hd)).1, (d3a d (b8 d hd)).2.1⟩)
  obtain ⟨x21, e21⟩ : ∃ y, y = x - (((x.toUInt64 >>> ((1 : Int32).toInt64.toUInt64 &&& Int64.toUInt64 63)).toInt64) &&& 6148914691236517205) := ⟨_, rfl⟩
  have t21 : x21.toBitVec.toNat = val8 (bs.map g1) := by
    have ts := tn_sh (x := x) 1 1 (by decide)
    have ta : (((x.toUInt64 >>> ((1 : Int32).toInt64.toUInt64 &&& Int64.toUInt64 63)).toInt64) &&& 6148914691236517205).toBitVec.toNat = (val8 bs / 2 &&& msk 85 bs) := by
      rw [tn_and, ts, m1, ← eN, vN]
    rw [e21, tn_sub (by rw [ta, ← eN, ← vN]; exact w1.1), ta, ← eN, ← vN, w1.2]
  have l21 : val8 (bs.map g1) < 2 ^ 64 := by rw [← t21]; exact x21.toBitVec.isLt
  obtain ⟨x22, e22⟩ : ∃ y, y = (x21 &&& 3689348814741910323) + (((x21.toUInt64 >>> ((2 : Int32).toInt64.toUInt64 &&& Int64.toUInt64 63)).toInt64) &&& 3689348814741910323) := ⟨_, rfl⟩
  have sm2 : (3689348814741910323 : Int64).toBitVec.toNat < 2 ^ 62 := by decide
  have t22 : x22.toBitVec.toNat = val8 ((bs.map g1).map g2) := by
    have ts := tn_sh (x := x21) 2 2 (by decide)
    have ta : (((x21.toUInt64 >>> ((2 : Int32).toInt64.toUInt64 &&& Int64.toUInt64 63)).toInt64) &&& 3689348814741910323).toBitVec.toNat = (val8 (bs.map g1) / 4 &&& msk 51 (bs.map g1)) := by
      rw [tn_and, ts, m2, t21]
    have tb : (x21 &&& 3689348814741910323).toBitVec.toNat = (val8 (bs.map g1) &&& msk 51 (bs.map g1)) := by rw [tn_and, m2, t21]
    have la : (val8 (bs.map g1) / 4 &&& msk 51 (bs.map g1)) < 2 ^ 62 := Nat.and_lt_two_pow _ (by rw [← m2]; exact sm2)
    have lb : (val8 (bs.map g1) &&& msk 51 (bs.map g1)) < 2 ^ 62 := Nat.and_lt_two_pow _ (by rw [← m2]; exact sm2)
    rw [e22, tn_add (by rw [ta, tb]; omega), ta, tb, w2]
  have l22 : val8 ((bs.map g1).map g2) < 2 ^ 63 := by
    rw [← w2]
    have la : (val8 (bs.map g1) / 4 &&& msk 51 (bs.map g1)) < 2 ^ 62 := Nat.and_lt_two_pow _ (by rw [← m2]; exact sm2)
    have lb : (val8 (bs.map g1) &&& msk 51 (bs.map g1)) < 2 ^ 62 := Nat.and_lt_two_pow _ (by rw [← m2]; exact sm2)
    omega
  obtain ⟨x23, e23⟩ : ∃ y, y = (x22 + ((x22.toUInt64 >>> ((4 : Int32).toInt64.toUInt64 &&& Int64.toUInt64 63)).toInt64)) &&& 1085102592571150095 := ⟨_, rfl⟩
  have t23 : x23.toBitVec.toNat = val8 (((bs.map g1).map g2).map g3) := by
    have ts := tn_sh (x := x22) 4 4 (by decide)
    rw [e23, tn_and, tn_add (by rw [ts, t22]; omega), ts, m3, t22, ← w3]
  have pl : ∀ b, popc 8 b ≤ 8 := popc_le 8
  have pv : ((bs.map g1).map g2).map g3 = bs.map (popc 8) := by
    rw [List.map_map, List.map_map]
    exact List.map_congr_left (fun b hb => (d3a b (b8 b hb)).2.2.2)
  rw [pv] at t23
  have eb : bs.map (popc 8) = [popc 8 (N % 256), popc 8 (N / 256 % 256), popc 8 (N / 256 / 256 % 256), popc 8 (N / 256 / 256 / 256 % 256), popc 8 (N / 256 / 256 / 256 / 256 % 256), popc 8 (N / 256 / 256 / 256 / 256 / 256 % 256), popc 8 (N / 256 / 256 / 256 / 256 / 256 / 256 % 256), popc 8 (N / 256 / 256 / 256 / 256 / 256 / 256 / 256 % 256)] := by rw [ebs]; rfl
  rw [eb] at t23
  obtain ⟨X, Y, Z, eX, eY, eZ, eM, lZ⟩ := sw6 (pl (N % 256)) (pl (N / 256 % 256)) (pl (N / 256 / 256 % 256)) (pl (N / 256 / 256 / 256 % 256)) (pl (N / 256 / 256 / 256 / 256 % 256)) (pl (N / 256 / 256 / 256 / 256 / 256 % 256)) (pl (N / 256 / 256 / 256 / 256 / 256 / 256 % 256)) (pl (N / 256 / 256 / 256 / 256 / 256 / 256 / 256 % 256))
  rw [← eX] at t23
  rw [lc_sp h x x21 x22 x23 _ _ _ e21 e22 e23 rfl rfl rfl, lc_tail t23 eY eZ lZ eM _ _ _ rfl rfl rfl, popc64, ← eN]
