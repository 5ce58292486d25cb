theorem tn_sh {x : Int64} (k : Int32) (n : Nat) (hk : (((k.toInt64.toUInt64 &&& Int64.toUInt64 63).toBitVec % 64).toNat) = n) : ((x.toUInt64 >>> (k.toInt64.toUInt64 &&& Int64.toUInt64 63)).toInt64).toBitVec.toNat = x.toBitVec.toNat / 2 ^ n := by
  show (x.toUInt64 >>> (k.toInt64.toUInt64 &&& Int64.toUInt64 63)).toBitVec.toNat = _
  rw [UInt64.toBitVec_shiftRight, BitVec.ushiftRight_eq', BitVec.toNat_ushiftRight, hk, Nat.shiftRight_eq_div_pow]
  rfl
theorem tn_add {x y : Int64} (h : x.toBitVec.toNat + y.toBitVec.toNat < 2 ^ 64) : (x + y).toBitVec.toNat = x.toBitVec.toNat + y.toBitVec.toNat := by
  rw [Int64.toBitVec_add, BitVec.toNat_add, Nat.mod_eq_of_lt h]
theorem tn_sub {x y : Int64} (h : y.toBitVec.toNat ≤ x.toBitVec.toNat) : (x - y).toBitVec.toNat = x.toBitVec.toNat - y.toBitVec.toNat := by
  rw [Int64.toBitVec_sub, BitVec.toNat_sub_of_le h]
theorem tn_and {x y : Int64} : (x &&& y).toBitVec.toNat = x.toBitVec.toNat &&& y.toBitVec.toNat := by
  rw [Int64.toBitVec_and, BitVec.toNat_and]
theorem popc64 (N : Nat) : popc 64 N = popc 8 (N % 256) + popc 8 (N / 256 % 256) + popc 8 (N / 256 / 256 % 256) + popc 8 (N / 256 / 256 / 256 % 256) + popc 8 (N / 256 / 256 / 256 / 256 % 256) + popc 8 (N / 256 / 256 / 256 / 256 / 256 % 256) + popc 8 (N / 256 / 256 / 256 / 256 / 256 / 256 % 256) + popc 8 (N / 256 / 256 / 256 / 256 / 256 / 256 / 256 % 256) := by
  have sp : ∀ m y, popc (8 + m) y = popc 8 (y % 256) + popc m (y / 256) := fun m y => popc_split 8 m y
  have s7 : ∀ y, popc 8 y = popc 8 (y % 256) := fun y => by
    have := sp 0 y
    rw [popc, Nat.add_zero, Nat.add_zero] at this
    exact this
  have h1 := sp 56 N
  have h2 := sp 48 (N / 256)
  have h3 := sp 40 (N / 256 / 256)
  have h4 := sp 32 (N / 256 / 256 / 256)
  have h5 := sp 24 (N / 256 / 256 / 256 / 256)
  have h6 := sp 16 (N / 256 / 256 / 256 / 256 / 256)
  have h7 := sp 8 (N / 256 / 256 / 256 / 256 / 256 / 256)
  have h8 := s7 (N / 256 / 256 / 256 / 256 / 256 / 256 / 256)
  simp only [Nat.reduceAdd] at h1 h2 h3 h4 h5 h6 h7
  rw [h1, h2, h3, h4, h5, h6, h7, h8]
  simp only [Nat.add_assoc]
theorem lc_tail {x23 : Int64} {X Y Z s : Nat} (t23 : x23.toBitVec.toNat = X) (eY : Y = X + X / 256) (eZ : Z = Y + Y / 65536) (lZ : Z + Z / 4294967296 < 2 ^ 64) (eM : (Z + Z / 4294967296) % 128 = s) (x24 x25 x26 : Int64)
    (e24 : x24 = x23 + ((x23.toUInt64 >>> ((8 : Int32).toInt64.toUInt64 &&& Int64.toUInt64 63)).toInt64)) (e25 : x25 = x24 + ((x24.toUInt64 >>> ((16 : Int32).toInt64.toUInt64 &&& Int64.toUInt64 63)).toInt64)) (e26 : x26 = x25 + ((x25.toUInt64 >>> ((32 : Int32).toInt64.toUInt64 &&& Int64.toUInt64 63)).toInt64)) : x26.toInt32 &&& 127 = nI s := by
  have lY : Y ≤ Z := by omega
  have lX : X ≤ Y := by omega
  have t24 : x24.toBitVec.toNat = Y := by
    have ts := tn_sh (x := x23) 8 8 (by decide)
    rw [t23, show (2 : Nat) ^ 8 = 256 by decide] at ts
    rw [e24, tn_add (by rw [ts, t23]; omega), ts, t23, eY]
  have t25 : x25.toBitVec.toNat = Z := by
    have ts := tn_sh (x := x24) 16 16 (by decide)
    rw [t24, show (2 : Nat) ^ 16 = 65536 by decide] at ts
    rw [e25, tn_add (by rw [ts, t24]; omega), ts, t24, eZ]
  have t26 : x26.toBitVec.toNat = Z + Z / 4294967296 := by
    have ts := tn_sh (x := x25) 32 32 (by decide)
    rw [t25, show (2 : Nat) ^ 32 = 4294967296 by decide] at ts
    rw [e26, tn_add (by rw [ts, t25]; omega), ts, t25]
  rw [pk_and x26.toInt32 (m := 127) 7 (by decide)]
  have q : x26.toInt32.toBitVec.toNat = (Z + Z / 4294967296) % 2 ^ 32 := by
    rw [Int64.toBitVec_toInt32, BitVec.signExtend_eq_setWidth_of_le _ (by decide), BitVec.toNat_setWidth, t26]
  rw [q, ← eM]
  congr 1
  exact Nat.mod_mod_of_dvd _ ⟨2 ^ 25, by decide⟩
