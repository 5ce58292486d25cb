theorem lc_sp (h : aH) (x x21 x22 x23 x24 x25 x26 : Int64) (e21 : x21 = x - (((x.toUInt64 >>> ((1 : Int32).toInt64.toUInt64 &&& Int64.toUInt64 63)).toInt64) &&& 6148914691236517205)) (e22 : x22 = (x21 &&& 3689348814741910323) + (((x21.toUInt64 >>> ((2 : Int32).toInt64.toUInt64 &&& Int64.toUInt64 63)).toInt64) &&& 3689348814741910323)) (e23 : x23 = (x22 + ((x22.toUInt64 >>> ((4 : Int32).toInt64.toUInt64 &&& Int64.toUInt64 63)).toInt64)) &&& 1085102592571150095)
    (e24 : x24 = x23 + ((x23.toUInt64 >>> ((8 : Int32).toInt64.toUInt64 &&& Int64.toUInt64 63)).toInt64)) (e25 : x25 = x24 + ((x24.toUInt64 >>> ((16 : Int32).toInt64.toUInt64 &&& Int64.toUInt64 63)).toInt64)) (e26 : x26 = x25 + ((x25.toUInt64 >>> ((32 : Int32).toInt64.toUInt64 &&& Int64.toUInt64 63)).toInt64)) : f_J13_bitCount_95d88 h x = some (x26.toInt32 &&& 127, h) := by
  subst e26 e25 e24 e23 e22 e21
  rfl
theorem longCount (h : aH) (x : Int64) : f_J13_bitCount_95d88 h x = some (nI (popc 64 x.toBitVec.toNat), h) := by
  obtain ⟨N, eN⟩ : ∃ N, N = x.toBitVec.toNat := ⟨_, rfl⟩
  have hN : N < 2 ^ 64 := by rw [eN]; exact x.toBitVec.isLt
  obtain ⟨bs, ebs⟩ : ∃ bs, bs = byt 8 N := ⟨_, rfl⟩
  have vN : val8 bs = N := by rw [ebs]; exact byt_v 8 N (by omega)
  have b8 : by8 bs := by rw [ebs]; exact byt_8 8 N
  have m1 : (6148914691236517205 : Int64).toBitVec.toNat = msk 85 bs := by rw [ebs]; simp only [byt, msk, List.map, val8]; decide
  have m2 : (3689348814741910323 : Int64).toBitVec.toNat = msk 51 (bs.map g1) := by rw [ebs]; simp only [byt, msk, List.map, val8]; decide
  have m3 : (1085102592571150095 : Int64).toBitVec.toNat = msk 15 ((bs.map g1).map g2) := by rw [ebs]; simp only [byt, msk, List.map, val8]; decide
  have w1 := sw1 bs b8
  have b81 : by8 (bs.map g1) := fun b hb => by
    obtain ⟨c, hc, rfl⟩ := List.mem_map.mp hb
    exact (d3a c (b8 c hc)).2.2.1
  have w2 := sw2 (bs.map g1) b81
  have w3 := sw3 ((bs.map g1).map g2) (fun b hb => by
    obtain ⟨c, hc, rfl⟩ := List.mem_map.mp hb
    obtain ⟨d, hd, rfl⟩ := List.mem_map.mp hc
    exact ⟨(d3a d (b8 d hd)).1, (d3a d (b8 d hd)).2.1⟩)
  obtain ⟨x21, e21⟩ : ∃ y, y = x - (((x.toUInt64 >>> ((1 : Int32).toInt64.toUInt64 &&& Int64.toUInt64 63)).toInt64) &&& 6148914691236517205) := ⟨_, rfl⟩
  have t21 : x21.toBitVec.toNat = val8 (bs.map g1) := by
    have ts := tn_sh (x := x) 1 1 (by decide)
    have ta : (((x.toUInt64 >>> ((1 : Int32).toInt64.toUInt64 &&& Int64.toUInt64 63)).toInt64) &&& 6148914691236517205).toBitVec.toNat = (val8 bs / 2 &&& msk 85 bs) := by
      rw [tn_and, ts, m1, ← eN, vN]
    rw [e21, tn_sub (by rw [ta, ← eN, ← vN]; exact w1.1), ta, ← eN, ← vN, w1.2]
  have l21 : val8 (bs.map g1) < 2 ^ 64 := by rw [← t21]; exact x21.toBitVec.isLt
  obtain ⟨x22, e22⟩ : ∃ y, y = (x21 &&& 3689348814741910323) + (((x21.toUInt64 >>> ((2 : Int32).toInt64.toUInt64 &&& Int64.toUInt64 63)).toInt64) &&& 3689348814741910323) := ⟨_, rfl⟩
  have sm2 : (3689348814741910323 : Int64).toBitVec.toNat < 2 ^ 62 := by decide
  have t22 : x22.toBitVec.toNat = val8 ((bs.map g1).map g2) := by
    have ts := tn_sh (x := x21) 2 2 (by decide)
    have ta : (((x21.toUInt64 >>> ((2 : Int32).toInt64.toUInt64 &&& Int64.toUInt64 63)).toInt64) &&& 3689348814741910323).toBitVec.toNat = (val8 (bs.map g1) / 4 &&& msk 51 (bs.map g1)) := by
      rw [tn_and, ts, m2, t21]
    have tb : (x21 &&& 3689348814741910323).toBitVec.toNat = (val8 (bs.map g1) &&& msk 51 (bs.map g1)) := by rw [tn_and, m2, t21]
    have la : (val8 (bs.map g1) / 4 &&& msk 51 (bs.map g1)) < 2 ^ 62 := Nat.and_lt_two_pow _ (by rw [← m2]; exact sm2)
    have lb : (val8 (bs.map g1) &&& msk 51 (bs.map g1)) < 2 ^ 62 := Nat.and_lt_two_pow _ (by rw [← m2]; exact sm2)
    rw [e22, tn_add (by rw [ta, tb]; omega), ta, tb, w2]
  have l22 : val8 ((bs.map g1).map g2) < 2 ^ 63 := by
    rw [← w2]
    have la : (val8 (bs.map g1) / 4 &&& msk 51 (bs.map g1)) < 2 ^ 62 := Nat.and_lt_two_pow _ (by rw [← m2]; exact sm2)
    have lb : (val8 (bs.map g1) &&& msk 51 (bs.map g1)) < 2 ^ 62 := Nat.and_lt_two_pow _ (by rw [← m2]; exact sm2)
    omega
  obtain ⟨x23, e23⟩ : ∃ y, y = (x22 + ((x22.toUInt64 >>> ((4 : Int32).toInt64.toUInt64 &&& Int64.toUInt64 63)).toInt64)) &&& 1085102592571150095 := ⟨_, rfl⟩
  have t23 : x23.toBitVec.toNat = val8 (((bs.map g1).map g2).map g3) := by
    have ts := tn_sh (x := x22) 4 4 (by decide)
    rw [e23, tn_and, tn_add (by rw [ts, t22]; omega), ts, m3, t22, ← w3]
  have pl : ∀ b, popc 8 b ≤ 8 := popc_le 8
  have pv : ((bs.map g1).map g2).map g3 = bs.map (popc 8) := by
    rw [List.map_map, List.map_map]
    exact List.map_congr_left (fun b hb => (d3a b (b8 b hb)).2.2.2)
  rw [pv] at t23
  have eb : bs.map (popc 8) = [popc 8 (N % 256), popc 8 (N / 256 % 256), popc 8 (N / 256 / 256 % 256), popc 8 (N / 256 / 256 / 256 % 256), popc 8 (N / 256 / 256 / 256 / 256 % 256), popc 8 (N / 256 / 256 / 256 / 256 / 256 % 256), popc 8 (N / 256 / 256 / 256 / 256 / 256 / 256 % 256), popc 8 (N / 256 / 256 / 256 / 256 / 256 / 256 / 256 % 256)] := by rw [ebs]; rfl
  rw [eb] at t23
  obtain ⟨X, Y, Z, eX, eY, eZ, eM, lZ⟩ := sw6 (pl (N % 256)) (pl (N / 256 % 256)) (pl (N / 256 / 256 % 256)) (pl (N / 256 / 256 / 256 % 256)) (pl (N / 256 / 256 / 256 / 256 % 256)) (pl (N / 256 / 256 / 256 / 256 / 256 % 256)) (pl (N / 256 / 256 / 256 / 256 / 256 / 256 % 256)) (pl (N / 256 / 256 / 256 / 256 / 256 / 256 / 256 % 256))
  rw [← eX] at t23
  rw [lc_sp h x x21 x22 x23 _ _ _ e21 e22 e23 rfl rfl rfl, lc_tail t23 eY eZ lZ eM _ _ _ rfl rfl rfl, popc64, ← eN]
