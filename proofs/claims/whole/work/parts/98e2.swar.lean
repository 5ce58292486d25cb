theorem dvA {a b : Nat} (h : a < 256) : (a + 256 * b) / 256 = b := by omega
theorem dvB {a b : Nat} (h : a < 65536) : (a + 65536 * b) / 65536 = b := by omega
theorem linA {p0 p1 p2 A1 A2 A3 : Nat} (e1 : A1 = p1 + 256 * A2) (e2 : A2 = p2 + 256 * A3) : p0 + 256 * A1 + A1 = (p0 + p1 + 256 * (p1 + p2)) + 65536 * (A2 + A3) := by subst e1 e2; omega
theorem linB {p0 p1 p2 p3 p4 A2 A3 A4 A5 : Nat} (e2 : A2 = p2 + 256 * A3) (e3 : A3 = p3 + 256 * A4) (e4 : A4 = p4 + 256 * A5) : (p0 + p1 + 256 * (p1 + p2)) + 65536 * (A2 + A3) + (A2 + A3) = (p0 + p1 + p2 + p3) + 256 * (p1 + p2 + p3 + p4) + 65536 * (A2 + A3 + A4 + A5) := by subst e2 e3 e4; omega
theorem linC {p2 p3 p4 p5 p6 A2 A3 A4 A5 A6 A7 : Nat} (e2 : A2 = p2 + 256 * A3) (e3 : A3 = p3 + 256 * A4) (e4 : A4 = p4 + 256 * A5) (e5 : A5 = p5 + 256 * A6) (e6 : A6 = p6 + 256 * A7) : A2 + A3 + A4 + A5 = (p2 + p3 + p4 + p5) + 256 * (p3 + p4 + p5 + p6) + 65536 * (A4 + A5 + A6 + A7) := by subst e2 e3 e4 e5 e6; omega
theorem linD {p4 p5 p6 A4 A5 A6 A7 : Nat} (e4 : A4 = p4 + 256 * A5) (e5 : A5 = p5 + 256 * A6) (e6 : A6 = p6 + 256 * A7) : A4 + A5 + A6 + A7 = (p4 + p5 + p6 + A7) + 128 * (2 * (A5 + A6 + A7)) := by subst e4 e5 e6; omega
theorem bdA {p A B c : Nat} (e : A = p + 256 * B) (hp : p ≤ 8) (hB : B ≤ c) : A ≤ 8 + 256 * c := by subst e; omega
theorem sw6 {p0 p1 p2 p3 p4 p5 p6 p7 : Nat} (h0 : p0 ≤ 8) (h1 : p1 ≤ 8) (h2 : p2 ≤ 8) (h3 : p3 ≤ 8) (h4 : p4 ≤ 8) (h5 : p5 ≤ 8) (h6 : p6 ≤ 8) (h7 : p7 ≤ 8) :
    ∃ X Y Z, X = val8 [p0, p1, p2, p3, p4, p5, p6, p7] ∧ Y = X + X / 256 ∧ Z = Y + Y / 65536 ∧ (Z + Z / 4294967296) % 128 = p0 + p1 + p2 + p3 + p4 + p5 + p6 + p7 ∧ Z + Z / 4294967296 < 2 ^ 64 := by
  obtain ⟨A7, e7⟩ : ∃ A, A = p7 + 256 * 0 := ⟨_, rfl⟩
  obtain ⟨A6, e6⟩ : ∃ A, A = p6 + 256 * A7 := ⟨_, rfl⟩
  obtain ⟨A5, e5⟩ : ∃ A, A = p5 + 256 * A6 := ⟨_, rfl⟩
  obtain ⟨A4, e4⟩ : ∃ A, A = p4 + 256 * A5 := ⟨_, rfl⟩
  obtain ⟨A3, e3⟩ : ∃ A, A = p3 + 256 * A4 := ⟨_, rfl⟩
  obtain ⟨A2, e2⟩ : ∃ A, A = p2 + 256 * A3 := ⟨_, rfl⟩
  obtain ⟨A1, e1⟩ : ∃ A, A = p1 + 256 * A2 := ⟨_, rfl⟩
  have v : p0 + 256 * A1 = val8 [p0, p1, p2, p3, p4, p5, p6, p7] := by
    rw [e1, e2, e3, e4, e5, e6, e7]; rfl
  have a7 : A7 = p7 := by rw [e7]; rfl
  have b7 : A7 ≤ 8 := by rw [a7]; exact h7
  have b6 := bdA e6 h6 b7
  have b5 := bdA e5 h5 b6
  have b4 := bdA e4 h4 b5
  have m4 := linD e4 e5 e6
  have lA := linA (p0 := p0) e1 e2
  have lB := linB (p0 := p0) (p1 := p1) e2 e3 e4
  have lC := linC e2 e3 e4 e5 e6
  clear e1 e2 e3 e4 e5 e6 e7
  have c1 : p0 + p1 + 256 * (p1 + p2) < 65536 := by clear lA lB lC m4 b4 b5 b6 b7 a7 v; omega
  have x1 : (p0 + 256 * A1) / 256 = A1 := dvA (by clear lA lB lC m4 b4 b5 b6 b7 a7 v; omega)
  have x2 : (p0 + 256 * A1 + A1) / 65536 = A2 + A3 := by rw [lA]; exact dvB c1
  obtain ⟨B, eB⟩ : ∃ B, B = A4 + A5 + A6 + A7 := ⟨_, rfl⟩
  have mB : B % 128 = p4 + p5 + p6 + p7 := by
    rw [eB, m4, a7, Nat.add_mul_mod_self_left, Nat.mod_eq_of_lt (by clear lA lB lC m4 b4 b5 b6 b7 a7 v x1 x2 eB c1; omega)]
  have bB' : B ≤ 1000000000 := by rw [eB]; clear lA lB lC m4 a7 v x1 x2 c1 mB h0 h1 h2 h3 h4 h5 h6 h7; omega
  rw [← eB] at lC
  have z0 : p0 + 256 * A1 + A1 + (A2 + A3) = (p0 + p1 + p2 + p3) + 256 * (p1 + p2 + p3 + p4) + 65536 * ((p2 + p3 + p4 + p5) + 256 * (p3 + p4 + p5 + p6) + 65536 * B) := by rw [lA, lB, lC]
  have z : (p0 + 256 * A1 + A1 + (A2 + A3)) / 4294967296 = B := by
    rw [z0]; clear lA lB lC m4 b4 b5 b6 b7 a7 v x1 x2 c1 mB eB z0; exact sw6a (by omega) (by omega) (by omega) (by omega)
  refine ⟨p0 + 256 * A1, p0 + 256 * A1 + A1, p0 + 256 * A1 + A1 + (A2 + A3), v, by rw [x1], by rw [x2], ?_, ?_⟩
  · rw [z, z0]; clear lA lB lC m4 b4 b5 b6 b7 a7 v x1 x2 c1 eB z0 z; exact sw6b mB (by omega) (by omega)
  · rw [z, z0]; clear lA lB lC m4 b4 b5 b6 b7 a7 v x1 x2 c1 mB eB z0 z; exact sw6c (by omega) (by omega) (by omega) (by omega) bB'
