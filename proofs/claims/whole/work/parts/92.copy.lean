/-! ===== copies ===== -/
theorem st_dis : ∀ a ∈ stL, ∀ b ∈ stL, a ≠ b → a + 6 < b ∨ b + 6 < a := by decide +kernel
theorem cpy_0 {f g : Row} {s d : Nat} : va_cpy f g s d 0 = g := by
  funext j
  exact pk_cpy_out (by omega)
theorem cpy_s {f g : Row} {s d n : Nat} {x : Int32} (hx : x = f (s + n)) : upd (va_cpy f g s d n) (d + n) x = va_cpy f g s d (n + 1) := by
  funext j
  by_cases q : j = d + n
  · subst q
    rw [pk_us, pk_cpy_in (by omega) (by omega), hx]
    congr 1
    omega
  · rw [pk_un q]
    by_cases c : d ≤ j ∧ j < d + n
    · rw [pk_cpy_in c.1 c.2, pk_cpy_in c.1 (by omega)]
    · rw [pk_cpy_out (by omega), pk_cpy_out (by omega)]
theorem z_clamp : (0 : Int32).toNatClampNeg = 0 := by decide
theorem copyFrom_eq {h : aH} (hS : Str h) {a b : Nat} (ha : a ∈ stL) (hb : b ∈ stL) (hab : a ≠ b) {S : Row} (r : RSt h b S) (h0 : S 0 = 0 ∨ S 0 = 1) : ∃ h', f_X8_copyFrom h a b = some ((), h') ∧ RSt h' a S ∧ Upd (stA a) h h' := by
  have h0' : hI h b 0 = 0 ∨ hI h b 0 = 1 := by rw [r.s0]; exact h0
  have A := hS.st ha
  have B := hS.st hb
  have sa := st_sh a ha
  have sb := st_sh b hb
  have dis := st_dis a ha b hb hab
  have l1 : 8 ≤ (sh (b + 1)).2 ∧ 8 ≤ (sh (a + 1)).2 := by rw [sa.2.1, sb.2.1]; decide
  have l2 : 8 ≤ (sh (b + 2)).2 ∧ 8 ≤ (sh (a + 2)).2 := by rw [sa.2.2.1, sb.2.2.1]; decide
  have l3 : 8 ≤ (sh (b + 3)).2 ∧ 8 ≤ (sh (a + 3)).2 := by rw [sa.2.2.2.1, sb.2.2.2.1]; decide
  have l4 : 4 ≤ (sh (b + 4)).2 ∧ 4 ≤ (sh (a + 4)).2 := by rw [sa.2.2.2.2.1, sb.2.2.2.2.1]; decide
  have l5 : 32 ≤ (sh (b + 5)).2 ∧ 32 ≤ (sh (a + 5)).2 := by rw [sa.2.2.2.2.2.1, sb.2.2.2.2.2.1]; decide
  have l6 : 32 ≤ (sh (b + 6)).2 ∧ 32 ≤ (sh (a + 6)).2 := by rw [sa.2.2.2.2.2.2, sb.2.2.2.2.2.2]; decide
  have c8 : (8 : Int32).toNatClampNeg = 8 := by decide
  have c4 : (4 : Int32).toNatClampNeg = 4 := by decide
  have c32 : (32 : Int32).toNatClampNeg = 32 := by decide
  simp only [f_X8_copyFrom, qst0 ha, qst0 hb, if_pos h0', aLet, hR_pI, hR_pL, hR_wI, B.1, B.2.1, B.2.2.1, B.2.2.2.1, B.2.2.2.2.1, B.2.2.2.2.2, A.1, A.2.1, A.2.2.1, A.2.2.2.1, A.2.2.2.2.1, A.2.2.2.2.2, Option.bind_some, qst1 ha, qst1 hb, qst2 ha, qst2 hb, qst3 ha, qst3 hb, qst4 ha, qst4 hb, qst5 ha, qst5 hb, qst6 ha, qst6 hb, if_pos l1, if_pos l2, if_pos l3, if_pos l4, if_pos l5, if_pos l6, z_clamp, c8, c4, c32]
  refine ⟨_, rfl, ?_, ?_⟩
  · have n00 : ¬ (b = a) := by omega
    have n01 : ¬ (b = a + 1) := by omega
    have m01 : ¬ (a = a + 1) := by omega
    have n02 : ¬ (b = a + 2) := by omega
    have m02 : ¬ (a = a + 2) := by omega
    have n03 : ¬ (b = a + 3) := by omega
    have m03 : ¬ (a = a + 3) := by omega
    have n04 : ¬ (b = a + 4) := by omega
    have m04 : ¬ (a = a + 4) := by omega
    have n05 : ¬ (b = a + 5) := by omega
    have m05 : ¬ (a = a + 5) := by omega
    have n06 : ¬ (b = a + 6) := by omega
    have m06 : ¬ (a = a + 6) := by omega
    have n10 : ¬ (b + 1 = a) := by omega
    have m10 : ¬ (a + 1 = a) := by omega
    have n11 : ¬ (b + 1 = a + 1) := by omega
    have n12 : ¬ (b + 1 = a + 2) := by omega
    have m12 : ¬ (a + 1 = a + 2) := by omega
    have n13 : ¬ (b + 1 = a + 3) := by omega
    have m13 : ¬ (a + 1 = a + 3) := by omega
    have n14 : ¬ (b + 1 = a + 4) := by omega
    have m14 : ¬ (a + 1 = a + 4) := by omega
    have n15 : ¬ (b + 1 = a + 5) := by omega
    have m15 : ¬ (a + 1 = a + 5) := by omega
    have n16 : ¬ (b + 1 = a + 6) := by omega
    have m16 : ¬ (a + 1 = a + 6) := by omega
    have n20 : ¬ (b + 2 = a) := by omega
    have m20 : ¬ (a + 2 = a) := by omega
    have n21 : ¬ (b + 2 = a + 1) := by omega
    have m21 : ¬ (a + 2 = a + 1) := by omega
    have n22 : ¬ (b + 2 = a + 2) := by omega
    have n23 : ¬ (b + 2 = a + 3) := by omega
    have m23 : ¬ (a + 2 = a + 3) := by omega
    have n24 : ¬ (b + 2 = a + 4) := by omega
    have m24 : ¬ (a + 2 = a + 4) := by omega
    have n25 : ¬ (b + 2 = a + 5) := by omega
    have m25 : ¬ (a + 2 = a + 5) := by omega
    have n26 : ¬ (b + 2 = a + 6) := by omega
    have m26 : ¬ (a + 2 = a + 6) := by omega
    have n30 : ¬ (b + 3 = a) := by omega
    have m30 : ¬ (a + 3 = a) := by omega
    have n31 : ¬ (b + 3 = a + 1) := by omega
    have m31 : ¬ (a + 3 = a + 1) := by omega
    have n32 : ¬ (b + 3 = a + 2) := by omega
    have m32 : ¬ (a + 3 = a + 2) := by omega
    have n33 : ¬ (b + 3 = a + 3) := by omega
    have n34 : ¬ (b + 3 = a + 4) := by omega
    have m34 : ¬ (a + 3 = a + 4) := by omega
    have n35 : ¬ (b + 3 = a + 5) := by omega
    have m35 : ¬ (a + 3 = a + 5) := by omega
    have n36 : ¬ (b + 3 = a + 6) := by omega
    have m36 : ¬ (a + 3 = a + 6) := by omega
    have n40 : ¬ (b + 4 = a) := by omega
    have m40 : ¬ (a + 4 = a) := by omega
    have n41 : ¬ (b + 4 = a + 1) := by omega
    have m41 : ¬ (a + 4 = a + 1) := by omega
    have n42 : ¬ (b + 4 = a + 2) := by omega
    have m42 : ¬ (a + 4 = a + 2) := by omega
    have n43 : ¬ (b + 4 = a + 3) := by omega
    have m43 : ¬ (a + 4 = a + 3) := by omega
    have n44 : ¬ (b + 4 = a + 4) := by omega
    have n45 : ¬ (b + 4 = a + 5) := by omega
    have m45 : ¬ (a + 4 = a + 5) := by omega
    have n46 : ¬ (b + 4 = a + 6) := by omega
    have m46 : ¬ (a + 4 = a + 6) := by omega
    have n50 : ¬ (b + 5 = a) := by omega
    have m50 : ¬ (a + 5 = a) := by omega
    have n51 : ¬ (b + 5 = a + 1) := by omega
    have m51 : ¬ (a + 5 = a + 1) := by omega
    have n52 : ¬ (b + 5 = a + 2) := by omega
    have m52 : ¬ (a + 5 = a + 2) := by omega
    have n53 : ¬ (b + 5 = a + 3) := by omega
    have m53 : ¬ (a + 5 = a + 3) := by omega
    have n54 : ¬ (b + 5 = a + 4) := by omega
    have m54 : ¬ (a + 5 = a + 4) := by omega
    have n55 : ¬ (b + 5 = a + 5) := by omega
    have n56 : ¬ (b + 5 = a + 6) := by omega
    have m56 : ¬ (a + 5 = a + 6) := by omega
    have n60 : ¬ (b + 6 = a) := by omega
    have m60 : ¬ (a + 6 = a) := by omega
    have n61 : ¬ (b + 6 = a + 1) := by omega
    have m61 : ¬ (a + 6 = a + 1) := by omega
    have n62 : ¬ (b + 6 = a + 2) := by omega
    have m62 : ¬ (a + 6 = a + 2) := by omega
    have n63 : ¬ (b + 6 = a + 3) := by omega
    have m63 : ¬ (a + 6 = a + 3) := by omega
    have n64 : ¬ (b + 6 = a + 4) := by omega
    have m64 : ¬ (a + 6 = a + 4) := by omega
    have n65 : ¬ (b + 6 = a + 5) := by omega
    have m65 : ¬ (a + 6 = a + 5) := by omega
    have n66 : ¬ (b + 6 = a + 6) := by omega
    have e0 : ∀ (f : Row) (x : Int32) (i j : Nat), j ≠ i → upd f i x j = f j := fun f x i j q => pk_un q
    refine ⟨⟨?_, ?_, ?_, ?_, ?_, ?_, ?_⟩, fun q hq => ⟨?_, ?_, ?_⟩, fun q hq => ?_, fun q hq => ⟨?_, ?_⟩⟩
    all_goals simp only [hI_wI, hL_wI, hI_pI, hL_pI, hI_pL, hL_pL, if_true, if_false, n00, n01, m01, n02, m02, n03, m03, n04, m04, n05, m05, n06, m06, n10, m10, n11, n12, m12, n13, m13, n14, m14, n15, m15, n16, m16, n20, m20, n21, m21, n22, n23, m23, n24, m24, n25, m25, n26, m26, n30, m30, n31, m31, n32, m32, n33, n34, m34, n35, m35, n36, m36, n40, m40, n41, m41, n42, m42, n43, m43, n44, n45, m45, n46, m46, n50, m50, n51, m51, n52, m52, n53, m53, n54, m54, n55, n56, m56, n60, m60, n61, m61, n62, m62, n63, m63, n64, m64, n65, m65, n66]
    · simp only [upd, if_true, if_false, reduceIte, Nat.reduceEqDiff]
      exact r.s0
    · simp only [upd, if_true, if_false, reduceIte, Nat.reduceEqDiff]
      exact r.s1
    · simp only [upd, if_true, if_false, reduceIte, Nat.reduceEqDiff]
      exact r.s2
    · simp only [upd, if_true, if_false, reduceIte, Nat.reduceEqDiff]
      exact r.s3
    · simp only [upd, if_true, if_false, reduceIte, Nat.reduceEqDiff]
      exact r.s4
    · simp only [upd, if_true, if_false, reduceIte, Nat.reduceEqDiff]
      exact r.s5
    · rw [pk_uLs]; exact r.s6
    · rw [pk_cpy_in (by omega) (by omega)]; simp only [Nat.zero_add, Nat.sub_zero]; exact r.pu hq
    · rw [pk_cpy_in (by omega) (by omega)]; simp only [Nat.zero_add, Nat.sub_zero]; exact r.pa hq
    · rw [pk_cpy_in (by omega) (by omega)]; simp only [Nat.zero_add, Nat.sub_zero]; exact r.jo hq
    · rw [pk_cpy_in (by omega) (by omega)]; simp only [Nat.zero_add, Nat.sub_zero]; exact r.ye hq
    · rw [pk_cpy_in (by omega) (by omega)]; simp only [Nat.zero_add, Nat.sub_zero]; exact r.li hq
    · rw [pk_cpy_in (by omega) (by omega)]; simp only [Nat.zero_add, Nat.sub_zero]; exact r.tr hq
  · have s : ∀ k, k ≤ 6 → stA a (a + k) := fun k hk => ⟨by omega, by omega⟩
    exact (((((((((((((Upd.pI (s 0 (by omega))).tr (Upd.pI (s 0 (by omega)))).tr (Upd.pI (s 0 (by omega)))).tr (Upd.pI (s 0 (by omega)))).tr (Upd.pI (s 0 (by omega)))).tr (Upd.pI (s 0 (by omega)))).tr (Upd.pL (s 0 (by omega)))).tr (Upd.wI (s 1 (by omega)))).tr (Upd.wI (s 2 (by omega)))).tr (Upd.wI (s 3 (by omega)))).tr (Upd.wI (s 4 (by omega)))).tr (Upd.wI (s 5 (by omega)))).tr (Upd.wI (s 6 (by omega))))
