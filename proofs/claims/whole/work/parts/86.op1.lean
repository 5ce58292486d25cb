/-! ===== seed, force, end ===== -/
theorem op_seed : Op_seed Inv := by
  intro h hV x
  have hS := hV.1
  by_cases hx : 0 ≤ x
  · refine ⟨hI h 11 7, pI h 11 7 x, pI (pI h 11 7 x) 308 22 x, ?_, ?_, ?_⟩
    · simp only [f_X11_seed, aLet, r_0_5 hS, Option.bind_some, q_0, q_11, if_pos hx]
    · simp only [f_X12_seed, aLet, q_308, if_pos hx, hI_ne h (show 308 ≠ 11 by decide)]
      rw [hV.2.2.2.1.2.2.2.2.2.2.1]
    · have e8 : hI (pI (pI h 11 7 x) 308 22 x) 308 = upd (hI h 308) 22 x := by rw [hI_eq, hI_ne h (by decide)]
      have e1 : hI (pI (pI h 11 7 x) 308 22 x) 11 = upd (hI h 11) 7 x := by rw [hI_ne _ (by decide), hI_eq]
      have e0 : ∀ b, b ≠ 11 → b ≠ 308 → hI (pI (pI h 11 7 x) 308 22 x) b = hI h b := fun b h1 h2 => by rw [hI_ne _ h2, hI_ne _ h1]
      have v3 := hV.2.2.2.1
      refine hV.chg ((Upd.pI (by unfold Sc; omega)).tr (Upd.pI (by unfold Sc; omega))) ?_ ?_ ?_ ?_ ?_ ?_ ?_ ?_ ?_ ?_ ?_ ?_ ?_ <;> simp only [e8, e1, e0 0 (by decide) (by decide), e0 1 (by decide) (by decide), upd_at, upd_ne _ _ (show (1 : Nat) ≠ 22 by decide), upd_ne _ _ (show (2 : Nat) ≠ 22 by decide), upd_ne _ _ (show (21 : Nat) ≠ 22 by decide), upd_ne _ _ (show (23 : Nat) ≠ 22 by decide), upd_ne _ _ (show (29 : Nat) ≠ 22 by decide), upd_ne _ _ (show (5 : Nat) ≠ 7 by decide), upd_ne _ _ (show (6 : Nat) ≠ 7 by decide)]
      · exact hV.2.1.1
      · exact hV.2.1.2.1
      · exact v3.2.2.2.2.2.1
      · exact hV.2.2.2.2.1
      · exact ⟨hx, Int32.le_maxValue x⟩
      · exact hV.2.2.2.2.2.2.2
  · refine ⟨-1, h, h, ?_, ?_, hV⟩
    · simp only [f_X11_seed, if_neg hx]
    · simp only [f_X12_seed, if_neg hx]
theorem op_end : Op_end Inv := by
  intro h hV x
  have hS := hV.1
  have ht := hV.2.1
  by_cases hx : x < 0
  · exact ⟨-1, h, h, by simp only [f_X11_end, if_pos hx], by simp only [f_X12_end, if_pos hx], hV⟩
  · by_cases hy : x ≤ hI h 308 1
    · have hy' : x ≤ hI h 1 1 := by rw [ht.1]; exact hy
      refine ⟨x, pI h 1 1 x, pI (pI h 1 1 x) 308 1 x, ?_, ?_, ?_⟩
      · simp only [f_X11_end, aLet, r_0_0 hS, Option.bind_some, q_0, q_1, if_neg hx, if_pos hy']
      · simp only [f_X12_end, aLet, q_308, if_neg hx, hI_ne h (show 308 ≠ 1 by decide), if_pos hy]
      · have e8 : hI (pI (pI h 1 1 x) 308 1 x) 308 = upd (hI h 308) 1 x := by rw [hI_eq, hI_ne h (by decide)]
        have e1 : hI (pI (pI h 1 1 x) 308 1 x) 1 = upd (hI h 1) 1 x := by rw [hI_ne _ (by decide), hI_eq]
        have e0 : ∀ b, b ≠ 1 → b ≠ 308 → hI (pI (pI h 1 1 x) 308 1 x) b = hI h b := fun b h1 h2 => by rw [hI_ne _ h2, hI_ne _ h1]
        have v3 := hV.2.2.2.1
        refine hV.chg ((Upd.pI (by unfold Sc; omega)).tr (Upd.pI (by unfold Sc; omega))) ?_ ?_ ?_ ?_ ?_ ?_ ?_ ?_ ?_ ?_ ?_ ?_ ?_ <;> simp only [e8, e1, e0 0 (by decide) (by decide), e0 11 (by decide) (by decide), upd_at, upd_ne _ _ (show (22 : Nat) ≠ 1 by decide), upd_ne _ _ (show (2 : Nat) ≠ 1 by decide), upd_ne _ _ (show (21 : Nat) ≠ 1 by decide), upd_ne _ _ (show (23 : Nat) ≠ 1 by decide), upd_ne _ _ (show (29 : Nat) ≠ 1 by decide)]
        · exact ⟨Int32.not_lt.mp hx, Int32.le_trans hy ht.2.1.2⟩
        · exact v3.2.2.2.2.2.1
        · exact hV.2.2.2.2.1
        · exact v3.2.2.2.2.2.2.1
        · exact v3.2.2.2.2.2.2.2.1
        · exact hV.2.2.2.2.2.2.2
    · have hy' : ¬ x ≤ hI h 1 1 := by rw [ht.1]; exact hy
      exact ⟨-1, h, h, by simp only [f_X11_end, r_0_0 hS, Option.bind_some, q_0, q_1, if_neg hx, if_neg hy'], by simp only [f_X12_end, q_308, if_neg hx, if_neg hy], hV⟩
theorem op_force : Op_force Inv := by
  intro h hV x
  have hS := hV.1
  have hr := hV.2.2.1
  have v3 := hV.2.2.2.1
  by_cases hx : x < -1
  · have h1 : ¬ x = -1 := fun q => by rw [q] at hx; exact absurd hx (by decide)
    have h2 : x < 0 := Int32.lt_trans hx (by decide)
    exact ⟨-2, h, h, by simp only [f_X11_force, f_X11_isRuleOrNone, q_0, if_pos hx, aBind_some, if_true], by simp only [f_X12_force, f_X12_isRule, q_308, if_neg h1, if_pos h2, aBind_some, if_true], hV⟩
  · by_cases hy : hI h 308 2 ≤ x
    · have hy' : hI h 0 4 ≤ x := by rw [hr.1]; exact hy
      have h0 : (0 : Int32) ≤ x := Int32.le_trans hr.2.1.1 hy
      have h1 : ¬ x = -1 := fun q => by rw [q] at h0; exact absurd h0 (by decide)
      have h2 : ¬ x < 0 := Int32.not_lt.mpr h0
      exact ⟨-2, h, h, by simp only [f_X11_force, f_X11_isRuleOrNone, q_0, if_neg hx, if_pos hy', aBind_some, if_true], by simp only [f_X12_force, f_X12_isRule, q_308, if_neg h1, if_neg h2, if_pos hy, aBind_some, if_true], hV⟩
    · have hy' : ¬ hI h 0 4 ≤ x := by rw [hr.1]; exact hy
      have n10 : ¬ (1 : Int32) = 0 := by decide
      refine ⟨hI h 11 6, pI h 11 6 x, pI (pI h 11 6 x) 308 21 x, ?_, ?_, ?_⟩
      · simp only [f_X11_force, f_X11_isRuleOrNone, aLet, r_0_5 hS, Option.bind_some, q_0, q_11, if_neg hx, if_neg hy', aBind_some, if_neg n10]
      · have e21 : hI (pI h 11 6 x) 308 21 = hI h 11 6 := by rw [hI_ne h (by decide)]; exact v3.2.2.2.2.2.1.symm
        have e2 : hI (pI h 11 6 x) 308 2 = hI h 308 2 := by rw [hI_ne h (by decide)]
        by_cases h1 : x = -1
        · simp only [f_X12_force, b_X12_force_16, aLet, q_308, if_pos h1, e21]
        · have h2 : ¬ x < 0 := fun q => by
            have a1 := Int32.not_lt.mp hx
            have b1 := Int32.le_iff_toInt_le.mp a1
            have b2 := Int32.lt_iff_toInt_lt.mp q
            have c1 : (-1 : Int32).toInt = -1 := by decide
            have c2 : (0 : Int32).toInt = 0 := by decide
            rw [c1] at b1
            rw [c2] at b2
            exact h1 (Int32.toInt_inj.mp (by rw [c1]; omega))
          simp only [f_X12_force, b_X12_force_16, f_X12_isRule, aLet, q_308, if_neg h1, if_neg h2, e2, if_neg hy, aBind_some, if_neg n10, e21]
      · have e8 : hI (pI (pI h 11 6 x) 308 21 x) 308 = upd (hI h 308) 21 x := by rw [hI_eq, hI_ne h (by decide)]
        have e1 : hI (pI (pI h 11 6 x) 308 21 x) 11 = upd (hI h 11) 6 x := by rw [hI_ne _ (by decide), hI_eq]
        have e0 : ∀ b, b ≠ 11 → b ≠ 308 → hI (pI (pI h 11 6 x) 308 21 x) b = hI h b := fun b h1 h2 => by rw [hI_ne _ h2, hI_ne _ h1]
        refine hV.chg ((Upd.pI (by unfold Sc; omega)).tr (Upd.pI (by unfold Sc; omega))) ?_ ?_ ?_ ?_ ?_ ?_ ?_ ?_ ?_ ?_ ?_ ?_ ?_ <;> simp only [e8, e1, e0 0 (by decide) (by decide), e0 1 (by decide) (by decide), upd_at, upd_ne _ _ (show (22 : Nat) ≠ 21 by decide), upd_ne _ _ (show (2 : Nat) ≠ 21 by decide), upd_ne _ _ (show (1 : Nat) ≠ 21 by decide), upd_ne _ _ (show (23 : Nat) ≠ 21 by decide), upd_ne _ _ (show (29 : Nat) ≠ 21 by decide), upd_ne _ _ (show (5 : Nat) ≠ 6 by decide), upd_ne _ _ (show (7 : Nat) ≠ 6 by decide)]
        · exact hV.2.1.1
        · exact hV.2.1.2.1
        · exact ⟨Int32.not_lt.mp hx, Int32.not_le.mp hy⟩
        · exact v3.2.2.2.2.2.2.1
        · exact v3.2.2.2.2.2.2.2.1
        · exact hV.2.2.2.2.2.2.2
