/-! ===== seed, force, end ===== -/
theorem op_seed : Op_seed Inv := by
  intro h hV x
  have hS := hV.1
  by_cases hx : 0 ≤ x
  · refine ⟨hI h 11 7, pI h 11 7 x, pI (pI h 11 7 x) 308 22 x, ?_, ?_, ?_⟩
    · simp only [f_X11_seed, aLet, r_0_5 hS, Option.bind_some, q_0, q_11, if_pos hx]
    · simp only [f_X12_seed, aLet, q_308, if_pos hx, hI_ne h (show 308 ≠ 11 by decide)]
      rw [hV.2.2.2.1.2.2.2.2.2.2.1]
    · obtain ⟨_, v1, v2, v3, v4, v5, v6, v7⟩ := hV
      have u : Upd (fun a => a = 11 ∨ a = 308) h (pI (pI h 11 7 x) 308 22 x) := (Upd.pI (Or.inl rfl)).tr (Upd.pI (Or.inr rfl))
      have n8 : ∀ j, j ≠ 22 → hI (pI (pI h 11 7 x) 308 22 x) 308 j = hI h 308 j := fun j hj => by rw [hI_eq, upd_ne _ _ hj, hI_ne h (by decide)]
      have e8 : hI (pI (pI h 11 7 x) 308 22 x) 308 22 = x := by rw [hI_eq, upd_at]
      have n1 : ∀ j, j ≠ 7 → hI (pI (pI h 11 7 x) 308 22 x) 11 j = hI h 11 j := fun j hj => by rw [hI_ne _ (by decide), hI_eq, upd_ne _ _ hj]
      have e1 : hI (pI (pI h 11 7 x) 308 22 x) 11 7 = x := by rw [hI_ne _ (by decide), hI_eq, upd_at]
      have o : ∀ b, b ≠ 11 → b ≠ 308 → hI (pI (pI h 11 7 x) 308 22 x) b = hI h b := fun b h1 h2 => u.2.2.1 b (by omega)
      have ol : ∀ b, hL (pI (pI h 11 7 x) 308 22 x) b = hL h b := fun b => rfl
      refine ⟨u.str hS, v1.mv (by rw [o 1 (by decide) (by decide)]) (o 2 (by decide) (by decide)) (n8 1 (by decide)) (o 309 (by decide) (by decide)), v2.mv (by rw [o 0 (by decide) (by decide)]) (n8 2 (by decide)) (fun b _ _ => o b (by omega) (by omega)) (fun b _ _ => o b (by omega) (by omega)), ?_, ?_, v5.mv (by rw [o 0 (by decide) (by decide)]) (by rw [o 0 (by decide) (by decide)]) (n8 29 (by decide)) (o 318 (by decide) (by decide)) (o 323 (by decide) (by decide)) (fun b _ _ => ⟨o b (by omega) (by omega), ol b⟩), v6.mv (fun b _ _ => ⟨o b (by omega) (by omega), ol b⟩) (n8 2 (by decide)) (fun b _ _ => o b (by omega) (by omega)), (n8 23 (by decide)).trans v7⟩
      · rw [o 318 (by decide) (by decide), n8 21 (by decide), e8]
        exact v3.mv (fun b _ _ => ⟨o b (by omega) (by omega), ol b⟩) (n1 5 (by decide)) ((n1 6 (by decide)).trans v3.2.2.2.2.2.1) e1 ⟨hx, Int32.le_maxValue x⟩
      · rw [n8 21 (by decide), n8 2 (by decide)]; exact v4
  · refine ⟨-1, h, h, ?_, ?_, hV⟩
    · simp only [f_X11_seed, if_neg hx]
    · simp only [f_X12_seed, if_neg hx]
