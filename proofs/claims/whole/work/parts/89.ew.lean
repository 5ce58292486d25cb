/-! ===== east, west, likes ===== -/
theorem nI_m1 {n : Nat} (h : n < 2147483648) : ¬ nI n = -1 := fun q => by have := congrArg Int32.toInt q; rw [nI_toInt (by omega)] at this; simp at this
theorem nI_m1' {n : Nat} (h : n < 2147483648) : ¬ (-1 : Int32) = nI n := fun q => nI_m1 h q.symm
theorem btw_nI {x M : Int32} {m : Nat} (h : Btw x 0 M) (hM : M.toInt = m) : ∃ n : Nat, n ≤ m ∧ x = nI n := nI_of2 hM (Int32.not_lt.mpr h.1) h.2
theorem VS.e3 {S : Nat → Int32} (v : VS S) : S 3 = nI (nE S) ∧ nE S ≤ 4 := by
  obtain ⟨n, hn, e⟩ := btw_nI (m := 4) v.2.1 (by decide)
  have : nE S = n := by unfold nE; rw [e, nI_clamp (by omega)]
  rw [this]; exact ⟨e, hn⟩
theorem VS.e4 {S : Nat → Int32} (v : VS S) : S 4 = nI (nW S) ∧ nW S ≤ 4 := by
  obtain ⟨n, hn, e⟩ := btw_nI (m := 4) v.2.2.1 (by decide)
  have : nW S = n := by unfold nW; rw [e, nI_clamp (by omega)]
  rw [this]; exact ⟨e, hn⟩
theorem VS.pe {S : Nat → Int32} (v : VS S) : PairE S := v.2.2.2.2.2.2.1
theorem VS.pw {S : Nat → Int32} (v : VS S) : PairW S := v.2.2.2.2.2.2.2
theorem VS.lk {S : Nat → Int32} (v : VS S) : ∀ k, k < 32 → Btw (S (43 + k)) 0 20 ∧ Btw (S (78 + k)) 0 20 := v.2.2.2.2.2.1
theorem VS.lt {S : Nat → Int32} (v : VS S) : LateR S 75 := v.2.2.2.2.1
theorem hasEastV {S : Nat → Int32} (v : VS S) (x : Int32) : (x < 0 ∨ S 3 ≤ x) ∨ ∃ e, e < nE S ∧ x = nI e := by
  by_cases h0 : x < 0
  · exact Or.inl (Or.inl h0)
  by_cases h1 : S 3 ≤ x
  · exact Or.inl (Or.inr h1)
  obtain ⟨e, he, rfl⟩ := nI_of h0
  refine Or.inr ⟨e, ?_, rfl⟩
  rw [v.e3.1] at h1
  have := v.e3.2
  rcases Nat.lt_or_ge e (nE S) with z | z
  · exact z
  · exact absurd (nI_le z he) h1
theorem hasWestV {S : Nat → Int32} (v : VS S) (x : Int32) : (x < 0 ∨ S 4 ≤ x) ∨ ∃ e, e < nW S ∧ x = nI e := by
  by_cases h0 : x < 0
  · exact Or.inl (Or.inl h0)
  by_cases h1 : S 4 ≤ x
  · exact Or.inl (Or.inr h1)
  obtain ⟨e, he, rfl⟩ := nI_of h0
  refine Or.inr ⟨e, ?_, rfl⟩
  rw [v.e4.1] at h1
  have := v.e4.2
  rcases Nat.lt_or_ge e (nW S) with z | z
  · exact z
  · exact absurd (nI_le z he) h1
theorem years_rel {S : Nat → Int32} (v : VS S) {w : Nat} (hw : w < nW S) : (S (28 + 4 * w) = -1 ∧ S (29 + 4 * w) = 0) ∨ ∃ e, e < 4 ∧ S (28 + 4 * w) = nI e ∧ S (29 + 4 * w) = S (13 + 4 * e) := by
  have l3 := v.e3.2
  have l4 := v.e4.2
  rcases v.pw w hw with h | ⟨e, he, h1, h2⟩
  · exact Or.inl h
  · refine Or.inr ⟨e, by omega, h1, ?_⟩
    rcases v.pe e he with ⟨h3, -⟩ | ⟨w', hw', h3, h4, h5⟩
    · rw [h2] at h3
      exact absurd h3 (nI_m1 (by omega))
    · rw [h2] at h3
      have : w = w' := (nI_eq (by omega) (by omega)).mp h3
      subst this
      exact h5
theorem op_east : Op_east Inv := by
  intro h hV x k
  have hS := hV.1
  obtain ⟨r1, ⟨v, -⟩, -⟩ := hV.2.2.2.1
  obtain ⟨⟨-, -, -, r3, r4, -, -⟩, rp, ry, -⟩ := r1
  have e3 : hI h 19 3 = hI h 318 3 := r3
  by_cases h0 : x < 0
  · exact ⟨-2, h, h, by simp only [f_X11_east, q_0, r_0_5 hS, r_11_1 hS, Option.bind_some, q_11, qst0 m19, hasEast_eq m19, if_pos h0, aBind_some, if_true], by simp only [f_X12_east, q_308, isEast_eq hS, if_pos h0, aBind_some, if_true], hV⟩
  · by_cases h1 : hI h 318 3 ≤ x
    · exact ⟨-2, h, h, by simp only [f_X11_east, q_0, r_0_5 hS, r_11_1 hS, Option.bind_some, q_11, qst0 m19, hasEast_eq m19, e3, if_neg h0, if_pos h1, aBind_some, if_true], by simp only [f_X12_east, q_308, isEast_eq hS, if_neg h0, if_pos h1, aBind_some, if_true], hV⟩
    · obtain ⟨e, he, rfl⟩ := small4 h0 h1 v.2.1.2
      have n10 : ¬ (1 : Int32) = 0 := by decide
      have c0 : ∀ o : Option (Int32 × aH), f_X8_fact h 19 0 (nI e) k = o → f_X11_east h 0 (nI e) k = aBind o (fun r h' => some (r, h')) := fun o ho => by
        simp only [f_X11_east, q_0, r_0_5 hS, r_11_1 hS, Option.bind_some, q_11, qst0 m19, hasEast_eq m19, e3, if_neg h0, if_neg h1, aBind_some, if_neg n10, ho]
      have m0 : ∀ j : Nat, j < 4 → k = nI j → f_X12_east h 308 (nI e) k = some (hI h 318 (11 + 4 * e + j), h) := fun j hj hk => by
        have hb : (0 : Int32) ≤ nI j ∧ nI j ≤ 3 := ⟨nI_pos' (by omega), nI_le (b := 3) (by omega) (by decide)⟩
        have hp := personOf_0 hS (p := e) (k := j) he hj
        rw [hk]
        simp only [f_X12_east, q_308, isEast_eq hS, if_neg h0, if_neg h1, aBind_some, if_neg n10, in_i (b := 0) (c := 3) (nI j) 0 3 (by decide) (by decide), if_pos hb]
        rw [hp]
        rfl
      by_cases k0 : k = 0
      · refine ⟨hI h 318 (11 + 4 * e + 0), h, h, ?_, m0 0 (by decide) k0, hV⟩
        show f_X11_east h 0 (nI e) k = _
        rw [c0 (some (hI h 20 (4 * 0 + e), h)) (by unfold f_X8_fact; rw [if_pos k0, qst0 m19, purseOf_0 hS m19 he, aBind_some]), aBind_some]
        have := (rp (4 * 0 + e) (by omega)).1
        rw [show 11 + 4 * (4 * 0 + e) = 11 + 4 * e + 0 by omega] at this
        rw [← this]
      · by_cases k1 : k = 1
        · refine ⟨hI h 318 (11 + 4 * e + 1), h, h, ?_, m0 1 (by decide) k1, hV⟩
          show f_X11_east h 0 (nI e) k = _
          rw [c0 (some (hI h 21 (4 * 0 + e), h)) (by unfold f_X8_fact; rw [if_neg k0, if_pos k1, qst0 m19, partnerOf_0 hS m19 he, aBind_some]), aBind_some]
          have := (rp (4 * 0 + e) (by omega)).2.1
          rw [show 12 + 4 * (4 * 0 + e) = 11 + 4 * e + 1 by omega] at this
          rw [← this]
        · by_cases k2 : k = 2
          · refine ⟨hI h 318 (11 + 4 * e + 2), h, h, ?_, m0 2 (by decide) k2, hV⟩
            have hy := ry e he
            show f_X11_east h 0 (nI e) k = _
            rw [c0 (some (hI h 23 e, h)) (by unfold f_X8_fact f_X8_yearsOf; rw [if_neg k0, if_neg k1, if_pos k2, qst0 m19, if_pos rfl, years_b hS m19 he, aBind_some]), aBind_some, show 11 + 4 * e + 2 = 13 + 4 * e by omega, ← hy]
          · by_cases k3 : k = 3
            · refine ⟨hI h 318 (11 + 4 * e + 3), h, h, ?_, m0 3 (by decide) k3, hV⟩
              show f_X11_east h 0 (nI e) k = _
              rw [c0 (some (hI h 22 (4 * 0 + e), h)) (by unfold f_X8_fact; rw [if_neg k0, if_neg k1, if_neg k2, if_pos k3, qst0 m19, joiningsOf_0 hS m19 he, aBind_some]), aBind_some]
              have := (rp (4 * 0 + e) (by omega)).2.2
              rw [show 14 + 4 * (4 * 0 + e) = 11 + 4 * e + 3 by omega] at this
              rw [← this]
            · refine ⟨-2, h, h, ?_, ?_, hV⟩
              · show f_X11_east h 0 (nI e) k = _
                rw [c0 (some (-2, h)) (by unfold f_X8_fact; rw [if_neg k0, if_neg k1, if_neg k2, if_neg k3]), aBind_some]
              · have hb : ¬ ((0 : Int32) ≤ k ∧ k ≤ 3) := fun q => by
                  obtain ⟨j, hj, rfl⟩ := nI_of2 (M := 3) (n := 3) (by decide) (Int32.not_lt.mpr q.1) q.2
                  match j, hj with
                  | 0, _ => exact k0 rfl
                  | 1, _ => exact k1 rfl
                  | 2, _ => exact k2 rfl
                  | 3, _ => exact k3 rfl
                simp only [f_X12_east, q_308, isEast_eq hS, if_neg h0, if_neg h1, aBind_some, if_neg n10, in_i (b := 0) (c := 3) k 0 3 (by decide) (by decide), if_neg hb, if_true]
theorem op_west : Op_west Inv := by
  intro h hV x k
  have hS := hV.1
  obtain ⟨r1, ⟨v, -⟩, -⟩ := hV.2.2.2.1
  obtain ⟨⟨-, -, -, r3, r4, -, -⟩, rp, ry, -⟩ := r1
  have e3 : hI h 19 4 = hI h 318 4 := r4
  by_cases h0 : x < 0
  · exact ⟨-2, h, h, by simp only [f_X11_west, q_0, r_0_5 hS, r_11_1 hS, Option.bind_some, q_11, qst0 m19, hasWest_eq m19, if_pos h0, aBind_some, if_true], by simp only [f_X12_west, q_308, isWest_eq hS, if_pos h0, aBind_some, if_true], hV⟩
  · by_cases h1 : hI h 318 4 ≤ x
    · exact ⟨-2, h, h, by simp only [f_X11_west, q_0, r_0_5 hS, r_11_1 hS, Option.bind_some, q_11, qst0 m19, hasWest_eq m19, e3, if_neg h0, if_pos h1, aBind_some, if_true], by simp only [f_X12_west, q_308, isWest_eq hS, if_neg h0, if_pos h1, aBind_some, if_true], hV⟩
    · obtain ⟨e, he, rfl⟩ := small4 h0 h1 v.2.2.1.2
      have n10 : ¬ (1 : Int32) = 0 := by decide
      have c0 : ∀ o : Option (Int32 × aH), f_X8_fact h 19 1 (nI e) k = o → f_X11_west h 0 (nI e) k = aBind o (fun r h' => some (r, h')) := fun o ho => by
        simp only [f_X11_west, q_0, r_0_5 hS, r_11_1 hS, Option.bind_some, q_11, qst0 m19, hasWest_eq m19, e3, if_neg h0, if_neg h1, aBind_some, if_neg n10, ho]
      have m0 : ∀ j : Nat, j < 4 → k = nI j → f_X12_west h 308 (nI e) k = some (hI h 318 (27 + 4 * e + j), h) := fun j hj hk => by
        have hb : (0 : Int32) ≤ nI j ∧ nI j ≤ 3 := ⟨nI_pos' (by omega), nI_le (b := 3) (by omega) (by decide)⟩
        have hp := personOf_1 hS (p := e) (k := j) he hj
        rw [hk]
        simp only [f_X12_west, q_308, isWest_eq hS, if_neg h0, if_neg h1, aBind_some, if_neg n10, in_i (b := 0) (c := 3) (nI j) 0 3 (by decide) (by decide), if_pos hb]
        rw [hp]
        rfl
      by_cases k0 : k = 0
      · refine ⟨hI h 318 (27 + 4 * e + 0), h, h, ?_, m0 0 (by decide) k0, hV⟩
        show f_X11_west h 0 (nI e) k = _
        rw [c0 (some (hI h 20 (4 * 1 + e), h)) (by unfold f_X8_fact; rw [if_pos k0, qst0 m19, purseOf_1 hS m19 he, aBind_some]), aBind_some]
        have := (rp (4 * 1 + e) (by omega)).1
        rw [show 11 + 4 * (4 * 1 + e) = 27 + 4 * e + 0 by omega] at this
        rw [← this]
      · by_cases k1 : k = 1
        · refine ⟨hI h 318 (27 + 4 * e + 1), h, h, ?_, m0 1 (by decide) k1, hV⟩
          show f_X11_west h 0 (nI e) k = _
          rw [c0 (some (hI h 21 (4 * 1 + e), h)) (by unfold f_X8_fact; rw [if_neg k0, if_pos k1, qst0 m19, partnerOf_1 hS m19 he, aBind_some]), aBind_some]
          have := (rp (4 * 1 + e) (by omega)).2.1
          rw [show 12 + 4 * (4 * 1 + e) = 27 + 4 * e + 1 by omega] at this
          rw [← this]
        · by_cases k2 : k = 2
          · refine ⟨hI h 318 (27 + 4 * e + 2), h, h, ?_, m0 2 (by decide) k2, hV⟩
            have hp := (rp (4 * 1 + e) (by omega)).2.1
            rw [show 12 + 4 * (4 * 1 + e) = 28 + 4 * e by omega] at hp
            have hp' : hI h 21 (4 * 1 + e) = hI h 318 (28 + 4 * e) := hp
            have hq := partnerOf_1 hS (p := e) m19 he
            rw [show 27 + 4 * e + 2 = 29 + 4 * e by omega]
            rcases years_rel v (show e < nW (hI h 318) from by have q := Int32.not_le.mp h1; rw [v.e4.1] at q; exact (nI_ltI (by omega) (by have := v.e4.2; omega)).mp q) with ⟨y1, y2⟩ | ⟨e', he', y1, y2⟩
            · show f_X11_west h 0 (nI e) k = _
              rw [c0 (some (0, h)) (by unfold f_X8_fact f_X8_yearsOf; rw [if_neg k0, if_neg k1, if_pos k2, qst0 m19, if_neg n10, qst0 m19, hq, aBind_some, hp', y1, years_n, aBind_some]), aBind_some, y2]
            · have hy := ry e' he'
              show f_X11_west h 0 (nI e) k = _
              rw [c0 (some (hI h 23 e', h)) (by unfold f_X8_fact f_X8_yearsOf; rw [if_neg k0, if_neg k1, if_pos k2, qst0 m19, if_neg n10, qst0 m19, hq, aBind_some, hp', y1, years_b hS m19 he', aBind_some]), aBind_some, y2, ← hy]
          · by_cases k3 : k = 3
            · refine ⟨hI h 318 (27 + 4 * e + 3), h, h, ?_, m0 3 (by decide) k3, hV⟩
              show f_X11_west h 0 (nI e) k = _
              rw [c0 (some (hI h 22 (4 * 1 + e), h)) (by unfold f_X8_fact; rw [if_neg k0, if_neg k1, if_neg k2, if_pos k3, qst0 m19, joiningsOf_1 hS m19 he, aBind_some]), aBind_some]
              have := (rp (4 * 1 + e) (by omega)).2.2
              rw [show 14 + 4 * (4 * 1 + e) = 27 + 4 * e + 3 by omega] at this
              rw [← this]
            · refine ⟨-2, h, h, ?_, ?_, hV⟩
              · show f_X11_west h 0 (nI e) k = _
                rw [c0 (some (-2, h)) (by unfold f_X8_fact; rw [if_neg k0, if_neg k1, if_neg k2, if_neg k3]), aBind_some]
              · have hb : ¬ ((0 : Int32) ≤ k ∧ k ≤ 3) := fun q => by
                  obtain ⟨j, hj, rfl⟩ := nI_of2 (M := 3) (n := 3) (by decide) (Int32.not_lt.mpr q.1) q.2
                  match j, hj with
                  | 0, _ => exact k0 rfl
                  | 1, _ => exact k1 rfl
                  | 2, _ => exact k2 rfl
                  | 3, _ => exact k3 rfl
                simp only [f_X12_west, q_308, isWest_eq hS, if_neg h0, if_neg h1, aBind_some, if_neg n10, in_i (b := 0) (c := 3) k 0 3 (by decide) (by decide), if_neg hb, if_true]
