/-! ===== likes ===== -/
theorem likes_m {h : aH} {e w k j : Nat} {b : Int32} {B : Nat} (hb : b = nI B) (he : e < 4) (hw : w < 4) (hk : k < 4) (hj : j = B + 16 * (k % 2) + 4 * e + w) (hB : B ≤ 78) : b_X12_likes_46 h (nI e) (nI w) (nI k) b 318 = some (hI h 318 j, h) := by
  unfold b_X12_likes_46
  have e2 : (2 : Int32) = nI 2 := rfl
  have e4 : (4 : Int32) = nI 4 := rfl
  have e16 : (16 : Int32) = nI 16 := rfl
  have hi : aIn (nI j) (sh 318).2 := by rw [sh_318]; exact vp_in_nI (by omega) (by decide)
  have ex : ((b + 16 * (nI k - nI k / 2 * 2)) + 4 * nI e) + nI w = nI j := by
    rw [hb, e2, pk_rem (by omega) (by decide) (by decide), e16, e4, pk_mul, pk_mul, nI_add, nI_add, nI_add, hj]
  simp only [aLet, ex]
  rw [q_318, if_pos hi, nI_clamp (by omega)]
theorem op_likes : Op_likes Inv := by
  intro h hV x y k
  have hS := hV.1
  obtain ⟨r1, ⟨v, -⟩, -⟩ := hV.2.2.2.1
  obtain ⟨⟨-, -, -, r3, r4, -, -⟩, -, -, rl⟩ := r1
  have e3 : hI h 19 3 = hI h 318 3 := r3
  have e4 : hI h 19 4 = hI h 318 4 := r4
  have n10 : ¬ (1 : Int32) = 0 := by decide
  by_cases h0 : x < 0
  · exact ⟨-1, h, h, by simp only [f_X11_likes, q_0, r_0_5 hS, r_11_1 hS, Option.bind_some, q_11, qst0 m19, hasEast_eq m19, if_pos h0, aBind_some, if_true], by simp only [f_X12_likes, q_308, isEast_eq hS, if_pos h0, aBind_some, if_true], hV⟩
  by_cases h1 : hI h 318 3 ≤ x
  · exact ⟨-1, h, h, by simp only [f_X11_likes, q_0, r_0_5 hS, r_11_1 hS, Option.bind_some, q_11, qst0 m19, hasEast_eq m19, e3, if_neg h0, if_pos h1, aBind_some, if_true], by simp only [f_X12_likes, q_308, isEast_eq hS, if_neg h0, if_pos h1, aBind_some, if_true], hV⟩
  by_cases g0 : y < 0
  · exact ⟨-1, h, h, by simp only [f_X11_likes, q_0, r_0_5 hS, r_11_1 hS, Option.bind_some, q_11, qst0 m19, hasEast_eq m19, hasWest_eq m19, e3, if_neg h0, if_neg h1, if_pos g0, aBind_some, if_true, if_neg n10], by simp only [f_X12_likes, q_308, isEast_eq hS, isWest_eq hS, if_neg h0, if_neg h1, if_pos g0, aBind_some, if_true, if_neg n10], hV⟩
  by_cases g1 : hI h 318 4 ≤ y
  · exact ⟨-1, h, h, by simp only [f_X11_likes, q_0, r_0_5 hS, r_11_1 hS, Option.bind_some, q_11, qst0 m19, hasEast_eq m19, hasWest_eq m19, e3, e4, if_neg h0, if_neg h1, if_neg g0, if_pos g1, aBind_some, if_true, if_neg n10], by simp only [f_X12_likes, q_308, isEast_eq hS, isWest_eq hS, if_neg h0, if_neg h1, if_neg g0, if_pos g1, aBind_some, if_true, if_neg n10], hV⟩
  obtain ⟨e, he, rfl⟩ := small4 h0 h1 v.2.1.2
  obtain ⟨w, hw, rfl⟩ := small4 g0 g1 v.2.2.1.2
  by_cases hb : (0 : Int32) ≤ k ∧ k ≤ 3
  · obtain ⟨j, hj, rfl⟩ := nI_of2 (M := 3) (n := 3) (by decide) (Int32.not_lt.mpr hb.1) hb.2
    have hm : ∀ (B : Nat) (b : Int32), b = nI B → B ≤ 78 → (if (2 : Int32) ≤ nI j then b_X12_likes_46 h (nI e) (nI w) (nI j) 78 318 else b_X12_likes_46 h (nI e) (nI w) (nI j) 43 318) = b_X12_likes_46 h (nI e) (nI w) (nI j) b 318 → f_X12_likes h 308 (nI e) (nI w) (nI j) = some (hI h 318 (B + 16 * (j % 2) + 4 * e + w), h) := by
      intro B b hB hB2 hq
      simp only [f_X12_likes, q_308, isEast_eq hS, isWest_eq hS, if_neg h0, if_neg h1, if_neg g0, if_neg g1, aBind_some, if_neg n10, in_i (b := 0) (c := 3) (nI j) 0 3 (by decide) (by decide), if_pos hb, r_308_20 hS, Option.bind_some, hq]
      exact likes_m hB he hw (by omega) rfl hB2
    match j, hj, hb, hm with
    | 0, _, hb, hm =>
      refine ⟨hI h 318 (43 + 16 * (0 % 2) + 4 * e + w), h, h, ?_, hm 43 43 rfl (by omega) (if_neg (by decide)), hV⟩
      have := (rl (16 * 0 + 4 * e + w) (by omega)).1
      rw [show 43 + (16 * 0 + 4 * e + w) = 43 + 16 * (0 % 2) + 4 * e + w by omega] at this
      have k0 : (nI 0 : Int32) = 0 := rfl
      simp only [f_X11_likes, q_0, r_0_5 hS, r_11_1 hS, Option.bind_some, q_11, qst0 m19, hasEast_eq m19, hasWest_eq m19, e3, e4, if_neg h0, if_neg h1, if_neg g0, if_neg g1, aBind_some, if_neg n10, if_pos k0, like_0 hS m19 he hw]
      rw [← this]
    | 1, _, hb, hm =>
      refine ⟨hI h 318 (43 + 16 * (1 % 2) + 4 * e + w), h, h, ?_, hm 43 43 rfl (by omega) (if_neg (by decide)), hV⟩
      have := (rl (16 * 1 + 4 * e + w) (by omega)).1
      rw [show 43 + (16 * 1 + 4 * e + w) = 43 + 16 * (1 % 2) + 4 * e + w by omega] at this
      have k0 : ¬ (nI 1 : Int32) = 0 := by decide
      have k1 : (nI 1 : Int32) = 1 := rfl
      simp only [f_X11_likes, q_0, r_0_5 hS, r_11_1 hS, Option.bind_some, q_11, qst0 m19, hasEast_eq m19, hasWest_eq m19, e3, e4, if_neg h0, if_neg h1, if_neg g0, if_neg g1, aBind_some, if_neg n10, if_neg k0, if_pos k1, like_1 hS m19 he hw]
      rw [← this]
    | 2, _, hb, hm =>
      refine ⟨hI h 318 (78 + 16 * (2 % 2) + 4 * e + w), h, h, ?_, hm 78 78 rfl (by omega) (if_pos (by decide)), hV⟩
      have := (rl (16 * 0 + 4 * e + w) (by omega)).2
      rw [show 78 + (16 * 0 + 4 * e + w) = 78 + 16 * (2 % 2) + 4 * e + w by omega] at this
      have k0 : ¬ (nI 2 : Int32) = 0 := by decide
      have k1 : ¬ (nI 2 : Int32) = 1 := by decide
      have k2 : (nI 2 : Int32) = 2 := rfl
      simp only [f_X11_likes, q_0, r_0_5 hS, r_11_1 hS, Option.bind_some, q_11, qst0 m19, hasEast_eq m19, hasWest_eq m19, e3, e4, if_neg h0, if_neg h1, if_neg g0, if_neg g1, aBind_some, if_neg n10, if_neg k0, if_neg k1, if_pos k2, trueLike_0 hS m19 he hw]
      rw [← this]
    | 3, _, hb, hm =>
      refine ⟨hI h 318 (78 + 16 * (3 % 2) + 4 * e + w), h, h, ?_, hm 78 78 rfl (by omega) (if_pos (by decide)), hV⟩
      have := (rl (16 * 1 + 4 * e + w) (by omega)).2
      rw [show 78 + (16 * 1 + 4 * e + w) = 78 + 16 * (3 % 2) + 4 * e + w by omega] at this
      have k0 : ¬ (nI 3 : Int32) = 0 := by decide
      have k1 : ¬ (nI 3 : Int32) = 1 := by decide
      have k2 : ¬ (nI 3 : Int32) = 2 := by decide
      have k3 : (nI 3 : Int32) = 3 := rfl
      simp only [f_X11_likes, q_0, r_0_5 hS, r_11_1 hS, Option.bind_some, q_11, qst0 m19, hasEast_eq m19, hasWest_eq m19, e3, e4, if_neg h0, if_neg h1, if_neg g0, if_neg g1, aBind_some, if_neg n10, if_neg k0, if_neg k1, if_neg k2, if_pos k3, trueLike_1 hS m19 he hw]
      rw [← this]
  · have k0 : ¬ k = 0 := fun q => hb (by rw [q]; decide)
    have k1 : ¬ k = 1 := fun q => hb (by rw [q]; decide)
    have k2 : ¬ k = 2 := fun q => hb (by rw [q]; decide)
    have k3 : ¬ k = 3 := fun q => hb (by rw [q]; decide)
    exact ⟨-1, h, h, by simp only [f_X11_likes, q_0, r_0_5 hS, r_11_1 hS, Option.bind_some, q_11, qst0 m19, hasEast_eq m19, hasWest_eq m19, e3, e4, if_neg h0, if_neg h1, if_neg g0, if_neg g1, aBind_some, if_neg n10, if_neg k0, if_neg k1, if_neg k2, if_neg k3], by simp only [f_X12_likes, q_308, isEast_eq hS, isWest_eq hS, if_neg h0, if_neg h1, if_neg g0, if_neg g1, aBind_some, if_neg n10, in_i (b := 0) (c := 3) k 0 3 (by decide) (by decide), if_neg hb, if_true], hV⟩
