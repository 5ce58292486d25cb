/-! ===== isle: the row said ===== -/
theorem bo_src2 {X Y : Row} {j : Nat} (h : srcQ j ≠ 1000 → X (srcQ j) = Y (srcQ j)) (hj : j < 110) : beginOf X j = beginOf Y j := by
  by_cases e : srcQ j = 1000
  · have d : 11 ≤ j ∧ j < 43 ∧ ¬ (j - 11) % 4 = 0 := by
      unfold srcQ at e
      by_cases a : 11 ≤ j ∧ j < 43
      · rw [if_pos a] at e
        by_cases b : (j - 11) % 4 = 0
        · rw [if_pos b] at e; omega
        · exact ⟨a.1, a.2, b⟩
      · rw [if_neg a] at e
        by_cases b : 43 ≤ j ∧ j < 75
        · rw [if_pos b] at e; omega
        · rw [if_neg b] at e
          by_cases c : 75 ≤ j ∧ j < 78
          · rw [if_pos c] at e; omega
          · rw [if_neg c] at e; omega
    unfold beginOf
    have d1 : 11 ≤ j ∧ j < 43 := ⟨d.1, d.2.1⟩
    rw [if_neg (show ¬ j = 10 by omega), if_neg (show ¬ j = 10 by omega), if_pos d1, if_pos d1, if_neg d.2.2, if_neg d.2.2]
  · exact bo_src (h e)
theorem bo_10 (X : Row) : beginOf X 10 = 0 := if_pos rfl
theorem bo_bo {X : Row} {j : Nat} (hj : j < 110) : beginOf (beginOf X) j = beginOf X j := by
  by_cases j10 : j = 10
  · rw [j10, bo_10, bo_10]
  · refine bo_src2 (fun e => ?_) hj
    have s := src_n hj
    exact bo_o (by omega)
theorem m1_n {x : Int32} (h : Btw x (-1) 20) : (¬ 0 ≤ x) ↔ x = -1 := by
  constructor
  · intro y
    have a := Int32.le_iff_toInt_le.mp h.1
    have e1 : (-1 : Int32).toInt = -1 := by decide
    have e0 : (0 : Int32).toInt = 0 := by decide
    have b : ¬ (0 : Int) ≤ x.toInt := fun q => y (Int32.le_iff_toInt_le.mpr (by rw [e0]; exact q))
    exact Int32.toInt_inj.mp (by rw [e1]; omega)
  · intro y
    rw [y]; decide
/-- the row that the reference says after an isle, against the class's draft -/
theorem said_row {Q S0 : Row} (v : VQ Q) (q0 : Q 0 = 1) : ∀ j, j < 110 → beginOf (flR (cpQ Q S0 184) 32) j = flP (upd (dq Q) 0 1) 32 j := by
  intro j hj
  have cq : ∀ i, i < 153 → cpQ Q S0 184 i = Q i := fun i hi => by unfold cpQ; rw [if_pos (show i < 184 by omega), if_pos hi]
  by_cases r : 78 ≤ j
  · rw [bo_o (Or.inr r)]
    have b := (v.2.2.2 (j - 78) (by omega)).2
    rw [show 78 + (j - 78) = j by omega] at b
    have d : upd (dq Q) 0 1 j = Q j := by rw [upd_ne _ _ (by omega), dq_p (by omega), bo_o (Or.inr r)]
    have d2 : upd (dq Q) 0 1 (j - 35) = Q (j + 32) := by
      rw [upd_ne _ _ (by omega), dq_p (by omega), show j - 35 = 43 + (j - 78) by omega, bo_li (by omega)]
      congr 1; omega
    unfold flR flP
    rw [cq j (by omega), cq (j + 32) (by omega), d, d2]
    by_cases y : Q j = -1
    · rw [if_pos ⟨r, by omega, (m1_n b).mpr y⟩, if_pos ⟨r, by omega, y⟩]
    · rw [if_neg (fun q => y ((m1_n b).mp q.2.2)), if_neg (fun q => y q.2.2)]
  · have f : flP (upd (dq Q) 0 1) 32 j = upd (dq Q) 0 1 j := by unfold flP; rw [if_neg (fun q => r q.1)]
    rw [f]
    by_cases j0 : j = 0
    · subst j0
      rw [upd_at, bo_o (by omega), flR_o (by omega), cq 0 (by omega)]
      exact q0
    · rw [upd_ne _ _ j0, dq_p (by omega)]
      refine bo_src2 (fun e => ?_) hj
      have s := src_n hj
      rw [flR_o (by omega)]
      exact cq _ (by omega)
theorem said_v {Q S0 : Row} (v : VQ Q) (q0 : Q 0 = 1) : VS (beginOf (flR (cpQ Q S0 184) 32)) ∧ VT (beginOf (flR (cpQ Q S0 184) 32)) ∧ YR (beginOf (flR (cpQ Q S0 184) 32)) 999 ∧ beginOf (flR (cpQ Q S0 184) 32) 183 = 0 ∧ beginOf (flR (cpQ Q S0 184) 32) 0 = 1 ∧ beginOf (flR (cpQ Q S0 184) 32) 3 = Q 3 := by
  obtain ⟨⟨a, ha, ea⟩, ⟨b, hb, eb⟩, vl, vk⟩ := v
  have cq : ∀ i, i < 153 → cpQ Q S0 184 i = Q i := fun i hi => by unfold cpQ; rw [if_pos (show i < 184 by omega), if_pos hi]
  have xo : ∀ i, i < 78 ∨ 110 ≤ i → i < 153 → flR (cpQ Q S0 184) 32 i = Q i := fun i h1 h2 => by rw [flR_o (by omega)]; exact cq i h2
  have o : ∀ i, i < 10 ∨ 110 ≤ i → i < 153 → beginOf (flR (cpQ Q S0 184) 32) i = Q i := fun i h1 h2 => by rw [bo_o (by omega)]; exact xo i (by omega) h2
  have b0 := o 0 (by omega) (by omega)
  have b3 := o 3 (by omega) (by omega)
  have b4 := o 4 (by omega) (by omega)
  have li : ∀ k, k < 32 → beginOf (flR (cpQ Q S0 184) 32) (43 + k) = Q (110 + k) := fun k hk => by rw [bo_li hk]; exact xo _ (by omega) (by omega)
  have tr : ∀ k, k < 32 → Btw (beginOf (flR (cpQ Q S0 184) 32) (78 + k)) 0 20 := fun k hk => by
    rw [bo_o (by omega)]
    unfold flR
    rw [cq (78 + k) (by omega), cq (78 + k + 32) (by omega)]
    have w := vk k hk
    by_cases y : 0 ≤ Q (78 + k)
    · rw [if_neg (fun q => q.2.2 y)]
      exact ⟨y, w.2.2⟩
    · rw [if_pos ⟨by omega, by omega, y⟩, show 78 + k + 32 = 110 + k by omega]
      exact w.1
  refine ⟨⟨Or.inr (b0.trans q0), ?_, ?_, fun y => absurd (b0.symm.trans y) (by rw [q0]; decide), ?_, fun k hk => ⟨?_, tr k hk⟩, ?_, ?_⟩, ⟨?_, fun k hk => ?_⟩, ⟨0, by omega, bo_10 _⟩, ?_, b0.trans q0, b3⟩
  · rw [b3, ea]; exact nI_btw (m := 4) ha (by decide)
  · rw [b4, eb]; exact nI_btw (m := 4) hb (by decide)
  · unfold LateR
    rw [bo_lt (p := 0) (by omega), bo_lt (p := 1) (by omega), bo_lt (p := 2) (by omega), xo _ (by omega) (by omega), xo _ (by omega) (by omega), xo _ (by omega) (by omega)]
    exact vl
  · rw [li k hk]; exact (vk k hk).1
  · intro e he
    have e4 : e < 8 := by
      have : nE (beginOf (flR (cpQ Q S0 184) 32)) = a := by unfold nE; rw [b3, ea, nI_clamp (by omega)]
      omega
    exact Or.inl ⟨(bo_12 e4).1, (bo_12 e4).2.1⟩
  · intro w hw
    have w4 : 4 + w < 8 := by
      have : nW (beginOf (flR (cpQ Q S0 184) 32)) = b := by unfold nW; rw [b4, eb, nI_clamp (by omega)]
      have : w < b := by omega
      rcases Nat.lt_or_ge w 4 with y | y
      · omega
      · omega
    have q := bo_12 (X := flR (cpQ Q S0 184) 32) w4
    rw [show 12 + 4 * (4 + w) = 28 + 4 * w by omega, show 13 + 4 * (4 + w) = 29 + 4 * w by omega] at q
    exact Or.inl ⟨q.1, q.2.1⟩
  · unfold LateR
    rw [o 150 (by omega) (by omega), o (150 + 1) (by omega) (by omega), o (150 + 2) (by omega) (by omega)]
    exact vl
  · rw [o _ (by omega) (by omega)]; exact (vk k hk).1
  · rw [bo_o (by omega), flR_o (by omega)]
    unfold cpQ
    rw [if_pos (by omega), if_neg (by omega)]
theorem RRules.mv7 {h h' : aH} (r : RRules h) (e4 : hI h' 0 4 = hI h 0 4) (e2 : hI h' 308 2 = hI h 308 2) (e : ∀ b, 66 ≤ b → b ≤ 95 → hI h' b = hI h b) (f0 : hI h' 310 = hI h 310) (f1 : ∀ j, j ≠ 6 → hI h' 311 j = hI h 311 j) (f2 : hI h' 312 = hI h 312) (f3 : hI h' 313 = hI h 313) : RRules h' := by
  obtain ⟨a, b, c⟩ := r
  refine ⟨by rw [e4, e2]; exact a, by rw [e2]; exact b, fun k hk hq => ?_⟩
  rw [e2] at hq
  have x := c k hk hq
  unfold RRule at x ⊢
  rw [e (66 + 5 * k) (by omega) (by omega), e (67 + 5 * k) (by omega) (by omega), e (68 + 5 * k) (by omega) (by omega), e (69 + 5 * k) (by omega) (by omega), e (70 + 5 * k) (by omega) (by omega), f0, f2, f3, f1 k (by omega)]
  exact x
