theorem rather1 {h : aH} (hS : Str h) {S : Row} (r : RSt h 19 S) {rw ho : Row} (v : VS S) (o : RO S rw ho) {e w : Nat} (he : e < 4) (hw : w < 4) (x : Int32) (hx : x = 0 ∨ x = 1) : b_X7_wouldRather_44 h 19 (nI e) (nI w) (ho w) x = some (if x = 0 then 0 else b1 (wWo S ho e w), h) := by
  have v3 := v.e3.2
  unfold b1 wWo
  rcases o.2 w hw with z | ⟨e', he', z⟩
  · rw [z]
    rcases hx with rfl | rfl
    · simp only [b_X7_wouldRather_44, b_X7_wouldRather_69, b_X7_wouldRather_74, if_pos (show (-1 : Int32) < 0 by decide), if_true]
    · simp only [b_X7_wouldRather_44, b_X7_wouldRather_69, b_X7_wouldRather_74, if_pos (show (-1 : Int32) < 0 by decide), if_neg (show ¬ (1 : Int32) = 0 by decide)]
      rw [if_pos (Or.inl (by decide))]
  · rw [z, nI_clamp (by omega)]
    have p0 : ¬ nI e' < 0 := nI_pos (by omega)
    by_cases q : S (59 + 4 * e' + w) < S (59 + 4 * e + w)
    · rw [if_pos (Or.inr q)]
      simp only [b_X7_wouldRather_44, b_X7_wouldRather_69, b_X7_wouldRather_74, if_neg p0, qst0 m19, likeS1 hS m19 r he hw, likeS1 hS m19 r (show e' < 4 by omega) hw, aBind_some, if_neg (Int32.not_le.mpr q)]
      rcases hx with rfl | rfl
      · rfl
      · rfl
    · have nq : ¬ (nI e' < 0 ∨ S (59 + 4 * e' + w) < S (59 + 4 * e + w)) := fun y => by
        rcases y with y | y
        · exact p0 y
        · exact q y
      rw [if_neg nq]
      simp only [b_X7_wouldRather_44, b_X7_wouldRather_69, b_X7_wouldRather_74, if_neg p0, qst0 m19, likeS1 hS m19 r he hw, likeS1 hS m19 r (show e' < 4 by omega) hw, aBind_some, if_pos (Int32.not_lt.mp q), if_true]
      rcases hx with rfl | rfl
      · rfl
      · rfl
theorem ratherC {h : aH} (hS : Str h) {S : Row} (r : RSt h 19 S) {rw ho : Row} (v : VS S) (o : RO S rw ho) (c : CR h rw ho) {e w : Nat} (he : e < 4) (hw : w < 4) : f_X7_wouldRather h 53 19 (nI e) (nI w) = some (bB (decide (eWo S rw e w) && decide (wWo S ho e w)), h) := by
  have v4 := v.e4.2
  have r1 := rather1 hS r v o he hw 1 (Or.inr rfl)
  have r0 := rather1 hS r v o he hw 0 (Or.inl rfl)
  rw [if_neg (by decide)] at r1
  rw [if_pos rfl] at r0
  simp only [f_X7_wouldRather, q_53, r_53_0 hS, r_53_1 hS, Option.bind_some, q_54, q_55, if_pos (in54 he), if_pos (in55 hw), nI_clamp (show e < 2 ^ 31 by omega), nI_clamp (show w < 2 ^ 31 by omega), (c e he).1, (c w hw).2, aLet, b_X7_wouldRather_39]
  rcases o.1 e he with z | ⟨w', hw', z⟩
  · have t : eWo S rw e w := Or.inl (by rw [z]; decide)
    rw [decide_eq_true t, Bool.true_and, z, if_pos (by decide), r1, b1_dec]
  · have p0 : ¬ nI w' < 0 := nI_pos (by omega)
    by_cases q : S (43 + 4 * e + w') < S (43 + 4 * e + w)
    · have t : eWo S rw e w := Or.inr (by rw [z, nI_clamp (show w' < 2 ^ 31 by omega)]; exact q)
      rw [decide_eq_true t, Bool.true_and, z, if_neg p0]
      simp only [qst0 m19, likeS0 hS m19 r he hw, likeS0 hS m19 r he (show w' < 4 by omega), aBind_some]
      rw [if_neg (Int32.not_le.mpr q), r1, b1_dec]
    · have t : ¬ eWo S rw e w := fun y => by
        rcases y with y | y
        · rw [z] at y; exact p0 y
        · rw [z, nI_clamp (show w' < 2 ^ 31 by omega)] at y; exact q y
      rw [decide_eq_false t, Bool.false_and, z, if_neg p0]
      simp only [qst0 m19, likeS0 hS m19 r he hw, likeS0 hS m19 r he (show w' < 4 by omega), aBind_some]
      rw [if_pos (Int32.not_lt.mp q), r0]
      rfl
