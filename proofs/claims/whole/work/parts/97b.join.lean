/-! ===== join, part ===== -/
theorem op_join : Op_join Inv := by
  intro h hV x1 x2
  have hS := hV.1
  have r : RSt h 19 (hI h 318) := hV.2.2.2.1.1
  have v : VS (hI h 318) := hV.2.2.2.1.2.1.1
  have y : YR (hI h 318) 999 := hV.2.2.2.1.2.1.2.2
  have v3 := v.e3.2
  have v4 := v.e4.2
  have n1 : ¬ (1 : Int32) = 0 := by decide
  rcases hasEastV v x1 with z | ⟨e, he, rfl⟩
  · refine ⟨-1, h, h, ?_, ?_, hV⟩
    · show f_X11_join h 0 x1 x2 = _
      simp only [f_X11_join, q_0, r_0_5 hS, r_11_1 hS, Option.bind_some, q_11, qst0 m19, noEast m19 r z, aBind_some, if_true]
    · show f_X12_join h 308 x1 x2 = _
      simp only [f_X12_join, q_308, noEastR hS z, aBind_some, if_true]
  rcases hasWestV v x2 with z | ⟨w, hw, rfl⟩
  · refine ⟨-1, h, h, ?_, ?_, hV⟩
    · show f_X11_join h 0 (nI e) x2 = _
      simp only [f_X11_join, q_0, r_0_5 hS, r_11_1 hS, Option.bind_some, q_11, qst0 m19, yesEast m19 r v he, noWest m19 r z, aBind_some, if_true, if_neg n1]
    · show f_X12_join h 308 (nI e) x2 = _
      simp only [f_X12_join, q_308, yesEastR hS v he, noWestR hS z, aBind_some, if_true, if_neg n1]
  by_cases c : canJ (hI h 318) e w
  · obtain ⟨h1, h2, h3, h4, f1, f2, f3, f4, c2, S2, I4⟩ := act_op hV (C := fun q => f_X8_joinTwo q 19 (nI e) (nI w)) (R := fun q => f_X12_joins q 308 (nI e) (nI w)) (T := joinT (hI h 318) e w) (v := joinM (hI h 318) e)
      (fun g sg rg _ _ => by
        obtain ⟨g', a, b, d⟩ := joinTwo_eq sg m19 (show e < 4 by omega) (show w < 4 by omega) rg
        exact ⟨g', a, b, d.mono (fun b hb => Or.inl hb)⟩)
      (fun g sg cg _ => by
        have a := joins_eq sg (show e < 4 by omega) (show w < 4 by omega)
        rw [cg 318 (by omega) (by omega)] at a
        exact ⟨_, a, hI_wI_eq _ _ _, Upd.wI (by unfold RA; omega), fun j _ => by rw [hI_wI_ne _ _ (by decide)]⟩)
      (fun j hj => joinT_o (by omega) (by omega) (by omega)) (v.join he hw c.1 c.2.1) (y.eq (joinT_o (by omega) (by omega) (by omega)))
    have k18 := c2 318 (by omega)
    have a1 : f_X12_isEast h2 308 (nI e) = some (1, h2) := yesEastR S2 (by rw [k18]; exact v) (by rw [k18]; exact he)
    have a2 : f_X12_isWest h2 308 (nI w) = some (1, h2) := yesWestR S2 (by rw [k18]; exact v) (by rw [k18]; exact hw)
    have a3 := canJoinR S2 (show e < 4 by omega) (show w < 4 by omega)
    rw [k18] at a3
    refine ⟨joinM (hI h 318) e, h2, h4, ?_, ?_, I4⟩
    · show f_X11_join h 0 (nI e) (nI w) = _
      simp only [f_X11_join, q_0, r_0_5 hS, r_11_1 hS, Option.bind_some, q_11, qst0 m19, yesEast m19 r v he, yesWest m19 r v hw, couldJoinS hS m19 r (show e < 4 by omega) (show w < 4 by omega), aBind_some, if_neg n1, b1_0, if_pos c, f1, f2]
    · show f_X12_join h2 308 (nI e) (nI w) = _
      simp only [f_X12_join, q_308, a1, a2, a3, aBind_some, if_neg n1, b1_0, if_pos c, f3, f4]
  · refine ⟨-1, h, h, ?_, ?_, hV⟩
    · show f_X11_join h 0 (nI e) (nI w) = _
      simp only [f_X11_join, q_0, r_0_5 hS, r_11_1 hS, Option.bind_some, q_11, qst0 m19, yesEast m19 r v he, yesWest m19 r v hw, couldJoinS hS m19 r (show e < 4 by omega) (show w < 4 by omega), aBind_some, if_neg n1, b1_0, if_neg c, if_true]
    · show f_X12_join h 308 (nI e) (nI w) = _
      simp only [f_X12_join, q_308, yesEastR hS v he, yesWestR hS v hw, canJoinR hS (show e < 4 by omega) (show w < 4 by omega), aBind_some, if_neg n1, b1_0, if_neg c, if_true]
theorem op_part : Op_part Inv := by
  intro h hV x1
  have hS := hV.1
  have r : RSt h 19 (hI h 318) := hV.2.2.2.1.1
  have v : VS (hI h 318) := hV.2.2.2.1.2.1.1
  have y : YR (hI h 318) 999 := hV.2.2.2.1.2.1.2.2
  have v3 := v.e3.2
  have v4 := v.e4.2
  have n1 : ¬ (1 : Int32) = 0 := by decide
  rcases hasEastV v x1 with z | ⟨e, he, rfl⟩
  · refine ⟨-1, h, h, ?_, ?_, hV⟩
    · show f_X11_part h 0 x1 = _
      simp only [f_X11_part, f_X8_isJoinedEast, q_0, r_0_5 hS, r_11_1 hS, Option.bind_some, q_11, qst0 m19, noEast m19 r z, aBind_some, if_true]
    · show f_X12_part h 308 x1 = _
      simp only [f_X12_part, q_308, noEastR hS z, aBind_some, if_true]
  by_cases c : hI h 318 (12 + 4 * e) < 0
  · refine ⟨-1, h, h, ?_, ?_, hV⟩
    · show f_X11_part h 0 (nI e) = _
      simp only [f_X11_part, q_0, r_0_5 hS, r_11_1 hS, Option.bind_some, q_11, qst0 m19, isJoinedS hS m19 r he v, if_pos c, aBind_some, if_true]
    · show f_X12_part h 308 (nI e) = _
      simp only [f_X12_part, q_308, yesEastR hS v he, isFreeR0 hS (show e < 4 by omega), if_pos c, aBind_some, if_neg n1]
  · obtain ⟨w, hw, pe, pw, _⟩ := with_e v he c
    obtain ⟨h1, h2, h3, h4, f1, f2, f3, f4, c2, S2, I4⟩ := act_op hV (C := fun q => f_X8_partTwo q 19 (nI e)) (R := fun q => f_X12_partsFrom q 308 (nI e)) (T := partT (hI h 318) e w) (v := partM (hI h 318) w)
      (fun g sg rg _ _ => by
        obtain ⟨g', a, b, d⟩ := partTwo_eq sg m19 (show e < 4 by omega) (show w < 4 by omega) rg pe
        exact ⟨g', a, b, d.mono (fun b hb => Or.inl hb)⟩)
      (fun g sg cg _ => by
        have a := partsFrom_eq sg (show e < 4 by omega) (show w < 4 by omega) (by rw [cg 318 (by omega) (by omega)]; exact pe)
        rw [cg 318 (by omega) (by omega)] at a
        exact ⟨_, a, hI_wI_eq _ _ _, Upd.wI (by unfold RA; omega), fun j _ => by rw [hI_wI_ne _ _ (by decide)]⟩)
      (fun j hj => partT_o (by omega) (by omega) (by omega)) (v.part he hw pe pw) (y.eq (partT_o (by omega) (by omega) (by omega)))
    have k18 := c2 318 (by omega)
    have a1 : f_X12_isEast h2 308 (nI e) = some (1, h2) := yesEastR S2 (by rw [k18]; exact v) (by rw [k18]; exact he)
    have a3 := isFreeR0 S2 (show e < 4 by omega)
    rw [k18, if_neg c] at a3
    refine ⟨partM (hI h 318) w, h2, h4, ?_, ?_, I4⟩
    · show f_X11_part h 0 (nI e) = _
      simp only [f_X11_part, q_0, r_0_5 hS, r_11_1 hS, Option.bind_some, q_11, qst0 m19, isJoinedS hS m19 r he v, if_neg c, aBind_some, if_neg n1, f1, f2]
    · show f_X12_part h2 308 (nI e) = _
      simp only [f_X12_part, q_308, a1, a3, aBind_some, if_neg n1, if_true, f3, f4]
