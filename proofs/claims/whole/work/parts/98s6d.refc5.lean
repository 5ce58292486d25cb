/-! ===== isle: the reference's clause, all words ===== -/
theorem FT {b : Bool} (h : b = false) {P : Prop} : b = true → P := fun y => absurd (h.symm.trans y) (by decide)
theorem lineT {h : aH} {t : Row} {n s p1 k c : Nat} (rt : RT h t n s 0) (ss : sk t n s = s) (ep : p1 = lw t n s) (ek : k = kCl t s p1) (k6 : ¬ k = 6) (c40 : c < 40) (v : VQ (hI h 314)) (e0 : hI h 314 0 = if c = 0 then 0 else 1) : ∃ r h' p', f_X12_isleLineHere h 308 (nI s) = some (bB r, h') ∧ FR h h' ∧ (r = true ↔ clF t n s p1 k c (hI h 314) = 0) ∧ RT h' t n p' (clF t n s p1 k c (hI h 314)) ∧ (r = true → p' = clP t n p1 k ∧ hI h' 314 = clQ t n p1 k (hI h 314) ∧ hI h' 308 14 = hI h 308 14) := by
  have ek' : k = kCl t s (lw t n s) := by rw [← ep]; exact ek
  obtain ⟨x0, x1, x2, x3, x4, x5⟩ := six rt ss ek'
  have hn := rt.1.2.2.1
  have hs := rt.2.1
  have kk : k ≤ 6 := by rw [ek]; exact kCl_6 _ _ _
  have n1 : ¬ (1 : Int32) = 0 := by decide
  have y : ∀ {i : Nat}, k = i → bB (decide (k = i)) = 1 := fun h => by rw [decide_eq_true h]; rfl
  have no : ∀ {i : Nat}, ¬ k = i → bB (decide (k = i)) = 0 := fun h => by rw [decide_eq_false h]; rfl
  have i0 : aIn 0 (sh 314).2 := in_314 (k := 0) (by decide)
  obtain ⟨⟨a, ha, ea⟩, ⟨b, hb, eb⟩, vl, vk⟩ := v
  have bl4 : ¬ blm s 4 0 = 0 := blm_ne (by omega) (Or.inr (Or.inr rfl))
  by_cases kz : k = 0
  · rw [y kz] at x0
    by_cases cz : c = 0
    · rw [if_pos cz] at e0
      obtain ⟨r, h', p', f1, u1, i1', r1, d1⟩ := isleT rt e0
      rw [← ep] at i1' r1 d1
      have F : clF t n s p1 k c (hI h 314) = nf t n (nx t n p1) 20 (nf t n p1 99 0) := by
        unfold clF
        rw [if_neg k6, if_neg (show ¬ tooB c k (hI h 314) from fun q => by
          rcases q with q | q | q | q | q
          · omega
          · exact q.2 cz
          · exact q.1 kz
          · exact absurd q.1 (by omega)
          · exact absurd q.1 (by omega)), if_pos kz]
      have P : clP t n p1 k = nx t n (nx t n p1) := by unfold clP; rw [if_pos kz]
      have G : clQ t n p1 k (hI h 314) = rowI t n p1 (hI h 314) := by unfold clQ; rw [if_pos kz]
      rw [F, P, G]
      refine ⟨r, h', p', ?_, u1, i1', r1, d1⟩
      exact line_0 x0 f1
    · rw [if_neg cz] at e0
      obtain ⟨h', f1, r1, u1⟩ := failT rt 4 s
      have F : clF t n s p1 k c (hI h 314) = blm s 4 0 := by
        unfold clF
        rw [if_neg k6, if_pos (Or.inr (Or.inl ⟨kz, cz⟩))]
      rw [F]
      refine ⟨false, h', s, ?_, u1, ⟨fun w => absurd w (by decide), fun w => absurd w bl4⟩, r1, fun w => absurd w (by decide)⟩
      have f1' := isleF rt.1.1 e0 f1
      exact line_0 (r := false) x0 f1'
  · rw [no kz] at x0
    by_cases cz : c = 0
    · rw [if_pos cz] at e0
      obtain ⟨h', f1, r1, u1⟩ := failT rt 4 s
      have F : clF t n s p1 k c (hI h 314) = blm s 4 0 := by
        unfold clF
        rw [if_neg k6, if_pos (Or.inr (Or.inr (Or.inl ⟨kz, cz⟩)))]
      rw [F]
      refine ⟨false, h', s, ?_, u1, ⟨fun w => absurd w (by decide), fun w => absurd w bl4⟩, r1, fun w => absurd w (by decide)⟩
      exact line_n rt.1.1 x0 e0 f1
    · rw [if_neg cz] at e0
      have n0 : ¬ hI h 314 0 = 0 := by rw [e0]; decide
      have cases5 : k = 1 ∨ k = 2 ∨ k = 3 ∨ k = 4 ∨ k = 5 := by omega
      have nt : (k = 1 → ¬ 4 ≤ hI h 314 3) → (k = 2 → ¬ 4 ≤ hI h 314 4) → ¬ tooB c k (hI h 314) := fun w1 w2 q => by
        rcases q with q | q | q | q | q
        · omega
        · exact kz q.1
        · exact cz q.2
        · exact w1 q.1 q.2
        · exact w2 q.1 q.2
      have ONE : ∀ o, o < 2 → k = 1 + o → (∃ x, x ≤ 4 ∧ hI h 314 (3 + o) = nI x) → (4 ≤ hI h 314 (3 + o) → tooB c k (hI h 314)) → (¬ 4 ≤ hI h 314 (3 + o) → ¬ tooB c k (hI h 314)) → clQ t n p1 k (hI h 314) = rowE t n p1 o (hI h 314) → (∀ g : aH, ∀ b : Bool, f_X12_isOneHere h 308 (nI o) (nI s) = some (bB b, g) → f_X12_isleLineHere h 308 (nI s) = some (bB b, g)) → ∃ r h' p', f_X12_isleLineHere h 308 (nI s) = some (bB r, h') ∧ FR h h' ∧ (r = true ↔ clF t n s p1 k c (hI h 314) = 0) ∧ RT h' t n p' (clF t n s p1 k c (hI h 314)) ∧ (r = true → p' = clP t n p1 k ∧ hI h' 314 = clQ t n p1 k (hI h 314) ∧ hI h' 308 14 = hI h 308 14) := by
        intro o ho ko ex t1 t2 G cont
        obtain ⟨x, hx, ex⟩ := ex
        obtain ⟨r, h', p', f1, u1, d1⟩ := oneT rt ho hx ex
        rw [← ep] at d1
        by_cases w : 4 ≤ hI h 314 (3 + o)
        · rw [if_pos w] at d1
          have F : clF t n s p1 k c (hI h 314) = blm s 4 0 := by unfold clF; rw [if_neg k6, if_pos (t1 w)]
          rw [F]
          exact ⟨r, h', p', cont _ _ f1, u1, ⟨FT d1.1, fun q => absurd q bl4⟩, d1.2, FT d1.1⟩
        · rw [if_neg w] at d1
          have F : clF t n s p1 k c (hI h 314) = nf t n p1 999 0 := by unfold clF; rw [if_neg k6, if_neg (t2 w), if_neg (by omega), if_neg (by omega), if_neg (by omega)]
          have P : clP t n p1 k = nx t n p1 := by unfold clP; rw [if_neg (by omega), if_neg (by omega)]
          rw [F, P, G]
          exact ⟨r, h', p', cont _ _ f1, u1, d1.1, d1.2.1, d1.2.2⟩
      rcases cases5 with z | z | z | z | z
      · rw [y z] at x1
        refine ONE 0 (by decide) z ⟨a, ha, ea⟩ (fun w => Or.inr (Or.inr (Or.inr (Or.inl ⟨z, w⟩)))) (fun w => nt (fun _ => w) (fun q => absurd q (by omega))) (by unfold clQ; rw [if_neg kz, if_pos z]) (fun g r f1 => ?_)
        rw [show nI 0 = (0 : Int32) from rfl] at f1
        have f1' := f1
        exact line_1 rt.1.1 x0 n0 x1 f1'
      · rw [no (i := 1) (by omega)] at x1
        rw [y z] at x2
        refine ONE 1 (by decide) z ⟨b, hb, eb⟩ (fun w => Or.inr (Or.inr (Or.inr (Or.inr ⟨z, w⟩)))) (fun w => nt (fun q => absurd q (by omega)) (fun _ => w)) (by unfold clQ; rw [if_neg kz, if_neg (by omega), if_pos z]) (fun g r f1 => ?_)
        rw [show nI 1 = (1 : Int32) from rfl] at f1
        have f1' := f1
        exact line_2 rt.1.1 x0 n0 x1 x2 f1'
      · rw [no (i := 1) (by omega)] at x1
        rw [no (i := 2) (by omega)] at x2
        rw [no (i := 5) (by omega)] at x5
        rw [y z] at x3
        obtain ⟨r, h', p', f1, u1, d1, d2, d3⟩ := likesT rt ha hb ea eb (B := 110) (by decide)
        rw [← ep] at d1 d2 d3
        rw [show nI 110 = (110 : Int32) from rfl] at f1
        have f1' := f1
        have F : clF t n s p1 k c (hI h 314) = nf4 t n p1 (hI h 314) 0 := by unfold clF; rw [if_neg k6, if_neg (nt (fun q => absurd q (by omega)) (fun q => absurd q (by omega))), if_neg (by omega), if_neg (by omega), if_pos (by omega)]
        have P : clP t n p1 k = nx t n (nx t n (nx t n (nx t n p1))) := by unfold clP; rw [if_neg (by omega), if_pos (by omega)]
        have G : clQ t n p1 k (hI h 314) = rowL t n p1 110 (hI h 314) := by unfold clQ; rw [if_neg (by omega), if_neg (by omega), if_neg (by omega), if_pos z]
        rw [F, P, G]
        refine ⟨r, h', p', ?_, u1, d1, d2, d3⟩
        exact line_3 rt.1.1 x0 n0 x1 x2 x5 x3 f1'
      · rw [no (i := 1) (by omega)] at x1
        rw [no (i := 2) (by omega)] at x2
        rw [no (i := 5) (by omega)] at x5
        rw [no (i := 3) (by omega)] at x3
        obtain ⟨r, h', p', f1, u1, d1, d2, d3⟩ := likesT rt ha hb ea eb (B := 78) (by decide)
        rw [← ep] at d1 d2 d3
        rw [show nI 78 = (78 : Int32) from rfl] at f1
        have f1' := f1
        have F : clF t n s p1 k c (hI h 314) = nf4 t n p1 (hI h 314) 0 := by unfold clF; rw [if_neg k6, if_neg (nt (fun q => absurd q (by omega)) (fun q => absurd q (by omega))), if_neg (by omega), if_neg (by omega), if_pos (by omega)]
        have P : clP t n p1 k = nx t n (nx t n (nx t n (nx t n p1))) := by unfold clP; rw [if_neg (by omega), if_pos (by omega)]
        have G : clQ t n p1 k (hI h 314) = rowL t n p1 78 (hI h 314) := by unfold clQ; rw [if_neg (by omega), if_neg (by omega), if_neg (by omega), if_neg (by omega), if_pos z]
        rw [F, P, G]
        refine ⟨r, h', p', ?_, u1, d1, d2, d3⟩
        exact line_4 rt.1.1 x0 n0 x1 x2 x5 x3 f1'
      · rw [no (i := 1) (by omega)] at x1
        rw [no (i := 2) (by omega)] at x2
        rw [y z] at x5
        obtain ⟨r, h', p', f1, u1, d1, d2, d3⟩ := lateHT rt
        rw [← ep] at d1 d2 d3
        have F : clF t n s p1 k c (hI h 314) = nf t n p1 60 0 := by unfold clF; rw [if_neg k6, if_neg (nt (fun q => absurd q (by omega)) (fun q => absurd q (by omega))), if_neg (by omega), if_pos z]
        have P : clP t n p1 k = nx t n p1 := by unfold clP; rw [if_neg (by omega), if_neg (by omega)]
        have G : clQ t n p1 k (hI h 314) = lateQ (hI h 314) (nv t n p1).toNatClampNeg := by unfold clQ; rw [if_neg (by omega), if_neg (by omega), if_neg (by omega), if_neg (by omega), if_neg (by omega)]
        rw [F, P, G]
        refine ⟨r, h', p', ?_, u1, d1, d2, d3⟩
        exact line_5 rt.1.1 x0 n0 x1 x2 x5 f1
