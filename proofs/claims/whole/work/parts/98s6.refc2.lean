/-! ===== isle: the reference's clause, whole ===== -/
theorem lateHT {h : aH} {t : Row} {n s : Nat} (c : RT h t n s 0) : ∃ r h' p', f_X12_isLateHere h 308 = some (bB r, h') ∧ FR h h' ∧ (r = true ↔ nf t n (lw t n s) 60 0 = 0) ∧ RT h' t n p' (nf t n (lw t n s) 60 0) ∧ (r = true → p' = nx t n (lw t n s) ∧ hI h' 314 = lateQ (hI h 314) (nv t n (lw t n s)).toNatClampNeg ∧ hI h' 308 14 = hI h 308 14) := by
  have hn := c.1.2.2.1
  obtain ⟨h1, f1, c1, u1, o1, g1⟩ := passT c
  have L := c1.2.1
  obtain ⟨p, ep⟩ : ∃ p, p = lw t n s := ⟨_, rfl⟩
  rw [← ep] at c1 L ⊢
  obtain ⟨h2, f2, c2, u2, o2, g2, v2⟩ := numT c1 60
  cases g : gd t n p 60 with
  | false =>
    rw [g] at f2
    refine ⟨false, h2, _, ?_, u1.tr u2, ⟨fun y => absurd y (by decide), fun y => absurd y (nf_ng hn L g)⟩, c2, fun y => absurd y (by decide)⟩
    simp only [f_X12_isLateHere, q_308, f1, aBind_some, f2, bB, if_true]
  | true =>
    rw [g] at f2
    obtain ⟨k, hk, ek⟩ := nv_nn L g
    have m : nv t n p ≤ 60 := (of_decide_eq_true g).2.2
    rw [ek] at m
    have m' : nI k ≤ nI 60 := m
    have k6 := (nI_leI (by omega) (by omega)).mp m'
    have d21 : nI k / 21 = nI (k / 21) := pk_div (d := 21) (by omega) (by decide) (by decide)
    have m21 : nI k - nI (k / 21) * 21 = nI (k % 21) := by
      have := pk_rem (a := k) (d := 21) (by omega) (by decide) (by decide)
      rw [show nI 21 = (21 : Int32) from rfl, d21] at this
      exact this
    have e150 : (150 : Int32) + nI (k / 21) = nI (150 + k / 21) := nI_add 150 (k / 21)
    have t10 : hI h2 308 10 = nI k := by rw [v2 g]; exact ek
    refine ⟨true, pI h2 314 (150 + k / 21) ((hI h2 314 (150 + k / 21)) ||| (1 <<< (nI (k % 21) &&& 31))), _, ?_, (u1.tr u2).tr FR.c, ⟨fun _ => nf_gd g, fun _ => rfl⟩, c2.c, fun _ => ⟨rfl, ?_, by rw [hI_ne _ (by decide), g2, g1]⟩⟩
    · simp only [f_X12_isLateHere, q_308, f1, aBind_some, f2, bB, if_neg (show ¬ (1 : Int32) = 0 by decide), r_308_7 c2.1.1, Option.bind_some, aLet, t10, d21, e150, q_314, if_pos (in_314 (show 150 + k / 21 < 153 by omega)), nI_clamp (show 150 + k / 21 < 2 ^ 31 by omega), m21]
    · rw [hI_eq, o2 314 (by decide), o1 314 (by decide)]
      unfold lateQ
      rw [ek, nI_clamp (show k < 2 ^ 31 by omega)]
def trM (Q : Row) (i : Nat) : Row := fun j => if 78 ≤ j ∧ j < 78 + i then -1 else Q j
theorem trM_s (Q : Row) (i : Nat) : upd (trM Q i) (78 + i) (-1) = trM Q (i + 1) := by
  funext j
  by_cases y : j = 78 + i
  · rw [y, upd_at]
    unfold trM
    rw [if_pos (by omega)]
  · rw [upd_ne _ _ y]
    unfold trM
    by_cases z : 78 ≤ j ∧ j < 78 + i
    · rw [if_pos z, if_pos (by omega)]
    · rw [if_neg z, if_neg (by omega)]
theorem trM_0 (Q : Row) : trM Q 0 = Q := by
  funext j
  unfold trM
  rw [if_neg (by omega)]
theorem isle53 {h : aH} (hS : Str h) : f_X12_isIsleHere_53 2000 h 308 0 = some (1, wI h 314 (trM (hI h 314) 32)) := by
  refine itLoop (σ := aH × Int32) (fun k x => f_X12_isIsleHere_53 k x.1 308 x.2) (fun i x => x = (wI h 314 (trM (hI h 314) i), nI i)) (fun o => o = some (1, wI h 314 (trM (hI h 314) 32))) 32 ?_ ?_ 2000 0 (h, 0) ?_ (by omega) (by omega)
  · rintro k i _ hi rfl
    refine Or.inr ⟨_, rfl, ?_⟩
    have c32 : ¬ (32 : Int32) ≤ nI i := nI_ge (b := 32) hi (by decide)
    have e78 : (78 : Int32) + nI i = nI (78 + i) := nI_add 78 i
    have rr : hR (wI h 314 (trM (hI h 314) i)) 308 7 = some 314 := r_308_7 hS
    show b_X12_isIsleHere_53 (f_X12_isIsleHere_53 k) (wI h 314 (trM (hI h 314) i)) 308 (nI i) = f_X12_isIsleHere_53 k (wI h 314 (trM (hI h 314) (i + 1))) 308 (nI (i + 1))
    simp only [b_X12_isIsleHere_53, if_neg c32, q_308, rr, Option.bind_some, aLet, e78, q_314, if_pos (in_314 (show 78 + i < 153 by omega)), nI_clamp (show 78 + i < 2 ^ 31 by omega), pI_wI, trM_s, i1]
  · rintro k _ rfl
    show b_X12_isIsleHere_53 (f_X12_isIsleHere_53 k) (wI h 314 (trM (hI h 314) 32)) 308 (nI 32) = _
    simp only [b_X12_isIsleHere_53, if_pos (show (32 : Int32) ≤ nI 32 by decide)]
  · rw [trM_0, wI_self]; rfl
theorem FR.w {h : aH} {f : Row} : FR h (wI h 314 f) := ⟨Upd.wI (Or.inr rfl), fun j _ _ _ _ => by rw [hI_wI_ne _ _ (by decide)]⟩
theorem RT.w {h : aH} {t : Row} {n p : Nat} {f : Int32} (c : RT h t n p f) {g : Row} : RT (wI h 314 g) t n p f := by
  obtain ⟨⟨b1, b2, b3, b4⟩, c2, c3, c4⟩ := c
  refine ⟨⟨b1, ?_, b3, fun j hj => ?_⟩, c2, ?_, ?_⟩
  · rw [hI_wI_ne _ _ (by decide)]; exact b2
  · rw [hI_wI_ne _ _ (by decide)]; exact b4 j hj
  · rw [hI_wI_ne _ _ (by decide)]; exact c3
  · rw [hI_wI_ne _ _ (by decide)]; exact c4
theorem isleT {h : aH} {t : Row} {n s : Nat} (c : RT h t n s 0) (e0 : hI h 314 0 = 0) : ∃ r h' p', f_X12_isIsleHere h 308 (nI s) = some (bB r, h') ∧ FR h h' ∧ (r = true ↔ nf t n (nx t n (lw t n s)) 20 (nf t n (lw t n s) 99 0) = 0) ∧ RT h' t n p' (nf t n (nx t n (lw t n s)) 20 (nf t n (lw t n s) 99 0)) ∧ (r = true → p' = nx t n (nx t n (lw t n s)) ∧ hI h' 314 = rowI t n (lw t n s) (hI h 314) ∧ hI h' 308 14 = hI h 308 14) := by
  have hn := c.1.2.2.1
  obtain ⟨h1, f1, c1, u1, o1, g1⟩ := passT c
  have L := c1.2.1
  obtain ⟨p, ep⟩ : ∃ p, p = lw t n s := ⟨_, rfl⟩
  rw [← ep] at c1 L ⊢
  have i0 : aIn 0 (sh 314).2 := in_314 (k := 0) (by decide)
  have P1 := nx_le (t := t) L
  obtain ⟨h2, f2, c2, u2, g2, v2⟩ := cellT c1 (i := 1) (by decide) 99
  have k1e : nI 1 = (1 : Int32) := rfl
  have k2e : nI 2 = (2 : Int32) := rfl
  rw [k1e] at f2
  have f2' := f2
  cases a1 : gd t n p 99 with
  | false =>
    rw [a1] at f2'
    have z := nf_ng hn L a1
    rw [nf_f z]
    refine ⟨false, h2, _, ?_, u1.tr u2, ⟨fun y => absurd y (by decide), fun y => absurd y z⟩, c2, fun y => absurd y (by decide)⟩
    unfold f_X12_isIsleHere
    generalize 2000 = N
    simp only [q_308, r_308_7 c.1.1, Option.bind_some, q_314, if_pos i0, z_clamp, e0, if_pos (show (0 : Int32) ≤ 0 by decide), f1, aBind_some, f2', bB, if_true]
  | true =>
    rw [a1] at f2'
    have z1 : nf t n p 99 0 = 0 := nf_gd a1
    rw [z1] at c2 ⊢
    obtain ⟨h3, f3, c3, u3, g3, v3⟩ := cellT c2 (i := 2) (by decide) 20
    rw [k2e] at f3
    have f3' := f3
    cases a2 : gd t n (nx t n p) 20 with
    | false =>
      rw [a2] at f3'
      have z := nf_ng hn P1 a2
      refine ⟨false, h3, _, ?_, (u1.tr u2).tr u3, ⟨fun y => absurd y (by decide), fun y => absurd y z⟩, c3, fun y => absurd y (by decide)⟩
      unfold f_X12_isIsleHere
      generalize 2000 = N
      simp only [q_308, r_308_7 c.1.1, Option.bind_some, q_314, if_pos i0, z_clamp, e0, if_pos (show (0 : Int32) ≤ 0 by decide), f1, aBind_some, f2', bB, if_neg (show ¬ (1 : Int32) = 0 by decide), f3', if_true]
    | true =>
      rw [a2] at f3'
      have s53 := isle53 (h := pI h3 314 0 1) c3.1.1
      refine ⟨true, wI (pI h3 314 0 1) 314 (trM (hI (pI h3 314 0 1) 314) 32), _, ?_, ((u1.tr u2).tr u3).tr (FR.c.tr FR.w), ⟨fun _ => nf_gd a2, fun _ => rfl⟩, c3.c.w, fun _ => ⟨rfl, ?_, by rw [hI_wI_ne _ _ (by decide), hI_ne _ (by decide), g3, g2, g1]⟩⟩
      · unfold f_X12_isIsleHere
        revert s53
        generalize 2000 = N
        intro s53
        simp only [q_308, r_308_7 c.1.1, Option.bind_some, q_314, if_pos i0, z_clamp, e0, if_pos (show (0 : Int32) ≤ 0 by decide), f1, aBind_some, f2', bB, if_neg (show ¬ (1 : Int32) = 0 by decide), f3', r_308_7 c3.1.1, aLet]
        rw [s53]
      · rw [hI_wI_eq, hI_eq, v3 a2, v2 a1, o1 314 (by decide)]
        funext j
        unfold trM rowI
        by_cases y : 78 ≤ j ∧ j < 78 + 32
        · rw [if_pos y, if_neg (by omega), if_neg (by omega), if_neg (by omega), if_pos (by omega)]
        · rw [if_neg y]
          by_cases j0 : j = 0
          · rw [if_pos j0, j0, upd_at]
          · rw [if_neg j0, upd_ne _ _ j0]
            by_cases j2 : j = 2
            · rw [if_neg (by omega), if_pos j2, j2, upd_at]
            · rw [upd_ne _ _ j2]
              by_cases j1 : j = 1
              · rw [if_pos j1, j1, upd_at]
              · rw [if_neg j1, if_neg j2, if_neg (by omega), upd_ne _ _ j1]
theorem isleF {h h' : aH} (hS : Str h) (e0 : hI h 314 0 = 1) {s : Int32} (f1 : f_X12_fails h 308 4 s = some (0, h')) : f_X12_isIsleHere h 308 s = some (0, h') := by
  have i0 : aIn 0 (sh 314).2 := in_314 (k := 0) (by decide)
  unfold f_X12_isIsleHere
  generalize 2000 = N
  simp only [q_308, r_308_7 hS, Option.bind_some, q_314, if_pos i0, z_clamp, e0, if_neg (show ¬ (1 : Int32) ≤ 0 by decide), f1, aBind_some, true_or, if_true]
theorem isleWordT {h : aH} {t : Row} {n s k : Nat} {f : Int32} (c : RT h t n s f) (ss : sk t n s = s) (ek : k = kCl t s (lw t n s)) : f_X12_isIsleWord h 308 = some (bB (decide (¬ k = 6)), h) := by
  obtain ⟨x0, x1, x2, x3, x4, x5⟩ := six c ss ek
  have k6 : k ≤ 6 := by rw [ek]; exact kCl_6 _ _ _
  have n1 : ¬ (1 : Int32) = 0 := by decide
  have y : ∀ {i : Nat}, k = i → bB (decide (k = i)) = 1 := fun h => by rw [decide_eq_true h]; rfl
  have no : ∀ {i : Nat}, ¬ k = i → bB (decide (k = i)) = 0 := fun h => by rw [decide_eq_false h]; rfl
  have Y : ¬ k = 6 → bB (decide (¬ k = 6)) = 1 := fun h => by rw [decide_eq_true h]; rfl
  have cases7 : k = 0 ∨ k = 1 ∨ k = 2 ∨ k = 3 ∨ k = 4 ∨ k = 5 ∨ k = 6 := by omega
  rcases cases7 with z | z | z | z | z | z | z
  · rw [y z] at x0
    rw [Y (by omega)]
    simp only [f_X12_isIsleWord, q_308, x0, aBind_some, if_neg n1]
  · rw [no (i := 0) (by omega)] at x0
    rw [y z] at x1
    rw [Y (by omega)]
    simp only [f_X12_isIsleWord, q_308, x0, x1, aBind_some, if_neg n1, if_true]
  · rw [no (i := 0) (by omega)] at x0
    rw [no (i := 1) (by omega)] at x1
    rw [y z] at x2
    rw [Y (by omega)]
    simp only [f_X12_isIsleWord, q_308, x0, x1, x2, aBind_some, if_neg n1, if_true]
  · rw [no (i := 0) (by omega)] at x0
    rw [no (i := 1) (by omega)] at x1
    rw [no (i := 2) (by omega)] at x2
    rw [y z] at x3
    rw [Y (by omega)]
    simp only [f_X12_isIsleWord, q_308, x0, x1, x2, x3, aBind_some, if_neg n1, if_true]
  · rw [no (i := 0) (by omega)] at x0
    rw [no (i := 1) (by omega)] at x1
    rw [no (i := 2) (by omega)] at x2
    rw [no (i := 3) (by omega)] at x3
    rw [y z] at x4
    rw [Y (by omega)]
    simp only [f_X12_isIsleWord, q_308, x0, x1, x2, x3, x4, aBind_some, if_neg n1, if_true]
  · rw [no (i := 0) (by omega)] at x0
    rw [no (i := 1) (by omega)] at x1
    rw [no (i := 2) (by omega)] at x2
    rw [no (i := 3) (by omega)] at x3
    rw [no (i := 4) (by omega)] at x4
    rw [y z] at x5
    rw [Y (by omega)]
    simp only [f_X12_isIsleWord, q_308, x0, x1, x2, x3, x4, x5, aBind_some, if_neg n1, if_true]
  · rw [no (i := 0) (by omega)] at x0
    rw [no (i := 1) (by omega)] at x1
    rw [no (i := 2) (by omega)] at x2
    rw [no (i := 3) (by omega)] at x3
    rw [no (i := 4) (by omega)] at x4
    rw [no (i := 5) (by omega)] at x5
    rw [decide_eq_false (fun q => q z)]
    simp only [f_X12_isIsleWord, q_308, x0, x1, x2, x3, x4, x5, aBind_some, if_true]
    rfl
theorem FT {b : Bool} (h : b = false) {P : Prop} : b = true → P := fun y => absurd (h.symm.trans y) (by decide)
theorem lineT {h : aH} {t : Row} {n s p1 k c : Nat} (rt : RT h t n s 0) (ss : sk t n s = s) (ep : p1 = lw t n s) (ek : k = kCl t s p1) (k6 : ¬ k = 6) (c40 : c < 40) (v : VQ (hI h 314)) (e0 : hI h 314 0 = if c = 0 then 0 else 1) : ∃ r h' p', f_X12_isleLineHere h 308 (nI s) = some (bB r, h') ∧ FR h h' ∧ (r = true ↔ clF t n s p1 k c (hI h 314) = 0) ∧ RT h' t n p' (clF t n s p1 k c (hI h 314)) ∧ (r = true → p' = clP t n p1 k ∧ hI h' 314 = clQ t n p1 k (hI h 314) ∧ hI h' 308 14 = hI h 308 14) := by
  have ek' : k = kCl t s (lw t n s) := by rw [← ep]; exact ek
  obtain ⟨x0, x1, x2, x3, x4, x5⟩ := six rt ss ek'
  have hn := rt.1.2.2.1
  have hs := rt.2.1
  have kk : k ≤ 6 := by rw [ek]; exact kCl_6 _ _ _
  have n1 : ¬ (1 : Int32) = 0 := by decide
  have y : ∀ {i : Nat}, k = i → bB (decide (k = i)) = 1 := fun h => by rw [decide_eq_true h]; rfl
  have no : ∀ {i : Nat}, ¬ k = i → bB (decide (k = i)) = 0 := fun h => by rw [decide_eq_false h]; rfl
  have i0 : aIn 0 (sh 314).2 := in_314 (k := 0) (by decide)
  obtain ⟨⟨a, ha, ea⟩, ⟨b, hb, eb⟩, vl, vk⟩ := v
  have bl4 : ¬ blm s 4 0 = 0 := blm_ne (by omega) (Or.inr (Or.inr rfl))
  by_cases kz : k = 0
  · rw [y kz] at x0
    by_cases cz : c = 0
    · rw [if_pos cz] at e0
      obtain ⟨r, h', p', f1, u1, i1', r1, d1⟩ := isleT rt e0
      rw [← ep] at i1' r1 d1
      have F : clF t n s p1 k c (hI h 314) = nf t n (nx t n p1) 20 (nf t n p1 99 0) := by
        unfold clF
        rw [if_neg k6, if_neg (show ¬ tooB c k (hI h 314) from fun q => by
          rcases q with q | q | q | q | q
          · omega
          · exact q.2 cz
          · exact q.1 kz
          · exact absurd q.1 (by omega)
          · exact absurd q.1 (by omega)), if_pos kz]
      have P : clP t n p1 k = nx t n (nx t n p1) := by unfold clP; rw [if_pos kz]
      have G : clQ t n p1 k (hI h 314) = rowI t n p1 (hI h 314) := by unfold clQ; rw [if_pos kz]
      rw [F, P, G]
      refine ⟨r, h', p', ?_, u1, i1', r1, d1⟩
      simp only [f_X12_isleLineHere, q_308, x0, aBind_some, if_neg n1, f1, if_pos (bB01 r)]
    · rw [if_neg cz] at e0
      obtain ⟨h', f1, r1, u1⟩ := failT rt 4 s
      have F : clF t n s p1 k c (hI h 314) = blm s 4 0 := by
        unfold clF
        rw [if_neg k6, if_pos (Or.inr (Or.inl ⟨kz, cz⟩))]
      rw [F]
      refine ⟨false, h', s, ?_, u1, ⟨fun w => absurd w (by decide), fun w => absurd w bl4⟩, r1, fun w => absurd w (by decide)⟩
      have f1' := isleF rt.1.1 e0 f1
      simp only [f_X12_isleLineHere, q_308, x0, aBind_some, if_neg n1, f1', true_or, if_true, bB]
  · rw [no kz] at x0
    by_cases cz : c = 0
    · rw [if_pos cz] at e0
      obtain ⟨h', f1, r1, u1⟩ := failT rt 4 s
      have F : clF t n s p1 k c (hI h 314) = blm s 4 0 := by
        unfold clF
        rw [if_neg k6, if_pos (Or.inr (Or.inr (Or.inl ⟨kz, cz⟩)))]
      rw [F]
      refine ⟨false, h', s, ?_, u1, ⟨fun w => absurd w (by decide), fun w => absurd w bl4⟩, r1, fun w => absurd w (by decide)⟩
      simp only [f_X12_isleLineHere, q_308, x0, aBind_some, if_true, r_308_7 rt.1.1, Option.bind_some, q_314, if_pos i0, z_clamp, e0, f1, true_or, bB]
    · rw [if_neg cz] at e0
      have n0 : ¬ hI h 314 0 = 0 := by rw [e0]; decide
      have cases5 : k = 1 ∨ k = 2 ∨ k = 3 ∨ k = 4 ∨ k = 5 := by omega
      have nt : (k = 1 → ¬ 4 ≤ hI h 314 3) → (k = 2 → ¬ 4 ≤ hI h 314 4) → ¬ tooB c k (hI h 314) := fun w1 w2 q => by
        rcases q with q | q | q | q | q
        · omega
        · exact kz q.1
        · exact cz q.2
        · exact w1 q.1 q.2
        · exact w2 q.1 q.2
      have ONE : ∀ o, o < 2 → k = 1 + o → (∃ x, x ≤ 4 ∧ hI h 314 (3 + o) = nI x) → (4 ≤ hI h 314 (3 + o) → tooB c k (hI h 314)) → (¬ 4 ≤ hI h 314 (3 + o) → ¬ tooB c k (hI h 314)) → clQ t n p1 k (hI h 314) = rowE t n p1 o (hI h 314) → (∀ g : aH, ∀ b : Bool, f_X12_isOneHere h 308 (nI o) (nI s) = some (bB b, g) → f_X12_isleLineHere h 308 (nI s) = some (bB b, g)) → ∃ r h' p', f_X12_isleLineHere h 308 (nI s) = some (bB r, h') ∧ FR h h' ∧ (r = true ↔ clF t n s p1 k c (hI h 314) = 0) ∧ RT h' t n p' (clF t n s p1 k c (hI h 314)) ∧ (r = true → p' = clP t n p1 k ∧ hI h' 314 = clQ t n p1 k (hI h 314) ∧ hI h' 308 14 = hI h 308 14) := by
        intro o ho ko ex t1 t2 G cont
        obtain ⟨x, hx, ex⟩ := ex
        obtain ⟨r, h', p', f1, u1, d1⟩ := oneT rt ho hx ex
        rw [← ep] at d1
        by_cases w : 4 ≤ hI h 314 (3 + o)
        · rw [if_pos w] at d1
          have F : clF t n s p1 k c (hI h 314) = blm s 4 0 := by unfold clF; rw [if_neg k6, if_pos (t1 w)]
          rw [F]
          exact ⟨r, h', p', cont _ _ f1, u1, ⟨FT d1.1, fun q => absurd q bl4⟩, d1.2, FT d1.1⟩
        · rw [if_neg w] at d1
          have F : clF t n s p1 k c (hI h 314) = nf t n p1 999 0 := by unfold clF; rw [if_neg k6, if_neg (t2 w), if_neg (by omega), if_neg (by omega), if_neg (by omega)]
          have P : clP t n p1 k = nx t n p1 := by unfold clP; rw [if_neg (by omega), if_neg (by omega)]
          rw [F, P, G]
          exact ⟨r, h', p', cont _ _ f1, u1, d1.1, d1.2.1, d1.2.2⟩
      rcases cases5 with z | z | z | z | z
      · rw [y z] at x1
        refine ONE 0 (by decide) z ⟨a, ha, ea⟩ (fun w => Or.inr (Or.inr (Or.inr (Or.inl ⟨z, w⟩)))) (fun w => nt (fun _ => w) (fun q => absurd q (by omega))) (by unfold clQ; rw [if_neg kz, if_pos z]) (fun g r f1 => ?_)
        rw [show nI 0 = (0 : Int32) from rfl] at f1
        have f1' := f1
        simp only [f_X12_isleLineHere, q_308, x0, aBind_some, if_true, r_308_7 rt.1.1, Option.bind_some, q_314, if_pos i0, z_clamp, if_neg n0, x1, if_neg n1, f1', if_pos (bB01 r)]
      · rw [no (i := 1) (by omega)] at x1
        rw [y z] at x2
        refine ONE 1 (by decide) z ⟨b, hb, eb⟩ (fun w => Or.inr (Or.inr (Or.inr (Or.inr ⟨z, w⟩)))) (fun w => nt (fun q => absurd q (by omega)) (fun _ => w)) (by unfold clQ; rw [if_neg kz, if_neg (by omega), if_pos z]) (fun g r f1 => ?_)
        rw [show nI 1 = (1 : Int32) from rfl] at f1
        have f1' := f1
        simp only [f_X12_isleLineHere, q_308, x0, aBind_some, if_true, r_308_7 rt.1.1, Option.bind_some, q_314, if_pos i0, z_clamp, if_neg n0, x1, x2, if_neg n1, f1', if_pos (bB01 r)]
      · rw [no (i := 1) (by omega)] at x1
        rw [no (i := 2) (by omega)] at x2
        rw [no (i := 5) (by omega)] at x5
        rw [y z] at x3
        obtain ⟨r, h', p', f1, u1, d1, d2, d3⟩ := likesT rt ha hb ea eb (B := 110) (by decide)
        rw [← ep] at d1 d2 d3
        rw [show nI 110 = (110 : Int32) from rfl] at f1
        have f1' := f1
        have F : clF t n s p1 k c (hI h 314) = nf4 t n p1 (hI h 314) 0 := by unfold clF; rw [if_neg k6, if_neg (nt (fun q => absurd q (by omega)) (fun q => absurd q (by omega))), if_neg (by omega), if_neg (by omega), if_pos (by omega)]
        have P : clP t n p1 k = nx t n (nx t n (nx t n (nx t n p1))) := by unfold clP; rw [if_neg (by omega), if_pos (by omega)]
        have G : clQ t n p1 k (hI h 314) = rowL t n p1 110 (hI h 314) := by unfold clQ; rw [if_neg (by omega), if_neg (by omega), if_neg (by omega), if_pos z]
        rw [F, P, G]
        refine ⟨r, h', p', ?_, u1, d1, d2, d3⟩
        simp only [f_X12_isleLineHere, q_308, x0, aBind_some, if_true, r_308_7 rt.1.1, Option.bind_some, q_314, if_pos i0, z_clamp, if_neg n0, x1, x2, x5, x3, if_neg n1, b_X12_isleLineHere_99, f1', if_pos (bB01 r)]
      · rw [no (i := 1) (by omega)] at x1
        rw [no (i := 2) (by omega)] at x2
        rw [no (i := 5) (by omega)] at x5
        rw [no (i := 3) (by omega)] at x3
        obtain ⟨r, h', p', f1, u1, d1, d2, d3⟩ := likesT rt ha hb ea eb (B := 78) (by decide)
        rw [← ep] at d1 d2 d3
        rw [show nI 78 = (78 : Int32) from rfl] at f1
        have f1' := f1
        have F : clF t n s p1 k c (hI h 314) = nf4 t n p1 (hI h 314) 0 := by unfold clF; rw [if_neg k6, if_neg (nt (fun q => absurd q (by omega)) (fun q => absurd q (by omega))), if_neg (by omega), if_neg (by omega), if_pos (by omega)]
        have P : clP t n p1 k = nx t n (nx t n (nx t n (nx t n p1))) := by unfold clP; rw [if_neg (by omega), if_pos (by omega)]
        have G : clQ t n p1 k (hI h 314) = rowL t n p1 78 (hI h 314) := by unfold clQ; rw [if_neg (by omega), if_neg (by omega), if_neg (by omega), if_neg (by omega), if_pos z]
        rw [F, P, G]
        refine ⟨r, h', p', ?_, u1, d1, d2, d3⟩
        simp only [f_X12_isleLineHere, q_308, x0, aBind_some, if_true, r_308_7 rt.1.1, Option.bind_some, q_314, if_pos i0, z_clamp, if_neg n0, x1, x2, x5, x3, b_X12_isleLineHere_99, f1', if_pos (bB01 r)]
      · rw [no (i := 1) (by omega)] at x1
        rw [no (i := 2) (by omega)] at x2
        rw [y z] at x5
        obtain ⟨r, h', p', f1, u1, d1, d2, d3⟩ := lateHT rt
        rw [← ep] at d1 d2 d3
        have F : clF t n s p1 k c (hI h 314) = nf t n p1 60 0 := by unfold clF; rw [if_neg k6, if_neg (nt (fun q => absurd q (by omega)) (fun q => absurd q (by omega))), if_neg (by omega), if_pos z]
        have P : clP t n p1 k = nx t n p1 := by unfold clP; rw [if_neg (by omega), if_neg (by omega)]
        have G : clQ t n p1 k (hI h 314) = lateQ (hI h 314) (nv t n p1).toNatClampNeg := by unfold clQ; rw [if_neg (by omega), if_neg (by omega), if_neg (by omega), if_neg (by omega), if_neg (by omega)]
        rw [F, P, G]
        refine ⟨r, h', p', ?_, u1, d1, d2, d3⟩
        simp only [f_X12_isleLineHere, q_308, x0, aBind_some, if_true, r_308_7 rt.1.1, Option.bind_some, q_314, if_pos i0, z_clamp, if_neg n0, x1, x2, x5, if_neg n1, f1, if_pos (bB01 r)]
