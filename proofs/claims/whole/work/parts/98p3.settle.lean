theorem take_in {h : aH} (hS : Str h) {S : Row} (r : RSt h 19 S) {rw ho : Row} (v : VS S) (o : RO S rw ho) (c : CR h rw ho) {e : Nat} (he : e < 4) (K : aH → Nat → Nat → Int32 → Int32 → Option (Unit × aH)) (x : Int32) : f_X7_takeIfSettled_15 K 2000 h 53 19 x (nI e) 0 = if wrE S rw ho e (nW S) 0 = true then some ((), h) else K h 53 19 (sumE S rw e x) (nI (e + 1)) := by
  have v4 := v.e4
  refine itLoop (σ := Int32) (fun n s => f_X7_takeIfSettled_15 K n h 53 19 x (nI e) s) (fun i s => s = nI i ∧ wrE S rw ho e (nW S - i) i = wrE S rw ho e (nW S) 0) (fun q => q = if wrE S rw ho e (nW S) 0 = true then some ((), h) else K h 53 19 (sumE S rw e x) (nI (e + 1))) (nW S) ?_ ?_ 2000 0 0 ⟨rfl, rfl⟩ (by omega) (by omega)
  · rintro n i _ hi ⟨rfl, t⟩
    have q : ¬ nI (nW S) ≤ nI i := nI_ge hi (by omega)
    rw [show nW S - i = (nW S - (i + 1)) + 1 by omega, wrE] at t
    have cj := couldJoinS hS m19 r he (show i < 4 by omega)
    have rc := ratherC hS r v o c he (show i < 4 by omega)
    have hd : f_X7_takeIfSettled_15 K (n + 1) h 53 19 x (nI e) (nI i) = if wdR S rw ho e i = true then some ((), h) else f_X7_takeIfSettled_15 K n h 53 19 x (nI e) (nI (i + 1)) := by
      show b_X7_takeIfSettled_15 K (f_X7_takeIfSettled_15 K n) h 53 19 x (nI e) (nI i) = _
      simp only [b_X7_takeIfSettled_15, qst0 m19, r.s4, v4.1, if_neg q, cj, aBind_some, b1_0, q_53, rc, bB_0, b_X7_takeIfSettled_46, i1]
      unfold wdR
      by_cases z : canJ S e i
      · rw [if_pos z, decide_eq_true z, Bool.true_and]
      · rw [if_neg z, decide_eq_false z, Bool.false_and, if_neg (by decide)]
    cases ew : wdR S rw ho e i with
    | true =>
      rw [ew, Bool.true_or] at t
      rw [ew, if_pos rfl] at hd
      exact Or.inl (by rw [← t, if_pos rfl]; exact hd)
    | false =>
      rw [ew, Bool.false_or] at t
      rw [ew, if_neg (by decide)] at hd
      exact Or.inr ⟨_, ⟨rfl, t⟩, hd⟩
  · rintro n _ ⟨rfl, t⟩
    rw [Nat.sub_self, wrE] at t
    rw [← t, if_neg (by decide)]
    show b_X7_takeIfSettled_15 K (f_X7_takeIfSettled_15 K n) h 53 19 x (nI e) (nI (nW S)) = _
    simp only [b_X7_takeIfSettled_15, qst0 m19, r.s4, v4.1, if_pos (Int32.le_refl (nI (nW S))), q_53, r_53_0 hS, Option.bind_some, q_54, if_pos (in54 he), nI_clamp (show e < 2 ^ 31 by omega), (c e he).1, b_X7_takeIfSettled_89, i1, sumE]
    rcases o.1 e he with z | ⟨w', hw', z⟩
    · rw [z, if_pos (by decide), if_pos (by decide)]
    · have w31 : w' < 2 ^ 31 := by omega
      rw [z, if_neg (nI_pos w31), if_neg (nI_pos w31), nI_clamp w31]
      simp only [likeS0 hS m19 r he (show w' < 4 by omega), likeS1 hS m19 r he (show w' < 4 by omega), aBind_some, r_53_0 hS, Option.bind_some, q_54, if_pos (in54 he), (c e he).1, z, aLet]
abbrev sC : Nat → Prop := fun c => c = 53 ∨ c = 56
theorem takeC {h : aH} (hS : Str h) {S : Row} (r : RSt h 19 S) {rw ho : Row} (v : VS S) (o : RO S rw ho) (c : CR h rw ho) {a : Acc} (ac : accC h a) (ha : a.1 < 1000) : ∃ h', f_X7_takeIfSettled h 53 19 = some ((), h') ∧ accC h' (tk S rw ho a) ∧ Upd sC h h' := by
  have v3 := v.e3
  obtain ⟨sm, hsm, esm⟩ := sumR_n v o (nE S) v3.2
  refine itLoop (σ := Int32 × Int32) (fun n s => f_X7_takeIfSettled_4 n h 53 19 s.1 s.2) (fun i s => s = (sumR S rw i, nI i) ∧ wrA S rw ho (nE S - i) i = wrA S rw ho (nE S) 0) (fun q => ∃ h', q = some ((), h') ∧ accC h' (tk S rw ho a) ∧ Upd sC h h') (nE S) ?_ ?_ 2000 0 (0, 0) ⟨rfl, rfl⟩ (by omega) (by omega)
  · rintro n i _ hi ⟨rfl, t⟩
    have q : ¬ nI (nE S) ≤ nI i := nI_ge hi (by omega)
    rw [show nE S - i = (nE S - (i + 1)) + 1 by omega, wrA] at t
    have hd : f_X7_takeIfSettled_4 (n + 1) h 53 19 (sumR S rw i) (nI i) = if wrE S rw ho i (nW S) 0 = true then some ((), h) else f_X7_takeIfSettled_4 n h 53 19 (sumR S rw (i + 1)) (nI (i + 1)) := by
      show b_X7_takeIfSettled_4 (f_X7_takeIfSettled_4 n) h 53 19 (sumR S rw i) (nI i) = _
      simp only [b_X7_takeIfSettled_4, qst0 m19, r.s3, v3.1, if_neg q, take_in hS r v o c (show i < 4 by omega), sumR]
    cases ew : wrE S rw ho i (nW S) 0 with
    | true =>
      rw [ew, Bool.true_or] at t
      rw [ew, if_pos rfl] at hd
      exact Or.inl ⟨h, hd, by unfold tk; rw [← t, if_pos rfl]; exact ac, Upd.rf h⟩
    | false =>
      rw [ew, Bool.false_or] at t
      rw [ew, if_neg (by decide)] at hd
      exact Or.inr ⟨_, ⟨rfl, t⟩, hd⟩
  · rintro n _ ⟨rfl, t⟩
    rw [Nat.sub_self, wrA] at t
    obtain ⟨a1, a2, a3⟩ := ac
    have fin : ∀ g, Str g → hI g 53 = hI h 53 → b_X7_takeIfSettled_116 g 53 (sumR S rw (nE S)) = some ((), pI (pI g 53 3 (nI (a.1 + 1))) 53 4 (if (if a.1 = 0 then 0 else a.2.2) < sumR S rw (nE S) then sumR S rw (nE S) else (if a.1 = 0 then 0 else a.2.2))) := by
      intro g Sg eg
      have e4 : hI (pI g 53 3 (nI (a.1 + 1))) 53 4 = (if a.1 = 0 then 0 else a.2.2) := by rw [hI_eq, upd_ne _ _ (by decide), eg]; exact a2
      simp only [b_X7_takeIfSettled_116, q_53, eg, a1, i1, aLet, e4]
    have tkv : tk S rw ho a = (a.1 + 1, (if a.1 = 0 then rw else a.2.1), (if a.1 = 0 then sumR S rw (nE S) else if a.2.2 < sumR S rw (nE S) then sumR S rw (nE S) else a.2.2)) := by unfold tk; rw [← t, if_neg (by decide)]
    have bst : (if (if a.1 = 0 then 0 else a.2.2) < sumR S rw (nE S) then sumR S rw (nE S) else (if a.1 = 0 then 0 else a.2.2)) = (if a.1 = 0 then sumR S rw (nE S) else if a.2.2 < sumR S rw (nE S) then sumR S rw (nE S) else a.2.2) := by
      by_cases z : a.1 = 0
      · simp only [if_pos z]
        by_cases y : (0 : Int32) < sumR S rw (nE S)
        · rw [if_pos y]
        · rw [if_neg y]
          rw [esm] at y ⊢
          exact Int32.le_antisymm (nI_pos' (by omega)) (Int32.not_lt.mp y)
      · simp only [if_neg z]
    by_cases z : a.1 = 0
    · have z0 : nI a.1 = 0 := by rw [z]; rfl
      have cc : (4 : Int32).toNatClampNeg = 4 := by decide
      have l4 : 4 ≤ (sh 54).2 ∧ 4 ≤ (sh 56).2 := by rw [sh_54, sh_56]; decide
      obtain ⟨g, eg⟩ : ∃ g, g = wI h 56 (va_cpy (hI h 54) (hI h 56) 0 0 4) := ⟨_, rfl⟩
      have Sg : Str g := by rw [eg]; exact hS
      have g53 : hI g 53 = hI h 53 := by rw [eg, hI_wI_ne _ _ (by decide)]
      refine ⟨pI (pI g 53 3 (nI (a.1 + 1))) 53 4 (if (if a.1 = 0 then 0 else a.2.2) < sumR S rw (nE S) then sumR S rw (nE S) else (if a.1 = 0 then 0 else a.2.2)), ?_, ?_, ?_⟩
      · show b_X7_takeIfSettled_4 (f_X7_takeIfSettled_4 n) h 53 19 (sumR S rw (nE S)) (nI (nE S)) = _
        simp only [b_X7_takeIfSettled_4, qst0 m19, r.s3, v3.1, if_pos (Int32.le_refl (nI (nE S))), q_53, a1, if_pos z0, r_53_0 hS, r_53_2 hS, Option.bind_some, q_54, q_56, if_pos l4, z_clamp, cc, aLet, ← eg]
        exact fin g Sg g53
      · rw [tkv, bst]
        refine ⟨by rw [hI_eq, upd_ne _ _ (by decide), hI_eq, upd_at], by rw [hI_eq, upd_at, if_neg (show ¬ a.1 + 1 = 0 by omega)], fun e he => ?_⟩
        rw [hI_ne _ (by decide), hI_ne _ (by decide), eg, hI_wI_eq, pk_cpy_in (by omega) (by omega), if_neg (show ¬ a.1 + 1 = 0 by omega)]
        show hI h 54 (0 + (e - 0)) = (if a.1 = 0 then rw else a.2.1) e
        rw [if_pos z, Nat.zero_add, Nat.sub_zero]
        exact (c e he).1
      · rw [eg]; exact ((Upd.wI (Or.inr rfl)).tr (Upd.pI (Or.inl rfl))).tr (Upd.pI (Or.inl rfl))
    · have z0 : ¬ nI a.1 = 0 := fun y => z ((nI_z (by omega)).mp y)
      refine ⟨pI (pI h 53 3 (nI (a.1 + 1))) 53 4 (if (if a.1 = 0 then 0 else a.2.2) < sumR S rw (nE S) then sumR S rw (nE S) else (if a.1 = 0 then 0 else a.2.2)), ?_, ?_, ?_⟩
      · show b_X7_takeIfSettled_4 (f_X7_takeIfSettled_4 n) h 53 19 (sumR S rw (nE S)) (nI (nE S)) = _
        simp only [b_X7_takeIfSettled_4, qst0 m19, r.s3, v3.1, if_pos (Int32.le_refl (nI (nE S))), q_53, a1, if_neg z0]
        exact fin h hS rfl
      · rw [tkv, bst]
        refine ⟨by rw [hI_eq, upd_ne _ _ (by decide), hI_eq, upd_at], by rw [hI_eq, upd_at, if_neg (show ¬ a.1 + 1 = 0 by omega)], fun e he => ?_⟩
        rw [hI_ne _ (by decide), hI_ne _ (by decide), if_neg (show ¬ a.1 + 1 = 0 by omega)]
        show hI h 56 e = (if a.1 = 0 then rw else a.2.1) e
        rw [if_neg z, a3 e he, if_neg z]
      · exact (Upd.pI (Or.inl rfl)).tr (Upd.pI (Or.inl rfl))
