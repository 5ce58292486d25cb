/-! ===== isle: the reference's clause, whole ===== -/
theorem lateHT {h : aH} {t : Row} {n s : Nat} (c : RT h t n s 0) : ∃ r h' p', f_X12_isLateHere h 308 = some (bB r, h') ∧ FR h h' ∧ (r = true ↔ nf t n (lw t n s) 60 0 = 0) ∧ RT h' t n p' (nf t n (lw t n s) 60 0) ∧ (r = true → p' = nx t n (lw t n s) ∧ hI h' 314 = lateQ (hI h 314) (nv t n (lw t n s)).toNatClampNeg ∧ hI h' 308 14 = hI h 308 14) := by
  have hn := c.1.2.2.1
  obtain ⟨h1, f1, c1, u1, o1, g1⟩ := passT c
  have L := c1.2.1
  obtain ⟨p, ep⟩ : ∃ p, p = lw t n s := ⟨_, rfl⟩
  rw [← ep] at c1 L ⊢
  obtain ⟨h2, f2, c2, u2, o2, g2, v2⟩ := numT c1 60
  cases g : gd t n p 60 with
  | false =>
    rw [g] at f2
    refine ⟨false, h2, _, ?_, u1.tr u2, ⟨fun y => absurd y (by decide), fun y => absurd y (nf_ng hn L g)⟩, c2, fun y => absurd y (by decide)⟩
    simp only [f_X12_isLateHere, q_308, f1, aBind_some, f2, bB, if_true]
  | true =>
    rw [g] at f2
    obtain ⟨k, hk, ek⟩ := nv_nn L g
    have m : nv t n p ≤ 60 := (of_decide_eq_true g).2.2
    rw [ek] at m
    have m' : nI k ≤ nI 60 := m
    have k6 := (nI_leI (by omega) (by omega)).mp m'
    have d21 : nI k / 21 = nI (k / 21) := pk_div (d := 21) (by omega) (by decide) (by decide)
    have m21 : nI k - nI (k / 21) * 21 = nI (k % 21) := by
      have := pk_rem (a := k) (d := 21) (by omega) (by decide) (by decide)
      rw [show nI 21 = (21 : Int32) from rfl, d21] at this
      exact this
    have e150 : (150 : Int32) + nI (k / 21) = nI (150 + k / 21) := nI_add 150 (k / 21)
    have t10 : hI h2 308 10 = nI k := by rw [v2 g]; exact ek
    refine ⟨true, pI h2 314 (150 + k / 21) ((hI h2 314 (150 + k / 21)) ||| (1 <<< (nI (k % 21) &&& 31))), _, ?_, (u1.tr u2).tr FR.c, ⟨fun _ => nf_gd g, fun _ => rfl⟩, c2.c, fun _ => ⟨rfl, ?_, by rw [hI_ne _ (by decide), g2, g1]⟩⟩
    · simp only [f_X12_isLateHere, q_308, f1, aBind_some, f2, bB, if_neg (show ¬ (1 : Int32) = 0 by decide), r_308_7 c2.1.1, Option.bind_some, aLet, t10, d21, e150, q_314, if_pos (in_314 (show 150 + k / 21 < 153 by omega)), nI_clamp (show 150 + k / 21 < 2 ^ 31 by omega), m21]
    · rw [hI_eq, o2 314 (by decide), o1 314 (by decide)]
      unfold lateQ
      rw [ek, nI_clamp (show k < 2 ^ 31 by omega)]
def trM (Q : Row) (i : Nat) : Row := fun j => if 78 ≤ j ∧ j < 78 + i then -1 else Q j
theorem trM_s (Q : Row) (i : Nat) : upd (trM Q i) (78 + i) (-1) = trM Q (i + 1) := by
  funext j
  by_cases y : j = 78 + i
  · rw [y, upd_at]
    unfold trM
    rw [if_pos (by omega)]
  · rw [upd_ne _ _ y]
    unfold trM
    by_cases z : 78 ≤ j ∧ j < 78 + i
    · rw [if_pos z, if_pos (by omega)]
    · rw [if_neg z, if_neg (by omega)]
theorem trM_0 (Q : Row) : trM Q 0 = Q := by
  funext j
  unfold trM
  rw [if_neg (by omega)]
theorem isle53 {h : aH} (hS : Str h) : f_X12_isIsleHere_53 2000 h 308 0 = some (1, wI h 314 (trM (hI h 314) 32)) := by
  refine itLoop (σ := aH × Int32) (fun k x => f_X12_isIsleHere_53 k x.1 308 x.2) (fun i x => x = (wI h 314 (trM (hI h 314) i), nI i)) (fun o => o = some (1, wI h 314 (trM (hI h 314) 32))) 32 ?_ ?_ 2000 0 (h, 0) ?_ (by omega) (by omega)
  · rintro k i _ hi rfl
    refine Or.inr ⟨_, rfl, ?_⟩
    have c32 : ¬ (32 : Int32) ≤ nI i := nI_ge (b := 32) hi (by decide)
    have e78 : (78 : Int32) + nI i = nI (78 + i) := nI_add 78 i
    have rr : hR (wI h 314 (trM (hI h 314) i)) 308 7 = some 314 := r_308_7 hS
    show b_X12_isIsleHere_53 (f_X12_isIsleHere_53 k) (wI h 314 (trM (hI h 314) i)) 308 (nI i) = f_X12_isIsleHere_53 k (wI h 314 (trM (hI h 314) (i + 1))) 308 (nI (i + 1))
    simp only [b_X12_isIsleHere_53, if_neg c32, q_308, rr, Option.bind_some, aLet, e78, q_314, if_pos (in_314 (show 78 + i < 153 by omega)), nI_clamp (show 78 + i < 2 ^ 31 by omega), pI_wI, trM_s, i1]
  · rintro k _ rfl
    show b_X12_isIsleHere_53 (f_X12_isIsleHere_53 k) (wI h 314 (trM (hI h 314) 32)) 308 (nI 32) = _
    simp only [b_X12_isIsleHere_53, if_pos (show (32 : Int32) ≤ nI 32 by decide)]
  · rw [trM_0, wI_self]; rfl
theorem FR.w {h : aH} {f : Row} : FR h (wI h 314 f) := ⟨Upd.wI (Or.inr rfl), fun j _ _ _ _ => by rw [hI_wI_ne _ _ (by decide)]⟩
theorem RT.w {h : aH} {t : Row} {n p : Nat} {f : Int32} (c : RT h t n p f) {g : Row} : RT (wI h 314 g) t n p f := by
  obtain ⟨⟨b1, b2, b3, b4⟩, c2, c3, c4⟩ := c
  refine ⟨⟨b1, ?_, b3, fun j hj => ?_⟩, c2, ?_, ?_⟩
  · rw [hI_wI_ne _ _ (by decide)]; exact b2
  · rw [hI_wI_ne _ _ (by decide)]; exact b4 j hj
  · rw [hI_wI_ne _ _ (by decide)]; exact c3
  · rw [hI_wI_ne _ _ (by decide)]; exact c4
theorem isle_e1 {h h1 h2 : aH} (hS : Str h) {x : Int32} (e0 : hI h 314 0 = 0) (f1 : f_X12_passWord h 308 = some ((), h1)) (f2 : f_X12_cellHere h1 308 1 0 99 = some (0, h2)) : f_X12_isIsleHere h 308 x = some (0, h2) := by
  have i0 : aIn 0 (sh 314).2 := in_314 (k := 0) (by decide)
  unfold f_X12_isIsleHere
  generalize 2000 = N
  simp only [q_308, r_308_7 hS, Option.bind_some, q_314, if_pos i0, z_clamp, e0, if_pos (show (0 : Int32) ≤ 0 by decide), f1, aBind_some, f2, if_true]
theorem isle_e2 {h h1 h2 h3 : aH} (hS : Str h) {x : Int32} (e0 : hI h 314 0 = 0) (f1 : f_X12_passWord h 308 = some ((), h1)) (f2 : f_X12_cellHere h1 308 1 0 99 = some (1, h2)) (f3 : f_X12_cellHere h2 308 2 0 20 = some (0, h3)) : f_X12_isIsleHere h 308 x = some (0, h3) := by
  have i0 : aIn 0 (sh 314).2 := in_314 (k := 0) (by decide)
  unfold f_X12_isIsleHere
  generalize 2000 = N
  simp only [q_308, r_308_7 hS, Option.bind_some, q_314, if_pos i0, z_clamp, e0, if_pos (show (0 : Int32) ≤ 0 by decide), f1, aBind_some, f2, if_neg (show ¬ (1 : Int32) = 0 by decide), f3, if_true]
theorem aLet_e {α ρ : Type} (x : α) (f : α → ρ) : aLet x f = f x := rfl
theorem isle_e3 {h h1 h2 h3 g : aH} (hS : Str h) (S3 : Str h3) {x : Int32} (e0 : hI h 314 0 = 0) (f1 : f_X12_passWord h 308 = some ((), h1)) (f2 : f_X12_cellHere h1 308 1 0 99 = some (1, h2)) (f3 : f_X12_cellHere h2 308 2 0 20 = some (1, h3)) (s53 : f_X12_isIsleHere_53 2000 (pI h3 314 0 1) 308 0 = some (1, g)) : f_X12_isIsleHere h 308 x = some (1, g) := by
  have i0 : aIn 0 (sh 314).2 := in_314 (k := 0) (by decide)
  have n1 : ¬ (1 : Int32) = 0 := by decide
  unfold f_X12_isIsleHere
  rw [q_308, r_308_7 hS, Option.bind_some, q_314, if_pos i0, if_pos (show hI h 314 (Int32.toNatClampNeg 0) ≤ 0 by rw [z_clamp, e0]; decide), f1, aBind_some, f2, aBind_some, if_neg n1, f3, aBind_some, if_neg n1, r_308_7 S3, Option.bind_some, q_314, if_pos i0, z_clamp, aLet_e]
  exact s53
theorem isleF {h h' : aH} (hS : Str h) (e0 : hI h 314 0 = 1) {s : Int32} (f1 : f_X12_fails h 308 4 s = some (0, h')) : f_X12_isIsleHere h 308 s = some (0, h') := by
  have i0 : aIn 0 (sh 314).2 := in_314 (k := 0) (by decide)
  unfold f_X12_isIsleHere
  generalize 2000 = N
  simp only [q_308, r_308_7 hS, Option.bind_some, q_314, if_pos i0, z_clamp, e0, if_neg (show ¬ (1 : Int32) ≤ 0 by decide), f1, aBind_some, true_or, if_true]
theorem isleWordT {h : aH} {t : Row} {n s k : Nat} {f : Int32} (c : RT h t n s f) (ss : sk t n s = s) (ek : k = kCl t s (lw t n s)) : f_X12_isIsleWord h 308 = some (bB (decide (¬ k = 6)), h) := by
  obtain ⟨x0, x1, x2, x3, x4, x5⟩ := six c ss ek
  have k6 : k ≤ 6 := by rw [ek]; exact kCl_6 _ _ _
  have n1 : ¬ (1 : Int32) = 0 := by decide
  have y : ∀ {i : Nat}, k = i → bB (decide (k = i)) = 1 := fun h => by rw [decide_eq_true h]; rfl
  have no : ∀ {i : Nat}, ¬ k = i → bB (decide (k = i)) = 0 := fun h => by rw [decide_eq_false h]; rfl
  have Y : ¬ k = 6 → bB (decide (¬ k = 6)) = 1 := fun h => by rw [decide_eq_true h]; rfl
  have cases7 : k = 0 ∨ k = 1 ∨ k = 2 ∨ k = 3 ∨ k = 4 ∨ k = 5 ∨ k = 6 := by omega
  rcases cases7 with z | z | z | z | z | z | z
  · rw [y z] at x0
    rw [Y (by omega)]
    simp only [f_X12_isIsleWord, q_308, x0, aBind_some, if_neg n1]
  · rw [no (i := 0) (by omega)] at x0
    rw [y z] at x1
    rw [Y (by omega)]
    simp only [f_X12_isIsleWord, q_308, x0, x1, aBind_some, if_neg n1, if_true]
  · rw [no (i := 0) (by omega)] at x0
    rw [no (i := 1) (by omega)] at x1
    rw [y z] at x2
    rw [Y (by omega)]
    simp only [f_X12_isIsleWord, q_308, x0, x1, x2, aBind_some, if_neg n1, if_true]
  · rw [no (i := 0) (by omega)] at x0
    rw [no (i := 1) (by omega)] at x1
    rw [no (i := 2) (by omega)] at x2
    rw [y z] at x3
    rw [Y (by omega)]
    simp only [f_X12_isIsleWord, q_308, x0, x1, x2, x3, aBind_some, if_neg n1, if_true]
  · rw [no (i := 0) (by omega)] at x0
    rw [no (i := 1) (by omega)] at x1
    rw [no (i := 2) (by omega)] at x2
    rw [no (i := 3) (by omega)] at x3
    rw [y z] at x4
    rw [Y (by omega)]
    simp only [f_X12_isIsleWord, q_308, x0, x1, x2, x3, x4, aBind_some, if_neg n1, if_true]
  · rw [no (i := 0) (by omega)] at x0
    rw [no (i := 1) (by omega)] at x1
    rw [no (i := 2) (by omega)] at x2
    rw [no (i := 3) (by omega)] at x3
    rw [no (i := 4) (by omega)] at x4
    rw [y z] at x5
    rw [Y (by omega)]
    simp only [f_X12_isIsleWord, q_308, x0, x1, x2, x3, x4, x5, aBind_some, if_neg n1, if_true]
  · rw [no (i := 0) (by omega)] at x0
    rw [no (i := 1) (by omega)] at x1
    rw [no (i := 2) (by omega)] at x2
    rw [no (i := 3) (by omega)] at x3
    rw [no (i := 4) (by omega)] at x4
    rw [no (i := 5) (by omega)] at x5
    rw [decide_eq_false (fun q => q z)]
    simp only [f_X12_isIsleWord, q_308, x0, x1, x2, x3, x4, x5, aBind_some, if_true]
    rfl
