/-! ===== isle: the reference reads a clause ===== -/
def RT (h : aH) (t : Row) (n p : Nat) (f : Int32) : Prop := TRB h (hI h 308) t n ∧ p ≤ n ∧ hI h 308 8 = nI p ∧ hI h 308 9 = f
theorem RT.e {h : aH} {t : Row} {n p : Nat} {f : Int32} (c : RT h t n p f) : rS h (hI h 308) p f = h := by
  have e : upd (upd (hI h 308) 8 (nI p)) 9 f = hI h 308 := by
    funext j
    by_cases j3 : j = 9
    · rw [j3, upd_at]; exact c.2.2.2.symm
    · rw [upd_ne _ _ j3]
      by_cases j2 : j = 8
      · rw [j2, upd_at]; exact c.2.2.1.symm
      · rw [upd_ne _ _ j2]
  unfold rS
  rw [e, wI_self]
theorem RT.of {h : aH} {R t : Row} {n p : Nat} {f : Int32} (b : TRB h R t n) (hp : p ≤ n) : RT (rS h R p f) t n p f := by
  refine ⟨⟨b.1, ?_, b.2.2.1, fun j hj => ?_⟩, hp, rS_8 _ _ _ _, rS_9 _ _ _ _⟩
  · rw [rS_j _ _ _ _ (by decide) (by decide)]; exact b.2.1
  · rw [rS_o _ _ _ _ (by decide)]; exact b.2.2.2 j hj
/-- what reading leaves -/
def FR (h h' : aH) : Prop := Upd (fun c => c = 308 ∨ c = 314) h h' ∧ ∀ j, j ≠ 8 → j ≠ 9 → j ≠ 10 → j ≠ 14 → hI h' 308 j = hI h 308 j
theorem FR.tr {a b c : aH} (x : FR a b) (y : FR b c) : FR a c := ⟨x.1.tr y.1, fun j h1 h2 h3 h4 => (y.2 j h1 h2 h3 h4).trans (x.2 j h1 h2 h3 h4)⟩
theorem FR.rf (h : aH) : FR h h := ⟨Upd.rf h, fun _ _ _ _ _ => rfl⟩
theorem FR.rs {h : aH} {R : Row} {p : Nat} {f : Int32} (hR : ∀ j, j ≠ 8 → j ≠ 9 → j ≠ 10 → j ≠ 14 → R j = hI h 308 j) : FR h (rS h R p f) := ⟨Upd.wI (Or.inl rfl), fun j h1 h2 h3 h4 => by rw [rS_j _ _ _ _ h1 h2]; exact hR j h1 h2 h3 h4⟩
theorem FR.c {h : aH} {i : Nat} {x : Int32} : FR h (pI h 314 i x) := ⟨Upd.pI (Or.inr rfl), fun j _ _ _ _ => by rw [hI_ne _ (by decide)]⟩
theorem RT.c {h : aH} {t : Row} {n p : Nat} {f : Int32} (c : RT h t n p f) {i : Nat} {x : Int32} : RT (pI h 314 i x) t n p f := by
  obtain ⟨⟨b1, b2, b3, b4⟩, c2, c3, c4⟩ := c
  refine ⟨⟨b1, ?_, b3, fun j hj => ?_⟩, c2, ?_, ?_⟩
  · rw [hI_ne _ (by decide)]; exact b2
  · rw [hI_ne _ (by decide)]; exact b4 j hj
  · rw [hI_ne _ (by decide)]; exact c3
  · rw [hI_ne _ (by decide)]; exact c4
theorem nR_o {t : Row} {n p : Nat} {R : Row} {j : Nat} (h : j ≠ 10) : nR t n p R j = R j := by
  unfold nR
  split
  · rfl
  · rw [upd_ne _ _ h]
theorem TRB.nr {h : aH} {R t : Row} {n p : Nat} (b : TRB h R t n) : TRB h (nR t n p R) t n := ⟨b.1, by rw [nR_o (by decide)]; exact b.2.1, b.2.2⟩
theorem numT {h : aH} {t : Row} {n p : Nat} {f : Int32} (c : RT h t n p f) (most : Int32) : ∃ h', f_X12_numberHere h 308 0 most = some (bB (gd t n p most), h') ∧ RT h' t n (nx t n p) (nf t n p most f) ∧ FR h h' ∧ (∀ b, b ≠ 308 → hI h' b = hI h b) ∧ hI h' 308 14 = hI h 308 14 ∧ (gd t n p most = true → hI h' 308 10 = nv t n p) := by
  have x := numberR c.1 c.2.1 f most
  rw [c.e] at x
  refine ⟨_, x, RT.of c.1.nr (nx_le c.2.1), FR.rs (fun j h1 h2 h3 h4 => nR_o h3), fun b hb => rS_o _ _ _ _ hb, ?_, fun g => ?_⟩
  · rw [rS_j _ _ _ _ (by decide) (by decide), nR_o (by decide)]
  · rw [rS_j _ _ _ _ (by decide) (by decide)]
    unfold nR
    rw [if_neg (of_decide_eq_true g).1, upd_at]
theorem in_314 {k : Nat} (h : k < 153) : aIn (nI k) (sh 314).2 := by rw [sh_314]; exact vp_in_nI h (by decide)
theorem cellT {h : aH} {t : Row} {n p : Nat} {f : Int32} (c : RT h t n p f) {i : Nat} (hi : i < 153) (most : Int32) : ∃ h', f_X12_cellHere h 308 (nI i) 0 most = some (bB (gd t n p most), h') ∧ RT h' t n (nx t n p) (nf t n p most f) ∧ FR h h' ∧ hI h' 308 14 = hI h 308 14 ∧ (gd t n p most = true → hI h' 314 = upd (hI h 314) i (nv t n p)) := by
  obtain ⟨h1, e1, c1, u1, o1, f1, v1⟩ := numT c most
  cases g : gd t n p most with
  | false =>
    rw [g] at e1
    refine ⟨h1, ?_, c1, u1, f1, fun y => absurd y (by decide)⟩
    simp only [f_X12_cellHere, q_308, e1, aBind_some, bB, if_true]
  | true =>
    rw [g] at e1
    refine ⟨pI h1 314 i (hI h1 308 10), ?_, c1.c, u1.tr FR.c, by rw [hI_ne _ (by decide)]; exact f1, fun _ => ?_⟩
    · simp only [f_X12_cellHere, q_308, e1, aBind_some, bB, if_neg (show ¬ (1 : Int32) = 0 by decide), r_308_7 c1.1.1, Option.bind_some, q_314, if_pos (in_314 hi), nI_clamp (show i < 2 ^ 31 by omega), aLet]
    · rw [hI_eq, o1 314 (by decide), v1 g]
theorem passT {h : aH} {t : Row} {n p : Nat} {f : Int32} (c : RT h t n p f) : ∃ h', f_X12_passWord h 308 = some ((), h') ∧ RT h' t n (lw t n p) f ∧ FR h h' ∧ (∀ b, b ≠ 308 → hI h' b = hI h b) ∧ hI h' 308 14 = hI h 308 14 := by
  have x := passWordR c.1 c.2.1 f
  rw [c.e] at x
  exact ⟨_, x, RT.of c.1 (lw_le c.2.1).2, FR.rs (fun j h1 h2 h3 h4 => rfl), fun b hb => rS_o _ _ _ _ hb, by rw [rS_j _ _ _ _ (by decide) (by decide)]⟩
theorem failT {h : aH} {t : Row} {n p : Nat} {f : Int32} (c : RT h t n p f) (k : Int32) (q : Nat) : ∃ h', f_X12_fails h 308 k (nI q) = some (0, h') ∧ RT h' t n p (blm q k f) ∧ FR h h' := by
  have x := failsR h (hI h 308) p q f k
  rw [c.e] at x
  exact ⟨_, x, RT.of c.1 c.2.1, FR.rs (fun j h1 h2 h3 h4 => rfl)⟩
theorem wordT {h : aH} {t : Row} {n s : Nat} {f : Int32} (c : RT h t n s f) (ss : sk t n s = s) {w : Nat} (hw : w < 2 ^ 56) : f_X12_isWord h 308 (lN w) = some (bB (isWB t s (lw t n s) w), h) := by
  have x := isWordR c.1 c.2.1 f hw
  rw [ss, c.e] at x
  exact x
theorem six {h : aH} {t : Row} {n s k : Nat} {f : Int32} (c : RT h t n s f) (ss : sk t n s = s) (ek : k = kCl t s (lw t n s)) : f_X12_isWord h 308 1769172069 = some (bB (decide (k = 0)), h) ∧ f_X12_isWord h 308 1700885364 = some (bB (decide (k = 1)), h) ∧ f_X12_isWord h 308 2003137396 = some (bB (decide (k = 2)), h) ∧ f_X12_isWord h 308 495622385011 = some (bB (decide (k = 3)), h) ∧ f_X12_isWord h 308 500136504441 = some (bB (decide (k = 4)), h) ∧ f_X12_isWord h 308 1818326117 = some (bB (decide (k = 5)), h) := by
  obtain ⟨w0, w1, w2, w3, w4, w5⟩ := kCl_s t s (lw t n s)
  rw [← ek] at w0 w1 w2 w3 w4 w5
  have x0 := wordT c ss (w := 1769172069) (by decide)
  have x1 := wordT c ss (w := 1700885364) (by decide)
  have x2 := wordT c ss (w := 2003137396) (by decide)
  have x3 := wordT c ss (w := 495622385011) (by decide)
  have x4 := wordT c ss (w := 500136504441) (by decide)
  have x5 := wordT c ss (w := 1818326117) (by decide)
  rw [w0] at x0
  rw [w1] at x1
  rw [w2] at x2
  rw [w3] at x3
  rw [w4] at x4
  rw [w5] at x5
  exact ⟨x0, x1, x2, x3, x4, x5⟩
theorem nf_iff {t : Row} {n p : Nat} {m : Int32} (hn : n ≤ 400) (hp : p ≤ n) : gd t n p m = true ↔ nf t n p m 0 = 0 := ⟨fun g => nf_gd g, fun z => (nf_0 hn hp z).2⟩
/-- one person -/
theorem oneT {h : aH} {t : Row} {n s : Nat} (c : RT h t n s 0) {o a : Nat} (ho : o < 2) (ha : a ≤ 4) (ea : hI h 314 (3 + o) = nI a) : ∃ b h' p', f_X12_isOneHere h 308 (nI o) (nI s) = some (bB b, h') ∧ FR h h' ∧ (if 4 ≤ hI h 314 (3 + o) then b = false ∧ RT h' t n p' (blm s 4 0) else (b = true ↔ nf t n (lw t n s) 999 0 = 0) ∧ RT h' t n p' (nf t n (lw t n s) 999 0) ∧ (b = true → p' = nx t n (lw t n s) ∧ hI h' 314 = rowE t n (lw t n s) o (hI h 314) ∧ hI h' 308 14 = hI h 308 14)) := by
  have hn := c.1.2.2.1
  have e3 : (3 : Int32) + nI o = nI (3 + o) := nI_add 3 o
  by_cases z : a = 4
  · subst z
    obtain ⟨h1, f1, c1, u1⟩ := failT c 4 s
    refine ⟨false, h1, s, ?_, u1, ?_⟩
    · simp only [f_X12_isOneHere, q_308, r_308_7 c.1.1, Option.bind_some, aLet, e3, q_314, if_pos (in_314 (show 3 + o < 153 by omega)), nI_clamp (show 3 + o < 2 ^ 31 by omega), ea, if_pos (show nI 4 = (4 : Int32) from rfl), f1, aBind_some, true_or, if_true, bB]
    · rw [ea, if_pos (by decide)]
      exact ⟨rfl, c1⟩
  · have n4 : ¬ nI a = 4 := fun y => z ((nI_eq (b := 4) (by omega) (by decide)).mp y)
    have l4 : ¬ (4 : Int32) ≤ nI a := nI_ge (b := 4) (by omega) (by decide)
    obtain ⟨h1, f1, c1, u1, o1, g1⟩ := passT c
    have ea1 : hI h1 314 (3 + o) = nI a := by rw [o1 314 (by decide)]; exact ea
    have e4 : (4 : Int32) * nI o = nI (4 * o) := pk_mul 4 o
    have e142 : (142 : Int32) + nI (4 * o) = nI (142 + 4 * o) := nI_add 142 (4 * o)
    have ei : nI (142 + 4 * o) + nI a = nI (142 + 4 * o + a) := nI_add _ _
    obtain ⟨h2, f2, c2, u2, g2, v2⟩ := cellT c1 (i := 142 + 4 * o + a) (by omega) 999
    have L := (lw_le (t := t) c.2.1).2
    cases g : gd t n (lw t n s) 999 with
    | false =>
      rw [g] at f2
      refine ⟨false, h2, nx t n (lw t n s), ?_, u1.tr u2, ?_⟩
      · simp only [f_X12_isOneHere, q_308, r_308_7 c.1.1, Option.bind_some, aLet, e3, q_314, if_pos (in_314 (show 3 + o < 153 by omega)), nI_clamp (show 3 + o < 2 ^ 31 by omega), ea, if_neg n4, f1, aBind_some, r_308_7 c1.1.1, ea1, e4, e142, ei, f2, bB, if_true]
      · rw [ea, if_neg l4]
        exact ⟨⟨fun y => absurd y (by decide), fun y => absurd ((nf_iff hn L).mpr y) (by rw [g]; decide)⟩, c2, fun y => absurd y (by decide)⟩
    | true =>
      rw [g] at f2
      have v2' := v2 g
      have q3 : hI h2 314 (3 + o) = nI a := by rw [v2', upd_ne _ _ (by omega)]; exact ea1
      refine ⟨true, pI h2 314 (3 + o) (nI (a + 1)), nx t n (lw t n s), ?_, (u1.tr u2).tr FR.c, ?_⟩
      · simp only [f_X12_isOneHere, q_308, r_308_7 c.1.1, Option.bind_some, aLet, e3, q_314, if_pos (in_314 (show 3 + o < 153 by omega)), nI_clamp (show 3 + o < 2 ^ 31 by omega), ea, if_neg n4, f1, aBind_some, r_308_7 c1.1.1, ea1, e4, e142, ei, f2, bB, if_neg (show ¬ (1 : Int32) = 0 by decide), r_308_7 c2.1.1, q3, i1]
      · rw [ea, if_neg l4]
        refine ⟨⟨fun _ => (nf_iff hn L).mp g, fun _ => rfl⟩, c2.c, fun _ => ⟨rfl, ?_, by rw [hI_ne _ (by decide), g2, g1]⟩⟩
        rw [hI_eq, v2', o1 314 (by decide)]
        unfold rowE
        rw [ea, nI_clamp (show a < 2 ^ 31 by omega), i1]
/-- two likes -/
theorem likesT {h : aH} {t : Row} {n s : Nat} (c : RT h t n s 0) {a b B : Nat} (ha : a ≤ 4) (hb : b ≤ 4) (ea : hI h 314 3 = nI a) (eb : hI h 314 4 = nI b) (hB : B ≤ 110) : ∃ r h' p', f_X12_areLikesHere h 308 (nI B) = some (bB r, h') ∧ FR h h' ∧ (r = true ↔ nf4 t n (lw t n s) (hI h 314) 0 = 0) ∧ RT h' t n p' (nf4 t n (lw t n s) (hI h 314) 0) ∧ (r = true → p' = nx t n (nx t n (nx t n (nx t n (lw t n s)))) ∧ hI h' 314 = rowL t n (lw t n s) B (hI h 314) ∧ hI h' 308 14 = hI h 308 14) := by
  have hn := c.1.2.2.1
  obtain ⟨h1, f1, c1, u1, o1, g1⟩ := passT c
  have L := c1.2.1
  obtain ⟨p, ep⟩ : ∃ p, p = lw t n s := ⟨_, rfl⟩
  rw [← ep] at c1 L ⊢
  have i3 : aIn 3 (sh 314).2 := in_314 (k := 3) (by decide)
  have i4 : aIn 4 (sh 314).2 := in_314 (k := 4) (by decide)
  have q1 : hI h1 314 = hI h 314 := o1 314 (by decide)
  obtain ⟨h2, f2, c2, u2, o2, g2, v2⟩ := numT c1 (hI h 314 3 - 1)
  have nn : ∀ {f : Int32} {m : Int32} {q : Nat}, ¬ f = 0 → nf t n q m f = f := fun h => nf_f h
  have P1 := nx_le (t := t) L
  have P2 := nx_le (t := t) P1
  have P3 := nx_le (t := t) P2
  unfold nf4
  cases a1 : gd t n p (hI h 314 3 - 1) with
  | false =>
    rw [a1] at f2
    have z := nf_ng hn L a1
    rw [nn (f := nf t n p (hI h 314 3 - 1) 0) z, nn z, nn z]
    refine ⟨false, h2, _, ?_, u1.tr u2, ⟨fun y => absurd y (by decide), fun y => absurd y z⟩, c2, fun y => absurd y (by decide)⟩
    simp only [f_X12_areLikesHere, q_308, f1, aBind_some, r_308_7 c1.1.1, Option.bind_some, q_314, if_pos i3, cl3, q1, f2, bB, if_true]
  | true =>
    rw [a1] at f2
    have z1 : nf t n p (hI h 314 3 - 1) 0 = 0 := nf_gd a1
    rw [z1] at c2 ⊢
    have q2 : hI h2 314 = hI h 314 := by rw [o2 314 (by decide)]; exact q1
    obtain ⟨h3, f3, c3, u3, o3, g3, v3⟩ := numT c2 (hI h 314 4 - 1)
    cases a2 : gd t n (nx t n p) (hI h 314 4 - 1) with
    | false =>
      rw [a2] at f3
      have z := nf_ng hn P1 a2
      rw [nn (f := nf t n (nx t n p) (hI h 314 4 - 1) 0) z, nn z]
      refine ⟨false, h3, _, ?_, (u1.tr u2).tr u3, ⟨fun y => absurd y (by decide), fun y => absurd y z⟩, c3, fun y => absurd y (by decide)⟩
      simp only [f_X12_areLikesHere, q_308, f1, aBind_some, r_308_7 c1.1.1, Option.bind_some, q_314, if_pos i3, cl3, q1, f2, bB, if_neg (show ¬ (1 : Int32) = 0 by decide), aLet, r_308_7 c2.1.1, if_pos i4, cl4, q2, f3, if_true]
    | true =>
      rw [a2] at f3
      have z2 : nf t n (nx t n p) (hI h 314 4 - 1) 0 = 0 := nf_gd a2
      rw [z2] at c3 ⊢
      obtain ⟨e, he, ee⟩ := nv_nn L a1
      obtain ⟨w, hw, ew⟩ := nv_nn P1 a2
      have m1 : nv t n p ≤ hI h 314 3 - 1 := (of_decide_eq_true a1).2.2
      have m2 : nv t n (nx t n p) ≤ hI h 314 4 - 1 := (of_decide_eq_true a2).2.2
      rw [ee, ea] at m1
      rw [ew, eb] at m2
      have l1 := lt_m1 he ha m1
      have l2 := lt_m1 hw hb m2
      have t10 : hI h2 308 10 = nI e := by rw [v2 a1]; exact ee
      have w10 : hI h3 308 10 = nI w := by rw [v3 a2]; exact ew
      have e4 : (4 : Int32) * nI e = nI (4 * e) := pk_mul 4 e
      have e5 : nI (4 * e) + nI w = nI (4 * e + w) := nI_add _ _
      have e6 : nI B + nI (4 * e + w) = nI (B + (4 * e + w)) := nI_add _ _
      have e7 : nI B + (16 : Int32) = nI (B + 16) := nI_add B 16
      have e8 : nI (B + 16) + nI (4 * e + w) = nI (B + 16 + (4 * e + w)) := nI_add _ _
      have q3 : hI h3 314 = hI h 314 := by rw [o3 314 (by decide)]; exact q2
      obtain ⟨h4, f4, c4, u4, g4, v4⟩ := cellT c3 (i := B + (4 * e + w)) (by omega) 20
      cases a3 : gd t n (nx t n (nx t n p)) 20 with
      | false =>
        rw [a3] at f4
        have z := nf_ng hn P2 a3
        rw [nn (f := nf t n (nx t n (nx t n p)) 20 0) z]
        refine ⟨false, h4, _, ?_, ((u1.tr u2).tr u3).tr u4, ⟨fun y => absurd y (by decide), fun y => absurd y z⟩, c4, fun y => absurd y (by decide)⟩
        simp only [f_X12_areLikesHere, q_308, f1, aBind_some, r_308_7 c1.1.1, Option.bind_some, q_314, if_pos i3, cl3, q1, f2, bB, if_neg (show ¬ (1 : Int32) = 0 by decide), aLet, r_308_7 c2.1.1, if_pos i4, cl4, q2, f3, t10, w10, e4, e5, e6, f4, if_true]
      | true =>
        rw [a3] at f4
        have z3 : nf t n (nx t n (nx t n p)) 20 0 = 0 := nf_gd a3
        rw [z3] at c4 ⊢
        obtain ⟨h5, f5, c5, u5, g5, v5⟩ := cellT c4 (i := B + 16 + (4 * e + w)) (by omega) 20
        have U := (((u1.tr u2).tr u3).tr u4).tr u5
        cases a4 : gd t n (nx t n (nx t n (nx t n p))) 20 with
        | false =>
          rw [a4] at f5
          have z := nf_ng hn P3 a4
          refine ⟨false, h5, _, ?_, U, ⟨fun y => absurd y (by decide), fun y => absurd y z⟩, c5, fun y => absurd y (by decide)⟩
          simp only [f_X12_areLikesHere, q_308, f1, aBind_some, r_308_7 c1.1.1, Option.bind_some, q_314, if_pos i3, cl3, q1, f2, bB, if_neg (show ¬ (1 : Int32) = 0 by decide), aLet, r_308_7 c2.1.1, if_pos i4, cl4, q2, f3, t10, w10, e4, e5, e6, f4, e7, e8, f5, if_true]
        | true =>
          rw [a4] at f5
          have z4 : nf t n (nx t n (nx t n (nx t n p))) 20 0 = 0 := nf_gd a4
          refine ⟨true, h5, _, ?_, U, ⟨fun _ => z4, fun _ => rfl⟩, c5, fun _ => ⟨rfl, ?_, by rw [g5, g4, g3, g2, g1]⟩⟩
          · simp only [f_X12_areLikesHere, q_308, f1, aBind_some, r_308_7 c1.1.1, Option.bind_some, q_314, if_pos i3, cl3, q1, f2, bB, if_neg (show ¬ (1 : Int32) = 0 by decide), aLet, r_308_7 c2.1.1, if_pos i4, cl4, q2, f3, t10, w10, e4, e5, e6, f4, e7, e8, f5]
          · rw [v5 a4, v4 a3, q3]
            unfold rowL rowK
            rw [ee, ew, nI_clamp (show e < 2 ^ 31 by omega), nI_clamp (show w < 2 ^ 31 by omega)]
