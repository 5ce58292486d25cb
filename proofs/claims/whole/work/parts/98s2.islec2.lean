/-! ===== isle: likes, and a clause of the class ===== -/
theorem nf_0 {t : Row} {n p : Nat} {m f : Int32} (hn : n ≤ 400) (hp : p ≤ n) (h : nf t n p m f = 0) : f = 0 ∧ gd t n p m = true := by
  by_cases f0 : f = 0
  · refine ⟨f0, ?_⟩
    cases q : gd t n p m with
    | true => rfl
    | false => rw [f0] at h; exact absurd h (nf_ng hn hp q)
  · rw [nf_f f0] at h; exact absurd h f0
theorem lt_m1 {e a : Nat} (he : e < 100000) (ha : a ≤ 4) (h : nI e ≤ nI a - 1) : e < a := by
  cases a with
  | zero =>
    exfalso
    have h1 : 0 ≤ nI e := nI_pos' (by omega)
    have h2 : (0 : Int32) ≤ nI 0 - 1 := Int32.le_trans h1 h
    exact absurd h2 (by decide)
  | succ a =>
    have e1 : nI (a + 1) - 1 = nI a := by
      have : (1 : Int32) = nI 1 := rfl
      rw [this, pk_sub (by omega)]
      rfl
    rw [e1] at h
    have := (nI_leI (by omega) (by omega)).mp h
    omega
theorem le_20 {x : Int32} {k : Nat} (hk : k < 100000) (e : x = nI k) (h : x ≤ 20) : Btw x 0 20 := ⟨by rw [e]; exact nI_pos' (by omega), h⟩
def nf4 (t : Row) (n p : Nat) (Q : Row) (f : Int32) : Int32 := nf t n (nx t n (nx t n (nx t n p))) 20 (nf t n (nx t n (nx t n p)) 20 (nf t n (nx t n p) (Q 4 - 1) (nf t n p (Q 3 - 1) f)))
/-- what four good numbers are -/
theorem four_g {t : Row} {n p : Nat} {S : Row} (hn : n ≤ 400) (hp : p ≤ n) {a b : Nat} (ha : a ≤ 4) (hb : b ≤ 4) (ea : S 3 = nI a) (eb : S 4 = nI b) {f : Int32} (z : nf4 t n p S f = 0) : f = 0 ∧ (gd t n p (S 3 - 1) = true ∧ gd t n (nx t n p) (S 4 - 1) = true ∧ gd t n (nx t n (nx t n p)) 20 = true ∧ gd t n (nx t n (nx t n (nx t n p))) 20 = true) ∧ ∃ e w, e < 4 ∧ w < 4 ∧ nv t n p = nI e ∧ nv t n (nx t n p) = nI w ∧ Btw (nv t n (nx t n (nx t n p))) 0 20 ∧ Btw (nv t n (nx t n (nx t n (nx t n p)))) 0 20 := by
  have p1 := nx_le (t := t) hp
  have p2 := nx_le (t := t) p1
  have p3 := nx_le (t := t) p2
  unfold nf4 at z
  obtain ⟨z3, g4⟩ := nf_0 hn p3 z
  obtain ⟨z2, g3⟩ := nf_0 hn p2 z3
  obtain ⟨z1, g2⟩ := nf_0 hn p1 z2
  obtain ⟨z0, g1⟩ := nf_0 hn hp z1
  obtain ⟨e, he, ee⟩ := nv_nn hp g1
  obtain ⟨w, hw, ew⟩ := nv_nn p1 g2
  obtain ⟨x, hx, ex⟩ := nv_nn p2 g3
  obtain ⟨y, hy, ey⟩ := nv_nn p3 g4
  have m1 : nv t n p ≤ S 3 - 1 := (of_decide_eq_true g1).2.2
  have m2 : nv t n (nx t n p) ≤ S 4 - 1 := (of_decide_eq_true g2).2.2
  have m3 : nv t n (nx t n (nx t n p)) ≤ 20 := (of_decide_eq_true g3).2.2
  have m4 : nv t n (nx t n (nx t n (nx t n p))) ≤ 20 := (of_decide_eq_true g4).2.2
  rw [ee, ea] at m1
  rw [ew, eb] at m2
  have l1 := lt_m1 he ha m1
  have l2 := lt_m1 hw hb m2
  exact ⟨z0, ⟨g1, g2, g3, g4⟩, e, w, by omega, by omega, ee, ew, le_20 hx ex m3, le_20 hy ey m4⟩
theorem ix_0 (e w : Nat) : ((0 : Int32) * 16 + nI e * 4) + nI w = nI (4 * e + w) := by
  have y := ix32 (s := 0) (e := e) (w := w)
  rw [show 16 * 0 + 4 * e + w = 4 * e + w by omega] at y
  exact y
theorem ix_1 (e w : Nat) : ((1 : Int32) * 16 + nI e * 4) + nI w = nI (16 + 4 * e + w) := by
  have y := ix32 (s := 1) (e := e) (w := w)
  rw [show 16 * 1 + 4 * e + w = 16 + 4 * e + w by omega] at y
  exact y
theorem readLk {h : aH} {t : Row} {n p : Nat} {f : Int32} (c : CT h t n p f) {S : Row} (r : RSt h 31 S) {a b : Nat} (ha : a ≤ 4) (hb : b ≤ 4) (ea : S 3 = nI a) (eb : S 4 = nI b) {B o : Nat} (hB : (B = 36 ∧ o = 43) ∨ (B = 37 ∧ o = 78)) : ∃ h', f_X2_readLikes h 3 31 B = some ((), h') ∧ CT h' t n (nx t n (nx t n (nx t n (nx t n p)))) (nf4 t n p S f) ∧ Upd iA h h' ∧ (nf4 t n p S f = 0 → ∃ e w, e < 4 ∧ w < 4 ∧ nv t n p = nI e ∧ nv t n (nx t n p) = nI w ∧ RSt h' 31 (upd (upd S (o + (4 * e + w)) (nv t n (nx t n (nx t n p)))) (o + (16 + 4 * e + w)) (nv t n (nx t n (nx t n (nx t n p)))))) := by
  obtain ⟨h1, e1, c1, u1⟩ := numC c (S 3 - 1)
  have r1 := r.u1 u1
  obtain ⟨h2, e2, c2, u2⟩ := numC c1 (S 4 - 1)
  have r2 := r1.u1 u2
  obtain ⟨h3, e3, c3, u3⟩ := numC c2 20
  have r3 := r2.u1 u3
  obtain ⟨h4, e4, c4, u4⟩ := numC c3 20
  have r4 := r3.u1 u4
  have U : Upd iA h h4 := (((u1A u1).tr (u1A u2)).tr (u1A u3)).tr (u1A u4)
  have f4 : hI h4 1 3 = nf4 t n p S f := c4.2.2.2
  have hn := c.1.2.2.1
  by_cases z : nf4 t n p S f = 0
  · obtain ⟨z0, ⟨g1, g2, g3, g4⟩, e, w, he, hw, ee, ew, b3, b4⟩ := four_g hn c.2.1 ha hb ea eb z
    have v1 : nf t n p (S 3 - 1) f = 0 := by rw [nf_gd g1]; exact z0
    have v2 : nf t n (nx t n p) (S 4 - 1) (nf t n p (S 3 - 1) f) = 0 := by rw [nf_gd g2]; exact v1
    have v3 : nf t n (nx t n (nx t n p)) 20 (nf t n (nx t n p) (S 4 - 1) (nf t n p (S 3 - 1) f)) = 0 := by rw [nf_gd g3]; exact v2
    have v4 : nf t n (nx t n (nx t n (nx t n p))) 20 (nf t n (nx t n (nx t n p)) 20 (nf t n (nx t n p) (S 4 - 1) (nf t n p (S 3 - 1) f))) = 0 := by rw [nf_gd g4]; exact v3
    rw [if_pos v1] at e1
    rw [if_pos v2] at e2
    rw [if_pos v3] at e3
    rw [if_pos v4] at e4
    have x0 := ix_0 e w
    have x1 := ix_1 e w
    have f0 : hI h4 1 3 = 0 := f4.trans z
    rcases hB with ⟨rfl, rfl⟩ | ⟨rfl, rfl⟩
    · have s5 := r4.wLi (p := 4 * e + w) (by omega) (x := nv t n (nx t n (nx t n p))) rfl
      have s6 := s5.wLi (p := 16 + 4 * e + w) (by omega) (x := nv t n (nx t n (nx t n (nx t n p)))) rfl
      have ua : Upd (stA 31) h4 (pI h4 (31 + 5) (4 * e + w) (nv t n (nx t n (nx t n p)))) := Upd.pI (by unfold stA; omega)
      have ub : Upd (stA 31) (pI h4 (31 + 5) (4 * e + w) (nv t n (nx t n (nx t n p)))) (pI (pI h4 (31 + 5) (4 * e + w) (nv t n (nx t n (nx t n p)))) (31 + 5) (16 + 4 * e + w) (nv t n (nx t n (nx t n (nx t n p))))) := Upd.pI (by unfold stA; omega)
      refine ⟨_, ?_, c4.mv (ua.tr ub) (by unfold stA; omega) (by unfold stA; omega), U.tr ((ua.tr ub).mono (fun _ y => Or.inr y)), fun _ => ⟨e, w, he, hw, ee, ew, s6⟩⟩
      have q36 : ∀ {α : Type} {x y : α}, (if (sh 36).1 = 0 then x else y) = x := if_pos (by decide)
      have i36 : ∀ {k : Nat}, k < 32 → aIn (nI k) (sh 36).2 := fun h => by rw [show sh 36 = (0, 32) by decide]; exact vp_in_nI h (by decide)
      simp only [f_X2_readLikes, q_3, r_3_0 c.1.1, Option.bind_some, q_31, q_1, r.s3, e1, aBind_some, r_3_0 c1.1.1, r1.s4, e2, r_3_0 c2.1.1, e3, r_3_0 c3.1.1, e4, r_3_0 c4.1.1, f0, if_true, f_X8_cell, ee, ew, x0, x1, q36, if_pos (i36 (show 4 * e + w < 32 by omega)), if_pos (i36 (show 16 + 4 * e + w < 32 by omega)), nI_clamp (show 4 * e + w < 2 ^ 31 by omega), nI_clamp (show 16 + 4 * e + w < 2 ^ 31 by omega), aLet]
    · have s5 := r4.wTr (p := 4 * e + w) (by omega) (x := nv t n (nx t n (nx t n p))) rfl
      have s6 := s5.wTr (p := 16 + 4 * e + w) (by omega) (x := nv t n (nx t n (nx t n (nx t n p)))) rfl
      have ua : Upd (stA 31) h4 (pI h4 (31 + 6) (4 * e + w) (nv t n (nx t n (nx t n p)))) := Upd.pI (by unfold stA; omega)
      have ub : Upd (stA 31) (pI h4 (31 + 6) (4 * e + w) (nv t n (nx t n (nx t n p)))) (pI (pI h4 (31 + 6) (4 * e + w) (nv t n (nx t n (nx t n p)))) (31 + 6) (16 + 4 * e + w) (nv t n (nx t n (nx t n (nx t n p))))) := Upd.pI (by unfold stA; omega)
      refine ⟨_, ?_, c4.mv (ua.tr ub) (by unfold stA; omega) (by unfold stA; omega), U.tr ((ua.tr ub).mono (fun _ y => Or.inr y)), fun _ => ⟨e, w, he, hw, ee, ew, s6⟩⟩
      have q36 : ∀ {α : Type} {x y : α}, (if (sh 37).1 = 0 then x else y) = x := if_pos (by decide)
      have i36 : ∀ {k : Nat}, k < 32 → aIn (nI k) (sh 37).2 := fun h => by rw [show sh 37 = (0, 32) by decide]; exact vp_in_nI h (by decide)
      simp only [f_X2_readLikes, q_3, r_3_0 c.1.1, Option.bind_some, q_31, q_1, r.s3, e1, aBind_some, r_3_0 c1.1.1, r1.s4, e2, r_3_0 c2.1.1, e3, r_3_0 c3.1.1, e4, r_3_0 c4.1.1, f0, if_true, f_X8_cell, ee, ew, x0, x1, q36, if_pos (i36 (show 4 * e + w < 32 by omega)), if_pos (i36 (show 16 + 4 * e + w < 32 by omega)), nI_clamp (show 4 * e + w < 2 ^ 31 by omega), nI_clamp (show 16 + 4 * e + w < 2 ^ 31 by omega), aLet]
  · refine ⟨h4, ?_, c4, U, fun y => absurd y z⟩
    have f0 : ¬ hI h4 1 3 = 0 := fun y => z (f4.symm.trans y)
    simp only [f_X2_readLikes, q_3, r_3_0 c.1.1, Option.bind_some, q_31, q_1, r.s3, e1, aBind_some, r_3_0 c1.1.1, r1.s4, e2, r_3_0 c2.1.1, e3, r_3_0 c3.1.1, e4, r_3_0 c4.1.1, if_neg f0]
theorem readN34 {h : aH} (hS : Str h) : f_X2_readNumbers h 3 31 3 = aBind (f_X2_readLikes h 3 31 36) (fun _ h58 => some ((), h58)) ∧ f_X2_readNumbers h 3 31 4 = aBind (f_X2_readLikes h 3 31 37) (fun _ h58 => some ((), h58)) := by
  obtain ⟨_, _, _, _, q5, q6⟩ := hS.st m31
  have q5' : hR h 31 11 = some 36 := q5
  have q6' : hR h 31 12 = some 37 := q6
  constructor
  · simp only [f_X2_readNumbers, if_neg (show ¬ (3 : Int32) = 0 by decide), if_neg (show ¬ (3 : Int32) = 1 by decide), if_neg (show ¬ (3 : Int32) = 2 by decide), if_true, q_31, q5', Option.bind_some, q_3]
  · simp only [f_X2_readNumbers, if_neg (show ¬ (4 : Int32) = 0 by decide), if_neg (show ¬ (4 : Int32) = 1 by decide), if_neg (show ¬ (4 : Int32) = 2 by decide), if_neg (show ¬ (4 : Int32) = 3 by decide), if_true, q_31, q6', Option.bind_some, q_3]
