/-! ===== isle: a clause, as a function ===== -/
def dq (Q : Row) : Row := fun j => if j = 0 then 0 else beginOf Q j
def srcQ (j : Nat) : Nat := if 11 ≤ j ∧ j < 43 then (if (j - 11) % 4 = 0 then 142 + (j - 11) / 4 else 1000) else if 43 ≤ j ∧ j < 75 then 110 + (j - 43) else if 75 ≤ j ∧ j < 78 then 150 + (j - 75) else j
theorem bo_src {X Y : Row} {j : Nat} (h : X (srcQ j) = Y (srcQ j)) : beginOf X j = beginOf Y j := by
  unfold beginOf
  by_cases j10 : j = 10
  · rw [if_pos j10, if_pos j10]
  · rw [if_neg j10, if_neg j10]
    unfold srcQ at h
    by_cases a : 11 ≤ j ∧ j < 43
    · rw [if_pos a, if_pos a]
      rw [if_pos a] at h
      by_cases b : (j - 11) % 4 = 0
      · rw [if_pos b, if_pos b]
        rw [if_pos b] at h
        exact h
      · rw [if_neg b, if_neg b]
    · rw [if_neg a, if_neg a]
      rw [if_neg a] at h
      by_cases b : 43 ≤ j ∧ j < 75
      · rw [if_pos b, if_pos b]
        rw [if_pos b] at h
        exact h
      · rw [if_neg b, if_neg b]
        rw [if_neg b] at h
        by_cases d : 75 ≤ j ∧ j < 78
        · rw [if_pos d, if_pos d]
          rw [if_pos d] at h
          exact h
        · rw [if_neg d, if_neg d]
          rw [if_neg d] at h
          exact h
theorem bo_pu {X : Row} {p : Nat} (hp : p < 8) : beginOf X (11 + 4 * p) = X (142 + p) := by
  unfold beginOf
  rw [if_neg (by omega), if_pos (by omega), if_pos (by omega)]
  congr 1; omega
theorem bo_li {X : Row} {p : Nat} (hp : p < 32) : beginOf X (43 + p) = X (110 + p) := by
  unfold beginOf
  rw [if_neg (by omega), if_neg (by omega), if_pos (by omega)]
  congr 1; omega
theorem bo_lt {X : Row} {p : Nat} (hp : p < 3) : beginOf X (75 + p) = X (150 + p) := by
  unfold beginOf
  rw [if_neg (by omega), if_neg (by omega), if_neg (by omega), if_pos (by omega)]
  congr 1; omega
theorem bo_o {X : Row} {j : Nat} (hj : j < 10 ∨ 78 ≤ j) : beginOf X j = X j := by
  unfold beginOf
  rw [if_neg (by omega), if_neg (by omega), if_neg (by omega), if_neg (by omega)]
theorem src_n {j : Nat} (hj : j < 110) : srcQ j = 1000 ∨ (11 ≤ j ∧ j < 43 ∧ (j - 11) % 4 = 0 ∧ srcQ j = 142 + (j - 11) / 4) ∨ (43 ≤ j ∧ j < 75 ∧ srcQ j = 110 + (j - 43)) ∨ (75 ≤ j ∧ j < 78 ∧ srcQ j = 150 + (j - 75)) ∨ ((j < 11 ∨ 78 ≤ j) ∧ srcQ j = j) := by
  unfold srcQ
  by_cases a : 11 ≤ j ∧ j < 43
  · rw [if_pos a]
    by_cases b : (j - 11) % 4 = 0
    · rw [if_pos b]; exact Or.inr (Or.inl ⟨a.1, a.2, b, rfl⟩)
    · rw [if_neg b]; exact Or.inl rfl
  · rw [if_neg a]
    by_cases b : 43 ≤ j ∧ j < 75
    · rw [if_pos b]; exact Or.inr (Or.inr (Or.inl ⟨b.1, b.2, rfl⟩))
    · rw [if_neg b]
      by_cases d : 75 ≤ j ∧ j < 78
      · rw [if_pos d]; exact Or.inr (Or.inr (Or.inr (Or.inl ⟨d.1, d.2, rfl⟩)))
      · rw [if_neg d]; exact Or.inr (Or.inr (Or.inr (Or.inr ⟨by omega, rfl⟩)))
def rowI (t : Row) (n p : Nat) (Q : Row) : Row := fun j => if j = 0 then 1 else if j = 1 then nv t n p else if j = 2 then nv t n (nx t n p) else if 78 ≤ j ∧ j < 110 then -1 else Q j
def rowE (t : Row) (n p o : Nat) (Q : Row) : Row := upd (upd Q (142 + 4 * o + (Q (3 + o)).toNatClampNeg) (nv t n p)) (3 + o) (Q (3 + o) + 1)
def rowK (Q : Row) (B q : Nat) (x y : Int32) : Row := upd (upd Q (B + q) x) (B + 16 + q) y
def rowL (t : Row) (n p B : Nat) (Q : Row) : Row := rowK Q B (4 * (nv t n p).toNatClampNeg + (nv t n (nx t n p)).toNatClampNeg) (nv t n (nx t n (nx t n p))) (nv t n (nx t n (nx t n (nx t n p))))
def lateQ (Q : Row) (k : Nat) : Row := upd Q (150 + k / 21) (Q (150 + k / 21) ||| (1 <<< (nI (k % 21) &&& 31)))
theorem dq_I {t : Row} {n p : Nat} {Q : Row} (h : ∀ k, k < 32 → Q (78 + k) = -1) : ∀ j, j < 110 → dq (rowI t n p Q) j = upd (upd (dq Q) 1 (nv t n p)) 2 (nv t n (nx t n p)) j := by
  intro j hj
  by_cases j0 : j = 0
  · subst j0; rfl
  · by_cases j1 : j = 1
    · subst j1; rfl
    · by_cases j2 : j = 2
      · subst j2; rfl
      · rw [upd_ne _ _ j2, upd_ne _ _ j1]
        unfold dq
        rw [if_neg j0, if_neg j0]
        apply bo_src
        have s := src_n hj
        unfold rowI
        rw [if_neg (by omega), if_neg (by omega), if_neg (by omega)]
        by_cases y : 78 ≤ srcQ j ∧ srcQ j < 110
        · rw [if_pos y]
          have := h (srcQ j - 78) (by omega)
          rw [show 78 + (srcQ j - 78) = srcQ j by omega] at this
          exact this.symm
        · rw [if_neg y]
theorem dq_E {t : Row} {n p o a : Nat} {Q : Row} (ho : o < 2) (ha : a < 4) (ea : Q (3 + o) = nI a) : ∀ j, j < 110 → dq (rowE t n p o Q) j = upd (upd (dq Q) (11 + 4 * (4 * o + a)) (nv t n p)) (3 + o) (nI (a + 1)) j := by
  intro j hj
  unfold rowE
  rw [ea, nI_clamp (show a < 2 ^ 31 by omega), i1]
  by_cases j3 : j = 3 + o
  · subst j3
    unfold dq
    rw [if_neg (by omega), bo_o (by omega), upd_at, upd_at]
  · rw [upd_ne _ _ j3]
    by_cases jp : j = 11 + 4 * (4 * o + a)
    · subst jp
      unfold dq
      rw [if_neg (by omega), bo_pu (by omega), upd_at, upd_ne _ _ (by omega), show 142 + (4 * o + a) = 142 + 4 * o + a by omega, upd_at]
    · rw [upd_ne _ _ jp]
      unfold dq
      by_cases j0 : j = 0
      · rw [if_pos j0, if_pos j0]
      · rw [if_neg j0, if_neg j0]
        apply bo_src
        have s := src_n hj
        rw [upd_ne _ _ (by omega), upd_ne _ _ (by omega)]
theorem dq_K {Q : Row} {B o q : Nat} (hB : (B = 110 ∧ o = 43) ∨ (B = 78 ∧ o = 78)) (hq : q < 16) {x y : Int32} : ∀ j, j < 110 → dq (rowK Q B q x y) j = upd (upd (dq Q) (o + q) x) (o + (16 + q)) y j := by
  intro j hj
  unfold rowK
  by_cases j1 : j = o + (16 + q)
  · subst j1
    rw [upd_at]
    unfold dq
    rw [if_neg (by omega)]
    rcases hB with ⟨rfl, rfl⟩ | ⟨rfl, rfl⟩
    · rw [bo_li (by omega), show 110 + (16 + q) = 110 + 16 + q by omega, upd_at]
    · rw [bo_o (by omega), show 78 + (16 + q) = 78 + 16 + q by omega, upd_at]
  · rw [upd_ne _ _ j1]
    by_cases j2 : j = o + q
    · subst j2
      rw [upd_at]
      unfold dq
      rw [if_neg (by omega)]
      rcases hB with ⟨rfl, rfl⟩ | ⟨rfl, rfl⟩
      · rw [bo_li (by omega), upd_ne _ _ (by omega), upd_at]
      · rw [bo_o (by omega), upd_ne _ _ (by omega), upd_at]
    · rw [upd_ne _ _ j2]
      unfold dq
      by_cases j0 : j = 0
      · rw [if_pos j0, if_pos j0]
      · rw [if_neg j0, if_neg j0]
        apply bo_src
        have s := src_n hj
        rw [upd_ne _ _ (by omega), upd_ne _ _ (by omega)]
theorem dq_T {Q : Row} {k : Nat} (hk : k < 61) : ∀ j, j < 110 → dq (lateQ Q k) j = lateT (dq Q) k j := by
  intro j hj
  have e : dq Q (75 + k / 21) = Q (150 + k / 21) := by
    unfold dq
    rw [if_neg (by omega), bo_lt (by omega)]
  unfold lateQ lateT
  rw [e]
  by_cases j1 : j = 75 + k / 21
  · subst j1
    rw [upd_at]
    unfold dq
    rw [if_neg (by omega), bo_lt (by omega), upd_at]
  · rw [upd_ne _ _ j1]
    unfold dq
    by_cases j0 : j = 0
    · rw [if_pos j0, if_pos j0]
    · rw [if_neg j0, if_neg j0]
      apply bo_src
      have s := src_n hj
      rw [upd_ne _ _ (by omega)]
def VQ (Q : Row) : Prop := (∃ a, a ≤ 4 ∧ Q 3 = nI a) ∧ (∃ b, b ≤ 4 ∧ Q 4 = nI b) ∧ LateR Q 150 ∧ ∀ k, k < 32 → Btw (Q (110 + k)) 0 20 ∧ Btw (Q (78 + k)) (-1) 20
abbrev tooB (c k : Nat) (Q : Row) : Prop := 40 ≤ c ∨ (k = 0 ∧ ¬ c = 0) ∨ (¬ k = 0 ∧ c = 0) ∨ (k = 1 ∧ 4 ≤ Q 3) ∨ (k = 2 ∧ 4 ≤ Q 4)
def clF (t : Row) (n s p k c : Nat) (Q : Row) : Int32 := if k = 6 then blm s 0 0 else if tooB c k Q then blm s 4 0 else if k = 0 then nf t n (nx t n p) 20 (nf t n p 99 0) else if k = 5 then nf t n p 60 0 else if k = 3 ∨ k = 4 then nf4 t n p Q 0 else nf t n p 999 0
def clP (t : Row) (n p k : Nat) : Nat := if k = 0 then nx t n (nx t n p) else if k = 3 ∨ k = 4 then nx t n (nx t n (nx t n (nx t n p))) else nx t n p
def clQ (t : Row) (n p k : Nat) (Q : Row) : Row := if k = 0 then rowI t n p Q else if k = 1 then rowE t n p 0 Q else if k = 2 then rowE t n p 1 Q else if k = 3 then rowL t n p 110 Q else if k = 4 then rowL t n p 78 Q else lateQ Q (nv t n p).toNatClampNeg
theorem tooC {h : aH} {Q : Row} (r : RSt h 31 (dq Q)) {c k : Nat} (hc : c ≤ 40) (hk : k ≤ 5) : f_X2_isTooMany h 3 31 (nI c) (nI k) = some (bB (decide (tooB c k Q)), h) := by
  have e3 : hI h 31 3 = Q 3 := r.s3
  have e4 : hI h 31 4 = Q 4 := r.s4
  have c0 : nI c = 0 ↔ c = 0 := nI_eq (b := 0) (by omega) (by decide)
  have k0 : nI k = 0 ↔ k = 0 := nI_eq (b := 0) (by omega) (by decide)
  have k1 : nI k = 1 ↔ k = 1 := nI_eq (b := 1) (by omega) (by decide)
  have k2 : nI k = 2 ↔ k = 2 := nI_eq (b := 2) (by omega) (by decide)
  simp only [f_X2_isTooMany, b_X2_isTooMany_15, b_X2_isTooMany_24, b_X2_isTooMany_40, q_31, e3, e4, c0, k0, k1, k2]
  by_cases c4 : 40 ≤ c
  · rw [if_pos (show (40 : Int32) ≤ nI c from nI_le (a := 40) c4 (by omega)), decide_eq_true (Or.inl c4)]; rfl
  · rw [if_neg (show ¬ (40 : Int32) ≤ nI c from nI_ge (b := 40) (by omega) (by decide))]
    by_cases z : k = 0
    · rw [if_pos z]
      by_cases y : c = 0
      · rw [if_pos y, if_pos trivial, if_neg (show ¬ k = 1 by omega), if_neg (show ¬ k = 2 by omega), decide_eq_false (show ¬ tooB c k Q from fun q => by
          rcases q with q | q | q | q | q
          · exact c4 q
          · exact q.2 y
          · exact q.1 z
          · exact absurd q.1 (by omega)
          · exact absurd q.1 (by omega))]; rfl
      · rw [if_neg y, if_neg (by decide), decide_eq_true (Or.inr (Or.inl ⟨z, y⟩))]; rfl
    · rw [if_neg z]
      by_cases y : c = 0
      · rw [if_pos y, if_neg (by decide), decide_eq_true (Or.inr (Or.inr (Or.inl ⟨z, y⟩)))]; rfl
      · rw [if_neg y, if_pos trivial]
        by_cases x : k = 1
        · rw [if_pos x, if_neg (show ¬ k = 2 by omega)]
          by_cases w : 4 ≤ Q 3
          · rw [if_pos w, decide_eq_true (Or.inr (Or.inr (Or.inr (Or.inl ⟨x, w⟩))))]; rfl
          · rw [if_neg w, decide_eq_false (show ¬ tooB c k Q from fun q => by
              rcases q with q | q | q | q | q
              · exact c4 q
              · exact z q.1
              · exact y q.2
              · exact w q.2
              · exact absurd q.1 (by omega))]; rfl
        · rw [if_neg x]
          by_cases x2 : k = 2
          · rw [if_pos x2]
            by_cases w : 4 ≤ Q 4
            · rw [if_neg (Int32.not_lt.mpr w), decide_eq_true (Or.inr (Or.inr (Or.inr (Or.inr ⟨x2, w⟩))))]; rfl
            · rw [if_pos (Int32.not_le.mp w), decide_eq_false (show ¬ tooB c k Q from fun q => by
                rcases q with q | q | q | q | q
                · exact c4 q
                · exact z q.1
                · exact y q.2
                · exact x q.1
                · exact w q.2)]; rfl
          · rw [if_neg x2, decide_eq_false (show ¬ tooB c k Q from fun q => by
              rcases q with q | q | q | q | q
              · exact c4 q
              · exact z q.1
              · exact y q.2
              · exact x q.1
              · exact x2 q.1)]; rfl
