/-! the class's way through all rows -/
def chL (S : Row) (e : Nat) (rw ho : Row) (g : Row → Row → Acc → Acc) : Nat → Nat → Acc → Acc
  | 0, _, a => a
  | n + 1, w, a => chL S e rw ho g n (w + 1) (if ho w < 0 ∧ canJ S e w then g (upd rw e (nI w)) (upd ho w (nI e)) a else a)
def chS (S : Row) : Nat → Nat → Row → Row → Acc → Acc
  | 0, _, rw, ho, a => tk S rw ho a
  | k + 1, e, rw, ho, a => chL S e rw ho (fun r o b => chS S k (e + 1) r o b) (nW S) 0 (chS S k (e + 1) rw ho a)
theorem chL_id {S : Row} {e : Nat} {rw ho : Row} {g : Row → Row → Acc → Acc} (h : ¬ S (12 + 4 * e) < 0) : ∀ n w a, chL S e rw ho g n w a = a := by
  intro n
  induction n with
  | zero => intro w a; rfl
  | succ n ih => intro w a; rw [chL, if_neg (fun y => h y.2.1)]; exact ih _ _
theorem tk_le (S rw ho : Row) (a : Acc) : (tk S rw ho a).1 ≤ a.1 + 1 := by
  unfold tk
  split
  · omega
  · exact Nat.le_refl _
theorem chL_le {S : Row} {e : Nat} {rw ho : Row} {g : Row → Row → Acc → Acc} {b : Nat} (hg : ∀ r o a, (g r o a).1 ≤ a.1 + b) : ∀ n w a, (chL S e rw ho g n w a).1 ≤ a.1 + n * b := by
  intro n
  induction n with
  | zero => intro w a; rw [Nat.zero_mul]; exact Nat.le_refl _
  | succ n ih =>
    intro w a
    rw [chL]
    have i1 := ih (w + 1) (if ho w < 0 ∧ canJ S e w then g (upd rw e (nI w)) (upd ho w (nI e)) a else a)
    have i2 : (if ho w < 0 ∧ canJ S e w then g (upd rw e (nI w)) (upd ho w (nI e)) a else a).1 ≤ a.1 + b := by
      split
      · exact hg _ _ _
      · omega
    have sm : (n + 1) * b = n * b + b := Nat.succ_mul n b
    omega
theorem chS_le {S : Row} (v : VS S) : ∀ k e rw ho a, (chS S k e rw ho a).1 ≤ a.1 + 5 ^ k := by
  have v4 := v.e4.2
  intro k
  induction k with
  | zero => intro e rw ho a; rw [chS]; exact tk_le S rw ho a
  | succ k ih =>
    intro e rw ho a
    rw [chS]
    have i1 := chL_le (S := S) (e := e) (rw := rw) (ho := ho) (g := fun r o b => chS S k (e + 1) r o b) (b := 5 ^ k) (fun r o a => ih _ _ _ _) (nW S) 0 (chS S k (e + 1) rw ho a)
    have i2 := ih (e + 1) rw ho a
    have i3 : nW S * 5 ^ k ≤ 4 * 5 ^ k := Nat.mul_le_mul_right _ v4
    have p5 : 5 ^ (k + 1) = 5 ^ k * 5 := by rw [Nat.pow_succ]
    omega
abbrev zC : Nat → Prop := fun c => 53 ≤ c ∧ c ≤ 56
theorem zCn {c : Nat} (h : c < 53 ∨ 56 < c) : ¬ zC c := by unfold zC; omega
theorem upd_back {f : Row} {k : Nat} {x y : Int32} (h : f k = y) : upd (upd f k x) k y = f := by rw [upd_upd, upd_same h]
