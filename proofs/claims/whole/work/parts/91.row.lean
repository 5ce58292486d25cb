/-! ===== rows, their changes; loops ===== -/
theorem itLoop {σ β : Type} (g : Nat → σ → Option β) (P : Nat → σ → Prop) (Q : Option β → Prop) (N : Nat) (step : ∀ n i s, i < N → P i s → Q (g (n + 1) s) ∨ ∃ s', P (i + 1) s' ∧ g (n + 1) s = g n s') (fin : ∀ n s, P N s → Q (g (n + 1) s)) : ∀ n i s, P i s → i ≤ N → N < i + n → Q (g n s) := by
  intro n
  induction n with
  | zero => intro i s _ h1 h2; omega
  | succ n ih =>
    intro i s hp h1 h2
    rcases Nat.lt_or_ge i N with z | z
    · rcases step n i s z hp with q | ⟨s', hp', e⟩
      · exact q
      · rw [e]; exact ih (i + 1) s' hp' (by omega) (by omega)
    · have : i = N := by omega
      subst this
      exact fin n s hp
abbrev Row := Nat → Int32
theorem upd_same {f : Row} {k : Nat} {x : Int32} (h : f k = x) : upd f k x = f := by
  funext j
  by_cases q : j = k
  · rw [q, pk_us, h]
  · rw [pk_un q]
theorem upd_comm {f : Row} {i j : Nat} {x y : Int32} (h : i ≠ j) : upd (upd f i x) j y = upd (upd f j y) i x := by
  funext k
  unfold upd
  split
  · split
    · exact absurd (by omega) h
    · rfl
  · rfl
theorem upd_upd {f : Row} {i : Nat} {x y : Int32} : upd (upd f i x) i y = upd f i y := by
  funext k
  unfold upd
  split <;> rfl
/-- the cells of a State -/
abbrev stA (a : Nat) : Nat → Prop := fun b => a ≤ b ∧ b ≤ a + 6
theorem RSt.eqv {h : aH} {a : Nat} {S S' : Row} (r : RSt h a S) (eS : ∀ j, j < 110 → (j = 29 ∨ j = 33 ∨ j = 37 ∨ j = 41 → False) → S' j = S j) : RSt h a S' := by
  obtain ⟨⟨a0, a1, a2, a3, a4, a5, a6⟩, b, c, d⟩ := r
  refine ⟨⟨?_, ?_, ?_, ?_, ?_, ?_, ?_⟩, fun p hp => ?_, fun q hq => ?_, fun k hk => ?_⟩
  · rw [eS _ (by omega) (by omega)]; exact a0
  · rw [eS _ (by omega) (by omega)]; exact a1
  · rw [eS _ (by omega) (by omega)]; exact a2
  · rw [eS _ (by omega) (by omega)]; exact a3
  · rw [eS _ (by omega) (by omega)]; exact a4
  · rw [eS _ (by omega) (by omega)]; exact a5
  · rw [lateOf, eS _ (by omega) (by omega), eS _ (by omega) (by omega), eS _ (by omega) (by omega)]; exact a6
  · rw [eS _ (by omega) (by omega), eS _ (by omega) (by omega), eS _ (by omega) (by omega)]; exact b p hp
  · rw [eS _ (by omega) (by omega)]; exact c q hq
  · rw [eS _ (by omega) (by omega), eS _ (by omega) (by omega)]; exact d k hk
theorem RSt.s0 {h : aH} {a : Nat} {S : Row} (r : RSt h a S) : hI h a 0 = S 0 := r.1.1
theorem RSt.s1 {h : aH} {a : Nat} {S : Row} (r : RSt h a S) : hI h a 1 = S 1 := r.1.2.1
theorem RSt.s2 {h : aH} {a : Nat} {S : Row} (r : RSt h a S) : hI h a 2 = S 2 := r.1.2.2.1
theorem RSt.s3 {h : aH} {a : Nat} {S : Row} (r : RSt h a S) : hI h a 3 = S 3 := r.1.2.2.2.1
theorem RSt.s4 {h : aH} {a : Nat} {S : Row} (r : RSt h a S) : hI h a 4 = S 4 := r.1.2.2.2.2.1
theorem RSt.s5 {h : aH} {a : Nat} {S : Row} (r : RSt h a S) : hI h a 5 = S 10 := r.1.2.2.2.2.2.1
theorem RSt.s6 {h : aH} {a : Nat} {S : Row} (r : RSt h a S) : hL h a 6 = lateOf S := r.1.2.2.2.2.2.2
theorem RSt.pu {h : aH} {a : Nat} {S : Row} (r : RSt h a S) {p : Nat} (hp : p < 8) : hI h (a + 1) p = S (11 + 4 * p) := (r.2.1 p hp).1
theorem RSt.pa {h : aH} {a : Nat} {S : Row} (r : RSt h a S) {p : Nat} (hp : p < 8) : hI h (a + 2) p = S (12 + 4 * p) := (r.2.1 p hp).2.1
theorem RSt.jo {h : aH} {a : Nat} {S : Row} (r : RSt h a S) {p : Nat} (hp : p < 8) : hI h (a + 3) p = S (14 + 4 * p) := (r.2.1 p hp).2.2
theorem RSt.ye {h : aH} {a : Nat} {S : Row} (r : RSt h a S) {p : Nat} (hp : p < 4) : hI h (a + 4) p = S (13 + 4 * p) := r.2.2.1 p hp
theorem RSt.li {h : aH} {a : Nat} {S : Row} (r : RSt h a S) {k : Nat} (hk : k < 32) : hI h (a + 5) k = S (43 + k) := (r.2.2.2 k hk).1
theorem RSt.tr {h : aH} {a : Nat} {S : Row} (r : RSt h a S) {k : Nat} (hk : k < 32) : hI h (a + 6) k = S (78 + k) := (r.2.2.2 k hk).2
theorem RSt.wPu {h : aH} {a : Nat} {S : Row} (r : RSt h a S) {p : Nat} (hp : p < 8) {x y : Int32} (hx : x = y) : RSt (pI h (a + 1) p x) a (upd S (11 + 4 * p) y) := by
  subst hx
  have n : ∀ b, b ≠ a + 1 → hI (pI h (a + 1) p x) b = hI h b := fun b hb => hI_ne h hb
  have m : hI (pI h (a + 1) p x) (a + 1) = upd (hI h (a + 1)) p x := hI_eq h
  have u : ∀ j, j ≠ 11 + 4 * p → upd S (11 + 4 * p) x j = S j := fun j hj => pk_un hj
  refine ⟨⟨?_, ?_, ?_, ?_, ?_, ?_, ?_⟩, fun q hq => ⟨?_, ?_, ?_⟩, fun q hq => ?_, fun q hq => ⟨?_, ?_⟩⟩
  · rw [n _ (by omega), u _ (by omega)]; exact r.s0
  · rw [n _ (by omega), u _ (by omega)]; exact r.s1
  · rw [n _ (by omega), u _ (by omega)]; exact r.s2
  · rw [n _ (by omega), u _ (by omega)]; exact r.s3
  · rw [n _ (by omega), u _ (by omega)]; exact r.s4
  · rw [n _ (by omega), u _ (by omega)]; exact r.s5
  · rw [hL_pI, lateOf, u _ (by omega), u _ (by omega), u _ (by omega)]; exact r.s6
  · rw [m]
    by_cases e : q = p
    · rw [e, pk_us, pk_us]
    · rw [pk_un e, u _ (by omega)]; exact r.pu hq
  · rw [n _ (by omega), u _ (by omega)]; exact r.pa hq
  · rw [n _ (by omega), u _ (by omega)]; exact r.jo hq
  · rw [n _ (by omega), u _ (by omega)]; exact r.ye hq
  · rw [n _ (by omega), u _ (by omega)]; exact r.li hq
  · rw [n _ (by omega), u _ (by omega)]; exact r.tr hq
theorem RSt.wPa {h : aH} {a : Nat} {S : Row} (r : RSt h a S) {p : Nat} (hp : p < 8) {x y : Int32} (hx : x = y) : RSt (pI h (a + 2) p x) a (upd S (12 + 4 * p) y) := by
  subst hx
  have n : ∀ b, b ≠ a + 2 → hI (pI h (a + 2) p x) b = hI h b := fun b hb => hI_ne h hb
  have m : hI (pI h (a + 2) p x) (a + 2) = upd (hI h (a + 2)) p x := hI_eq h
  have u : ∀ j, j ≠ 12 + 4 * p → upd S (12 + 4 * p) x j = S j := fun j hj => pk_un hj
  refine ⟨⟨?_, ?_, ?_, ?_, ?_, ?_, ?_⟩, fun q hq => ⟨?_, ?_, ?_⟩, fun q hq => ?_, fun q hq => ⟨?_, ?_⟩⟩
  · rw [n _ (by omega), u _ (by omega)]; exact r.s0
  · rw [n _ (by omega), u _ (by omega)]; exact r.s1
  · rw [n _ (by omega), u _ (by omega)]; exact r.s2
  · rw [n _ (by omega), u _ (by omega)]; exact r.s3
  · rw [n _ (by omega), u _ (by omega)]; exact r.s4
  · rw [n _ (by omega), u _ (by omega)]; exact r.s5
  · rw [hL_pI, lateOf, u _ (by omega), u _ (by omega), u _ (by omega)]; exact r.s6
  · rw [n _ (by omega), u _ (by omega)]; exact r.pu hq
  · rw [m]
    by_cases e : q = p
    · rw [e, pk_us, pk_us]
    · rw [pk_un e, u _ (by omega)]; exact r.pa hq
  · rw [n _ (by omega), u _ (by omega)]; exact r.jo hq
  · rw [n _ (by omega), u _ (by omega)]; exact r.ye hq
  · rw [n _ (by omega), u _ (by omega)]; exact r.li hq
  · rw [n _ (by omega), u _ (by omega)]; exact r.tr hq
theorem RSt.wJo {h : aH} {a : Nat} {S : Row} (r : RSt h a S) {p : Nat} (hp : p < 8) {x y : Int32} (hx : x = y) : RSt (pI h (a + 3) p x) a (upd S (14 + 4 * p) y) := by
  subst hx
  have n : ∀ b, b ≠ a + 3 → hI (pI h (a + 3) p x) b = hI h b := fun b hb => hI_ne h hb
  have m : hI (pI h (a + 3) p x) (a + 3) = upd (hI h (a + 3)) p x := hI_eq h
  have u : ∀ j, j ≠ 14 + 4 * p → upd S (14 + 4 * p) x j = S j := fun j hj => pk_un hj
  refine ⟨⟨?_, ?_, ?_, ?_, ?_, ?_, ?_⟩, fun q hq => ⟨?_, ?_, ?_⟩, fun q hq => ?_, fun q hq => ⟨?_, ?_⟩⟩
  · rw [n _ (by omega), u _ (by omega)]; exact r.s0
  · rw [n _ (by omega), u _ (by omega)]; exact r.s1
  · rw [n _ (by omega), u _ (by omega)]; exact r.s2
  · rw [n _ (by omega), u _ (by omega)]; exact r.s3
  · rw [n _ (by omega), u _ (by omega)]; exact r.s4
  · rw [n _ (by omega), u _ (by omega)]; exact r.s5
  · rw [hL_pI, lateOf, u _ (by omega), u _ (by omega), u _ (by omega)]; exact r.s6
  · rw [n _ (by omega), u _ (by omega)]; exact r.pu hq
  · rw [n _ (by omega), u _ (by omega)]; exact r.pa hq
  · rw [m]
    by_cases e : q = p
    · rw [e, pk_us, pk_us]
    · rw [pk_un e, u _ (by omega)]; exact r.jo hq
  · rw [n _ (by omega), u _ (by omega)]; exact r.ye hq
  · rw [n _ (by omega), u _ (by omega)]; exact r.li hq
  · rw [n _ (by omega), u _ (by omega)]; exact r.tr hq
theorem RSt.wYe {h : aH} {a : Nat} {S : Row} (r : RSt h a S) {p : Nat} (hp : p < 4) {x y : Int32} (hx : x = y) : RSt (pI h (a + 4) p x) a (upd S (13 + 4 * p) y) := by
  subst hx
  have n : ∀ b, b ≠ a + 4 → hI (pI h (a + 4) p x) b = hI h b := fun b hb => hI_ne h hb
  have m : hI (pI h (a + 4) p x) (a + 4) = upd (hI h (a + 4)) p x := hI_eq h
  have u : ∀ j, j ≠ 13 + 4 * p → upd S (13 + 4 * p) x j = S j := fun j hj => pk_un hj
  refine ⟨⟨?_, ?_, ?_, ?_, ?_, ?_, ?_⟩, fun q hq => ⟨?_, ?_, ?_⟩, fun q hq => ?_, fun q hq => ⟨?_, ?_⟩⟩
  · rw [n _ (by omega), u _ (by omega)]; exact r.s0
  · rw [n _ (by omega), u _ (by omega)]; exact r.s1
  · rw [n _ (by omega), u _ (by omega)]; exact r.s2
  · rw [n _ (by omega), u _ (by omega)]; exact r.s3
  · rw [n _ (by omega), u _ (by omega)]; exact r.s4
  · rw [n _ (by omega), u _ (by omega)]; exact r.s5
  · rw [hL_pI, lateOf, u _ (by omega), u _ (by omega), u _ (by omega)]; exact r.s6
  · rw [n _ (by omega), u _ (by omega)]; exact r.pu hq
  · rw [n _ (by omega), u _ (by omega)]; exact r.pa hq
  · rw [n _ (by omega), u _ (by omega)]; exact r.jo hq
  · rw [m]
    by_cases e : q = p
    · rw [e, pk_us, pk_us]
    · rw [pk_un e, u _ (by omega)]; exact r.ye hq
  · rw [n _ (by omega), u _ (by omega)]; exact r.li hq
  · rw [n _ (by omega), u _ (by omega)]; exact r.tr hq
theorem RSt.wLi {h : aH} {a : Nat} {S : Row} (r : RSt h a S) {p : Nat} (hp : p < 32) {x y : Int32} (hx : x = y) : RSt (pI h (a + 5) p x) a (upd S (43 + p) y) := by
  subst hx
  have n : ∀ b, b ≠ a + 5 → hI (pI h (a + 5) p x) b = hI h b := fun b hb => hI_ne h hb
  have m : hI (pI h (a + 5) p x) (a + 5) = upd (hI h (a + 5)) p x := hI_eq h
  have u : ∀ j, j ≠ 43 + p → upd S (43 + p) x j = S j := fun j hj => pk_un hj
  refine ⟨⟨?_, ?_, ?_, ?_, ?_, ?_, ?_⟩, fun q hq => ⟨?_, ?_, ?_⟩, fun q hq => ?_, fun q hq => ⟨?_, ?_⟩⟩
  · rw [n _ (by omega), u _ (by omega)]; exact r.s0
  · rw [n _ (by omega), u _ (by omega)]; exact r.s1
  · rw [n _ (by omega), u _ (by omega)]; exact r.s2
  · rw [n _ (by omega), u _ (by omega)]; exact r.s3
  · rw [n _ (by omega), u _ (by omega)]; exact r.s4
  · rw [n _ (by omega), u _ (by omega)]; exact r.s5
  · rw [hL_pI, lateOf, u _ (by omega), u _ (by omega), u _ (by omega)]; exact r.s6
  · rw [n _ (by omega), u _ (by omega)]; exact r.pu hq
  · rw [n _ (by omega), u _ (by omega)]; exact r.pa hq
  · rw [n _ (by omega), u _ (by omega)]; exact r.jo hq
  · rw [n _ (by omega), u _ (by omega)]; exact r.ye hq
  · rw [m]
    by_cases e : q = p
    · rw [e, pk_us, pk_us]
    · rw [pk_un e, u _ (by omega)]; exact r.li hq
  · rw [n _ (by omega), u _ (by omega)]; exact r.tr hq
theorem RSt.wY {h : aH} {a : Nat} {S : Row} (r : RSt h a S) {x y : Int32} (hx : x = y) : RSt (pI h a 5 x) a (upd S 10 y) := by
  subst hx
  have n : ∀ b, b ≠ a → hI (pI h a 5 x) b = hI h b := fun b hb => hI_ne h hb
  have m : hI (pI h a 5 x) a = upd (hI h a) 5 x := hI_eq h
  have u : ∀ j, j ≠ 10 → upd S 10 x j = S j := fun j hj => pk_un hj
  refine ⟨⟨?_, ?_, ?_, ?_, ?_, ?_, ?_⟩, fun q hq => ⟨?_, ?_, ?_⟩, fun q hq => ?_, fun q hq => ⟨?_, ?_⟩⟩
  · rw [m, pk_un (by omega), u _ (by omega)]; exact r.s0
  · rw [m, pk_un (by omega), u _ (by omega)]; exact r.s1
  · rw [m, pk_un (by omega), u _ (by omega)]; exact r.s2
  · rw [m, pk_un (by omega), u _ (by omega)]; exact r.s3
  · rw [m, pk_un (by omega), u _ (by omega)]; exact r.s4
  · rw [m, pk_us, pk_us]
  · rw [hL_pI, lateOf, u _ (by omega), u _ (by omega), u _ (by omega)]; exact r.s6
  · rw [n _ (by omega), u _ (by omega)]; exact r.pu hq
  · rw [n _ (by omega), u _ (by omega)]; exact r.pa hq
  · rw [n _ (by omega), u _ (by omega)]; exact r.jo hq
  · rw [n _ (by omega), u _ (by omega)]; exact r.ye hq
  · rw [n _ (by omega), u _ (by omega)]; exact r.li hq
  · rw [n _ (by omega), u _ (by omega)]; exact r.tr hq
theorem RSt.wG {h : aH} {a : Nat} {S : Row} (r : RSt h a S) {x y : Int32} (hx : x = y) : RSt (pI h a 1 x) a (upd S 1 y) := by
  subst hx
  have n : ∀ b, b ≠ a → hI (pI h a 1 x) b = hI h b := fun b hb => hI_ne h hb
  have m : hI (pI h a 1 x) a = upd (hI h a) 1 x := hI_eq h
  have u : ∀ j, j ≠ 1 → upd S 1 x j = S j := fun j hj => pk_un hj
  refine ⟨⟨?_, ?_, ?_, ?_, ?_, ?_, ?_⟩, fun q hq => ⟨?_, ?_, ?_⟩, fun q hq => ?_, fun q hq => ⟨?_, ?_⟩⟩
  · rw [m, pk_un (by omega), u _ (by omega)]; exact r.s0
  · rw [m, pk_us, pk_us]
  · rw [m, pk_un (by omega), u _ (by omega)]; exact r.s2
  · rw [m, pk_un (by omega), u _ (by omega)]; exact r.s3
  · rw [m, pk_un (by omega), u _ (by omega)]; exact r.s4
  · rw [m, pk_un (by omega), u _ (by omega)]; exact r.s5
  · rw [hL_pI, lateOf, u _ (by omega), u _ (by omega), u _ (by omega)]; exact r.s6
  · rw [n _ (by omega), u _ (by omega)]; exact r.pu hq
  · rw [n _ (by omega), u _ (by omega)]; exact r.pa hq
  · rw [n _ (by omega), u _ (by omega)]; exact r.jo hq
  · rw [n _ (by omega), u _ (by omega)]; exact r.ye hq
  · rw [n _ (by omega), u _ (by omega)]; exact r.li hq
  · rw [n _ (by omega), u _ (by omega)]; exact r.tr hq
theorem RSt.wLt {h : aH} {a : Nat} {S S' : Row} (r : RSt h a S) {x : Int64} (hS : ∀ j, j ≠ 75 → j ≠ 76 → j ≠ 77 → S' j = S j) (hx : x = lateOf S') : RSt (pL h a 6 x) a S' := by
  refine ⟨⟨?_, ?_, ?_, ?_, ?_, ?_, ?_⟩, fun q hq => ⟨?_, ?_, ?_⟩, fun q hq => ?_, fun q hq => ⟨?_, ?_⟩⟩
  · rw [hI_pL, hS _ (by omega) (by omega) (by omega)]; exact r.s0
  · rw [hI_pL, hS _ (by omega) (by omega) (by omega)]; exact r.s1
  · rw [hI_pL, hS _ (by omega) (by omega) (by omega)]; exact r.s2
  · rw [hI_pL, hS _ (by omega) (by omega) (by omega)]; exact r.s3
  · rw [hI_pL, hS _ (by omega) (by omega) (by omega)]; exact r.s4
  · rw [hI_pL, hS _ (by omega) (by omega) (by omega)]; exact r.s5
  · rw [hL_pL, if_pos rfl, pk_uLs]; exact hx
  · rw [hI_pL, hS _ (by omega) (by omega) (by omega)]; exact r.pu hq
  · rw [hI_pL, hS _ (by omega) (by omega) (by omega)]; exact r.pa hq
  · rw [hI_pL, hS _ (by omega) (by omega) (by omega)]; exact r.jo hq
  · rw [hI_pL, hS _ (by omega) (by omega) (by omega)]; exact r.ye hq
  · rw [hI_pL, hS _ (by omega) (by omega) (by omega)]; exact r.li hq
  · rw [hI_pL, hS _ (by omega) (by omega) (by omega)]; exact r.tr hq
