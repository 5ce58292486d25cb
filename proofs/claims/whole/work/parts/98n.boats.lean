/-! ===== boats ===== -/
theorem passN_y0 {h0 : aH} {f : Option Nat} {S : Row} (v : VS S) (e : S 10 = 0) (i : Nat) : passN h0 f S i 10 = nI i := by
  have := passN_y (h0 := h0) (f := f) v (k := 0) e i
  rw [Nat.zero_add] at this
  exact this
theorem lateB_n {S : Row} {i : Nat} (hi : i < 60) (e : S 10 = nI i) : lateB S = (latN S).testBit i := by
  unfold lateB
  rw [e, nI_clamp (by omega), decide_eq_true (show ¬ (60 : Int32) < nI i from nI_nlt (a := 60) (by omega) (by decide)), Bool.true_and]
theorem latN_c {S T : Row} (h : ∀ j, 75 ≤ j → T j = S j) : latN T = latN S := by
  unfold latN lateOf; rw [h 75 (by decide), h 76 (by decide), h 77 (by decide)]
theorem Ag.pN {h0 : aH} {f : Option Nat} {S T : Row} (a : Ag S T) (vS : VS S) (vT : VS T) (eS : S 10 = 0) {F : Nat} (hF : F ≤ 31) (b : ∀ y, y < F → (latN T).testBit y = (latN S).testBit y) : ∀ i, i ≤ F → Ag (passN h0 f S i) (passN h0 f T i) := by
  have eT : T 10 = 0 := by rw [a 10 (by omega)]; exact eS
  intro i
  induction i with
  | zero => intro _; exact a
  | succ i ih =>
    intro hi
    obtain ⟨v1, o1, _⟩ := passN_ok (h0 := h0) (f := f) vS (⟨0, Nat.le_refl 0, eS⟩ : YR S 0) i
    obtain ⟨v2, o2, _⟩ := passN_ok (h0 := h0) (f := f) vT (⟨0, Nat.le_refl 0, eT⟩ : YR T 0) i
    have l1 : lateB (passN h0 f S i) = (latN S).testBit i := by
      rw [lateB_n (by omega) (passN_y0 vS eS i), latN_c (fun j hj => o1 j (by omega))]
    have l2 : lateB (passN h0 f T i) = (latN T).testBit i := by
      rw [lateB_n (by omega) (passN_y0 vT eT i), latN_c (fun j hj => o2 j (by omega))]
    rw [passN, passN, l1, l2, b i (by omega)]
    exact (ih (by omega)).g_passS v1
theorem ntB_ag {S T : Row} {n : Int32} {A B : Row} {m : Nat} (nb : NtB S m) (h : ∀ j, 78 ≤ j → T j = S j) (ab : Ag A B) : ∀ k c, c + k ≤ m → ntB T B n k c = ntB S A n k c := by
  intro k
  induction k with
  | zero => intro c _; rfl
  | succ k ih =>
    intro c hc
    have d4 := (nb.2.2 c (by omega)).2.2.2
    have e1 : eOf T c = eOf S c := by unfold eOf; rw [h _ (by omega)]
    rw [ntB, ntB, ih (c + 1) (by omega), e1, h _ (by omega), h _ (by omega), ab (12 + 4 * eOf S c) (by omega)]
theorem fT_c {S T : Row} (h : ∀ j, 78 ≤ j → T j = S j) : ∀ c, fT T c = fT S c := by
  intro c
  induction c with
  | zero => rfl
  | succ c ih =>
    have e1 : nOf T c = nOf S c := by unfold nOf; rw [h _ (by omega)]
    rw [fT, fT, ih, e1]
theorem fit_c {h0 : aH} {f : Option Nat} {S T : Row} (a : Ag S T) (vS : VS S) (vT : VS T) (eS : S 10 = 0) {m : Nat} (nb : NtB S m) (b : ∀ y, y < fT S m → (latN T).testBit y = (latN S).testBit y) : fitP h0 f T m 31 = fitP h0 f S m 31 := by
  have lF := fT_le nb m (Nat.le_refl m)
  have hj : ∀ j, 78 ≤ j → T j = S j := fun j h => a j (Or.inr h)
  have nbT : NtB T m := nb.of hj
  rw [fitP_hi nb 31 lF (by decide), fitP_hi nbT 31 (by rw [fT_c hj]; exact lF) (by decide), fT_c hj]
  have key : ∀ i, i ≤ fT S m → fitP h0 f T m i = fitP h0 f S m i := by
    intro i
    induction i with
    | zero => intro _; rfl
    | succ i ih =>
      intro hi
      rw [fitP, fitP, ih (by omega), ntB_ag nb hj (a.pN vS vT eS lF b (i + 1) hi) m 0 (by omega)]
  exact key _ (Nat.le_refl _)
/-! counting sets -/
def btI (B : Nat → Bool) : Nat → Nat × Int32 × Nat
  | 0 => (0, -2, 255)
  | s + 1 => if B s = true then ((btI B s).1 + 1, (if (btI B s).1 = 0 then nI s else (btI B s).2.1), (btI B s).2.2 &&& s) else btI B s
theorem bt_sub {B : Nat → Bool} {j : Nat} (hB : B j = true) : ∀ n, j < n → (btI B n).2.2 &&& j = (btI B n).2.2 ∧ 0 < (btI B n).1 := by
  intro n
  induction n with
  | zero => intro h; omega
  | succ n ih =>
    intro h
    by_cases q : j = n
    · subst q
      rw [btI, if_pos hB]
      exact ⟨by show ((btI B j).2.2 &&& j) &&& j = (btI B j).2.2 &&& j; rw [Nat.and_assoc, Nat.and_self], Nat.succ_pos _⟩
    · obtain ⟨a, b⟩ := ih (by omega)
      rw [btI]
      split
      · refine ⟨?_, Nat.succ_pos _⟩
        show ((btI B n).2.2 &&& n) &&& j = (btI B n).2.2 &&& n
        rw [Nat.and_assoc, Nat.and_comm n j, ← Nat.and_assoc, a]
      · exact ⟨a, b⟩
theorem bt_le {B : Nat → Bool} : ∀ n, (btI B n).1 ≤ n ∧ (btI B n).2.2 ≤ 255 := by
  intro n
  induction n with
  | zero => exact ⟨Nat.le_refl _, Nat.le_refl _⟩
  | succ n ih =>
    rw [btI]
    split
    · exact ⟨Nat.succ_le_succ ih.1, Nat.le_trans Nat.and_le_left ih.2⟩
    · exact ⟨Nat.le_succ_of_le ih.1, ih.2⟩
theorem and_up {a j Y k : Nat} (h : a &&& j = a) (hj : j < 2 ^ Y) : a &&& (2 ^ Y * k + j) = a := by
  refine Nat.eq_of_testBit_eq (fun i => ?_)
  have hi : a.testBit i = (a.testBit i && j.testBit i) := by rw [← Nat.testBit_and, h]
  rw [Nat.testBit_and, Nat.testBit_two_pow_mul_add _ hj]
  split
  · exact hi.symm
  · have jl : j.testBit i = false := Nat.testBit_lt_two_pow (Nat.lt_of_lt_of_le hj (Nat.pow_le_pow_right (by decide) (by omega)))
    rw [jl, Bool.and_false] at hi
    rw [hi, Bool.false_and]
theorem bt_per {B : Nat → Bool} {Y : Nat} (hY : Y ≤ 8) (per : ∀ s, s < 256 → B s = B (s % 2 ^ Y)) : ∀ k, 1 ≤ k → 2 ^ Y * k ≤ 256 → btI B (2 ^ Y * k) = (k * (btI B (2 ^ Y)).1, (btI B (2 ^ Y)).2.1, (btI B (2 ^ Y)).2.2) := by
  have p0 : 0 < 2 ^ Y := Nat.pow_pos (by decide)
  intro k
  induction k with
  | zero => intro h; omega
  | succ k ih =>
    intro _ hk
    rcases Nat.eq_zero_or_pos k with z | z
    · subst z
      rw [Nat.zero_add, Nat.mul_one, Nat.one_mul]
    · have hk' : 2 ^ Y * k + 2 ^ Y ≤ 256 := by rw [Nat.mul_succ] at hk; exact hk
      have base := ih z (by omega)
      have key : ∀ j, j ≤ 2 ^ Y → btI B (2 ^ Y * k + j) = (k * (btI B (2 ^ Y)).1 + (btI B j).1, (btI B (2 ^ Y)).2.1, (btI B (2 ^ Y)).2.2) := by
        intro j
        induction j with
        | zero => intro _; rw [Nat.add_zero, base]; rfl
        | succ j ihj =>
          intro hj
          have hb : B (2 ^ Y * k + j) = B j := by
            rw [per (2 ^ Y * k + j) (by omega), Nat.mul_add_mod, Nat.mod_eq_of_lt (by omega)]
          rw [← Nat.add_assoc, btI, hb, ihj (by omega), btI]
          by_cases e : B j = true
          · obtain ⟨s1, s2⟩ := bt_sub e (2 ^ Y) (by omega)
            have kp : 0 < k * (btI B (2 ^ Y)).1 := Nat.mul_pos z s2
            rw [if_pos e, if_pos e]
            refine Prod.ext ?_ (Prod.ext ?_ ?_)
            · show k * (btI B (2 ^ Y)).1 + (btI B j).1 + 1 = k * (btI B (2 ^ Y)).1 + ((btI B j).1 + 1); omega
            · show (if k * (btI B (2 ^ Y)).1 + (btI B j).1 = 0 then nI (2 ^ Y * k + j) else (btI B (2 ^ Y)).2.1) = (btI B (2 ^ Y)).2.1
              rw [if_neg (by omega)]
            · exact and_up s1 (by omega)
          · rw [if_neg e, if_neg e]
      have fin := key (2 ^ Y) (Nat.le_refl _)
      rw [Nat.mul_succ, fin, Nat.succ_mul]
theorem bt_all {B : Nat → Bool} {Y : Nat} (hY : Y ≤ 8) (per : ∀ s, s < 256 → B s = B (s % 2 ^ Y)) : btI B 256 = (2 ^ (8 - Y) * (btI B (2 ^ Y)).1, (btI B (2 ^ Y)).2.1, (btI B (2 ^ Y)).2.2) := by
  have e : 2 ^ Y * 2 ^ (8 - Y) = 256 := by rw [← Nat.pow_add, show Y + (8 - Y) = 8 by omega]
  have := bt_per hY per (2 ^ (8 - Y)) (Nat.pow_pos (by decide)) (by omega)
  rw [e] at this
  exact this
/-! a set of late years in place of the first eight -/
def bS (S : Row) (s : Nat) : Row := upd S 75 (S 75 / 256 * 256 + nI s)
theorem bS_n {S : Row} (l : LateR S 75) {s : Nat} (hs : s < 256) : ∃ a b c : Nat, a < 2 ^ 21 ∧ b < 2 ^ 21 ∧ c < 2 ^ 19 ∧ S 75 = nI a ∧ S 76 = nI b ∧ S 77 = nI c ∧ bS S s 75 = nI (a / 256 * 256 + s) ∧ bS S s 76 = nI b ∧ bS S s 77 = nI c ∧ latN S = 2 ^ 21 * (2 ^ 21 * c + b) + a ∧ latN (bS S s) = 2 ^ 21 * (2 ^ 21 * c + b) + (a / 256 * 256 + s) := by
  obtain ⟨a, b, c, ha, hb, hc, ea, eb, ec⟩ := l.n
  have q1 : bS S s 75 = nI (a / 256 * 256 + s) := by
    unfold bS
    rw [upd_at, ea, show (256 : Int32) = nI 256 from rfl, pk_div (by omega) (by decide) (by decide), pk_mul, nI_add]
  have q2 : bS S s 76 = nI b := by unfold bS; rw [upd_ne _ _ (by decide)]; exact eb
  have q3 : bS S s 77 = nI c := by unfold bS; rw [upd_ne _ _ (by decide)]; exact ec
  exact ⟨a, b, c, ha, hb, hc, ea, eb, ec, q1, q2, q3, latN_eq ha hb hc ea eb ec, latN_eq (by omega) hb hc q1 q2 q3⟩
theorem bS_R {S : Row} (l : LateR S 75) {s : Nat} (hs : s < 256) : LateR (bS S s) 75 := by
  obtain ⟨a, b, c, ha, hb, hc, ea, eb, ec, q1, q2, q3, _, _⟩ := bS_n l hs
  refine ⟨?_, ?_, ?_⟩
  · rw [q1]; exact nI_btw (m := 2097151) (by omega) (by decide)
  · show Btw (bS S s 76) 0 2097151
    rw [q2]; exact nI_btw (m := 2097151) (by omega) (by decide)
  · show Btw (bS S s 77) 0 524287
    rw [q3]; exact nI_btw (m := 524287) (by omega) (by decide)
theorem bS_ag (S : Row) (s s' : Nat) : Ag (bS S s) (bS S s') := fun j hj => by unfold bS; rw [upd_ne _ _ (by omega), upd_ne _ _ (by omega)]
theorem bS_o (S : Row) (s : Nat) {j : Nat} (h : j ≠ 75) : bS S s j = S j := upd_ne _ _ h
theorem VS.bS {S : Row} (v : VS S) {s : Nat} (hs : s < 256) : VS (bS S s) := v.late (fun j hj => bS_o S s (by omega)) (bS_R v.lt hs)
theorem bS_bit {S : Row} (l : LateR S 75) {s : Nat} (hs : s < 256) {y : Nat} (hy : y < 8) : (latN (bS S s)).testBit y = s.testBit y := by
  obtain ⟨a, b, c, ha, hb, hc, ea, eb, ec, q1, q2, q3, _, e⟩ := bS_n l hs
  rw [e, Nat.testBit_two_pow_mul_add _ (by omega), if_pos (by omega), show a / 256 * 256 + s = 2 ^ 8 * (a / 256) + s by omega, Nat.testBit_two_pow_mul_add _ (by omega), if_pos hy]
theorem bS_l {S : Row} (l : LateR S 75) {s : Nat} (hs : s < 256) : (lateOf S &&& (-256)) ||| (nI s).toInt64 = lateOf (bS S s) := by
  obtain ⟨a, b, c, ha, hb, hc, ea, eb, ec, q1, q2, q3, eL, e⟩ := bS_n l hs
  refine l_ext ?_
  show _ = latN (bS S s)
  have L64 : latN S < 2 ^ 64 := (lateOf S).toBitVec.isLt
  have e2 : latN (bS S s) = 2 ^ 8 * (latN S / 2 ^ 8) + s := by rw [e, eL]; omega
  rw [e2, Int64.toBitVec_or, BitVec.toNat_or, Int64.toBitVec_and, BitVec.toNat_and, nI_l (by omega), lN_tn (by omega)]
  show (latN S &&& _) ||| s = _
  rw [show ((-256 : Int64).toBitVec.toNat) = 2 ^ 8 * (2 ^ 56 - 1) + 0 by decide]
  refine Nat.eq_of_testBit_eq (fun i => ?_)
  rw [Nat.testBit_or, Nat.testBit_and, Nat.testBit_two_pow_mul_add _ (show 0 < 2 ^ 8 by decide), Nat.testBit_two_pow_mul_add _ (show s < 2 ^ 8 by omega)]
  by_cases q : i < 8
  · rw [if_pos q, if_pos q, Nat.zero_testBit, Bool.and_false, Bool.false_or]
  · have sl : s.testBit i = false := Nat.testBit_lt_two_pow (Nat.lt_of_lt_of_le (show s < 2 ^ 8 by omega) (Nat.pow_le_pow_right (by decide) (by omega)))
    rw [if_neg q, if_neg q, sl, Bool.or_false, Nat.testBit_two_pow_sub_one, Nat.testBit_div_two_pow, show i - 8 + 8 = i by omega]
    by_cases z : i - 8 < 56
    · rw [decide_eq_true z, Bool.and_true]
    · have ll : (latN S).testBit i = false := Nat.testBit_lt_two_pow (Nat.lt_of_lt_of_le L64 (Nat.pow_le_pow_right (by decide) (by omega)))
      rw [ll, Bool.false_and]
/-- whether a set fits -/
def btB (h0 : aH) (f : Option Nat) (S : Row) (m s : Nat) : Bool := fitP h0 f (bS S s) m 31
theorem bt_mod {h0 : aH} {f : Option Nat} {S : Row} (v : VS S) (e10 : S 10 = 0) {m : Nat} (nb : NtB S m) {Y : Nat} (hY : Y = 8 ∨ (Y = fT S m ∧ Y ≤ 8)) : ∀ s, s < 256 → btB h0 f S m s = btB h0 f S m (s % 2 ^ Y) := by
  intro s hs
  have Y8 : Y ≤ 8 := by omega
  have sm : s % 2 ^ Y < 256 := Nat.lt_of_le_of_lt (Nat.mod_le _ _) hs
  unfold btB
  have hj : ∀ j, 78 ≤ j → bS S (s % 2 ^ Y) j = S j := fun j h => bS_o S _ (by omega)
  refine fit_c (bS_ag S (s % 2 ^ Y) s) (v.bS sm) (v.bS hs) (by rw [bS_o S _ (by decide)]; exact e10) (nb.of hj) (fun y hy => ?_)
  rw [fT_c hj] at hy
  rcases hY with z | ⟨z, _⟩
  · subst z
    rw [show s % 2 ^ 8 = s by omega]
  · rw [bS_bit v.lt hs (by omega), bS_bit v.lt sm (by omega), Nat.testBit_mod_two_pow, decide_eq_true (by omega), Bool.true_and]
