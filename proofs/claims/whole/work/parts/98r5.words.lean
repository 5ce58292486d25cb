/-! ===== the tables of words ===== -/
def kW (t : Row) (s e : Nat) : List (Nat × Nat) → Nat → Option Nat
  | [], _ => none
  | z :: r, k => if isWB t s e z.2 = true then some k else kW t s e r (k + 1)
def okW (L : Nat) (ch : Row) : Nat → List (Nat × Nat) → Bool
  | a, [] => decide (L < a ∧ a ≤ 200)
  | a, z :: r => decide (a < z.1 ∧ z.1 ≤ L ∧ z.1 - a < 8 ∧ (∀ i, i < z.1 → a ≤ i → 97 ≤ ch i ∧ ch i ≤ 122) ∧ (z.1 < L → ch z.1 = 32) ∧ z.2 = pkT ch a (z.1 - a)) && okW L ch (z.1 + 1) r
theorem takeW_l {h : aH} {t : Row} {n : Nat} (b : TB h t n) {A L : Nat} {ch : Row} (tb : TAB A L ch) {s e : Nat} (f : Int32) (hse : s ≤ e) (hen : e ≤ n) (hl : ∀ j, s ≤ j → j < e → 97 ≤ t j ∧ t j ≤ 122) : ∀ (g : List (Nat × Nat)) (a k m : Nat), okW L ch a g = true → L + 1 < a + m → 0 < m → f_X9_takeWord_45 m (cS h s f) 1 A (nI s) (nI e) (nI k) (nI s) 1 (nI a) = match kW t s e g k with
    | some x => some (nI x, cS h e f)
    | none => some (-1, cS h s f) := by
  intro g
  induction g with
  | nil =>
    intro a k m o _ hm
    have o' : L < a ∧ a ≤ 200 := of_decide_eq_true o
    obtain ⟨m', rfl⟩ : ∃ m', m = m' + 1 := ⟨m - 1, by omega⟩
    exact takeW_e tb f _ _ _ _ o'.1 o'.2 m'
  | cons z r ih =>
    intro a k m o hm _
    rw [okW, Bool.and_eq_true] at o
    obtain ⟨o1, o2⟩ := o
    obtain ⟨q1, q2, q3, q4, q5, q6⟩ := of_decide_eq_true o1
    have nb : ∀ i, a ≤ i → i < z.1 → ¬ ch i = 32 := fun i h1 h2 y => by
      have := (q4 i h2 h1).1
      rw [y] at this
      exact absurd this (by decide)
    obtain ⟨m', rfl⟩ : ∃ m', m = m' + 1 + (z.1 - a) := ⟨m - (z.1 - a) - 1, by omega⟩
    have st := takeW_s b tb (k := k) f hse hen hl (a := a) (z := z.1) (by omega) q2 nb q5 m'
    rw [st, kW]
    have we := word_eq (n := n) (t := t) (ch := ch) (s := s) (e := e) (a := a) (z := z.1) hl (fun i h1 h2 => q4 i h2 h1) q3 q1
    rw [we, ← q6]
    by_cases y : isWB t s e z.2 = true
    · rw [if_pos y, if_pos y]
    · rw [if_neg y, if_neg y]
      exact ih (z.1 + 1) (k + 1) m' o2 (by omega) (by omega)
theorem takeWordC {h : aH} {t : Row} {n : Nat} (b : TB h t n) {A L : Nat} {ch : Row} (tb : TAB A L ch) {g : List (Nat × Nat)} (o : okW L ch 0 g = true) (hg : g.length < 100) {p : Nat} (hp : p ≤ n) (f : Int32) : f_X9_takeWord (cS h p f) 1 A = match kW t (sk t n p) (lw t n (sk t n p)) g 0 with
    | some x => some (nI x, cS h (lw t n (sk t n p)) f)
    | none => some (-1, cS h (sk t n p) f) := by
  have s := sk_le (t := t) hp
  have l := lw_le (t := t) s.2
  have L1 := tb.2.1
  obtain ⟨a1, a2, a3, a4⟩ := fd_s (ble t) (p := sk t n p) s.2
  have x := takeW_l b tb f l.1 l.2 (fun j h1 h2 => of_decide_eq_true (a3 j h1 h2)) g 0 0 2000 o (by omega) (by omega)
  rw [takeW_0 b A hp f]
  exact x
def chW (i : Nat) : Row := fun j => (sByt.getD i []).getD j 0
theorem tabW {i : Nat} (hi : i < 7) : TAB (1000 + i) (sLen.getD i 0) (chW i) := by
  have e : 1000 + i - aSB = i := by unfold aSB; omega
  have c : aSB ≤ 1000 + i ∧ 1000 + i < aSB + 7 := by unfold aSB; omega
  have L1 : ∀ i, i < 7 → sLen.getD i 0 ≤ 100 := by decide
  have l := L1 i hi
  refine ⟨?_, l, fun j hj => ?_⟩
  · unfold sLn
    rw [if_pos c, e]; rfl
  · unfold sCh
    rw [e, if_pos ⟨c.1, c.2, vp_in_nI hj (by omega)⟩, nI_clamp (show j < 2 ^ 31 by omega)]
    rfl
def clW : List (Nat × Nat) := [(4, 1769172069), (9, 1700885364), (14, 2003137396), (20, 495622385011), (26, 500136504441), (31, 1818326117)]
theorem clW_ok : okW 31 (chW 0) 0 clW = true := by decide +kernel
def stW : List (Nat × Nat) := [(4, 1937006969)]
theorem stW_ok : okW 4 (chW 2) 0 stW = true := by decide +kernel
def wdW : List (Nat × Nat) := [(4, 1936286821), (11, 123581014175598), (17, 478694368626), (23, 465625113971), (29, 465625113956), (35, 521391927923), (41, 483006772069), (46, 1734960756), (51, 1650815860), (56, 2036687218), (62, 448311223411)]
theorem wdW_ok : okW 62 (chW 1) 0 wdW = true := by decide +kernel
theorem isWB_ne {t : Row} {s e w : Nat} (h : isWB t s e w = true) {w' : Nat} (hw : w ≠ w') : isWB t s e w' = false := by
  obtain ⟨h1, h2, h3⟩ := of_decide_eq_true h
  exact decide_eq_false (fun q => hw (by rw [← h3, q.2.2]))
/-- the clauses of an isle: which word stands here -/
def kCl (t : Row) (s e : Nat) : Nat := if isWB t s e 1769172069 = true then 0 else if isWB t s e 1700885364 = true then 1 else if isWB t s e 2003137396 = true then 2 else if isWB t s e 495622385011 = true then 3 else if isWB t s e 500136504441 = true then 4 else if isWB t s e 1818326117 = true then 5 else 6
theorem kCl_s (t : Row) (s e : Nat) : isWB t s e 1769172069 = decide (kCl t s e = 0) ∧ isWB t s e 1700885364 = decide (kCl t s e = 1) ∧ isWB t s e 2003137396 = decide (kCl t s e = 2) ∧ isWB t s e 495622385011 = decide (kCl t s e = 3) ∧ isWB t s e 500136504441 = decide (kCl t s e = 4) ∧ isWB t s e 1818326117 = decide (kCl t s e = 5) := by
  unfold kCl
  by_cases w0 : isWB t s e 1769172069 = true
  · rw [if_pos w0, w0, isWB_ne w0 (w' := 1700885364) (by decide), isWB_ne w0 (w' := 2003137396) (by decide), isWB_ne w0 (w' := 495622385011) (by decide), isWB_ne w0 (w' := 500136504441) (by decide), isWB_ne w0 (w' := 1818326117) (by decide)]
    decide
  · rw [if_neg w0, Bool.not_eq_true _ |>.mp w0]
    by_cases w1 : isWB t s e 1700885364 = true
    · rw [if_pos w1, w1, isWB_ne w1 (w' := 2003137396) (by decide), isWB_ne w1 (w' := 495622385011) (by decide), isWB_ne w1 (w' := 500136504441) (by decide), isWB_ne w1 (w' := 1818326117) (by decide)]
      decide
    · rw [if_neg w1, Bool.not_eq_true _ |>.mp w1]
      by_cases w2 : isWB t s e 2003137396 = true
      · rw [if_pos w2, w2, isWB_ne w2 (w' := 495622385011) (by decide), isWB_ne w2 (w' := 500136504441) (by decide), isWB_ne w2 (w' := 1818326117) (by decide)]
        decide
      · rw [if_neg w2, Bool.not_eq_true _ |>.mp w2]
        by_cases w3 : isWB t s e 495622385011 = true
        · rw [if_pos w3, w3, isWB_ne w3 (w' := 500136504441) (by decide), isWB_ne w3 (w' := 1818326117) (by decide)]
          decide
        · rw [if_neg w3, Bool.not_eq_true _ |>.mp w3]
          by_cases w4 : isWB t s e 500136504441 = true
          · rw [if_pos w4, w4, isWB_ne w4 (w' := 1818326117) (by decide)]
            decide
          · rw [if_neg w4, Bool.not_eq_true _ |>.mp w4]
            by_cases w5 : isWB t s e 1818326117 = true
            · rw [if_pos w5, w5]
              decide
            · rw [if_neg w5, Bool.not_eq_true _ |>.mp w5]
              decide
theorem kCl_6 (t : Row) (s e : Nat) : kCl t s e ≤ 6 := by
  unfold kCl
  repeat (split; (first | decide | skip))
  decide
/-- the class's word of a clause -/
theorem clauseW {h : aH} {t : Row} {n : Nat} (b : TB h t n) {p : Nat} (hp : p ≤ n) (f : Int32) : f_X9_takeWord (cS h p f) 1 1000 = if kCl t (sk t n p) (lw t n (sk t n p)) = 6 then some (-1, cS h (sk t n p) f) else some (nI (kCl t (sk t n p) (lw t n (sk t n p))), cS h (lw t n (sk t n p)) f) := by
  have x := takeWordC b (tabW (i := 0) (by decide)) clW_ok (by decide) hp f
  rw [show 1000 + 0 = 1000 from rfl] at x
  rw [x]
  generalize sk t n p = s
  generalize lw t n s = e
  unfold clW kCl
  simp only [kW]
  by_cases w0 : isWB t s e 1769172069 = true
  · simp only [if_pos w0]; rfl
  · simp only [if_neg w0]
    by_cases w1 : isWB t s e 1700885364 = true
    · simp only [if_pos w1]; rfl
    · simp only [if_neg w1]
      by_cases w2 : isWB t s e 2003137396 = true
      · simp only [if_pos w2]; rfl
      · simp only [if_neg w2]
        by_cases w3 : isWB t s e 495622385011 = true
        · simp only [if_pos w3]; rfl
        · simp only [if_neg w3]
          by_cases w4 : isWB t s e 500136504441 = true
          · simp only [if_pos w4]; rfl
          · simp only [if_neg w4]
            by_cases w5 : isWB t s e 1818326117 = true
            · simp only [if_pos w5]; rfl
            · simp only [if_neg w5]; rfl
