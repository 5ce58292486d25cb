/-! ===== the tape: reference ===== -/
def rS (h : aH) (R : Row) (p : Nat) (f : Int32) : aH := wI h 308 (upd (upd R 8 (nI p)) 9 f)
theorem rS_o (h : aH) (R : Row) (p : Nat) (f : Int32) {b : Nat} (hb : b ≠ 308) : hI (rS h R p f) b = hI h b := hI_wI_ne _ _ hb
theorem rS_308 (h : aH) (R : Row) (p : Nat) (f : Int32) : hI (rS h R p f) 308 = upd (upd R 8 (nI p)) 9 f := hI_wI_eq _ _ _
theorem rS_8 (h : aH) (R : Row) (p : Nat) (f : Int32) : hI (rS h R p f) 308 8 = nI p := by rw [rS_308, upd_ne _ _ (by decide), upd_at]
theorem rS_9 (h : aH) (R : Row) (p : Nat) (f : Int32) : hI (rS h R p f) 308 9 = f := by rw [rS_308, upd_at]
theorem rS_j (h : aH) (R : Row) (p : Nat) (f : Int32) {j : Nat} (h8 : j ≠ 8) (h9 : j ≠ 9) : hI (rS h R p f) 308 j = R j := by rw [rS_308, upd_ne _ _ h9, upd_ne _ _ h8]
theorem rS_R (h : aH) (R : Row) (p : Nat) (f : Int32) (b : Nat) : hR (rS h R p f) b = hR h b := rfl
theorem rS_p (h : aH) (R : Row) (p q : Nat) (f : Int32) : pI (rS h R p f) 308 8 (nI q) = rS h R q f := by
  unfold rS
  rw [pI_wI, upd_comm (show (9 : Nat) ≠ 8 by decide), upd_upd]
theorem rS_f (h : aH) (R : Row) (p : Nat) (f f' : Int32) : pI (rS h R p f) 308 9 f' = rS h R p f' := by
  unfold rS
  rw [pI_wI, upd_upd]
theorem rS_u (h : aH) (R : Row) (p : Nat) (f : Int32) {j : Nat} (x : Int32) (h8 : j ≠ 8) (h9 : j ≠ 9) : pI (rS h R p f) 308 j x = rS h (upd R j x) p f := by
  unfold rS
  rw [pI_wI, upd_comm (f := upd R 8 (nI p)) (fun y => h9 y.symm), upd_comm (f := R) (fun y => h8 y.symm)]
def TRB (h : aH) (R t : Row) (n : Nat) : Prop := Str h ∧ R 1 = nI n ∧ n ≤ 400 ∧ ∀ j, j < 400 → hI h 309 j = t j ∧ Btw (t j) (-128) 127
theorem see38 {h : aH} {R t : Row} {n : Nat} (b : TRB h R t n) {p : Nat} (hp : p ≤ n) (f : Int32) : b_X12_see_38 (rS h R p f) 308 = some (bya t n p, rS h R p f) := by
  obtain ⟨hS, b1, b2, b3⟩ := b
  have e1 : hI (rS h R p f) 308 1 = nI n := by rw [rS_j _ _ _ _ (by decide) (by decide)]; exact b1
  unfold bya
  by_cases c : p < n
  · have tj : hI (rS h R p f) 309 p = t p := by rw [rS_o _ _ _ _ (by decide), (b3 _ (by omega)).1]
    simp only [b_X12_see_38, q_308, e1, rS_8, if_neg (nI_ge c (show n < 2 ^ 31 by omega)), rS_R, r_308_0 hS, Option.bind_some, aLet, q_309, if_pos (in_309 (show p < 400 by omega)), nI_clamp (show p < 2 ^ 31 by omega), tj, if_pos c]
  · simp only [b_X12_see_38, q_308, e1, rS_8, if_pos (nI_le (show n ≤ p by omega) (show p < 2 ^ 31 by omega)), if_neg c]
theorem seeR {h : aH} {R t : Row} {n : Nat} (b : TRB h R t n) {p : Nat} (hp : p ≤ n) (f : Int32) : f_X12_see (rS h R p f) 308 = some (bya t n (sk t n p), rS h R (sk t n p) f) := by
  obtain ⟨hS, b1, b2, b3⟩ := b
  have b : TRB h R t n := ⟨hS, b1, b2, b3⟩
  have e1 : ∀ q, hI (rS h R q f) 308 1 = nI n := fun q => by rw [rS_j _ _ _ _ (by decide) (by decide)]; exact b1
  obtain ⟨a1, a2, a3, a4⟩ := fd_s (bsp t) hp
  refine itLoop (σ := aH) (fun k s => f_X12_see_0 k s 308) (fun i s => s = rS h R (p + i) f) (fun o => o = some (bya t n (sk t n p), rS h R (sk t n p) f)) (sk t n p - p) ?_ ?_ 2000 0 (rS h R p f) rfl (by omega) (by unfold sk; omega)
  · rintro k i _ hi rfl
    have q1 : p + i < fd (bsp t) n p := by unfold sk at hi; omega
    have sp : t (p + i) = 32 := of_decide_eq_true (a3 (p + i) (by omega) q1)
    refine Or.inr ⟨_, rfl, ?_⟩
    show b_X12_see_0 (f_X12_see_0 k) (rS h R (p + i) f) 308 = _
    have c : ¬ nI n ≤ nI (p + i) := nI_ge (by omega) (by omega)
    have tj : hI (rS h R (p + i) f) 309 (p + i) = 32 := by rw [rS_o _ _ _ _ (by decide), (b3 _ (by omega)).1, sp]
    simp only [b_X12_see_0, q_308, e1, rS_8, if_neg c, rS_R, r_308_0 hS, Option.bind_some, aLet, q_309, if_pos (in_309 (show p + i < 400 by omega)), nI_clamp (show p + i < 2 ^ 31 by omega), tj, if_true, i1, rS_p, Nat.add_assoc]
  · rintro k _ rfl
    rw [show p + (sk t n p - p) = sk t n p by unfold sk; omega]
    have s38 := see38 b (p := sk t n p) a2 f
    show b_X12_see_0 (f_X12_see_0 k) (rS h R (sk t n p) f) 308 = _
    by_cases c : sk t n p < n
    · have sp : ¬ t (sk t n p) = 32 := of_decide_eq_false (a4 c)
      have c' : ¬ nI n ≤ nI (sk t n p) := nI_ge c (by omega)
      have tj : ¬ hI (rS h R (sk t n p) f) 309 (sk t n p) = 32 := by rw [rS_o _ _ _ _ (by decide), (b3 _ (by omega)).1]; exact sp
      simp only [b_X12_see_0, q_308, e1, rS_8, if_neg c', rS_R, r_308_0 hS, Option.bind_some, aLet, q_309, if_pos (in_309 (show sk t n p < 400 by omega)), nI_clamp (show sk t n p < 2 ^ 31 by omega), if_neg tj, s38]
    · have c' : nI n ≤ nI (sk t n p) := nI_le (by omega) (by have : sk t n p ≤ n := a2; omega)
      simp only [b_X12_see_0, q_308, e1, rS_8, if_pos c', s38]
theorem isDigR {h : aH} {R t : Row} {n : Nat} (b : TRB h R t n) (p : Nat) (f : Int32) {q : Nat} (hq : q < 2 ^ 31) : f_X12_isDigit (rS h R p f) 308 (nI q) = some (bB (decide (q < n) && bdg t q), rS h R p f) := by
  obtain ⟨hS, b1, b2, b3⟩ := b
  have e1 : hI (rS h R p f) 308 1 = nI n := by rw [rS_j _ _ _ _ (by decide) (by decide)]; exact b1
  by_cases c : q < n
  · have tj : hI (rS h R p f) 309 q = t q := by rw [rS_o _ _ _ _ (by decide), (b3 _ (by omega)).1]
    rw [decide_eq_true c, Bool.true_and]
    simp only [f_X12_isDigit, q_308, e1, if_neg (nI_ge c (show n < 2 ^ 31 by omega)), rS_R, r_308_0 hS, Option.bind_some, q_309, if_pos (in_309 (show q < 400 by omega)), nI_clamp hq, tj]
    unfold bdg
    by_cases d1 : t q < 48
    · rw [if_pos d1, decide_eq_false (fun y => absurd d1 (Int32.not_lt.mpr y.1))]; rfl
    · rw [if_neg d1]
      by_cases d2 : 57 < t q
      · rw [if_pos d2, decide_eq_false (fun y => absurd d2 (Int32.not_lt.mpr y.2))]; rfl
      · rw [if_neg d2, decide_eq_true ⟨Int32.not_lt.mp d1, Int32.not_lt.mp d2⟩]; rfl
  · rw [decide_eq_false c, Bool.false_and]
    simp only [f_X12_isDigit, q_308, e1, if_pos (nI_le (show n ≤ q by omega) hq)]
    rfl
theorem isLetR {h : aH} {R t : Row} {n : Nat} (b : TRB h R t n) (p : Nat) (f : Int32) {q : Nat} (hq : q < 2 ^ 31) : f_X12_isLetter (rS h R p f) 308 (nI q) = some (bB (decide (q < n) && ble t q), rS h R p f) := by
  obtain ⟨hS, b1, b2, b3⟩ := b
  have e1 : hI (rS h R p f) 308 1 = nI n := by rw [rS_j _ _ _ _ (by decide) (by decide)]; exact b1
  by_cases c : q < n
  · have tj : hI (rS h R p f) 309 q = t q := by rw [rS_o _ _ _ _ (by decide), (b3 _ (by omega)).1]
    rw [decide_eq_true c, Bool.true_and]
    simp only [f_X12_isLetter, q_308, e1, if_neg (nI_ge c (show n < 2 ^ 31 by omega)), rS_R, r_308_0 hS, Option.bind_some, q_309, if_pos (in_309 (show q < 400 by omega)), nI_clamp hq, tj]
    unfold ble
    by_cases d1 : t q < 97
    · rw [if_pos d1, decide_eq_false (fun y => absurd d1 (Int32.not_lt.mpr y.1))]; rfl
    · rw [if_neg d1]
      by_cases d2 : 122 < t q
      · rw [if_pos d2, decide_eq_false (fun y => absurd d2 (Int32.not_lt.mpr y.2))]; rfl
      · rw [if_neg d2, decide_eq_true ⟨Int32.not_lt.mp d1, Int32.not_lt.mp d2⟩]; rfl
  · rw [decide_eq_false c, Bool.false_and]
    simp only [f_X12_isLetter, q_308, e1, if_pos (nI_le (show n ≤ q by omega) hq)]
    rfl
theorem fd_at {P : Nat → Bool} {n p : Nat} (hp : p ≤ n) : (∀ i, i < fd P n p - p → (decide (p + i < n) && P (p + i)) = true) ∧ (decide (fd P n p < n) && P (fd P n p)) = false := by
  obtain ⟨a1, a2, a3, a4⟩ := fd_s P hp
  refine ⟨fun i hi => ?_, ?_⟩
  · rw [decide_eq_true (by omega), a3 (p + i) (by omega) (by omega)]; rfl
  · by_cases c : fd P n p < n
    · rw [a4 c, Bool.and_false]
    · rw [decide_eq_false c, Bool.false_and]
theorem passWordR {h : aH} {R t : Row} {n : Nat} (b : TRB h R t n) {p : Nat} (hp : p ≤ n) (f : Int32) : f_X12_passWord (rS h R p f) 308 = some ((), rS h R (lw t n p) f) := by
  have b2 := b.2.2.1
  obtain ⟨a1, a2, _, _⟩ := fd_s (ble t) hp
  obtain ⟨c1, c2⟩ := fd_at (P := ble t) hp
  refine itLoop (σ := aH) (fun k s => f_X12_passWord_0 k s 308) (fun i s => s = rS h R (p + i) f) (fun o => o = some ((), rS h R (lw t n p) f)) (lw t n p - p) ?_ ?_ 2000 0 (rS h R p f) rfl (by omega) (by unfold lw; omega)
  · rintro k i _ hi rfl
    have c := c1 i hi
    have hi' : p + i < fd (ble t) n p := by unfold lw at hi; omega
    refine Or.inr ⟨_, rfl, ?_⟩
    show b_X12_passWord_0 (f_X12_passWord_0 k) (rS h R (p + i) f) 308 = _
    simp only [b_X12_passWord_0, q_308, rS_8, isLetR b (p + i) f (show p + i < 2 ^ 31 by omega), c, aBind_some, bB, if_neg (show ¬ (1 : Int32) = 0 by decide), i1, aLet, rS_p, Nat.add_assoc]
  · rintro k _ rfl
    rw [show p + (lw t n p - p) = lw t n p by unfold lw; omega]
    have e : (decide (lw t n p < n) && ble t (lw t n p)) = false := c2
    show b_X12_passWord_0 (f_X12_passWord_0 k) (rS h R (lw t n p) f) 308 = _
    simp only [b_X12_passWord_0, q_308, rS_8, isLetR b (lw t n p) f (show lw t n p < 2 ^ 31 by have : lw t n p ≤ n := a2; omega), e, aBind_some, bB, if_true]
theorem failsR (h : aH) (R : Row) (p q : Nat) (f k : Int32) : f_X12_fails (rS h R p f) 308 k (nI q) = some (0, rS h R p (blm q k f)) := by
  unfold blm
  by_cases z : f = 0
  · rw [if_pos z]
    simp only [f_X12_fails, q_308, rS_9, if_pos z, aLet, rS_f]
  · rw [if_neg z]
    simp only [f_X12_fails, q_308, rS_9, if_neg z]
/-! words, packed -/
def pkT (t : Row) (s : Nat) : Nat → Nat
  | 0 => 0
  | m + 1 => pkT t s m * 256 + (t (s + m)).toNatClampNeg
theorem pkT_lt {t : Row} {s : Nat} : ∀ m, (∀ i, i < m → (t (s + i)).toNatClampNeg < 256) → pkT t s m < 256 ^ m := by
  intro m
  induction m with
  | zero => intro _; exact Nat.one_pos
  | succ m ih =>
    intro h0
    have h1 := ih (fun i hi => h0 i (by omega))
    have h2 := h0 m (by omega)
    rw [pkT, Nat.pow_succ]
    omega
theorem pkT_inj {t t' : Row} {s s' : Nat} : ∀ m k, (∀ i, i < m → 0 < (t (s + i)).toNatClampNeg ∧ (t (s + i)).toNatClampNeg < 256) → (∀ i, i < k → 0 < (t' (s' + i)).toNatClampNeg ∧ (t' (s' + i)).toNatClampNeg < 256) → pkT t s m = pkT t' s' k → m = k ∧ ∀ i, i < m → (t (s + i)).toNatClampNeg = (t' (s' + i)).toNatClampNeg := by
  intro m
  induction m with
  | zero =>
    intro k _ h2 h
    cases k with
    | zero => exact ⟨rfl, fun i hi => by omega⟩
    | succ k =>
      exfalso
      rw [pkT, pkT] at h
      have := (h2 k (by omega)).1
      omega
  | succ m ih =>
    intro k h1 h2 h
    cases k with
    | zero =>
      exfalso
      rw [pkT, pkT] at h
      have := (h1 m (by omega)).1
      omega
    | succ k =>
      rw [pkT, pkT] at h
      have a := h1 m (by omega)
      have c := h2 k (by omega)
      have e1 : (t (s + m)).toNatClampNeg = (t' (s' + k)).toNatClampNeg := by omega
      have e2 : pkT t s m = pkT t' s' k := by omega
      obtain ⟨x, y⟩ := ih k (fun i hi => h1 i (by omega)) (fun i hi => h2 i (by omega)) e2
      subst x
      refine ⟨rfl, fun i hi => ?_⟩
      by_cases z : i = m
      · rw [z]; exact e1
      · exact y i (by omega)
theorem pkT_eq {t t' : Row} {s s' : Nat} : ∀ m, (∀ i, i < m → t (s + i) = t' (s' + i)) → pkT t s m = pkT t' s' m := by
  intro m
  induction m with
  | zero => intro _; rfl
  | succ m ih => intro h; rw [pkT, pkT, ih (fun i hi => h i (by omega)), h m (by omega)]
theorem let_n {x : Int32} (h : 97 ≤ x ∧ x ≤ 122) : ∃ k, 97 ≤ k ∧ k ≤ 122 ∧ x = nI k := by
  obtain ⟨k, hk, ek⟩ := btw_nI (M := 122) (m := 122) ⟨Int32.le_trans (by decide) h.1, h.2⟩ (by decide)
  refine ⟨k, ?_, hk, ek⟩
  have a := h.1
  rw [ek] at a
  exact (nI_leI (a := 97) (by decide) (by omega)).mp a
theorem pk_step {a c : Nat} (ha : a < 256 ^ 7) (hc : c < 256) : (lN a <<< ((8 : Int32).toInt64 &&& 63)) ||| (nI c).toInt64 = lN (a * 256 + c) := by
  refine l_ext ?_
  have e8 : (((8 : Int32).toInt64 &&& 63).toBitVec.smod 64) = 8#64 := by decide
  have p7 : 256 ^ 7 * 256 = 2 ^ 64 := by decide
  have sh8 : (lN a <<< ((8 : Int32).toInt64 &&& 63)).toBitVec.toNat = a * 2 ^ 8 := by
    rw [Int64.toBitVec_shiftLeft, e8, BitVec.shiftLeft_eq', show (8#64).toNat = 8 by decide, BitVec.toNat_shiftLeft, lN_tn (by omega), Nat.shiftLeft_eq]
    exact Nat.mod_eq_of_lt (by omega)
  rw [Int64.toBitVec_or, BitVec.toNat_or, sh8, nI_l (by omega), lN_tn (by omega), lN_tn (by omega), Nat.or_comm, or_add (i := 8) (by omega)]
  omega
def isWB (t : Row) (s e w : Nat) : Bool := decide (0 < e - s ∧ e - s < 8 ∧ pkT t s (e - s) = w)
theorem isWordR {h : aH} {R t : Row} {n : Nat} (b : TRB h R t n) {p : Nat} (hp : p ≤ n) (f : Int32) {w : Nat} (hw : w < 2 ^ 56) : f_X12_isWord (rS h R p f) 308 (lN w) = some (bB (isWB t (sk t n p) (lw t n (sk t n p)) w), rS h R (sk t n p) f) := by
  obtain ⟨hS, b1, b2, b3⟩ := b
  have b : TRB h R t n := ⟨hS, b1, b2, b3⟩
  have sl := sk_le (t := t) hp
  obtain ⟨s, es⟩ : ∃ s, s = sk t n p := ⟨_, rfl⟩
  have se := seeR b hp f
  rw [← es] at sl se ⊢
  obtain ⟨a1, a2, a3, _⟩ := fd_s (ble t) sl.2
  obtain ⟨c1, c2⟩ := fd_at (P := ble t) sl.2
  have lb : ∀ i, i < lw t n s - s → ∃ k, 97 ≤ k ∧ k ≤ 122 ∧ t (s + i) = nI k := fun i hi => let_n (of_decide_eq_true (a3 (s + i) (by omega) (by unfold lw at hi; omega)))
  have tn : ∀ i, i < lw t n s - s → (t (s + i)).toNatClampNeg < 256 := fun i hi => by
    obtain ⟨k, _, h2, h3⟩ := lb i hi
    rw [h3, nI_clamp (by omega)]; omega
  have key : f_X12_isWord_10 2000 (rS h R s f) 308 (lN w) 0 0 = some (bB (isWB t s (lw t n s) w), rS h R s f) := by
    refine itLoop (σ := Int64 × Int32) (fun k x => f_X12_isWord_10 k (rS h R s f) 308 (lN w) x.1 x.2) (fun i x => x.2 = nI i ∧ (i < 8 → x.1 = lN (pkT t s i))) (fun o => o = some (bB (isWB t s (lw t n s) w), rS h R s f)) (lw t n s - s) ?_ ?_ 2000 0 (0, 0) ⟨rfl, fun _ => rfl⟩ (by omega) (by unfold lw; omega)
    · rintro k i ⟨x, y⟩ hi ⟨ey, ex⟩
      have ey' : y = nI i := ey
      subst ey'
      have c := c1 i hi
      have hi' : s + i < fd (ble t) n s := by unfold lw at hi; omega
      have il := isLetR b s f (q := s + i) (by omega)
      rw [c] at il
      have s_i : nI s + nI i = nI (s + i) := nI_add s i
      by_cases z : i < 8
      · have ex' : x = lN (pkT t s i) := ex z
        obtain ⟨q, q1, q2, q3⟩ := lb i hi
        have tj : hI (rS h R s f) 309 (s + i) = nI q := by rw [rS_o _ _ _ _ (by decide), (b3 _ (by omega)).1, q3]
        have pl := pkT_lt (t := t) (s := s) i (fun j hj => tn j (by omega))
        have p7 : 256 ^ i ≤ 256 ^ 7 := Nat.pow_le_pow_right (by decide) (by omega)
        refine Or.inr ⟨(lN (pkT t s (i + 1)), nI (i + 1)), ⟨rfl, fun _ => rfl⟩, ?_⟩
        show b_X12_isWord_10 (f_X12_isWord_10 k) (rS h R s f) 308 (lN w) x (nI i) = _
        rw [ex']
        have st := pk_step (a := pkT t s i) (c := q) (by omega) (by omega)
        have pe : pkT t s (i + 1) = pkT t s i * 256 + q := by rw [pkT, q3, nI_clamp (show q < 2 ^ 31 by omega)]
        simp only [b_X12_isWord_10, q_308, rS_8, s_i, il, aBind_some, bB, if_neg (show ¬ (1 : Int32) = 0 by decide), if_neg (nI_ge (b := 8) z (show 8 < 2 ^ 31 by decide)), rS_R, r_308_0 hS, Option.bind_some, aLet, q_309, if_pos (in_309 (show s + i < 400 by omega)), nI_clamp (show s + i < 2 ^ 31 by omega), tj, st, ← pe, b_X12_isWord_50, i1]
        rw [if_neg (show ¬ (8 : Int32) ≤ nI i from nI_ge (b := 8) z (by decide))]
      · refine Or.inr ⟨(x, nI (i + 1)), ⟨rfl, fun y => by omega⟩, ?_⟩
        show b_X12_isWord_10 (f_X12_isWord_10 k) (rS h R s f) 308 (lN w) x (nI i) = _
        simp only [b_X12_isWord_10, q_308, rS_8, s_i, il, aBind_some, bB, if_neg (show ¬ (1 : Int32) = 0 by decide), b_X12_isWord_50, i1]
        rw [if_pos (show (8 : Int32) ≤ nI i from nI_le (a := 8) (by omega) (by omega))]
    · rintro k ⟨x, y⟩ ⟨ey, ex⟩
      obtain ⟨m, em⟩ : ∃ m, m = lw t n s - s := ⟨_, rfl⟩
      have ey' : y = nI m := by rw [em]; exact ey
      have ex' : m < 8 → x = lN (pkT t s m) := by rw [em]; exact ex
      subst ey'
      have lm : lw t n s ≤ n := a2
      have e : (decide (lw t n s < n) && ble t (lw t n s)) = false := c2
      have il := isLetR b s f (q := s + m) (by omega)
      have sm : s + m = lw t n s := by rw [em]; unfold lw; omega
      rw [sm, e] at il
      have s_i : nI s + nI m = nI (lw t n s) := by rw [nI_add, sm]
      show b_X12_isWord_10 (f_X12_isWord_10 k) (rS h R s f) 308 (lN w) x (nI m) = _
      simp only [b_X12_isWord_10, q_308, rS_8, s_i, il, aBind_some, bB, if_true]
      unfold isWB
      rw [← em]
      by_cases z0 : m = 0
      · rw [if_pos (show nI m ≤ 0 by rw [z0]; decide), decide_eq_false (by omega)]
      · rw [if_neg (nI_nle (by omega) (by omega))]
        by_cases z8 : m < 8
        · rw [if_neg (show ¬ (8 : Int32) ≤ nI m from nI_ge (b := 8) z8 (by decide)), ex' z8]
          have pl := pkT_lt (t := t) (s := s) m (fun j hj => tn j (by omega))
          have p7 : 256 ^ m ≤ 256 ^ 7 := Nat.pow_le_pow_right (by decide) (by omega)
          have p56 : 256 ^ 7 = 2 ^ 56 := by decide
          by_cases y : pkT t s m = w
          · rw [if_pos (show lg_cmp (lN (pkT t s m)) (lN w) = 0 by rw [lg_cmp_eq, y]), decide_eq_true ⟨by omega, z8, y⟩]
          · rw [if_neg (show ¬ lg_cmp (lN (pkT t s m)) (lN w) = 0 from fun q => y ((pk_lEQ (by omega) (by omega)).mp (by rw [lg_cmp_eq] at q; exact q))), decide_eq_false (fun q => y q.2.2)]
        · rw [if_pos (show (8 : Int32) ≤ nI m from nI_le (a := 8) (by omega) (by omega)), decide_eq_false (by omega)]
  have z0 : (0 : Int64) = 0 := rfl
  simp only [f_X12_isWord, q_308, se, aBind_some]
  rw [key]
/-- the class's word is the reference's -/
theorem word_eq {t ch : Row} {n s e a z : Nat} (hl : ∀ j, s ≤ j → j < e → 97 ≤ t j ∧ t j ≤ 122) (hc : ∀ i, a ≤ i → i < z → 97 ≤ ch i ∧ ch i ≤ 122) (h7 : z - a < 8) (h0 : a < z) : mtB t ch s e a z = isWB t s e (pkT ch a (z - a)) := by
  have tn : ∀ i, i < e - s → 0 < (t (s + i)).toNatClampNeg ∧ (t (s + i)).toNatClampNeg < 256 := fun i hi => by
    obtain ⟨k, h1, h2, h3⟩ := let_n (hl (s + i) (by omega) (by omega))
    rw [h3, nI_clamp (by omega)]; omega
  have cn : ∀ i, i < z - a → 0 < (ch (a + i)).toNatClampNeg ∧ (ch (a + i)).toNatClampNeg < 256 := fun i hi => by
    obtain ⟨k, h1, h2, h3⟩ := let_n (hc (a + i) (by omega) (by omega))
    rw [h3, nI_clamp (by omega)]; omega
  have iff : mtB t ch s e a z = true ↔ isWB t s e (pkT ch a (z - a)) = true := by
    unfold mtB isWB
    rw [Bool.and_eq_true, decide_eq_true_iff, decide_eq_true_iff, eqs_iff]
    constructor
    · rintro ⟨h1, h2⟩
      refine ⟨by omega, by omega, ?_⟩
      rw [← h1]
      exact pkT_eq _ (fun i hi => h2 i (by omega) (by omega))
    · rintro ⟨h1, h2, h3⟩
      obtain ⟨x, y⟩ := pkT_inj _ _ tn cn h3
      refine ⟨x.symm, fun j p q => ?_⟩
      have yy := y j (by omega)
      obtain ⟨k1, u1, u2, u3⟩ := let_n (hl (s + j) (by omega) (by omega))
      obtain ⟨k2, w1, w2, w3⟩ := let_n (hc (a + j) (by omega) (by omega))
      rw [u3, w3, nI_clamp (by omega), nI_clamp (by omega)] at yy
      rw [u3, w3, yy]
  cases e1 : mtB t ch s e a z with
  | true => exact (iff.mp e1).symm
  | false =>
    cases e2 : isWB t s e (pkT ch a (z - a)) with
    | true => rw [iff.mpr e2] at e1; cases e1
    | false => rfl
