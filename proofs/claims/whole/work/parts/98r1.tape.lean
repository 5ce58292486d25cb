/-! ===== the tape: class ===== -/
def fdF (P : Nat → Bool) : Nat → Nat → Nat
  | 0, p => p
  | k + 1, p => if P p = true then fdF P k (p + 1) else p
def fd (P : Nat → Bool) (n p : Nat) : Nat := fdF P (n - p) p
theorem fdF_s (P : Nat → Bool) : ∀ k p, p ≤ fdF P k p ∧ fdF P k p ≤ p + k ∧ (∀ j, p ≤ j → j < fdF P k p → P j = true) ∧ (fdF P k p < p + k → P (fdF P k p) = false) := by
  intro k
  induction k with
  | zero => intro p; exact ⟨Nat.le_refl _, Nat.le_refl _, fun j h1 h2 => by have h3 : j < p := h2; omega, fun h => by have h3 : p < p + 0 := h; omega⟩
  | succ k ih =>
    intro p
    rw [fdF]
    by_cases q : P p = true
    · rw [if_pos q]
      obtain ⟨a, b, c, d⟩ := ih (p + 1)
      refine ⟨by omega, by omega, fun j h1 h2 => ?_, fun h => d (by omega)⟩
      by_cases y : j = p
      · rw [y]; exact q
      · exact c j (by omega) h2
    · rw [if_neg q]
      refine ⟨Nat.le_refl _, by omega, fun j h1 h2 => by omega, fun _ => ?_⟩
      cases e : P p with
      | true => exact absurd e q
      | false => rfl
theorem fd_s (P : Nat → Bool) {n p : Nat} (hp : p ≤ n) : p ≤ fd P n p ∧ fd P n p ≤ n ∧ (∀ j, p ≤ j → j < fd P n p → P j = true) ∧ (fd P n p < n → P (fd P n p) = false) := by
  obtain ⟨a, b, c, d⟩ := fdF_s P (n - p) p
  unfold fd
  exact ⟨a, by omega, c, fun h => d (by omega)⟩
theorem fd_id {P : Nat → Bool} {n p : Nat} (h : p < n → P p = false) : fd P n p = p := by
  unfold fd
  cases e : n - p with
  | zero => rfl
  | succ k => rw [fdF, h (by omega), if_neg (by decide)]
def bsp (t : Row) (j : Nat) : Bool := decide (t j = 32)
def bdg (t : Row) (j : Nat) : Bool := decide (48 ≤ t j ∧ t j ≤ 57)
def ble (t : Row) (j : Nat) : Bool := decide (97 ≤ t j ∧ t j ≤ 122)
def sk (t : Row) (n p : Nat) : Nat := fd (bsp t) n p
def de (t : Row) (n p : Nat) : Nat := fd (bdg t) n p
def lw (t : Row) (n p : Nat) : Nat := fd (ble t) n p
theorem sk_le {t : Row} {n p : Nat} (hp : p ≤ n) : p ≤ sk t n p ∧ sk t n p ≤ n := ⟨(fd_s (bsp t) hp).1, (fd_s (bsp t) hp).2.1⟩
theorem sk_sk {t : Row} {n p : Nat} (hp : p ≤ n) : sk t n (sk t n p) = sk t n p := fd_id (fd_s (bsp t) hp).2.2.2
/-- the class's tape at a place, with a fault -/
def cS (h : aH) (p : Nat) (f : Int32) : aH := wI h 1 (upd (upd (hI h 1) 2 (nI p)) 3 f)
theorem cS_o (h : aH) (p : Nat) (f : Int32) {b : Nat} (hb : b ≠ 1) : hI (cS h p f) b = hI h b := hI_wI_ne _ _ hb
theorem cS_1 (h : aH) (p : Nat) (f : Int32) : hI (cS h p f) 1 = upd (upd (hI h 1) 2 (nI p)) 3 f := hI_wI_eq _ _ _
theorem cS_11 (h : aH) (p : Nat) (f : Int32) : hI (cS h p f) 1 1 = hI h 1 1 := by rw [cS_1, upd_ne _ _ (by decide), upd_ne _ _ (by decide)]
theorem cS_12 (h : aH) (p : Nat) (f : Int32) : hI (cS h p f) 1 2 = nI p := by rw [cS_1, upd_ne _ _ (by decide), upd_at]
theorem cS_13 (h : aH) (p : Nat) (f : Int32) : hI (cS h p f) 1 3 = f := by rw [cS_1, upd_at]
theorem cS_R (h : aH) (p : Nat) (f : Int32) (b : Nat) : hR (cS h p f) b = hR h b := rfl
theorem cS_p (h : aH) (p q : Nat) (f : Int32) : pI (cS h p f) 1 2 (nI q) = cS h q f := by
  unfold cS
  rw [pI_wI, upd_comm (show (3 : Nat) ≠ 2 by decide), upd_upd]
theorem cS_f (h : aH) (p : Nat) (f f' : Int32) : pI (cS h p f) 1 3 f' = cS h p f' := by
  unfold cS
  rw [pI_wI, upd_upd]
def TB (h : aH) (t : Row) (n : Nat) : Prop := Str h ∧ hI h 1 1 = nI n ∧ n ≤ 400 ∧ ∀ j, j < 400 → hI h 2 j = t j ∧ Btw (t j) (-128) 127
theorem in_2 {k : Nat} (h : k < 400) : aIn (nI k) (sh 2).2 := by rw [sh_2]; exact vp_in_nI h (by decide)
theorem in_309 {k : Nat} (h : k < 400) : aIn (nI k) (sh 309).2 := by rw [sh_309]; exact vp_in_nI h (by decide)
theorem seekC {h : aH} {t : Row} {n : Nat} (b : TB h t n) {p : Nat} (hp : p ≤ n) (f : Int32) : f_X9_seek (cS h p f) 1 = some (nI (sk t n p), cS h (sk t n p) f) := by
  obtain ⟨hS, b1, b2, b3⟩ := b
  obtain ⟨a1, a2, a3, a4⟩ := fd_s (bsp t) hp
  refine itLoop (σ := aH) (fun k s => f_X9_seek_0 k s 1) (fun i s => s = cS h (p + i) f) (fun o => o = some (nI (sk t n p), cS h (sk t n p) f)) (sk t n p - p) ?_ ?_ 2000 0 (cS h p f) rfl (by omega) (by unfold sk; omega)
  · rintro k i _ hi rfl
    have q1 : p + i < fd (bsp t) n p := by unfold sk at hi; omega
    have sp : t (p + i) = 32 := of_decide_eq_true (a3 (p + i) (by omega) q1)
    refine Or.inr ⟨_, rfl, ?_⟩
    show b_X9_seek_0 (f_X9_seek_0 k) (cS h (p + i) f) 1 = _
    have c : ¬ nI n ≤ nI (p + i) := nI_ge (by omega) (by omega)
    have tj : hI (cS h (p + i) f) 2 (p + i) = 32 := by rw [cS_o _ _ _ (by decide), (b3 _ (by omega)).1, sp]
    simp only [b_X9_seek_0, q_1, cS_11, cS_12, b1, if_neg c, cS_R, r_1_0 hS, Option.bind_some, aLet, q_2, if_pos (in_2 (show p + i < 400 by omega)), nI_clamp (show p + i < 2 ^ 31 by omega), tj, if_true, i1, cS_p, Nat.add_assoc]
  · rintro k _ rfl
    have e : p + (sk t n p - p) = sk t n p := by unfold sk; omega
    rw [e]
    show b_X9_seek_0 (f_X9_seek_0 k) (cS h (sk t n p) f) 1 = _
    by_cases c : sk t n p < n
    · have sp : ¬ t (sk t n p) = 32 := of_decide_eq_false (a4 c)
      have c' : ¬ nI n ≤ nI (sk t n p) := nI_ge c (by omega)
      have tj : ¬ hI (cS h (sk t n p) f) 2 (sk t n p) = 32 := by rw [cS_o _ _ _ (by decide), (b3 _ (by omega)).1]; exact sp
      simp only [b_X9_seek_0, q_1, cS_11, cS_12, b1, if_neg c', cS_R, r_1_0 hS, Option.bind_some, aLet, q_2, if_pos (in_2 (show sk t n p < 400 by omega)), nI_clamp (show sk t n p < 2 ^ 31 by omega), if_neg tj]
    · have c' : nI n ≤ nI (sk t n p) := nI_le (by omega) (by have : sk t n p ≤ n := a2; omega)
      simp only [b_X9_seek_0, q_1, cS_11, cS_12, b1, if_pos c']
def bya (t : Row) (n q : Nat) : Int32 := if q < n then t q &&& 255 else -1
theorem byteC {h : aH} {t : Row} {n : Nat} (b : TB h t n) (p : Nat) (f : Int32) {q : Nat} (hq : q ≤ 400) : f_X9_byteAt (cS h p f) 1 (nI q) = some (bya t n q, cS h p f) := by
  obtain ⟨hS, b1, b2, b3⟩ := b
  unfold bya
  by_cases c : q < n
  · have c' : ¬ nI n ≤ nI q := nI_ge c (by omega)
    have tj : hI (cS h p f) 2 q = t q := by rw [cS_o _ _ _ (by decide), (b3 _ (by omega)).1]
    simp only [f_X9_byteAt, if_neg (nI_pos (show q < 2 ^ 31 by omega)), q_1, cS_11, b1, if_neg c', cS_R, r_1_0 hS, Option.bind_some, q_2, if_pos (in_2 (show q < 400 by omega)), nI_clamp (show q < 2 ^ 31 by omega), tj, if_pos c]
  · have c' : nI n ≤ nI q := nI_le (by omega) (by omega)
    simp only [f_X9_byteAt, if_neg (nI_pos (show q < 2 ^ 31 by omega)), q_1, cS_11, b1, if_pos c', if_neg c]
theorem nextC {h : aH} {t : Row} {n : Nat} (b : TB h t n) {p : Nat} (hp : p ≤ n) (f : Int32) : f_X9_next (cS h p f) 1 = some (bya t n (sk t n p), cS h (sk t n p) f) := by
  have s := sk_le (t := t) hp
  simp only [f_X9_next, q_1, seekC b hp f, aBind_some, byteC b (sk t n p) f (show sk t n p ≤ 400 by have := b.2.2.1; omega)]
theorem takeSignC {h : aH} {t : Row} {n : Nat} (b : TB h t n) {p : Nat} (hp : p ≤ n) (f c : Int32) : f_X9_takeSign (cS h p f) 1 c = if bya t n (sk t n p) = c then some (1, cS h (sk t n p + 1) f) else some (0, cS h (sk t n p) f) := by
  simp only [f_X9_takeSign, q_1, nextC b hp f, aBind_some, cS_12, i1, aLet, cS_p]
theorem onceC {h : aH} {t : Row} {n : Nat} (b : TB h t n) {p : Nat} (hp : p ≤ n) (f c : Int32) : f_X9_takeSignAtOnce (cS h p f) 1 c = if bya t n p = c then some (1, cS h (p + 1) f) else some (0, cS h p f) := by
  simp only [f_X9_takeSignAtOnce, q_1, cS_12, byteC b p f (show p ≤ 400 by have := b.2.2.1; omega), aBind_some, i1, aLet, cS_p]
def blm (p : Nat) (k f : Int32) : Int32 := if f = 0 then (1 + 8 * nI p) + k else f
theorem blameC (h : aH) (p q : Nat) (f k : Int32) : f_X9_blame (cS h p f) 1 (nI q) k = some ((), cS h p (blm q k f)) := by
  unfold blm
  by_cases z : f = 0
  · rw [if_pos z]
    simp only [f_X9_blame, q_1, cS_13, if_pos z, aLet, cS_f]
  · rw [if_neg z]
    simp only [f_X9_blame, q_1, cS_13, if_neg z]
/-! bytes -/
theorem byte_k {x : Int32} (h : Btw x (-128) 127) : ∃ k, k < 256 ∧ x = nI k - 128 := by
  have h0 : 0 ≤ x + 128 ∧ x + 128 ≤ 255 := by
    have a := Int32.le_iff_toInt_le.mp h.1
    have c := Int32.le_iff_toInt_le.mp h.2
    have e1 : (-128 : Int32).toInt = -128 := by decide
    have e2 : (127 : Int32).toInt = 127 := by decide
    have e3 : (128 : Int32).toInt = 128 := by decide
    have e0 : (0 : Int32).toInt = 0 := by decide
    have e5 : (255 : Int32).toInt = 255 := by decide
    have s : (x + 128).toInt = x.toInt + 128 := by
      rw [Int32.toInt_add, e3]
      exact Int.bmod_eq_of_le (by omega) (by omega)
    exact ⟨Int32.le_iff_toInt_le.mpr (by rw [e0, s]; omega), Int32.le_iff_toInt_le.mpr (by rw [e5, s]; omega)⟩
  obtain ⟨k, hk, ek⟩ := btw_nI h0 (m := 255) (by decide)
  exact ⟨k, by omega, by rw [← ek, Int32.add_sub_cancel]⟩
theorem byte_d : ∀ k, k < 256 → ((¬ (nI k - 128) &&& 255 < 48 ∧ ¬ 57 < (nI k - 128) &&& 255) ↔ (48 ≤ nI k - 128 ∧ nI k - 128 ≤ 57)) ∧ ((¬ (nI k - 128) &&& 255 < 97 ∧ ¬ 122 < (nI k - 128) &&& 255) ↔ (97 ≤ nI k - 128 ∧ nI k - 128 ≤ 122)) ∧ (48 ≤ nI k - 128 ∧ nI k - 128 ≤ 57 → (nI k - 128) &&& 255 = nI k - 128) := by decide +kernel
theorem byte_s : ∀ k, k < 256 → ∀ c, c < 128 → ((nI k - 128) &&& 255 = nI c ↔ nI k - 128 = nI c) := by decide +kernel
theorem byte_n : ∀ k, k < 256 → ¬ (nI k - 128) &&& 255 = -1 := by decide +kernel
theorem dig_c {x : Int32} (h : Btw x (-128) 127) : (¬ x &&& 255 < 48 ∧ ¬ 57 < x &&& 255) ↔ (48 ≤ x ∧ x ≤ 57) := by
  obtain ⟨k, hk, rfl⟩ := byte_k h; exact (byte_d k hk).1
theorem let_c {x : Int32} (h : Btw x (-128) 127) : (¬ x &&& 255 < 97 ∧ ¬ 122 < x &&& 255) ↔ (97 ≤ x ∧ x ≤ 122) := by
  obtain ⟨k, hk, rfl⟩ := byte_k h; exact (byte_d k hk).2.1
theorem dig_v {x : Int32} (h : Btw x (-128) 127) (d : 48 ≤ x ∧ x ≤ 57) : x &&& 255 = x := by
  obtain ⟨k, hk, rfl⟩ := byte_k h; exact (byte_d k hk).2.2 d
theorem isDigC (h : aH) {x : Int32} (hx : Btw x (-128) 127) : f_X9_isDigit h 1 (x &&& 255) = some (bB (decide (48 ≤ x ∧ x ≤ 57)), h) := by
  simp only [f_X9_isDigit]
  by_cases d : 48 ≤ x ∧ x ≤ 57
  · have e := (dig_c hx).mpr d
    rw [if_neg e.1, if_neg e.2, decide_eq_true d]; rfl
  · rw [decide_eq_false d]
    by_cases a : x &&& 255 < 48
    · rw [if_pos a]; rfl
    · rw [if_neg a]
      by_cases c : 57 < x &&& 255
      · rw [if_pos c]; rfl
      · exact absurd ((dig_c hx).mp ⟨a, c⟩) d
theorem isLetC (h : aH) {x : Int32} (hx : Btw x (-128) 127) : f_X9_isLetter h 1 (x &&& 255) = some (bB (decide (97 ≤ x ∧ x ≤ 122)), h) := by
  simp only [f_X9_isLetter]
  by_cases d : 97 ≤ x ∧ x ≤ 122
  · have e := (let_c hx).mpr d
    rw [if_neg e.1, if_neg e.2, decide_eq_true d]; rfl
  · rw [decide_eq_false d]
    by_cases a : x &&& 255 < 97
    · rw [if_pos a]; rfl
    · rw [if_neg a]
      by_cases c : 122 < x &&& 255
      · rw [if_pos c]; rfl
      · exact absurd ((let_c hx).mp ⟨a, c⟩) d
/-- the value of the first five digits -/
def vl (t : Row) (s : Nat) : Nat → Int32
  | 0 => 0
  | m + 1 => if m < 5 then ((vl t s m * 10) + t (s + m)) - 48 else vl t s m
def nf (t : Row) (n p : Nat) (most f : Int32) : Int32 := if de t n (sk t n p) = sk t n p then blm (sk t n p) 0 f else if de t n (sk t n p) - sk t n p ≤ 5 ∧ vl t (sk t n p) (de t n (sk t n p) - sk t n p) ≤ most then f else blm (sk t n p) 1 f
def nv (t : Row) (n p : Nat) : Int32 := vl t (sk t n p) (de t n (sk t n p) - sk t n p)
theorem takeNumberC {h : aH} {t : Row} {n : Nat} (b : TB h t n) {p : Nat} (hp : p ≤ n) (f most : Int32) : f_X9_takeNumber (cS h p f) 1 most = some (if nf t n p most f = 0 then nv t n p else 0, cS h (de t n (sk t n p)) (nf t n p most f)) := by
  obtain ⟨hS, b1, b2, b3⟩ := b
  have b : TB h t n := ⟨hS, b1, b2, b3⟩
  have s := sk_le (t := t) hp
  obtain ⟨S0, eS0⟩ : ∃ s, s = sk t n p := ⟨_, rfl⟩
  rw [← eS0] at s
  obtain ⟨a1, a2, a3, a4⟩ := fd_s (bdg t) (p := S0) s.2
  have key : f_X9_takeNumber_7 2000 (cS h S0 f) 1 most (nI S0) 0 = b_X9_takeNumber_73 (cS h (de t n S0) f) 1 most (nI S0) (vl t S0 (de t n S0 - S0)) := by
    refine itLoop (σ := aH × Int32) (fun k s => f_X9_takeNumber_7 k s.1 1 most (nI S0) s.2) (fun i s => s = (cS h (S0 + i) f, vl t S0 i)) (fun o => o = b_X9_takeNumber_73 (cS h (de t n S0) f) 1 most (nI S0) (vl t S0 (de t n S0 - S0))) (de t n S0 - S0) ?_ ?_ 2000 0 (cS h S0 f, 0) rfl (by omega) (by unfold de; omega)
    · rintro k i _ hi rfl
      have q1 : S0 + i < fd (bdg t) n S0 := by unfold de at hi; omega
      have dg : 48 ≤ t (S0 + i) ∧ t (S0 + i) ≤ 57 := of_decide_eq_true (a3 (S0 + i) (by omega) q1)
      have c : ¬ nI n ≤ nI (S0 + i) := nI_ge (by omega) (by omega)
      have bt := (b3 (S0 + i) (by omega)).2
      have by' := byteC b (S0 + i) f (q := S0 + i) (by omega)
      unfold bya at by'
      rw [if_pos (by omega)] at by'
      have dd := isDigC (cS h (S0 + i) f) bt
      rw [decide_eq_true dg, dig_v bt dg] at dd
      rw [dig_v bt dg] at by'
      have sb : nI (S0 + i) - nI S0 = nI i := by rw [pk_sub (by omega)]; congr 1; omega
      refine Or.inr ⟨_, rfl, ?_⟩
      show b_X9_takeNumber_7 (f_X9_takeNumber_7 k) (cS h (S0 + i) f) 1 most (nI S0) (vl t S0 i) = f_X9_takeNumber_7 k (cS h (S0 + (i + 1)) f) 1 most (nI S0) (vl t S0 (i + 1))
      simp only [b_X9_takeNumber_7, q_1, cS_11, cS_12, b1, if_neg c, by', aBind_some, dd, bB, if_neg (show ¬ (1 : Int32) = 0 by decide), sb, aLet, b_X9_takeNumber_60, i1, cS_p, vl, Nat.add_assoc]
      by_cases z : i < 5
      · rw [if_pos z, if_neg (show ¬ (5 : Int32) ≤ nI i from nI_ge (b := 5) z (by decide))]
      · rw [if_neg z, if_pos (show (5 : Int32) ≤ nI i from nI_le (a := 5) (by omega) (by omega))]
    · rintro k _ rfl
      have e : S0 + (de t n S0 - S0) = de t n S0 := by unfold de; omega
      show f_X9_takeNumber_7 (k + 1) (cS h (S0 + (de t n S0 - S0)) f) 1 most (nI S0) (vl t S0 (de t n S0 - S0)) = _
      rw [e]
      show b_X9_takeNumber_7 (f_X9_takeNumber_7 k) (cS h (de t n S0) f) 1 most (nI S0) (vl t S0 (de t n S0 - S0)) = _
      by_cases c : de t n S0 < n
      · have c' : ¬ nI n ≤ nI (de t n S0) := nI_ge c (by omega)
        have bt := (b3 (de t n S0) (by omega)).2
        have by' := byteC b (de t n S0) f (q := de t n S0) (by omega)
        unfold bya at by'
        rw [if_pos c] at by'
        have nd : ¬ (48 ≤ t (de t n S0) ∧ t (de t n S0) ≤ 57) := of_decide_eq_false (a4 c)
        have dd := isDigC (cS h (de t n S0) f) bt
        rw [decide_eq_false nd] at dd
        simp only [b_X9_takeNumber_7, q_1, cS_11, cS_12, b1, if_neg c', by', aBind_some, dd, bB, if_true]
      · have c' : nI n ≤ nI (de t n S0) := nI_le (by omega) (by have : de t n S0 ≤ n := a2; omega)
        simp only [b_X9_takeNumber_7, q_1, cS_11, cS_12, b1, if_pos c']
  have sk' := seekC b hp f
  rw [← eS0] at sk'
  have dn : de t n S0 ≤ n := a2
  have d1 : S0 ≤ de t n S0 := a1
  unfold nf nv
  rw [← eS0]
  have s111 : ∀ g x, b_X9_takeNumber_111 (cS h (de t n S0) g) 1 x = some (if g = 0 then x else 0, cS h (de t n S0) g) := fun g x => by
    simp only [b_X9_takeNumber_111, q_1, cS_13]
    split <;> rfl
  simp only [f_X9_takeNumber, q_1, sk', aBind_some, key, b_X9_takeNumber_73, cS_12, b_X9_takeNumber_105, blameC, s111]
  have sb : nI (de t n S0) - nI S0 = nI (de t n S0 - S0) := pk_sub d1
  rw [sb]
  by_cases z : de t n S0 = S0
  · rw [if_pos z, if_pos (by rw [z])]
  · rw [if_neg z, if_neg (fun y => z ((nI_eq (by omega) (by omega)).mp y))]
    by_cases y : de t n S0 - S0 ≤ 5
    · rw [if_neg (show ¬ (5 : Int32) < nI (de t n S0 - S0) from nI_nlt (a := 5) y (by decide))]
      by_cases w : vl t S0 (de t n S0 - S0) ≤ most
      · rw [if_pos w, if_pos (show de t n S0 - S0 ≤ 5 ∧ vl t S0 (de t n S0 - S0) ≤ most from ⟨y, w⟩)]
      · rw [if_neg w, if_neg (show ¬ (de t n S0 - S0 ≤ 5 ∧ vl t S0 (de t n S0 - S0) ≤ most) from fun x => w x.2)]
    · rw [if_pos (show (5 : Int32) < nI (de t n S0 - S0) from nI_lt (a := 5) (by omega) (by omega)), if_neg (show ¬ (de t n S0 - S0 ≤ 5 ∧ vl t S0 (de t n S0 - S0) ≤ most) from fun x => y x.1)]
