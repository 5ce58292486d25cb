/-! ===== rule: steps ===== -/
theorem stp_or {a v : Nat} (ha : a < 16) (hv : v < 100000) : nI a ||| (nI v <<< ((4 : Int32) &&& 31)) = nI (a + 16 * v) := by
  have e4 : (((4 : Int32) &&& 31).toBitVec.smod 32) = 4#32 := by decide
  have sh4 : (nI v <<< ((4 : Int32) &&& 31)) = nI (v * 16) := by
    refine Int32.toBitVec_inj.mp (BitVec.eq_of_toNat_eq ?_)
    rw [Int32.toBitVec_shiftLeft, e4, BitVec.shiftLeft_eq', show (4#32).toNat = 4 by decide, BitVec.toNat_shiftLeft, pk_tn (by omega), pk_tn (by omega), Nat.shiftLeft_eq]
    exact Nat.mod_eq_of_lt (by omega)
  have o : a ||| v * 16 = a + 16 * v := or_add (i := 4) (a := v) (b := a) (by omega)
  rw [sh4, nI_or (by omega) (by omega), o]
theorem stp_k {a v : Nat} (ha : a < 16) (hv : v < 100000) : nI (a + 16 * v) &&& 15 = nI a := by
  have o := nI_and (a := a + 16 * v) (b := 15) (by omega) (by omega)
  have m : (a + 16 * v) &&& 15 = a := by
    rw [show (15 : Nat) = 2 ^ 4 - 1 from rfl, Nat.and_two_pow_sub_one_eq_mod]
    omega
  rw [m] at o
  exact o
theorem stp_v {a v : Nat} (ha : a < 16) (hv : v < 100000) : nI (a + 16 * v) >>> 4 = nI v := by
  have e4 : ((4 : Int32).toBitVec.smod 32) = 4#32 := by decide
  have tn := pk_tn (n := a + 16 * v) (by omega)
  refine Int32.toBitVec_inj.mp (BitVec.eq_of_toNat_eq ?_)
  rw [Int32.toBitVec_shiftRight, e4, BitVec.sshiftRight_eq', BitVec.sshiftRight_eq_of_msb_false (BitVec.msb_eq_false_iff_two_mul_lt.mpr (by rw [tn]; omega)), show (4#32).toNat = 4 by decide, BitVec.toNat_ushiftRight, tn, pk_tn (by omega), Nat.shiftRight_eq_div_pow]
  omega
/-- a kind of the reference's, as the class has it -/
def ck (k : Nat) : Nat := if k = 14 then 6 else if k = 11 then 14 else if 6 ≤ k ∧ k ≤ 10 then k + 1 else k
theorem ck_lt : ∀ k, k < 15 → ck k < 16 ∧ kindOf (nI (ck k)) = nI k := by decide +kernel
/-! ===== rule: the grammar as a function ===== -/
abbrev GS := Nat × Nat × List (Nat × Nat)
abbrev Rs := Option (Sum Int32 GS)
def gB (r : Rs) (f : GS → Rs) : Rs := match r with
  | none => none
  | some (.inl e) => some (.inl e)
  | some (.inr s) => f s
def gK (s : GS) : Rs := some (.inr s)
def gX (f : Int32) : Rs := some (.inl f)
theorem gB_k (s : GS) (f : GS → Rs) : gB (gK s) f = f s := rfl
theorem gB_x (e : Int32) (f : GS → Rs) : gB (gX e) f = gX e := rfl
theorem gB_a (r : Rs) (f g : GS → Rs) : gB (gB r f) g = gB r (fun s => gB (f s) g) := by
  match r with
  | none => rfl
  | some (.inl _) => rfl
  | some (.inr _) => rfl
theorem gB_i (r : Rs) : gB r gK = r := by
  match r with
  | none => rfl
  | some (.inl _) => rfl
  | some (.inr _) => rfl
theorem gB_n {r : Rs} {f : GS → Rs} (h : gB r f ≠ none) : r ≠ none := fun y => h (by rw [y]; rfl)
theorem gK_inj {s s' : GS} (h : gK s = gK s') : s = s' := by
  unfold gK at h
  injection h with h
  injection h
theorem gK_nn {s : GS} (h : gK s = none) : False := by unfold gK at h; cases h
theorem gX_nn {f : Int32} (h : gX f = none) : False := by unfold gX at h; cases h
theorem gX_k {f : Int32} {s : GS} (h : gX f = gK s) : False := by unfold gX gK at h; cases h
def gEm (k x : Nat) (s : GS) : Rs := if s.2.2.length < 256 then gK (s.1, s.2.1, (k, x) :: s.2.2) else none
def gCnt (q : Nat) (s : GS) : Rs := if s.2.1 = 60 then gX (blm q 3 0) else gK (s.1, s.2.1 + 1, s.2.2)
def gVal (t : Row) (n : Nat) (s : GS) : Rs :=
  if (decide (sk t n s.1 < n) && bdg t (sk t n s.1)) = true then
    (if gd t n s.1 99999 = true then gB (gEm 0 (nv t n s.1).toNatClampNeg (nx t n s.1, s.2)) (gCnt (sk t n s.1)) else gX (nf t n s.1 99999 0))
  else match kW t (sk t n s.1) (lw t n (sk t n s.1)) wdW 0 with
    | none => gX (blm (sk t n s.1) 0 0)
    | some k => gB (gEm 1 k (lw t n (sk t n s.1), s.2)) (gCnt (sk t n s.1))
def opT (c : Int32) : Option Nat := if c = 42 then some 4 else if c = 47 then some 5 else if c = 37 then some 14 else none
def opS (c : Int32) : Option Nat := if c = 43 then some 2 else if c = 45 then some 3 else none
def gTL (t : Row) (n : Nat) : Nat → GS → Rs
  | 0, s => gK s
  | m + 1, s => match opT (bya t n (sk t n s.1)) with
    | none => gK (sk t n s.1, s.2)
    | some k => gB (gVal t n (sk t n s.1 + 1, s.2)) (fun s' => gB (gEm k 0 s') (gTL t n m))
def gTerm (t : Row) (n : Nat) (s : GS) : Rs := gB (gVal t n s) (gTL t n 401)
def gSL (t : Row) (n : Nat) : Nat → GS → Rs
  | 0, s => gK s
  | m + 1, s => match opS (bya t n (sk t n s.1)) with
    | none => gK (sk t n s.1, s.2)
    | some k => gB (gTerm t n (sk t n s.1 + 1, s.2)) (fun s' => gB (gEm k 0 s') (gSL t n m))
def gSum (t : Row) (n : Nat) (s : GS) : Rs := gB (gTerm t n s) (gSL t n 401)
def gCm (t : Row) (n q : Nat) : Option (Nat × Nat) :=
  if bya t n q = 60 then (if bya t n (q + 1) = 61 then some (7, q + 2) else some (6, q + 1))
  else if bya t n q = 62 then (if bya t n (q + 1) = 61 then some (9, q + 2) else some (10, q + 1))
  else if bya t n q = 61 then some (8, q + 1) else none
def gCp2 (t : Row) (n : Nat) (s : GS) : Rs := match gCm t n (sk t n s.1) with
    | none => gX (blm (sk t n s.1) 0 0)
    | some z => gB (gCnt (sk t n s.1) (z.2, s.2)) (fun s2 => gB (gSum t n s2) (gEm z.1 0))
def gCp (t : Row) (n : Nat) (s : GS) : Rs := gB (gSum t n s) (gCp2 t n)
def isH (t : Row) (n p w : Nat) : Bool := isWB t (sk t n p) (lw t n (sk t n p)) w
def gWL (t : Row) (n w k : Nat) (F : GS → Rs) : Nat → GS → Rs
  | 0, s => gK s
  | m + 1, s => if isH t n s.1 w = true then gB (F (lw t n (sk t n s.1), s.2)) (fun s' => gB (gEm k 0 s') (gWL t n w k F m)) else gK (sk t n s.1, s.2)
def gPt (t : Row) (n : Nat) (F : GS → Rs) (s : GS) : Rs := gB (F s) (gWL t n 6385252 12 F 401)
def gTs (t : Row) (n : Nat) (F : GS → Rs) (s : GS) : Rs := gB (gPt t n F s) (gWL t n 28530 13 (gPt t n F) 401)
def gCl (t : Row) (n : Nat) (s : GS) : Rs := if bya t n (sk t n s.1) = 93 then gK (sk t n s.1 + 1, s.2) else gX (blm (sk t n s.1) 0 0)
def gF (t : Row) (n : Nat) : Nat → GS → Rs
  | 0, s => if isH t n s.1 7237492 = true then gX (blm (sk t n s.1) 2 0) else if bya t n (sk t n s.1) = 91 then gX (blm (sk t n s.1) 2 0) else gCp t n s
  | e + 1, s => if isH t n s.1 7237492 = true then gB (gF t n e (lw t n (sk t n s.1), s.2)) (gEm 11 0) else if bya t n (sk t n s.1) = 91 then gB (gTs t n (gF t n e) (sk t n s.1 + 1, s.2)) (gCl t n) else gCp t n s
/-! the place goes on -/
def Mo (n : Nat) (f : GS → Rs) : Prop := ∀ s s' : GS, s.1 ≤ n → f s = gK s' → s.1 ≤ s'.1 ∧ s'.1 ≤ n
theorem gB_ok {r : Rs} {g : GS → Rs} {s' : GS} (h : gB r g = gK s') : ∃ s, r = gK s ∧ g s = gK s' := by
  match r with
  | none => exact (gK_nn (h.symm)).elim
  | some (.inl _) => exact (gX_k h).elim
  | some (.inr s) => exact ⟨s, rfl, h⟩
theorem Mo.b {n : Nat} {f g : GS → Rs} (x : Mo n f) (y : Mo n g) : Mo n (fun s => gB (f s) g) := by
  intro s s' h e
  obtain ⟨s1, e1, e2⟩ := gB_ok e
  have a := x s s1 h e1
  have b := y s1 s' a.2 e2
  exact ⟨by omega, b.2⟩
theorem Mo.mv {n : Nat} {f : GS → Rs} (x : Mo n f) {s s' : GS} {q : Nat} (h1 : s.1 ≤ q) (h2 : q ≤ n) (e : f (q, s.2) = gK s') : q ≤ s'.1 ∧ s.1 ≤ s'.1 ∧ s'.1 ≤ n := by
  have a := x (q, s.2) s' h2 e
  have a1 : q ≤ s'.1 := a.1
  exact ⟨a1, by omega, a.2⟩
theorem bya_c {t : Row} {n q : Nat} {c : Int32} (h : bya t n q = c) (hc : c ≠ -1) : q < n := by
  unfold bya at h
  by_cases z : q < n
  · exact z
  · rw [if_neg z] at h
    exact absurd h.symm hc
theorem mo_em {n k x : Nat} : Mo n (gEm k x) := by
  intro s s' h e
  unfold gEm at e
  by_cases z : s.2.2.length < 256
  · rw [if_pos z] at e
    have := gK_inj e
    subst this
    exact ⟨Nat.le_refl _, h⟩
  · rw [if_neg z] at e
    exact (gK_nn e.symm).elim
theorem mo_cnt {n q : Nat} : Mo n (gCnt q) := by
  intro s s' h e
  unfold gCnt at e
  by_cases z : s.2.1 = 60
  · rw [if_pos z] at e
    exact (gX_k e).elim
  · rw [if_neg z] at e
    have := gK_inj e
    subst this
    exact ⟨Nat.le_refl _, h⟩
theorem mo_val {t : Row} {n : Nat} : Mo n (gVal t n) := by
  intro s s' h e
  have sl := sk_le (t := t) h
  have ll := lw_le (t := t) sl.2
  have dl := de_le (t := t) sl.2
  unfold gVal at e
  by_cases z : (decide (sk t n s.1 < n) && bdg t (sk t n s.1)) = true
  · rw [if_pos z] at e
    by_cases g : gd t n s.1 99999 = true
    · rw [if_pos g] at e
      have dl' : sk t n s.1 ≤ nx t n s.1 ∧ nx t n s.1 ≤ n := dl
      obtain ⟨s1, e1, e2⟩ := gB_ok e
      have a := Mo.mv mo_em (s := s) (q := nx t n s.1) (by omega) dl'.2 e1
      have b := mo_cnt _ _ a.2.2 e2
      exact ⟨by omega, b.2⟩
    · rw [if_neg g] at e
      exact (gX_k e).elim
  · rw [if_neg z] at e
    cases kw : kW t (sk t n s.1) (lw t n (sk t n s.1)) wdW 0 with
    | none => rw [kw] at e; exact (gX_k e).elim
    | some k =>
      rw [kw] at e
      obtain ⟨s1, e1, e2⟩ := gB_ok e
      have a := Mo.mv mo_em (s := s) (q := lw t n (sk t n s.1)) (by omega) ll.2 e1
      have b := mo_cnt _ _ a.2.2 e2
      exact ⟨by omega, b.2⟩
theorem mo_sk {t : Row} {n : Nat} {s s' : GS} (h : s.1 ≤ n) (e : gK (sk t n s.1, s.2) = gK s') : s.1 ≤ s'.1 ∧ s'.1 ≤ n := by
  have := gK_inj e
  subst this
  exact sk_le h
theorem opT_c {t : Row} {n q k : Nat} (h : opT (bya t n q) = some k) : q < n ∧ (k = 4 ∨ k = 5 ∨ k = 14) := by
  unfold opT at h
  by_cases a : bya t n q = 42
  · rw [if_pos a] at h; injection h with h; exact ⟨bya_c a (by decide), by omega⟩
  · rw [if_neg a] at h
    by_cases b : bya t n q = 47
    · rw [if_pos b] at h; injection h with h; exact ⟨bya_c b (by decide), by omega⟩
    · rw [if_neg b] at h
      by_cases c : bya t n q = 37
      · rw [if_pos c] at h; injection h with h; exact ⟨bya_c c (by decide), by omega⟩
      · rw [if_neg c] at h; cases h
theorem opS_c {t : Row} {n q k : Nat} (h : opS (bya t n q) = some k) : q < n ∧ (k = 2 ∨ k = 3) := by
  unfold opS at h
  by_cases a : bya t n q = 43
  · rw [if_pos a] at h; injection h with h; exact ⟨bya_c a (by decide), by omega⟩
  · rw [if_neg a] at h
    by_cases b : bya t n q = 45
    · rw [if_pos b] at h; injection h with h; exact ⟨bya_c b (by decide), by omega⟩
    · rw [if_neg b] at h; cases h
theorem mo_tl {t : Row} {n : Nat} : ∀ m, Mo n (gTL t n m) := by
  intro m
  induction m with
  | zero => intro s s' h e; have := gK_inj e; subst this; exact ⟨Nat.le_refl _, h⟩
  | succ m ih =>
    intro s s' h e
    have sl := sk_le (t := t) h
    rw [gTL] at e
    cases o : opT (bya t n (sk t n s.1)) with
    | none => rw [o] at e; exact mo_sk h e
    | some k =>
      rw [o] at e
      have c := (opT_c o).1
      obtain ⟨s1, e1, e2⟩ := gB_ok e
      have a := Mo.mv mo_val (s := s) (q := sk t n s.1 + 1) (by omega) (by omega) e1
      have b := (mo_em.b ih) s1 s' a.2.2 e2
      exact ⟨by omega, b.2⟩
theorem mo_term {t : Row} {n : Nat} : Mo n (gTerm t n) := mo_val.b (mo_tl 401)
theorem mo_sl {t : Row} {n : Nat} : ∀ m, Mo n (gSL t n m) := by
  intro m
  induction m with
  | zero => intro s s' h e; have := gK_inj e; subst this; exact ⟨Nat.le_refl _, h⟩
  | succ m ih =>
    intro s s' h e
    have sl := sk_le (t := t) h
    rw [gSL] at e
    cases o : opS (bya t n (sk t n s.1)) with
    | none => rw [o] at e; exact mo_sk h e
    | some k =>
      rw [o] at e
      have c := (opS_c o).1
      obtain ⟨s1, e1, e2⟩ := gB_ok e
      have a := Mo.mv mo_term (s := s) (q := sk t n s.1 + 1) (by omega) (by omega) e1
      have b := (mo_em.b ih) s1 s' a.2.2 e2
      exact ⟨by omega, b.2⟩
theorem mo_sum {t : Row} {n : Nat} : Mo n (gSum t n) := mo_term.b (mo_sl 401)
theorem gCm_c {t : Row} {n q : Nat} {z : Nat × Nat} (h : gCm t n q = some z) : q < z.2 ∧ z.2 ≤ n ∧ 6 ≤ z.1 ∧ z.1 ≤ 10 := by
  unfold gCm at h
  by_cases a : bya t n q = 60
  · rw [if_pos a] at h
    have := bya_c a (by decide)
    by_cases b : bya t n (q + 1) = 61
    · rw [if_pos b] at h
      have := bya_c b (by decide)
      injection h with h; subst h
      exact ⟨by simp only []; omega, by simp only []; omega, Nat.le_of_ble_eq_true rfl, Nat.le_of_ble_eq_true rfl⟩
    · rw [if_neg b] at h
      injection h with h; subst h
      exact ⟨by simp only []; omega, by simp only []; omega, Nat.le_of_ble_eq_true rfl, Nat.le_of_ble_eq_true rfl⟩
  · rw [if_neg a] at h
    by_cases b : bya t n q = 62
    · rw [if_pos b] at h
      have := bya_c b (by decide)
      by_cases c : bya t n (q + 1) = 61
      · rw [if_pos c] at h
        have := bya_c c (by decide)
        injection h with h; subst h
        exact ⟨by simp only []; omega, by simp only []; omega, Nat.le_of_ble_eq_true rfl, Nat.le_of_ble_eq_true rfl⟩
      · rw [if_neg c] at h
        injection h with h; subst h
        exact ⟨by simp only []; omega, by simp only []; omega, Nat.le_of_ble_eq_true rfl, Nat.le_of_ble_eq_true rfl⟩
    · rw [if_neg b] at h
      by_cases c : bya t n q = 61
      · rw [if_pos c] at h
        have := bya_c c (by decide)
        injection h with h; subst h
        exact ⟨by simp only []; omega, by simp only []; omega, Nat.le_of_ble_eq_true rfl, Nat.le_of_ble_eq_true rfl⟩
      · rw [if_neg c] at h; cases h
theorem mo_cp2 {t : Row} {n : Nat} : Mo n (gCp2 t n) := by
  intro s s' h e
  have sl := sk_le (t := t) h
  unfold gCp2 at e
  cases o : gCm t n (sk t n s.1) with
  | none => rw [o] at e; exact (gX_k e).elim
  | some z =>
    rw [o] at e
    have c := gCm_c o
    obtain ⟨s1, e1, e2⟩ := gB_ok e
    have a := Mo.mv (n := n) mo_cnt (s := s) (q := z.2) (by omega) (by omega) e1
    have b := (mo_sum.b mo_em) s1 s' a.2.2 e2
    exact ⟨by omega, b.2⟩
theorem mo_cp {t : Row} {n : Nat} : Mo n (gCp t n) := mo_sum.b mo_cp2
theorem isH_lt {t : Row} {n p w : Nat} (hp : p ≤ n) (h : isH t n p w = true) : p < lw t n (sk t n p) ∧ lw t n (sk t n p) ≤ n ∧ sk t n p < n := by
  have sl := sk_le (t := t) hp
  have ll := lw_le (t := t) sl.2
  have := (of_decide_eq_true h).1
  omega
theorem mo_wl {t : Row} {n w k : Nat} {F : GS → Rs} (hF : Mo n F) : ∀ m, Mo n (gWL t n w k F m) := by
  intro m
  induction m with
  | zero => intro s s' h e; have := gK_inj e; subst this; exact ⟨Nat.le_refl _, h⟩
  | succ m ih =>
    intro s s' h e
    rw [gWL] at e
    by_cases o : isH t n s.1 w = true
    · rw [if_pos o] at e
      have c := isH_lt h o
      obtain ⟨s1, e1, e2⟩ := gB_ok e
      have a := Mo.mv hF (s := s) (q := lw t n (sk t n s.1)) (by omega) (by omega) e1
      have b := (mo_em.b ih) s1 s' a.2.2 e2
      exact ⟨by omega, b.2⟩
    · rw [if_neg o] at e; exact mo_sk h e
theorem mo_pt {t : Row} {n : Nat} {F : GS → Rs} (hF : Mo n F) : Mo n (gPt t n F) := hF.b (mo_wl hF 401)
theorem mo_ts {t : Row} {n : Nat} {F : GS → Rs} (hF : Mo n F) : Mo n (gTs t n F) := (mo_pt hF).b (mo_wl (mo_pt hF) 401)
theorem mo_cl {t : Row} {n : Nat} : Mo n (gCl t n) := by
  intro s s' h e
  have sl := sk_le (t := t) h
  unfold gCl at e
  by_cases z : bya t n (sk t n s.1) = 93
  · rw [if_pos z] at e
    have := bya_c z (by decide)
    have := gK_inj e
    subst this
    exact ⟨by show s.1 ≤ sk t n s.1 + 1; omega, by show sk t n s.1 + 1 ≤ n; omega⟩
  · rw [if_neg z] at e
    exact (gX_k e).elim
theorem mo_f {t : Row} {n : Nat} : ∀ e, Mo n (gF t n e) := by
  intro e
  induction e with
  | zero =>
    intro s s' h e
    rw [gF] at e
    by_cases o : isH t n s.1 7237492 = true
    · rw [if_pos o] at e; exact (gX_k e).elim
    · rw [if_neg o] at e
      by_cases z : bya t n (sk t n s.1) = 91
      · rw [if_pos z] at e; exact (gX_k e).elim
      · rw [if_neg z] at e; exact mo_cp s s' h e
  | succ d ih =>
    intro s s' h e
    have sl := sk_le (t := t) h
    rw [gF] at e
    by_cases o : isH t n s.1 7237492 = true
    · rw [if_pos o] at e
      have c := isH_lt h o
      obtain ⟨s1, e1, e2⟩ := gB_ok e
      have a := Mo.mv ih (s := s) (q := lw t n (sk t n s.1)) (by omega) (by omega) e1
      have b := mo_em s1 s' a.2.2 e2
      exact ⟨by omega, b.2⟩
    · rw [if_neg o] at e
      by_cases z : bya t n (sk t n s.1) = 91
      · rw [if_pos z] at e
        have := bya_c z (by decide)
        obtain ⟨s1, e1, e2⟩ := gB_ok e
        have a := Mo.mv (mo_ts ih) (s := s) (q := sk t n s.1 + 1) (by omega) (by omega) e1
        have b := mo_cl s1 s' a.2.2 e2
        exact ⟨by omega, b.2⟩
      · rw [if_neg z] at e; exact mo_cp s s' h e
