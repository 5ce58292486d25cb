/-! ===== the tape: reference's numbers ===== -/
theorem vl_n {t : Row} {s : Nat} : ∀ m, m ≤ 5 → (∀ i, i < m → 48 ≤ t (s + i) ∧ t (s + i) ≤ 57) → ∃ k, k < 10 ^ m ∧ vl t s m = nI k := by
  intro m
  induction m with
  | zero => intro _ _; exact ⟨0, by decide, rfl⟩
  | succ m ih =>
    intro hm hd
    obtain ⟨k, hk, ek⟩ := ih (by omega) (fun i hi => hd i (by omega))
    have d := hd m (by omega)
    obtain ⟨c, hc, ec⟩ := btw_nI (M := 57) (m := 57) ⟨Int32.le_trans (by decide) d.1, d.2⟩ (by decide)
    have c48 : 48 ≤ c := by
      have a := d.1
      rw [ec] at a
      exact (nI_leI (a := 48) (by decide) (by omega)).mp a
    have e10 : (10 : Int32) = nI 10 := rfl
    have e48 : (48 : Int32) = nI 48 := rfl
    refine ⟨k * 10 + c - 48, ?_, ?_⟩
    · rw [Nat.pow_succ]; omega
    · rw [vl, if_pos (by omega), ek, ec, e10, e48, pk_mul, nI_add, pk_sub (by omega)]
def gd (t : Row) (n p : Nat) (most : Int32) : Bool := decide (¬ de t n (sk t n p) = sk t n p ∧ de t n (sk t n p) - sk t n p ≤ 5 ∧ nv t n p ≤ most)
theorem nf_gd {t : Row} {n p : Nat} {most f : Int32} (h : gd t n p most = true) : nf t n p most f = f := by
  obtain ⟨h1, h2, h3⟩ := of_decide_eq_true h
  unfold nf
  unfold nv at h3
  rw [if_neg h1, if_pos ⟨h2, h3⟩]
theorem blm_ne {p : Nat} {k : Int32} (hp : p ≤ 400) (hk : k = 0 ∨ k = 1 ∨ k = 4) : ¬ blm p k 0 = 0 := by
  unfold blm
  rw [if_pos rfl]
  have e : (1 + 8 * nI p) + k = nI (1 + 8 * p + k.toNatClampNeg) := by
    have e8 : (8 : Int32) = nI 8 := rfl
    have e1 : (1 : Int32) = nI 1 := rfl
    have ek : k = nI k.toNatClampNeg := by rcases hk with rfl | rfl | rfl <;> rfl
    rw [e8, e1, pk_mul, nI_add]
    conv => lhs; rw [ek]
    rw [nI_add]
  have k4 : k.toNatClampNeg ≤ 4 := by rcases hk with rfl | rfl | rfl <;> decide
  rw [e]
  intro y
  have y' : nI (1 + 8 * p + k.toNatClampNeg) = nI 0 := y
  have := (nI_eq (by omega) (by omega)).mp y'
  omega
theorem nf_ng {t : Row} {n p : Nat} {most : Int32} (hn : n ≤ 400) (hp : p ≤ n) (h : gd t n p most = false) : ¬ nf t n p most 0 = 0 := by
  have s := sk_le (t := t) hp
  have h' := of_decide_eq_false h
  unfold nf
  by_cases a : de t n (sk t n p) = sk t n p
  · rw [if_pos a]; exact blm_ne (by omega) (Or.inl rfl)
  · rw [if_neg a]
    by_cases c : de t n (sk t n p) - sk t n p ≤ 5 ∧ vl t (sk t n p) (de t n (sk t n p) - sk t n p) ≤ most
    · exact absurd ⟨a, c.1, c.2⟩ h'
    · rw [if_neg c]; exact blm_ne (by omega) (Or.inr (Or.inl rfl))
theorem nf_f {t : Row} {n p : Nat} {most f : Int32} (h : ¬ f = 0) : nf t n p most f = f := by
  unfold nf blm
  rw [if_neg h]
  split
  · rfl
  · split
    · rfl
    · rfl
theorem de_le {t : Row} {n p : Nat} (hp : p ≤ n) : p ≤ de t n p ∧ de t n p ≤ n := ⟨(fd_s (bdg t) hp).1, (fd_s (bdg t) hp).2.1⟩
theorem lw_le {t : Row} {n p : Nat} (hp : p ≤ n) : p ≤ lw t n p ∧ lw t n p ≤ n := ⟨(fd_s (ble t) hp).1, (fd_s (ble t) hp).2.1⟩
theorem TRB.u {h : aH} {R t : Row} {n : Nat} (b : TRB h R t n) {j : Nat} (hj : j ≠ 1) (x : Int32) : TRB h (upd R j x) t n := ⟨b.1, by rw [upd_ne _ _ (fun y => hj y.symm)]; exact b.2.1, b.2.2⟩
def nR (t : Row) (n p : Nat) (R : Row) : Row := if de t n (sk t n p) = sk t n p then R else upd R 10 (nv t n p)
theorem nv_nn {t : Row} {n p : Nat} {most : Int32} (hp : p ≤ n) (h : gd t n p most = true) : ∃ k, k < 100000 ∧ nv t n p = nI k := by
  obtain ⟨h1, h2, h3⟩ := of_decide_eq_true h
  have s := sk_le (t := t) hp
  obtain ⟨a1, a2, a3, a4⟩ := fd_s (bdg t) (p := sk t n p) s.2
  obtain ⟨k, hk, ek⟩ := vl_n (t := t) (s := sk t n p) (de t n (sk t n p) - sk t n p) h2 (fun i hi => of_decide_eq_true (a3 (sk t n p + i) (by omega) (by unfold de at hi; omega)))
  have p5 : 10 ^ (de t n (sk t n p) - sk t n p) ≤ 10 ^ 5 := Nat.pow_le_pow_right (by decide) h2
  exact ⟨k, by omega, ek⟩
theorem numberR {h : aH} {R t : Row} {n : Nat} (b : TRB h R t n) {p : Nat} (hp : p ≤ n) (f most : Int32) : f_X12_numberHere (rS h R p f) 308 0 most = some (bB (gd t n p most), rS h (nR t n p R) (de t n (sk t n p)) (nf t n p most f)) := by
  obtain ⟨hS, b1, b2, b3⟩ := b
  have b : TRB h R t n := ⟨hS, b1, b2, b3⟩
  have sl := sk_le (t := t) hp
  have nn := nv_nn (t := t) (most := most) hp
  unfold gd at nn ⊢
  unfold nf nR
  unfold nv at nn ⊢
  have se := seeR b hp f
  obtain ⟨s, es⟩ : ∃ s, s = sk t n p := ⟨_, rfl⟩
  rw [← es] at sl se nn ⊢
  obtain ⟨a1, a2, a3, a4⟩ := fd_s (bdg t) sl.2
  obtain ⟨c1, c2⟩ := fd_at (P := bdg t) sl.2
  have d1 : s ≤ de t n s := a1
  have d2 : de t n s ≤ n := a2
  have ce : (decide (de t n s < n) && bdg t (de t n s)) = false := c2
  by_cases z : de t n s = s
  · have dg := isDigR b s f (q := s) (by omega)
    rw [z] at ce
    rw [ce] at dg
    simp only [f_X12_numberHere, q_308, se, aBind_some, rS_8, dg, bB, if_true, failsR, true_or]
    rw [if_pos z, if_pos z, z, decide_eq_false (fun y => y.1 rfl)]
  · rw [if_neg z, if_neg z]
    have dg := isDigR b s f (q := s) (by omega)
    have c0 := c1 0 (by have : de t n s = fd (bdg t) n s := rfl; omega)
    rw [show s + 0 = s from rfl] at c0
    rw [c0] at dg
    have n117 : ∀ q, b_X12_numberHere_117 (rS h (upd R 10 q) (de t n s) f) 308 (nI s) = some (0, rS h (upd R 10 q) (de t n s) (blm s 1 f)) := fun q => by
      simp only [b_X12_numberHere_117, q_308, failsR, aBind_some, if_true]
    have key : f_X12_numberHere_34 2000 (rS h R s f) 308 0 most (nI s) 0 = some (bB (decide (¬ de t n s = s ∧ de t n s - s ≤ 5 ∧ vl t s (de t n s - s) ≤ most)), rS h (upd R 10 (vl t s (de t n s - s))) (de t n s) (if de t n s - s ≤ 5 ∧ vl t s (de t n s - s) ≤ most then f else blm s 1 f)) := by
      refine itLoop (σ := aH × Int32) (fun k x => f_X12_numberHere_34 k x.1 308 0 most (nI s) x.2) (fun i x => x = (rS h R (s + i) f, vl t s i)) (fun o => o = some (bB (decide (¬ de t n s = s ∧ de t n s - s ≤ 5 ∧ vl t s (de t n s - s) ≤ most)), rS h (upd R 10 (vl t s (de t n s - s))) (de t n s) (if de t n s - s ≤ 5 ∧ vl t s (de t n s - s) ≤ most then f else blm s 1 f))) (de t n s - s) ?_ ?_ 2000 0 (rS h R s f, 0) rfl (by omega) (by omega)
      · rintro k i _ hi rfl
        have c := c1 i hi
        have il := isDigR b (s + i) f (q := s + i) (by omega)
        rw [c] at il
        have sb : nI (s + i) - nI s = nI i := by rw [pk_sub (by omega)]; congr 1; omega
        have tj : hI (rS h R (s + i) f) 309 (s + i) = t (s + i) := by rw [rS_o _ _ _ _ (by decide), (b3 _ (by omega)).1]
        refine Or.inr ⟨_, rfl, ?_⟩
        show b_X12_numberHere_34 (f_X12_numberHere_34 k) (rS h R (s + i) f) 308 0 most (nI s) (vl t s i) = f_X12_numberHere_34 k (rS h R (s + (i + 1)) f) 308 0 most (nI s) (vl t s (i + 1))
        by_cases y : i < 5
        · have l5 : ¬ (5 : Int32) ≤ nI i := nI_ge (b := 5) y (by decide)
          have e : (10 * vl t s i + t (s + i)) - 48 = vl t s (i + 1) := by rw [vl, if_pos y, Int32.mul_comm]
          simp only [b_X12_numberHere_34, q_308, rS_8, il, aBind_some, bB, if_neg (show ¬ (1 : Int32) = 0 by decide), sb, if_neg l5, rS_R, r_308_0 hS, Option.bind_some, aLet, q_309, if_pos (in_309 (show s + i < 400 by omega)), nI_clamp (show s + i < 2 ^ 31 by omega), tj, e, b_X12_numberHere_75, i1, rS_p, Nat.add_assoc]
        · have l5 : (5 : Int32) ≤ nI i := nI_le (a := 5) (by omega) (by omega)
          have e : vl t s (i + 1) = vl t s i := by rw [vl, if_neg y]
          rw [e]
          simp only [b_X12_numberHere_34, q_308, rS_8, il, aBind_some, bB, if_neg (show ¬ (1 : Int32) = 0 by decide), sb, if_pos l5, aLet, b_X12_numberHere_75, i1, rS_p, Nat.add_assoc]
      · rintro k _ rfl
        have e : s + (de t n s - s) = de t n s := by omega
        show f_X12_numberHere_34 (k + 1) (rS h R (s + (de t n s - s)) f) 308 0 most (nI s) (vl t s (de t n s - s)) = _
        rw [e]
        show b_X12_numberHere_34 (f_X12_numberHere_34 k) (rS h R (de t n s) f) 308 0 most (nI s) (vl t s (de t n s - s)) = _
        have il := isDigR b (de t n s) f (q := de t n s) (by omega)
        rw [ce] at il
        have sb : nI (de t n s) - nI s = nI (de t n s - s) := pk_sub d1
        by_cases y : de t n s - s ≤ 5
        · have l5 : ¬ (5 : Int32) < nI (de t n s - s) := nI_nlt (a := 5) y (by decide)
          have ii := in_i (h := rS h (upd R 10 (vl t s (de t n s - s))) (de t n s) f) (b := (0 : Int32).toInt64) (c := most.toInt64) (vl t s (de t n s - s)) 0 most rfl rfl
          by_cases w : vl t s (de t n s - s) ≤ most
          · obtain ⟨v, hv, ev⟩ := nn (decide_eq_true ⟨z, y, w⟩)
            have v0 : 0 ≤ vl t s (de t n s - s) := by rw [ev]; exact Int32.not_lt.mp (nI_pos (by omega))
            rw [if_pos (show 0 ≤ vl t s (de t n s - s) ∧ vl t s (de t n s - s) ≤ most from ⟨v0, w⟩)] at ii
            rw [decide_eq_true ⟨z, y, w⟩, if_pos (show de t n s - s ≤ 5 ∧ vl t s (de t n s - s) ≤ most from ⟨y, w⟩)]
            simp only [b_X12_numberHere_34, q_308, rS_8, il, aBind_some, bB, if_true, aLet, rS_u _ _ _ _ _ (show (10 : Nat) ≠ 8 by decide) (show (10 : Nat) ≠ 9 by decide), sb, if_neg l5, ii, if_neg (show ¬ (1 : Int32) = 0 by decide)]
          · rw [if_neg (show ¬ (0 ≤ vl t s (de t n s - s) ∧ vl t s (de t n s - s) ≤ most) from fun q => w q.2)] at ii
            rw [decide_eq_false (fun q => w q.2.2), if_neg (show ¬ (de t n s - s ≤ 5 ∧ vl t s (de t n s - s) ≤ most) from fun q => w q.2)]
            simp only [b_X12_numberHere_34, q_308, rS_8, il, aBind_some, bB, if_true, aLet, rS_u _ _ _ _ _ (show (10 : Nat) ≠ 8 by decide) (show (10 : Nat) ≠ 9 by decide), sb, if_neg l5, ii, n117]
        · have l5 : (5 : Int32) < nI (de t n s - s) := nI_lt (a := 5) (by omega) (by omega)
          rw [decide_eq_false (fun q => y q.2.1), if_neg (show ¬ (de t n s - s ≤ 5 ∧ vl t s (de t n s - s) ≤ most) from fun q => y q.1)]
          simp only [b_X12_numberHere_34, q_308, rS_8, il, aBind_some, bB, if_true, aLet, rS_u _ _ _ _ _ (show (10 : Nat) ≠ 8 by decide) (show (10 : Nat) ≠ 9 by decide), sb, if_pos l5, n117]
    unfold f_X12_numberHere
    simp only [q_308, se, aBind_some, rS_8, dg, bB, if_neg (show ¬ (1 : Int32) = 0 by decide), aLet]
    rw [key]
    rfl
theorem takesWordR {h : aH} {R t : Row} {n : Nat} (b : TRB h R t n) {p : Nat} (hp : p ≤ n) (f : Int32) {w : Nat} (hw : w < 2 ^ 56) : f_X12_takesWord (rS h R p f) 308 (lN w) = if isWB t (sk t n p) (lw t n (sk t n p)) w = true then some (1, rS h R (lw t n (sk t n p)) f) else some (0, rS h R (sk t n p) f) := by
  have i := isWordR b hp f hw
  have s := sk_le (t := t) hp
  have q := passWordR b (p := sk t n p) s.2 f
  unfold f_X12_takesWord
  simp only [q_308, i, aBind_some]
  by_cases z : isWB t (sk t n p) (lw t n (sk t n p)) w = true
  · rw [if_pos z, z]
    simp only [bB, if_neg (show ¬ (1 : Int32) = 0 by decide), q, aBind_some]
  · rw [if_neg z, Bool.not_eq_true _ |>.mp z]
    simp only [bB, if_true]
