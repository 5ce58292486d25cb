/-! ===== settled ===== -/
theorem RO_d {S : Row} {d : Nat → Nat} (v : VS S) (dl : ∀ i, d i < nW S + 1) : RO S (rwD d) (hoD d (nE S)) := by
  refine ⟨fun e _ => ?_, fun w _ => ?_⟩
  · unfold rwD
    have := dl e
    by_cases z : d e = 0
    · rw [if_pos z]; exact Or.inl rfl
    · rw [if_neg z]; exact Or.inr ⟨d e - 1, by omega, rfl⟩
  · rcases hoD_c d w (nE S) with ⟨z, _⟩ | ⟨i, hi, z, _⟩
    · exact Or.inl z
    · exact Or.inr ⟨i, hi, z⟩
theorem power_eq (g : aH) (b : Nat) {n : Nat} (hn : n ≤ 4) : f_X12_power g (nI b) (nI n) = some (nI (b ^ n), g) := by
  refine itLoop (σ := Int32 × Int32) (fun k s => f_X12_power_4 k g (nI b) (nI n) s.1 s.2) (fun i s => s = (nI (b ^ i), nI i)) (fun o => o = some (nI (b ^ n), g)) n ?_ ?_ 2000 0 (1, 0) rfl (by omega) (by omega)
  · rintro k i _ hi rfl
    refine Or.inr ⟨_, rfl, ?_⟩
    have q : ¬ nI n ≤ nI i := nI_ge hi (by omega)
    show b_X12_power_4 (f_X12_power_4 k) g (nI b) (nI n) (nI (b ^ i)) (nI i) = f_X12_power_4 k g (nI b) (nI n) (nI (b ^ (i + 1))) (nI (i + 1))
    simp only [b_X12_power_4, if_neg q, aLet, pk_mul, i1, Nat.pow_succ]
  · rintro k _ rfl
    show b_X12_power_4 (f_X12_power_4 k) g (nI b) (nI n) (nI (b ^ n)) (nI n) = _
    simp only [b_X12_power_4, if_pos (Int32.le_refl (nI n))]
def ac0 : Acc := (0, (fun _ => -1), 0)
def FL (S : Row) (b : Nat) : Nat → Acc → Acc := fun c x => LF S (dgE b (nE S) c) x
theorem nsL_s {g : Nat → Acc → Acc} (n : Nat) (a : Acc) : nsL g (n + 1) 0 a = g n (nsL g n 0 a) := by
  rw [nsL_app n 1 0 a, Nat.zero_add]; rfl
theorem LF_le (S : Row) (d : Nat → Nat) (a : Acc) : a.1 ≤ (LF S d a).1 ∧ (LF S d a).1 ≤ a.1 + 1 := by
  unfold LF tk
  split
  · split
    · exact ⟨Nat.le_refl _, Nat.le_succ _⟩
    · exact ⟨Nat.le_succ _, Nat.le_refl _⟩
  · exact ⟨Nat.le_refl _, Nat.le_succ _⟩
theorem nsL_le {S : Row} {b : Nat} : ∀ n, (nsL (FL S b) n 0 ac0).1 ≤ n := by
  intro n
  induction n with
  | zero => exact Nat.le_refl _
  | succ n ih => rw [nsL_s]; have := (LF_le S (dgE b (nE S) n) (nsL (FL S b) n 0 ac0)).2; unfold FL at this ih ⊢; omega
theorem nsL_mono {S : Row} {b m : Nat} : ∀ n, m ≤ n → (nsL (FL S b) m 0 ac0).1 ≤ (nsL (FL S b) n 0 ac0).1 := by
  intro n
  induction n with
  | zero => intro h; have : m = 0 := by omega
            rw [this]; exact Nat.le_refl _
  | succ n ih =>
    intro h
    by_cases y : m = n + 1
    · rw [y]; exact Nat.le_refl _
    · have i1 := ih (by omega)
      rw [nsL_s]
      have := (LF_le S (dgE b (nE S) n) (nsL (FL S b) n 0 ac0)).1
      unfold FL at this i1 ⊢
      omega
theorem some_settled {S : Row} (v : VS S) : 0 < (nsL (FL S (nW S + 1)) ((nW S + 1) ^ nE S) 0 ac0).1 := by
  obtain ⟨d, d1, d2, d3, d4⟩ := exists_settled v
  have hb : 0 < nW S + 1 := by omega
  have cl := cod_lt hb d1 (nE S)
  have dg : dgE (nW S + 1) (nE S) (cod (nW S + 1) d (nE S)) = d := by
    rw [cod_dg hb d1 (nE S)]
    funext i
    show (if i < nE S then d i else 0) = d i
    by_cases z : i < nE S
    · rw [if_pos z]
    · rw [if_neg z, d2 i (by omega)]
  have m := nsL_mono (S := S) (b := nW S + 1) (m := cod (nW S + 1) d (nE S) + 1) ((nW S + 1) ^ nE S) (by omega)
  refine Nat.lt_of_lt_of_le ?_ m
  rw [nsL_s]
  show 0 < (LF S (dgE (nW S + 1) (nE S) (cod (nW S + 1) d (nE S))) _).1
  rw [dg, LF, if_pos d3, tk, d4, if_neg (by decide)]
  exact Nat.succ_pos _
/-- the reference's first, most -/
def accR (S : Row) (b : Nat) (a : Acc) (fc mo : Int32) : Prop := mo = (if a.1 = 0 then -1 else a.2.2) ∧ (a.1 = 0 → fc = -1) ∧ (¬ a.1 = 0 → ∃ c, c < 1000 ∧ fc = nI c ∧ VD S (dgE b (nE S) c) (nE S) ∧ a.2.1 = rwD (dgE b (nE S) c))
theorem settledL {g : aH} (hS : Str g) {S : Row} (eS : hI g 318 = S) (v : VS S) {b : Nat} (eb : b = nW S + 1) (x1 : Int32) (hx : x1 = 0 ∨ x1 = 5 ∨ ∃ e, e < 4 ∧ x1 = nI (e + 1)) :
    ∃ g', f_X12_settled_32 2000 g 308 x1 0 (-1) (-1) 0 = some (if x1 = 0 then nI (nsL (FL S b) (b ^ nE S) 0 ac0).1 else if x1 = 5 then (nsL (FL S b) (b ^ nE S) 0 ac0).2.2 else (if S 3 < x1 then -2 else if S (12 + 4 * (x1.toNatClampNeg - 1)) < 0 then (nsL (FL S b) (b ^ nE S) 0 ac0).2.1 (x1.toNatClampNeg - 1) else -2), g') ∧ Upd wC g g' := by
  have v3 := v.e3
  have v4 := v.e4
  have hb : 0 < b := by omega
  have pl : b ^ nE S ≤ 625 := pow_le5 (by omega) v3.2
  have ex : 0 < (nsL (FL S b) (b ^ nE S) 0 ac0).1 := by rw [eb]; exact some_settled v
  obtain ⟨F, eF⟩ : ∃ F, F = FL S b := ⟨_, rfl⟩
  rw [← eF] at ex ⊢
  have Fl : ∀ n, (nsL F n 0 ac0).1 ≤ n := fun n => by rw [eF]; exact nsL_le n
  have b1' : S 4 + 1 = nI b := by rw [v4.1, i1, eb]
  refine itLoop (σ := aH × Int32 × Int32 × Int32 × Int32) (fun k s => f_X12_settled_32 k s.1 308 x1 s.2.1 s.2.2.1 s.2.2.2.1 s.2.2.2.2) (fun i s => s.2.1 = nI (nsL F i 0 ac0).1 ∧ s.2.2.2.2 = nI i ∧ accR S b (nsL F i 0 ac0) s.2.2.1 s.2.2.2.1 ∧ Upd wC g s.1)
    (fun o => ∃ g', o = some (if x1 = 0 then nI (nsL F (b ^ nE S) 0 ac0).1 else if x1 = 5 then (nsL F (b ^ nE S) 0 ac0).2.2 else (if S 3 < x1 then -2 else if S (12 + 4 * (x1.toNatClampNeg - 1)) < 0 then (nsL F (b ^ nE S) 0 ac0).2.1 (x1.toNatClampNeg - 1) else -2), g') ∧ Upd wC g g') (b ^ nE S) ?_ ?_ 2000 0 (g, 0, -1, -1, 0) ⟨rfl, rfl, ⟨rfl, fun _ => rfl, fun h => absurd rfl h⟩, Upd.rf g⟩ (Nat.zero_le _) (by omega)
  · rintro k i ⟨h, mn, fc, mo, xc⟩ hi ⟨em, ec, ⟨am, a0, a1⟩, u⟩
    have em' : mn = nI (nsL F i 0 ac0).1 := em
    have ec' : xc = nI i := ec
    have am' : mo = (if (nsL F i 0 ac0).1 = 0 then -1 else (nsL F i 0 ac0).2.2) := am
    have u' : Upd wC g h := u
    subst em' ec'
    have Sh := u'.str hS
    have e18 : hI h 318 = S := by rw [u'.2.2.1 318 (by unfold wC; omega)]; exact eS
    have fl := Fl i
    have pw := power_eq h b v3.2
    have q : ¬ nI (b ^ nE S) ≤ nI i := nI_ge hi (by omega)
    obtain ⟨g1, f1, r1, u1⟩ := isRowR Sh e18 v eb (c := i) (by omega)
    have S1 := u1.str Sh
    have U1 := u'.tr u1
    have s1 : hI g1 318 = S := by rw [U1.2.2.1 318 (by unfold wC; omega)]; exact eS
    have st : nsL F (i + 1) 0 ac0 = LF S (dgE b (nE S) i) (nsL F i 0 ac0) := by rw [nsL_s, eF]; rfl
    have base : f_X12_settled_32 (k + 1) h 308 x1 (nI (nsL F i 0 ac0).1) fc mo (nI i) = (if bB (decide (VD S (dgE b (nE S) i) (nE S))) = 0 then f_X12_settled_32 k g1 308 x1 (nI (nsL F i 0 ac0).1) fc mo (nI (i + 1)) else aBind (f_X12_isSettled g1 308) (fun r43 h44 => if r43 = 0 then f_X12_settled_32 k h44 308 x1 (nI (nsL F i 0 ac0).1) fc mo (nI (i + 1)) else if nI (nsL F i 0 ac0).1 = 0 then b_X12_settled_80 (f_X12_settled_32 k) h44 308 x1 (nI (nsL F i 0 ac0).1) (nI i) mo (nI i) else b_X12_settled_80 (f_X12_settled_32 k) h44 308 x1 (nI (nsL F i 0 ac0).1) fc mo (nI i))) := by
      show b_X12_settled_32 (f_X12_settled_32 k) h 308 x1 (nI (nsL F i 0 ac0).1) fc mo (nI i) = _
      simp only [b_X12_settled_32, q_308, r_308_20 Sh, Option.bind_some, q_318, if_pos in4, cl4, if_pos in3, cl3, e18, b1', v3.1, pw, aBind_some, if_neg q, f1, b_X12_settled_103, i1]
    by_cases vd : VD S (dgE b (nE S) i) (nE S)
    · have dl : ∀ j, dgE b (nE S) i j < nW S + 1 := fun j => by rw [← eb]; exact dgE_lt hb
      have o := RO_d v dl
      obtain ⟨rr1, rr2⟩ := r1 vd
      have rr : RR g1 (nE S) (rwD (dgE b (nE S) i)) (hoD (dgE b (nE S) i) (nE S)) := ⟨rr1, rr2⟩
      have se := settledR S1 s1 v o rr
      have li := likedRowR S1 s1 v o rr
      obtain ⟨sm, hsm, esm⟩ := sumR_n v o (nE S) v3.2
      rw [decide_eq_true vd, se, if_neg (show ¬ bB true = 0 by decide)] at base
      simp only [aBind_some] at base
      cases wa : wrA S (rwD (dgE b (nE S) i)) (hoD (dgE b (nE S) i) (nE S)) (nE S) 0 with
      | true =>
        have e2 : nsL F (i + 1) 0 ac0 = nsL F i 0 ac0 := by rw [st, LF, if_pos vd, tk, wa, if_pos rfl]
        rw [wa, if_pos (show bB (!true) = 0 by decide)] at base
        exact Or.inr ⟨(g1, nI (nsL F i 0 ac0).1, fc, mo, nI (i + 1)), ⟨by rw [e2], rfl, by rw [e2]; exact ⟨am', a0, a1⟩, U1⟩, base⟩
      | false =>
        have e2 : nsL F (i + 1) 0 ac0 = ((nsL F i 0 ac0).1 + 1, (if (nsL F i 0 ac0).1 = 0 then rwD (dgE b (nE S) i) else (nsL F i 0 ac0).2.1), (if (nsL F i 0 ac0).1 = 0 then sumR S (rwD (dgE b (nE S) i)) (nE S) else if (nsL F i 0 ac0).2.2 < sumR S (rwD (dgE b (nE S) i)) (nE S) then sumR S (rwD (dgE b (nE S) i)) (nE S) else (nsL F i 0 ac0).2.2)) := by
          rw [st, LF, if_pos vd, tk, wa, if_neg (by decide)]
        rw [wa, if_neg (show ¬ bB (!false) = 0 by decide)] at base
        have s80 : ∀ y, b_X12_settled_80 (f_X12_settled_32 k) g1 308 x1 (nI (nsL F i 0 ac0).1) y mo (nI i) = f_X12_settled_32 k g1 308 x1 (nI ((nsL F i 0 ac0).1 + 1)) y (if mo < sumR S (rwD (dgE b (nE S) i)) (nE S) then sumR S (rwD (dgE b (nE S) i)) (nE S) else mo) (nI (i + 1)) := fun y => by
          simp only [b_X12_settled_80, q_308, li, aBind_some, b_X12_settled_101, b_X12_settled_103, i1]
          by_cases z : mo < sumR S (rwD (dgE b (nE S) i)) (nE S)
          · rw [if_pos z, if_neg (Int32.not_le.mpr z)]
          · rw [if_neg z, if_pos (Int32.not_lt.mp z)]
        rw [s80, s80] at base
        by_cases z : (nsL F i 0 ac0).1 = 0
        · rw [if_pos ((nI_z (show (nsL F i 0 ac0).1 < 2 ^ 31 by omega)).mpr z)] at base
          rw [if_pos z, if_pos z] at e2
          rw [if_pos z] at am'
          have ml : mo < sumR S (rwD (dgE b (nE S) i)) (nE S) := by rw [am', esm]; exact Int32.lt_of_lt_of_le (by decide) (nI_pos' (show sm < 2 ^ 31 by omega))
          rw [if_pos ml] at base
          refine Or.inr ⟨(g1, nI ((nsL F i 0 ac0).1 + 1), nI i, sumR S (rwD (dgE b (nE S) i)) (nE S), nI (i + 1)), ⟨by rw [e2], rfl, ?_, U1⟩, base⟩
          rw [e2]
          exact ⟨by rw [if_neg (show ¬ (nsL F i 0 ac0).1 + 1 = 0 by omega)], fun h => absurd h (Nat.succ_ne_zero _), fun _ => ⟨i, by omega, rfl, vd, rfl⟩⟩
        · rw [if_neg (fun y => z ((nI_z (show (nsL F i 0 ac0).1 < 2 ^ 31 by omega)).mp y))] at base
          rw [if_neg z, if_neg z] at e2
          rw [if_neg z] at am'
          rw [am'] at base
          refine Or.inr ⟨(g1, nI ((nsL F i 0 ac0).1 + 1), fc, (if (nsL F i 0 ac0).2.2 < sumR S (rwD (dgE b (nE S) i)) (nE S) then sumR S (rwD (dgE b (nE S) i)) (nE S) else (nsL F i 0 ac0).2.2), nI (i + 1)), ⟨by rw [e2], rfl, ?_, U1⟩, by rw [am']; exact base⟩
          rw [e2]
          exact ⟨by rw [if_neg (show ¬ (nsL F i 0 ac0).1 + 1 = 0 by omega)], fun h => absurd h (Nat.succ_ne_zero _), fun _ => a1 z⟩
    · have e2 : nsL F (i + 1) 0 ac0 = nsL F i 0 ac0 := by rw [st, LF, if_neg vd]
      rw [decide_eq_false vd, if_pos (show bB false = 0 by decide)] at base
      exact Or.inr ⟨(g1, nI (nsL F i 0 ac0).1, fc, mo, nI (i + 1)), ⟨by rw [e2], rfl, by rw [e2]; exact ⟨am', a0, a1⟩, U1⟩, base⟩
  · rintro k ⟨h, mn, fc, mo, xc⟩ ⟨em, ec, ⟨am, a0, a1⟩, u⟩
    have em' : mn = nI (nsL F (b ^ nE S) 0 ac0).1 := em
    have ec' : xc = nI (b ^ nE S) := ec
    have nz : ¬ (nsL F (b ^ nE S) 0 ac0).1 = 0 := by omega
    have am' : mo = (nsL F (b ^ nE S) 0 ac0).2.2 := by
      have t : mo = (if (nsL F (b ^ nE S) 0 ac0).1 = 0 then -1 else (nsL F (b ^ nE S) 0 ac0).2.2) := am
      rw [if_neg nz] at t; exact t
    have u' : Upd wC g h := u
    subst em' ec'
    have Sh := u'.str hS
    have e18 : hI h 318 = S := by rw [u'.2.2.1 318 (by unfold wC; omega)]; exact eS
    have pw := power_eq h b v3.2
    obtain ⟨c, hc, efc, vd, er⟩ := a1 nz
    have efc' : fc = nI c := efc
    obtain ⟨g1, f1, r1, u1⟩ := isRowR Sh e18 v eb hc
    rw [decide_eq_true vd] at f1
    have S1 := u1.str Sh
    have base : f_X12_settled_32 (k + 1) h 308 x1 (nI (nsL F (b ^ nE S) 0 ac0).1) fc mo (nI (b ^ nE S)) = (if x1 = 0 then some (nI (nsL F (b ^ nE S) 0 ac0).1, h) else if x1 = 5 then some (mo, h) else if nI (nE S) < x1 then some (-2, h) else aBind (f_X12_isFree h 308 0 (x1 - 1)) (fun r30 h31 => if r30 = 0 then some (-2, h31) else aBind (f_X12_isRow h31 308 fc) (fun r32 h33 => (hR h33 308 31).bind (fun b34 => if (sh b34).1 = 0 then (if aIn (x1 - 1) (sh b34).2 then some (hI h33 b34 (x1 - 1).toNatClampNeg, h33) else none) else none)))) := by
      show b_X12_settled_32 (f_X12_settled_32 k) h 308 x1 (nI (nsL F (b ^ nE S) 0 ac0).1) fc mo (nI (b ^ nE S)) = _
      simp only [b_X12_settled_32, q_308, r_308_20 Sh, Option.bind_some, q_318, if_pos in4, cl4, if_pos in3, cl3, e18, b1', v3.1, pw, aBind_some, if_pos (Int32.le_refl (nI (b ^ nE S))), aLet]
    rcases hx with hx | hx | ⟨e, he, hx⟩
    · subst hx
      rw [if_pos rfl] at base
      exact ⟨h, by rw [if_pos rfl]; exact base, u'⟩
    · subst hx
      rw [if_neg (by decide), if_pos rfl] at base
      exact ⟨h, by rw [if_neg (by decide), if_pos rfl, ← am']; exact base, u'⟩
    · have x0 : ¬ x1 = 0 := by rw [hx]; exact nI_ne0 (by omega) (by omega)
      have x5 : ¬ x1 = 5 := fun y => by
        rw [hx] at y
        have := (nI_eq (b := 5) (by omega) (by decide)).mp y
        omega
      have xm : x1 - 1 = nI e := by rw [hx]; exact nI_pred e
      have xt : x1.toNatClampNeg - 1 = e := by rw [hx, nI_clamp (by omega)]; omega
      have fr := isFreeR0 Sh he
      rw [e18] at fr
      rw [if_neg x0, if_neg x5, xm] at base
      rw [if_neg x0, if_neg x5, xt, v3.1]
      by_cases l : nI (nE S) < x1
      · rw [if_pos l] at base
        exact ⟨h, by rw [if_pos l]; exact base, u'⟩
      · have eE : e < nE S := by
          rw [hx] at l
          have : ¬ nE S < e + 1 := fun y => l (nI_lt y (by omega))
          omega
        rw [if_neg l, fr] at base
        rw [if_neg l]
        simp only [aBind_some] at base
        by_cases ff : S (12 + 4 * e) < 0
        · rw [if_pos ff, if_neg (show ¬ (1 : Int32) = 0 by decide), efc', f1] at base
          simp only [aBind_some, r_308_31 S1, Option.bind_some, q_325, if_pos (in325 he), nI_clamp (show e < 2 ^ 31 by omega), (r1 vd).1 e eE] at base
          refine ⟨g1, ?_, u'.tr u1⟩
          rw [if_pos ff, er]
          show f_X12_settled_32 (k + 1) h 308 x1 (nI (nsL F (b ^ nE S) 0 ac0).1) fc mo (nI (b ^ nE S)) = _
          rw [efc']
          exact base
        · rw [if_neg ff, if_pos rfl] at base
          exact ⟨h, by rw [if_neg ff]; exact base, u'⟩
theorem searchS {h : aH} (hS : Str h) {S : Row} (r : RSt h 19 S) (v : VS S) : ∃ h', f_X7_search h 53 19 = some ((), h') ∧ accC h' (nsL (FL S (nW S + 1)) ((nW S + 1) ^ nE S) 0 ac0) ∧ Upd zC h h' := by
  have v3 := v.e3.2
  have v4 := v.e4.2
  obtain ⟨g, eg⟩ : ∃ g, g = pI (pI h 53 3 0) 53 4 0 := ⟨_, rfl⟩
  have Sg : Str g := by rw [eg]; exact hS
  have ug : Upd zC h g := by rw [eg]; exact (Upd.pI (by unfold zC; omega)).tr (Upd.pI (by unfold zC; omega))
  have kg : hI g 53 = upd (upd (hI h 53) 3 0) 4 0 := by rw [eg, hI_eq, hI_eq]
  have p5 : 5 ^ nE S ≤ 625 := pow_le5 (Nat.le_refl 5) v3
  have ch : chS S (nE S) 0 (fun _ => -1) (fun _ => -1) ac0 = nsL (FL S (nW S + 1)) ((nW S + 1) ^ nE S) 0 ac0 := by
    have d0 : dgE (nW S + 1) 0 0 = fun _ => 0 := by funext i; unfold dgE; rw [if_neg (by omega)]
    have c := chS_nst v (b := nW S + 1) rfl (nE S) 0 0 ac0 (by omega) (fun e he => by omega)
    rw [d0] at c
    have r1 : rwD (fun _ => 0) = fun _ => -1 := by funext i; unfold rwD; rw [if_pos rfl]
    have r2 : hoD (fun _ => 0) 0 = fun _ => -1 := by funext i; rfl
    rw [r1, r2] at c
    rw [c, nst_lin, Nat.zero_add, Nat.zero_mul]
    rfl
  have key : ∃ h', f_X7_search_12 2000 g 53 19 0 = some ((), h') ∧ accC h' (nsL (FL S (nW S + 1)) ((nW S + 1) ^ nE S) 0 ac0) ∧ Upd zC h h' := by
    refine itLoop (σ := aH × Int32) (fun k s => f_X7_search_12 k s.1 53 19 s.2) (fun i s => s = (s.1, nI i) ∧ (∀ j, j < i → hI s.1 54 j = -1 ∧ hI s.1 55 j = -1 ∧ hI s.1 56 j = -1) ∧ hI s.1 53 = hI g 53 ∧ Upd zC h s.1) (fun o => ∃ h', o = some ((), h') ∧ accC h' (nsL (FL S (nW S + 1)) ((nW S + 1) ^ nE S) 0 ac0) ∧ Upd zC h h') 4 ?_ ?_ 2000 0 (g, 0) ⟨rfl, fun j hj => by omega, rfl, ug⟩ (by omega) (by omega)
    · rintro k i s hi ⟨es, a, a53, u⟩
      have Ss := u.str hS
      have q : ¬ (4 : Int32) ≤ nI i := nI_ge (b := 4) hi (by decide)
      obtain ⟨g1, eg1⟩ : ∃ g1, g1 = pI (pI (pI s.1 54 i (-1)) 55 i (-1)) 56 i (-1) := ⟨_, rfl⟩
      refine Or.inr ⟨(g1, nI (i + 1)), ⟨rfl, fun j hj => ?_, ?_, ?_⟩, ?_⟩
      · show hI g1 54 j = -1 ∧ hI g1 55 j = -1 ∧ hI g1 56 j = -1
        rw [eg1, hI_ne _ (show (54 : Nat) ≠ 56 by decide), hI_ne _ (show (54 : Nat) ≠ 55 by decide), hI_eq, hI_ne _ (show (55 : Nat) ≠ 56 by decide), hI_eq, hI_ne _ (show (55 : Nat) ≠ 54 by decide), hI_eq, hI_ne _ (show (56 : Nat) ≠ 55 by decide), hI_ne _ (show (56 : Nat) ≠ 54 by decide)]
        by_cases y : j = i
        · rw [y, upd_at, upd_at, upd_at]; exact ⟨rfl, rfl, rfl⟩
        · rw [upd_ne _ _ y, upd_ne _ _ y, upd_ne _ _ y]; exact a j (by omega)
      · show hI g1 53 = _
        rw [eg1, hI_ne _ (by decide), hI_ne _ (by decide), hI_ne _ (by decide)]; exact a53
      · rw [eg1]; exact u.tr (((Upd.pI (by unfold zC; omega)).tr (Upd.pI (by unfold zC; omega))).tr (Upd.pI (by unfold zC; omega)))
      · rw [es]
        show b_X7_search_12 (f_X7_search_12 k) s.1 53 19 (nI i) = _
        simp only [b_X7_search_12, if_neg q, q_53, r_53_0 Ss, r_53_1 Ss, r_53_2 Ss, hR_pI, Option.bind_some, q_54, q_55, q_56, if_pos (in54 hi), if_pos (in55 hi), if_pos (in56 hi), nI_clamp (show i < 2 ^ 31 by omega), aLet, ← eg1, i1]
    · rintro k s ⟨es, a, a53, u⟩
      have Ss := u.str hS
      have rs : RSt s.1 19 S := r.up u (fun b p q => zCn (by omega))
      obtain ⟨h2, f2, c2, ac2, u2⟩ := chooseC' v (nE S) 8 0 s.1 (fun _ => -1) (fun _ => -1) ac0 (by omega) (by omega) Ss rs ⟨fun _ _ => Or.inl rfl, fun _ _ => Or.inl rfl⟩ (fun _ _ _ => rfl) (fun i hi => ⟨(a i hi).1, (a i hi).2.1⟩) ⟨by rw [a53, kg, upd_ne _ _ (by decide), upd_at]; rfl, by rw [a53, kg, upd_at]; rfl, fun e he => (a e he).2.2⟩ (by show 0 + 5 ^ nE S ≤ 999; omega)
      rw [ch] at ac2
      refine ⟨h2, ?_, ac2, u.tr u2⟩
      have f2' : f_X7_choose s.1 53 19 0 = some ((), h2) := f2
      rw [es]
      show b_X7_search_12 (f_X7_search_12 k) s.1 53 19 (nI 4) = _
      simp only [b_X7_search_12, if_pos (show (4 : Int32) ≤ nI 4 by decide), q_53, f2', aBind_some]
  obtain ⟨h', f', x, y⟩ := key
  refine ⟨h', ?_, x, y⟩
  simp only [f_X7_search, q_53, aLet, ← eg, f']
theorem what6 {x : Int32} (h : 0 ≤ x ∧ x ≤ 5) : x = 0 ∨ x = 5 ∨ ∃ e, e < 4 ∧ x = nI (e + 1) := by
  obtain ⟨n, hn, rfl⟩ := btw_nI (M := 5) (m := 5) h (by decide)
  rcases Nat.eq_zero_or_pos n with z | z
  · subst z; exact Or.inl rfl
  · by_cases y : n = 5
    · subst y; exact Or.inr (Or.inl rfl)
    · exact Or.inr (Or.inr ⟨n - 1, by omega, by rw [show n - 1 + 1 = n by omega]⟩)
theorem op_settled : Op_settled Inv := by
  intro h hV x1
  have hS := hV.1
  have r : RSt h 19 (hI h 318) := hV.2.2.2.1.1
  have v : VS (hI h 318) := hV.2.2.2.1.2.1.1
  have v3 := v.e3
  have n1 : ¬ (1 : Int32) = 0 := by decide
  have i1' : ∀ g, f_X12_in g x1.toInt64 0 5 = some (if 0 ≤ x1 ∧ x1 ≤ 5 then 1 else 0, g) := fun g => in_i (h := g) x1 0 5 (by decide) (by decide)
  rcases v.1 with z | z
  · refine ⟨-3, h, h, ?_, ?_, hV⟩
    · show f_X11_settled h 0 x1 = _
      simp only [f_X11_settled, q_0, r_0_5 hS, r_11_1 hS, Option.bind_some, q_11, qst0 m19, r.s0, z, if_true]
    · show f_X12_settled h 308 x1 = _
      simp only [f_X12_settled, q_308, isIsle_eq hS v, z, aBind_some, if_true]
  by_cases b : 0 ≤ x1 ∧ x1 ≤ 5
  · have hx := what6 b
    obtain ⟨h1, f1, a1, u1⟩ := searchS hS r v
    have S1 := u1.str hS
    have s18 : hI h1 318 = hI h 318 := u1.2.2.1 318 (zCn (by omega))
    have q1 : Upd Sq h h1 := u1.mono (fun b hb => by unfold zC at hb; unfold Sq; omega)
    have nz := some_settled v
    obtain ⟨A, eA⟩ : ∃ A, A = nsL (FL (hI h 318) (nW (hI h 318) + 1)) ((nW (hI h 318) + 1) ^ nE (hI h 318)) 0 ac0 := ⟨_, rfl⟩
    rw [← eA] at a1 nz
    have nz' : ¬ A.1 = 0 := by omega
    obtain ⟨p3, p4, p56⟩ := a1
    rw [if_neg nz'] at p4
    have fin : ∀ g0, Str g0 → hI g0 318 = hI h 318 → Upd Sq h g0 → hI g0 308 = hI h 308 → ∃ g', f_X12_settled g0 308 x1 = some (if x1 = 0 then nI A.1 else if x1 = 5 then A.2.2 else (if hI h 318 3 < x1 then -2 else if hI h 318 (12 + 4 * (x1.toNatClampNeg - 1)) < 0 then A.2.1 (x1.toNatClampNeg - 1) else -2), g') ∧ Inv g' := by
      intro g0 Sg e18 u0 e8
      obtain ⟨g', fg, ug⟩ := settledL Sg e18 v rfl x1 hx
      rw [← eA] at fg
      have ii := isIsle_eq Sg (by rw [e18]; exact v)
      rw [e18, z] at ii
      refine ⟨g', ?_, ?_⟩
      · simp only [f_X12_settled, q_308, ii, aBind_some, if_neg n1, i1', if_pos b]
        rw [fg]
      · refine hV.query (u0.tr (ug.mono (fun b hb => by unfold wC at hb; unfold Sq; omega))) (by rw [ug.2.2.1 318 (by unfold wC; omega), e18]) (fun j hj => ?_)
        rw [ug.2.2.1 308 (by unfold wC; omega), e8]
    have o8 : hI h1 308 = hI h 308 := u1.2.2.1 308 (zCn (by omega))
    have c0 : ¬ x1 < 0 := Int32.not_lt.mpr b.1
    rcases hx with hx | hx | ⟨e, he, hx⟩
    · obtain ⟨g', fg, Ig⟩ := fin h1 S1 s18 q1 o8
      refine ⟨nI A.1, h1, g', ?_, ?_, Ig⟩
      · show f_X11_settled h 0 x1 = _
        simp only [f_X11_settled, q_0, r_0_5 hS, r_11_1 hS, Option.bind_some, q_11, qst0 m19, r.s0, z, if_neg n1, if_neg c0, if_pos b.2]
        rw [if_pos (by rw [hx]; decide)]
        simp only [b_X11_settled_50, q_0, r_0_13 hS, Option.bind_some, q_53, f1, aBind_some, if_pos hx, r_0_13 S1, p3]
      · rw [if_pos hx] at fg; exact fg
    · obtain ⟨g', fg, Ig⟩ := fin h1 S1 s18 q1 o8
      have x0 : ¬ x1 = 0 := by rw [hx]; decide
      refine ⟨A.2.2, h1, g', ?_, ?_, Ig⟩
      · show f_X11_settled h 0 x1 = _
        simp only [f_X11_settled, q_0, r_0_5 hS, r_11_1 hS, Option.bind_some, q_11, qst0 m19, r.s0, z, if_neg n1, if_neg c0, if_pos b.2]
        rw [if_neg (by rw [hx]; decide), if_pos (by rw [hx]; decide)]
        simp only [b_X11_settled_50, q_0, r_0_13 hS, Option.bind_some, q_53, f1, aBind_some, if_neg x0, if_pos hx, r_0_13 S1, p4]
      · rw [if_neg x0, if_pos hx] at fg; exact fg
    · have x0 : ¬ x1 = 0 := by rw [hx]; exact nI_ne0 (by omega) (by omega)
      have x5 : ¬ x1 = 5 := fun y => by
        rw [hx] at y
        have := (nI_eq (b := 5) (by omega) (by decide)).mp y
        omega
      have xm : x1 - 1 = nI e := by rw [hx]; exact nI_pred e
      have xt : x1.toNatClampNeg - 1 = e := by rw [hx, nI_clamp (by omega)]; omega
      have l1 : ¬ x1 < 1 := by rw [hx]; exact nI_nlt (b := 1) (by omega) (by omega)
      have l4 : ¬ (4 : Int32) < x1 := by rw [hx]; exact nI_nlt (a := 4) (by omega) (by decide)
      have cl : f_X11_settled h 0 x1 = aBind (f_X8_isFreeEast h 19 (nI e)) (fun r26 h27 => if r26 = 0 then some (-2, h27) else b_X11_settled_50 h27 0 x1 19) := by
        simp only [f_X11_settled, q_0, r_0_5 hS, r_11_1 hS, Option.bind_some, q_11, qst0 m19, r.s0, z, if_neg n1, if_neg c0, if_pos b.2, if_neg l1, if_neg l4, xm]
      by_cases eE : e < nE (hI h 318)
      · have l : ¬ hI h 318 3 < x1 := by rw [v3.1, hx]; exact nI_nlt (by omega) (by omega)
        rw [isFreeES hS m19 r eE v] at cl
        simp only [aBind_some] at cl
        by_cases ff : hI h 318 (12 + 4 * e) < 0
        · obtain ⟨g', fg, Ig⟩ := fin h1 S1 s18 q1 o8
          rw [if_neg x0, if_neg x5, if_neg l, xt, if_pos ff] at fg
          refine ⟨A.2.1 e, h1, g', ?_, fg, Ig⟩
          show f_X11_settled h 0 x1 = _
          have p5 := p56 e he
          rw [if_neg nz'] at p5
          rw [cl, if_pos ff, if_neg n1]
          simp only [b_X11_settled_50, q_0, r_0_13 hS, Option.bind_some, q_53, f1, aBind_some, if_neg x0, if_neg x5, r_0_13 S1, r_53_2 S1, aLet, xm, q_56, if_pos (in56 he), nI_clamp (show e < 2 ^ 31 by omega), p5]
        · obtain ⟨g', fg, Ig⟩ := fin h hS rfl (Upd.rf h) rfl
          rw [if_neg x0, if_neg x5, if_neg l, xt, if_neg ff] at fg
          refine ⟨-2, h, g', ?_, fg, Ig⟩
          show f_X11_settled h 0 x1 = _
          rw [cl, if_neg ff, if_pos rfl]
      · have l : hI h 318 3 < x1 := by rw [v3.1, hx]; exact nI_lt (by omega) (by omega)
        obtain ⟨g', fg, Ig⟩ := fin h hS rfl (Upd.rf h) rfl
        rw [if_neg x0, if_neg x5, if_pos l] at fg
        refine ⟨-2, h, g', ?_, fg, Ig⟩
        show f_X11_settled h 0 x1 = _
        rw [cl]
        have ne : f_X8_isFreeEast h 19 (nI e) = some (0, h) := by
          simp only [f_X8_isFreeEast, qst0 m19, noEast m19 r (x := nI e) (Or.inr (by rw [v3.1]; exact nI_le (by omega) (by omega))), aBind_some, if_true]
        rw [ne]
        simp only [aBind_some, if_true]
  · refine ⟨-3, h, h, ?_, ?_, hV⟩
    · show f_X11_settled h 0 x1 = _
      simp only [f_X11_settled, q_0, r_0_5 hS, r_11_1 hS, Option.bind_some, q_11, qst0 m19, r.s0, z, if_neg n1]
      by_cases c : x1 < 0
      · rw [if_pos c]
      · rw [if_neg c, if_neg (fun q => b ⟨Int32.not_lt.mp c, q⟩)]
    · show f_X12_settled h 308 x1 = _
      simp only [f_X12_settled, q_308, isIsle_eq hS v, z, aBind_some, if_neg n1, i1', if_neg b, if_true]
