/-! ===== isle: the class's loop ===== -/
def flP (S : Row) (i : Nat) : Row := fun j => if 78 ≤ j ∧ j < 78 + i ∧ S j = -1 then S (j - 35) else S j
theorem fillC {h : aH} (hS : Str h) : ∃ h', f_X8_fillUntoldTruth h 31 = some ((), h') ∧ Upd (stA 31) h h' ∧ ∀ S, RSt h 31 S → RSt h' 31 (flP S 32) := by
  refine itLoop (σ := aH × Int32) (fun k x => f_X8_fillUntoldTruth_2 k x.1 31 x.2) (fun i x => x.2 = nI i ∧ Upd (stA 31) h x.1 ∧ ∀ S, RSt h 31 S → RSt x.1 31 (flP S i)) (fun o => ∃ h', o = some ((), h') ∧ Upd (stA 31) h h' ∧ ∀ S, RSt h 31 S → RSt h' 31 (flP S 32)) 32 ?_ ?_ 2000 0 (h, 0) ⟨rfl, Upd.rf h, fun S r => r.mv (fun _ _ _ => rfl) rfl (fun j _ => by unfold flP; rw [if_neg (by omega)])⟩ (by omega) (by omega)
  · rintro k i ⟨g, x⟩ hi ⟨ex, u, rr⟩
    have ex' : x = nI i := ex
    subst ex'
    have Sg := u.str hS
    obtain ⟨_, _, _, _, r5, r6⟩ := Sg.st m31
    have r5' : hR g 31 11 = some 36 := r5
    have r6' : hR g 31 12 = some 37 := r6
    have c32 : ¬ (32 : Int32) ≤ nI i := nI_ge (b := 32) hi (by decide)
    have s37 : stA 31 37 := by unfold stA; omega
    by_cases z : hI g 37 i = -1
    · refine Or.inr ⟨(pI g 37 i (hI g 36 i), nI (i + 1)), ⟨rfl, u.tr (Upd.pI s37), fun S r => ?_⟩, ?_⟩
      · have r1 := rr S r
        have t1 : hI g 37 i = flP S i (78 + i) := r1.tr hi
        have t2 : hI g 36 i = flP S i (43 + i) := r1.li hi
        have q1 : flP S i (78 + i) = S (78 + i) := by unfold flP; rw [if_neg (by omega)]
        have q2 : flP S i (43 + i) = S (43 + i) := by unfold flP; rw [if_neg (by omega)]
        have w := r1.wTr hi (x := hI g 36 i) (y := S (43 + i)) (by rw [t2, q2])
        refine w.mv (fun _ _ _ => rfl) rfl (fun j hj => ?_)
        by_cases y : j = 78 + i
        · rw [y, upd_at]
          unfold flP
          rw [if_pos ⟨by omega, by omega, by rw [← q1, ← t1]; exact z⟩]
          congr 1; omega
        · rw [upd_ne _ _ y]
          unfold flP
          by_cases v : 78 ≤ j ∧ j < 78 + i ∧ S j = -1
          · rw [if_pos v, if_pos ⟨v.1, by omega, v.2.2⟩]
          · rw [if_neg v, if_neg (fun q => v ⟨q.1, by omega, q.2.2⟩)]
      · show b_X8_fillUntoldTruth_2 (f_X8_fillUntoldTruth_2 k) g 31 (nI i) = f_X8_fillUntoldTruth_2 k (pI g 37 i (hI g 36 i)) 31 (nI (i + 1))
        simp only [b_X8_fillUntoldTruth_2, if_neg c32, q_31, r6', Option.bind_some, q37, if_pos (in37 hi), nI_clamp (show i < 2 ^ 31 by omega), z, if_true, r5', q36, if_pos (in36 hi), aLet, b_X8_fillUntoldTruth_30, i1]
    · refine Or.inr ⟨(g, nI (i + 1)), ⟨rfl, u, fun S r => ?_⟩, ?_⟩
      · have r1 := rr S r
        have t1 : hI g 37 i = flP S i (78 + i) := r1.tr hi
        have q1 : flP S i (78 + i) = S (78 + i) := by unfold flP; rw [if_neg (by omega)]
        refine r1.mv (fun _ _ _ => rfl) rfl (fun j hj => ?_)
        unfold flP
        by_cases y : j = 78 + i
        · rw [y, if_neg (fun q => z (by rw [t1, q1]; exact q.2.2)), if_neg (by omega)]
        · by_cases v : 78 ≤ j ∧ j < 78 + i ∧ S j = -1
          · rw [if_pos v, if_pos ⟨v.1, by omega, v.2.2⟩]
          · rw [if_neg v, if_neg (fun q => v ⟨q.1, by omega, q.2.2⟩)]
      · show b_X8_fillUntoldTruth_2 (f_X8_fillUntoldTruth_2 k) g 31 (nI i) = f_X8_fillUntoldTruth_2 k g 31 (nI (i + 1))
        simp only [b_X8_fillUntoldTruth_2, if_neg c32, q_31, r6', Option.bind_some, q37, if_pos (in37 hi), nI_clamp (show i < 2 ^ 31 by omega), if_neg z, b_X8_fillUntoldTruth_30, i1]
  · rintro k ⟨g, x⟩ ⟨ex, u, rr⟩
    have ex' : x = nI 32 := ex
    subst ex'
    refine ⟨g, ?_, u, rr⟩
    show b_X8_fillUntoldTruth_2 (f_X8_fillUntoldTruth_2 k) g 31 (nI 32) = _
    simp only [b_X8_fillUntoldTruth_2, if_pos (show (32 : Int32) ≤ nI 32 by decide)]
theorem fin91 {h : aH} {t : Row} {n p : Nat} {f : Int32} (c : CT h t n p f) : ∃ h', b_X2_readInto_91 h 3 31 = some (f, h') ∧ Upd (stA 31) h h' ∧ ∀ S, RSt h 31 S → RSt h' 31 (flP (upd S 0 1) 32) := by
  have s31 : stA 31 31 := by unfold stA; omega
  have u0 : Upd (stA 31) h (pI h 31 0 1) := Upd.pI s31
  have S0 : Str (pI h 31 0 1) := u0.str c.1.1
  obtain ⟨h', e1, u1, r1⟩ := fillC S0
  have S1 := u1.str S0
  have e3 : hI h' 1 3 = f := by rw [(u0.tr u1).2.2.1 1 (by unfold stA; omega)]; exact c.2.2.2
  refine ⟨h', ?_, u0.tr u1, fun S r => r1 _ (r.w0 rfl)⟩
  simp only [b_X2_readInto_91, q_31, aLet, e1, aBind_some, q_3, r_3_0 S1, Option.bind_some, q_1, e3]
theorem blm_f {q : Nat} {k f : Int32} (h : ¬ f = 0) : blm q k f = f := if_neg h
theorem fin65 {h : aH} {t : Row} {n p : Nat} {f : Int32} (c : CT h t n p f) : ∃ h', b_X2_readInto_65 h 3 31 = some (if bya t n (sk t n p) = -1 then f else blm (sk t n p) 0 f, h') ∧ Upd iA h h' ∧ ∀ S, RSt h 31 S → RSt h' 31 (flP (upd S 0 1) 32) := by
  have sl := sk_le (t := t) c.2.1
  have ne := nextC c.1 c.2.1 f
  rw [c.e] at ne
  obtain ⟨q, eq⟩ : ∃ q, q = sk t n p := ⟨_, rfl⟩
  rw [← eq] at ne sl ⊢
  have c1 : CT (cS h q f) t n q f := CT.of c.1 sl.2
  have u1 := cS_u h q f
  by_cases b : bya t n q = -1
  · obtain ⟨h', e1, u2, r2⟩ := fin91 c1
    rw [if_pos b]
    refine ⟨h', ?_, (u1A u1).tr (u2.mono (fun _ y => Or.inr y)), fun S r => r2 S (r.u1 u1)⟩
    simp only [b_X2_readInto_65, q_3, r_3_0 c.1.1, Option.bind_some, q_1, ne, aBind_some, if_pos b, e1]
  · have bl := blameC h q q f 0
    have c2 : CT (cS h q (blm q 0 f)) t n q (blm q 0 f) := CT.of c.1 sl.2
    have u2 := cS_u h q (blm q 0 f)
    obtain ⟨h', e1, u3, r3⟩ := fin91 c2
    rw [if_neg b]
    refine ⟨h', ?_, (u1A u2).tr (u3.mono (fun _ y => Or.inr y)), fun S r => r3 S (r.u1 u2)⟩
    simp only [b_X2_readInto_65, q_3, r_3_0 c.1.1, Option.bind_some, q_1, ne, aBind_some, if_neg b, r_3_0 c1.1.1, cS_12, bl, e1]
theorem loopC {t : Row} {n : Nat} : ∀ m c h p Q N, c + m = 40 → CT h t n p 0 → RSt h 31 (dq Q) → VQ Q → (c = 0 → ∀ k, k < 32 → Q (78 + k) = -1) → ∃ h', f_X2_readInto_15 (N + m + 2) h 3 31 1 (nI c) = some ((rdF t n m c p Q).1, h') ∧ Upd iA h h' ∧ ((rdF t n m c p Q).1 = 0 → RSt h' 31 (flP (upd (dq (rdF t n m c p Q).2) 0 1) 32)) := by
  have n1 : ¬ (1 : Int32) = 0 := by decide
  have bad : ∀ (c m N p' : Nat) (h h1 : aH) (F : Int32), c ≤ 40 → Str h → f_X2_readClause h 3 31 (nI c) = some ((), h1) → CT h1 t n p' F → Upd iA h h1 → ¬ F = 0 → ∃ h', f_X2_readInto_15 (N + m + 2) h 3 31 1 (nI c) = some (F, h') ∧ Upd iA h h' := by
    intro c m N p' h h1 F hc hS f1 c1 u1 z
    obtain ⟨h', e1, u2, _⟩ := fin65 c1
    have e : (if bya t n (sk t n p') = -1 then F else blm (sk t n p') 0 F) = F := by rw [blm_f z]; exact ite_self F
    rw [e] at e1
    refine ⟨h', ?_, u1.tr u2⟩
    have l40 : ¬ (40 : Int32) < nI c := nI_nlt (b := c) (a := 40) hc (by decide)
    have f0 : ¬ hI h1 1 3 = 0 := by rw [c1.2.2.2]; exact z
    show b_X2_readInto_15 (f_X2_readInto_15 (N + m + 1)) h 3 31 1 (nI c) = _
    simp only [b_X2_readInto_15, if_neg n1, if_neg l40, q_3, f1, aBind_some, r_3_0 c1.1.1, Option.bind_some, q_1, if_neg f0, b_X2_readInto_57, b_X2_readInto_58]
    show b_X2_readInto_15 (f_X2_readInto_15 (N + m)) h1 3 31 0 (nI c + 1) = _
    simp only [b_X2_readInto_15, if_true, e1]
  intro m
  induction m with
  | zero =>
    intro c h p Q N hm ct r v h0
    obtain ⟨h1, p', f1, c1, u1, _⟩ := readClauseC ct r v (by omega) h0 rfl rfl rfl
    have hn := ct.1.2.2.1
    have sl := sk_le (t := t) ct.2.1
    have z : ¬ clF t n (sk t n p) (lw t n (sk t n p)) (kCl t (sk t n p) (lw t n (sk t n p))) c Q = 0 := cl40 (by omega) (by omega)
    obtain ⟨h', e1, u2⟩ := bad c 0 N p' h h1 _ (by omega) ct.1.1 f1 c1 u1 z
    exact ⟨h', e1, u2, fun y => absurd y z⟩
  | succ m ih =>
    intro c h p Q N hm ct r v h0
    obtain ⟨s, es⟩ : ∃ s, s = sk t n p := ⟨_, rfl⟩
    obtain ⟨p1, ep⟩ : ∃ p1, p1 = lw t n s := ⟨_, rfl⟩
    obtain ⟨k, ek⟩ : ∃ k, k = kCl t s p1 := ⟨_, rfl⟩
    obtain ⟨h1, p', f1, c1, u1, d1⟩ := readClauseC ct r v (by omega) h0 es ep ek
    have hn := ct.1.2.2.1
    have sl := sk_le (t := t) ct.2.1
    rw [← es] at sl
    have pl := lw_le (t := t) sl.2
    rw [← ep] at pl
    rw [rdF, ← es, ← ep, ← ek]
    by_cases z : clF t n s p1 k c Q = 0
    · obtain ⟨dp, dR⟩ := d1 z
      rw [if_pos z, ← dp]
      rw [z] at c1
      have vq := v.cl hn pl.2 (by rw [ek]; exact kCl_6 _ _ _) (by omega) z
      have ts := takeSignC c1.1 c1.2.1 0 59
      rw [c1.e] at ts
      have pl' := sk_le (t := t) c1.2.1
      obtain ⟨q, eq⟩ : ∃ q, q = sk t n p' := ⟨_, rfl⟩
      rw [← eq] at ts pl' ⊢
      have l40 : ¬ (40 : Int32) < nI c := nI_nlt (b := c) (a := 40) (by omega) (by decide)
      have f0 : hI h1 1 3 = 0 := c1.2.2.2
      by_cases b : bya t n q = 59
      · rw [if_pos b] at ts ⊢
        have ql := bya_lt b
        have c2 : CT (cS h1 (q + 1) 0) t n (q + 1) 0 := CT.of c1.1 ql
        have u2 := cS_u h1 (q + 1) 0
        obtain ⟨h', e1, u3, r3⟩ := ih (c + 1) (cS h1 (q + 1) 0) (q + 1) (clQ t n p1 k Q) N (by omega) c2 (dR.u1 u2) vq (fun y => absurd y (by omega))
        refine ⟨h', ?_, (u1.tr (u1A u2)).tr u3, r3⟩
        show b_X2_readInto_15 (f_X2_readInto_15 (N + m + 2)) h 3 31 1 (nI c) = _
        simp only [b_X2_readInto_15, if_neg n1, if_neg l40, q_3, f1, aBind_some, r_3_0 c1.1.1, Option.bind_some, q_1, f0, if_true, ts, b_X2_readInto_58, i1]
        exact e1
      · rw [if_neg b] at ts ⊢
        have c2 : CT (cS h1 q 0) t n q 0 := CT.of c1.1 pl'.2
        have u2 := cS_u h1 q 0
        obtain ⟨h', e1, u3, r3⟩ := fin65 c2
        have ss : sk t n q = q := by rw [eq]; exact sk_sk c1.2.1
        rw [ss] at e1
        refine ⟨h', ?_, (u1.tr (u1A u2)).tr u3, fun _ => r3 _ (dR.u1 u2)⟩
        show b_X2_readInto_15 (f_X2_readInto_15 (N + m + 2)) h 3 31 1 (nI c) = _
        simp only [b_X2_readInto_15, if_neg n1, if_neg l40, q_3, f1, aBind_some, r_3_0 c1.1.1, Option.bind_some, q_1, f0, if_true, ts, b_X2_readInto_57, b_X2_readInto_58]
        show b_X2_readInto_15 (f_X2_readInto_15 (N + m + 1)) (cS h1 q 0) 3 31 0 (nI c + 1) = _
        simp only [b_X2_readInto_15, if_true, e1]
    · rw [if_neg z]
      obtain ⟨h', e1, u2⟩ := bad c (m + 1) N p' h h1 _ (by omega) ct.1.1 f1 c1 u1 z
      exact ⟨h', e1, u2, fun y => absurd y z⟩
