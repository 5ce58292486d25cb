/-! ===== isle: the loops ===== -/
theorem clQ_0 {t : Row} {n s p k c : Nat} {Q : Row} (hs : s ≤ 400) (z : clF t n s p k c Q = 0) (e0 : Q 0 = if c = 0 then 0 else 1) : clQ t n p k Q 0 = 1 := by
  unfold clF at z
  by_cases k6 : k = 6
  · rw [if_pos k6] at z; exact absurd z (blm_ne hs (Or.inl rfl))
  · rw [if_neg k6] at z
    by_cases tb : tooB c k Q
    · rw [if_pos tb] at z; exact absurd z (blm_ne hs (Or.inr (Or.inr rfl)))
    · obtain ⟨c40, kc, _, _⟩ := not_too tb
      unfold clQ
      by_cases k0 : k = 0
      · rw [if_pos k0]; rfl
      · rw [if_neg k0]
        rw [if_neg (fun y => k0 (kc.mpr y))] at e0
        split
        · unfold rowE; rw [upd_ne _ _ (by omega), upd_ne _ _ (by omega)]; exact e0
        · split
          · unfold rowE; rw [upd_ne _ _ (by omega), upd_ne _ _ (by omega)]; exact e0
          · split
            · unfold rowL rowK; rw [upd_ne _ _ (by omega), upd_ne _ _ (by omega)]; exact e0
            · split
              · unfold rowL rowK; rw [upd_ne _ _ (by omega), upd_ne _ _ (by omega)]; exact e0
              · unfold lateQ; rw [upd_ne _ _ (by omega)]; exact e0
def FR1 (h h' : aH) : Prop := Upd (fun c => c = 308 ∨ c = 314) h h' ∧ ∀ j, j ≠ 1 → j ≠ 8 → j ≠ 9 → j ≠ 10 → j ≠ 14 → hI h' 308 j = hI h 308 j
theorem FR.o {h h' : aH} (x : FR h h') : FR1 h h' := ⟨x.1, fun j _ h1 h2 h3 h4 => x.2 j h1 h2 h3 h4⟩
theorem FR1.tr {a b c : aH} (x : FR1 a b) (y : FR1 b c) : FR1 a c := ⟨x.1.tr y.1, fun j h0 h1 h2 h3 h4 => (y.2 j h0 h1 h2 h3 h4).trans (x.2 j h0 h1 h2 h3 h4)⟩
theorem r88 {h : aH} {t : Row} {n p : Nat} {f : Int32} (c : RT h t n p f) : ∃ h', b_X12_readsAll_88 h 308 = some (if f = 0 then 1 else 0, h') ∧ FR1 h h' ∧ hI h' 308 1 = 0 ∧ hI h' 308 9 = f ∧ hI h' 314 = hI h 314 := by
  have e9 : hI (pI h 308 1 0) 308 9 = f := by rw [hI_eq, upd_ne _ _ (by decide)]; exact c.2.2.2
  refine ⟨pI h 308 1 0, ?_, ⟨Upd.pI (Or.inl rfl), fun j w _ _ _ _ => by rw [hI_eq, upd_ne _ _ w]⟩, by rw [hI_eq, upd_at], e9, by rw [hI_ne _ (by decide)]⟩
  simp only [b_X12_readsAll_88, q_308, aLet, e9]
  by_cases z : f = 0
  · rw [if_pos z, if_pos z]
  · rw [if_neg z, if_neg z]
theorem loopR {t : Row} {n : Nat} : ∀ m c h p N, c + m = 40 → RT h t n p 0 → hI h 308 11 = 6 → hI h 308 14 = nI c → VQ (hI h 314) → (hI h 314 0 = if c = 0 then 0 else 1) → ∃ h', (aBind (f_X12_clauseHere h 308) fun r30 h31 => f_X12_readsAll_35 (N + m + 1) h31 308 r30) = some (if (rdF t n m c p (hI h 314)).1 = 0 then 1 else 0, h') ∧ FR1 h h' ∧ hI h' 308 1 = 0 ∧ hI h' 308 9 = (rdF t n m c p (hI h 314)).1 ∧ ((rdF t n m c p (hI h 314)).1 = 0 → hI h' 314 = (rdF t n m c p (hI h 314)).2 ∧ VQ (hI h' 314) ∧ hI h' 314 0 = 1) := by
  intro m
  induction m with
  | zero =>
    intro c h p N hm rt e11 e14 v e0
    obtain ⟨r, h1, p', f1, u1, i1', r1, d1⟩ := clauseR rt e11 e14 (by omega) v e0 rfl rfl rfl
    have hn := rt.1.2.2.1
    have sl := sk_le (t := t) rt.2.1
    have z : ¬ clF t n (sk t n p) (lw t n (sk t n p)) (kCl t (sk t n p) (lw t n (sk t n p))) c (hI h 314) = 0 := cl40 (by omega) (by omega)
    have r0 : r = false := by
      cases r with
      | true => exact absurd (i1'.mp rfl) z
      | false => rfl
    obtain ⟨h2, f2, u2, a1, a9, a314⟩ := r88 r1
    rw [if_neg z] at f2
    show ∃ h', _ = some (if clF t n (sk t n p) (lw t n (sk t n p)) (kCl t (sk t n p) (lw t n (sk t n p))) c (hI h 314) = 0 then 1 else 0, h') ∧ _
    rw [if_neg z]
    refine ⟨h2, ?_, u1.o.tr u2, a1, a9, fun y => absurd y z⟩
    rw [f1, r0, aBind_some]
    show b_X12_readsAll_35 (f_X12_readsAll_35 (N + 0)) h1 308 0 = _
    simp only [b_X12_readsAll_35, if_true, b_X12_readsAll_66, f2]
  | succ m ih =>
    intro c h p N hm rt e11 e14 v e0
    obtain ⟨s, es⟩ : ∃ s, s = sk t n p := ⟨_, rfl⟩
    obtain ⟨p1, ep⟩ : ∃ p1, p1 = lw t n s := ⟨_, rfl⟩
    obtain ⟨k, ek⟩ : ∃ k, k = kCl t s p1 := ⟨_, rfl⟩
    obtain ⟨r, h1, p', f1, u1, i1', r1, d1⟩ := clauseR rt e11 e14 (by omega) v e0 es ep ek
    have hn := rt.1.2.2.1
    have sl := sk_le (t := t) rt.2.1
    rw [← es] at sl
    have pl := lw_le (t := t) sl.2
    rw [← ep] at pl
    rw [rdF, ← es, ← ep, ← ek]
    rw [f1, aBind_some]
    cases r with
    | false =>
      have z : ¬ clF t n s p1 k c (hI h 314) = 0 := fun y => absurd (i1'.mpr y) (by decide)
      obtain ⟨h2, f2, u2, a1, a9, a314⟩ := r88 r1
      rw [if_neg z] at f2
      rw [if_neg z]
      refine ⟨h2, ?_, u1.o.tr u2, a1, a9, fun y => absurd y z⟩
      rw [if_neg z]
      show b_X12_readsAll_35 (f_X12_readsAll_35 (N + (m + 1))) h1 308 0 = _
      simp only [b_X12_readsAll_35, if_true, b_X12_readsAll_66, f2]
    | true =>
      have z : clF t n s p1 k c (hI h 314) = 0 := i1'.mp rfl
      obtain ⟨dp, dQ, d14⟩ := d1 rfl
      rw [z] at r1
      rw [if_pos z]
      have vq : VQ (hI h1 314) := by rw [dQ]; exact v.cl hn pl.2 (by rw [ek]; exact kCl_6 _ _ _) (by omega) z
      have q0 : hI h1 314 0 = 1 := by rw [dQ]; exact clQ_0 (by omega) z e0
      have e11' : hI h1 308 11 = 6 := by rw [u1.2 11 (by decide) (by decide) (by decide) (by decide)]; exact e11
      rw [← dp]
      have se := seeR r1.1 r1.2.1 0
      rw [r1.e] at se
      have pl' := sk_le (t := t) r1.2.1
      obtain ⟨q, eq⟩ : ∃ q, q = sk t n p' := ⟨_, rfl⟩
      rw [← eq] at se pl' ⊢
      have c2 : RT (rS h1 (hI h1 308) q 0) t n q 0 := RT.of r1.1 pl'.2
      have u2 : FR h1 (rS h1 (hI h1 308) q 0) := FR.rs (fun _ _ _ _ _ => rfl)
      obtain ⟨g, eg⟩ : ∃ g, g = rS h1 (hI h1 308) q 0 := ⟨_, rfl⟩
      rw [← eg] at se c2 u2
      have g314 : hI g 314 = hI h1 314 := by rw [eg, rS_o _ _ _ _ (by decide)]
      have n1 : ¬ (1 : Int32) = 0 := by decide
      show ∃ h', b_X12_readsAll_35 (f_X12_readsAll_35 (N + (m + 1))) h1 308 1 = _ ∧ _
      by_cases b : bya t n q = 59
      · rw [if_pos b]
        have ql := bya_lt b
        have g8 : hI g 308 8 = nI q := c2.2.2.1
        have c3 : RT (pI g 308 8 (nI (q + 1))) t n (q + 1) 0 := by
          obtain ⟨⟨b1, b2, b3, b4⟩, d2, d3, d4⟩ := c2
          refine ⟨⟨b1, ?_, b3, fun j hj => ?_⟩, ql, ?_, ?_⟩
          · rw [hI_eq, upd_ne _ _ (by decide)]; exact b2
          · rw [hI_ne _ (by decide)]; exact b4 j hj
          · rw [hI_eq, upd_at]
          · rw [hI_eq, upd_ne _ _ (by decide)]; exact d4
        have u3 : FR g (pI g 308 8 (nI (q + 1))) := ⟨Upd.pI (Or.inl rfl), fun j w _ _ _ => by rw [hI_eq, upd_ne _ _ w]⟩
        have k314 : hI (pI g 308 8 (nI (q + 1))) 314 = hI h1 314 := by rw [hI_ne _ (by decide)]; exact g314
        have k11 : hI (pI g 308 8 (nI (q + 1))) 308 11 = 6 := by rw [u3.2 11 (by decide) (by decide) (by decide) (by decide), u2.2 11 (by decide) (by decide) (by decide) (by decide)]; exact e11'
        have k14 : hI (pI g 308 8 (nI (q + 1))) 308 14 = nI (c + 1) := by rw [hI_eq, upd_ne _ _ (by decide), eg, rS_j _ _ _ _ (by decide) (by decide)]; exact d14
        obtain ⟨h', x1, x2, x3, x4, x5⟩ := ih (c + 1) (pI g 308 8 (nI (q + 1))) (q + 1) N (by omega) c3 k11 k14 (by rw [k314]; exact vq) (by rw [k314, if_neg (by omega)]; exact q0)
        rw [k314, dQ] at x1 x4 x5
        refine ⟨h', ?_, (u1.o.tr u2.o).tr (u3.o.tr x2), x3, x4, x5⟩
        simp only [b_X12_readsAll_35, if_neg n1, q_308, se, aBind_some, if_pos b, g8, i1, aLet]
        exact x1
      · rw [if_neg b]
        have se2 := seeR c2.1 c2.2.1 0
        have ss : sk t n q = q := by rw [eq]; exact sk_sk r1.2.1
        rw [c2.e, ss, c2.e] at se2
        have g8 : hI g 308 8 = nI q := c2.2.2.1
        by_cases e : bya t n q = -1
        · obtain ⟨h2, f2, w2, a1, a9, a314⟩ := r88 c2
          rw [if_pos e]
          rw [if_pos rfl] at f2
          refine ⟨h2, ?_, (u1.o.tr u2.o).tr w2, a1, a9, fun _ => ⟨?_, ?_, ?_⟩⟩
          · show _ = some (if (0 : Int32) = 0 then 1 else 0, h2)
            simp only [b_X12_readsAll_35, if_neg n1, q_308, se, aBind_some, if_neg b, b_X12_readsAll_66, se2, if_pos e, f2, if_true]
          · rw [a314, g314, dQ]
          · rw [a314, g314]; exact vq
          · rw [a314, g314]; exact q0
        · obtain ⟨h3, f3, r3, u3⟩ := failT c2 0 q
          obtain ⟨h2, f2, w2, a1, a9, a314⟩ := r88 r3
          have nb : ¬ blm q 0 0 = 0 := blm_ne (by omega) (Or.inl rfl)
          rw [if_neg e]
          rw [if_neg nb] at f2
          refine ⟨h2, ?_, ((u1.o.tr u2.o).tr u3.o).tr w2, a1, a9, fun y => absurd y nb⟩
          show _ = some (if blm q 0 0 = 0 then 1 else 0, h2)
          rw [if_neg nb]
          simp only [b_X12_readsAll_35, if_neg n1, q_308, se, aBind_some, if_neg b, b_X12_readsAll_66, se2, if_neg e, g8, f3, f2]
