/-! ===== isle: the class reads it all ===== -/
theorem bo_12 {X : Row} {p : Nat} (hp : p < 8) : beginOf X (12 + 4 * p) = -1 ∧ beginOf X (13 + 4 * p) = 0 ∧ beginOf X (14 + 4 * p) = 0 := by
  unfold beginOf
  refine ⟨?_, ?_, ?_⟩
  · rw [if_neg (by omega), if_pos (by omega), if_neg (by omega), if_pos (by omega)]
  · rw [if_neg (by omega), if_pos (by omega), if_neg (by omega), if_neg (by omega)]
  · rw [if_neg (by omega), if_pos (by omega), if_neg (by omega), if_neg (by omega)]
theorem dq_p {Q : Row} {j : Nat} (hj : 0 < j) : dq Q j = beginOf Q j := if_neg (by omega)
def ZQ (Q : Row) : Prop := (∀ j, j < 78 → Q j = 0) ∧ (∀ k, k < 32 → Q (78 + k) = -1) ∧ ∀ j, 110 ≤ j → j < 153 → Q j = 0
theorem clearC {h : aH} (hS : Str h) {Q : Row} (z : ZQ Q) : ∃ h', f_X8_clear h 31 = some ((), h') ∧ Upd (stA 31) h h' ∧ RSt h' 31 (dq Q) := by
  have s31 : stA 31 31 := by unfold stA; omega
  obtain ⟨h0, e0⟩ : ∃ h0, h0 = pL (pI (pI (pI (pI (pI (pI h 31 0 0) 31 1 0) 31 2 0) 31 3 0) 31 4 0) 31 5 0) 31 6 0 := ⟨_, rfl⟩
  have u0 : Upd (stA 31) h h0 := by
    rw [e0]
    exact (((((Upd.pI s31).tr (Upd.pI s31)).tr (Upd.pI s31)).tr (Upd.pI s31)).tr (Upd.pI s31)).tr (Upd.pI s31) |>.tr (Upd.pL s31)
  have S0 := u0.str hS
  obtain ⟨h', e1, u1, ⟨eI, eL⟩, z1, z2, z3⟩ := clr37 S0 (h := h0) ⟨Upd.rf _, ⟨rfl, rfl⟩, fun p hp => absurd hp (by omega), fun p hp => absurd hp (by omega), fun p hp => absurd hp (by omega)⟩
  obtain ⟨q1, q2, q3⟩ := z
  have i0 : ∀ j, j < 6 → hI h' 31 j = 0 := fun j hj => by
    rw [eI, e0, hI_pL, hI_eq, hI_eq, hI_eq, hI_eq, hI_eq, hI_eq]
    by_cases y5 : j = 5
    · rw [y5, upd_at]
    · rw [upd_ne _ _ y5]
      by_cases y4 : j = 4
      · rw [y4, upd_at]
      · rw [upd_ne _ _ y4]
        by_cases y3 : j = 3
        · rw [y3, upd_at]
        · rw [upd_ne _ _ y3]
          by_cases y2 : j = 2
          · rw [y2, upd_at]
          · rw [upd_ne _ _ y2]
            by_cases y1 : j = 1
            · rw [y1, upd_at]
            · rw [upd_ne _ _ y1, show j = 0 by omega, upd_at]
  have l0 : hL h' 31 6 = 0 := by rw [eL, e0, hL_pL, if_pos rfl, pk_uLs]
  have f : ∀ j, 0 < j → j < 10 → dq Q j = 0 := fun j h1 h2 => by rw [dq_p h1, bo_o (by omega)]; exact q1 j (by omega)
  refine ⟨h', ?_, u0.tr u1, ⟨?_, ?_, ?_, ?_, ?_, ?_, ?_⟩, fun p hp => ⟨?_, ?_, ?_⟩, fun p hp => ?_, fun k hk => ⟨?_, ?_⟩⟩
  · unfold f_X8_clear
    rw [q_31, aLet_e, aLet_e, aLet_e, aLet_e, aLet_e, aLet_e, aLet_e, ← e0, e1]
  · rw [i0 0 (by omega)]; rfl
  · rw [i0 1 (by omega), f 1 (by omega) (by omega)]
  · rw [i0 2 (by omega), f 2 (by omega) (by omega)]
  · rw [i0 3 (by omega), f 3 (by omega) (by omega)]
  · rw [i0 4 (by omega), f 4 (by omega) (by omega)]
  · rw [i0 5 (by omega)]; rfl
  · have a0 : dq Q 75 = 0 := by rw [dq_p (by omega), bo_lt (p := 0) (by omega)]; exact q3 _ (by omega) (by omega)
    have a1 : dq Q 76 = 0 := by rw [dq_p (by omega), bo_lt (p := 1) (by omega)]; exact q3 _ (by omega) (by omega)
    have a2 : dq Q 77 = 0 := by rw [dq_p (by omega), bo_lt (p := 2) (by omega)]; exact q3 _ (by omega) (by omega)
    rw [l0, lateOf, a0, a1, a2]
    decide
  · rw [(z1 p hp).1, dq_p (by omega), bo_pu hp]; exact (q3 _ (by omega) (by omega)).symm
  · rw [(z1 p hp).2.1, dq_p (by omega)]; exact (bo_12 hp).1.symm
  · rw [(z1 p hp).2.2, dq_p (by omega)]; exact (bo_12 hp).2.2.symm
  · rw [z2 p hp, dq_p (by omega)]; exact (bo_12 (show p < 8 by omega)).2.1.symm
  · rw [(z3 k hk).1, dq_p (by omega), bo_li hk]; exact (q3 _ (by omega) (by omega)).symm
  · rw [(z3 k hk).2, dq_p (by omega), bo_o (by omega)]; exact (q2 k hk).symm
theorem ZQ.v {Q : Row} (z : ZQ Q) : VQ Q := by
  obtain ⟨q1, q2, q3⟩ := z
  refine ⟨⟨0, by omega, q1 3 (by omega)⟩, ⟨0, by omega, q1 4 (by omega)⟩, ?_, fun k hk => ⟨?_, ?_⟩⟩
  · unfold LateR
    rw [q3 150 (by omega) (by omega), q3 (150 + 1) (by omega) (by omega), q3 (150 + 2) (by omega) (by omega)]
    decide
  · rw [q3 (110 + k) (by omega) (by omega)]; decide
  · rw [q2 k hk]; decide
theorem readIntoC {h : aH} {t : Row} {n : Nat} (b : TB h t n) {Q : Row} (z : ZQ Q) : ∃ h', f_X2_readInto h 3 31 = some ((rdF t n 40 0 0 Q).1, h') ∧ Upd iA h h' ∧ ((rdF t n 40 0 0 Q).1 = 0 → RSt h' 31 (flP (upd (dq (rdF t n 40 0 0 Q).2) 0 1) 32)) := by
  obtain ⟨h1, e1, u1, r1⟩ := clearC b.1 z
  have o1 : hI h1 1 = hI h 1 := u1.2.2.1 1 (by unfold stA; omega)
  have o2 : hI h1 2 = hI h 2 := u1.2.2.1 2 (by unfold stA; omega)
  have b1 : TB h1 t n := ⟨u1.str b.1, by rw [o1]; exact b.2.1, b.2.2.1, fun j hj => by rw [o2]; exact b.2.2.2 j hj⟩
  have rw1 : pI (pI h1 1 2 0) 1 3 0 = cS h1 0 0 := by
    unfold cS
    rw [pI_d h1, pI_wI]
    rfl
  have c2 : CT (cS h1 0 0) t n 0 0 := CT.of b1 (by omega)
  have u2 := cS_u h1 0 0
  obtain ⟨h', e3, u3, r3⟩ := loopC (t := t) (n := n) 40 0 (cS h1 0 0) 0 Q 1958 (by omega) c2 (r1.u1 u2) z.v (fun _ => z.2.1)
  refine ⟨h', ?_, ((u1.mono (fun _ y => Or.inr y)).tr (u1A u2)).tr u3, r3⟩
  have rwd : f_X9_rewind h1 1 = some ((), cS h1 0 0) := by
    simp only [f_X9_rewind, q_1, aLet, rw1]
  unfold f_X2_readInto
  rw [q_31, e1, aBind_some, q_3, r_3_0 b1.1, Option.bind_some, q_1, rwd, aBind_some]
  exact e3
theorem rd_s {t : Row} {n m c p s p1 k : Nat} {Q : Row} (es : s = sk t n p) (ep : p1 = lw t n s) (ek : k = kCl t s p1) : rdF t n (m + 1) c p Q = if clF t n s p1 k c Q = 0 then (if bya t n (sk t n (clP t n p1 k)) = 59 then rdF t n m (c + 1) (sk t n (clP t n p1 k) + 1) (clQ t n p1 k Q) else (if bya t n (sk t n (clP t n p1 k)) = -1 then 0 else blm (sk t n (clP t n p1 k)) 0 0, clQ t n p1 k Q)) else (clF t n s p1 k c Q, Q) := by
  rw [rdF, ← es, ← ep, ← ek]
theorem rd_first {t : Row} {n : Nat} (Q : Row) (hn : n ≤ 400) : (rdF t n 40 0 0 (trM Q 32)).1 = (rdF t n 40 0 0 Q).1 ∧ ((rdF t n 40 0 0 Q).1 = 0 → (rdF t n 40 0 0 (trM Q 32)).2 = (rdF t n 40 0 0 Q).2) := by
  have sl := sk_le (t := t) (n := n) (p := 0) (by omega)
  obtain ⟨s, es⟩ : ∃ s, s = sk t n 0 := ⟨_, rfl⟩
  rw [← es] at sl
  obtain ⟨p1, ep⟩ : ∃ p1, p1 = lw t n s := ⟨_, rfl⟩
  obtain ⟨k, ek⟩ : ∃ k, k = kCl t s p1 := ⟨_, rfl⟩
  rw [rd_s (m := 39) (c := 0) (p := 0) (Q := Q) es ep ek, rd_s (m := 39) (c := 0) (p := 0) (Q := trM Q 32) es ep ek]
  have T : ∀ Q : Row, ¬ k = 0 → tooB 0 k Q := fun Q y => Or.inr (Or.inr (Or.inl ⟨y, rfl⟩))
  have T0 : ∀ Q : Row, k = 0 → ¬ tooB 0 k Q := fun Q y q => by
    rcases q with q | q | q | q | q
    · omega
    · exact q.2 rfl
    · exact q.1 y
    · exact absurd q.1 (by omega)
    · exact absurd q.1 (by omega)
  have F : clF t n s p1 k 0 (trM Q 32) = clF t n s p1 k 0 Q := by
    unfold clF
    by_cases k6 : k = 6
    · rw [if_pos k6, if_pos k6]
    · rw [if_neg k6, if_neg k6]
      by_cases k0 : k = 0
      · rw [if_neg (T0 _ k0), if_neg (T0 _ k0), if_pos k0, if_pos k0]
      · rw [if_pos (T _ k0), if_pos (T _ k0)]
  rw [F]
  by_cases z : clF t n s p1 k 0 Q = 0
  · have k0 : k = 0 := by
      refine Decidable.byContradiction (fun y => ?_)
      unfold clF at z
      by_cases k6 : k = 6
      · rw [if_pos k6] at z; exact blm_ne (by omega) (Or.inl rfl) z
      · rw [if_neg k6, if_pos (T _ y)] at z; exact blm_ne (by omega) (Or.inr (Or.inr rfl)) z
    have G : clQ t n p1 k (trM Q 32) = clQ t n p1 k Q := by
      unfold clQ
      rw [if_pos k0, if_pos k0]
      funext j
      unfold rowI trM
      by_cases y : 78 ≤ j ∧ j < 110
      · rw [if_pos y, if_pos y]
      · rw [if_neg y, if_neg y]
    rw [G, if_pos z, if_pos z]
    exact ⟨rfl, fun _ => rfl⟩
  · rw [if_neg z, if_neg z]
    exact ⟨rfl, fun y => absurd y z⟩
