/-! ===== isle: the class reads a clause ===== -/
theorem late_dq {Q : Row} (l : LateR Q 150) : LateR (dq Q) 75 := by
  unfold LateR at l ⊢
  unfold dq
  rw [if_neg (by omega), if_neg (by omega), if_neg (by omega), bo_lt (p := 0) (by omega), bo_lt (p := 1) (by omega), bo_lt (p := 2) (by omega)]
  exact l
theorem not_too {c k : Nat} {Q : Row} (h : ¬ tooB c k Q) : c < 40 ∧ (k = 0 ↔ c = 0) ∧ (k = 1 → ¬ 4 ≤ Q 3) ∧ (k = 2 → ¬ 4 ≤ Q 4) := by
  refine ⟨?_, ⟨fun a => ?_, fun a => ?_⟩, fun a b => h (Or.inr (Or.inr (Or.inr (Or.inl ⟨a, b⟩)))), fun a b => h (Or.inr (Or.inr (Or.inr (Or.inr ⟨a, b⟩))))⟩
  · exact Nat.lt_of_not_le (fun y => h (Or.inl y))
  · exact Decidable.byContradiction (fun y => h (Or.inr (Or.inl ⟨a, y⟩)))
  · exact Decidable.byContradiction (fun y => h (Or.inr (Or.inr (Or.inl ⟨y, a⟩))))
theorem lt4 {a : Nat} {x : Int32} (ha : a ≤ 4) (e : x = nI a) (h : ¬ 4 ≤ x) : a < 4 := by
  rcases Nat.lt_or_ge a 4 with y | y
  · exact y
  · exfalso
    have : a = 4 := by omega
    subst this
    rw [e] at h
    exact h (by decide)
theorem vn_g {t : Row} {n p : Nat} {m f : Int32} (z : nf t n p m f = 0) : vn t n p m f = nv t n p := if_pos z
theorem readClauseC {h : aH} {t : Row} {n p c : Nat} (ct : CT h t n p 0) {Q : Row} (r : RSt h 31 (dq Q)) (v : VQ Q) (hc : c ≤ 40) (h0 : c = 0 → ∀ k, k < 32 → Q (78 + k) = -1) {s p1 k : Nat} (es : s = sk t n p) (ep : p1 = lw t n s) (ek : k = kCl t s p1) : ∃ h' p', f_X2_readClause h 3 31 (nI c) = some ((), h') ∧ CT h' t n p' (clF t n s p1 k c Q) ∧ Upd iA h h' ∧ (clF t n s p1 k c Q = 0 → p' = clP t n p1 k ∧ RSt h' 31 (dq (clQ t n p1 k Q))) := by
  have hn := ct.1.2.2.1
  have sl := sk_le (t := t) ct.2.1
  have se := seekC ct.1 ct.2.1 0
  rw [ct.e, ← es] at se
  have cs : CT (cS h s 0) t n s 0 := CT.of ct.1 (by rw [es]; exact sl.2)
  have us := cS_u h s 0
  have rs := r.u1 us
  have pl := lw_le (t := t) cs.2.1
  rw [← ep] at pl
  have tw := clauseW cs.1 cs.2.1 0
  rw [cs.e] at tw
  have ss : sk t n s = s := by rw [es]; exact sk_sk ct.2.1
  rw [ss, ← ep, ← ek] at tw
  by_cases k6 : k = 6
  · rw [if_pos k6] at tw
    have cs2 : CT (cS (cS h s 0) s 0) t n s 0 := CT.of cs.1 cs.2.1
    have bl := blameC (cS h s 0) s s 0 0
    have u2 := cS_u (cS h s 0) s (blm s 0 0)
    have F : clF t n s p1 k c Q = blm s 0 0 := if_pos k6
    refine ⟨cS (cS h s 0) s (blm s 0 0), s, ?_, by rw [F]; exact CT.of cs.1 cs.2.1, (u1A us).tr (u1A u2), fun y => ?_⟩
    · simp only [f_X2_readClause, q_3, r_3_0 ct.1.1, Option.bind_some, q_1, se, aBind_some, r_3_0 cs.1.1, tw, if_true, r_3_0 cs2.1.1, bl]
    · rw [F] at y
      exact absurd y (blm_ne (by omega) (Or.inl rfl))
  · rw [if_neg k6] at tw
    have k5 : k ≤ 5 := by have := kCl_6 t s p1; omega
    have km : ¬ nI k = -1 := by
      have : 0 ≤ nI k := nI_pos' (by omega)
      intro y
      rw [y] at this
      exact absurd this (by decide)
    have cw : CT (cS (cS h s 0) p1 0) t n p1 0 := CT.of cs.1 pl.2
    have uw := cS_u (cS h s 0) p1 0
    have rw' := rs.u1 uw
    have too := tooC rw' (c := c) (k := k) hc k5
    by_cases tb : tooB c k Q
    · rw [decide_eq_true tb] at too
      have bl := blameC (cS h s 0) p1 s 0 4
      have F : clF t n s p1 k c Q = blm s 4 0 := by unfold clF; rw [if_neg k6, if_pos tb]
      have u2 := cS_u (cS h s 0) p1 (blm s 4 0)
      refine ⟨cS (cS h s 0) p1 (blm s 4 0), p1, ?_, by rw [F]; exact CT.of cs.1 pl.2, (u1A us).tr (u1A u2), fun y => ?_⟩
      · simp only [f_X2_readClause, q_3, r_3_0 ct.1.1, Option.bind_some, q_1, se, aBind_some, r_3_0 cs.1.1, tw, if_neg km, too, bB, if_neg (show ¬ (1 : Int32) = 0 by decide), r_3_0 cw.1.1, bl]
      · rw [F] at y
        exact absurd y (blm_ne (by omega) (Or.inr (Or.inr rfl)))
    · rw [decide_eq_false tb] at too
      obtain ⟨c40, kc, k1, k2⟩ := not_too tb
      obtain ⟨⟨a, ha, ea⟩, ⟨b, hb, eb⟩, vl, vk⟩ := v
      have fin : ∀ (x : Int32) (h' : aH) (p' : Nat), nI k = x → f_X2_readNumbers (cS (cS h s 0) p1 0) 3 31 x = some ((), h') → CT h' t n p' (clF t n s p1 k c Q) → Upd iA (cS (cS h s 0) p1 0) h' → (clF t n s p1 k c Q = 0 → p' = clP t n p1 k ∧ RSt h' 31 (dq (clQ t n p1 k Q))) → ∃ h' p', f_X2_readClause h 3 31 (nI c) = some ((), h') ∧ CT h' t n p' (clF t n s p1 k c Q) ∧ Upd iA h h' ∧ (clF t n s p1 k c Q = 0 → p' = clP t n p1 k ∧ RSt h' 31 (dq (clQ t n p1 k Q))) := by
        intro x h' p' ex e1 e2 e3 e4
        refine ⟨h', p', ?_, e2, ((u1A us).tr (u1A uw)).tr e3, e4⟩
        rw [← ex] at e1
        simp only [f_X2_readClause, q_3, r_3_0 ct.1.1, Option.bind_some, q_1, se, aBind_some, r_3_0 cs.1.1, tw, if_neg km, too, bB, if_true, e1]
      have d3 : dq Q 3 = nI a := ea
      have d4 : dq Q 4 = nI b := eb
      have cases6 : k = 0 ∨ k = 1 ∨ k = 2 ∨ k = 3 ∨ k = 4 ∨ k = 5 := by omega
      rcases cases6 with z | z | z | z | z | z
      · have c0 := kc.mp z
        obtain ⟨h', e1, e2, e3, e4⟩ := readN0 cw rw'
        have F : clF t n s p1 k c Q = nf t n (nx t n p1) 20 (nf t n p1 99 0) := by unfold clF; rw [if_neg k6, if_neg tb, if_pos z]
        have P : clP t n p1 k = nx t n (nx t n p1) := by unfold clP; rw [if_pos z]
        have G : clQ t n p1 k Q = rowI t n p1 Q := by unfold clQ; rw [if_pos z]
        rw [F, P, G] at fin ⊢
        refine fin 0 h' _ (by rw [z]; rfl) e1 e2 e4 (fun y => ⟨rfl, ?_⟩)
        have y' : nf t n (nx t n p1) 20 (nf t n p1 99 0) = 0 := y
        obtain ⟨y1, _⟩ := nf_0 hn (nx_le pl.2) y'
        rw [vn_g y1, vn_g y'] at e3
        exact e3.mv (fun _ _ _ => rfl) rfl (dq_I (h0 c0))
      · obtain ⟨h', e1, e2, e3, e4⟩ := readN1 cw rw' (lt4 ha ea (k1 z)) d3
        have F : clF t n s p1 k c Q = nf t n p1 999 0 := by unfold clF; rw [if_neg k6, if_neg tb, if_neg (by omega), if_neg (by omega), if_neg (by omega)]
        have P : clP t n p1 k = nx t n p1 := by unfold clP; rw [if_neg (by omega), if_neg (by omega)]
        have G : clQ t n p1 k Q = rowE t n p1 0 Q := by unfold clQ; rw [if_neg (by omega), if_pos z]
        rw [F, P, G] at fin ⊢
        refine fin 1 h' _ (by rw [z]; rfl) e1 e2 e4 (fun y => ⟨rfl, ?_⟩)
        have y' : nf t n p1 999 0 = 0 := y
        rw [vn_g y'] at e3
        exact e3.mv (fun _ _ _ => rfl) rfl (fun j hj => by
          have w := dq_E (t := t) (n := n) (p := p1) (o := 0) (Q := Q) (by decide) (lt4 ha ea (k1 z)) ea j hj
          rw [show 11 + 4 * (4 * 0 + a) = 11 + 4 * a by omega] at w
          exact w)
      · obtain ⟨h', e1, e2, e3, e4⟩ := readN2 cw rw' (lt4 hb eb (k2 z)) d4
        have F : clF t n s p1 k c Q = nf t n p1 999 0 := by unfold clF; rw [if_neg k6, if_neg tb, if_neg (by omega), if_neg (by omega), if_neg (by omega)]
        have P : clP t n p1 k = nx t n p1 := by unfold clP; rw [if_neg (by omega), if_neg (by omega)]
        have G : clQ t n p1 k Q = rowE t n p1 1 Q := by unfold clQ; rw [if_neg (by omega), if_neg (by omega), if_pos z]
        rw [F, P, G] at fin ⊢
        refine fin 2 h' _ (by rw [z]; rfl) e1 e2 e4 (fun y => ⟨rfl, ?_⟩)
        have y' : nf t n p1 999 0 = 0 := y
        rw [vn_g y'] at e3
        exact e3.mv (fun _ _ _ => rfl) rfl (fun j hj => dq_E (t := t) (n := n) (p := p1) (o := 1) (Q := Q) (by decide) (lt4 hb eb (k2 z)) eb j hj)
      · obtain ⟨h', e1, e2, e3, e4⟩ := readLk cw rw' ha hb d3 d4 (B := 36) (o := 43) (Or.inl ⟨rfl, rfl⟩)
        have F : clF t n s p1 k c Q = nf4 t n p1 Q 0 := by unfold clF; rw [if_neg k6, if_neg tb, if_neg (by omega), if_neg (by omega), if_pos (by omega)]
        have P : clP t n p1 k = nx t n (nx t n (nx t n (nx t n p1))) := by unfold clP; rw [if_neg (by omega), if_pos (by omega)]
        have G : clQ t n p1 k Q = rowL t n p1 110 Q := by unfold clQ; rw [if_neg (by omega), if_neg (by omega), if_neg (by omega), if_pos z]
        rw [F, P, G] at fin ⊢
        refine fin 3 h' _ (by rw [z]; rfl) (by rw [(readN34 cw.1.1).1, e1]; rfl) e2 e3 (fun y => ⟨rfl, ?_⟩)
        obtain ⟨e, w, he, hw, ee, ew, rr⟩ := e4 y
        refine rr.mv (fun _ _ _ => rfl) rfl (fun j hj => ?_)
        unfold rowL
        rw [ee, ew, nI_clamp (show e < 2 ^ 31 by omega), nI_clamp (show w < 2 ^ 31 by omega)]
        have u := dq_K (Q := Q) (B := 110) (o := 43) (q := 4 * e + w) (x := nv t n (nx t n (nx t n p1))) (y := nv t n (nx t n (nx t n (nx t n p1)))) (Or.inl ⟨rfl, rfl⟩) (by omega) j hj
        rw [show 16 + (4 * e + w) = 16 + 4 * e + w by omega] at u
        exact u
      · obtain ⟨h', e1, e2, e3, e4⟩ := readLk cw rw' ha hb d3 d4 (B := 37) (o := 78) (Or.inr ⟨rfl, rfl⟩)
        have F : clF t n s p1 k c Q = nf4 t n p1 Q 0 := by unfold clF; rw [if_neg k6, if_neg tb, if_neg (by omega), if_neg (by omega), if_pos (by omega)]
        have P : clP t n p1 k = nx t n (nx t n (nx t n (nx t n p1))) := by unfold clP; rw [if_neg (by omega), if_pos (by omega)]
        have G : clQ t n p1 k Q = rowL t n p1 78 Q := by unfold clQ; rw [if_neg (by omega), if_neg (by omega), if_neg (by omega), if_neg (by omega), if_pos z]
        rw [F, P, G] at fin ⊢
        refine fin 4 h' _ (by rw [z]; rfl) (by rw [(readN34 cw.1.1).2, e1]; rfl) e2 e3 (fun y => ⟨rfl, ?_⟩)
        obtain ⟨e, w, he, hw, ee, ew, rr⟩ := e4 y
        refine rr.mv (fun _ _ _ => rfl) rfl (fun j hj => ?_)
        unfold rowL
        rw [ee, ew, nI_clamp (show e < 2 ^ 31 by omega), nI_clamp (show w < 2 ^ 31 by omega)]
        have u := dq_K (Q := Q) (B := 78) (o := 78) (q := 4 * e + w) (x := nv t n (nx t n (nx t n p1))) (y := nv t n (nx t n (nx t n (nx t n p1)))) (Or.inr ⟨rfl, rfl⟩) (by omega) j hj
        rw [show 16 + (4 * e + w) = 16 + 4 * e + w by omega] at u
        exact u
      · obtain ⟨h', q, e1, e2, eq, hq, e3, e4⟩ := readN5 cw rw' (late_dq vl)
        have F : clF t n s p1 k c Q = nf t n p1 60 0 := by unfold clF; rw [if_neg k6, if_neg tb, if_neg (by omega), if_pos z]
        have P : clP t n p1 k = nx t n p1 := by unfold clP; rw [if_neg (by omega), if_neg (by omega)]
        have G : clQ t n p1 k Q = lateQ Q (nv t n p1).toNatClampNeg := by unfold clQ; rw [if_neg (by omega), if_neg (by omega), if_neg (by omega), if_neg (by omega), if_neg (by omega)]
        rw [F, P, G] at fin ⊢
        refine fin 5 h' _ (by rw [z]; rfl) e1 e2 e4 (fun y => ⟨rfl, ?_⟩)
        have y' : nf t n p1 60 0 = 0 := y
        rw [vn_g y'] at eq
        refine e3.mv (fun _ _ _ => rfl) rfl (fun j hj => ?_)
        rw [eq, nI_clamp (show q < 2 ^ 31 by omega)]
        exact dq_T hq j hj
theorem VQ.cl {t : Row} {n p k c s : Nat} {Q : Row} (hn : n ≤ 400) (hp : p ≤ n) (v : VQ Q) (hk : k ≤ 6) (hs : s ≤ 400) (z : clF t n s p k c Q = 0) : VQ (clQ t n p k Q) := by
  obtain ⟨⟨a, ha, ea⟩, ⟨b, hb, eb⟩, vl, vk⟩ := v
  unfold clF at z
  by_cases k6 : k = 6
  · rw [if_pos k6] at z; exact absurd z (blm_ne hs (Or.inl rfl))
  · rw [if_neg k6] at z
    by_cases tb : tooB c k Q
    · rw [if_pos tb] at z; exact absurd z (blm_ne hs (Or.inr (Or.inr rfl)))
    · rw [if_neg tb] at z
      obtain ⟨c40, kc, k1, k2⟩ := not_too tb
      have K : ∀ (B : Nat), (B = 110 ∨ B = 78) → nf4 t n p Q 0 = 0 → VQ (rowL t n p B Q) := fun B hB z4 => by
        obtain ⟨_, _, e, w, he, hw, ee, ew, b3, b4⟩ := four_g hn hp ha hb ea eb z4
        unfold rowL rowK
        rw [ee, ew, nI_clamp (show e < 2 ^ 31 by omega), nI_clamp (show w < 2 ^ 31 by omega)]
        have o : ∀ j, j < 78 ∨ 142 ≤ j → upd (upd Q (B + (4 * e + w)) (nv t n (nx t n (nx t n p)))) (B + 16 + (4 * e + w)) (nv t n (nx t n (nx t n (nx t n p)))) j = Q j := fun j hj => by rw [upd_ne _ _ (by omega), upd_ne _ _ (by omega)]
        have wide : ∀ {x : Int32}, Btw x 0 20 → Btw x (-1) 20 := fun h => ⟨Int32.le_trans (by decide) h.1, h.2⟩
        refine ⟨⟨a, ha, by rw [o 3 (by omega)]; exact ea⟩, ⟨b, hb, by rw [o 4 (by omega)]; exact eb⟩, ?_, fun i hi => ⟨?_, ?_⟩⟩
        · unfold LateR
          rw [o 150 (by omega), o (150 + 1) (by omega), o (150 + 2) (by omega)]; exact vl
        · by_cases y1 : 110 + i = B + 16 + (4 * e + w)
          · rw [y1, upd_at]; exact b4
          · rw [upd_ne _ _ y1]
            by_cases y2 : 110 + i = B + (4 * e + w)
            · rw [y2, upd_at]; exact b3
            · rw [upd_ne _ _ y2]; exact (vk i hi).1
        · by_cases y1 : 78 + i = B + 16 + (4 * e + w)
          · rw [y1, upd_at]; exact wide b4
          · rw [upd_ne _ _ y1]
            by_cases y2 : 78 + i = B + (4 * e + w)
            · rw [y2, upd_at]; exact wide b3
            · rw [upd_ne _ _ y2]; exact (vk i hi).2
      have E : ∀ o x, o < 2 → x < 4 → Q (3 + o) = nI x → VQ (rowE t n p o Q) := fun o x ho hx ex => by
        unfold rowE
        rw [ex, nI_clamp (show x < 2 ^ 31 by omega), i1]
        have u : ∀ j, j ≠ 3 + o → j < 142 ∨ 150 ≤ j → upd (upd Q (142 + 4 * o + x) (nv t n p)) (3 + o) (nI (x + 1)) j = Q j := fun j h1 h2 => by rw [upd_ne _ _ h1, upd_ne _ _ (by omega)]
        refine ⟨?_, ?_, ?_, fun i hi => ⟨?_, ?_⟩⟩
        · by_cases y : o = 0
          · subst y; exact ⟨x + 1, by omega, upd_at _ _ _⟩
          · exact ⟨a, ha, by rw [u 3 (by omega) (by omega)]; exact ea⟩
        · by_cases y : o = 1
          · subst y; exact ⟨x + 1, by omega, upd_at _ _ _⟩
          · exact ⟨b, hb, by rw [u 4 (by omega) (by omega)]; exact eb⟩
        · unfold LateR
          rw [u 150 (by omega) (by omega), u (150 + 1) (by omega) (by omega), u (150 + 2) (by omega) (by omega)]; exact vl
        · rw [u _ (by omega) (by omega)]; exact (vk i hi).1
        · rw [u _ (by omega) (by omega)]; exact (vk i hi).2
      have cases6 : k = 0 ∨ k = 1 ∨ k = 2 ∨ k = 3 ∨ k = 4 ∨ k = 5 := by omega
      rcases cases6 with w | w | w | w | w | w
      · subst w
        show VQ (rowI t n p Q)
        refine ⟨⟨a, ha, ea⟩, ⟨b, hb, eb⟩, vl, fun i hi => ⟨?_, ?_⟩⟩
        · unfold rowI
          rw [if_neg (by omega), if_neg (by omega), if_neg (by omega), if_neg (by omega)]
          exact (vk i hi).1
        · unfold rowI
          rw [if_neg (by omega), if_neg (by omega), if_neg (by omega), if_pos (by omega)]
          exact ⟨by decide, by decide⟩
      · subst w
        exact E 0 a (by decide) (lt4 ha ea (k1 rfl)) ea
      · subst w
        exact E 1 b (by decide) (lt4 hb eb (k2 rfl)) eb
      · have G : clQ t n p k Q = rowL t n p 110 Q := by unfold clQ; rw [if_neg (by omega), if_neg (by omega), if_neg (by omega), if_pos w]
        rw [if_neg (by omega), if_neg (by omega), if_pos (by omega)] at z
        rw [G]
        exact K 110 (Or.inl rfl) z
      · have G : clQ t n p k Q = rowL t n p 78 Q := by unfold clQ; rw [if_neg (by omega), if_neg (by omega), if_neg (by omega), if_neg (by omega), if_pos w]
        rw [if_neg (by omega), if_neg (by omega), if_pos (by omega)] at z
        rw [G]
        exact K 78 (Or.inr rfl) z
      · have G : clQ t n p k Q = lateQ Q (nv t n p).toNatClampNeg := by unfold clQ; rw [if_neg (by omega), if_neg (by omega), if_neg (by omega), if_neg (by omega), if_neg (by omega)]
        rw [if_neg (by omega), if_pos w] at z
        rw [G]
        have z' : nf t n p 60 0 = 0 := z
        obtain ⟨_, g⟩ := nf_0 hn hp z'
        obtain ⟨q, hq, eq⟩ := nv_nn hp g
        have m : nv t n p ≤ 60 := (of_decide_eq_true g).2.2
        rw [eq] at m
        have m' : nI q ≤ nI 60 := m
        have q6 := (nI_leI (by omega) (by omega)).mp m'
        rw [eq, nI_clamp (show q < 2 ^ 31 by omega)]
        have LT := lateT_R (late_dq vl) (k := q) (by omega)
        have DT := dq_T (Q := Q) (k := q) (by omega)
        have back : ∀ x, x < 3 → lateQ Q q (150 + x) = lateT (dq Q) q (75 + x) := fun x hx => by
          rw [← DT (75 + x) (by omega)]
          unfold dq
          rw [if_neg (by omega), bo_lt hx]
        have o : ∀ j, j < 150 → lateQ Q q j = Q j := fun j hj => by unfold lateQ; rw [upd_ne _ _ (by omega)]
        refine ⟨⟨a, ha, by rw [o 3 (by omega)]; exact ea⟩, ⟨b, hb, by rw [o 4 (by omega)]; exact eb⟩, ?_, fun i hi => ⟨?_, ?_⟩⟩
        · unfold LateR at LT ⊢
          rw [show 150 = 150 + 0 from rfl, back 0 (by omega), back 1 (by omega), back 2 (by omega)]
          exact LT
        · rw [o _ (by omega)]; exact (vk i hi).1
        · rw [o _ (by omega)]; exact (vk i hi).2
