/-! ===== rule: what was read is a rule ===== -/
theorem tyR_sn {g : Row} : ∀ (m i : Nat) (st : List Bool), tyR g (m + 1) i st = (tyR g m i st).bind (fun u => tyS u (g (i + m) &&& 15) (g (i + m) >>> 4)) := by
  intro m
  induction m with
  | zero =>
    intro i st
    rw [tyR, tyR]
    show (tyS st (g i &&& 15) (g i >>> 4)).bind (tyR g 0 (i + 1)) = tyS st (g (i + 0) &&& 15) (g (i + 0) >>> 4)
    rw [Nat.add_zero]
    cases tyS st (g i &&& 15) (g i >>> 4) with
    | none => rfl
    | some u => rfl
  | succ m ih =>
    intro i st
    rw [tyR, tyR]
    cases tyS st (g i &&& 15) (g i >>> 4) with
    | none => rfl
    | some u =>
      show tyR g (m + 1) (i + 1) u = (tyR g m (i + 1) u).bind _
      rw [ih (i + 1) u, show i + (m + 1) = i + 1 + m by omega]
theorem SR.suf {g : Row} {L : List (Nat × Nat)} : ∀ {M : List (Nat × Nat)}, SR g (M ++ L) → SR g L := by
  intro M
  induction M with
  | nil => intro h; exact h
  | cons x r ih => intro h; exact ih h.2
theorem tyR_L {g : Row} {L : List (Nat × Nat)} : ∀ (N : List (Nat × Nat)), SR g (N ++ L) → bdL N → ∀ st, tyR g N.length L.length st = tyL N st := by
  intro N
  induction N with
  | nil => intro _ _ st; rfl
  | cons x r ih =>
    intro h bd st
    have b := bd x List.mem_cons_self
    have h1 : g (r ++ L).length = nI (x.1 + 16 * x.2) := h.1
    rw [List.length_cons, tyR_sn, ih h.2 (fun y hy => bd y (List.mem_cons_of_mem _ hy)) st]
    rw [List.length_append, Nat.add_comm] at h1
    rw [h1, stp_k (by omega) b.2, stp_v (by omega) b.2]
    rfl
theorem sr_sc {g g' : Row} : ∀ (L : List (Nat × Nat)), SR g L → SC g' L → bdL L → ∀ i, i < L.length → ∃ a v, a < 15 ∧ v < 100000 ∧ g i = nI (a + 16 * v) ∧ g' i = nI (ck a + 16 * v) := by
  intro L
  induction L with
  | nil => intro _ _ _ i hi; cases hi
  | cons x r ih =>
    intro h1 h2 bd i hi
    by_cases y : i = r.length
    · have b := bd x List.mem_cons_self
      rw [y]
      exact ⟨x.1, x.2, b.1, b.2, h1.1, h2.1⟩
    · rw [List.length_cons] at hi
      exact ih h1.2 h2.2 (fun y hy => bd y (List.mem_cons_of_mem _ hy)) i (by omega)
theorem cc_rc {g g2 g3 g4 : Row} : ∀ (C : Cl), CC g2 g3 g4 C → RCl g C → ∀ c, c < C.length → ∃ x, x ∈ C ∧ (g2 c = nI x.1 ∧ g3 c = nI x.2.1 ∧ g4 c = nI x.2.2) ∧ (g (4 * c) = nI x.1 ∧ g (4 * c + 1) = nI x.2.1 ∧ g (4 * c + 2) = (if x.2.1 = x.2.2 then -1 else nI x.2.1) ∧ g (4 * c + 3) = nI x.2.2) := by
  intro C
  induction C with
  | nil => intro _ _ c hc; cases hc
  | cons x r ih =>
    intro h1 h2 c hc
    by_cases y : c = r.length
    · rw [y]
      exact ⟨x, List.mem_cons_self, h1.1, h2.1⟩
    · rw [List.length_cons] at hc
      obtain ⟨z, a, b⟩ := ih h1.2 h2.2 c (by omega)
      exact ⟨z, List.mem_cons_of_mem _ a, b⟩
theorem rule_ok {h : aH} {k : Nat} {L : List (Nat × Nat)} {C : Cl} (e5 : hI h (66 + 5 * k) 5 = nI C.length) (cc : CC (hI h (68 + 5 * k)) (hI h (69 + 5 * k)) (hI h (70 + 5 * k)) C) (sc : SC (hI h (67 + 5 * k)) L) (rf : RF h k L C) (ok : OKC C L) (bd : bdL L) : RRule h k := by
  obtain ⟨r1, r2, r3, r4, r5, r6⟩ := rf
  refine ⟨by rw [e5, r4], by rw [r4]; exact nI_btw r6 (by decide), fun i hi hlt => ?_, fun c hc hlt => ?_⟩
  · rw [r2] at hlt
    have il : i < L.length := (nI_ltI (by omega) (by omega)).mp hlt
    obtain ⟨a, v, h1, h2, h3, h4⟩ := sr_sc L r3 sc bd i il
    have h3' : hI h 310 (400 * k + i) = nI (a + 16 * v) := h3
    have q := ck_lt a h1
    rw [h3', h4, stp_k (by omega) h2, stp_k q.1 h2, stp_v (by omega) h2, stp_v q.1 h2, q.2]
    exact ⟨rfl, rfl⟩
  · rw [r4] at hlt
    have cl : c < C.length := (nI_ltI (by omega) (by omega)).mp hlt
    obtain ⟨x, hx, ⟨a1, a2, a3⟩, b1, b2, b3, b4⟩ := cc_rc C cc r5 c cl
    obtain ⟨M, N2, N1, L0, d1, d2, d3, d4⟩ := ok x hx
    have lL : L.length = M.length + (N2 ++ (N1 ++ L0)).length := by rw [d1, List.length_append]
    have l2 : (N2 ++ (N1 ++ L0)).length = N2.length + (N1 ++ L0).length := List.length_append
    have l1 : (N1 ++ L0).length = N1.length + L0.length := List.length_append
    have s2 : SR (fun i => hI h 310 (400 * k + i)) (N2 ++ (N1 ++ L0)) := by rw [d1] at r3; exact r3.suf
    have s1 : SR (fun i => hI h 310 (400 * k + i)) (N1 ++ L0) := s2.suf
    have bd1 : bdL N1 := fun y hy => bd y (by rw [d1]; exact List.mem_append_right _ (List.mem_append_right _ (List.mem_append_left _ hy)))
    have bd2 : bdL N2 := fun y hy => bd y (by rw [d1]; exact List.mem_append_right _ (List.mem_append_left _ hy))
    have x1 : x.1 = L0.length := by rw [d2]
    have x2 : x.2.1 = (N1 ++ L0).length := by rw [d2]
    have x3 : x.2.2 = (N2 ++ (N1 ++ L0)).length := by rw [d2]
    refine ⟨x.1, x.2.1, x.2.2, by omega, by omega, by omega, ?_, a1, a2, a3, b1, b2, b3, b4, ?_, fun hj => ?_⟩
    · rw [r2]; exact nI_le (by omega) (by omega)
    · rw [x1, x2, show (N1 ++ L0).length - L0.length = N1.length by omega]
      exact (tyR_L N1 s1 bd1 []).trans d3
    · rw [x2, x3, show (N2 ++ (N1 ++ L0)).length - (N1 ++ L0).length = N2.length by omega]
      rcases d4 with e | e
      · exfalso
        rw [x2, x3, e] at hj
        exact absurd hj (Nat.lt_irrefl _)
      · exact (tyR_L N2 s2 bd2 []).trans e
theorem tyR_c {g g' : Row} : ∀ (m i : Nat) (st : List Bool), (∀ z, i ≤ z → z < i + m → g' z = g z) → tyR g' m i st = tyR g m i st := by
  intro m
  induction m with
  | zero => intro i st _; rw [tyR, tyR]
  | succ m ih =>
    intro i st e
    have e0 := e i (Nat.le_refl _) (by omega)
    rw [tyR, tyR, e0]
    generalize tyS st (g i &&& 15) (g i >>> 4) = o
    have f : ∀ u, tyR g' m (i + 1) u = tyR g m (i + 1) u := fun u => ih (i + 1) u (fun z h1 h2 => e z (by omega) (by omega))
    have f' : tyR g' m (i + 1) = tyR g m (i + 1) := funext f
    rw [f']
theorem RRule.pt {h h' : aH} {k : Nat} (r : RRule h k) (e : ∀ b, 66 + 5 * k ≤ b → b ≤ 70 + 5 * k → hI h' b = hI h b) (f0 : ∀ i, i < 400 → hI h' 310 (400 * k + i) = hI h 310 (400 * k + i)) (f1 : hI h' 311 k = hI h 311 k) (f2 : ∀ i, i < 48 → hI h' 312 (48 * k + i) = hI h 312 (48 * k + i)) (f3 : hI h' 313 k = hI h 313 k) : RRule h' k := by
  obtain ⟨r1, r2, r3, r4⟩ := r
  refine ⟨?_, by rw [f3]; exact r2, fun i hi hlt => ?_, fun c hc hlt => ?_⟩
  · rw [e _ (by omega) (by omega), f3]; exact r1
  · rw [f1] at hlt
    rw [f0 i (by omega), e (67 + 5 * k) (by omega) (by omega)]
    exact r3 i hi hlt
  · rw [f3] at hlt
    obtain ⟨i, j, l, a1, a2, a3, a4, a5, a6, a7, a8, a9, a10, a11, a12, a13⟩ := r4 c hc hlt
    refine ⟨i, j, l, a1, a2, a3, by rw [f1]; exact a4, ?_, ?_, ?_, ?_, ?_, ?_, ?_, ?_, fun hj => ?_⟩
    · rw [e (68 + 5 * k) (by omega) (by omega)]; exact a5
    · rw [e (69 + 5 * k) (by omega) (by omega)]; exact a6
    · rw [e (70 + 5 * k) (by omega) (by omega)]; exact a7
    · rw [f2 (4 * c) (by omega)]; exact a8
    · rw [show 48 * k + 4 * c + 1 = 48 * k + (4 * c + 1) by omega] at a9 ⊢; rw [f2 _ (by omega)]; exact a9
    · rw [show 48 * k + 4 * c + 2 = 48 * k + (4 * c + 2) by omega] at a10 ⊢; rw [f2 _ (by omega)]; exact a10
    · rw [show 48 * k + 4 * c + 3 = 48 * k + (4 * c + 3) by omega] at a11 ⊢; rw [f2 _ (by omega)]; exact a11
    · rw [tyR_c (g := fun z => hI h 310 (400 * k + z)) (j - i) i [] (fun z h1 h2 => f0 z (by omega))]; exact a12
    · rw [tyR_c (g := fun z => hI h 310 (400 * k + z)) (l - j) j [] (fun z h1 h2 => f0 z (by omega))]; exact a13 hj
theorem RImages.up {h h' : aH} (r : RImages h) (e : ∀ b, 96 ≤ b → b < 168 → hI h' b = hI h b ∧ hL h' b = hL h b) (lt : ∀ x : Int32, x < hI h 308 2 → x < hI h' 308 2) (f : ∀ b, 329 ≤ b → b ≤ 332 → hI h' b = hI h b) : RImages h' := by
  intro k hk
  obtain ⟨a, b, c⟩ := r k hk
  rw [f 332 (by omega) (by omega), f 329 (by omega) (by omega), f 330 (by omega) (by omega), f 331 (by omega) (by omega), (e _ (by omega) (by omega)).1]
  refine ⟨a, b, fun q => ⟨(c q).1.mv (fun x h1 h2 => e x (by omega) (by omega)) ?_ ?_ ?_ (c q).1.2.2.2.2.2.2.2.1, (c q).2.1, lt _ (c q).2.2⟩⟩
  · rw [(e _ (by omega) (by omega)).1]
  · rw [(e _ (by omega) (by omega)).1]; exact (c q).1.2.2.2.2.2.1
  · rw [(e _ (by omega) (by omega)).1]; exact (c q).1.2.2.2.2.2.2.1
theorem rk_mem : ∀ k, k < 6 → 66 + 5 * k ∈ rlL ∧ (10, k, 66 + 5 * k) ∈ rfL := by decide +kernel
theorem in_10 {k : Nat} (h : k < 6) : aIn (nI k) (sh 10).2 := by rw [sh_10]; exact vp_in_nI h (by decide)
/-- the invariant behind a rule that was read, with or without a fault -/
theorem rule_inv {h g h' : aH} {k c4 : Nat} (hV : Inv h) (hk : k < 6) (S' : Str h') (oh : ∀ c, c ≠ 0 → c ≠ 1 → c ≠ 4 → c < 66 + 5 * k ∨ 70 + 5 * k < c → hI g c = hI h c) (ohl : ∀ c, c ≠ 0 → c ≠ 1 → c ≠ 4 → c < 66 + 5 * k ∨ 70 + 5 * k < c → hL g c = hL h c) (g0 : ∀ j, j ≠ 4 → hI g 0 j = hI h 0 j) (g04 : hI g 0 4 = nI c4) (hc4 : c4 ≤ 6) (hkc : k ≤ c4) (g11 : hI g 1 1 = 0) (og : ∀ c, c ≠ 308 → c ≠ 310 → c ≠ 311 → c ≠ 312 → c ≠ 313 → c ≠ 315 → hI h' c = hI g c ∧ hL h' c = hL g c) (f8 : ∀ j, j ≠ 1 → j ≠ 2 → j ≠ 8 → j ≠ 9 → j ≠ 10 → j ≠ 11 → j ≠ 12 → j ≠ 13 → j ≠ 14 → j ≠ 16 → hI h' 308 j = hI h 308 j) (f1 : hI h' 308 1 = 0) (f2 : hI h' 308 2 = nI c4) (e2 : hI h 308 2 = nI k) (p1 : ∀ j, j ≠ k → hI h' 311 j = hI h 311 j) (p0 : ∀ j, j < 400 * k ∨ 400 * k + 400 ≤ j → hI h' 310 j = hI h 310 j) (p2 : ∀ j, j < 48 * k ∨ 48 * k + 48 ≤ j → hI h' 312 j = hI h 312 j) (p3 : ∀ j, j ≠ k → hI h' 313 j = hI h 313 j) (nr : c4 ≤ k + 1) (rr : k < c4 → RRule h' k) : Inv h' := by
  obtain ⟨v0, v1, v2, v3, v4, v5, v6, v7⟩ := hV
  have och : ∀ c, c ≠ 0 → c ≠ 1 → c ≠ 4 → c < 66 + 5 * k ∨ 70 + 5 * k < c → c ≠ 308 → c ≠ 310 → c ≠ 311 → c ≠ 312 → c ≠ 313 → c ≠ 315 → hI h' c = hI h c := fun c a1 a2 a3 a4 b1 b2 b3 b4 b5 b6 => by rw [(og c b1 b2 b3 b4 b5 b6).1]; exact oh c a1 a2 a3 a4
  have ocl : ∀ c, c ≠ 0 → c ≠ 1 → c ≠ 4 → c < 66 + 5 * k ∨ 70 + 5 * k < c → c ≠ 308 → c ≠ 310 → c ≠ 311 → c ≠ 312 → c ≠ 313 → c ≠ 315 → hL h' c = hL h c := fun c a1 a2 a3 a4 b1 b2 b3 b4 b5 b6 => by rw [(og c b1 b2 b3 b4 b5 b6).2]; exact ohl c a1 a2 a3 a4
  have h0 := (og 0 (by decide) (by decide) (by decide) (by decide) (by decide) (by decide)).1
  have h1 := (og 1 (by decide) (by decide) (by decide) (by decide) (by decide) (by decide)).1
  have le : nI k ≤ nI c4 := nI_le hkc (by omega)
  have lt : ∀ x : Int32, x < hI h 308 2 → x < hI h' 308 2 := fun x hx => by
    rw [f2]
    rw [e2] at hx
    exact Int32.lt_of_lt_of_le hx le
  have q21 := f8 21 (by decide) (by decide) (by decide) (by decide) (by decide) (by decide) (by decide) (by decide) (by decide) (by decide)
  have q22 := f8 22 (by decide) (by decide) (by decide) (by decide) (by decide) (by decide) (by decide) (by decide) (by decide) (by decide)
  have q23 := f8 23 (by decide) (by decide) (by decide) (by decide) (by decide) (by decide) (by decide) (by decide) (by decide) (by decide)
  have q29 := f8 29 (by decide) (by decide) (by decide) (by decide) (by decide) (by decide) (by decide) (by decide) (by decide) (by decide)
  have o318 := och 318 (by omega) (by omega) (by omega) (by omega) (by omega) (by omega) (by omega) (by omega) (by omega) (by omega)
  have o11 := och 11 (by omega) (by omega) (by omega) (by omega) (by omega) (by omega) (by omega) (by omega) (by omega) (by omega)
  refine ⟨S', ⟨?_, ?_, fun j hj => ?_⟩, ⟨?_, ?_, fun k' hk' hlt => ?_⟩, ?_, ?_, ?_, ?_, ?_⟩
  · rw [h1, g11, f1]
  · rw [f1]; decide
  · rw [och 2 (by omega) (by omega) (by omega) (by omega) (by omega) (by omega) (by omega) (by omega) (by omega) (by omega), och 309 (by omega) (by omega) (by omega) (by omega) (by omega) (by omega) (by omega) (by omega) (by omega) (by omega)]; exact v1.2.2 j hj
  · rw [h0, g04, f2]
  · rw [f2]; exact nI_btw hc4 (by decide)
  · rw [f2] at hlt
    have kl : k' < c4 := (nI_ltI (by omega) (by omega)).mp hlt
    by_cases y : k' = k
    · rw [y]; rw [y] at kl; exact rr kl
    · have r := v2.2.2 k' hk' (by rw [e2]; exact nI_lt (by omega) (by omega))
      exact r.pt (fun b h1 h2 => och b (by omega) (by omega) (by omega) (by omega) (by omega) (by omega) (by omega) (by omega) (by omega) (by omega)) (fun i hi => p0 _ (by omega)) (p1 k' y) (fun i hi => p2 _ (by omega)) (p3 k' y)
  · rw [o318, q21, q22]
    exact v3.mv (fun c p q => ⟨och c (by omega) (by omega) (by omega) (by omega) (by omega) (by omega) (by omega) (by omega) (by omega) (by omega), ocl c (by omega) (by omega) (by omega) (by omega) (by omega) (by omega) (by omega) (by omega) (by omega) (by omega)⟩) (by rw [o11]) (by rw [o11]; exact v3.2.2.2.2.2.1) (by rw [o11]; exact v3.2.2.2.2.2.2.1) v3.2.2.2.2.2.2.2.1
  · rw [q21]; exact ⟨v4.1, lt _ v4.2⟩
  · exact v5.mv (by rw [h0, g0 8 (by decide)]) (by rw [h0, g0 9 (by decide)]) q29 o318 (och 323 (by omega) (by omega) (by omega) (by omega) (by omega) (by omega) (by omega) (by omega) (by omega) (by omega)) (fun c p q => ⟨och c (by omega) (by omega) (by omega) (by omega) (by omega) (by omega) (by omega) (by omega) (by omega) (by omega), ocl c (by omega) (by omega) (by omega) (by omega) (by omega) (by omega) (by omega) (by omega) (by omega) (by omega)⟩)
  · exact v6.up (fun c p q => ⟨och c (by omega) (by omega) (by omega) (by omega) (by omega) (by omega) (by omega) (by omega) (by omega) (by omega), ocl c (by omega) (by omega) (by omega) (by omega) (by omega) (by omega) (by omega) (by omega) (by omega) (by omega)⟩) lt (fun c p q => och c (by omega) (by omega) (by omega) (by omega) (by omega) (by omega) (by omega) (by omega) (by omega) (by omega))
  · rw [q23]; exact v7
theorem op_rule : Op_rule Inv := by
  intro h hV _
  have hS := hV.1
  have v1 := hV.2.1
  have v2 := hV.2.2.1
  obtain ⟨n, hn, en⟩ := btw_nI v1.2.1 (m := 400) (by decide)
  obtain ⟨k, hk6, ek⟩ := btw_nI v2.2.1 (m := 6) (by decide)
  have e04 : hI h 0 4 = nI k := v2.1.trans ek
  by_cases k6 : k = 6
  · refine ⟨-1, h, h, ?_, ?_, hV⟩
    · show f_X11_rule h 0 = _
      simp only [f_X11_rule, q_0, e04, if_neg (show ¬ nI k < 6 by rw [k6]; decide)]
    · show f_X12_rule h 308 = _
      simp only [f_X12_rule, q_308, ek, if_pos (show nI k = 6 by rw [k6]; rfl)]
  · have hk : k < 6 := by omega
    obtain ⟨m, m10⟩ := rk_mem k hk
    have b : TB h (hI h 309) n := ⟨hS, by rw [v1.1]; exact en, hn, v1.2.2⟩
    obtain ⟨v, ev, okv⟩ := rd_ok (t := hI h 309) hn 14 (0, 0, []) [] (Nat.zero_le _) (by decide) (by unfold Ph; decide) (by decide) (by decide) (fun x hx => by cases hx) (fun x hx => by cases hx)
    obtain ⟨F, h1, e1, u1, x1⟩ := readRuleC m b ev
    have S1 := u1.str hS
    obtain ⟨h2, eh2⟩ : ∃ h2, h2 = pI h1 1 1 0 := ⟨_, rfl⟩
    have S2 : Str h2 := by rw [eh2]; exact S1
    have o2 : ∀ c, c ≠ 1 → c ≠ 4 → c < 66 + 5 * k ∨ 70 + 5 * k < c → hI h2 c = hI h c := fun c a d e => by rw [eh2, hI_ne _ a, u1.2.2.1 c (by unfold vA; omega)]
    have ol2 : ∀ c, c ≠ 1 → c ≠ 4 → c < 66 + 5 * k ∨ 70 + 5 * k < c → hL h2 c = hL h c := fun c a d e => by
      have q : hL h2 c = hL h1 c := by rw [eh2]; rfl
      rw [q, u1.2.2.2 c (by unfold vA; omega)]
    have or2 : ∀ c, c ≠ 1 → hI h2 c = hI h1 c := fun c a => by rw [eh2, hI_ne _ a]
    have h211 : hI h2 1 1 = 0 := by rw [eh2, hI_eq, upd_at]
    have h204 : hI h2 0 4 = nI k := by rw [o2 0 (by omega) (by omega) (by omega)]; exact e04
    have l6 : nI k < 6 := nI_lt (b := 6) hk (by decide)
    have r10 : hR h 10 k = some (66 + 5 * k) := hS.at _ _ _ m10
    have codeC : f_X11_rule h 0 = if F = 0 then some (nI (k + 1) - 1, pI h2 0 4 (nI (k + 1))) else some ((-2) - F, h2) := by
      have e5 : hI (pI h2 0 4 (nI (k + 1))) 0 4 = nI (k + 1) := by rw [hI_eq, upd_at]
      unfold f_X11_rule
      rw [q_0, e04, if_pos l6, r_0_2 hS, Option.bind_some, r_0_3 hS, Option.bind_some, aLet_e, q_10, if_pos (in_10 hk), nI_clamp (show k < 2 ^ 31 by omega), r10, Option.bind_some, q_4, e1, aBind_some, r_0_0 S1, Option.bind_some, q_1, aLet_e, ← eh2, h204, i1, aLet_e, e5]
    -- the reference from a heap g of the class's end
    have REF : ∀ g : aH, Str g → (∀ c, 308 ≤ c → hI g c = hI h c) → ∃ h', f_X12_rule g 308 = (if bB (isRv v) = 0 then some ((-2) - hI h' 308 9, h') else some (nI (k + 1) - 1, pI h' 308 2 (nI (k + 1)))) ∧ Upd zA g h' ∧ (∀ j, j ≠ 1 → j ≠ 8 → j ≠ 9 → j ≠ 10 → j ≠ 11 → j ≠ 12 → j ≠ 13 → j ≠ 14 → j ≠ 16 → hI h' 308 j = hI h 308 j) ∧ hI h' 308 1 = 0 ∧ (∀ j, j ≠ k → hI h' 311 j = hI h 311 j) ∧ (∀ j, j < 400 * k ∨ 400 * k + 400 ≤ j → hI h' 310 j = hI h 310 j) ∧ (∀ j, j < 48 * k ∨ 48 * k + 48 ≤ j → hI h' 312 j = hI h 312 j) ∧ (∀ j, j ≠ k → hI h' 313 j = hI h 313 j) ∧ REn h' k v := by
      intro g Sg og
      obtain ⟨g1, eg1⟩ : ∃ g1, g1 = pI (pI g 308 11 (nI k)) 313 k 0 := ⟨_, rfl⟩
      have Sg1 : Str g1 := by rw [eg1]; exact Sg
      have q308 : hI g1 308 = upd (hI h 308) 11 (nI k) := by rw [eg1, hI_ne _ (by decide), hI_eq, og 308 (by omega)]
      have q313 : hI g1 313 = upd (hI h 313) k 0 := by rw [eg1, hI_eq, hI_ne _ (by decide), og 313 (by omega)]
      have qo : ∀ c, 308 ≤ c → c ≠ 308 → c ≠ 313 → hI g1 c = hI h c := fun c p q r => by rw [eg1, hI_ne _ r, hI_ne _ q, og c p]
      have ug : Upd zA g g1 := by
        rw [eg1]
        exact (Upd.pI (Or.inl rfl)).tr (Upd.pI (Or.inr (Or.inr (Or.inr (Or.inr (Or.inl rfl))))))
      obtain ⟨h', y1, y2, y3, y4⟩ := readsAllK hk (h := g1) (t := hI h 309) (n := n) ⟨Sg1, by rw [q308, upd_ne _ _ (by decide)]; exact en, hn, fun j hj => by rw [qo 309 (by omega) (by omega) (by omega)]; exact ⟨rfl, (v1.2.2 j hj).2⟩⟩ (by rw [q308, upd_at]) (by rw [q313, upd_at]) ev
      have f2 : hI h' 308 2 = nI k := by rw [y2.2.1 2 (by decide) (by decide) (by decide) (by decide) (by decide) (by decide) (by decide) (by decide), q308, upd_ne _ _ (by decide)]; exact ek
      refine ⟨h', ?_, ug.tr y2.1, fun j a1 a8 a9 a10 a11 a12 a13 a14 a16 => ?_, y3, fun j hj => ?_, fun j hj => ?_, fun j hj => ?_, fun j hj => ?_, y4⟩
      · have g2' : hI g 308 2 = nI k := by rw [og 308 (by omega)]; exact ek
        have n6 : ¬ nI k = 6 := fun q => k6 ((nI_eq (b := 6) (by omega) (by decide)).mp q)
        have e11 : hI (pI g 308 11 (nI k)) 308 11 = nI k := by rw [hI_eq, upd_at]
        have e2' : hI (pI h' 308 2 (nI (k + 1))) 308 2 = nI (k + 1) := by rw [hI_eq, upd_at]
        unfold f_X12_rule
        rw [q_308, g2', if_neg n6, aLet_e, hR_pI, r_308_6 Sg, Option.bind_some, aLet_e, e11, q_313, if_pos (in_313 hk), nI_clamp (show k < 2 ^ 31 by omega), aLet_e, ← eg1, y1, aBind_some, f2, i1, aLet_e, e2']
      · rw [y2.2.1 j a1 a8 a9 a10 a12 a13 a14 a16, q308, upd_ne _ _ a11]
      · rw [y2.2.2.1 j hj, qo 311 (by omega) (by omega) (by omega)]
      · rw [y2.2.2.2.1 j hj, qo 310 (by omega) (by omega) (by omega)]
      · rw [y2.2.2.2.2.1 j hj, qo 312 (by omega) (by omega) (by omega)]
      · rw [y2.2.2.2.2.2 j hj, q313, upd_ne _ _ hj]
    cases v with
    | inl f =>
      obtain ⟨x2, x3⟩ := x1
      rw [if_neg (show ¬ F = 0 by rw [x2]; exact x3)] at codeC
      obtain ⟨h', y1, y2, y3, y4, y5, y6, y7, y8, y9⟩ := REF h2 S2 (fun c p => o2 c (by omega) (by omega) (by omega))
      have y9' : hI h' 308 9 = f := y9
      refine ⟨(-2) - F, h2, h', codeC, ?_, ?_⟩
      · show f_X12_rule h2 308 = _
        rw [y1, if_pos (show bB (isRv (Sum.inl f)) = 0 from rfl), y9', x2]
      · exact rule_inv (g := h2) (c4 := k) hV hk (y2.str S2) (fun c _ a2 a3 a4 => o2 c a2 a3 a4) (fun c _ a2 a3 a4 => ol2 c a2 a3 a4) (fun j _ => by rw [o2 0 (by omega) (by omega) (by omega)]) h204 hk6 (Nat.le_refl _) h211 (fun c b1 b2 b3 b4 b5 b6 => ⟨y2.2.2.1 c (by unfold zA; omega), y2.2.2.2 c (by unfold zA; omega)⟩) (fun j a1 _ a8 a9 a10 a11 a12 a13 a14 a16 => y3 j a1 a8 a9 a10 a11 a12 a13 a14 a16) y4 (by rw [y3 2 (by decide) (by decide) (by decide) (by decide) (by decide) (by decide) (by decide) (by decide) (by decide)]; exact ek) ek y5 y6 y7 y8 (by omega) (fun y => absurd y (Nat.lt_irrefl _))
    | inr z =>
      obtain ⟨x2, p, cq⟩ := x1
      rw [if_pos x2] at codeC
      obtain ⟨h3, eh3⟩ : ∃ h3, h3 = pI h2 0 4 (nI (k + 1)) := ⟨_, rfl⟩
      rw [← eh3] at codeC
      have S3 : Str h3 := by rw [eh3]; exact S2
      have o3 : ∀ c, c ≠ 0 → hI h3 c = hI h2 c := fun c a => by rw [eh3, hI_ne _ a]
      have ol3 : ∀ c, hL h3 c = hL h2 c := fun c => by rw [eh3]; rfl
      have g0 : hI h3 0 = upd (hI h 0) 4 (nI (k + 1)) := by rw [eh3, hI_eq, o2 0 (by omega) (by omega) (by omega)]
      obtain ⟨h', y1, y2, y3, y4, y5, y6, y7, y8, y9⟩ := REF h3 S3 (fun c p => by rw [o3 c (by omega)]; exact o2 c (by omega) (by omega) (by omega))
      have y9' : RF h' k z.1.2.2 z.2 := y9
      obtain ⟨okc, bdl⟩ := okv z rfl
      obtain ⟨h5, eh5⟩ : ∃ h5, h5 = pI h' 308 2 (nI (k + 1)) := ⟨_, rfl⟩
      have k8 : ∀ j, j ≠ 2 → hI h5 308 j = hI h' 308 j := fun j hj => by rw [eh5, hI_eq, upd_ne _ _ hj]
      have k82 : hI h5 308 2 = nI (k + 1) := by rw [eh5, hI_eq, upd_at]
      have ko : ∀ c, c ≠ 308 → hI h5 c = hI h' c := fun c hc => by rw [eh5, hI_ne _ hc]
      have kl : ∀ c, hL h5 c = hL h' c := fun c => by rw [eh5]; rfl
      refine ⟨nI (k + 1) - 1, h3, h5, codeC, ?_, ?_⟩
      · show f_X12_rule h3 308 = _
        rw [y1, if_neg (show ¬ bB (isRv (Sum.inr z)) = 0 from fun q => absurd (show (1 : Int32) = 0 from q) (by decide)), ← eh5]
      · have cell : ∀ c, 66 + 5 * k ≤ c → c ≤ 70 + 5 * k → hI h5 c = hI h1 c := fun c q1 q2 => by rw [ko c (by omega), y2.2.2.1 c (by unfold zA; omega), o3 c (by omega), or2 c (by omega)]
        obtain ⟨w1, w2, w3, w4⟩ := cq
        have w6 : hI h1 (66 + 5 * k) 5 = nI z.2.length := w2
        have sc : SC (hI h1 (66 + 5 * k + 1)) z.1.2.2 := w1.2.2.2.2.2.2
        have rl : RRule h5 k := by
          refine rule_ok (L := z.1.2.2) (C := z.2) ?_ ?_ ?_ ?_ okc bdl
          · rw [cell _ (by omega) (by omega)]; exact w6
          · rw [cell (68 + 5 * k) (by omega) (by omega), cell (69 + 5 * k) (by omega) (by omega), cell (70 + 5 * k) (by omega) (by omega), show 68 + 5 * k = 66 + 5 * k + 2 by omega, show 69 + 5 * k = 66 + 5 * k + 3 by omega, show 70 + 5 * k = 66 + 5 * k + 4 by omega]
            exact w3
          · rw [cell (67 + 5 * k) (by omega) (by omega), show 67 + 5 * k = 66 + 5 * k + 1 by omega]
            exact sc
          · obtain ⟨q1, q2, q3, q4, q5, q6⟩ := y9'
            exact ⟨q1, by rw [ko 311 (by decide)]; exact q2, by rw [ko 310 (by decide)]; exact q3, by rw [ko 313 (by decide)]; exact q4, by rw [ko 312 (by decide)]; exact q5, q6⟩
        exact rule_inv (g := h3) (c4 := k + 1) hV hk (by rw [eh5]; exact y2.str S3) (fun c a0 a2 a3 a4 => by rw [o3 c a0]; exact o2 c a2 a3 a4) (fun c _ a2 a3 a4 => by rw [ol3 c]; exact ol2 c a2 a3 a4) (fun j hj => by rw [g0, upd_ne _ _ hj]) (by rw [g0, upd_at]) (by omega) (by omega) (by rw [o3 1 (by decide)]; exact h211) (fun c b1 b2 b3 b4 b5 b6 => ⟨by rw [ko c b1]; exact y2.2.2.1 c (by unfold zA; omega), by rw [kl c]; exact y2.2.2.2 c (by unfold zA; omega)⟩) (fun j a1 a2 a8 a9 a10 a11 a12 a13 a14 a16 => by rw [k8 j a2]; exact y3 j a1 a8 a9 a10 a11 a12 a13 a14 a16) (by rw [k8 1 (by decide)]; exact y4) k82 ek (fun j hj => by rw [ko 311 (by decide)]; exact y5 j hj) (fun j hj => by rw [ko 310 (by decide)]; exact y6 j hj) (fun j hj => by rw [ko 312 (by decide)]; exact y7 j hj) (fun j hj => by rw [ko 313 (by decide)]; exact y8 j hj) (by omega) (fun _ => rl)
