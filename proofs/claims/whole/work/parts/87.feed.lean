/-! ===== feed ===== -/
def tb (x s : Int32) : Int32 := vp_nar .byte ((x >>> (s &&& 31)).toInt8.toInt32)
def four (f : Nat → Int32) (l : Nat) (x : Int32) : Nat → Int32 := upd (upd (upd (upd f l (tb x 24)) (l + 1) (tb x 16)) (l + 2) (tb x 8)) (l + 3) (tb x 0)
theorem tb_in (x s : Int32) : Btw (tb x s) (-128) 127 := by
  unfold tb
  rw [vp_nar_byte]
  generalize (x >>> (s &&& 31)).toInt8.toInt32.toInt8 = y
  refine ⟨Int32.le_iff_toInt_le.mpr ?_, Int32.le_iff_toInt_le.mpr ?_⟩
  · rw [Int8.toInt_toInt32]; have := Int8.le_toInt y; exact this
  · rw [Int8.toInt_toInt32]; have := Int8.toInt_lt y; have e : (127 : Int32).toInt = 127 := by decide
    rw [e]; omega
theorem upd_congr {f g : Nat → Int32} {k : Nat} {x : Int32} {j : Nat} (h : f j = g j) : upd f k x j = upd g k x j := by unfold upd; split <;> first | rfl | exact h
theorem four_congr {f g : Nat → Int32} {l : Nat} {x : Int32} {j : Nat} (h : f j = g j) : four f l x j = four g l x j := upd_congr (upd_congr (upd_congr (upd_congr h)))
theorem upd_in {f : Nat → Int32} {k j : Nat} {x lo hi : Int32} (h : Btw (f j) lo hi) (hx : Btw x lo hi) : Btw (upd f k x j) lo hi := by unfold upd; split <;> assumption
theorem four_in {f : Nat → Int32} {l j : Nat} {x : Int32} (h : Btw (f j) (-128) 127) : Btw (four f l x j) (-128) 127 := upd_in (upd_in (upd_in (upd_in h (tb_in _ _)) (tb_in _ _)) (tb_in _ _)) (tb_in _ _)
theorem un_c (n : Nat) : f_X9_append_3 (n + 1) = b_X9_append_3 (f_X9_append_3 n) := rfl
theorem one_c {n : Nat} {h : aH} {l : Nat} {x s : Int32} (hS : Str h) (hl : hI h 1 1 = nI l) (hb : l < 400) (hs : ¬ s < 0) : ∃ h1, f_X9_append_3 (n + 1) h 1 x s = f_X9_append_3 n h1 1 x (s + (-8)) ∧ hI h1 1 = upd (hI h 1) 1 (nI (l + 1)) ∧ hI h1 2 = upd (hI h 2) l (tb x s) ∧ Upd (fun a => a = 1 ∨ a = 2) h h1 := by
  have h4 : ¬ (400 : Int32) ≤ nI l := fun q => absurd ((nI_leI (a := 400) (b := l) (by decide) (by omega)).mp q) (by omega)
  have hin : aIn (nI l) (sh 2).2 := by rw [sh_2]; exact vp_in_nI hb (by decide)
  refine ⟨pI (pI h 2 l (tb x s)) 1 1 (nI (l + 1)), ?_, ?_, ?_, (Upd.pI (Or.inr rfl)).tr (Upd.pI (Or.inl rfl))⟩
  · rw [un_c]
    unfold b_X9_append_3
    rw [if_neg hs, q_1, hl, if_neg h4, r_1_0 hS]
    simp only [Option.bind_some, aLet, q_2, if_pos hin, nI_clamp (show l < 2 ^ 31 by omega)]
    rw [hI_ne _ (show 1 ≠ 2 by decide), hl, nI_1]
    rfl
  · rw [hI_eq, hI_ne _ (by decide)]
  · rw [hI_ne _ (by decide), hI_eq]
theorem four_c {h : aH} {l : Nat} (x : Int32) (hS : Str h) (hl : hI h 1 1 = nI l) (hb : l + 4 ≤ 400) : ∃ h1, f_X9_append h 1 x = some ((), h1) ∧ hI h1 1 1 = nI (l + 4) ∧ (∀ j, j ≠ 1 → hI h1 1 j = hI h 1 j) ∧ hI h1 2 = four (hI h 2) l x ∧ Upd (fun a => a = 1 ∨ a = 2) h h1 := by
  obtain ⟨h1, e1, a1, b1, u1⟩ := one_c (n := 1999) (x := x) (s := 24) hS hl (by omega) (by decide)
  obtain ⟨h2, e2, a2, b2, u2⟩ := one_c (n := 1998) (x := x) (s := 16) (l := l + 1) (u1.str hS) (by rw [a1, upd_at]) (by omega) (by decide)
  obtain ⟨h3, e3, a3, b3, u3⟩ := one_c (n := 1997) (x := x) (s := 8) (l := l + 2) (u2.str (u1.str hS)) (by rw [a2, upd_at]) (by omega) (by decide)
  obtain ⟨h4, e4, a4, b4, u4⟩ := one_c (n := 1996) (x := x) (s := 0) (l := l + 3) (u3.str (u2.str (u1.str hS))) (by rw [a3, upd_at]) (by omega) (by decide)
  refine ⟨h4, ?_, by rw [a4, upd_at], fun j hj => by rw [a4, upd_ne _ _ hj, a3, upd_ne _ _ hj, a2, upd_ne _ _ hj, a1, upd_ne _ _ hj], by rw [b4, b3, b2, b1]; rfl, u1.tr (u2.tr (u3.tr u4))⟩
  show f_X9_append_3 (1999 + 1) h 1 x 24 = _
  have z1 : (24 : Int32) + (-8) = 16 := by decide
  have z2 : (16 : Int32) + (-8) = 8 := by decide
  have z3 : (8 : Int32) + (-8) = 0 := by decide
  have z4 : (0 : Int32) + (-8) = -8 := by decide
  rw [e1, z1, e2, z2, e3, z3, e4, z4]
  show b_X9_append_3 (f_X9_append_3 1995) h4 1 x (-8) = _
  unfold b_X9_append_3
  rw [if_pos (by decide)]
theorem un_m (n : Nat) : f_X12_four_3 (n + 1) = b_X12_four_3 (f_X12_four_3 n) := rfl
theorem one_m {n : Nat} {h : aH} {l : Nat} {x s : Int32} (hS : Str h) (hl : hI h 308 1 = nI l) (hb : l < 400) (hs : ¬ s < 0) : ∃ h1, f_X12_four_3 (n + 1) h 308 x s = f_X12_four_3 n h1 308 x (s + (-8)) ∧ hI h1 308 = upd (hI h 308) 1 (nI (l + 1)) ∧ hI h1 309 = upd (hI h 309) l (tb x s) ∧ Upd (fun a => a = 308 ∨ a = 309) h h1 := by
  have h4 : ¬ (400 : Int32) ≤ nI l := fun q => absurd ((nI_leI (a := 400) (b := l) (by decide) (by omega)).mp q) (by omega)
  have hin : aIn (nI l) (sh 309).2 := by rw [sh_309]; exact vp_in_nI hb (by decide)
  refine ⟨pI (pI h 309 l (tb x s)) 308 1 (nI (l + 1)), ?_, ?_, ?_, (Upd.pI (Or.inr rfl)).tr (Upd.pI (Or.inl rfl))⟩
  · rw [un_m]
    unfold b_X12_four_3
    rw [if_neg hs, q_308, hl, r_308_0 hS]
    simp only [Option.bind_some, aLet, q_309, if_pos hin, nI_clamp (show l < 2 ^ 31 by omega)]
    rw [hI_ne _ (show 308 ≠ 309 by decide), hl, nI_1]
    rfl
  · rw [hI_eq, hI_ne _ (by decide)]
  · rw [hI_ne _ (by decide), hI_eq]
theorem four_m {h : aH} {l : Nat} (x : Int32) (hS : Str h) (hl : hI h 308 1 = nI l) (hb : l + 4 ≤ 400) : ∃ h1, f_X12_four h 308 x = some ((), h1) ∧ hI h1 308 1 = nI (l + 4) ∧ (∀ j, j ≠ 1 → hI h1 308 j = hI h 308 j) ∧ hI h1 309 = four (hI h 309) l x ∧ Upd (fun a => a = 308 ∨ a = 309) h h1 := by
  obtain ⟨h1, e1, a1, b1, u1⟩ := one_m (n := 1999) (x := x) (s := 24) hS hl (by omega) (by decide)
  obtain ⟨h2, e2, a2, b2, u2⟩ := one_m (n := 1998) (x := x) (s := 16) (l := l + 1) (u1.str hS) (by rw [a1, upd_at]) (by omega) (by decide)
  obtain ⟨h3, e3, a3, b3, u3⟩ := one_m (n := 1997) (x := x) (s := 8) (l := l + 2) (u2.str (u1.str hS)) (by rw [a2, upd_at]) (by omega) (by decide)
  obtain ⟨h4, e4, a4, b4, u4⟩ := one_m (n := 1996) (x := x) (s := 0) (l := l + 3) (u3.str (u2.str (u1.str hS))) (by rw [a3, upd_at]) (by omega) (by decide)
  refine ⟨h4, ?_, by rw [a4, upd_at], fun j hj => by rw [a4, upd_ne _ _ hj, a3, upd_ne _ _ hj, a2, upd_ne _ _ hj, a1, upd_ne _ _ hj], by rw [b4, b3, b2, b1]; rfl, u1.tr (u2.tr (u3.tr u4))⟩
  show f_X12_four_3 (1999 + 1) h 308 x 24 = _
  have z1 : (24 : Int32) + (-8) = 16 := by decide
  have z2 : (16 : Int32) + (-8) = 8 := by decide
  have z3 : (8 : Int32) + (-8) = 0 := by decide
  have z4 : (0 : Int32) + (-8) = -8 := by decide
  rw [e1, z1, e2, z2, e3, z3, e4, z4]
  show b_X12_four_3 (f_X12_four_3 1995) h4 308 x (-8) = _
  unfold b_X12_four_3
  rw [if_pos (by decide)]
def feedR (f : Nat → Int32) (l : Nat) (a b c d e : Int32) : Nat → Int32 := four (four (four (four (four f l a) (l + 4) b) (l + 8) c) (l + 12) d) (l + 16) e
theorem feed_le {l : Nat} (h : l ≤ 400) : (nI l + 20 ≤ 400) ↔ l + 20 ≤ 400 := by
  have e : nI l + 20 = nI (l + 20) := nI_add l 20
  rw [e]
  exact nI_leI (a := l + 20) (b := 400) (by omega) (by decide)
theorem feed_c {h : aH} {l : Nat} (a b c d e : Int32) (hS : Str h) (hl : hI h 1 1 = nI l) (hb : l + 20 ≤ 400) : ∃ h1, f_X11_feed h 0 a b c d e = some (nI (l + 20), h1) ∧ hI h1 1 1 = nI (l + 20) ∧ hI h1 2 = feedR (hI h 2) l a b c d e ∧ Upd (fun q => q = 1 ∨ q = 2) h h1 := by
  obtain ⟨h1, e1, a1, -, b1, u1⟩ := four_c a hS hl (by omega)
  obtain ⟨h2, e2, a2, -, b2, u2⟩ := four_c b (u1.str hS) a1 (by omega)
  obtain ⟨h3, e3, a3, -, b3, u3⟩ := four_c c (u2.str (u1.str hS)) a2 (by omega)
  obtain ⟨h4, e4, a4, -, b4, u4⟩ := four_c d (u3.str (u2.str (u1.str hS))) a3 (by omega)
  obtain ⟨h5, e5, a5, -, b5, u5⟩ := four_c e (u4.str (u3.str (u2.str (u1.str hS)))) a4 (by omega)
  refine ⟨h5, ?_, a5, by rw [b5, b4, b3, b2, b1]; rfl, u1.tr (u2.tr (u3.tr (u4.tr u5)))⟩
  have hc : nI l + 20 ≤ 400 := (feed_le (by omega)).mpr hb
  unfold f_X11_feed
  simp only [q_0, r_0_0 hS, Option.bind_some, q_1, hl, if_pos hc, e1, aBind_some, r_0_0 (u1.str hS), e2, r_0_0 (u2.str (u1.str hS)), e3, r_0_0 (u3.str (u2.str (u1.str hS))), e4, r_0_0 (u4.str (u3.str (u2.str (u1.str hS)))), e5, r_0_0 (u5.str (u4.str (u3.str (u2.str (u1.str hS))))), a5]
theorem feed_m {h : aH} {l : Nat} (a b c d e : Int32) (hS : Str h) (hl : hI h 308 1 = nI l) (hb : l + 20 ≤ 400) : ∃ h1, f_X12_feed h 308 a b c d e = some (nI (l + 20), h1) ∧ hI h1 308 1 = nI (l + 20) ∧ (∀ j, j ≠ 1 → hI h1 308 j = hI h 308 j) ∧ hI h1 309 = feedR (hI h 309) l a b c d e ∧ Upd (fun q => q = 308 ∨ q = 309) h h1 := by
  obtain ⟨h1, e1, a1, c1, b1, u1⟩ := four_m a hS hl (by omega)
  obtain ⟨h2, e2, a2, c2, b2, u2⟩ := four_m b (u1.str hS) a1 (by omega)
  obtain ⟨h3, e3, a3, c3, b3, u3⟩ := four_m c (u2.str (u1.str hS)) a2 (by omega)
  obtain ⟨h4, e4, a4, c4, b4, u4⟩ := four_m d (u3.str (u2.str (u1.str hS))) a3 (by omega)
  obtain ⟨h5, e5, a5, c5, b5, u5⟩ := four_m e (u4.str (u3.str (u2.str (u1.str hS)))) a4 (by omega)
  refine ⟨h5, ?_, a5, fun j hj => by rw [c5 j hj, c4 j hj, c3 j hj, c2 j hj, c1 j hj], by rw [b5, b4, b3, b2, b1]; rfl, u1.tr (u2.tr (u3.tr (u4.tr u5)))⟩
  have hc : nI l + 20 ≤ 400 := (feed_le (by omega)).mpr hb
  unfold f_X12_feed
  simp only [q_308, hl, if_pos hc, e1, aBind_some, e2, e3, e4, e5, a5]
theorem op_feed : Op_feed Inv := by
  intro h hV a b c d e
  have hS := hV.1
  have ht := hV.2.1
  obtain ⟨l, hl4, hl⟩ : ∃ l : Nat, l ≤ 400 ∧ hI h 308 1 = nI l := by
    obtain ⟨l, h1, h2⟩ := nI_of2 (x := hI h 308 1) (M := 400) (n := 400) (by decide) (Int32.not_lt.mpr ht.2.1.1) ht.2.1.2
    exact ⟨l, h1, h2⟩
  have hl1 : hI h 1 1 = nI l := ht.1.trans hl
  by_cases hb : l + 20 ≤ 400
  · obtain ⟨h1, e1, a1, b1, u1⟩ := feed_c a b c d e hS hl1 hb
    have k8 : hI h1 308 = hI h 308 := u1.2.2.1 308 (by omega)
    obtain ⟨h2, e2, a2, c2, b2, u2⟩ := feed_m (h := h1) a b c d e (u1.str hS) (by rw [k8]; exact hl) hb
    refine ⟨nI (l + 20), h1, h2, e1, e2, ?_⟩
    obtain ⟨v0, v1, v2, v3, v4, v5, v6, v7⟩ := hV
    have o : ∀ q, q ≠ 1 → q ≠ 2 → q ≠ 308 → q ≠ 309 → hI h2 q = hI h q := fun q q1 q2 q3 q4 => (u2.2.2.1 q (by omega)).trans (u1.2.2.1 q (by omega))
    have ol : ∀ q, q ≠ 1 → q ≠ 2 → q ≠ 308 → q ≠ 309 → hL h2 q = hL h q := fun q q1 q2 q3 q4 => (u2.2.2.2 q (by omega)).trans (u1.2.2.2 q (by omega))
    have n8 : ∀ j, j ≠ 1 → hI h2 308 j = hI h 308 j := fun j hj => by rw [c2 j hj, k8]
    have e11 : hI h2 1 = hI h1 1 := u2.2.2.1 1 (by omega)
    have e22 : hI h2 2 = hI h1 2 := u2.2.2.1 2 (by omega)
    have k9 : hI h1 309 = hI h 309 := u1.2.2.1 309 (by omega)
    refine ⟨u2.str (u1.str hS), ⟨by rw [e11, a1, a2], ?_, fun j hj => ⟨?_, ?_⟩⟩, v2.mv (by rw [o 0 (by omega) (by omega) (by omega) (by omega)]) (n8 2 (by decide)) (fun q _ _ => o q (by omega) (by omega) (by omega) (by omega)) (fun q _ _ => o q (by omega) (by omega) (by omega) (by omega)), ?_, ?_, v5.mv (by rw [o 0 (by omega) (by omega) (by omega) (by omega)]) (by rw [o 0 (by omega) (by omega) (by omega) (by omega)]) (n8 29 (by decide)) (o 318 (by omega) (by omega) (by omega) (by omega)) (o 323 (by omega) (by omega) (by omega) (by omega)) (fun q _ _ => ⟨o q (by omega) (by omega) (by omega) (by omega), ol q (by omega) (by omega) (by omega) (by omega)⟩), v6.mv (fun q _ _ => ⟨o q (by omega) (by omega) (by omega) (by omega), ol q (by omega) (by omega) (by omega) (by omega)⟩) (n8 2 (by decide)) (fun q _ _ => o q (by omega) (by omega) (by omega) (by omega)), (n8 23 (by decide)).trans v7⟩
    · rw [a2]
      exact ⟨nI_pos' (by omega), nI_le (b := 400) hb (by decide)⟩
    · rw [e22, b1, b2, k9]
      exact four_congr (four_congr (four_congr (four_congr (four_congr (ht.2.2 j hj).1))))
    · rw [b2, k9]
      exact four_in (four_in (four_in (four_in (four_in (ht.2.2 j hj).2))))
    · rw [o 318 (by omega) (by omega) (by omega) (by omega), n8 21 (by decide), n8 22 (by decide)]
      exact v3.mv (fun q _ _ => ⟨o q (by omega) (by omega) (by omega) (by omega), ol q (by omega) (by omega) (by omega) (by omega)⟩) (by rw [o 11 (by omega) (by omega) (by omega) (by omega)]) (by rw [o 11 (by omega) (by omega) (by omega) (by omega)]; exact v3.2.2.2.2.2.1) (by rw [o 11 (by omega) (by omega) (by omega) (by omega)]; exact v3.2.2.2.2.2.2.1) v3.2.2.2.2.2.2.2.1
    · rw [n8 21 (by decide), n8 2 (by decide)]; exact v4
  · have hc : ¬ nI l + 20 ≤ 400 := fun q => hb ((feed_le hl4).mp q)
    exact ⟨-1, h, h, by simp only [f_X11_feed, q_0, r_0_0 hS, Option.bind_some, q_1, hl1, if_neg hc], by simp only [f_X12_feed, q_308, hl, if_neg hc], hV⟩
