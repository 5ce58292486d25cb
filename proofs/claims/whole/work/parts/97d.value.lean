/-! ===== sums and tests: class and reference ===== -/
theorem kind_cases : ∀ n, n < 16 → (kindOf (nI n) = 0 → nI n = 0) ∧ (kindOf (nI n) = 1 → nI n = 1) ∧ (kindOf (nI n) = 11 → nI n = 14) ∧ (nI n = 0 → kindOf (nI n) = 0) ∧ (nI n = 1 → kindOf (nI n) = 1) ∧ (nI n = 14 → kindOf (nI n) = 11) := by decide +kernel
theorem and15 (x : Int32) : ∃ n : Nat, n < 16 ∧ x &&& 15 = nI n := pk_andE x 4 (by decide)
theorem rl_ne : ∀ a ∈ rlL, a + 1 ≠ 41 ∧ a + 2 ≠ 41 ∧ a + 3 ≠ 41 ∧ a + 4 ≠ 41 ∧ a ≠ 41 := by decide +kernel
theorem qrl0 {α : Type} {x y : α} {a : Nat} (ha : a ∈ rlL) : (if (sh a).1 = 12 then x else y) = x := if_pos (rl_sh a ha).1
theorem qrl1 {α : Type} {x y : α} {a : Nat} (ha : a ∈ rlL) : (if (sh (a + 1)).1 = 0 then x else y) = x := if_pos (by rw [(rl_sh a ha).2.1])
theorem qrl2 {α : Type} {x y : α} {a : Nat} (ha : a ∈ rlL) : (if (sh (a + 2)).1 = 0 then x else y) = x := if_pos (by rw [(rl_sh a ha).2.2.1])
theorem qrl3 {α : Type} {x y : α} {a : Nat} (ha : a ∈ rlL) : (if (sh (a + 3)).1 = 0 then x else y) = x := if_pos (by rw [(rl_sh a ha).2.2.2.1])
theorem qrl4 {α : Type} {x y : α} {a : Nat} (ha : a ∈ rlL) : (if (sh (a + 4)).1 = 0 then x else y) = x := if_pos (by rw [(rl_sh a ha).2.2.2.2])
theorem inrl1 {a k : Nat} (ha : a ∈ rlL) (h : k < 256) : aIn (nI k) (sh (a + 1)).2 := by rw [(rl_sh a ha).2.1]; exact vp_in_nI h (by decide)
theorem inrl2 {a k : Nat} (ha : a ∈ rlL) (h : k < 12) : aIn (nI k) (sh (a + 2)).2 := by rw [(rl_sh a ha).2.2.1]; exact vp_in_nI h (by decide)
theorem inrl3 {a k : Nat} (ha : a ∈ rlL) (h : k < 12) : aIn (nI k) (sh (a + 3)).2 := by rw [(rl_sh a ha).2.2.2.1]; exact vp_in_nI h (by decide)
theorem inrl4 {a k : Nat} (ha : a ∈ rlL) (h : k < 12) : aIn (nI k) (sh (a + 4)).2 := by rw [(rl_sh a ha).2.2.2.2]; exact vp_in_nI h (by decide)
theorem in41 {k : Nat} (h : k < 64) : aIn (nI k) (sh 41).2 := by rw [sh_41]; exact vp_in_nI h (by decide)
theorem in40 {k : Nat} (h : k < 11) : aIn (nI k) (sh 40).2 := by rw [sh_40]; exact vp_in_nI h (by decide)
theorem in316 {k : Nat} (h : k < 64) : aIn (nI k) (sh 316).2 := by rw [sh_316]; exact vp_in_nI h (by decide)
theorem in317 {k : Nat} (h : k < 11) : aIn (nI k) (sh 317).2 := by rw [sh_317]; exact vp_in_nI h (by decide)
theorem in310 {k : Nat} (h : k < 2400) : aIn (nI k) (sh 310).2 := by rw [sh_310]; exact vp_in_nI h (by decide)
theorem s4 : ((4 : Int32) &&& 31) = 4 := by decide
theorem hL_pL_eq (h : aH) {a i : Nat} {x : Int64} : hL (pL h a i x) a = vp_updL (hL h a) i x := by rw [hL_pL, if_pos rfl]
theorem hL_pL_ne (h : aH) {a b i : Nat} {x : Int64} (n : b ≠ a) : hL (pL h a i x) b = hL h b := by rw [hL_pL, if_neg n]
theorem in41_0 : aIn (0 : Int32) (sh 41).2 := in41 (k := 0) (by decide)
theorem m1s (n : Nat) : nI (n + 1) - 1 = nI n := nI_pred n
theorem m2s (n : Nat) : nI (n + 1 + 1) - 2 = nI n := by
  have := pk_sub (a := n + 1 + 1) (b := 2) (by omega)
  rw [show n + 1 + 1 - 2 = n by omega] at this
  exact this
theorem evS_0 {wd : Nat → Int64} {st : List Int64} {s v : Int32} (h : s = 0) : evS wd st s v = v.toInt64 :: st := by unfold evS; rw [if_pos h]
theorem evS_1 {wd : Nat → Int64} {st : List Int64} {s v : Int32} (h : s = 1) (hv : 0 ≤ v ∧ v ≤ 10) : evS wd st s v = wd v.toNatClampNeg :: st := by
  subst h; unfold evS; rw [if_neg (by decide), if_pos rfl, if_pos hv]
theorem evS_11 {wd : Nat → Int64} {x : Int64} {st : List Int64} {s v : Int32} (h : s = 11) : evS wd (x :: st) s v = (1 - x) :: st := by
  subst h; unfold evS; rw [if_neg (by decide), if_neg (by decide), if_pos rfl]
theorem evS_o {wd : Nat → Int64} {x y : Int64} {st : List Int64} {s v : Int32} (h0 : ¬ s = 0) (h1 : ¬ s = 1) (h11 : ¬ s = 11) : evS wd (y :: x :: st) s v = oneV s x y :: st := by
  unfold evS; rw [if_neg h0, if_neg h1, if_neg h11]
theorem not_c {x : Int64} (hx : x = 0 ∨ x = 1) : (if x = 0 then (1 : Int64) else 0) = 1 - x := by
  rcases hx with rfl | rfl <;> decide
theorem value_step {h h1 : aH} (hS : Str h) {ra : Nat} (hra : ra ∈ rlL) (u : Upd (fun c => c = 41) h h1) {sg : Nat → Int32} {z l : Nat} (hz : z < l) (hl : l ≤ 256)
    (hk : sg z &&& 15 = kindOf (hI h (ra + 1) z &&& 15) ∧ sg z >>> 4 = hI h (ra + 1) z >>> 4) {t t' : List Bool} {st : List Int64} (o : okT t st) (h60 : st.length ≤ 60) (ht : tyS t (sg z &&& 15) (sg z >>> 4) = some t') (hs : stk (hL h1 41) st)
    (K : aH → Nat → Nat → Int32 → Int32 → Int32 → Option (Int64 × aH)) :
    ∃ h2, b_X3_value_6 K h1 39 ra (nI l) (nI st.length) (nI z) = K h2 39 ra (nI l) (nI (evS (hL h 40) st (sg z &&& 15) (sg z >>> 4)).length) (nI (z + 1)) ∧ stk (hL h2 41) (evS (hL h 40) st (sg z &&& 15) (sg z >>> 4)) ∧ Upd (fun c => c = 41) h h2 ∧ (evS (hL h 40) st (sg z &&& 15) (sg z >>> 4)).length ≤ 60 := by
  have S1 := u.str hS
  have A := S1.rl hra
  have nr := rl_ne ra hra
  have c : ¬ nI l ≤ nI z := nI_ge hz (by omega)
  have e1 : hI h1 (ra + 1) = hI h (ra + 1) := u.2.2.1 _ nr.1
  have e40 : hL h1 40 = hL h 40 := u.2.2.2 40 (by decide)
  obtain ⟨k, hk16, ek⟩ := and15 (hI h (ra + 1) z)
  have kc := kind_cases k hk16
  have lo := okT_len o
  rw [ek] at hk
  rcases tyS_cases ht with ⟨s0, q⟩ | ⟨s0, q, q1, q2⟩ | ⟨s0, r, rfl⟩ | ⟨s0, s1, s11, a, b, r, rfl⟩
  · have k0 : nI k = 0 := kc.1 (by rw [← hk.1]; exact s0)
    rw [evS_0 s0, hk.2]
    refine ⟨pL h1 41 st.length (hI h (ra + 1) z >>> 4).toInt64, ?_, by rw [hL_pL_eq]; exact stk_p hs, u.tr (Upd.pL (A := fun c => c = 41) rfl), by simp only [List.length_cons]; omega⟩
    have c64 : ¬ (64 : Int32) ≤ nI st.length := nI_ge (b := 64) (by omega) (by decide)
    simp only [b_X3_value_6, if_neg c, qrl0 hra, A.1, Option.bind_some, qrl1 hra, if_pos (inrl1 hra (show z < 256 by omega)), aLet, nI_clamp (show z < 2 ^ 31 by omega), e1, ek, k0, s4, if_true, b_X3_value_46, if_neg c64, q_39, r_39_1 S1, b_X3_value_76, q_41, if_pos (in41 (show st.length < 64 by omega)), nI_clamp (show st.length < 2 ^ 31 by omega), b_X3_value_169, i1, List.length_cons]
  · have k0 : nI k = 1 := kc.2.1 (by rw [← hk.1]; exact s0)
    obtain ⟨v, hv, ev4⟩ := btw_nI (M := 10) (m := 10) (x := sg z >>> 4) ⟨q1, q2⟩ (by decide)
    have n10 : ¬ (1 : Int32) = 0 := by decide
    rw [evS_1 s0 ⟨q1, q2⟩, ev4, nI_clamp (by omega)]
    have ev5 : hI h (ra + 1) z >>> 4 = nI v := by rw [← hk.2]; exact ev4
    refine ⟨pL h1 41 st.length (hL h 40 v), ?_, by rw [hL_pL_eq]; exact stk_p hs, u.tr (Upd.pL (A := fun c => c = 41) rfl), by simp only [List.length_cons]; omega⟩
    have c64 : ¬ (64 : Int32) ≤ nI st.length := nI_ge (b := 64) (by omega) (by decide)
    have c11 : ¬ (11 : Int32) ≤ nI v := nI_ge (b := 11) (by omega) (by decide)
    have cv : ¬ nI v < 0 := nI_pos (by omega)
    simp only [b_X3_value_6, if_neg c, qrl0 hra, A.1, Option.bind_some, qrl1 hra, if_pos (inrl1 hra (show z < 256 by omega)), aLet, nI_clamp (show z < 2 ^ 31 by omega), e1, ek, k0, s4, if_neg n10, if_true, b_X3_value_46, if_neg c64, q_39, r_39_1 S1, r_39_0 S1, f_X3_wordValue, ev5, if_neg c11, if_neg cv, q_40, if_pos (in40 (show v < 11 by omega)), nI_clamp (show v < 2 ^ 31 by omega), e40, aBind_some, b_X3_value_76, q_41, if_pos (in41 (show st.length < 64 by omega)), nI_clamp (show st.length < 2 ^ 31 by omega), b_X3_value_169, i1, List.length_cons]
  · cases st with
    | nil => exact o.elim
    | cons x xs =>
      have k0 : nI k = 14 := kc.2.2.1 (by rw [← hk.1]; exact s0)
      have n0 : ¬ (14 : Int32) = 0 := by decide
      have n1 : ¬ (14 : Int32) = 1 := by decide
      rw [evS_11 s0]
      simp only [List.length_cons] at h60 ⊢
      have ct : ¬ nI (xs.length + 1) < 1 := nI_nlt (b := 1) (by omega) (by omega)
      refine ⟨pL h1 41 xs.length (1 - x), ?_, by rw [hL_pL_eq]; exact stk_p hs.2, u.tr (Upd.pL (A := fun c => c = 41) rfl), h60⟩
      simp only [b_X3_value_6, if_neg c, qrl0 hra, A.1, Option.bind_some, qrl1 hra, if_pos (inrl1 hra (show z < 256 by omega)), aLet, nI_clamp (show z < 2 ^ 31 by omega), e1, ek, k0, s4, if_neg n0, if_neg n1, if_true, if_neg ct, q_39, r_39_1 S1, m1s, q_41, if_pos (in41 (show xs.length < 64 by omega)), nI_clamp (show xs.length < 2 ^ 31 by omega), hs.1, lg_cmp_eq, b_X3_value_123, b_X3_value_169, i1]
      rw [← not_c (o.1 rfl)]
      by_cases x0 : x = 0
      · rw [if_pos x0, if_pos x0]
      · rw [if_neg x0, if_neg x0]
  · cases st with
    | nil => exact o.elim
    | cons y ys => cases ys with
      | nil => exact o.2.elim
      | cons x xs =>
        have n0 : ¬ nI k = 0 := fun q => s0 (by rw [hk.1]; exact kc.2.2.2.1 q)
        have n1 : ¬ nI k = 1 := fun q => s1 (by rw [hk.1]; exact kc.2.2.2.2.1 q)
        have n14 : ¬ nI k = 14 := fun q => s11 (by rw [hk.1]; exact kc.2.2.2.2.2 q)
        rw [evS_o s0 s1 s11, hk.1]
        simp only [List.length_cons] at h60 ⊢
        have ct : ¬ nI (xs.length + 1 + 1) < 2 := nI_nlt (b := 2) (by omega) (by omega)
        have hx := hs.2.1
        have hy := hs.1
        simp only [List.length_cons] at hy
        refine ⟨pL h1 41 xs.length (oneV (kindOf (nI k)) x y), ?_, by rw [hL_pL_eq]; exact stk_p hs.2.2, u.tr (Upd.pL (A := fun c => c = 41) rfl), by omega⟩
        simp only [b_X3_value_6, if_neg c, qrl0 hra, A.1, Option.bind_some, qrl1 hra, if_pos (inrl1 hra (show z < 256 by omega)), aLet, nI_clamp (show z < 2 ^ 31 by omega), e1, ek, s4, if_neg n0, if_neg n1, if_neg n14, if_neg ct, q_39, r_39_1 S1, m1s, m2s, q_41, if_pos (in41 (show xs.length < 64 by omega)), if_pos (in41 (show xs.length + 1 < 64 by omega)), nI_clamp (show xs.length < 2 ^ 31 by omega), nI_clamp (show xs.length + 1 < 2 ^ 31 by omega), hx, hy, combined_eq h1 39 ⟨k, hk16, rfl⟩ n0 n1 n14, aBind_some, b_X3_value_169, i1, pk_m1]
theorem tyR_s {sg : Nat → Int32} {n z : Nat} {t f : List Bool} (h : tyR sg (n + 1) z t = some f) : ∃ t', tyS t (sg z &&& 15) (sg z >>> 4) = some t' ∧ tyR sg n (z + 1) t' = some f := by
  rw [tyR] at h
  exact Option.bind_eq_some_iff.mp h
theorem value_eq {h : aH} (hS : Str h) {ra : Nat} (hra : ra ∈ rlL) {sg : Nat → Int32} {i l : Nat} (hil : i ≤ l) (hl : l ≤ 256)
    (hk : ∀ z, z < l → sg z &&& 15 = kindOf (hI h (ra + 1) z &&& 15) ∧ sg z >>> 4 = hI h (ra + 1) z >>> 4) {b : Bool} (ht : tyR sg (l - i) i [] = some [b]) :
    ∃ x h', f_X3_value h 39 ra (nI i) (nI l) = some (x, h') ∧ evR (hL h 40) sg (l - i) i [] = [x] ∧ (b = true → x = 0 ∨ x = 1) ∧ Upd (fun c => c = 41) h h' := by
  refine itLoop (σ := aH × Int32 × Int32) (fun n s => f_X3_value_6 n s.1 39 ra (nI l) s.2.1 s.2.2)
    (fun j s => ∃ t st, s = (s.1, nI st.length, nI (i + j)) ∧ Upd (fun c => c = 41) h s.1 ∧ stk (hL s.1 41) st ∧ okT t st ∧ st.length ≤ 60 ∧ tyR sg (l - i - j) (i + j) t = some [b] ∧ evR (hL h 40) sg (l - i - j) (i + j) st = evR (hL h 40) sg (l - i) i [])
    (fun o => ∃ x h', o = some (x, h') ∧ evR (hL h 40) sg (l - i) i [] = [x] ∧ (b = true → x = 0 ∨ x = 1) ∧ Upd (fun c => c = 41) h h') (l - i) ?_ ?_ 2000 0 (h, 0, nI i) ?_ (by omega) (by omega)
  · rintro m j s hj ⟨t, st, es, u, hs, o, h60, hty, hev⟩
    rw [show l - i - j = (l - i - (j + 1)) + 1 by omega] at hty hev
    obtain ⟨t', ht1, ht2⟩ := tyR_s hty
    obtain ⟨h2, f2, k2, u2, l2⟩ := value_step hS hra u (z := i + j) (l := l) (by omega) hl (hk _ (by omega)) o h60 ht1 hs (f_X3_value_6 m)
    refine Or.inr ⟨(h2, nI (evS (hL h 40) st (sg (i + j) &&& 15) (sg (i + j) >>> 4)).length, nI (i + j + 1)), ⟨t', _, rfl, u2, k2, okS o ht1, l2, ht2, ?_⟩, ?_⟩
    · rw [evR] at hev; exact hev
    · rw [es]; exact f2
  · rintro m s ⟨t, st, es, u, hs, o, h60, hty, hev⟩
    have S1 := u.str hS
    rw [show l - i - (l - i) = 0 by omega] at hty hev
    rw [tyR] at hty
    cases hty
    cases st with
    | nil => exact o.elim
    | cons x xs => cases xs with
      | cons _ _ => exact o.2.elim
      | nil =>
        rw [evR] at hev
        refine ⟨x, s.1, ?_, hev.symm, o.1, u⟩
        rw [es]
        show b_X3_value_6 _ s.1 39 ra (nI l) _ (nI (i + (l - i))) = _
        rw [show i + (l - i) = l by omega]
        have x0 : hL s.1 41 0 = x := hs.1
        simp only [b_X3_value_6, if_pos (Int32.le_refl (nI l)), q_39, r_39_1 S1, Option.bind_some, q_41, if_pos in41_0, z_clamp, x0]
  · exact ⟨[], [], rfl, Upd.rf h, trivial, trivial, by simp, ht, rfl⟩
