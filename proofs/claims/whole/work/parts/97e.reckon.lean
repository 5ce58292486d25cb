/-! ===== the reference's sums and tests ===== -/
def RK (h h1 : aH) (st : List Int64) : Prop := Upd (fun c => c = 308 ∨ c = 316) h h1 ∧ (∀ j, j ≠ 18 → hI h1 308 j = hI h 308 j) ∧ hI h1 308 18 = nI st.length ∧ stk (hL h1 316) st
theorem RK.push {h h1 : aH} (hS : Str h) {st : List Int64} (r : RK h h1 st) (hl : st.length < 64) (x : Int64) : ∃ h2, f_X12_push h1 308 x = some ((), h2) ∧ RK h h2 (x :: st) := by
  obtain ⟨u, e, n, s⟩ := r
  have S1 := u.str hS
  refine ⟨pI (pL h1 316 st.length x) 308 18 (nI (st.length + 1)), ?_, (u.tr (Upd.pL (A := fun c => c = 308 ∨ c = 316) (Or.inr rfl))).tr (Upd.pI (Or.inl rfl)), ?_, ?_, ?_⟩
  · simp only [f_X12_push, q_308, r_308_17 S1, Option.bind_some, aLet, n, q_316, if_pos (in316 hl), nI_clamp (show st.length < 2 ^ 31 by omega), hI_pL, i1]
  · intro j hj
    rw [hI_eq, upd_ne _ _ hj, hI_pL]; exact e j hj
  · rw [hI_eq, upd_at, List.length_cons]
  · rw [hL_pI, hL_pL_eq]; exact stk_p s
theorem RK.pop {h h1 : aH} (hS : Str h) {st : List Int64} {x : Int64} (r : RK h h1 (x :: st)) (hl : st.length < 64) : ∃ h2, f_X12_pop h1 308 = some (x, h2) ∧ RK h h2 st := by
  obtain ⟨u, e, n, s⟩ := r
  have S1 := u.str hS
  rw [List.length_cons] at n
  refine ⟨pI h1 308 18 (nI st.length), ?_, u.tr (Upd.pI (A := fun c => c = 308 ∨ c = 316) (Or.inl rfl)), ?_, ?_, ?_⟩
  · simp only [f_X12_pop, q_308, aLet, n, m1s, hR_pI, r_308_17 S1, Option.bind_some, hI_eq, upd_at, q_316, if_pos (in316 hl), nI_clamp (show st.length < 2 ^ 31 by omega), hL_pI, s.1]
  · intro j hj
    rw [hI_eq, upd_ne _ _ hj]; exact e j hj
  · rw [hI_eq, upd_at]
  · exact s.2
theorem i400 (k z : Nat) : (400 : Int32) * nI k + nI z = nI (400 * k + z) := by
  rw [show (400 : Int32) = nI 400 from rfl, pk_mul, nI_add]
theorem reckon_step {h h1 : aH} (hS : Str h) {k : Nat} (hk6 : k < 6) {z l : Nat} (hz : z < l) (hl : l ≤ 256) {t t' : List Bool} {st : List Int64} (r : RK h h1 st) (o : okT t st) (h60 : st.length ≤ 60)
    (ht : tyS t (hI h 310 (400 * k + z) &&& 15) (hI h 310 (400 * k + z) >>> 4) = some t') (K : aH → Nat → Int32 → Int32 → Int32 → Option (Int64 × aH)) :
    ∃ h2, b_X12_reckons_8 K h1 308 (nI k) (nI l) (nI z) = K h2 308 (nI k) (nI l) (nI (z + 1)) ∧ RK h h2 (evS (hL h 317) st (hI h 310 (400 * k + z) &&& 15) (hI h 310 (400 * k + z) >>> 4)) ∧ (evS (hL h 317) st (hI h 310 (400 * k + z) &&& 15) (hI h 310 (400 * k + z) >>> 4)).length ≤ 60 := by
  have u := r.1
  have S1 := u.str hS
  have c : ¬ nI l ≤ nI z := nI_ge hz (by omega)
  have e310 : hI h1 310 = hI h 310 := u.2.2.1 310 (by decide)
  have e317 : hL h1 317 = hL h 317 := u.2.2.2 317 (by decide)
  have lo := okT_len o
  rcases tyS_cases ht with ⟨s0, q⟩ | ⟨s0, q, q1, q2⟩ | ⟨s0, r', rfl⟩ | ⟨s0, s1, s11, a, b, r', rfl⟩
  · rw [evS_0 s0]
    obtain ⟨h2, f2, k2⟩ := r.push hS (by omega) (hI h 310 (400 * k + z) >>> 4).toInt64
    refine ⟨h2, ?_, k2, by simp only [List.length_cons]; omega⟩
    simp only [b_X12_reckons_8, if_neg c, q_308, r_308_3 S1, Option.bind_some, aLet, i400, q_310, if_pos (in310 (show 400 * k + z < 2400 by omega)), nI_clamp (show 400 * k + z < 2 ^ 31 by omega), e310, s0, s4, if_true, f2, aBind_some, b_X12_reckons_129, i1]
  · obtain ⟨v, hv, ev4⟩ := btw_nI (M := 10) (m := 10) (x := hI h 310 (400 * k + z) >>> 4) ⟨q1, q2⟩ (by decide)
    have n10 : ¬ (1 : Int32) = 0 := by decide
    rw [evS_1 s0 ⟨q1, q2⟩, ev4, nI_clamp (by omega)]
    obtain ⟨h2, f2, k2⟩ := r.push hS (by omega) (hL h 317 v)
    refine ⟨h2, ?_, k2, by simp only [List.length_cons]; omega⟩
    simp only [b_X12_reckons_8, if_neg c, q_308, r_308_3 S1, r_308_19 S1, Option.bind_some, aLet, i400, q_310, if_pos (in310 (show 400 * k + z < 2400 by omega)), nI_clamp (show 400 * k + z < 2 ^ 31 by omega), e310, s0, s4, if_neg n10, if_true, ev4, q_317, if_pos (in317 (show v < 11 by omega)), nI_clamp (show v < 2 ^ 31 by omega), e317, f2, aBind_some, b_X12_reckons_129, i1]
  · cases st with
    | nil => exact o.elim
    | cons x xs =>
      have n0 : ¬ (11 : Int32) = 0 := by decide
      have n1 : ¬ (11 : Int32) = 1 := by decide
      rw [evS_11 s0]
      simp only [List.length_cons] at h60 ⊢
      obtain ⟨h2, f2, k2⟩ := r.pop hS (by omega)
      obtain ⟨h3, f3, k3⟩ := k2.push hS (by omega) (1 - x)
      refine ⟨h3, ?_, k3, h60⟩
      simp only [b_X12_reckons_8, if_neg c, q_308, r_308_3 S1, Option.bind_some, aLet, i400, q_310, if_pos (in310 (show 400 * k + z < 2400 by omega)), nI_clamp (show 400 * k + z < 2 ^ 31 by omega), e310, s0, s4, if_neg n0, if_neg n1, if_true, f2, f3, aBind_some, b_X12_reckons_129, i1]
  · cases st with
    | nil => exact o.elim
    | cons y ys => cases ys with
      | nil => exact o.2.elim
      | cons x xs =>
        rw [evS_o s0 s1 s11]
        simp only [List.length_cons] at h60 ⊢
        obtain ⟨h2, f2, k2⟩ := r.pop hS (by simp only [List.length_cons]; omega)
        obtain ⟨h3, f3, k3⟩ := k2.pop hS (by omega)
        obtain ⟨h4, f4, k4⟩ := k3.push hS (by omega) (oneV (hI h 310 (400 * k + z) &&& 15) x y)
        refine ⟨h4, ?_, k4, by omega⟩
        simp only [b_X12_reckons_8, if_neg c, q_308, r_308_3 S1, Option.bind_some, aLet, i400, q_310, if_pos (in310 (show 400 * k + z < 2400 by omega)), nI_clamp (show 400 * k + z < 2 ^ 31 by omega), e310, s4, if_neg s0, if_neg s1, if_neg s11, f2, f3, one_eq, f4, aBind_some, b_X12_reckons_129, i1]
theorem reckon_eq {h : aH} (hS : Str h) {k : Nat} (hk6 : k < 6) {i l : Nat} (hil : i ≤ l) (hl : l ≤ 256) {b : Bool} (ht : tyR (fun z => hI h 310 (400 * k + z)) (l - i) i [] = some [b]) :
    ∃ x h', f_X12_reckons h 308 (nI k) (nI i) (nI l) = some (x, h') ∧ evR (hL h 317) (fun z => hI h 310 (400 * k + z)) (l - i) i [] = [x] ∧ (b = true → x = 0 ∨ x = 1) ∧ Upd (fun c => c = 308 ∨ c = 316) h h' ∧ ∀ j, j ≠ 18 → hI h' 308 j = hI h 308 j := by
  have key : ∃ x h', f_X12_reckons_8 2000 (pI h 308 18 0) 308 (nI k) (nI l) (nI i) = some (x, h') ∧ evR (hL h 317) (fun z => hI h 310 (400 * k + z)) (l - i) i [] = [x] ∧ (b = true → x = 0 ∨ x = 1) ∧ Upd (fun c => c = 308 ∨ c = 316) h h' ∧ ∀ j, j ≠ 18 → hI h' 308 j = hI h 308 j := by
    refine itLoop (σ := aH × Int32) (fun n s => f_X12_reckons_8 n s.1 308 (nI k) (nI l) s.2)
      (fun j s => ∃ t st, s = (s.1, nI (i + j)) ∧ RK h s.1 st ∧ okT t st ∧ st.length ≤ 60 ∧ tyR (fun z => hI h 310 (400 * k + z)) (l - i - j) (i + j) t = some [b] ∧ evR (hL h 317) (fun z => hI h 310 (400 * k + z)) (l - i - j) (i + j) st = evR (hL h 317) (fun z => hI h 310 (400 * k + z)) (l - i) i [])
      (fun o => ∃ x h', o = some (x, h') ∧ evR (hL h 317) (fun z => hI h 310 (400 * k + z)) (l - i) i [] = [x] ∧ (b = true → x = 0 ∨ x = 1) ∧ Upd (fun c => c = 308 ∨ c = 316) h h' ∧ ∀ j, j ≠ 18 → hI h' 308 j = hI h 308 j) (l - i) ?_ ?_ 2000 0 (pI h 308 18 0, nI i) ?_ (by omega) (by omega)
    · rintro m j s hj ⟨t, st, es, r, o, h60, hty, hev⟩
      rw [show l - i - j = (l - i - (j + 1)) + 1 by omega] at hty hev
      obtain ⟨t', ht1, ht2⟩ := tyR_s hty
      obtain ⟨h2, f2, k2, l2⟩ := reckon_step hS hk6 (z := i + j) (l := l) (by omega) hl r o h60 ht1 (f_X12_reckons_8 m)
      refine Or.inr ⟨(h2, nI (i + j + 1)), ⟨t', _, rfl, k2, okS o ht1, l2, ht2, ?_⟩, ?_⟩
      · rw [evR] at hev; exact hev
      · rw [es]; exact f2
    · rintro m s ⟨t, st, es, r, o, h60, hty, hev⟩
      have S1 := r.1.str hS
      rw [show l - i - (l - i) = 0 by omega] at hty hev
      rw [tyR] at hty
      cases hty
      cases st with
      | nil => exact o.elim
      | cons x xs => cases xs with
        | cons _ _ => exact o.2.elim
        | nil =>
          rw [evR] at hev
          obtain ⟨h2, f2, k2⟩ := r.pop hS (by simp)
          refine ⟨x, h2, ?_, hev.symm, o.1, k2.1, k2.2.1⟩
          rw [es]
          show b_X12_reckons_8 _ s.1 308 (nI k) (nI l) (nI (i + (l - i))) = _
          rw [show i + (l - i) = l by omega]
          simp only [b_X12_reckons_8, if_pos (Int32.le_refl (nI l)), q_308, f2, aBind_some]
    · exact ⟨[], [], rfl, ⟨Upd.pI (Or.inl rfl), fun j hj => by rw [hI_eq, upd_ne _ _ hj], by rw [hI_eq, upd_at]; rfl, trivial⟩, trivial, by simp, ht, rfl⟩
  obtain ⟨x, h', f, e⟩ := key
  refine ⟨x, h', ?_, e⟩
  simp only [f_X12_reckons, q_308, aLet, f]
