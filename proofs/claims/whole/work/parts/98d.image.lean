/-! ===== images ===== -/
theorem copyFrom_any {h : aH} (hS : Str h) {a b : Nat} (ha : a ∈ stL) (hb : b ∈ stL) (hab : a ≠ b) (h0' : hI h b 0 = 0 ∨ hI h b 0 = 1) : ∃ h', f_X8_copyFrom h a b = some ((), h') ∧ hI h' a 0 = hI h b 0 ∧ Upd (stA a) h h' := by
  have A := hS.st ha
  have B := hS.st hb
  have sa := st_sh a ha
  have sb := st_sh b hb
  have dis := st_dis a ha b hb hab
  have l1 : 8 ≤ (sh (b + 1)).2 ∧ 8 ≤ (sh (a + 1)).2 := by rw [sa.2.1, sb.2.1]; decide
  have l2 : 8 ≤ (sh (b + 2)).2 ∧ 8 ≤ (sh (a + 2)).2 := by rw [sa.2.2.1, sb.2.2.1]; decide
  have l3 : 8 ≤ (sh (b + 3)).2 ∧ 8 ≤ (sh (a + 3)).2 := by rw [sa.2.2.2.1, sb.2.2.2.1]; decide
  have l4 : 4 ≤ (sh (b + 4)).2 ∧ 4 ≤ (sh (a + 4)).2 := by rw [sa.2.2.2.2.1, sb.2.2.2.2.1]; decide
  have l5 : 32 ≤ (sh (b + 5)).2 ∧ 32 ≤ (sh (a + 5)).2 := by rw [sa.2.2.2.2.2.1, sb.2.2.2.2.2.1]; decide
  have l6 : 32 ≤ (sh (b + 6)).2 ∧ 32 ≤ (sh (a + 6)).2 := by rw [sa.2.2.2.2.2.2, sb.2.2.2.2.2.2]; decide
  have c8 : (8 : Int32).toNatClampNeg = 8 := by decide
  have c4 : (4 : Int32).toNatClampNeg = 4 := by decide
  have c32 : (32 : Int32).toNatClampNeg = 32 := by decide
  simp only [f_X8_copyFrom, qst0 ha, qst0 hb, if_pos h0', aLet, hR_pI, hR_pL, hR_wI, B.1, B.2.1, B.2.2.1, B.2.2.2.1, B.2.2.2.2.1, B.2.2.2.2.2, A.1, A.2.1, A.2.2.1, A.2.2.2.1, A.2.2.2.2.1, A.2.2.2.2.2, Option.bind_some, qst1 ha, qst1 hb, qst2 ha, qst2 hb, qst3 ha, qst3 hb, qst4 ha, qst4 hb, qst5 ha, qst5 hb, qst6 ha, qst6 hb, if_pos l1, if_pos l2, if_pos l3, if_pos l4, if_pos l5, if_pos l6, z_clamp, c8, c4, c32]
  refine ⟨_, rfl, ?_, ?_⟩
  · have n00 : ¬ (b = a) := by omega
    have m01 : ¬ (a = a + 1) := by omega
    have m02 : ¬ (a = a + 2) := by omega
    have m03 : ¬ (a = a + 3) := by omega
    have m04 : ¬ (a = a + 4) := by omega
    have m05 : ¬ (a = a + 5) := by omega
    have m06 : ¬ (a = a + 6) := by omega
    simp only [hI_wI, hL_wI, hI_pI, hL_pI, hI_pL, hL_pL, if_true, if_false, n00, m01, m02, m03, m04, m05, m06]
    simp only [upd, if_true, if_false, reduceIte, Nat.reduceEqDiff]
  · have s : ∀ k, k ≤ 6 → stA a (a + k) := fun k hk => ⟨by omega, by omega⟩
    exact (((((((((((((Upd.pI (s 0 (by omega))).tr (Upd.pI (s 0 (by omega)))).tr (Upd.pI (s 0 (by omega)))).tr (Upd.pI (s 0 (by omega)))).tr (Upd.pI (s 0 (by omega)))).tr (Upd.pI (s 0 (by omega)))).tr (Upd.pL (s 0 (by omega)))).tr (Upd.wI (s 1 (by omega)))).tr (Upd.wI (s 2 (by omega)))).tr (Upd.wI (s 3 (by omega)))).tr (Upd.wI (s 4 (by omega)))).tr (Upd.wI (s 5 (by omega)))).tr (Upd.wI (s 6 (by omega))))
theorem RW.of {h : aH} {a : Nat} {S T : Row} {f x : Int32} (r : RW h a S f x) (e : ∀ j, j < 184 → T j = S j) : RW h a T f x := by
  obtain ⟨r1, ⟨v1, v2, v3⟩, ⟨r3, r3b⟩, r4, r5, r6, r7, r8, r9⟩ := r
  refine ⟨r1.mv (fun _ _ _ => rfl) rfl (fun j hj => e j (by omega)), ⟨v1.of (fun j hj => e j (by omega)), v2.of (fun j _ hj => e j (by omega)), v3.eq (e 10 (by decide))⟩, ⟨fun q => (r3 (by rw [← e 0 (by decide)]; exact q)).mv (fun _ _ _ => rfl) rfl (fun j hj => beginOf_of (fun j hj => e j (by omega)) hj), r3b⟩, by rw [e 183 (by decide)]; exact r4, by rw [e 183 (by decide)]; exact r5, r6, r7, r8, fun i hi hlt => ?_⟩
  rw [e 183 (by decide)] at hlt
  rw [e _ (by omega), e _ (by omega), e _ (by omega), e 3 (by decide)]
  exact r9 i hi hlt
theorem wl_dis : ∀ a ∈ wlL, ∀ b ∈ wlL, a ≠ b → a + 17 < b ∨ b + 17 < a := by decide +kernel
def wcH (h2 : aH) (a b : Nat) : aH := pI (pI (pI (wI (wI (wI h2 (a + 15) (va_cpy (hI h2 (b + 15)) (hI h2 (a + 15)) 0 0 10)) (a + 16) (va_cpy (hI h2 (b + 16)) (hI h2 (a + 16)) 0 0 10)) (a + 17) (va_cpy (hI h2 (b + 17)) (hI h2 (a + 17)) 0 0 10)) a 5 (hI h2 b 5)) a 6 (hI h2 b 6)) a 7 (hI h2 b 7)
theorem wc_tail {h h1 h2 : aH} (hS : Str h) (S1 : Str h1) (S2 : Str h2) {a b : Nat} (ha : a ∈ wlL) (hb : b ∈ wlL) (hab : a ≠ b) (f1 : f_X8_copyFrom h (a + 1) (b + 1) = some ((), h1)) (f2 : f_X8_copyFrom h1 (a + 8) (b + 8) = some ((), h2)) : f_X10_copyFrom h a b = some ((), wcH h2 a b) := by
  have sa := wl_sh a ha
  have sb := wl_sh b hb
  have dis := wl_dis a ha b hb hab
  have A := hS.wl ha
  have B := hS.wl hb
  have A1 := S1.wl ha
  have B1 := S1.wl hb
  have A2 := S2.wl ha
  have B2 := S2.wl hb
  have p15 : (sh (b + 15)).1 = 0 := by rw [sb.2.2.2.1]
  have p16 : (sh (b + 16)).1 = 0 := by rw [sb.2.2.2.2.1]
  have p17 : (sh (b + 17)).1 = 0 := by rw [sb.2.2.2.2.2]
  have o15 : (sh (a + 15)).1 = 0 := by rw [sa.2.2.2.1]
  have o16 : (sh (a + 16)).1 = 0 := by rw [sa.2.2.2.2.1]
  have o17 : (sh (a + 17)).1 = 0 := by rw [sa.2.2.2.2.2]
  have l15 : 10 ≤ (sh (b + 15)).2 ∧ 10 ≤ (sh (a + 15)).2 := by rw [sa.2.2.2.1, sb.2.2.2.1]; decide
  have l16 : 10 ≤ (sh (b + 16)).2 ∧ 10 ≤ (sh (a + 16)).2 := by rw [sa.2.2.2.2.1, sb.2.2.2.2.1]; decide
  have l17 : 10 ≤ (sh (b + 17)).2 ∧ 10 ≤ (sh (a + 17)).2 := by rw [sa.2.2.2.2.2, sb.2.2.2.2.2]; decide
  have w0 : ¬ (b = a) := by omega
  have w1 : ¬ (b = a + 15) := by omega
  have w2 : ¬ (b = a + 16) := by omega
  have w3 : ¬ (b = a + 17) := by omega
  have w4 : ¬ (b + 15 = a) := by omega
  have w5 : ¬ (b + 15 = a + 15) := by omega
  have w6 : ¬ (b + 15 = a + 16) := by omega
  have w7 : ¬ (b + 15 = a + 17) := by omega
  have w8 : ¬ (b + 16 = a) := by omega
  have w9 : ¬ (b + 16 = a + 15) := by omega
  have w10 : ¬ (b + 16 = a + 16) := by omega
  have w11 : ¬ (b + 16 = a + 17) := by omega
  have w12 : ¬ (b + 17 = a) := by omega
  have w13 : ¬ (b + 17 = a + 15) := by omega
  have w14 : ¬ (b + 17 = a + 16) := by omega
  have w15 : ¬ (b + 17 = a + 17) := by omega
  have w16 : ¬ (a + 16 = a + 15) := by omega
  have w17 : ¬ (a + 17 = a + 15) := by omega
  have w18 : ¬ (a + 17 = a + 16) := by omega
  simp only [f_X10_copyFrom, qwl0 ha, qwl0 hb, A.1, B.1, Option.bind_some, qst0 sa.2.1, f1, aBind_some, A1.2.1, B1.2.1, qst0 sa.2.2.1, f2, A2.2.2.1, B2.2.2.1, if_pos p15, if_pos p16, if_pos p17, if_pos o15, if_pos o16, if_pos o17, if_pos l15, if_pos l16, if_pos l17, aLet, z_clamp, cl10, hR_wI, hR_pI, A2.2.2.2.1, A2.2.2.2.2, B2.2.2.2.1, B2.2.2.2.2, hI_wI, hI_pI, if_false, w0, w1, w2, w3, w4, w5, w6, w7, w8, w9, w10, w11, w12, w13, w14, w15, w16, w17, w18]
  rfl
theorem worldCopy {h : aH} (hS : Str h) {a b : Nat} (ha : a ∈ wlL) (hb : b ∈ wlL) (hab : a ≠ b) {S : Row} {f x : Int32} (r : RW h b S f x) : ∃ h', f_X10_copyFrom h a b = some ((), h') ∧ RW h' a S f x ∧ hI h' a 8 = hI h a 8 ∧ Upd (fun c => a ≤ c ∧ c ≤ a + 17) h h' := by
  have sa := wl_sh a ha
  have sb := wl_sh b hb
  have dis := wl_dis a ha b hb hab
  obtain ⟨r1, r2, ⟨r3, r3b⟩, r4, r5, r6, r7, r8, r9⟩ := r
  have hB : ∃ h1, f_X8_copyFrom h (a + 1) (b + 1) = some ((), h1) ∧ ((S 0 = 1 → RSt h1 (a + 1) (beginOf S)) ∧ (hI h1 (a + 1) 0 = 0 ∨ hI h1 (a + 1) 0 = 1)) ∧ Upd (stA (a + 1)) h h1 := by
    rcases r2.1.1 with z | z
    · obtain ⟨h1, f1, e1, u1⟩ := copyFrom_any hS sa.2.1 sb.2.1 (by omega) r3b
      exact ⟨h1, f1, ⟨fun q => by rw [z] at q; exact absurd q (by decide), by rw [e1]; exact r3b⟩, u1⟩
    · have z' : beginOf S 0 = 1 := z
      obtain ⟨h1, f1, e1, u1⟩ := copyFrom_eq hS sa.2.1 sb.2.1 (by omega) (r3 z) (Or.inr z')
      exact ⟨h1, f1, ⟨fun _ => e1, by rw [e1.s0]; exact Or.inr z'⟩, u1⟩
  obtain ⟨h1, f1, e1, u1⟩ := hB
  have S1 := u1.str hS
  obtain ⟨h2, f2, e2, u2⟩ := copyFrom_eq S1 sa.2.2.1 sb.2.2.1 (by omega) (r1.up u1 (fun c p q => by unfold stA; omega)) r2.1.1
  have S2 := u2.str S1
  have o2 : ∀ c, ¬ stA (a + 1) c → ¬ stA (a + 8) c → hI h2 c = hI h c := fun c p q => by rw [u2.2.2.1 c q, u1.2.2.1 c p]
  have o : ∀ c, c ≠ a → c ≠ a + 15 → c ≠ a + 16 → c ≠ a + 17 → hI (wcH h2 a b) c = hI h2 c := fun c p1 p2 p3 p4 => by
    unfold wcH; rw [hI_ne _ p1, hI_ne _ p1, hI_ne _ p1, hI_wI_ne _ _ p4, hI_wI_ne _ _ p3, hI_wI_ne _ _ p2]
  have ol : ∀ c, hL (wcH h2 a b) c = hL h2 c := fun c => rfl
  have k15 : hI (wcH h2 a b) (a + 15) = va_cpy (hI h2 (b + 15)) (hI h2 (a + 15)) 0 0 10 := by
    unfold wcH; rw [hI_ne _ (by omega), hI_ne _ (by omega), hI_ne _ (by omega), hI_wI_ne _ _ (by omega), hI_wI_ne _ _ (by omega), hI_wI_eq]
  have k16 : hI (wcH h2 a b) (a + 16) = va_cpy (hI h2 (b + 16)) (hI h2 (a + 16)) 0 0 10 := by
    unfold wcH; rw [hI_ne _ (by omega), hI_ne _ (by omega), hI_ne _ (by omega), hI_wI_ne _ _ (by omega), hI_wI_eq]
  have k17 : hI (wcH h2 a b) (a + 17) = va_cpy (hI h2 (b + 17)) (hI h2 (a + 17)) 0 0 10 := by
    unfold wcH; rw [hI_ne _ (by omega), hI_ne _ (by omega), hI_ne _ (by omega), hI_wI_eq]
  have ka : hI (wcH h2 a b) a = upd (upd (upd (hI h2 a) 5 (hI h2 b 5)) 6 (hI h2 b 6)) 7 (hI h2 b 7) := by
    unfold wcH; rw [hI_eq, hI_eq, hI_eq, hI_wI_ne _ _ (by omega), hI_wI_ne _ _ (by omega), hI_wI_ne _ _ (by omega)]
  have ob : hI h2 b = hI h b := o2 b (by unfold stA; omega) (by unfold stA; omega)
  refine ⟨wcH h2 a b, wc_tail hS S1 S2 ha hb hab f1 f2, ⟨?_, r2, ⟨fun q => ?_, ?_⟩, ?_, r5, ?_, ?_, r8, fun i hi hlt => ?_⟩, ?_, ?_⟩
  · exact e2.mv (fun c p q => o c (by omega) (by omega) (by omega) (by omega)) (ol _) (fun _ _ => rfl)
  · exact ((e1.1 q).up u2 (fun c p q => by unfold stA; omega)).mv (fun c p q => o c (by omega) (by omega) (by omega) (by omega)) (ol _) (fun _ _ => rfl)
  · rw [o (a + 1) (by omega) (by omega) (by omega) (by omega), u2.2.2.1 (a + 1) (by unfold stA; omega)]; exact e1.2
  · rw [ka, upd_ne _ _ (by decide), upd_ne _ _ (by decide), upd_at, ob]; exact r4
  · rw [ka, upd_ne _ _ (by decide), upd_at, ob]; exact r6
  · rw [ka, upd_at, ob]; exact r7
  · rw [k15, k16, k17, pk_cpy_in (by omega) (by omega), pk_cpy_in (by omega) (by omega), pk_cpy_in (by omega) (by omega), o2 (b + 15) (by unfold stA; omega) (by unfold stA; omega), o2 (b + 16) (by unfold stA; omega) (by unfold stA; omega), o2 (b + 17) (by unfold stA; omega) (by unfold stA; omega)]
    simp only [Nat.zero_add, Nat.sub_zero]
    exact r9 i hi hlt
  · rw [ka, upd_ne _ _ (by decide), upd_ne _ _ (by decide), upd_ne _ _ (by decide), o2 a (by unfold stA; omega) (by unfold stA; omega)]
  · refine (u1.mono (fun c hc => by unfold stA at hc; omega)).tr ((u2.mono (fun c hc => by unfold stA at hc; omega)).tr ?_)
    unfold wcH
    exact (((((Upd.wI (by omega)).tr (Upd.wI (by omega))).tr (Upd.wI (by omega))).tr (Upd.pI (by omega))).tr (Upd.pI (by omega))).tr (Upd.pI (by omega))
theorem img_m : ∀ k, k < 4 → (29, k, 96 + 18 * k) ∈ rfL ∧ 96 + 18 * k ∈ wlL := by decide +kernel
theorem img_r {h : aH} (hS : Str h) {k : Nat} (hk : k < 4) : hR h 29 k = some (96 + 18 * k) := hS.at _ _ _ (img_m k hk).1
theorem in29 {k : Nat} (h : k < 4) : aIn (nI k) (sh 29).2 := by rw [sh_29]; exact vp_in_nI h (by decide)
theorem in329 {k : Nat} (h : k < 736) : aIn (nI k) (sh 329).2 := by rw [sh_329]; exact vp_in_nI h (by decide)
theorem in330 {k : Nat} (h : k < 4) : aIn (nI k) (sh 330).2 := by rw [sh_330]; exact vp_in_nI h (by decide)
theorem in331 {k : Nat} (h : k < 4) : aIn (nI k) (sh 331).2 := by rw [sh_331]; exact vp_in_nI h (by decide)
theorem in332 {k : Nat} (h : k < 4) : aIn (nI k) (sh 332).2 := by rw [sh_332]; exact vp_in_nI h (by decide)
theorem m11 : 11 ∈ wlL := by decide
theorem i184 (k z : Nat) : (184 : Int32) * nI k + nI z = nI (184 * k + z) := by
  rw [show (184 : Int32) = nI 184 from rfl, pk_mul, nI_add]
theorem image_loop {h : aH} (hS : Str h) {k : Nat} (hk : k < 4) : f_X12_image_43 2000 h 308 (nI k) 0 = some (hI h 318 10, wI h 329 (va_cpy (hI h 318) (hI h 329) 0 (184 * k) 184)) := by
  refine itLoop (σ := aH × Int32) (fun m s => f_X12_image_43 m s.1 308 (nI k) s.2) (fun i s => s = (wI h 329 (va_cpy (hI h 318) (hI h 329) 0 (184 * k) i), nI i)) (fun o => o = some (hI h 318 10, wI h 329 (va_cpy (hI h 318) (hI h 329) 0 (184 * k) 184))) 184 ?_ ?_ 2000 0 (h, 0) ?_ (by omega) (by omega)
  · rintro m i _ hi rfl
    refine Or.inr ⟨_, rfl, ?_⟩
    show b_X12_image_43 (f_X12_image_43 m) _ 308 (nI k) (nI i) = _
    have c : ¬ (184 : Int32) ≤ nI i := nI_ge (b := 184) hi (by decide)
    have ex := cpy_s (f := hI h 318) (g := hI h 329) (s := 0) (d := 184 * k) (n := i) rfl
    rw [Nat.zero_add] at ex
    simp only [b_X12_image_43, if_neg c, q_308, hR_wI, r_308_20 hS, r_308_36 hS, Option.bind_some, aLet, hI_wI_ne h _ (show 318 ≠ 329 by decide), i184, q_329, q_318, if_pos (in329 (show 184 * k + i < 736 by omega)), if_pos (in318 (show i < 184 by omega)), nI_clamp (show i < 2 ^ 31 by omega), nI_clamp (show 184 * k + i < 2 ^ 31 by omega), pI_wI, ex, i1]
  · rintro m _ rfl
    show b_X12_image_43 (f_X12_image_43 m) _ 308 (nI k) (nI 184) = _
    simp only [b_X12_image_43, if_pos (show (184 : Int32) ≤ nI 184 by decide), q_308, hR_wI, r_308_20 hS, Option.bind_some, q_318, if_pos in10, cl10, hI_wI_ne h _ (show 318 ≠ 329 by decide)]
  · rw [cpy_0, wI_self]; rfl
theorem back_loop {h : aH} (hS : Str h) {k : Nat} (hk : k < 4) : f_X12_back_50 2000 h 308 (nI k) 0 = some (hI h 329 (184 * k + 10), wI h 318 (va_cpy (hI h 329) (hI h 318) (184 * k) 0 184)) := by
  refine itLoop (σ := aH × Int32) (fun m s => f_X12_back_50 m s.1 308 (nI k) s.2) (fun i s => s = (wI h 318 (va_cpy (hI h 329) (hI h 318) (184 * k) 0 i), nI i)) (fun o => o = some (hI h 329 (184 * k + 10), wI h 318 (va_cpy (hI h 329) (hI h 318) (184 * k) 0 184))) 184 ?_ ?_ 2000 0 (h, 0) ?_ (by omega) (by omega)
  · rintro m i _ hi rfl
    refine Or.inr ⟨_, rfl, ?_⟩
    show b_X12_back_50 (f_X12_back_50 m) _ 308 (nI k) (nI i) = _
    have c : ¬ (184 : Int32) ≤ nI i := nI_ge (b := 184) hi (by decide)
    have ex := cpy_s (f := hI h 329) (g := hI h 318) (s := 184 * k) (d := 0) (n := i) rfl
    rw [Nat.zero_add] at ex
    simp only [b_X12_back_50, if_neg c, q_308, hR_wI, r_308_20 hS, r_308_36 hS, Option.bind_some, aLet, hI_wI_ne h _ (show 329 ≠ 318 by decide), i184, q_329, q_318, if_pos (in329 (show 184 * k + i < 736 by omega)), if_pos (in318 (show i < 184 by omega)), nI_clamp (show i < 2 ^ 31 by omega), nI_clamp (show 184 * k + i < 2 ^ 31 by omega), pI_wI, ex, i1]
  · rintro m _ rfl
    have ex : va_cpy (hI h 329) (hI h 318) (184 * k) 0 184 10 = hI h 329 (184 * k + 10) := by rw [pk_cpy_in (by omega) (by omega)]
    show b_X12_back_50 (f_X12_back_50 m) _ 308 (nI k) (nI 184) = _
    simp only [b_X12_back_50, if_pos (show (184 : Int32) ≤ nI 184 by decide), q_308, hR_wI, r_308_20 hS, Option.bind_some, q_318, if_pos in10, cl10, hI_wI_eq, ex]
  · rw [cpy_0, wI_self]; rfl
theorem k_of {x : Int32} (b : 0 ≤ x ∧ x ≤ 3) : ∃ k, k < 4 ∧ x = nI k := by
  obtain ⟨n, hn, e⟩ := btw_nI (M := 3) (m := 3) b (by decide)
  exact ⟨n, by omega, e⟩
theorem no_k {x : Int32} (b : ¬ (0 ≤ x ∧ x ≤ 3)) (c : ¬ x < 0) : ¬ x < 4 := fun q => by
  refine b ⟨Int32.not_lt.mp c, ?_⟩
  have := Int32.lt_iff_toInt_lt.mp q
  refine Int32.le_iff_toInt_le.mpr ?_
  have e : (4 : Int32).toInt = 4 := by decide
  have e3 : (3 : Int32).toInt = 3 := by decide
  omega
theorem op_image : Op_image Inv := by
  intro h hV x1
  have hS := hV.1
  have n1 : ¬ (1 : Int32) = 0 := by decide
  have i1' : ∀ g, f_X12_in g x1.toInt64 0 3 = some (if 0 ≤ x1 ∧ x1 ≤ 3 then 1 else 0, g) := fun g => in_i (h := g) x1 0 3 (by decide) (by decide)
  by_cases b : 0 ≤ x1 ∧ x1 ≤ 3
  · obtain ⟨k, hk, rfl⟩ := k_of b
    have c0 : ¬ nI k < 0 := nI_pos (by omega)
    have c4 : nI k < 4 := nI_lt (b := 4) hk (by decide)
    have wk := (img_m k hk).2
    obtain ⟨v0, v1, v2, v3, v4, v5, v6, v7⟩ := hV
    obtain ⟨h1, f1, r1, e8, u1⟩ := worldCopy hS wk m11 (by omega) v3
    have S1 := u1.str hS
    have o1 : ∀ c, c < 96 ∨ 168 ≤ c → hI h1 c = hI h c := fun c hc => u1.2.2.1 c (by omega)
    have ol1 : ∀ c, c < 96 ∨ 168 ≤ c → hL h1 c = hL h c := fun c hc => u1.2.2.2 c (by omega)
    obtain ⟨g, eg⟩ : ∃ g, g = pI h1 (96 + 18 * k) 8 1 := ⟨_, rfl⟩
    have Sg : Str g := by rw [eg]; exact S1
    have og : ∀ c, c ≠ 96 + 18 * k → hI g c = hI h1 c := fun c hc => by rw [eg, hI_ne _ hc]
    have ogl : ∀ c, hL g c = hL h1 c := fun c => by rw [eg]; rfl
    obtain ⟨g3, eg3⟩ : ∃ g3, g3 = pI (pI (pI g 332 k 1) 330 k (hI h 308 21)) 331 k (hI h 308 22) := ⟨_, rfl⟩
    have Sg3 : Str g3 := by rw [eg3]; exact Sg
    have og3 : ∀ c, c ≠ 330 → c ≠ 331 → c ≠ 332 → hI g3 c = hI g c := fun c p1 p2 p3 => by rw [eg3, hI_ne _ p2, hI_ne _ p1, hI_ne _ p3]
    have g318 : hI g 318 = hI h 318 := by rw [og 318 (by omega), o1 318 (by omega)]
    have g308 : hI g 308 = hI h 308 := by rw [og 308 (by omega), o1 308 (by omega)]
    have g332 : hI g 332 = hI h 332 := by rw [og 332 (by omega), o1 332 (by omega)]
    obtain ⟨h4, eh4⟩ : ∃ h4, h4 = wI g3 329 (va_cpy (hI h 318) (hI h 329) 0 (184 * k) 184) := ⟨_, rfl⟩
    have oh : ∀ c, c ≠ 329 → hI h4 c = hI g3 c := fun c hc => by rw [eh4, hI_wI_ne _ _ hc]
    have oc : ∀ c, c < 96 ∨ (168 ≤ c ∧ c < 329) → hI h4 c = hI h c := fun c hc => by
      rw [oh c (by omega), og3 c (by omega) (by omega) (by omega), og c (by omega), o1 c (by omega)]
    have ohl : ∀ c, hL h4 c = hL h1 c := fun c => by rw [eh4, hL_wI, eg3]; exact ogl c
    have k332 : hI h4 332 = upd (hI h 332) k 1 := by rw [oh 332 (by decide), eg3, hI_ne _ (by decide), hI_ne _ (by decide), hI_eq, g332]
    have k330 : hI h4 330 = upd (hI h 330) k (hI h 308 21) := by rw [oh 330 (by decide), eg3, hI_ne _ (by decide), hI_eq, hI_ne _ (by decide), og 330 (by omega), o1 330 (by omega)]
    have k331 : hI h4 331 = upd (hI h 331) k (hI h 308 22) := by rw [oh 331 (by decide), eg3, hI_eq, hI_ne _ (by decide), hI_ne _ (by decide), og 331 (by omega), o1 331 (by omega)]
    have k329 : hI h4 329 = va_cpy (hI h 318) (hI h 329) 0 (184 * k) 184 := by rw [eh4, hI_wI_eq]
    have Sh4 : Str h4 := by rw [eh4]; exact Sg3
    have o8 := oc 308 (by omega)
    have o18 := oc 318 (by omega)
    refine ⟨hI h 318 10, g, h4, ?_, ?_, ?_⟩
    · have g5 : hI g 19 5 = hI h 318 10 := by rw [og 19 (by omega), o1 19 (by omega)]; exact v3.1.s5
      show f_X11_image h 0 (nI k) = _
      simp only [f_X11_image, if_neg c0, if_pos c4, q_0, r_0_6 hS, r_0_5 hS, Option.bind_some, q_29, if_pos (in29 hk), nI_clamp (show k < 2 ^ 31 by omega), img_r hS hk, qwl0 wk, f1, aBind_some, r_0_6 S1, img_r S1 hk, aLet, ← eg, r_0_5 Sg, q_11, r_11_1 Sg, qst0 m19, g5]
    · have lp := image_loop Sg3 hk
      rw [og3 318 (by decide) (by decide) (by decide), g318, og3 329 (by decide) (by decide) (by decide), og 329 (by omega), o1 329 (by omega), ← eh4] at lp
      have q1 : hI (pI g 332 k 1) 308 = hI h 308 := by rw [hI_ne _ (by decide), g308]
      have q2 : hI (pI (pI g 332 k 1) 330 k (hI h 308 21)) 308 = hI h 308 := by rw [hI_ne _ (by decide), q1]
      show f_X12_image g 308 (nI k) = _
      simp only [f_X12_image, i1', if_pos b, aBind_some, if_neg n1, q_308, r_308_39 Sg, Option.bind_some, q_332, if_pos (in332 hk), nI_clamp (show k < 2 ^ 31 by omega), nb1, aLet, hR_pI, r_308_37 Sg, q_330, if_pos (in330 hk), q1, r_308_38 Sg, q_331, if_pos (in331 hk), q2, ← eg3, lp]
    · have iv : RImages h4 := by
        intro k' hk'
        rw [k332, k330, k331, o8]
        by_cases q : k' = k
        · subst q
          rw [upd_at, upd_at, upd_at]
          have m8 : hI h4 (96 + 18 * k') = upd (hI h1 (96 + 18 * k')) 8 1 := by rw [oh _ (by omega), og3 _ (by omega) (by omega) (by omega), eg, hI_eq]
          refine ⟨Or.inr rfl, by rw [m8, upd_at], fun _ => ⟨?_, v4⟩⟩
          have r2 : RW h4 (96 + 18 * k') (hI h 318) (hI h 308 21) (hI h 308 22) := r1.mv (fun c p q => ⟨by rw [oh c (by omega), og3 c (by omega) (by omega) (by omega), og c (by omega)], ohl c⟩) (by rw [m8, upd_ne _ _ (by decide)]) (by rw [m8, upd_ne _ _ (by decide)]; exact r1.2.2.2.2.2.1) (by rw [m8, upd_ne _ _ (by decide)]; exact r1.2.2.2.2.2.2.1) r1.2.2.2.2.2.2.2.1
          exact r2.of (fun j hj => by
            show hI h4 329 (184 * k' + j) = _
            rw [k329, pk_cpy_in (by omega) (by omega)]; congr 1; omega)
        · rw [upd_ne _ _ q, upd_ne _ _ q, upd_ne _ _ q]
          obtain ⟨a, b', c⟩ := v6 k' hk'
          have ow : ∀ c, 96 + 18 * k' ≤ c → c ≤ 96 + 18 * k' + 17 → hI h4 c = hI h c ∧ hL h4 c = hL h c := fun c p q' => by
            have ne : ¬ (96 + 18 * k ≤ c ∧ c ≤ 96 + 18 * k + 17) := by omega
            exact ⟨by rw [oh c (by omega), og3 c (by omega) (by omega) (by omega), og c (by omega)]; exact u1.2.2.1 c ne, by rw [ohl c]; exact u1.2.2.2 c ne⟩
          have m8 := (ow (96 + 18 * k') (by omega) (by omega)).1
          refine ⟨a, by rw [m8]; exact b', fun z => ⟨?_, (c z).2⟩⟩
          have r2 := (c z).1
          have r3 : RW h4 (96 + 18 * k') (fun i => hI h 329 (184 * k' + i)) (hI h 330 k') (hI h 331 k') := r2.mv (fun c p q => ow c (by omega) (by omega)) (by rw [m8]) (by rw [m8]; exact r2.2.2.2.2.2.1) (by rw [m8]; exact r2.2.2.2.2.2.2.1) r2.2.2.2.2.2.2.2.1
          exact r3.of (fun j hj => by
            show hI h4 329 (184 * k' + j) = hI h 329 (184 * k' + j)
            rw [k329, pk_cpy_out (by omega)])
      refine ⟨Sh4, v1.mv (by rw [oc 1 (by omega)]) (oc 2 (by omega)) (by rw [o8]) (oc 309 (by omega)), v2.mv (by rw [oc 0 (by omega)]) (by rw [o8]) (fun c _ _ => oc c (by omega)) (fun c _ _ => oc c (by omega)), ?_, by rw [o8]; exact v4, v5.mv (by rw [oc 0 (by omega)]) (by rw [oc 0 (by omega)]) (by rw [o8]) o18 (oc 323 (by omega)) (fun c _ _ => ⟨oc c (by omega), by rw [ohl c, ol1 c (by omega)]⟩), iv, by rw [o8]; exact v7⟩
      rw [o18, o8]
      exact v3.mv (fun c p q => ⟨oc c (by omega), by rw [ohl c, ol1 c (by omega)]⟩) (by rw [oc 11 (by omega)]) (by rw [oc 11 (by omega)]; exact v3.2.2.2.2.2.1) (by rw [oc 11 (by omega)]; exact v3.2.2.2.2.2.2.1) v3.2.2.2.2.2.2.2.1
  · refine ⟨-1, h, h, ?_, ?_, hV⟩
    · show f_X11_image h 0 x1 = _
      simp only [f_X11_image]
      by_cases c : x1 < 0
      · rw [if_pos c]
      · rw [if_neg c, if_neg (no_k b c)]
    · show f_X12_image h 308 x1 = _
      simp only [f_X12_image, i1', if_neg b, aBind_some, if_true]
theorem op_back : Op_back Inv := by
  intro h hV x1
  have hS := hV.1
  have n1 : ¬ (1 : Int32) = 0 := by decide
  have i1' : ∀ g, f_X12_in g x1.toInt64 0 3 = some (if 0 ≤ x1 ∧ x1 ≤ 3 then 1 else 0, g) := fun g => in_i (h := g) x1 0 3 (by decide) (by decide)
  by_cases b : 0 ≤ x1 ∧ x1 ≤ 3
  · obtain ⟨k, hk, rfl⟩ := k_of b
    have c0 : ¬ nI k < 0 := nI_pos (by omega)
    have c4 : ¬ (4 : Int32) ≤ nI k := nI_ge (b := 4) hk (by decide)
    have wk := (img_m k hk).2
    have hV' := hV
    obtain ⟨v0, v1, v2, v3, v4, v5, v6, v7⟩ := hV
    obtain ⟨a1, a2, a3⟩ := v6 k hk
    rcases a1 with z | z
    · refine ⟨-1, h, h, ?_, ?_, hV'⟩
      · have e8 : hI h (96 + 18 * k) 8 = 0 := by rw [a2]; exact z
        show f_X11_back h 0 (nI k) = _
        simp only [f_X11_back, if_neg c0, if_neg c4, q_0, r_0_6 hS, Option.bind_some, q_29, if_pos (in29 hk), nI_clamp (show k < 2 ^ 31 by omega), img_r hS hk, qwl0 wk, e8, if_true]
      · show f_X12_back h 308 (nI k) = _
        simp only [f_X12_back, i1', if_pos b, aBind_some, if_neg n1, q_308, r_308_39 hS, Option.bind_some, q_332, if_pos (in332 hk), nI_clamp (show k < 2 ^ 31 by omega), z, if_true]
    · obtain ⟨a3, a4⟩ := a3 z
      obtain ⟨h1, f1, r1, e8', u1⟩ := worldCopy hS m11 wk (by omega) a3
      have S1 := u1.str hS
      have o1 : ∀ c, c < 11 ∨ 29 ≤ c → hI h1 c = hI h c := fun c hc => u1.2.2.1 c (by omega)
      have ol1 : ∀ c, c < 11 ∨ 29 ≤ c → hL h1 c = hL h c := fun c hc => u1.2.2.2 c (by omega)
      obtain ⟨g, eg⟩ : ∃ g, g = pI h1 0 9 0 := ⟨_, rfl⟩
      have Sg : Str g := by rw [eg]; exact S1
      have og : ∀ c, c ≠ 0 → hI g c = hI h1 c := fun c hc => by rw [eg, hI_ne _ hc]
      have ogl : ∀ c, hL g c = hL h1 c := fun c => by rw [eg]; rfl
      obtain ⟨g3, eg3⟩ : ∃ g3, g3 = pI (pI (pI g 308 21 (hI h 330 k)) 308 22 (hI h 331 k)) 308 29 0 := ⟨_, rfl⟩
      have Sg3 : Str g3 := by rw [eg3]; exact Sg
      have og3 : ∀ c, c ≠ 308 → hI g3 c = hI g c := fun c p1 => by rw [eg3, hI_ne _ p1, hI_ne _ p1, hI_ne _ p1]
      have g308 : hI g 308 = hI h 308 := by rw [og 308 (by omega), o1 308 (by omega)]
      have ga : ∀ c, 309 ≤ c → hI g c = hI h c := fun c hc => by rw [og c (by omega), o1 c (by omega)]
      obtain ⟨h4, eh4⟩ : ∃ h4, h4 = wI g3 318 (va_cpy (hI h 329) (hI h 318) (184 * k) 0 184) := ⟨_, rfl⟩
      have oh : ∀ c, c ≠ 318 → hI h4 c = hI g3 c := fun c hc => by rw [eh4, hI_wI_ne _ _ hc]
      have oc : ∀ c, c ≠ 318 → c ≠ 308 → c ≠ 0 → hI h4 c = hI h1 c := fun c p q r => by
        rw [oh c p, og3 c q, og c r]
      have oc' : ∀ c, (0 < c ∧ c < 11) ∨ (29 ≤ c ∧ c < 308) ∨ (308 < c ∧ c < 318) ∨ 318 < c → hI h4 c = hI h c := fun c hc => by
        rw [oc c (by omega) (by omega) (by omega), o1 c (by omega)]
      have ohl : ∀ c, hL h4 c = hL h1 c := fun c => by rw [eh4, hL_wI, eg3]; exact ogl c
      have k308 : hI h4 308 = upd (upd (upd (hI h 308) 21 (hI h 330 k)) 22 (hI h 331 k)) 29 0 := by rw [oh 308 (by decide), eg3, hI_eq, hI_eq, hI_eq, g308]
      have k0 : hI h4 0 = upd (hI h 0) 9 0 := by rw [oh 0 (by decide), og3 0 (by decide), eg, hI_eq, o1 0 (by omega)]
      have k318 : hI h4 318 = va_cpy (hI h 329) (hI h 318) (184 * k) 0 184 := by rw [eh4, hI_wI_eq]
      have Sh4 : Str h4 := by rw [eh4]; exact Sg3
      refine ⟨hI h 329 (184 * k + 10), g, h4, ?_, ?_, ?_⟩
      · have e8 : ¬ hI h (96 + 18 * k) 8 = 0 := by rw [a2, z]; decide
        have g5 : hI g 19 5 = hI h 329 (184 * k + 10) := by rw [og 19 (by omega)]; exact r1.1.s5
        show f_X11_back h 0 (nI k) = _
        simp only [f_X11_back, if_neg c0, if_neg c4, q_0, r_0_6 hS, r_0_5 hS, Option.bind_some, q_29, if_pos (in29 hk), nI_clamp (show k < 2 ^ 31 by omega), img_r hS hk, qwl0 wk, if_neg e8, q_11, f1, aBind_some, aLet, ← eg, r_0_5 Sg, r_11_1 Sg, qst0 m19, g5]
      · have lp := back_loop Sg3 hk
        rw [og3 318 (by decide), ga 318 (by omega), og3 329 (by decide), ga 329 (by omega), ← eh4] at lp
        have q1 : hI (pI g 308 21 (hI h 330 k)) 331 = hI h 331 := by rw [hI_ne _ (by decide), ga 331 (by omega)]
        have z' : ¬ hI h 332 k = 0 := by rw [z]; decide
        show f_X12_back g 308 (nI k) = _
        simp only [f_X12_back, i1', if_pos b, aBind_some, if_neg n1, q_308, r_308_39 Sg, Option.bind_some, q_332, if_pos (in332 hk), nI_clamp (show k < 2 ^ 31 by omega), ga 332 (by omega), if_neg z', r_308_37 Sg, q_330, if_pos (in330 hk), ga 330 (by omega), aLet, hR_pI, r_308_38 Sg, q_331, if_pos (in331 hk), q1, ← eg3, lp]
      · obtain ⟨n, p, hn, hp, e29, e9, e8, rp⟩ := RPast.nums v5
        have r2 : RW h4 11 (fun i => hI h 329 (184 * k + i)) (hI h 330 k) (hI h 331 k) := r1.mv (fun c p q => ⟨oc c (by omega) (by omega) (by omega), ohl c⟩) (by rw [oc 11 (by decide) (by decide) (by decide)]) (by rw [oc 11 (by decide) (by decide) (by decide)]; exact r1.2.2.2.2.2.1) (by rw [oc 11 (by decide) (by decide) (by decide)]; exact r1.2.2.2.2.2.2.1) r1.2.2.2.2.2.2.2.1
        refine ⟨Sh4, v1.mv (by rw [oc' 1 (by omega)]) (oc' 2 (by omega)) (by rw [k308, upd_ne _ _ (by decide), upd_ne _ _ (by decide), upd_ne _ _ (by decide)]) (oc' 309 (by omega)), v2.mv (by rw [k0, upd_ne _ _ (by decide)]) (by rw [k308, upd_ne _ _ (by decide), upd_ne _ _ (by decide), upd_ne _ _ (by decide)]) (fun c _ _ => oc' c (by omega)) (fun c _ _ => oc' c (by omega)), ?_, ?_, ?_, v6.mv (fun c _ _ => ⟨oc' c (by omega), by rw [ohl c, ol1 c (by omega)]⟩) (by rw [k308, upd_ne _ _ (by decide), upd_ne _ _ (by decide), upd_ne _ _ (by decide)]) (fun c _ _ => oc' c (by omega)), ?_⟩
        · rw [k318, k308, upd_ne _ _ (show (21 : Nat) ≠ 29 by decide), upd_ne _ _ (show (21 : Nat) ≠ 22 by decide), upd_at, upd_ne _ _ (show (22 : Nat) ≠ 29 by decide), upd_at]
          exact r2.of (fun j hj => by
            show va_cpy (hI h 329) (hI h 318) (184 * k) 0 184 j = hI h 329 (184 * k + j)
            rw [pk_cpy_in (by omega) (by omega)]; congr 1)
        · rw [k308, upd_ne _ _ (show (21 : Nat) ≠ 29 by decide), upd_ne _ _ (show (21 : Nat) ≠ 22 by decide), upd_at, upd_ne _ _ (show (2 : Nat) ≠ 29 by decide), upd_ne _ _ (show (2 : Nat) ≠ 22 by decide), upd_ne _ _ (show (2 : Nat) ≠ 21 by decide)]
          exact a4
        · exact RPast.mk' (n := 0) (p := p) (by decide) hp (by rw [k308, upd_at]; rfl) (by rw [k0, upd_at]; rfl) (by rw [k0, upd_ne _ _ (by decide)]; exact e8) (fun i hi => by omega)
        · rw [k308, upd_ne _ _ (by decide), upd_ne _ _ (by decide), upd_ne _ _ (by decide)]; exact v7
  · refine ⟨-1, h, h, ?_, ?_, hV⟩
    · show f_X11_back h 0 x1 = _
      simp only [f_X11_back]
      by_cases c : x1 < 0
      · rw [if_pos c]
      · rw [if_neg c, if_pos (Int32.not_lt.mp (no_k b c))]
    · show f_X12_back h 308 x1 = _
      simp only [f_X12_back, i1', if_neg b, aBind_some, if_true]
