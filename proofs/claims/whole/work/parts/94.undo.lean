/-! ===== undo; acts kept ===== -/
theorem past_m : ∀ i, i < 20 → (30, i, 168 + 7 * i) ∈ rfL ∧ 168 + 7 * i ∈ stL := by decide +kernel
theorem past_r {h : aH} (hS : Str h) {i : Nat} (hi : i < 20) : hR h 30 i = some (168 + 7 * i) := hS.at _ _ _ (past_m i hi).1
theorem in30 {k : Nat} (h : k < 20) : aIn (nI k) (sh 30).2 := by rw [sh_30]; exact vp_in_nI h (by decide)
/-- what stands of a kept act -/
def RP (h : aH) (p n i : Nat) : Prop := RSt h (168 + 7 * ((p + 20 - n + i) % 20)) (withPart (hI h 318) (hI h 323) (68 * i)) ∧ VS (withPart (hI h 318) (hI h 323) (68 * i)) ∧ YR (withPart (hI h 318) (hI h 323) (68 * i)) 999
theorem RPast.nums {h : aH} (r : RPast h) : ∃ n p : Nat, n ≤ 20 ∧ p < 20 ∧ hI h 308 29 = nI n ∧ hI h 0 9 = nI n ∧ hI h 0 8 = nI p ∧ ∀ i, i < n → RP h p n i := by
  obtain ⟨a, b, c, d⟩ := r
  obtain ⟨n, hn, en⟩ := btw_nI b (m := 20) (by decide)
  obtain ⟨p, hp, ep⟩ := btw_nI c (m := 19) (by decide)
  refine ⟨n, p, hn, by omega, en, by rw [a, en], ep, fun i hi => ?_⟩
  have := d i (by omega) (by rw [en]; exact nI_lt hi (by omega))
  rw [ep, en, nI_clamp (by omega), nI_clamp (by omega)] at this
  exact this
theorem RPast.mk' {h : aH} {n p : Nat} (hn : n ≤ 20) (hp : p < 20) (en : hI h 308 29 = nI n) (e9 : hI h 0 9 = nI n) (ep : hI h 0 8 = nI p) (d : ∀ i, i < n → RP h p n i) : RPast h := by
  refine ⟨by rw [en, e9], by rw [en]; exact ⟨nI_pos' (by omega), nI_le (b := 20) hn (by decide)⟩, by rw [ep]; exact ⟨nI_pos' (by omega), nI_le (b := 19) (by omega) (by decide)⟩, fun i hi hlt => ?_⟩
  rw [en] at hlt
  have := (nI_ltI (by omega) (by omega)).mp hlt
  rw [ep, en, nI_clamp (by omega), nI_clamp (by omega)]
  exact d i this
theorem withPart_cpy (f g : Row) (o : Nat) : va_cpy g f o 10 68 = withPart f g o := by
  funext j
  unfold withPart
  split
  · rename_i q; exact pk_cpy_in q.1 (by omega)
  · rename_i q; exact pk_cpy_out (by omega)
theorem withPart_with (f g w : Row) (o o' : Nat) : withPart (withPart f g o) w o' = withPart f w o' := by
  funext j
  by_cases q : 10 ≤ j ∧ j < 78
  · simp only [withPart, if_pos q]
  · simp only [withPart, if_neg q]
theorem op_undo : Op_undo Inv := by
  intro h hV _
  have hS := hV.1
  obtain ⟨n, p, hn, hp, e29, e9, e8, rp⟩ := RPast.nums hV.2.2.2.2.2.1
  rcases Nat.eq_zero_or_pos n with z | z
  · subst z
    refine ⟨-1, h, h, ?_, ?_, hV⟩
    · show f_X11_undo h 0 = _
      simp only [f_X11_undo, q_0, e9, if_pos nI_0]
    · show f_X12_undo h 308 = _
      simp only [f_X12_undo, q_308, e29, if_pos nI_0]
  · obtain ⟨m, rfl⟩ : ∃ m, n = m + 1 := ⟨n - 1, by omega⟩
    obtain ⟨q, hq⟩ : ∃ q, q = (p + 19) % 20 := ⟨_, rfl⟩
    have hq2 : q < 20 := by omega
    have em : ((nI p + 20) - 1) - ((nI p + 20) - 1) / 20 * 20 = nI q := by
      rw [show nI p + 20 = nI (p + 19 + 1) from nI_add p 20, nI_pred, hq]
      exact pk_rem (d := 20) (by omega) (by decide) (by decide)
    have n0 : ¬ nI (m + 1) = 0 := nI_ne0 (by omega) (by omega)
    have rm := rp m (by omega)
    obtain ⟨h1, d1⟩ : ∃ h1, h1 = pI (pI h 0 8 (nI q)) 0 9 (nI m) := ⟨_, rfl⟩
    have u1 : Upd (fun b => b = 0) h h1 := by rw [d1]; exact (Upd.pI (A := fun b => b = 0) rfl).tr (Upd.pI rfl)
    have S1 : Str h1 := u1.str hS
    have r1 : RSt h1 (168 + 7 * q) (withPart (hI h 318) (hI h 323) (68 * m)) := by
      have := rm.1
      rw [show (p + 20 - (m + 1) + m) % 20 = q by omega] at this
      exact this.mv (fun b _ _ => u1.2.2.1 b (by omega)) (u1.2.2.2 _ (by omega)) (fun _ _ => rfl)
    obtain ⟨h2, f2, r2, u2⟩ := copyFrom_eq S1 m19 (past_m q hq2).2 (by omega) r1 rm.2.1.1
    have S2 := u2.str S1
    have e1 : hI h1 0 = upd (upd (hI h 0) 8 (nI q)) 9 (nI m) := by rw [d1, hI_eq, hI_eq]
    have k0 : hI h2 0 = upd (upd (hI h 0) 8 (nI q)) 9 (nI m) := by rw [u2.2.2.1 0 (by unfold stA; omega), e1]
    have k8 : hI h2 308 = hI h 308 := by rw [u2.2.2.1 308 (by unfold stA; omega), u1.2.2.1 308 (by omega)]
    have k18 : hI h2 318 = hI h 318 := by rw [u2.2.2.1 318 (by unfold stA; omega), u1.2.2.1 318 (by omega)]
    have k23 : hI h2 323 = hI h 323 := by rw [u2.2.2.1 323 (by unfold stA; omega), u1.2.2.1 323 (by omega)]
    obtain ⟨h3, d3⟩ : ∃ h3, h3 = pI h2 308 29 (nI m) := ⟨_, rfl⟩
    have u3 : Upd (fun b => b = 308) h2 h3 := by rw [d3]; exact Upd.pI rfl
    have j8 : hI h3 308 = upd (hI h 308) 29 (nI m) := by rw [d3, hI_eq, k8]
    have j18 : hI h3 318 = hI h 318 := by rw [u3.2.2.1 318 (by omega), k18]
    have j23 : hI h3 323 = hI h 323 := by rw [u3.2.2.1 323 (by omega), k23]
    have lp := undo_loop (u3.str S2) (n := m) (by omega) (by rw [j8, upd_at])
    rw [j18, j23, withPart_cpy] at lp
    refine ⟨nI m, h2, wI h3 318 (withPart (hI h 318) (hI h 323) (68 * m)), ?_, ?_, ?_⟩
    · show f_X11_undo h 0 = _
      simp only [f_X11_undo, q_0, e9, if_neg n0, aLet, e8, em, hI_eq, upd_at, upd_ne _ _ (show (9 : Nat) ≠ 8 by decide), upd_ne _ _ (show (8 : Nat) ≠ 9 by decide), nI_pred, e1, r_0_5 S1, Option.bind_some, q_11, r_11_1 S1, r_0_7 S1, q_30, if_pos (in30 hq2), nI_clamp (show q < 2 ^ 31 by omega), past_r S1 hq2, qst0 m19, ← d1, f2, aBind_some, k0]
    · show f_X12_undo h2 308 = _
      simp only [f_X12_undo, q_308, k8, e29, if_neg n0, aLet, nI_pred, ← d3]
      exact lp
    · obtain ⟨h4, d4⟩ : ∃ h4, h4 = wI h3 318 (withPart (hI h 318) (hI h 323) (68 * m)) := ⟨_, rfl⟩
      rw [← d4]
      have u4 : Upd (fun b => b = 318) h3 h4 := by rw [d4]; exact Upd.wI rfl
      have i18 : hI h4 318 = withPart (hI h 318) (hI h 323) (68 * m) := by rw [d4, hI_wI_eq]
      have i8 : hI h4 308 = upd (hI h 308) 29 (nI m) := by rw [u4.2.2.1 308 (by omega), j8]
      have i23 : hI h4 323 = hI h 323 := by rw [u4.2.2.1 323 (by omega), j23]
      have i0 : hI h4 0 = upd (upd (hI h 0) 8 (nI q)) 9 (nI m) := by rw [u4.2.2.1 0 (by omega), u3.2.2.1 0 (by omega), k0]
      have ua : Upd Ac h h4 := (((u1.mono (fun b hb => by unfold Ac; omega)).tr (u2.mono (fun b hb => by unfold stA at hb; unfold Ac; omega))).tr (u3.mono (fun b hb => by unfold Ac; omega))).tr (u4.mono (fun b hb => by unfold Ac; omega))
      have o4 : ∀ b, ¬ (b = 0 ∨ stA 19 b ∨ b = 308 ∨ b = 318) → hI h4 b = hI h b ∧ hL h4 b = hL h b := fun b hb => by
        rw [u4.2.2.1 b (by omega), u3.2.2.1 b (by omega), u2.2.2.1 b (by omega), u1.2.2.1 b (by omega), u4.2.2.2 b (by omega), u3.2.2.2 b (by omega), u2.2.2.2 b (by omega), u1.2.2.2 b (by omega)]
        exact ⟨rfl, rfl⟩
      refine hV.act ua ?_ ?_ ?_ ?_ ?_ ?_ ?_ ?_ ?_ ?_ ?_
      · intro j hj
        rw [i18, withPart, if_neg (by omega)]
      · rw [i18]
        exact r2.mv (fun b h1 h2 => by rw [u4.2.2.1 b (by omega), u3.2.2.1 b (by omega)]) (by rw [u4.2.2.2 _ (by omega), u3.2.2.2 _ (by omega)]) (fun _ _ => rfl)
      · rw [i18]; exact rm.2.1
      · rw [i18]; exact rm.2.2
      · refine RPast.mk' (n := m) (p := q) (by omega) hq2 (by rw [i8, upd_at]) (by rw [i0, upd_at]) (by rw [i0, upd_ne _ _ (by decide), upd_at]) (fun i hi => ?_)
        have ri := rp i (by omega)
        unfold RP at ri ⊢
        rw [i18, i23, withPart_with, show (q + 20 - m + i) % 20 = (p + 20 - (m + 1) + i) % 20 by omega]
        exact ⟨ri.1.mv (fun b _ _ => (o4 b (by unfold stA; omega)).1) (o4 _ (by unfold stA; omega)).2 (fun _ _ => rfl), ri.2⟩
      · rw [i0, upd_ne _ _ (by decide), upd_ne _ _ (by decide)]
      · rw [i8, upd_ne _ _ (by decide)]
      · rw [i8, upd_ne _ _ (by decide)]
      · rw [i8, upd_ne _ _ (by decide)]
      · rw [i8, upd_ne _ _ (by decide)]
      · rw [i8, upd_ne _ _ (by decide)]; exact hV.2.2.2.2.2.2.2
/-- how many acts are kept behind one more -/
def min20 (n : Nat) : Nat := if n < 20 then n + 1 else 20
theorem remember_eq {h : aH} (hS : Str h) {n p : Nat} (hn : n ≤ 20) (hp : p < 20) (e9 : hI h 0 9 = nI n) (e8 : hI h 0 8 = nI p) {S : Row} (r : RSt h 19 S) (h0 : S 0 = 0 ∨ S 0 = 1) : ∃ h', f_X11_remember h 0 = some ((), h') ∧ RSt h' (168 + 7 * p) S ∧ hI h' 0 = upd (upd (hI h 0) 8 (nI ((p + 1) % 20))) 9 (nI (min20 n)) ∧ Upd (fun b => b = 0 ∨ stA (168 + 7 * p) b) h h' := by
  obtain ⟨h1, f1, r1, u1⟩ := copyFrom_eq hS (past_m p hp).2 m19 (by omega) r h0
  have S1 := u1.str hS
  have k0 : hI h1 0 = hI h 0 := u1.2.2.1 0 (by unfold stA; omega)
  have em : (nI p + 1) - (nI p + 1) / 20 * 20 = nI ((p + 1) % 20) := by
    rw [nI_1]
    exact pk_rem (d := 20) (by omega) (by decide) (by decide)
  have e20 : (if (20 : Int32) < nI n + 1 then 20 else nI n + 1) = nI (min20 n) := by
    unfold min20
    rw [nI_1]
    by_cases q : n < 20
    · rw [if_pos q, if_neg (show ¬ (20 : Int32) < nI (n + 1) from nI_nlt (b := n + 1) (a := 20) (by omega) (by decide))]
    · rw [if_neg q, if_pos (show (20 : Int32) < nI (n + 1) from nI_lt (a := 20) (b := n + 1) (by omega) (by omega))]
      rfl
  refine ⟨pI (pI h1 0 8 (nI ((p + 1) % 20))) 0 9 (nI (min20 n)), ?_, ?_, ?_, ?_⟩
  · simp only [f_X11_remember, q_0, r_0_7 hS, Option.bind_some, aLet, e8, q_30, if_pos (in30 hp), nI_clamp (show p < 2 ^ 31 by omega), past_r hS hp, r_0_5 hS, q_11, r_11_1 hS, qst0 (past_m p hp).2, f1, aBind_some, k0, em, hI_eq, upd_ne _ _ (show (9 : Nat) ≠ 8 by decide), e9, e20]
  · exact r1.mv (fun b _ _ => by rw [hI_ne _ (by omega), hI_ne _ (by omega)]) rfl (fun _ _ => rfl)
  · rw [hI_eq, hI_eq, k0]
  · exact ((u1.mono (fun b hb => Or.inr hb)).tr (Upd.pI (A := fun b => b = 0 ∨ stA (168 + 7 * p) b) (Or.inl rfl))).tr (Upd.pI (Or.inl rfl))
/-- the rows of kept acts behind one more -/
def keepW (n : Nat) (S W : Row) : Row := if n = 20 then va_cpy S (va_cpy W W 68 0 1292) 10 1292 68 else va_cpy S W 10 (68 * n) 68
theorem keep_loop {h : aH} (hS : Str h) {n : Nat} (hn : n < 20) (e29 : hI h 308 29 = nI n) : f_X12_keepsAct_52 2000 h 308 0 = some ((), pI (wI h 323 (va_cpy (hI h 318) (hI h 323) 10 (68 * n) 68)) 308 29 (nI (n + 1))) := by
  refine itLoop (σ := aH × Int32) (fun m s => f_X12_keepsAct_52 m s.1 308 s.2) (fun i s => s = (wI h 323 (va_cpy (hI h 318) (hI h 323) 10 (68 * n) i), nI i)) (fun o => o = some ((), pI (wI h 323 (va_cpy (hI h 318) (hI h 323) 10 (68 * n) 68)) 308 29 (nI (n + 1)))) 68 ?_ ?_ 2000 0 (h, 0) ?_ (by omega) (by omega)
  · rintro m i _ hi rfl
    refine Or.inr ⟨_, rfl, ?_⟩
    show b_X12_keepsAct_52 (f_X12_keepsAct_52 m) _ 308 (nI i) = _
    have c : ¬ (68 : Int32) ≤ nI i := nI_ge (b := 68) hi (by decide)
    have ex := cpy_s (f := hI h 318) (g := hI h 323) (s := 10) (d := 68 * n) (n := i) rfl
    simp only [b_X12_keepsAct_52, if_neg c, q_308, hR_wI, r_308_20 hS, r_308_28 hS, Option.bind_some, aLet, hI_wI_ne h _ (show 308 ≠ 323 by decide), hI_wI_ne h _ (show 318 ≠ 323 by decide), e29, i68, i10, q_323, q_318, if_pos (in323 (show 68 * n + i < 1360 by omega)), if_pos (in318 (show 10 + i < 184 by omega)), nI_clamp (show 68 * n + i < 2 ^ 31 by omega), nI_clamp (show 10 + i < 2 ^ 31 by omega), pI_wI, ex, i1]
  · rintro m _ rfl
    show b_X12_keepsAct_52 (f_X12_keepsAct_52 m) _ 308 (nI 68) = _
    simp only [b_X12_keepsAct_52, if_pos (show (68 : Int32) ≤ nI 68 by decide), q_308, hI_wI_ne h _ (show 308 ≠ 323 by decide), e29, aLet, nI_1]
  · rw [cpy_0, wI_self]; rfl
theorem shift_loop {h : aH} (hS : Str h) (e29 : hI h 308 29 = 20) : f_X12_keepsAct_12 2000 h 308 68 = b_X12_keepsAct_50 (pI (wI h 323 (va_cpy (hI h 323) (hI h 323) 68 0 1292)) 308 29 19) 308 := by
  refine itLoop (σ := aH × Int32) (fun m s => f_X12_keepsAct_12 m s.1 308 s.2) (fun i s => s = (wI h 323 (va_cpy (hI h 323) (hI h 323) 68 0 i), nI (68 + i))) (fun o => o = b_X12_keepsAct_50 (pI (wI h 323 (va_cpy (hI h 323) (hI h 323) 68 0 1292)) 308 29 19) 308) 1292 ?_ ?_ 2000 0 (h, 68) ?_ (by omega) (by omega)
  · rintro m i _ hi rfl
    refine Or.inr ⟨_, rfl, ?_⟩
    show b_X12_keepsAct_12 (f_X12_keepsAct_12 m) _ 308 (nI (68 + i)) = _
    have c : ¬ (1360 : Int32) ≤ nI (68 + i) := nI_ge (b := 1360) (by omega) (by decide)
    have ex : upd (va_cpy (hI h 323) (hI h 323) 68 0 i) i (va_cpy (hI h 323) (hI h 323) 68 0 i (68 + i)) = va_cpy (hI h 323) (hI h 323) 68 0 (i + 1) := by
      have := cpy_s (f := hI h 323) (g := hI h 323) (s := 68) (d := 0) (n := i) (x := va_cpy (hI h 323) (hI h 323) 68 0 i (68 + i)) (pk_cpy_out (by omega))
      rwa [Nat.zero_add] at this
    have e68 : nI (68 + i) - 68 = nI i := by
      have := pk_sub (a := 68 + i) (b := 68) (by omega)
      rw [show 68 + i - 68 = i by omega] at this
      exact this
    have e1 : nI (68 + i) + 1 = nI (68 + (i + 1)) := nI_1 (68 + i)
    simp only [b_X12_keepsAct_12, if_neg c, q_308, hR_wI, r_308_28 hS, Option.bind_some, aLet, e68, q_323, if_pos (in323 (show 68 + i < 1360 by omega)), if_pos (in323 (show i < 1360 by omega)), hI_wI_eq, nI_clamp (show 68 + i < 2 ^ 31 by omega), nI_clamp (show i < 2 ^ 31 by omega), pI_wI, ex, e1]
  · rintro m _ rfl
    show b_X12_keepsAct_12 (f_X12_keepsAct_12 m) _ 308 (nI 1360) = _
    simp only [b_X12_keepsAct_12, if_pos (show (1360 : Int32) ≤ nI 1360 by decide), q_308, hI_wI_ne h _ (show 308 ≠ 323 by decide), e29, aLet, show (20 : Int32) - 1 = 19 by decide]
  · rw [cpy_0, wI_self]; rfl
theorem keepsAct_eq {h : aH} (hS : Str h) {n : Nat} (hn : n ≤ 20) (e29 : hI h 308 29 = nI n) : ∃ h', f_X12_keepsAct h 308 = some ((), h') ∧ hI h' 308 = upd (hI h 308) 29 (nI (min20 n)) ∧ hI h' 323 = keepW n (hI h 318) (hI h 323) ∧ Upd (fun b => b = 308 ∨ b = 323) h h' := by
  by_cases q : n = 20
  · subst q
    have e29' : hI h 308 29 = 20 := e29
    obtain ⟨h1, d1⟩ : ∃ h1, h1 = pI (wI h 323 (va_cpy (hI h 323) (hI h 323) 68 0 1292)) 308 29 19 := ⟨_, rfl⟩
    have u1 : Upd (fun b => b = 308 ∨ b = 323) h h1 := by rw [d1]; exact (Upd.wI (Or.inr rfl)).tr (Upd.pI (Or.inl rfl))
    have k8 : hI h1 308 = upd (hI h 308) 29 19 := by rw [d1, hI_eq, hI_wI_ne h _ (by decide)]
    have k23 : hI h1 323 = va_cpy (hI h 323) (hI h 323) 68 0 1292 := by rw [d1, hI_ne _ (by decide), hI_wI_eq]
    have k18 : hI h1 318 = hI h 318 := u1.2.2.1 318 (by omega)
    have lp := keep_loop (u1.str hS) (n := 19) (by decide) (by rw [k8, upd_at]; rfl)
    rw [k23, k18] at lp
    refine ⟨pI (wI h1 323 (va_cpy (hI h 318) (va_cpy (hI h 323) (hI h 323) 68 0 1292) 10 (68 * 19) 68)) 308 29 (nI (19 + 1)), ?_, ?_, ?_, ?_⟩
    · simp only [f_X12_keepsAct, q_308, e29', if_true, shift_loop hS e29', b_X12_keepsAct_50, ← d1]
      exact lp
    · rw [hI_eq, hI_wI_ne _ _ (by decide), k8, upd_upd]; rfl
    · rw [hI_ne _ (by decide), hI_wI_eq, keepW, if_pos rfl]
    · exact (u1.tr (Upd.wI (Or.inr rfl))).tr (Upd.pI (Or.inl rfl))
  · have n20 : ¬ nI n = 20 := fun e => q ((nI_eq (b := 20) (by omega) (by decide)).mp e)
    refine ⟨pI (wI h 323 (va_cpy (hI h 318) (hI h 323) 10 (68 * n) 68)) 308 29 (nI (n + 1)), ?_, ?_, ?_, ?_⟩
    · simp only [f_X12_keepsAct, q_308, e29, if_neg n20, b_X12_keepsAct_50]
      exact keep_loop hS (by omega) e29
    · rw [hI_eq, hI_wI_ne _ _ (by decide), min20, if_pos (by omega)]
    · rw [hI_ne _ (by decide), hI_wI_eq, keepW, if_neg q]
    · exact (Upd.wI (Or.inr rfl)).tr (Upd.pI (Or.inl rfl))
