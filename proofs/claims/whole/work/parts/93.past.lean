/-! ===== acts kept and undone ===== -/
theorem wI_wI (h : aH) (a : Nat) (f g : Row) : wI (wI h a f) a g = wI h a g := by
  unfold wI
  simp only [Prod.mk.injEq, true_and, and_true]
  funext b
  split <;> rfl
theorem hI_wI_eq (h : aH) (a : Nat) (f : Row) : hI (wI h a f) a = f := by rw [hI_wI, if_pos rfl]
theorem hI_wI_ne (h : aH) {a b : Nat} (f : Row) (n : b ≠ a) : hI (wI h a f) b = hI h b := by rw [hI_wI, if_neg n]
theorem pI_wI (h : aH) (a : Nat) (f : Row) (k : Nat) (x : Int32) : pI (wI h a f) a k x = wI h a (upd f k x) := by
  unfold pI
  rw [wI_wI, hI_wI_eq]
theorem wI_self (h : aH) (a : Nat) : wI h a (hI h a) = h := by
  obtain ⟨n, i, l, r⟩ := h
  unfold wI hI
  simp only [Prod.mk.injEq, true_and, and_true]
  funext b
  split
  · rename_i q; rw [q]
  · rfl
theorem in318 {k : Nat} (h : k < 184) : aIn (nI k) (sh 318).2 := by rw [sh_318]; exact vp_in_nI h (by decide)
theorem in323 {k : Nat} (h : k < 1360) : aIn (nI k) (sh 323).2 := by rw [sh_323]; exact vp_in_nI h (by decide)
theorem in324 {k : Nat} (h : k < 68) : aIn (nI k) (sh 324).2 := by rw [sh_324]; exact vp_in_nI h (by decide)
theorem i10 (k : Nat) : (10 : Int32) + nI k = nI (10 + k) := nI_add 10 k
theorem i68 (n k : Nat) : (68 : Int32) * nI n + nI k = nI (68 * n + k) := by
  rw [show (68 : Int32) = nI 68 from rfl, pk_mul, nI_add]
theorem i1 (k : Nat) : nI k + 1 = nI (k + 1) := nI_1 k
theorem undo_loop {h : aH} (hS : Str h) {n : Nat} (hn : n < 20) (e29 : hI h 308 29 = nI n) : f_X12_undo_21 2000 h 308 0 = some (nI n, wI h 318 (va_cpy (hI h 323) (hI h 318) (68 * n) 10 68)) := by
  refine itLoop (σ := aH × Int32) (fun m s => f_X12_undo_21 m s.1 308 s.2) (fun i s => s = (wI h 318 (va_cpy (hI h 323) (hI h 318) (68 * n) 10 i), nI i)) (fun o => o = some (nI n, wI h 318 (va_cpy (hI h 323) (hI h 318) (68 * n) 10 68))) 68 ?_ ?_ 2000 0 (h, 0) ?_ (by omega) (by omega)
  · rintro m i _ hi rfl
    refine Or.inr ⟨_, rfl, ?_⟩
    show b_X12_undo_21 (f_X12_undo_21 m) _ 308 (nI i) = _
    have c : ¬ (68 : Int32) ≤ nI i := nI_ge (b := 68) hi (by decide)
    have ex := cpy_s (f := hI h 323) (g := hI h 318) (s := 68 * n) (d := 10) (n := i) rfl
    simp only [b_X12_undo_21, if_neg c, q_308, hR_wI, r_308_20 hS, r_308_28 hS, Option.bind_some, aLet, hI_wI_ne h _ (show 308 ≠ 318 by decide), hI_wI_ne h _ (show 323 ≠ 318 by decide), e29, i68, i10, q_323, q_318, if_pos (in323 (show 68 * n + i < 1360 by omega)), if_pos (in318 (show 10 + i < 184 by omega)), nI_clamp (show 68 * n + i < 2 ^ 31 by omega), nI_clamp (show 10 + i < 2 ^ 31 by omega), pI_wI, ex, i1]
  · rintro m _ rfl
    show b_X12_undo_21 (f_X12_undo_21 m) _ 308 (nI 68) = _
    simp only [b_X12_undo_21, if_pos (show (68 : Int32) ≤ nI 68 by decide), q_308, hI_wI_ne h _ (show 308 ≠ 318 by decide), e29]
  · rw [cpy_0, wI_self]; rfl
/-- what stays of the invariant by an act -/
def Ac (b : Nat) : Prop := b = 0 ∨ (19 ≤ b ∧ b ≤ 25) ∨ (31 ≤ b ∧ b ≤ 65) ∨ (168 ≤ b ∧ b ≤ 308) ∨ (314 ≤ b ∧ b ≤ 328)
theorem VT.mv {S S' : Row} (v : VT S) (e : ∀ j, 110 ≤ j → S' j = S j) : VT S' := by
  obtain ⟨⟨a, b, c⟩, d⟩ := v
  refine ⟨⟨?_, ?_, ?_⟩, fun k hk => ?_⟩
  · rw [e _ (by omega)]; exact a
  · rw [e _ (by omega)]; exact b
  · rw [e _ (by omega)]; exact c
  · rw [e _ (by omega)]; exact d k hk
theorem beginOf_eq {S S' : Row} (e : ∀ j, j < 10 ∨ 78 ≤ j → S' j = S j) : beginOf S' = beginOf S := by
  funext j
  unfold beginOf
  split
  · rfl
  split
  · split
    · exact e _ (by omega)
    · rfl
  split
  · exact e _ (by omega)
  split
  · exact e _ (by omega)
  · exact e _ (by omega)
theorem Inv.act {h h' : aH} (hV : Inv h) (u : Upd Ac h h') (eS : ∀ j, j < 10 ∨ 78 ≤ j → hI h' 318 j = hI h 318 j) (r : RSt h' 19 (hI h' 318)) (v : VS (hI h' 318)) (y : YR (hI h' 318) 999) (rp : RPast h') (e04 : hI h' 0 4 = hI h 0 4) (e1 : hI h' 308 1 = hI h 308 1) (e2 : hI h' 308 2 = hI h 308 2) (e21 : hI h' 308 21 = hI h 308 21) (e22 : hI h' 308 22 = hI h 308 22) (e23 : hI h' 308 23 = 0) : Inv h' := by
  obtain ⟨v0, v1, v2, v3, v4, v5, v6, v7⟩ := hV
  have o : ∀ b, ¬ Ac b → hI h' b = hI h b := fun b hb => u.2.2.1 b hb
  have ol : ∀ b, ¬ Ac b → hL h' b = hL h b := fun b hb => u.2.2.2 b hb
  obtain ⟨w1, ⟨w2, w3, w4⟩, w5, w6, w7, w8, w9, w10, w11⟩ := v3
  have a11 : hI h' 11 = hI h 11 := o 11 (by unfold Ac; omega)
  refine ⟨u.str v0, v1.mv (by rw [o 1 (by unfold Ac; omega)]) (o 2 (by unfold Ac; omega)) e1 (o 309 (by unfold Ac; omega)), v2.mv e04 e2 (fun b _ _ => o b (by unfold Ac; omega)) (fun b _ _ => o b (by unfold Ac; omega)), ⟨r, ⟨v, w3.mv (fun j hj => eS j (by omega)), y⟩, ?_, ?_, ?_, ?_, ?_, ?_, ?_⟩, ?_, rp, v6.mv (fun b _ _ => ⟨o b (by unfold Ac; omega), ol b (by unfold Ac; omega)⟩) e2 (fun b _ _ => o b (by unfold Ac; omega)), e23⟩
  · refine ⟨fun q => ?_, by rw [o (11 + 1) (by unfold Ac; omega)]; exact w5.2⟩
    rw [eS 0 (by omega)] at q
    rw [beginOf_eq eS]
    exact (w5.1 q).mv (fun b _ _ => o b (by unfold Ac; omega)) (ol _ (by unfold Ac; omega)) (fun _ _ => rfl)
  · rw [a11, eS 183 (by omega)]; exact w6
  · rw [eS 183 (by omega)]; exact w7
  · rw [a11, e21]; exact w8
  · rw [a11, e22]; exact w9
  · rw [e22]; exact w10
  · intro i hi hlt
    rw [eS 183 (by omega)] at hlt
    rw [o (11 + 15) (by unfold Ac; omega), o (11 + 16) (by unfold Ac; omega), o (11 + 17) (by unfold Ac; omega), eS _ (by omega), eS _ (by omega), eS _ (by omega), eS 3 (by omega)]
    exact w11 i hi hlt
  · rw [e21, e2]; exact v4
