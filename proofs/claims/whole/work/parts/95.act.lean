/-! ===== an act behind its keeping ===== -/
/-- cells that an act may change: of the class, of the reference -/
def CA (b : Nat) : Prop := stA 19 b ∨ (31 ≤ b ∧ b ≤ 65)
def RA (b : Nat) : Prop := b = 308 ∨ (314 ≤ b ∧ b ≤ 322) ∨ (324 ≤ b ∧ b ≤ 328)
/-- entries of the reference that the invariant speaks of -/
def keyE (j : Nat) : Prop := j = 1 ∨ j = 2 ∨ j = 21 ∨ j = 22 ∨ j = 23 ∨ j = 29
theorem keepW_lo {n i j : Nat} {S W : Row} (hn : n < 20) (hi : i < n) (hj : j < 68) : keepW n S W (68 * i + j) = W (68 * i + j) := by
  rw [keepW, if_neg (by omega)]
  exact pk_cpy_out (by omega)
theorem keepW_hi {n j : Nat} {S W : Row} (hn : n < 20) (hj : j < 68) : keepW n S W (68 * n + j) = S (10 + j) := by
  rw [keepW, if_neg (by omega), pk_cpy_in (by omega) (by omega)]
  exact congrArg S (by omega)
theorem keepW_20 {i j : Nat} {S W : Row} (hi : i < 19) (hj : j < 68) : keepW 20 S W (68 * i + j) = W (68 * (i + 1) + j) := by
  rw [keepW, if_pos rfl, pk_cpy_out (by omega), pk_cpy_in (by omega) (by omega)]
  exact congrArg W (by omega)
theorem keepW_2h {j : Nat} {S W : Row} (hj : j < 68) : keepW 20 S W (68 * 19 + j) = S (10 + j) := by
  rw [keepW, if_pos rfl, pk_cpy_in (by omega) (by omega)]
  exact congrArg S (by omega)
theorem withPart_c {S S' w w' : Row} {o o' : Nat} (eS : ∀ j, j < 10 ∨ 78 ≤ j → S' j = S j) (ew : ∀ j, j < 68 → w' (o' + j) = w (o + j)) : withPart S' w' o' = withPart S w o := by
  funext j
  by_cases q : 10 ≤ j ∧ j < 78
  · simp only [withPart, if_pos q]; exact ew _ (by omega)
  · simp only [withPart, if_neg q]; exact eS j (by omega)
theorem withPart_s {S S' w' : Row} {o' : Nat} (eS : ∀ j, j < 10 ∨ 78 ≤ j → S' j = S j) (ew : ∀ j, j < 68 → w' (o' + j) = S (10 + j)) : withPart S' w' o' = S := by
  funext j
  by_cases q : 10 ≤ j ∧ j < 78
  · simp only [withPart, if_pos q]; rw [ew _ (by omega)]; congr 1; omega
  · simp only [withPart, if_neg q]; exact eS j (by omega)
theorem act_op {h : aH} (hV : Inv h) {C R : aH → Option (Int32 × aH)} {T : Row} {v : Int32}
    (hC : ∀ h1, Str h1 → RSt h1 19 (hI h 318) → (∀ b, b < 308 → b ≠ 0 → ¬ 168 ≤ b → hI h1 b = hI h b) → (∀ j, j ≠ 8 → j ≠ 9 → hI h1 0 j = hI h 0 j) → ∃ h2, C h1 = some (v, h2) ∧ RSt h2 19 T ∧ Upd CA h1 h2)
    (hR : ∀ h3, Str h3 → (∀ b, 308 < b → b ≠ 323 → hI h3 b = hI h b) → (∀ j, j ≠ 29 → hI h3 308 j = hI h 308 j) → ∃ h4, R h3 = some (v, h4) ∧ hI h4 318 = T ∧ Upd RA h3 h4 ∧ ∀ j, keyE j → hI h4 308 j = hI h3 308 j)
    (eS : ∀ j, j < 10 ∨ 78 ≤ j → T j = hI h 318 j) (vT : VS T) (yT : YR T 999) :
    ∃ h1 h2 h3 h4, f_X11_remember h 0 = some ((), h1) ∧ C h1 = some (v, h2) ∧ f_X12_keepsAct h2 308 = some ((), h3) ∧ R h3 = some (v, h4) ∧ (∀ b, 308 ≤ b → hI h2 b = hI h b) ∧ Str h2 ∧ Inv h4 := by
  have hS := hV.1
  obtain ⟨n, p, hn, hp, e29, e9, e8, rp⟩ := RPast.nums hV.2.2.2.2.2.1
  have r0 : RSt h 19 (hI h 318) := hV.2.2.2.1.1
  have v0 : VS (hI h 318) := hV.2.2.2.1.2.1.1
  have y0 : YR (hI h 318) 999 := hV.2.2.2.1.2.1.2.2
  obtain ⟨h1, f1, r1, z1, u1⟩ := remember_eq hS hn hp e9 e8 r0 v0.1
  have o1 : ∀ b, ¬ (b = 0 ∨ stA (168 + 7 * p) b) → hI h1 b = hI h b ∧ hL h1 b = hL h b := fun b hb => ⟨u1.2.2.1 b hb, u1.2.2.2 b hb⟩
  have S1 := u1.str hS
  obtain ⟨h2, f2, r2, u2⟩ := hC h1 S1 (r0.mv (fun b _ _ => (o1 b (by unfold stA; omega)).1) (o1 _ (by unfold stA; omega)).2 (fun _ _ => rfl)) (fun b _ _ _ => (o1 b (by unfold stA; omega)).1) (fun j a b => by rw [z1, upd_ne _ _ b, upd_ne _ _ a])
  have S2 := u2.str S1
  have o2 : ∀ b, ¬ CA b → hI h2 b = hI h1 b ∧ hL h2 b = hL h1 b := fun b hb => ⟨u2.2.2.1 b hb, u2.2.2.2 b hb⟩
  have c2 : ∀ b, 308 ≤ b → hI h2 b = hI h b := fun b hb => by rw [(o2 b (by unfold CA stA; omega)).1, (o1 b (by unfold stA; omega)).1]
  obtain ⟨h3, f3, z3, w3, u3⟩ := keepsAct_eq S2 hn (by rw [c2 308 (by omega)]; exact e29)
  have S3 := u3.str S2
  have o3 : ∀ b, ¬ (b = 308 ∨ b = 323) → hI h3 b = hI h2 b ∧ hL h3 b = hL h2 b := fun b hb => ⟨u3.2.2.1 b hb, u3.2.2.2 b hb⟩
  obtain ⟨h4, f4, t4, u4, k4⟩ := hR h3 S3 (fun b a c => by rw [(o3 b (by omega)).1, c2 b (by omega)]) (fun j a => by rw [z3, upd_ne _ _ a, c2 308 (by omega)])
  have o4 : ∀ b, ¬ RA b → hI h4 b = hI h3 b ∧ hL h4 b = hL h3 b := fun b hb => ⟨u4.2.2.1 b hb, u4.2.2.2 b hb⟩
  refine ⟨h1, h2, h3, h4, f1, f2, f3, f4, c2, S2, ?_⟩
  have ua : Upd Ac h h4 := (((u1.mono (fun b hb => by unfold stA at hb; unfold Ac; omega)).tr (u2.mono (fun b hb => by unfold CA stA at hb; unfold Ac; omega))).tr (u3.mono (fun b hb => by unfold Ac; omega))).tr (u4.mono (fun b hb => by unfold RA at hb; unfold Ac; omega))
  have k0 : hI h4 0 = hI h1 0 := by rw [(o4 0 (by unfold RA; omega)).1, (o3 0 (by omega)).1, (o2 0 (by unfold CA stA; omega)).1]
  have k8 : ∀ j, keyE j → hI h4 308 j = upd (hI h 308) 29 (nI (min20 n)) j := fun j hj => by rw [k4 j hj, z3, c2 308 (by omega)]
  have k23 : hI h4 323 = keepW n (hI h 318) (hI h 323) := by rw [(o4 323 (by unfold RA; omega)).1, w3, c2 318 (by omega), c2 323 (by omega)]
  have st : ∀ b, 168 ≤ b → b < 308 → hI h4 b = hI h1 b ∧ hL h4 b = hL h1 b := fun b ha hb => by
    rw [(o4 b (by unfold RA; omega)).1, (o3 b (by omega)).1, (o2 b (by unfold CA stA; omega)).1, (o4 b (by unfold RA; omega)).2, (o3 b (by omega)).2, (o2 b (by unfold CA stA; omega)).2]
    exact ⟨rfl, rfl⟩
  refine hV.act ua ?_ ?_ ?_ ?_ ?_ ?_ ?_ ?_ ?_ ?_ ?_
  · rw [t4]; exact eS
  · rw [t4]
    exact r2.mv (fun b _ _ => by rw [(o4 b (by unfold RA; omega)).1, (o3 b (by omega)).1]) (by rw [(o4 _ (by unfold RA; omega)).2, (o3 _ (by omega)).2]) (fun _ _ => rfl)
  · rw [t4]; exact vT
  · rw [t4]; exact yT
  · have m20 : min20 n ≤ 20 := by unfold min20; split <;> omega
    refine RPast.mk' (n := min20 n) (p := (p + 1) % 20) m20 (by omega) (by rw [k8 29 (by unfold keyE; omega), upd_at]) (by rw [k0, z1, upd_at]) (by rw [k0, z1, upd_ne _ _ (by decide), upd_at]) (fun i hi => ?_)
    unfold RP
    rw [t4, k23]
    have fin : i < n ∧ n < 20 ∨ i = n ∧ n < 20 ∨ i < 19 ∧ n = 20 ∨ i = 19 ∧ n = 20 := by unfold min20 at hi; split at hi <;> omega
    have sm : ∀ k, k < 20 → k ≠ p → ∀ W, RSt h (168 + 7 * k) W → RSt h4 (168 + 7 * k) W := fun k hk hkp W r =>
      r.mv (fun b _ _ => by rw [(st b (by omega) (by omega)).1, (o1 b (by unfold stA; omega)).1]) (by rw [(st _ (by omega) (by omega)).2, (o1 _ (by unfold stA; omega)).2]) (fun _ _ => rfl)
    have sp : RSt h4 (168 + 7 * p) (hI h 318) := r1.mv (fun b _ _ => (st b (by omega) (by omega)).1) (st _ (by omega) (by omega)).2 (fun _ _ => rfl)
    rcases fin with ⟨a, b⟩ | ⟨a, b⟩ | ⟨a, b⟩ | ⟨a, b⟩
    · rw [withPart_c (o := 68 * i) eS (fun j hj => keepW_lo b a hj), show min20 n = n + 1 by unfold min20; rw [if_pos b], show ((p + 1) % 20 + 20 - (n + 1) + i) % 20 = (p + 20 - n + i) % 20 by omega]
      exact ⟨sm _ (by omega) (by omega) _ (rp i a).1, (rp i a).2⟩
    · subst a
      rw [withPart_s eS (fun j hj => keepW_hi b hj), show min20 i = i + 1 by unfold min20; rw [if_pos b], show ((p + 1) % 20 + 20 - (i + 1) + i) % 20 = p by omega]
      exact ⟨sp, v0, y0⟩
    · subst b
      rw [withPart_c (o := 68 * (i + 1)) eS (fun j hj => keepW_20 a hj), show min20 20 = 20 by decide, show ((p + 1) % 20 + 20 - 20 + i) % 20 = (p + 20 - 20 + (i + 1)) % 20 by omega]
      exact ⟨sm _ (by omega) (by omega) _ (rp (i + 1) (by omega)).1, (rp (i + 1) (by omega)).2⟩
    · subst b a
      rw [withPart_s eS (fun j hj => keepW_2h hj), show min20 20 = 20 by decide, show ((p + 1) % 20 + 20 - 20 + 19) % 20 = p by omega]
      exact ⟨sp, v0, y0⟩
  · rw [k0, z1, upd_ne _ _ (by decide), upd_ne _ _ (by decide)]
  · rw [k8 1 (by unfold keyE; omega), upd_ne _ _ (by decide)]
  · rw [k8 2 (by unfold keyE; omega), upd_ne _ _ (by decide)]
  · rw [k8 21 (by unfold keyE; omega), upd_ne _ _ (by decide)]
  · rw [k8 22 (by unfold keyE; omega), upd_ne _ _ (by decide)]
  · rw [k8 23 (by unfold keyE; omega), upd_ne _ _ (by decide)]; exact hV.2.2.2.2.2.2.2
