/-! ===== isle: the reference's first clause ===== -/
theorem isleT {h : aH} {t : Row} {n s : Nat} (c : RT h t n s 0) (e0 : hI h 314 0 = 0) : ∃ r h' p', f_X12_isIsleHere h 308 (nI s) = some (bB r, h') ∧ FR h h' ∧ (r = true ↔ nf t n (nx t n (lw t n s)) 20 (nf t n (lw t n s) 99 0) = 0) ∧ RT h' t n p' (nf t n (nx t n (lw t n s)) 20 (nf t n (lw t n s) 99 0)) ∧ (r = true → p' = nx t n (nx t n (lw t n s)) ∧ hI h' 314 = rowI t n (lw t n s) (hI h 314) ∧ hI h' 308 14 = hI h 308 14) := by
  have hn := c.1.2.2.1
  obtain ⟨h1, f1, c1, u1, o1, g1⟩ := passT c
  have L := c1.2.1
  obtain ⟨p, ep⟩ : ∃ p, p = lw t n s := ⟨_, rfl⟩
  rw [← ep] at c1 L ⊢
  have i0 : aIn 0 (sh 314).2 := in_314 (k := 0) (by decide)
  have P1 := nx_le (t := t) L
  obtain ⟨h2, f2, c2, u2, g2, v2⟩ := cellT c1 (i := 1) (by decide) 99
  have k1e : nI 1 = (1 : Int32) := rfl
  have k2e : nI 2 = (2 : Int32) := rfl
  rw [k1e] at f2
  have f2' := f2
  cases a1 : gd t n p 99 with
  | false =>
    rw [a1] at f2'
    have z := nf_ng hn L a1
    rw [nf_f z]
    refine ⟨false, h2, _, ?_, u1.tr u2, ⟨fun y => absurd y (by decide), fun y => absurd y z⟩, c2, fun y => absurd y (by decide)⟩
    exact isle_e1 c.1.1 e0 f1 f2'
  | true =>
    rw [a1] at f2'
    have z1 : nf t n p 99 0 = 0 := nf_gd a1
    rw [z1] at c2 ⊢
    obtain ⟨h3, f3, c3, u3, g3, v3⟩ := cellT c2 (i := 2) (by decide) 20
    rw [k2e] at f3
    have f3' := f3
    cases a2 : gd t n (nx t n p) 20 with
    | false =>
      rw [a2] at f3'
      have z := nf_ng hn P1 a2
      refine ⟨false, h3, _, ?_, (u1.tr u2).tr u3, ⟨fun y => absurd y (by decide), fun y => absurd y z⟩, c3, fun y => absurd y (by decide)⟩
      exact isle_e2 c.1.1 e0 f1 f2' f3'
    | true =>
      rw [a2] at f3'
      have s53 := isle53 (h := pI h3 314 0 1) c3.1.1
      refine ⟨true, wI (pI h3 314 0 1) 314 (trM (hI (pI h3 314 0 1) 314) 32), _, ?_, ((u1.tr u2).tr u3).tr (FR.c.tr FR.w), ⟨fun _ => nf_gd a2, fun _ => rfl⟩, c3.c.w, fun _ => ⟨rfl, ?_, by rw [hI_wI_ne _ _ (by decide), hI_ne _ (by decide), g3, g2, g1]⟩⟩
      · exact isle_e3 c.1.1 c3.1.1 e0 f1 f2' f3' s53
      · rw [hI_wI_eq, hI_eq, v3 a2, v2 a1, o1 314 (by decide)]
        funext j
        unfold trM rowI
        by_cases y : 78 ≤ j ∧ j < 78 + 32
        · rw [if_pos y, if_neg (by omega), if_neg (by omega), if_neg (by omega), if_pos (by omega)]
        · rw [if_neg y]
          by_cases j0 : j = 0
          · rw [if_pos j0, j0, upd_at]
          · rw [if_neg j0, upd_ne _ _ j0]
            by_cases j2 : j = 2
            · rw [if_neg (by omega), if_pos j2, j2, upd_at]
            · rw [upd_ne _ _ j2]
              by_cases j1 : j = 1
              · rw [if_pos j1, j1, upd_at]
              · rw [if_neg j1, if_neg j2, if_neg (by omega), upd_ne _ _ j1]
