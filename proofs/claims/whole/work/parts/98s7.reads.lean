/-! ===== isle: all the clauses ===== -/
theorem clauseR {h : aH} {t : Row} {n p c : Nat} (rt : RT h t n p 0) (e11 : hI h 308 11 = 6) (e14 : hI h 308 14 = nI c) (hc : c ≤ 40) (v : VQ (hI h 314)) (e0 : hI h 314 0 = if c = 0 then 0 else 1) {s p1 k : Nat} (es : s = sk t n p) (ep : p1 = lw t n s) (ek : k = kCl t s p1) : ∃ r h' p', f_X12_clauseHere h 308 = some (bB r, h') ∧ FR h h' ∧ (r = true ↔ clF t n s p1 k c (hI h 314) = 0) ∧ RT h' t n p' (clF t n s p1 k c (hI h 314)) ∧ (r = true → p' = clP t n p1 k ∧ hI h' 314 = clQ t n p1 k (hI h 314) ∧ hI h' 308 14 = nI (c + 1)) := by
  have sl := sk_le (t := t) rt.2.1
  have hn := rt.1.2.2.1
  have se := seeR rt.1 rt.2.1 0
  rw [rt.e, ← es] at se
  have c1 : RT (rS h (hI h 308) s 0) t n s 0 := RT.of rt.1 (by rw [es]; exact sl.2)
  have u1 : FR h (rS h (hI h 308) s 0) := FR.rs (fun _ _ _ _ _ => rfl)
  obtain ⟨g, eg⟩ : ∃ g, g = rS h (hI h 308) s 0 := ⟨_, rfl⟩
  rw [← eg] at se c1 u1
  have g314 : hI g 314 = hI h 314 := by rw [eg, rS_o _ _ _ _ (by decide)]
  have g8 : hI g 308 8 = nI s := by rw [eg, rS_8]
  have g11 : hI g 308 11 = 6 := by rw [eg, rS_j _ _ _ _ (by decide) (by decide)]; exact e11
  have g14 : hI g 308 14 = nI c := by rw [eg, rS_j _ _ _ _ (by decide) (by decide)]; exact e14
  have ss : sk t n s = s := by rw [es]; exact sk_sk rt.2.1
  have hs : s ≤ n := by rw [es]; exact sl.2
  have n1 : ¬ (1 : Int32) = 0 := by decide
  have iw := isleWordT c1 ss (by rw [← ep]; exact ek : k = kCl t s (lw t n s))
  by_cases k6 : k = 6
  · rw [decide_eq_false (fun q => q k6)] at iw
    obtain ⟨h', f1, r1, w1⟩ := failT c1 0 s
    have F : clF t n s p1 k c (hI h 314) = blm s 0 0 := if_pos k6
    rw [F]
    refine ⟨false, h', s, ?_, u1.tr w1, ⟨fun w => absurd w (by decide), fun w => absurd w (blm_ne (by omega) (Or.inl rfl))⟩, r1, fun w => absurd w (by decide)⟩
    simp only [f_X12_clauseHere, q_308, se, aBind_some, aLet, g8, g11, if_true, b_X12_clauseHere_24, if_neg n1, iw, bB, b_X12_clauseHere_49, f1, true_or]
  · rw [decide_eq_true k6] at iw
    by_cases z : c = 40
    · have F : clF t n s p1 k c (hI h 314) = blm s 4 0 := by unfold clF; rw [if_neg k6, if_pos (Or.inl (by omega))]
      obtain ⟨h', f1, r1, w1⟩ := failT c1 4 s
      rw [F]
      refine ⟨false, h', s, ?_, u1.tr w1, ⟨fun w => absurd w (by decide), fun w => absurd w (blm_ne (by omega) (Or.inr (Or.inr rfl)))⟩, r1, fun w => absurd w (by decide)⟩
      rw [z] at g14
      simp only [f_X12_clauseHere, q_308, se, aBind_some, aLet, g8, g11, if_true, b_X12_clauseHere_24, if_neg n1, iw, bB, b_X12_clauseHere_56, b_X12_clauseHere_71, g14, if_pos (show nI 40 = (40 : Int32) from rfl), f1, true_or]
    · have n40 : ¬ nI c = 40 := fun y => z ((nI_eq (b := 40) (by omega) (by decide)).mp y)
      have c2 : RT (pI g 308 14 (nI (c + 1))) t n s 0 := by
        obtain ⟨⟨b1, b2, b3, b4⟩, d2, d3, d4⟩ := c1
        refine ⟨⟨b1, ?_, b3, fun j hj => ?_⟩, d2, ?_, ?_⟩
        · rw [hI_eq, upd_ne _ _ (by decide)]; exact b2
        · rw [hI_ne _ (by decide)]; exact b4 j hj
        · rw [hI_eq, upd_ne _ _ (by decide)]; exact d3
        · rw [hI_eq, upd_ne _ _ (by decide)]; exact d4
      have q314 : hI (pI g 308 14 (nI (c + 1))) 314 = hI h 314 := by rw [hI_ne _ (by decide)]; exact g314
      have u2 : FR g (pI g 308 14 (nI (c + 1))) := ⟨Upd.pI (Or.inl rfl), fun j _ _ _ w => by rw [hI_eq, upd_ne _ _ w]⟩
      obtain ⟨r, h', p', f1, w1, d1, d2, d3⟩ := lineT c2 ss ep ek k6 (c := c) (by omega) (by rw [q314]; exact v) (by rw [q314]; exact e0)
      rw [q314] at d1 d2 d3
      refine ⟨r, h', p', ?_, (u1.tr u2).tr w1, d1, d2, fun w => ⟨(d3 w).1, (d3 w).2.1, ?_⟩⟩
      · simp only [f_X12_clauseHere, q_308, se, aBind_some, aLet, g8, g11, if_true, b_X12_clauseHere_24, if_neg n1, iw, bB, b_X12_clauseHere_56, b_X12_clauseHere_71, g14, if_neg n40, i1, f1]
        exact if_pos (bB01 r)
      · rw [(d3 w).2.2, hI_eq, upd_at]
/-- the reading, as a function: the fault, and the row -/
def rdF (t : Row) (n : Nat) : Nat → Nat → Nat → Row → Int32 × Row
  | 0, c, p, Q => (clF t n (sk t n p) (lw t n (sk t n p)) (kCl t (sk t n p) (lw t n (sk t n p))) c Q, Q)
  | m + 1, c, p, Q =>
    if clF t n (sk t n p) (lw t n (sk t n p)) (kCl t (sk t n p) (lw t n (sk t n p))) c Q = 0 then
      (if bya t n (sk t n (clP t n (lw t n (sk t n p)) (kCl t (sk t n p) (lw t n (sk t n p))))) = 59 then rdF t n m (c + 1) (sk t n (clP t n (lw t n (sk t n p)) (kCl t (sk t n p) (lw t n (sk t n p)))) + 1) (clQ t n (lw t n (sk t n p)) (kCl t (sk t n p) (lw t n (sk t n p))) Q)
       else (if bya t n (sk t n (clP t n (lw t n (sk t n p)) (kCl t (sk t n p) (lw t n (sk t n p))))) = -1 then 0 else blm (sk t n (clP t n (lw t n (sk t n p)) (kCl t (sk t n p) (lw t n (sk t n p))))) 0 0, clQ t n (lw t n (sk t n p)) (kCl t (sk t n p) (lw t n (sk t n p))) Q))
    else (clF t n (sk t n p) (lw t n (sk t n p)) (kCl t (sk t n p) (lw t n (sk t n p))) c Q, Q)
theorem cl40 {t : Row} {n s p k c : Nat} {Q : Row} (hs : s ≤ 400) (hc : 40 ≤ c) : ¬ clF t n s p k c Q = 0 := by
  unfold clF
  by_cases k6 : k = 6
  · rw [if_pos k6]; exact blm_ne hs (Or.inl rfl)
  · rw [if_neg k6, if_pos (Or.inl hc)]; exact blm_ne hs (Or.inr (Or.inr rfl))
theorem clP_le {t : Row} {n p k : Nat} (hp : p ≤ n) : clP t n p k ≤ n := by
  unfold clP
  split
  · exact nx_le (nx_le hp)
  · split
    · exact nx_le (nx_le (nx_le (nx_le hp)))
    · exact nx_le hp
theorem bya_lt {t : Row} {n q : Nat} (h : bya t n q = 59) : q < n := by
  unfold bya at h
  by_cases c : q < n
  · exact c
  · rw [if_neg c] at h
    exact absurd h (by decide)
/-- the reference, from a clause on -/
def endR (h : aH) (F : Int32) (h' : aH) : Prop := FR h h' ∧ hI h' 308 1 = hI h 308 1 ∧ hI h' 308 9 = F
