/-! ===== isle: the reference fills and begins ===== -/
def flR (S : Row) (i : Nat) : Row := fun j => if 78 ≤ j ∧ j < 78 + i ∧ ¬ 0 ≤ S j then S (j + 32) else S j
theorem flR_0 (S : Row) : flR S 0 = S := by
  funext j
  unfold flR
  rw [if_neg (by omega)]
theorem flR_o {S : Row} {i j : Nat} (h : ¬ (78 ≤ j ∧ j < 78 + i)) : flR S i j = S j := by
  unfold flR
  rw [if_neg (fun q => h ⟨q.1, q.2.1⟩)]
theorem flR_y {S : Row} {i : Nat} (h : 0 ≤ S (78 + i)) : flR S i = flR S (i + 1) := by
  funext j
  unfold flR
  by_cases y : j = 78 + i
  · rw [y, if_neg (by omega), if_neg (fun q => q.2.2 h)]
  · by_cases v : 78 ≤ j ∧ j < 78 + i ∧ ¬ 0 ≤ S j
    · rw [if_pos v, if_pos ⟨v.1, by omega, v.2.2⟩]
    · rw [if_neg v, if_neg (fun q => v ⟨q.1, by omega, q.2.2⟩)]
theorem flR_n {S : Row} {i : Nat} (h : ¬ 0 ≤ S (78 + i)) : upd (flR S i) (78 + i) (S (110 + i)) = flR S (i + 1) := by
  funext j
  by_cases y : j = 78 + i
  · rw [y, upd_at]
    unfold flR
    rw [if_pos ⟨by omega, by omega, h⟩]
    congr 1; omega
  · rw [upd_ne _ _ y]
    unfold flR
    by_cases v : 78 ≤ j ∧ j < 78 + i ∧ ¬ 0 ≤ S j
    · rw [if_pos v, if_pos ⟨v.1, by omega, v.2.2⟩]
    · rw [if_neg v, if_neg (fun q => v ⟨q.1, by omega, q.2.2⟩)]
theorem isle83 {h : aH} (hS : Str h) {S : Row} (eS : hI h 318 = S) : f_X12_isle_83 2000 h 308 0 = some (S 3, pI (wI h 318 (beginOf (flR S 32))) 308 29 0) := by
  refine itLoop (σ := aH × Int32) (fun k x => f_X12_isle_83 k x.1 308 x.2) (fun i x => x = (wI h 318 (flR S i), nI i)) (fun o => o = some (S 3, pI (wI h 318 (beginOf (flR S 32))) 308 29 0)) 32 ?_ ?_ 2000 0 (h, 0) ?_ (by omega) (by omega)
  · rintro k i _ hi rfl
    have c : ¬ (32 : Int32) ≤ nI i := nI_ge (b := 32) hi (by decide)
    have rr : hR (wI h 318 (flR S i)) 308 20 = some 318 := r_308_20 hS
    have e78 : (78 : Int32) + nI i = nI (78 + i) := nI_add 78 i
    have e110 : (110 : Int32) + nI i = nI (110 + i) := nI_add 110 i
    have q1 : flR S i (78 + i) = S (78 + i) := flR_o (by omega)
    have q2 : flR S i (110 + i) = S (110 + i) := flR_o (by omega)
    refine Or.inr ⟨(wI h 318 (flR S (i + 1)), nI (i + 1)), rfl, ?_⟩
    show b_X12_isle_83 (f_X12_isle_83 k) (wI h 318 (flR S i)) 308 (nI i) = f_X12_isle_83 k (wI h 318 (flR S (i + 1))) 308 (nI (i + 1))
    unfold b_X12_isle_83 b_X12_isle_119
    rw [if_neg c, q_308, rr, Option.bind_some, aLet_e, e78, q_318, if_pos (in318 (show 78 + i < 184 by omega)), nI_clamp (show 78 + i < 2 ^ 31 by omega)]
    by_cases y : 0 ≤ S (78 + i)
    · rw [if_pos (show 0 ≤ hI (wI h 318 (flR S i)) 318 (78 + i) by rw [hI_wI_eq, q1]; exact y), i1, flR_y y]
    · rw [if_neg (show ¬ 0 ≤ hI (wI h 318 (flR S i)) 318 (78 + i) by rw [hI_wI_eq, q1]; exact y), Option.bind_some, Option.bind_some, aLet_e, e110, q_318, if_pos (in318 (show 110 + i < 184 by omega)), aLet_e, q_318, if_pos (in318 (show 78 + i < 184 by omega)), aLet_e, nI_clamp (show 110 + i < 2 ^ 31 by omega), nI_clamp (show 78 + i < 2 ^ 31 by omega), hI_wI_eq, q2, pI_wI, flR_n y, i1]
  · rintro k _ rfl
    have be := begins_eq (h := wI h 318 (flR S 32)) hS
    rw [hI_wI_eq, wI_wI] at be
    have S1 : Str (pI (wI h 318 (beginOf (flR S 32))) 308 29 0) := hS
    have i3 : aIn 3 (sh 318).2 := in318 (k := 3) (by decide)
    have v3 : hI (pI (wI h 318 (beginOf (flR S 32))) 308 29 0) 318 3 = S 3 := by rw [hI_ne _ (by decide), hI_wI_eq, bo_o (by omega), flR_o (by omega)]
    show b_X12_isle_83 (f_X12_isle_83 k) (wI h 318 (flR S 32)) 308 (nI 32) = _
    unfold b_X12_isle_83
    rw [if_pos (show (32 : Int32) ≤ nI 32 by decide), q_308, be, aBind_some, aLet_e, r_308_20 S1, Option.bind_some, q_318, if_pos i3, cl3, v3]
  · rw [flR_0, ← eS, wI_self]; rfl
theorem readsAllR {h : aH} {t : Row} {n : Nat} (b : TRB h (hI h 308) t n) (e11 : hI h 308 11 = 6) (v : VQ (hI h 314)) (e0 : hI h 314 0 = 0) : ∃ h', f_X12_readsAll h 308 = some (if (rdF t n 40 0 0 (hI h 314)).1 = 0 then 1 else 0, h') ∧ Upd (fun c => c = 308 ∨ c = 311 ∨ c = 314) h h' ∧ (∀ j, j ≠ 1 → j ≠ 8 → j ≠ 9 → j ≠ 10 → j ≠ 12 → j ≠ 14 → hI h' 308 j = hI h 308 j) ∧ hI h' 308 1 = 0 ∧ hI h' 308 9 = (rdF t n 40 0 0 (hI h 314)).1 ∧ (∀ j, j ≠ 6 → hI h' 311 j = hI h 311 j) ∧ ((rdF t n 40 0 0 (hI h 314)).1 = 0 → hI h' 314 = (rdF t n 40 0 0 (hI h 314)).2 ∧ VQ (hI h' 314) ∧ hI h' 314 0 = 1) := by
  obtain ⟨g, eg⟩ : ∃ g, g = pI (pI (pI (pI (pI h 311 6 0) 308 14 0) 308 8 0) 308 9 0) 308 12 0 := ⟨_, rfl⟩
  have Sg : Str g := by rw [eg]; exact b.1
  have g308 : hI g 308 = upd (upd (upd (upd (hI h 308) 14 0) 8 0) 9 0) 12 0 := by rw [eg, hI_eq, hI_eq, hI_eq, hI_eq, hI_ne _ (by decide)]
  have go : ∀ c, c ≠ 308 → c ≠ 311 → hI g c = hI h c := fun c h1 h2 => by rw [eg, hI_ne _ h1, hI_ne _ h1, hI_ne _ h1, hI_ne _ h1, hI_ne _ h2]
  have g311 : hI g 311 = upd (hI h 311) 6 0 := by rw [eg, hI_ne _ (by decide), hI_ne _ (by decide), hI_ne _ (by decide), hI_ne _ (by decide), hI_eq]
  have ug : Upd (fun c => c = 308 ∨ c = 311 ∨ c = 314) h g := by
    rw [eg]
    exact ((((Upd.pI (Or.inr (Or.inl rfl))).tr (Upd.pI (Or.inl rfl))).tr (Upd.pI (Or.inl rfl))).tr (Upd.pI (Or.inl rfl))).tr (Upd.pI (Or.inl rfl))
  have q314 : hI g 314 = hI h 314 := go 314 (by decide) (by decide)
  have rt : RT g t n 0 0 := by
    refine ⟨⟨Sg, ?_, b.2.2.1, fun j hj => ?_⟩, by omega, ?_, ?_⟩
    · rw [g308, upd_ne _ _ (by decide), upd_ne _ _ (by decide), upd_ne _ _ (by decide), upd_ne _ _ (by decide)]; exact b.2.1
    · rw [go 309 (by decide) (by decide)]; exact b.2.2.2 j hj
    · rw [g308, upd_ne _ _ (by decide), upd_ne _ _ (by decide), upd_at]; rfl
    · rw [g308, upd_ne _ _ (by decide), upd_at]
  obtain ⟨h', x1, x2, x3, x4, x5⟩ := loopR (t := t) (n := n) 40 0 g 0 1959 (by omega) rt (by rw [g308, upd_ne _ _ (by decide), upd_ne _ _ (by decide), upd_ne _ _ (by decide), upd_ne _ _ (by decide)]; exact e11) (by rw [g308, upd_ne _ _ (by decide), upd_ne _ _ (by decide), upd_ne _ _ (by decide), upd_at]; rfl) (by rw [q314]; exact v) (by rw [q314, if_pos rfl]; exact e0)
  rw [q314] at x1 x4 x5
  refine ⟨h', ?_, ug.tr (x2.1.mono (fun c hc => hc.elim Or.inl (fun y => Or.inr (Or.inr y)))), fun j j1 j8 j9 j10 j12 j14 => ?_, x3, x4, fun j hj => ?_, x5⟩
  · have i6 : aIn 6 (sh 311).2 := by rw [sh_311]; decide
    have q311 : ∀ {α : Type} {x y : α}, (if (sh 311).1 = 0 then x else y) = x := if_pos (by rw [sh_311])
    unfold f_X12_readsAll
    rw [q_308, r_308_4 b.1, Option.bind_some, aLet_e, e11, q311, if_pos i6, aLet_e, aLet_e, aLet_e, aLet_e, aLet_e, show (6 : Int32).toNatClampNeg = 6 by decide, ← eg]
    exact x1
  · rw [x2.2 j j1 j8 j9 j10 j14, g308, upd_ne _ _ j12, upd_ne _ _ j9, upd_ne _ _ j8, upd_ne _ _ j14]
  · rw [x2.1.2.2.1 311 (by omega), g311, upd_ne _ _ hj]
