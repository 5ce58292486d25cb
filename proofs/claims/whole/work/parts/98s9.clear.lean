/-! ===== isle: the class's draft, cleared ===== -/
theorem q32 {α : Type} {x y : α} : (if (sh 32).1 = 0 then x else y) = x := if_pos (by decide)
theorem q33 {α : Type} {x y : α} : (if (sh 33).1 = 0 then x else y) = x := if_pos (by decide)
theorem q34 {α : Type} {x y : α} : (if (sh 34).1 = 0 then x else y) = x := if_pos (by decide)
theorem q35 {α : Type} {x y : α} : (if (sh 35).1 = 0 then x else y) = x := if_pos (by decide)
theorem q36 {α : Type} {x y : α} : (if (sh 36).1 = 0 then x else y) = x := if_pos (by decide)
theorem q37 {α : Type} {x y : α} : (if (sh 37).1 = 0 then x else y) = x := if_pos (by decide)
theorem in33 {k : Nat} (h : k < 8) : aIn (nI k) (sh 33).2 := by rw [show sh 33 = (0, 8) by decide]; exact vp_in_nI h (by decide)
theorem in34 {k : Nat} (h : k < 8) : aIn (nI k) (sh 34).2 := by rw [show sh 34 = (0, 8) by decide]; exact vp_in_nI h (by decide)
theorem in35 {k : Nat} (h : k < 4) : aIn (nI k) (sh 35).2 := by rw [show sh 35 = (0, 4) by decide]; exact vp_in_nI h (by decide)
theorem in36 {k : Nat} (h : k < 32) : aIn (nI k) (sh 36).2 := by rw [show sh 36 = (0, 32) by decide]; exact vp_in_nI h (by decide)
theorem in37 {k : Nat} (h : k < 32) : aIn (nI k) (sh 37).2 := by rw [show sh 37 = (0, 32) by decide]; exact vp_in_nI h (by decide)
def Z3 (h0 h : aH) (a b c : Nat) : Prop := Upd (stA 31) h0 h ∧ (hI h 31 = hI h0 31 ∧ hL h 31 = hL h0 31) ∧ (∀ p, p < a → hI h 32 p = 0 ∧ hI h 33 p = -1 ∧ hI h 34 p = 0) ∧ (∀ p, p < b → hI h 35 p = 0) ∧ ∀ p, p < c → hI h 36 p = 0 ∧ hI h 37 p = -1
theorem clr92 {h0 h : aH} (hS : Str h0) (z : Z3 h0 h 8 4 0) : ∃ h', f_X8_clear_92 2000 h 31 0 = some ((), h') ∧ Z3 h0 h' 8 4 32 := by
  refine itLoop (σ := aH × Int32) (fun k x => f_X8_clear_92 k x.1 31 x.2) (fun i x => x.2 = nI i ∧ Z3 h0 x.1 8 4 i) (fun o => ∃ h', o = some ((), h') ∧ Z3 h0 h' 8 4 32) 32 ?_ ?_ 2000 0 (h, 0) ⟨rfl, z⟩ (by omega) (by omega)
  · rintro k i ⟨g, x⟩ hi ⟨ex, zg⟩
    have ex' : x = nI i := ex
    subst ex'
    obtain ⟨u, e, z1, z2, z3⟩ := zg
    have Sg := u.str hS
    obtain ⟨_, _, _, _, r5, r6⟩ := Sg.st m31
    have r5' : hR g 31 11 = some 36 := r5
    have r6' : hR (pI g 36 i 0) 31 12 = some 37 := r6
    have c32 : ¬ (32 : Int32) ≤ nI i := nI_ge (b := 32) hi (by decide)
    have s36 : stA 31 36 := by unfold stA; omega
    have s37 : stA 31 37 := by unfold stA; omega
    refine Or.inr ⟨(pI (pI g 36 i 0) 37 i (-1), nI (i + 1)), ⟨rfl, (u.tr (Upd.pI s36)).tr (Upd.pI s37), ?_, ?_, ?_, ?_⟩, ?_⟩
    · rw [hI_ne _ (by decide), hI_ne _ (by decide)]; exact e
    · intro p hp
      rw [hI_ne _ (by decide), hI_ne _ (by decide), hI_ne _ (by decide), hI_ne _ (by decide), hI_ne _ (by decide), hI_ne _ (by decide)]; exact z1 p hp
    · intro p hp
      rw [hI_ne _ (by decide), hI_ne _ (by decide)]; exact z2 p hp
    · intro p hp
      rw [hI_ne _ (show (36 : Nat) ≠ 37 by decide), hI_eq, hI_eq, hI_ne _ (show (37 : Nat) ≠ 36 by decide)]
      by_cases y : p = i
      · rw [y, upd_at, upd_at]; exact ⟨rfl, rfl⟩
      · rw [upd_ne _ _ y, upd_ne _ _ y]; exact z3 p (by omega)
    · show b_X8_clear_92 (f_X8_clear_92 k) g 31 (nI i) = f_X8_clear_92 k (pI (pI g 36 i 0) 37 i (-1)) 31 (nI (i + 1))
      simp only [b_X8_clear_92, if_neg c32, q_31, r5', Option.bind_some, q36, if_pos (in36 hi), nI_clamp (show i < 2 ^ 31 by omega), aLet, r6', q37, if_pos (in37 hi), i1]
  · rintro k ⟨g, x⟩ ⟨ex, zg⟩
    have ex' : x = nI 32 := ex
    subst ex'
    refine ⟨g, ?_, zg⟩
    show b_X8_clear_92 (f_X8_clear_92 k) g 31 (nI 32) = _
    simp only [b_X8_clear_92, if_pos (show (32 : Int32) ≤ nI 32 by decide)]
theorem clr72 {h0 h : aH} (hS : Str h0) (z : Z3 h0 h 8 0 0) : ∃ h', f_X8_clear_72 2000 h 31 0 = some ((), h') ∧ Z3 h0 h' 8 4 32 := by
  refine itLoop (σ := aH × Int32) (fun k x => f_X8_clear_72 k x.1 31 x.2) (fun i x => x.2 = nI i ∧ Z3 h0 x.1 8 i 0) (fun o => ∃ h', o = some ((), h') ∧ Z3 h0 h' 8 4 32) 4 ?_ ?_ 2000 0 (h, 0) ⟨rfl, z⟩ (by omega) (by omega)
  · rintro k i ⟨g, x⟩ hi ⟨ex, zg⟩
    have ex' : x = nI i := ex
    subst ex'
    obtain ⟨u, e, z1, z2, z3⟩ := zg
    have Sg := u.str hS
    obtain ⟨_, _, _, r4, _, _⟩ := Sg.st m31
    have r4' : hR g 31 10 = some 35 := r4
    have c4 : ¬ (4 : Int32) ≤ nI i := nI_ge (b := 4) hi (by decide)
    have s35 : stA 31 35 := by unfold stA; omega
    refine Or.inr ⟨(pI g 35 i 0, nI (i + 1)), ⟨rfl, u.tr (Upd.pI s35), ?_, ?_, ?_, ?_⟩, ?_⟩
    · rw [hI_ne _ (by decide)]; exact e
    · intro p hp
      rw [hI_ne _ (by decide), hI_ne _ (by decide), hI_ne _ (by decide)]; exact z1 p hp
    · intro p hp
      rw [hI_eq]
      by_cases y : p = i
      · rw [y, upd_at]
      · rw [upd_ne _ _ y]; exact z2 p (by omega)
    · intro p hp
      exact absurd hp (by omega)
    · show b_X8_clear_72 (f_X8_clear_72 k) g 31 (nI i) = f_X8_clear_72 k (pI g 35 i 0) 31 (nI (i + 1))
      simp only [b_X8_clear_72, if_neg c4, q_31, r4', Option.bind_some, q35, if_pos (in35 hi), nI_clamp (show i < 2 ^ 31 by omega), aLet, i1]
  · rintro k ⟨g, x⟩ ⟨ex, zg⟩
    have ex' : x = nI 4 := ex
    subst ex'
    obtain ⟨h', e1, e2⟩ := clr92 hS zg
    refine ⟨h', ?_, e2⟩
    show b_X8_clear_72 (f_X8_clear_72 k) g 31 (nI 4) = _
    unfold b_X8_clear_72
    rw [if_pos (show (4 : Int32) ≤ nI 4 by decide), e1]
theorem clr37 {h0 h : aH} (hS : Str h0) (z : Z3 h0 h 0 0 0) : ∃ h', f_X8_clear_37 2000 h 31 0 = some ((), h') ∧ Z3 h0 h' 8 4 32 := by
  refine itLoop (σ := aH × Int32) (fun k x => f_X8_clear_37 k x.1 31 x.2) (fun i x => x.2 = nI i ∧ Z3 h0 x.1 i 0 0) (fun o => ∃ h', o = some ((), h') ∧ Z3 h0 h' 8 4 32) 8 ?_ ?_ 2000 0 (h, 0) ⟨rfl, z⟩ (by omega) (by omega)
  · rintro k i ⟨g, x⟩ hi ⟨ex, zg⟩
    have ex' : x = nI i := ex
    subst ex'
    obtain ⟨u, e, z1, z2, z3⟩ := zg
    have Sg := u.str hS
    obtain ⟨r1, r2, r3, _, _, _⟩ := Sg.st m31
    have r1' : hR g 31 7 = some 32 := r1
    have r2' : hR (pI g 32 i 0) 31 8 = some 33 := r2
    have r3' : hR (pI (pI g 32 i 0) 33 i (-1)) 31 9 = some 34 := r3
    have c8 : ¬ (8 : Int32) ≤ nI i := nI_ge (b := 8) hi (by decide)
    have s32 : stA 31 32 := by unfold stA; omega
    have s33 : stA 31 33 := by unfold stA; omega
    have s34 : stA 31 34 := by unfold stA; omega
    refine Or.inr ⟨(pI (pI (pI g 32 i 0) 33 i (-1)) 34 i 0, nI (i + 1)), ⟨rfl, ((u.tr (Upd.pI s32)).tr (Upd.pI s33)).tr (Upd.pI s34), ?_, ?_, ?_, ?_⟩, ?_⟩
    · rw [hI_ne _ (by decide), hI_ne _ (by decide), hI_ne _ (by decide)]; exact e
    · intro p hp
      rw [hI_ne _ (show (32 : Nat) ≠ 34 by decide), hI_ne _ (show (32 : Nat) ≠ 33 by decide), hI_eq, hI_ne _ (show (33 : Nat) ≠ 34 by decide), hI_eq, hI_ne _ (show (33 : Nat) ≠ 32 by decide), hI_eq, hI_ne _ (show (34 : Nat) ≠ 33 by decide), hI_ne _ (show (34 : Nat) ≠ 32 by decide)]
      by_cases y : p = i
      · rw [y, upd_at, upd_at, upd_at]; exact ⟨rfl, rfl, rfl⟩
      · rw [upd_ne _ _ y, upd_ne _ _ y, upd_ne _ _ y]; exact z1 p (by omega)
    · intro p hp
      exact absurd hp (by omega)
    · intro p hp
      exact absurd hp (by omega)
    · show b_X8_clear_37 (f_X8_clear_37 k) g 31 (nI i) = f_X8_clear_37 k (pI (pI (pI g 32 i 0) 33 i (-1)) 34 i 0) 31 (nI (i + 1))
      simp only [b_X8_clear_37, if_neg c8, q_31, r1', r2', r3', Option.bind_some, q32, q33, q34, if_pos (in_32 hi), if_pos (in33 hi), if_pos (in34 hi), nI_clamp (show i < 2 ^ 31 by omega), aLet, i1]
  · rintro k ⟨g, x⟩ ⟨ex, zg⟩
    have ex' : x = nI 8 := ex
    subst ex'
    obtain ⟨h', e1, e2⟩ := clr72 hS zg
    refine ⟨h', ?_, e2⟩
    show b_X8_clear_37 (f_X8_clear_37 k) g 31 (nI 8) = _
    unfold b_X8_clear_37
    rw [if_pos (show (8 : Int32) ≤ nI 8 by decide), e1]
