/-! ===== isle: the reference, whole ===== -/
def zrQ (Q : Row) (i : Nat) : Row := fun j => if j < i then 0 else Q j
theorem zrQ_s (Q : Row) (i : Nat) : upd (zrQ Q i) i 0 = zrQ Q (i + 1) := by
  funext j
  unfold zrQ
  by_cases y : j = i
  · rw [y, upd_at, if_pos (by omega)]
  · rw [upd_ne _ _ y]
    by_cases z : j < i
    · rw [if_pos z, if_pos (by omega)]
    · rw [if_neg z, if_neg (by omega)]
theorem zrQ_0 (Q : Row) : zrQ Q 0 = Q := by
  funext j
  unfold zrQ
  rw [if_neg (by omega)]
def isleT8 (g : aH) : Option (Int32 × aH) := aBind (f_X12_readsAll g 308) fun r22 h23 => if r22 = 0 then some ((-2) - (hI h23 308 9), h23) else f_X12_isle_45 2000 h23 308 0
theorem isle8 {h : aH} (hS : Str h) : f_X12_isle_8 2000 h 308 0 = isleT8 (wI h 314 (zrQ (hI h 314) 153)) := by
  refine itLoop (σ := aH × Int32) (fun k x => f_X12_isle_8 k x.1 308 x.2) (fun i x => x = (wI h 314 (zrQ (hI h 314) i), nI i)) (fun o => o = isleT8 (wI h 314 (zrQ (hI h 314) 153))) 153 ?_ ?_ 2000 0 (h, 0) ?_ (by omega) (by omega)
  · rintro k i _ hi rfl
    refine Or.inr ⟨_, rfl, ?_⟩
    have c : ¬ (153 : Int32) ≤ nI i := nI_ge (b := 153) hi (by decide)
    have rr : hR (wI h 314 (zrQ (hI h 314) i)) 308 7 = some 314 := r_308_7 hS
    show b_X12_isle_8 (f_X12_isle_8 k) (wI h 314 (zrQ (hI h 314) i)) 308 (nI i) = f_X12_isle_8 k (wI h 314 (zrQ (hI h 314) (i + 1))) 308 (nI (i + 1))
    unfold b_X12_isle_8
    rw [if_neg c, q_308, rr, Option.bind_some, q_314, if_pos (in_314 hi), nI_clamp (show i < 2 ^ 31 by omega), aLet_e, pI_wI, zrQ_s, i1]
  · rintro k _ rfl
    show b_X12_isle_8 (f_X12_isle_8 k) (wI h 314 (zrQ (hI h 314) 153)) 308 (nI 153) = _
    unfold b_X12_isle_8 isleT8
    rw [if_pos (show (153 : Int32) ≤ nI 153 by decide), q_308]
  · rw [zrQ_0, wI_self]; rfl
/-- the row that is said, copied from what was read -/
def cpQ (Q S : Row) (i : Nat) : Row := fun j => if j < i then (if j < 153 then Q j else 0) else S j
theorem cpQ_s (Q S : Row) (i : Nat) : upd (cpQ Q S i) i (if i < 153 then Q i else 0) = cpQ Q S (i + 1) := by
  funext j
  unfold cpQ
  by_cases y : j = i
  · rw [y, upd_at, if_pos (show i < i + 1 by omega)]
  · rw [upd_ne _ _ y]
    by_cases z : j < i
    · rw [if_pos z, if_pos (show j < i + 1 by omega)]
    · rw [if_neg z, if_neg (show ¬ j < i + 1 by omega)]
theorem cpQ_0 (Q S : Row) : cpQ Q S 0 = S := by
  funext j
  unfold cpQ
  rw [if_neg (by omega)]
theorem isle45 {h : aH} (hS : Str h) : f_X12_isle_45 2000 h 308 0 = f_X12_isle_83 2000 (wI h 318 (cpQ (hI h 314) (hI h 318) 184)) 308 0 := by
  refine itLoop (σ := aH × Int32) (fun k x => f_X12_isle_45 k x.1 308 x.2) (fun i x => x = (wI h 318 (cpQ (hI h 314) (hI h 318) i), nI i)) (fun o => o = f_X12_isle_83 2000 (wI h 318 (cpQ (hI h 314) (hI h 318) 184)) 308 0) 184 ?_ ?_ 2000 0 (h, 0) ?_ (by omega) (by omega)
  · rintro k i _ hi rfl
    refine Or.inr ⟨_, rfl, ?_⟩
    have c : ¬ (184 : Int32) ≤ nI i := nI_ge (b := 184) hi (by decide)
    have rr : hR (wI h 318 (cpQ (hI h 314) (hI h 318) i)) 308 20 = some 318 := r_308_20 hS
    have r7 : hR (wI h 318 (cpQ (hI h 314) (hI h 318) i)) 308 7 = some 314 := r_308_7 hS
    have st := cpQ_s (hI h 314) (hI h 318) i
    show b_X12_isle_45 (f_X12_isle_45 k) (wI h 318 (cpQ (hI h 314) (hI h 318) i)) 308 (nI i) = f_X12_isle_45 k (wI h 318 (cpQ (hI h 314) (hI h 318) (i + 1))) 308 (nI (i + 1))
    unfold b_X12_isle_45 b_X12_isle_74
    rw [if_neg c, q_308, rr, Option.bind_some]
    by_cases y : i < 153
    · rw [if_pos y] at st
      rw [if_neg (show ¬ (153 : Int32) ≤ nI i from nI_ge (b := 153) y (by decide)), r7, Option.bind_some, q_314, if_pos (in_314 y), q_318, if_pos (in318 hi), nI_clamp (show i < 2 ^ 31 by omega), aLet_e, hI_wI_ne _ _ (by decide), pI_wI, st, i1]
    · rw [if_neg y] at st
      rw [if_pos (show (153 : Int32) ≤ nI i from nI_le (a := 153) (by omega) (by omega)), q_318, if_pos (in318 hi), nI_clamp (show i < 2 ^ 31 by omega), aLet_e, pI_wI, st, i1]
  · rintro k _ rfl
    show b_X12_isle_45 (f_X12_isle_45 k) (wI h 318 (cpQ (hI h 314) (hI h 318) 184)) 308 (nI 184) = _
    unfold b_X12_isle_45
    rw [if_pos (show (184 : Int32) ≤ nI 184 by decide)]
  · rw [cpQ_0, wI_self]; rfl
