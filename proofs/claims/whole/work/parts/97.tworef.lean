/-! ===== two are joined, two part: the reference ===== -/
theorem pI_d (h : aH) (a i : Nat) (x : Int32) : pI h a i x = wI h a (upd (hI h a) i x) := rfl
theorem pl0 (e : Nat) : ((11 : Int32) + (16 * 0)) + (4 * nI e) = nI (11 + 4 * e) := by
  rw [show ((11 : Int32) + (16 * 0)) = nI 11 by decide, show (4 : Int32) = nI 4 from rfl, pk_mul, nI_add]
theorem pl1 (w : Nat) : ((11 : Int32) + (16 * 1)) + (4 * nI w) = nI (27 + 4 * w) := by
  rw [show ((11 : Int32) + (16 * 1)) = nI 27 by decide, show (4 : Int32) = nI 4 from rfl, pk_mul, nI_add]
theorem i2 (k : Nat) : nI k + 2 = nI (k + 2) := nI_add k 2
theorem i3 (k : Nat) : nI k + 3 = nI (k + 3) := nI_add k 3
theorem pays_eq {h : aH} (hS : Str h) {i j : Nat} (hi : i < 184) (hj : j < 184) (hij : i ≠ j) (m : Int32) : f_X12_pays h 308 (nI i) (nI j) m = some ((), wI h 318 (payT (hI h 318) i j m)) := by
  have e : upd (hI h 318) i (hI h 318 i - m) j = hI h 318 j := upd_ne _ _ (fun q => hij q.symm)
  by_cases q : hI h 318 j + m ≤ 9999
  · simp only [f_X12_pays, b_X12_pays_43, q_308, r_308_20 hS, Option.bind_some, q_318, if_pos (in318 hi), if_pos (in318 hj), aLet, hR_pI, nI_clamp (show i < 2 ^ 31 by omega), nI_clamp (show j < 2 ^ 31 by omega), hI_eq, e, if_pos q, payT, cap, pI_d, pI_wI, hR_wI, hI_wI_eq, wI_wI]
  · simp only [f_X12_pays, b_X12_pays_43, q_308, r_308_20 hS, Option.bind_some, q_318, if_pos (in318 hi), if_pos (in318 hj), aLet, hR_pI, nI_clamp (show i < 2 ^ 31 by omega), nI_clamp (show j < 2 ^ 31 by omega), hI_eq, e, if_neg q, payT, cap, pI_d, pI_wI, hR_wI, hI_wI_eq, wI_wI]
theorem in1 : aIn (1 : Int32) (sh 318).2 := in318 (k := 1) (by decide)
theorem cl1 : (1 : Int32).toNatClampNeg = 1 := by decide
theorem joins_b {h : aH} (hS : Str h) {e w : Nat} (he : e < 4) (hw : w < 4) {m : Int32} (hm : m = joinM (hI h 318) e) : b_X12_joins_43 h 308 (nI e) (nI w) (nI (11 + 4 * e)) (nI (27 + 4 * w)) m = some (joinM (hI h 318) e, wI h 318 (joinT (hI h 318) e w)) := by
  subst hm
  have a1 : (upd (upd (upd (upd (payT (hI h 318) (11 + 4 * e) (27 + 4 * w) (joinM (hI h 318) e)) (11 + 4 * e + 1) (nI w)) (27 + 4 * w + 1) (nI e)) (11 + 4 * e + 2) 0) (27 + 4 * w + 2) 0) (11 + 4 * e + 3) = hI h 318 (14 + 4 * e) := by
    rw [upd_ne _ _ (by omega), upd_ne _ _ (by omega), upd_ne _ _ (by omega), upd_ne _ _ (by omega), payT, upd_ne _ _ (by omega), upd_ne _ _ (by omega)]
    congr 1; omega
  have a2 : (upd (upd (upd (upd (upd (payT (hI h 318) (11 + 4 * e) (27 + 4 * w) (joinM (hI h 318) e)) (11 + 4 * e + 1) (nI w)) (27 + 4 * w + 1) (nI e)) (11 + 4 * e + 2) 0) (27 + 4 * w + 2) 0) (11 + 4 * e + 3) (hI h 318 (14 + 4 * e) + 1)) (27 + 4 * w + 3) = hI h 318 (30 + 4 * w) := by
    rw [upd_ne _ _ (by omega), upd_ne _ _ (by omega), upd_ne _ _ (by omega), upd_ne _ _ (by omega), upd_ne _ _ (by omega), payT, upd_ne _ _ (by omega), upd_ne _ _ (by omega)]
    congr 1; omega
  simp only [b_X12_joins_43, q_308, pays_eq hS (show 11 + 4 * e < 184 by omega) (show 27 + 4 * w < 184 by omega) (show 11 + 4 * e ≠ 27 + 4 * w by omega), aBind_some, hR_wI, r_308_20 hS, Option.bind_some, aLet, i1, i2, i3, q_318, if_pos (in318 (show 11 + 4 * e + 1 < 184 by omega)), if_pos (in318 (show 11 + 4 * e + 2 < 184 by omega)), if_pos (in318 (show 11 + 4 * e + 3 < 184 by omega)), if_pos (in318 (show 27 + 4 * w + 1 < 184 by omega)), if_pos (in318 (show 27 + 4 * w + 2 < 184 by omega)), if_pos (in318 (show 27 + 4 * w + 3 < 184 by omega)), nI_clamp (show 11 + 4 * e + 1 < 2 ^ 31 by omega), nI_clamp (show 11 + 4 * e + 2 < 2 ^ 31 by omega), nI_clamp (show 11 + 4 * e + 3 < 2 ^ 31 by omega), nI_clamp (show 27 + 4 * w + 1 < 2 ^ 31 by omega), nI_clamp (show 27 + 4 * w + 2 < 2 ^ 31 by omega), nI_clamp (show 27 + 4 * w + 3 < 2 ^ 31 by omega), pI_wI, hI_wI_eq, a1, a2]
  rw [joinT, show 12 + 4 * e = 11 + 4 * e + 1 by omega, show 13 + 4 * e = 11 + 4 * e + 2 by omega, show 14 + 4 * e = 11 + 4 * e + 3 by omega, show 28 + 4 * w = 27 + 4 * w + 1 by omega, show 29 + 4 * w = 27 + 4 * w + 2 by omega, show 30 + 4 * w = 27 + 4 * w + 3 by omega]
theorem joins_eq {h : aH} (hS : Str h) {e w : Nat} (he : e < 4) (hw : w < 4) : f_X12_joins h 308 (nI e) (nI w) = some (joinM (hI h 318) e, wI h 318 (joinT (hI h 318) e w)) := by
  by_cases q : hI h 318 1 ≤ hI h 318 (11 + 4 * e)
  · simp only [f_X12_joins, f_X12_placeOf, aBind_some, pl0, pl1, q_308, r_308_20 hS, Option.bind_some, q_318, if_pos (in318 (show 11 + 4 * e < 184 by omega)), if_pos in1, cl1, nI_clamp (show 11 + 4 * e < 2 ^ 31 by omega), if_pos q]
    exact joins_b hS he hw (by rw [joinM, mn, if_neg (Int32.not_lt.mpr q)])
  · simp only [f_X12_joins, f_X12_placeOf, aBind_some, pl0, pl1, q_308, r_308_20 hS, Option.bind_some, q_318, if_pos (in318 (show 11 + 4 * e < 184 by omega)), if_pos in1, cl1, nI_clamp (show 11 + 4 * e < 2 ^ 31 by omega), if_neg q]
    exact joins_b hS he hw (by rw [joinM, mn, if_pos (Int32.not_le.mp q)])
theorem parts_b {h : aH} (hS : Str h) {e w : Nat} (he : e < 4) (hw : w < 4) {m : Int32} (hm : m = partM (hI h 318) w) : b_X12_partsFrom_53 h 308 (nI (11 + 4 * e)) (nI (27 + 4 * w)) m = some (partM (hI h 318) w, wI h 318 (partT (hI h 318) e w)) := by
  subst hm
  simp only [b_X12_partsFrom_53, q_308, pays_eq hS (show 27 + 4 * w < 184 by omega) (show 11 + 4 * e < 184 by omega) (show 27 + 4 * w ≠ 11 + 4 * e by omega), aBind_some, hR_wI, r_308_20 hS, Option.bind_some, aLet, i1, i2, q_318, if_pos (in318 (show 11 + 4 * e + 1 < 184 by omega)), if_pos (in318 (show 11 + 4 * e + 2 < 184 by omega)), if_pos (in318 (show 27 + 4 * w + 1 < 184 by omega)), if_pos (in318 (show 27 + 4 * w + 2 < 184 by omega)), nI_clamp (show 11 + 4 * e + 1 < 2 ^ 31 by omega), nI_clamp (show 11 + 4 * e + 2 < 2 ^ 31 by omega), nI_clamp (show 27 + 4 * w + 1 < 2 ^ 31 by omega), nI_clamp (show 27 + 4 * w + 2 < 2 ^ 31 by omega), pI_wI]
  rw [partT, show 12 + 4 * e = 11 + 4 * e + 1 by omega, show 13 + 4 * e = 11 + 4 * e + 2 by omega, show 28 + 4 * w = 27 + 4 * w + 1 by omega, show 29 + 4 * w = 27 + 4 * w + 2 by omega]
theorem partsFrom_eq {h : aH} (hS : Str h) {e w : Nat} (he : e < 4) (hw : w < 4) (hp : hI h 318 (12 + 4 * e) = nI w) : f_X12_partsFrom h 308 (nI e) = some (partM (hI h 318) w, wI h 318 (partT (hI h 318) e w)) := by
  have hp' : hI h 318 (11 + 4 * e + 1) = nI w := by rw [← hp]; congr 1; omega
  by_cases q : hI h 318 1 / 2 ≤ hI h 318 (27 + 4 * w)
  · simp only [f_X12_partsFrom, f_X12_placeOf, aBind_some, pl0, q_308, r_308_20 hS, Option.bind_some, q_318, aLet, i1, if_pos (in318 (show 11 + 4 * e + 1 < 184 by omega)), nI_clamp (show 11 + 4 * e + 1 < 2 ^ 31 by omega), hp', pl1, if_pos (in318 (show 27 + 4 * w < 184 by omega)), nI_clamp (show 27 + 4 * w < 2 ^ 31 by omega), if_pos in1, cl1, if_pos q]
    exact parts_b hS he hw (by rw [partM, mn, if_neg (Int32.not_lt.mpr q)])
  · simp only [f_X12_partsFrom, f_X12_placeOf, aBind_some, pl0, q_308, r_308_20 hS, Option.bind_some, q_318, aLet, i1, if_pos (in318 (show 11 + 4 * e + 1 < 184 by omega)), nI_clamp (show 11 + 4 * e + 1 < 2 ^ 31 by omega), hp', pl1, if_pos (in318 (show 27 + 4 * w < 184 by omega)), nI_clamp (show 27 + 4 * w < 2 ^ 31 by omega), if_pos in1, cl1, if_neg q]
    exact parts_b hS he hw (by rw [partM, mn, if_pos (Int32.not_le.mp q)])
/-! what stays of a row -/
theorem joinT_o {S : Row} {e w j : Nat} (he : e < 4) (hw : w < 4) (h : j < 11 ∨ 43 ≤ j) : joinT S e w j = S j := by
  rw [joinT, upd_ne _ _ (by omega), upd_ne _ _ (by omega), upd_ne _ _ (by omega), upd_ne _ _ (by omega), upd_ne _ _ (by omega), upd_ne _ _ (by omega), payT, upd_ne _ _ (by omega), upd_ne _ _ (by omega)]
theorem partT_o {S : Row} {e w j : Nat} (he : e < 4) (hw : w < 4) (h : j < 11 ∨ 43 ≤ j) : partT S e w j = S j := by
  rw [partT, upd_ne _ _ (by omega), upd_ne _ _ (by omega), upd_ne _ _ (by omega), upd_ne _ _ (by omega), payT, upd_ne _ _ (by omega), upd_ne _ _ (by omega)]
theorem joinT_pe {S : Row} {e w e' : Nat} (he : e < 4) (hw : w < 4) (he' : e' < 4) : joinT S e w (12 + 4 * e') = (if e' = e then nI w else S (12 + 4 * e')) ∧ joinT S e w (13 + 4 * e') = (if e' = e then 0 else S (13 + 4 * e')) := by
  unfold joinT payT upd
  constructor
  all_goals repeat' split
  all_goals first | rfl | omega
theorem joinT_pw {S : Row} {e w w' : Nat} (he : e < 4) (hw : w < 4) (hw' : w' < 4) : joinT S e w (28 + 4 * w') = (if w' = w then nI e else S (28 + 4 * w')) ∧ joinT S e w (29 + 4 * w') = (if w' = w then 0 else S (29 + 4 * w')) := by
  unfold joinT payT upd
  constructor
  all_goals repeat' split
  all_goals first | rfl | omega
theorem partT_pe {S : Row} {e w e' : Nat} (he : e < 4) (hw : w < 4) (he' : e' < 4) : partT S e w (12 + 4 * e') = (if e' = e then -1 else S (12 + 4 * e')) ∧ partT S e w (13 + 4 * e') = (if e' = e then 0 else S (13 + 4 * e')) := by
  unfold partT payT upd
  constructor
  all_goals repeat' split
  all_goals first | rfl | omega
theorem partT_pw {S : Row} {e w w' : Nat} (he : e < 4) (hw : w < 4) (hw' : w' < 4) : partT S e w (28 + 4 * w') = (if w' = w then -1 else S (28 + 4 * w')) ∧ partT S e w (29 + 4 * w') = (if w' = w then 0 else S (29 + 4 * w')) := by
  unfold partT payT upd
  constructor
  all_goals repeat' split
  all_goals first | rfl | omega
