/-! ===== two are joined, two part: a row's change ===== -/
def cap (x : Int32) : Int32 := if x ≤ 9999 then x else 9999
theorem cap_c (x : Int32) : (if x < 9999 then x else 9999) = cap x := by
  unfold cap
  by_cases q : x < 9999
  · rw [if_pos q, if_pos (Int32.le_of_lt q)]
  · rw [if_neg q]
    by_cases r : x ≤ 9999
    · rw [if_pos r]; exact Int32.le_antisymm (Int32.not_lt.mp q) r
    · rw [if_neg r]
def mn (x y : Int32) : Int32 := if x < y then x else y
def payT (S : Row) (a b : Nat) (m : Int32) : Row := upd (upd S a (S a - m)) b (cap (S b + m))
def joinM (S : Row) (e : Nat) : Int32 := mn (S (11 + 4 * e)) (S 1)
def joinT (S : Row) (e w : Nat) : Row := upd (upd (upd (upd (upd (upd (payT S (11 + 4 * e) (27 + 4 * w) (joinM S e)) (12 + 4 * e) (nI w)) (28 + 4 * w) (nI e)) (13 + 4 * e) 0) (29 + 4 * w) 0) (14 + 4 * e) (S (14 + 4 * e) + 1)) (30 + 4 * w) (S (30 + 4 * w) + 1)
def partM (S : Row) (w : Nat) : Int32 := mn (S (27 + 4 * w)) (S 1 / 2)
def partT (S : Row) (e w : Nat) : Row := upd (upd (upd (upd (payT S (27 + 4 * w) (11 + 4 * e) (partM S w)) (12 + 4 * e) (-1)) (28 + 4 * w) (-1)) (13 + 4 * e) 0) (29 + 4 * w) 0
theorem inst1 {a k : Nat} (ha : a ∈ stL) (h : k < 8) : aIn (nI k) (sh (a + 1)).2 := by rw [(st_sh a ha).2.1]; exact vp_in_nI h (by decide)
theorem inst2 {a k : Nat} (ha : a ∈ stL) (h : k < 8) : aIn (nI k) (sh (a + 2)).2 := by rw [(st_sh a ha).2.2.1]; exact vp_in_nI h (by decide)
theorem inst3 {a k : Nat} (ha : a ∈ stL) (h : k < 8) : aIn (nI k) (sh (a + 3)).2 := by rw [(st_sh a ha).2.2.2.1]; exact vp_in_nI h (by decide)
theorem inst4 {a k : Nat} (ha : a ∈ stL) (h : k < 4) : aIn (nI k) (sh (a + 4)).2 := by rw [(st_sh a ha).2.2.2.2.1]; exact vp_in_nI h (by decide)
theorem inst5 {a k : Nat} (ha : a ∈ stL) (h : k < 32) : aIn (nI k) (sh (a + 5)).2 := by rw [(st_sh a ha).2.2.2.2.2.1]; exact vp_in_nI h (by decide)
theorem inst6 {a k : Nat} (ha : a ∈ stL) (h : k < 32) : aIn (nI k) (sh (a + 6)).2 := by rw [(st_sh a ha).2.2.2.2.2.2]; exact vp_in_nI h (by decide)
theorem n4 (w : Nat) : (4 : Int32) + nI w = nI (4 + w) := nI_add 4 w
theorem give_eq {h : aH} (hS : Str h) {a i j : Nat} (ha : a ∈ stL) (hi : i < 8) (hj : j < 8) (hij : i ≠ j) (m : Int32) {S : Row} (r : RSt h a S) : ∃ h', f_X8_give h a (nI i) (nI j) m = some ((), h') ∧ RSt h' a (payT S (11 + 4 * i) (11 + 4 * j) m) ∧ Upd (stA a) h h' := by
  have A := hS.st ha
  have r1 := r.wPu hi (x := S (11 + 4 * i) - m) rfl
  have r2 := r1.wPu hj (x := cap (S (11 + 4 * j) + m)) rfl
  have e : hI (pI h (a + 1) i (S (11 + 4 * i) - m)) (a + 1) j = S (11 + 4 * j) := by rw [hI_eq, upd_ne _ _ (fun q => hij q.symm)]; exact r.pu hj
  refine ⟨pI (pI h (a + 1) i (S (11 + 4 * i) - m)) (a + 1) j (cap (S (11 + 4 * j) + m)), ?_, r2, (Upd.pI (A := stA a) (by unfold stA; omega)).tr (Upd.pI (by unfold stA; omega))⟩
  simp only [f_X8_give, qst0 ha, A.1, hR_pI, Option.bind_some, qst1 ha, if_pos (inst1 ha hi), if_pos (inst1 ha hj), aLet, nI_clamp (show i < 2 ^ 31 by omega), nI_clamp (show j < 2 ^ 31 by omega), r.pu hi, e, cap_c]
theorem joinTwo_eq {h : aH} (hS : Str h) {a e w : Nat} (ha : a ∈ stL) (he : e < 4) (hw : w < 4) {S : Row} (r : RSt h a S) : ∃ h', f_X8_joinTwo h a (nI e) (nI w) = some (joinM S e, h') ∧ RSt h' a (joinT S e w) ∧ Upd (stA a) h h' := by
  have A := hS.st ha
  obtain ⟨h1, f1, r1, u1⟩ := give_eq hS ha (i := e) (j := 4 + w) (by omega) (by omega) (by omega) (joinM S e) r
  have A1 := (u1.str hS).st ha
  have p3 : hI h1 (a + 3) e = S (14 + 4 * e) := by
    rw [r1.jo (by omega), payT, upd_ne _ _ (by omega), upd_ne _ _ (by omega)]
  have p3' : hI (pI h1 (a + 3) e (S (14 + 4 * e) + 1)) (a + 3) (4 + w) = S (30 + 4 * w) := by
    rw [hI_eq, upd_ne _ _ (by omega), r1.jo (by omega), payT, upd_ne _ _ (by omega), upd_ne _ _ (by omega)]
    congr 1; omega
  have r2 := ((((r1.wJo (p := e) (by omega) (x := S (14 + 4 * e) + 1) rfl).wJo (p := 4 + w) (by omega) (x := S (30 + 4 * w) + 1) rfl).wPa (p := e) (by omega) (x := nI w) rfl).wPa (p := 4 + w) (by omega) (x := nI e) rfl).wYe (p := e) he (x := 0) rfl
  refine ⟨_, ?_, r2.eqv ?_, ?_⟩
  · simp only [f_X8_joinTwo, qst0 ha, A.1, Option.bind_some, qst1 ha, if_pos (inst1 ha (show e < 8 by omega)), aLet, n4, nI_clamp (show e < 2 ^ 31 by omega), nI_clamp (show 4 + w < 2 ^ 31 by omega), r.pu (show e < 8 by omega), r.s1]
    rw [show (if S (11 + 4 * e) < S 1 then S (11 + 4 * e) else S 1) = joinM S e from rfl, f1]
    simp only [aBind_some, A1.1, A1.2.1, A1.2.2.1, A1.2.2.2.1, hR_pI, Option.bind_some, qst2 ha, qst3 ha, qst4 ha, if_pos (inst3 ha (show e < 8 by omega)), if_pos (inst3 ha (show 4 + w < 8 by omega)), if_pos (inst2 ha (show e < 8 by omega)), if_pos (inst2 ha (show 4 + w < 8 by omega)), if_pos (inst4 ha he), p3, p3']
  · intro j hj hn
    have hn2 : ¬ (j = 29 ∨ j = 33 ∨ j = 37 ∨ j = 41) := hn
    unfold joinT payT upd
    simp only [show 11 + 4 * (4 + w) = 27 + 4 * w by omega, show 12 + 4 * (4 + w) = 28 + 4 * w by omega, show 14 + 4 * (4 + w) = 30 + 4 * w by omega]
    repeat' split
    all_goals first | rfl | omega
  · exact ((((u1.tr (Upd.pI (by unfold stA; omega))).tr (Upd.pI (by unfold stA; omega))).tr (Upd.pI (by unfold stA; omega))).tr (Upd.pI (by unfold stA; omega))).tr (Upd.pI (by unfold stA; omega))
theorem partTwo_eq {h : aH} (hS : Str h) {a e w : Nat} (ha : a ∈ stL) (he : e < 4) (hw : w < 4) {S : Row} (r : RSt h a S) (hp : S (12 + 4 * e) = nI w) : ∃ h', f_X8_partTwo h a (nI e) = some (partM S w, h') ∧ RSt h' a (partT S e w) ∧ Upd (stA a) h h' := by
  have A := hS.st ha
  obtain ⟨h1, f1, r1, u1⟩ := give_eq hS ha (i := 4 + w) (j := e) (by omega) (by omega) (by omega) (partM S w) r
  have A1 := (u1.str hS).st ha
  have r2 := ((r1.wPa (p := 4 + w) (by omega) (x := -1) rfl).wPa (p := e) (by omega) (x := -1) rfl).wYe (p := e) he (x := 0) rfl
  have e1 : hI h (a + 1) (4 + w) = S (27 + 4 * w) := by rw [r.pu (by omega)]; congr 1; omega
  have e2 : hI h (a + 2) (4 * 0 + e) = nI w := by rw [r.pa (by omega), ← hp]; congr 1; omega
  refine ⟨_, ?_, r2.eqv ?_, ?_⟩
  · simp only [f_X8_partTwo, qst0 ha, partnerOf_0 hS ha he, aBind_some, e2, if_pos (nI_pos' (show w < 2 ^ 31 by omega)), A.1, Option.bind_some, qst1 ha, if_pos (inst1 ha (show 4 + w < 8 by omega)), aLet, n4, nI_clamp (show e < 2 ^ 31 by omega), nI_clamp (show 4 + w < 2 ^ 31 by omega), e1, r.s1]
    rw [show (if S (27 + 4 * w) < S 1 / 2 then S (27 + 4 * w) else S 1 / 2) = partM S w from rfl, f1]
    simp only [aBind_some, A1.1, A1.2.1, A1.2.2.1, A1.2.2.2.1, hR_pI, Option.bind_some, qst2 ha, qst4 ha, if_pos (inst2 ha (show e < 8 by omega)), if_pos (inst2 ha (show 4 + w < 8 by omega)), if_pos (inst4 ha he)]
  · intro j hj hn
    have hn2 : ¬ (j = 29 ∨ j = 33 ∨ j = 37 ∨ j = 41) := hn
    unfold partT payT upd
    simp only [show 11 + 4 * (4 + w) = 27 + 4 * w by omega, show 12 + 4 * (4 + w) = 28 + 4 * w by omega]
    repeat' split
    all_goals first | rfl | omega
  · exact ((u1.tr (Upd.pI (by unfold stA; omega))).tr (Upd.pI (by unfold stA; omega))).tr (Upd.pI (by unfold stA; omega))
