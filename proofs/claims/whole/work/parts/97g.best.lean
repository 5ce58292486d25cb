/-! ===== the best of those who are free ===== -/
def mx (b x : Int32) : Int32 := if b < x then x else b
def best0 (S : Row) (e : Nat) : Nat → Int32
  | 0 => 0
  | o + 1 => if S (28 + 4 * o) < 0 then mx (best0 S e o) (S (43 + 4 * e + o)) else best0 S e o
def best1 (S : Row) (w : Nat) : Nat → Int32
  | 0 => 0
  | o + 1 => if S (12 + 4 * o) < 0 then mx (best1 S w o) (S (59 + 4 * o + w)) else best1 S w o
theorem bestFree0 {h : aH} (hS : Str h) {a : Nat} (ha : a ∈ stL) {S : Row} (r : RSt h a S) (v : VS S) {e : Nat} (he : e < 4) : f_X8_bestFree h a 0 (nI e) = some (best0 S e (nW S), h) := by
  have A := hS.st ha
  have e4 := v.e4
  have st0 : (0 : Int32) * 16 + nI e * 4 = nI (4 * e) := by
    rw [show (0 : Int32) * 16 = nI 0 by decide, show (4 : Int32) = nI 4 from rfl, pk_mul, nI_add]; congr 1; omega
  have lp : f_X8_bestFree_51 2000 h a 0 0 (nI (4 * e)) 1 (nI (nW S)) 0 = some (best0 S e (nW S), h) := by
    refine itLoop (σ := Int32 × Int32) (fun n s => f_X8_bestFree_51 n h a 0 s.1 (nI (4 * e)) 1 (nI (nW S)) s.2) (fun i s => s = (best0 S e i, nI i)) (fun o => o = some (best0 S e (nW S), h)) (nW S) ?_ ?_ 2000 0 (0, 0) rfl (by omega) (by omega)
    · rintro m i _ hi rfl
      refine Or.inr ⟨_, rfl, ?_⟩
      show b_X8_bestFree_51 (f_X8_bestFree_51 m) h a 0 (best0 S e i) (nI (4 * e)) 1 (nI (nW S)) (nI i) = _
      have c : ¬ nI (nW S) ≤ nI i := nI_ge hi (by omega)
      have x1 : ((1 : Int32) - 0) * 4 + nI i = nI (4 + i) := by rw [show ((1 : Int32) - 0) * 4 = nI 4 by decide, nI_add]
      have x2 : nI (4 * e) + nI i * 1 = nI (4 * e + i) := by rw [show (1 : Int32) = nI 1 from rfl, pk_mul, nI_add, Nat.mul_one]
      have p1 : hI h (a + 2) (4 + i) = S (28 + 4 * i) := by rw [r.pa (by omega)]; congr 1; omega
      have p2 : hI h (a + 5) (4 * e + i) = S (43 + 4 * e + i) := by rw [r.li (by omega)]; congr 1; omega
      by_cases q : S (28 + 4 * i) < 0
      · have q' : ¬ 0 ≤ S (28 + 4 * i) := Int32.not_le.mpr q
        by_cases z : S (43 + 4 * e + i) ≤ best0 S e i
        · simp only [b_X8_bestFree_51, if_neg c, qst0 ha, A.2.1, A.2.2.2.2.1, Option.bind_some, aLet, x1, x2, qst2 ha, qst5 ha, if_pos (inst2 ha (show 4 + i < 8 by omega)), if_pos (inst5 ha (show 4 * e + i < 32 by omega)), nI_clamp (show 4 + i < 2 ^ 31 by omega), nI_clamp (show 4 * e + i < 2 ^ 31 by omega), p1, p2, if_neg q', if_pos z, b_X8_bestFree_105, i1, best0, if_pos q, mx, if_neg (Int32.not_lt.mpr z)]
        · simp only [b_X8_bestFree_51, if_neg c, qst0 ha, A.2.1, A.2.2.2.2.1, Option.bind_some, aLet, x1, x2, qst2 ha, qst5 ha, if_pos (inst2 ha (show 4 + i < 8 by omega)), if_pos (inst5 ha (show 4 * e + i < 32 by omega)), nI_clamp (show 4 + i < 2 ^ 31 by omega), nI_clamp (show 4 * e + i < 2 ^ 31 by omega), p1, p2, if_neg q', if_neg z, b_X8_bestFree_105, i1, best0, if_pos q, mx, if_pos (Int32.not_le.mp z)]
      · have q' : 0 ≤ S (28 + 4 * i) := Int32.not_lt.mp q
        simp only [b_X8_bestFree_51, if_neg c, qst0 ha, A.2.1, Option.bind_some, aLet, x1, qst2 ha, if_pos (inst2 ha (show 4 + i < 8 by omega)), nI_clamp (show 4 + i < 2 ^ 31 by omega), p1, if_pos q', b_X8_bestFree_105, i1, best0, if_neg q]
    · rintro m _ rfl
      show b_X8_bestFree_51 (f_X8_bestFree_51 m) h a 0 (best0 S e (nW S)) (nI (4 * e)) 1 (nI (nW S)) (nI (nW S)) = _
      simp only [b_X8_bestFree_51, if_pos (Int32.le_refl (nI (nW S)))]
  simp only [f_X8_bestFree, if_true, b_X8_bestFree_16, aLet, st0, b_X8_bestFree_29, qst0 ha, r.s4, e4.1, b_X8_bestFree_46]
  exact lp
theorem bestFree1 {h : aH} (hS : Str h) {a : Nat} (ha : a ∈ stL) {S : Row} (r : RSt h a S) (v : VS S) {w : Nat} (hw : w < 4) : f_X8_bestFree h a 1 (nI w) = some (best1 S w (nE S), h) := by
  have A := hS.st ha
  have e3 := v.e3
  have n1 : ¬ (1 : Int32) = 0 := by decide
  have st0 : (1 : Int32) * 16 + nI w * 1 = nI (16 + w) := by
    rw [show (1 : Int32) * 16 = nI 16 by decide, show (1 : Int32) = nI 1 from rfl, pk_mul, nI_add, Nat.mul_one]
  have lp : f_X8_bestFree_51 2000 h a 1 0 (nI (16 + w)) 4 (nI (nE S)) 0 = some (best1 S w (nE S), h) := by
    refine itLoop (σ := Int32 × Int32) (fun n s => f_X8_bestFree_51 n h a 1 s.1 (nI (16 + w)) 4 (nI (nE S)) s.2) (fun i s => s = (best1 S w i, nI i)) (fun o => o = some (best1 S w (nE S), h)) (nE S) ?_ ?_ 2000 0 (0, 0) rfl (by omega) (by omega)
    · rintro m i _ hi rfl
      refine Or.inr ⟨_, rfl, ?_⟩
      show b_X8_bestFree_51 (f_X8_bestFree_51 m) h a 1 (best1 S w i) (nI (16 + w)) 4 (nI (nE S)) (nI i) = _
      have c : ¬ nI (nE S) ≤ nI i := nI_ge hi (by omega)
      have x1 : ((1 : Int32) - 1) * 4 + nI i = nI i := by rw [show ((1 : Int32) - 1) * 4 = nI 0 by decide, nI_add, Nat.zero_add]
      have x2 : nI (16 + w) + nI i * 4 = nI (16 + 4 * i + w) := by rw [show (4 : Int32) = nI 4 from rfl, pk_mul, nI_add]; congr 1; omega
      have p1 : hI h (a + 2) i = S (12 + 4 * i) := r.pa (by omega)
      have p2 : hI h (a + 5) (16 + 4 * i + w) = S (59 + 4 * i + w) := by rw [r.li (by omega)]; congr 1; omega
      by_cases q : S (12 + 4 * i) < 0
      · have q' : ¬ 0 ≤ S (12 + 4 * i) := Int32.not_le.mpr q
        by_cases z : S (59 + 4 * i + w) ≤ best1 S w i
        · simp only [b_X8_bestFree_51, if_neg c, qst0 ha, A.2.1, A.2.2.2.2.1, Option.bind_some, aLet, x1, x2, qst2 ha, qst5 ha, if_pos (inst2 ha (show i < 8 by omega)), if_pos (inst5 ha (show 16 + 4 * i + w < 32 by omega)), nI_clamp (show i < 2 ^ 31 by omega), nI_clamp (show 16 + 4 * i + w < 2 ^ 31 by omega), p1, p2, if_neg q', if_pos z, b_X8_bestFree_105, i1, best1, if_pos q, mx, if_neg (Int32.not_lt.mpr z)]
        · simp only [b_X8_bestFree_51, if_neg c, qst0 ha, A.2.1, A.2.2.2.2.1, Option.bind_some, aLet, x1, x2, qst2 ha, qst5 ha, if_pos (inst2 ha (show i < 8 by omega)), if_pos (inst5 ha (show 16 + 4 * i + w < 32 by omega)), nI_clamp (show i < 2 ^ 31 by omega), nI_clamp (show 16 + 4 * i + w < 2 ^ 31 by omega), p1, p2, if_neg q', if_neg z, b_X8_bestFree_105, i1, best1, if_pos q, mx, if_pos (Int32.not_le.mp z)]
      · have q' : 0 ≤ S (12 + 4 * i) := Int32.not_lt.mp q
        simp only [b_X8_bestFree_51, if_neg c, qst0 ha, A.2.1, Option.bind_some, aLet, x1, qst2 ha, if_pos (inst2 ha (show i < 8 by omega)), nI_clamp (show i < 2 ^ 31 by omega), p1, if_pos q', b_X8_bestFree_105, i1, best1, if_neg q]
    · rintro m _ rfl
      show b_X8_bestFree_51 (f_X8_bestFree_51 m) h a 1 (best1 S w (nE S)) (nI (16 + w)) 4 (nI (nE S)) (nI (nE S)) = _
      simp only [b_X8_bestFree_51, if_pos (Int32.le_refl (nI (nE S)))]
  simp only [f_X8_bestFree, if_neg n1, b_X8_bestFree_16, aLet, st0, b_X8_bestFree_29, qst0 ha, r.s3, e3.1, b_X8_bestFree_46]
  exact lp
/-- the words' values -/
def wd0 (S : Row) (e w : Nat) (i : Nat) : Int64 :=
  (if i = 0 then 0 else if i = 1 then nI e else if i = 2 then nI w else if i = 3 then S (43 + 4 * e + w) else if i = 4 then S (59 + 4 * e + w) else if i = 5 then S (13 + 4 * e) else if i = 6 then S (11 + 4 * e) else if i = 7 then S 1 else if i = 8 then best0 S e (nW S) else if i = 9 then S 10 else S (14 + 4 * e)).toInt64
def wd1 (S : Row) (e w : Nat) (i : Nat) : Int64 :=
  (if i = 0 then 1 else if i = 1 then nI w else if i = 2 then nI e else if i = 3 then S (59 + 4 * e + w) else if i = 4 then S (43 + 4 * e + w) else if i = 5 then S (13 + 4 * e) else if i = 6 then S (27 + 4 * w) else if i = 7 then S 1 else if i = 8 then best1 S w (nE S) else if i = 9 then S 10 else S (30 + 4 * w)).toInt64
theorem lt11 {i : Nat} (h : i < 11) : i = 0 ∨ i = 1 ∨ i = 2 ∨ i = 3 ∨ i = 4 ∨ i = 5 ∨ i = 6 ∨ i = 7 ∨ i = 8 ∨ i = 9 ∨ i = 10 := by omega
theorem Str_pL {h : aH} {b i : Nat} {x : Int64} : Str (pL h b i x) ↔ Str h := Iff.rfl
theorem RSt_pL {h : aH} {a b i : Nat} {x : Int64} {S : Row} (n : a ≠ b) : RSt (pL h b i x) a S ↔ RSt h a S := by
  unfold RSt; rw [hL_pL_ne h n]; exact Iff.rfl
theorem st_40 : ∀ a ∈ stL, a ≠ 40 ∧ a ≠ 41 := by decide +kernel
theorem ci (k : Nat) (h : k < 11) : aIn (nI k) (sh 40).2 := in40 h
theorem lookAt0 {h : aH} (hS : Str h) {a : Nat} (ha : a ∈ stL) {S : Row} (r : RSt h a S) (v : VS S) {e w : Nat} (he : e < 4) (hw : w < 4) : ∃ h', f_X3_lookAt h 39 a 0 (nI e) (nI w) = some ((), h') ∧ (∀ i, i < 11 → hL h' 40 i = wd0 S e w i) ∧ Upd (fun c => c = 40) h h' := by
  have na := (st_40 a ha).1
  have L0 : ∀ g, Str g → RSt g a S → f_X8_like g a 0 (nI e) (nI w) = some (S (43 + 4 * e + w), g) := fun g s r => likeS0 s ha r he hw
  have L1 : ∀ g, Str g → RSt g a S → f_X8_like g a 1 (nI e) (nI w) = some (S (59 + 4 * e + w), g) := fun g s r => likeS1 s ha r he hw
  have L2 : ∀ g, Str g → RSt g a S → f_X8_purseOf g a 0 (nI e) = some (S (11 + 4 * e), g) := fun g s r => purseS0 s ha r he
  have L3 : ∀ g, Str g → RSt g a S → f_X8_joiningsOf g a 0 (nI e) = some (S (14 + 4 * e), g) := fun g s r => joiningsS0 s ha r he
  have L4 : ∀ g, Str g → RSt g a S → f_X8_bestFree g a 0 (nI e) = some (best0 S e (nW S), g) := fun g s r => bestFree0 s ha r v he
  have A := hS.st ha
  refine ⟨pL (pL (pL (pL (pL (pL (pL (pL (pL (pL (pL h 40 0 (0 : Int32).toInt64) 40 1 (nI e).toInt64) 40 2 (nI w).toInt64) 40 3 (S (43 + 4 * e + w)).toInt64) 40 4 (S (59 + 4 * e + w)).toInt64) 40 5 (S (13 + 4 * e)).toInt64) 40 6 (S (11 + 4 * e)).toInt64) 40 7 (S 1).toInt64) 40 8 (best0 S e (nW S)).toInt64) 40 9 (S 10).toInt64) 40 10 (S (14 + 4 * e)).toInt64, ?_, ?_, ?_⟩
  · simp only [f_X3_lookAt, if_true, b_X3_lookAt_10, q_39, r_39_0 hS, Option.bind_some, q_40, if_pos (ci 0 (by decide)), if_pos (show aIn (0 : Int32) (sh 40).2 from ci 0 (by decide)), if_pos (show aIn (1 : Int32) (sh 40).2 from ci 1 (by decide)), if_pos (show aIn (2 : Int32) (sh 40).2 from ci 2 (by decide)), if_pos (show aIn (3 : Int32) (sh 40).2 from ci 3 (by decide)), if_pos (show aIn (4 : Int32) (sh 40).2 from ci 4 (by decide)), if_pos (show aIn (5 : Int32) (sh 40).2 from ci 5 (by decide)), if_pos (show aIn (6 : Int32) (sh 40).2 from ci 6 (by decide)), if_pos (show aIn (7 : Int32) (sh 40).2 from ci 7 (by decide)), if_pos (show aIn (8 : Int32) (sh 40).2 from ci 8 (by decide)), if_pos (show aIn (9 : Int32) (sh 40).2 from ci 9 (by decide)), if_pos (show aIn (10 : Int32) (sh 40).2 from ci 10 (by decide)), aLet, hR_pL, b_X3_lookAt_46, qst0 ha, L0, L1, L2, L3, L4, Str_pL, RSt_pL na, hS, r, aBind_some, A.2.2.2.1, qst4 ha, if_pos (inst4 ha he), hI_pL, nI_clamp (show e < 2 ^ 31 by omega), r.ye he, r.s1, r.s5, show (1 : Int32) - 0 = 1 by decide]
    rfl
  · intro i hi
    rcases lt11 hi with rfl | rfl | rfl | rfl | rfl | rfl | rfl | rfl | rfl | rfl | rfl <;> rfl
  · exact ((((((((((Upd.pL (A := fun c => c = 40) rfl).tr (Upd.pL rfl)).tr (Upd.pL rfl)).tr (Upd.pL rfl)).tr (Upd.pL rfl)).tr (Upd.pL rfl)).tr (Upd.pL rfl)).tr (Upd.pL rfl)).tr (Upd.pL rfl)).tr (Upd.pL rfl)).tr (Upd.pL rfl)
theorem lookAt1 {h : aH} (hS : Str h) {a : Nat} (ha : a ∈ stL) {S : Row} (r : RSt h a S) (v : VS S) {e w : Nat} (he : e < 4) (hw : w < 4) : ∃ h', f_X3_lookAt h 39 a 1 (nI e) (nI w) = some ((), h') ∧ (∀ i, i < 11 → hL h' 40 i = wd1 S e w i) ∧ Upd (fun c => c = 40) h h' := by
  have na := (st_40 a ha).1
  have n1 : ¬ (1 : Int32) = 0 := by decide
  have L0 : ∀ g, Str g → RSt g a S → f_X8_like g a 0 (nI e) (nI w) = some (S (43 + 4 * e + w), g) := fun g s r => likeS0 s ha r he hw
  have L1 : ∀ g, Str g → RSt g a S → f_X8_like g a 1 (nI e) (nI w) = some (S (59 + 4 * e + w), g) := fun g s r => likeS1 s ha r he hw
  have L2 : ∀ g, Str g → RSt g a S → f_X8_purseOf g a 1 (nI w) = some (S (27 + 4 * w), g) := fun g s r => purseS1 s ha r hw
  have L3 : ∀ g, Str g → RSt g a S → f_X8_joiningsOf g a 1 (nI w) = some (S (30 + 4 * w), g) := fun g s r => joiningsS1 s ha r hw
  have L4 : ∀ g, Str g → RSt g a S → f_X8_bestFree g a 1 (nI w) = some (best1 S w (nE S), g) := fun g s r => bestFree1 s ha r v hw
  have A := hS.st ha
  refine ⟨pL (pL (pL (pL (pL (pL (pL (pL (pL (pL (pL h 40 0 (1 : Int32).toInt64) 40 1 (nI w).toInt64) 40 2 (nI e).toInt64) 40 3 (S (59 + 4 * e + w)).toInt64) 40 4 (S (43 + 4 * e + w)).toInt64) 40 5 (S (13 + 4 * e)).toInt64) 40 6 (S (27 + 4 * w)).toInt64) 40 7 (S 1).toInt64) 40 8 (best1 S w (nE S)).toInt64) 40 9 (S 10).toInt64) 40 10 (S (30 + 4 * w)).toInt64, ?_, ?_, ?_⟩
  · simp only [f_X3_lookAt, if_neg n1, b_X3_lookAt_10, q_39, r_39_0 hS, Option.bind_some, q_40, if_pos (show aIn (0 : Int32) (sh 40).2 from ci 0 (by decide)), if_pos (show aIn (1 : Int32) (sh 40).2 from ci 1 (by decide)), if_pos (show aIn (2 : Int32) (sh 40).2 from ci 2 (by decide)), if_pos (show aIn (3 : Int32) (sh 40).2 from ci 3 (by decide)), if_pos (show aIn (4 : Int32) (sh 40).2 from ci 4 (by decide)), if_pos (show aIn (5 : Int32) (sh 40).2 from ci 5 (by decide)), if_pos (show aIn (6 : Int32) (sh 40).2 from ci 6 (by decide)), if_pos (show aIn (7 : Int32) (sh 40).2 from ci 7 (by decide)), if_pos (show aIn (8 : Int32) (sh 40).2 from ci 8 (by decide)), if_pos (show aIn (9 : Int32) (sh 40).2 from ci 9 (by decide)), if_pos (show aIn (10 : Int32) (sh 40).2 from ci 10 (by decide)), aLet, hR_pL, b_X3_lookAt_46, qst0 ha, L0, L1, L2, L3, L4, Str_pL, RSt_pL na, hS, r, aBind_some, A.2.2.2.1, qst4 ha, if_pos (inst4 ha he), hI_pL, nI_clamp (show e < 2 ^ 31 by omega), r.ye he, r.s1, r.s5, show (1 : Int32) - 1 = 0 by decide]
    rfl
  · intro i hi
    rcases lt11 hi with rfl | rfl | rfl | rfl | rfl | rfl | rfl | rfl | rfl | rfl | rfl <;> rfl
  · exact ((((((((((Upd.pL (A := fun c => c = 40) rfl).tr (Upd.pL rfl)).tr (Upd.pL rfl)).tr (Upd.pL rfl)).tr (Upd.pL rfl)).tr (Upd.pL rfl)).tr (Upd.pL rfl)).tr (Upd.pL rfl)).tr (Upd.pL rfl)).tr (Upd.pL rfl)).tr (Upd.pL rfl)
