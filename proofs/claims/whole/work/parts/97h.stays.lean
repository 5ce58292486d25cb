/-! ===== whether one stays ===== -/
def stay0 (h0 : aH) (f : Option Nat) (S : Row) (e w : Nat) : Bool := match f with
  | none => decide (S 2 ≤ S (43 + 4 * e + w))
  | some k => decide (0 < sumB h0 k (wd0 S e w) (nC h0 k) 0)
def stay1 (h0 : aH) (f : Option Nat) (S : Row) (e w : Nat) : Bool := match f with
  | none => decide (S 2 ≤ S (59 + 4 * e + w))
  | some k => decide (0 < sumB h0 k (wd1 S e w) (nC h0 k) 0)
/-- a rule that is there, or none -/
def RlOK (h0 : aH) (f : Option Nat) : Prop := ∀ k, f = some k → k < 6 ∧ RRule h0 k
def rlA (f : Option Nat) : Option Nat := f.map (fun k => 66 + 5 * k)
/-- class cells that a sum changes -/
abbrev jC : Nat → Prop := fun c => c = 40 ∨ c = 41
def bB (b : Bool) : Int32 := match b with
  | true => 1
  | false => 0
theorem b1_dec {p : Prop} [Decidable p] : bB (decide p) = b1 p := by
  by_cases c : p
  · rw [decide_eq_true c, b1, if_pos c]; rfl
  · rw [decide_eq_false c, b1, if_neg c]; rfl
theorem bB_0 {α : Type} {x y : α} {b : Bool} : (if bB b = 0 then x else y) = (if b = true then y else x) := by
  cases b
  · rfl
  · rfl
def frI (f : Option Nat) : Int32 := match f with
  | none => -1
  | some k => nI k
theorem b1_lt {h : aH} {x y : Int32} : (if x < y then some ((0 : Int32), h) else some (1, h)) = some (bB (decide (y ≤ x)), h) := by
  rw [b1_dec]; exact b1_if Int32.not_lt.symm
theorem staysC0 {h h0 : aH} (hS : Str h) {a : Nat} (ha : a ∈ stL) {S : Row} (r : RSt h a S) (v : VS S) {f : Option Nat} (ok : RlOK h0 f) (eC : ∀ b, 66 ≤ b → b ≤ 95 → hI h b = hI h0 b) {e w : Nat} (he : e < 4) (hw : w < 4) : ∃ h', f_X3_stays h 39 a (rlA f) 0 (nI e) (nI w) = some (bB (stay0 h0 f S e w), h') ∧ Upd jC h h' := by
  cases f with
  | none =>
    refine ⟨h, ?_, Upd.rf h⟩
    simp only [f_X3_stays, rlA, Option.map_none, qst0 ha, likeS0 hS ha r he hw, aBind_some, r.s2, b1_lt, stay0]
  | some k =>
    obtain ⟨hk, rr⟩ := ok k rfl
    obtain ⟨h1, f1, w1, u1⟩ := lookAt0 hS ha r v he hw
    obtain ⟨h2, f2, u2⟩ := stays_c (u1.str hS) hk rr (fun b p q => by rw [u1.2.2.1 b (by omega), eC b p q])
    refine ⟨h2, ?_, (u1.mono (fun c hc => Or.inl hc)).tr (u2.mono (fun c hc => Or.inr hc))⟩
    rw [sumB_c w1] at f2
    simp only [f_X3_stays, rlA, Option.map_some, q_39, f1, aBind_some, f2, stay0, b1_dec]
theorem staysC1 {h h0 : aH} (hS : Str h) {a : Nat} (ha : a ∈ stL) {S : Row} (r : RSt h a S) (v : VS S) {f : Option Nat} (ok : RlOK h0 f) (eC : ∀ b, 66 ≤ b → b ≤ 95 → hI h b = hI h0 b) {e w : Nat} (he : e < 4) (hw : w < 4) : ∃ h', f_X3_stays h 39 a (rlA f) 1 (nI e) (nI w) = some (bB (stay1 h0 f S e w), h') ∧ Upd jC h h' := by
  cases f with
  | none =>
    refine ⟨h, ?_, Upd.rf h⟩
    simp only [f_X3_stays, rlA, Option.map_none, qst0 ha, likeS1 hS ha r he hw, aBind_some, r.s2, b1_lt, stay1]
  | some k =>
    obtain ⟨hk, rr⟩ := ok k rfl
    obtain ⟨h1, f1, w1, u1⟩ := lookAt1 hS ha r v he hw
    obtain ⟨h2, f2, u2⟩ := stays_c (u1.str hS) hk rr (fun b p q => by rw [u1.2.2.1 b (by omega), eC b p q])
    refine ⟨h2, ?_, (u1.mono (fun c hc => Or.inl hc)).tr (u2.mono (fun c hc => Or.inr hc))⟩
    rw [sumB_c w1] at f2
    simp only [f_X3_stays, rlA, Option.map_some, q_39, f1, aBind_some, f2, stay1, b1_dec]
/-- what the reference's asking leaves -/
def RV (h h' : aH) : Prop := Upd (fun c => c = 308 ∨ c = 316 ∨ c = 317) h h' ∧ ∀ j, j ≠ 18 → hI h' 308 j = hI h 308 j
theorem RV.tr {a b c : aH} (x : RV a b) (y : RV b c) : RV a c := ⟨x.1.tr y.1, fun j hj => (y.2 j hj).trans (x.2 j hj)⟩
theorem RU.rv {a b : aH} (x : RU a b) : RV a b := ⟨x.1.mono (fun c hc => by omega), x.2⟩
theorem ci7 (k : Nat) (h : k < 11) : aIn (nI k) (sh 317).2 := in317 h
theorem in10 : aIn (10 : Int32) (sh 318).2 := in318 (k := 10) (by decide)
theorem cl10 : (10 : Int32).toNatClampNeg = 10 := by decide
theorem in3 : aIn (3 : Int32) (sh 318).2 := in318 (k := 3) (by decide)
theorem cl3 : (3 : Int32).toNatClampNeg = 3 := by decide
theorem in4 : aIn (4 : Int32) (sh 318).2 := in318 (k := 4) (by decide)
theorem cl4 : (4 : Int32).toNatClampNeg = 4 := by decide
theorem in2 : aIn (2 : Int32) (sh 318).2 := in318 (k := 2) (by decide)
theorem cl2 : (2 : Int32).toNatClampNeg = 2 := by decide
theorem words0 {h : aH} (hS : Str h) {S : Row} (eS : hI h 318 = S) (v : VS S) {e w : Nat} (he : e < 4) (hw : w < 4) : ∃ K, f_X12_stays_43 2000 h 308 0 (nI e) (nI w) 0 0 = b_X12_stays_43 K h 308 0 (nI e) (nI w) (best0 S e (nW S)) (nI (nW S)) := by
  have e4 := v.e4
  refine itLoop (σ := Int32 × Int32) (fun n s => f_X12_stays_43 n h 308 0 (nI e) (nI w) s.1 s.2) (fun i s => s = (best0 S e i, nI i)) (fun o => ∃ K, o = b_X12_stays_43 K h 308 0 (nI e) (nI w) (best0 S e (nW S)) (nI (nW S))) (nW S) ?_ ?_ 2000 0 (0, 0) rfl (by omega) (by omega)
  · rintro m i _ hi rfl
    refine Or.inr ⟨_, rfl, ?_⟩
    show b_X12_stays_43 (f_X12_stays_43 m) h 308 0 (nI e) (nI w) (best0 S e i) (nI i) = _
    have c : ¬ nI (nW S) ≤ nI i := nI_ge hi (by omega)
    have fr := isFreeR1 hS (show i < 4 by omega)
    have lk := likesOf0 hS he (show i < 4 by omega)
    rw [eS] at fr lk
    have n1 : ¬ (1 : Int32) = 0 := by decide
    by_cases q : S (28 + 4 * i) < 0
    · rw [if_pos q] at fr
      by_cases p : S (43 + 4 * e + i) ≤ best0 S e i
      · simp only [b_X12_stays_43, q_308, r_308_20 hS, Option.bind_some, aLet, show (4 : Int32) - 0 = 4 by decide, q_318, if_pos in4, cl4, eS, e4.1, if_neg c, show (1 : Int32) - 0 = 1 by decide, fr, aBind_some, if_neg n1, lk, if_pos p, b_X12_stays_91, i1, best0, if_pos q, mx, if_neg (Int32.not_lt.mpr p)]
      · simp only [b_X12_stays_43, q_308, r_308_20 hS, Option.bind_some, aLet, show (4 : Int32) - 0 = 4 by decide, q_318, if_pos in4, cl4, eS, e4.1, if_neg c, show (1 : Int32) - 0 = 1 by decide, fr, aBind_some, if_neg n1, lk, if_neg p, b_X12_stays_91, i1, best0, if_pos q, mx, if_pos (Int32.not_le.mp p)]
    · rw [if_neg q] at fr
      simp only [b_X12_stays_43, q_308, r_308_20 hS, Option.bind_some, aLet, show (4 : Int32) - 0 = 4 by decide, q_318, if_pos in4, cl4, eS, e4.1, if_neg c, show (1 : Int32) - 0 = 1 by decide, fr, aBind_some, if_true, b_X12_stays_91, i1, best0, if_neg q]
  · rintro m _ rfl
    exact ⟨_, rfl⟩
theorem staysR0 {h h0 : aH} (hS : Str h) {S : Row} (eS : hI h 318 = S) (v : VS S) {f : Option Nat} (ok : RlOK h0 f) (eF : hI h 308 21 = frI f) (eC : ∀ b, 310 ≤ b → b ≤ 313 → hI h b = hI h0 b) {e w : Nat} (he : e < 4) (hw : w < 4) (pe : S (12 + 4 * e) = nI w) (py : S (29 + 4 * w) = S (13 + 4 * e)) : ∃ h', f_X12_stays h 308 0 (nI e) = some (bB (stay0 h0 f S e w), h') ∧ RV h h' := by
  have wr := withR0 hS (show e < 4 by omega)
  rw [eS, pe] at wr
  cases f with
  | none =>
    have lk := likesOf0 hS he hw
    rw [eS] at lk
    refine ⟨h, ?_, Upd.rf h, fun _ _ => rfl⟩
    have eF' : hI h 308 21 = -1 := eF
    simp only [f_X12_stays, q_308, wr, aBind_some, eF', if_neg (show ¬ (0 : Int32) ≤ -1 by decide), lk, r_308_20 hS, Option.bind_some, q_318, if_pos in2, cl2, eS, b1_lt, stay0]
  | some k =>
    obtain ⟨hk, rr⟩ := ok k rfl
    have eF' : hI h 308 21 = nI k := eF
    obtain ⟨K, fK⟩ := words0 hS eS v he hw
    obtain ⟨h1, d1⟩ : ∃ h1, h1 = (pL (pL (pL (pL (pL (pL (pL (pL (pL (pL (pL h 317 0 (0 : Int32).toInt64) 317 1 (nI e).toInt64) 317 2 (nI w).toInt64) 317 3 (S (43 + 4 * e + w)).toInt64) 317 4 (S (59 + 4 * e + w)).toInt64) 317 5 (S (13 + 4 * e)).toInt64) 317 6 (S (11 + 4 * e)).toInt64) 317 7 (S 1).toInt64) 317 8 (best0 S e (nW S)).toInt64) 317 9 (S 10).toInt64) 317 10 (S (14 + 4 * e)).toInt64) := ⟨_, rfl⟩
    have u1 : Upd (fun c => c = 317) h h1 := by
      rw [d1]
      exact ((((((((((Upd.pL (A := fun c => c = 317) rfl).tr (Upd.pL rfl)).tr (Upd.pL rfl)).tr (Upd.pL rfl)).tr (Upd.pL rfl)).tr (Upd.pL rfl)).tr (Upd.pL rfl)).tr (Upd.pL rfl)).tr (Upd.pL rfl)).tr (Upd.pL rfl)).tr (Upd.pL rfl)
    have w1 : ∀ i, i < 11 → hL h1 317 i = wd0 S e w i := by
      intro i hi
      rw [d1]
      rcases lt11 hi with rfl | rfl | rfl | rfl | rfl | rfl | rfl | rfl | rfl | rfl | rfl
      all_goals first | rfl | exact congrArg Int32.toInt64 py
    obtain ⟨h2, f2, u2⟩ := summed_eq (u1.str hS) hk rr (fun b p q => by rw [u1.2.2.1 b (by omega), eC b p q])
    rw [sumB_c w1] at f2
    have L0 : ∀ g, Str g → hI g 318 = S → f_X12_likesOf g 308 0 (nI e) (nI w) = some (S (43 + 4 * e + w), g) := fun g s q => by rw [likesOf0 s he hw, q]
    have L1 : ∀ g, Str g → hI g 318 = S → f_X12_likesOf g 308 1 (nI w) (nI e) = some (S (59 + 4 * e + w), g) := fun g s q => by rw [likesOf1 s he hw, q]
    have P0 : ∀ g, Str g → hI g 318 = S → f_X12_personOf g 308 0 (nI e) 0 = some (S (11 + 4 * e), g) := fun g s q => by
      have := personR0 s (k := 0) (show e < 4 by omega) (by decide)
      rw [q] at this; exact this
    have P2 : ∀ g, Str g → hI g 318 = S → f_X12_personOf g 308 0 (nI e) 2 = some (S (13 + 4 * e), g) := fun g s q => by
      have := personR0 s (k := 2) (show e < 4 by omega) (by decide)
      rw [q] at this; exact this
    have P3 : ∀ g, Str g → hI g 318 = S → f_X12_personOf g 308 0 (nI e) 3 = some (S (14 + 4 * e), g) := fun g s q => by
      have := personR0 s (k := 3) (show e < 4 by omega) (by decide)
      rw [q] at this; exact this
    refine ⟨h2, ?_, (show RV h h1 from ⟨u1.mono (fun c hc => by omega), fun j _ => by rw [u1.2.2.1 308 (by omega)]⟩).tr u2.rv⟩
    have e21 : hI h1 308 21 = nI k := by rw [u1.2.2.1 308 (by omega)]; exact eF'
    rw [d1] at f2 e21
    simp only [f_X12_stays, q_308, wr, aBind_some, eF', if_pos (nI_pos' (show k < 2 ^ 31 by omega)), fK, b_X12_stays_43, r_308_20 hS, r_308_19 hS, Option.bind_some, aLet, show (4 : Int32) - 0 = 4 by decide, q_318, if_pos in4, cl4, eS, v.e4.1, if_pos (Int32.le_refl (nI (nW S))), q_317, if_pos (show aIn (0 : Int32) (sh 317).2 from ci7 0 (by decide)), if_pos (show aIn (1 : Int32) (sh 317).2 from ci7 1 (by decide)), if_pos (show aIn (2 : Int32) (sh 317).2 from ci7 2 (by decide)), if_pos (show aIn (3 : Int32) (sh 317).2 from ci7 3 (by decide)), if_pos (show aIn (4 : Int32) (sh 317).2 from ci7 4 (by decide)), if_pos (show aIn (5 : Int32) (sh 317).2 from ci7 5 (by decide)), if_pos (show aIn (6 : Int32) (sh 317).2 from ci7 6 (by decide)), if_pos (show aIn (7 : Int32) (sh 317).2 from ci7 7 (by decide)), if_pos (show aIn (8 : Int32) (sh 317).2 from ci7 8 (by decide)), if_pos (show aIn (9 : Int32) (sh 317).2 from ci7 9 (by decide)), if_pos (show aIn (10 : Int32) (sh 317).2 from ci7 10 (by decide)), hR_pL, show (1 : Int32) - 0 = 1 by decide, L0, L1, P0, P2, P3, Str_pL, hI_pL, hS, if_pos in1, cl1, if_pos in10, cl10]
    simp only [show (2 : Int32).toNatClampNeg = 2 from rfl, show (3 : Int32).toNatClampNeg = 3 from rfl, show (4 : Int32).toNatClampNeg = 4 from rfl, show (5 : Int32).toNatClampNeg = 5 from rfl, show (6 : Int32).toNatClampNeg = 6 from rfl, show (7 : Int32).toNatClampNeg = 7 from rfl, show (8 : Int32).toNatClampNeg = 8 from rfl, show (9 : Int32).toNatClampNeg = 9 from rfl, show (10 : Int32).toNatClampNeg = 10 from rfl, z_clamp, cl1]
    rw [f2]
    simp only [aBind_some, lg_cmp_le, stay0]
    rw [b1_dec]
    exact b1_if Int64.not_le.symm
theorem words1 {h : aH} (hS : Str h) {S : Row} (eS : hI h 318 = S) (v : VS S) {e w : Nat} (he : e < 4) (hw : w < 4) : ∃ K, f_X12_stays_43 2000 h 308 1 (nI w) (nI e) 0 0 = b_X12_stays_43 K h 308 1 (nI w) (nI e) (best1 S w (nE S)) (nI (nE S)) := by
  have e4 := v.e3
  refine itLoop (σ := Int32 × Int32) (fun n s => f_X12_stays_43 n h 308 1 (nI w) (nI e) s.1 s.2) (fun i s => s = (best1 S w i, nI i)) (fun o => ∃ K, o = b_X12_stays_43 K h 308 1 (nI w) (nI e) (best1 S w (nE S)) (nI (nE S))) (nE S) ?_ ?_ 2000 0 (0, 0) rfl (by omega) (by omega)
  · rintro m i _ hi rfl
    refine Or.inr ⟨_, rfl, ?_⟩
    show b_X12_stays_43 (f_X12_stays_43 m) h 308 1 (nI w) (nI e) (best1 S w i) (nI i) = _
    have c : ¬ nI (nE S) ≤ nI i := nI_ge hi (by omega)
    have fr := isFreeR0 hS (show i < 4 by omega)
    have lk := likesOf1 hS (show i < 4 by omega) hw
    rw [eS] at fr lk
    have n1 : ¬ (1 : Int32) = 0 := by decide
    by_cases q : S (12 + 4 * i) < 0
    · rw [if_pos q] at fr
      by_cases p : S (59 + 4 * i + w) ≤ best1 S w i
      · simp only [b_X12_stays_43, q_308, r_308_20 hS, Option.bind_some, aLet, show (4 : Int32) - 1 = 3 by decide, q_318, if_pos in3, cl3, eS, e4.1, if_neg c, show (1 : Int32) - 1 = 0 by decide, fr, aBind_some, if_neg n1, lk, if_pos p, b_X12_stays_91, i1, best1, if_pos q, mx, if_neg (Int32.not_lt.mpr p)]
      · simp only [b_X12_stays_43, q_308, r_308_20 hS, Option.bind_some, aLet, show (4 : Int32) - 1 = 3 by decide, q_318, if_pos in3, cl3, eS, e4.1, if_neg c, show (1 : Int32) - 1 = 0 by decide, fr, aBind_some, if_neg n1, lk, if_neg p, b_X12_stays_91, i1, best1, if_pos q, mx, if_pos (Int32.not_le.mp p)]
    · rw [if_neg q] at fr
      simp only [b_X12_stays_43, q_308, r_308_20 hS, Option.bind_some, aLet, show (4 : Int32) - 1 = 3 by decide, q_318, if_pos in3, cl3, eS, e4.1, if_neg c, show (1 : Int32) - 1 = 0 by decide, fr, aBind_some, if_true, b_X12_stays_91, i1, best1, if_neg q]
  · rintro m _ rfl
    exact ⟨_, rfl⟩
theorem staysR1 {h h0 : aH} (hS : Str h) {S : Row} (eS : hI h 318 = S) (v : VS S) {f : Option Nat} (ok : RlOK h0 f) (eF : hI h 308 21 = frI f) (eC : ∀ b, 310 ≤ b → b ≤ 313 → hI h b = hI h0 b) {e w : Nat} (he : e < 4) (hw : w < 4) (pe : S (28 + 4 * w) = nI e) (py : S (29 + 4 * w) = S (13 + 4 * e)) : ∃ h', f_X12_stays h 308 1 (nI w) = some (bB (stay1 h0 f S e w), h') ∧ RV h h' := by
  have wr := withR1 hS (show w < 4 by omega)
  rw [eS, pe] at wr
  cases f with
  | none =>
    have lk := likesOf1 hS he hw
    rw [eS] at lk
    refine ⟨h, ?_, Upd.rf h, fun _ _ => rfl⟩
    have eF' : hI h 308 21 = -1 := eF
    simp only [f_X12_stays, q_308, wr, aBind_some, eF', if_neg (show ¬ (0 : Int32) ≤ -1 by decide), lk, r_308_20 hS, Option.bind_some, q_318, if_pos in2, cl2, eS, b1_lt, stay1]
  | some k =>
    obtain ⟨hk, rr⟩ := ok k rfl
    have eF' : hI h 308 21 = nI k := eF
    obtain ⟨K, fK⟩ := words1 hS eS v he hw
    obtain ⟨h1, d1⟩ : ∃ h1, h1 = (pL (pL (pL (pL (pL (pL (pL (pL (pL (pL (pL h 317 0 (1 : Int32).toInt64) 317 1 (nI w).toInt64) 317 2 (nI e).toInt64) 317 3 (S (59 + 4 * e + w)).toInt64) 317 4 (S (43 + 4 * e + w)).toInt64) 317 5 (S (29 + 4 * w)).toInt64) 317 6 (S (27 + 4 * w)).toInt64) 317 7 (S 1).toInt64) 317 8 (best1 S w (nE S)).toInt64) 317 9 (S 10).toInt64) 317 10 (S (30 + 4 * w)).toInt64) := ⟨_, rfl⟩
    have u1 : Upd (fun c => c = 317) h h1 := by
      rw [d1]
      exact ((((((((((Upd.pL (A := fun c => c = 317) rfl).tr (Upd.pL rfl)).tr (Upd.pL rfl)).tr (Upd.pL rfl)).tr (Upd.pL rfl)).tr (Upd.pL rfl)).tr (Upd.pL rfl)).tr (Upd.pL rfl)).tr (Upd.pL rfl)).tr (Upd.pL rfl)).tr (Upd.pL rfl)
    have w1 : ∀ i, i < 11 → hL h1 317 i = wd1 S e w i := by
      intro i hi
      rw [d1]
      rcases lt11 hi with rfl | rfl | rfl | rfl | rfl | rfl | rfl | rfl | rfl | rfl | rfl
      all_goals first | rfl | exact congrArg Int32.toInt64 py
    obtain ⟨h2, f2, u2⟩ := summed_eq (u1.str hS) hk rr (fun b p q => by rw [u1.2.2.1 b (by omega), eC b p q])
    rw [sumB_c w1] at f2
    have L0 : ∀ g, Str g → hI g 318 = S → f_X12_likesOf g 308 0 (nI e) (nI w) = some (S (43 + 4 * e + w), g) := fun g s q => by rw [likesOf0 s he hw, q]
    have L1 : ∀ g, Str g → hI g 318 = S → f_X12_likesOf g 308 1 (nI w) (nI e) = some (S (59 + 4 * e + w), g) := fun g s q => by rw [likesOf1 s he hw, q]
    have P0 : ∀ g, Str g → hI g 318 = S → f_X12_personOf g 308 1 (nI w) 0 = some (S (27 + 4 * w), g) := fun g s q => by
      have := personR1 s (k := 0) (show w < 4 by omega) (by decide)
      rw [q] at this; exact this
    have P2 : ∀ g, Str g → hI g 318 = S → f_X12_personOf g 308 1 (nI w) 2 = some (S (29 + 4 * w), g) := fun g s q => by
      have := personR1 s (k := 2) (show w < 4 by omega) (by decide)
      rw [q] at this; exact this
    have P3 : ∀ g, Str g → hI g 318 = S → f_X12_personOf g 308 1 (nI w) 3 = some (S (30 + 4 * w), g) := fun g s q => by
      have := personR1 s (k := 3) (show w < 4 by omega) (by decide)
      rw [q] at this; exact this
    refine ⟨h2, ?_, (show RV h h1 from ⟨u1.mono (fun c hc => by omega), fun j _ => by rw [u1.2.2.1 308 (by omega)]⟩).tr u2.rv⟩
    have e21 : hI h1 308 21 = nI k := by rw [u1.2.2.1 308 (by omega)]; exact eF'
    rw [d1] at f2 e21
    simp only [f_X12_stays, q_308, wr, aBind_some, eF', if_pos (nI_pos' (show k < 2 ^ 31 by omega)), fK, b_X12_stays_43, r_308_20 hS, r_308_19 hS, Option.bind_some, aLet, show (4 : Int32) - 1 = 3 by decide, q_318, if_pos in3, cl3, eS, v.e3.1, if_pos (Int32.le_refl (nI (nE S))), q_317, if_pos (show aIn (0 : Int32) (sh 317).2 from ci7 0 (by decide)), if_pos (show aIn (1 : Int32) (sh 317).2 from ci7 1 (by decide)), if_pos (show aIn (2 : Int32) (sh 317).2 from ci7 2 (by decide)), if_pos (show aIn (3 : Int32) (sh 317).2 from ci7 3 (by decide)), if_pos (show aIn (4 : Int32) (sh 317).2 from ci7 4 (by decide)), if_pos (show aIn (5 : Int32) (sh 317).2 from ci7 5 (by decide)), if_pos (show aIn (6 : Int32) (sh 317).2 from ci7 6 (by decide)), if_pos (show aIn (7 : Int32) (sh 317).2 from ci7 7 (by decide)), if_pos (show aIn (8 : Int32) (sh 317).2 from ci7 8 (by decide)), if_pos (show aIn (9 : Int32) (sh 317).2 from ci7 9 (by decide)), if_pos (show aIn (10 : Int32) (sh 317).2 from ci7 10 (by decide)), hR_pL, show (1 : Int32) - 1 = 0 by decide, L0, L1, P0, P2, P3, Str_pL, hI_pL, hS, if_pos in1, cl1, if_pos in10, cl10]
    simp only [show (2 : Int32).toNatClampNeg = 2 from rfl, show (3 : Int32).toNatClampNeg = 3 from rfl, show (4 : Int32).toNatClampNeg = 4 from rfl, show (5 : Int32).toNatClampNeg = 5 from rfl, show (6 : Int32).toNatClampNeg = 6 from rfl, show (7 : Int32).toNatClampNeg = 7 from rfl, show (8 : Int32).toNatClampNeg = 8 from rfl, show (9 : Int32).toNatClampNeg = 9 from rfl, show (10 : Int32).toNatClampNeg = 10 from rfl, z_clamp, cl1]
    rw [f2]
    simp only [aBind_some, lg_cmp_le, stay1]
    rw [b1_dec]
    exact b1_if Int64.not_le.symm
