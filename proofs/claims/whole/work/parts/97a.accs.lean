/-! ===== reads in terms of a row ===== -/
section ACCS
variable {h : aH} {a : Nat} {S : Row}
theorem likeS0 (hS : Str h) (ha : a ∈ stL) (r : RSt h a S) {e w : Nat} (he : e < 4) (hw : w < 4) : f_X8_like h a 0 (nI e) (nI w) = some (S (43 + 4 * e + w), h) := by
  rw [like_0 hS ha he hw, r.li (by omega), show 43 + (16 * 0 + 4 * e + w) = 43 + 4 * e + w by omega]
theorem likeS1 (hS : Str h) (ha : a ∈ stL) (r : RSt h a S) {e w : Nat} (he : e < 4) (hw : w < 4) : f_X8_like h a 1 (nI e) (nI w) = some (S (59 + 4 * e + w), h) := by
  rw [like_1 hS ha he hw, r.li (by omega), show 43 + (16 * 1 + 4 * e + w) = 59 + 4 * e + w by omega]
theorem partnerS0 (hS : Str h) (ha : a ∈ stL) (r : RSt h a S) {e : Nat} (he : e < 4) : f_X8_partnerOf h a 0 (nI e) = some (S (12 + 4 * e), h) := by
  rw [partnerOf_0 hS ha he, r.pa (by omega), show 12 + 4 * (4 * 0 + e) = 12 + 4 * e by omega]
theorem partnerS1 (hS : Str h) (ha : a ∈ stL) (r : RSt h a S) {w : Nat} (hw : w < 4) : f_X8_partnerOf h a 1 (nI w) = some (S (28 + 4 * w), h) := by
  rw [partnerOf_1 hS ha hw, r.pa (by omega), show 12 + 4 * (4 * 1 + w) = 28 + 4 * w by omega]
theorem purseS0 (hS : Str h) (ha : a ∈ stL) (r : RSt h a S) {e : Nat} (he : e < 4) : f_X8_purseOf h a 0 (nI e) = some (S (11 + 4 * e), h) := by
  rw [purseOf_0 hS ha he, r.pu (by omega), show 11 + 4 * (4 * 0 + e) = 11 + 4 * e by omega]
theorem purseS1 (hS : Str h) (ha : a ∈ stL) (r : RSt h a S) {w : Nat} (hw : w < 4) : f_X8_purseOf h a 1 (nI w) = some (S (27 + 4 * w), h) := by
  rw [purseOf_1 hS ha hw, r.pu (by omega), show 11 + 4 * (4 * 1 + w) = 27 + 4 * w by omega]
theorem joiningsS0 (hS : Str h) (ha : a ∈ stL) (r : RSt h a S) {e : Nat} (he : e < 4) : f_X8_joiningsOf h a 0 (nI e) = some (S (14 + 4 * e), h) := by
  rw [joiningsOf_0 hS ha he, r.jo (by omega), show 14 + 4 * (4 * 0 + e) = 14 + 4 * e by omega]
theorem joiningsS1 (hS : Str h) (ha : a ∈ stL) (r : RSt h a S) {w : Nat} (hw : w < 4) : f_X8_joiningsOf h a 1 (nI w) = some (S (30 + 4 * w), h) := by
  rw [joiningsOf_1 hS ha hw, r.jo (by omega), show 14 + 4 * (4 * 1 + w) = 30 + 4 * w by omega]
theorem ifs {α : Type} {x y : α} {p q : Prop} [Decidable p] [Decidable q] (e : p ↔ q) : (if p then x else y) = (if q then x else y) := by
  by_cases c : p
  · rw [if_pos c, if_pos (e.mp c)]
  · rw [if_neg c, if_neg (fun d => c (e.mpr d))]
theorem ifn {α : Type} {x y : α} {p q : Prop} [Decidable p] [Decidable q] (e : p ↔ ¬ q) : (if p then x else y) = (if q then y else x) := by
  by_cases c : q
  · rw [if_pos c, if_neg (fun d => (e.mp d) c)]
  · rw [if_neg c, if_pos (e.mpr c)]
theorem some_if {p : Prop} [Decidable p] {x y : Int32} : (if p then some (x, h) else some (y, h)) = some (if p then x else y, h) := by
  split <;> rfl
theorem isFreeS0 (hS : Str h) (ha : a ∈ stL) (r : RSt h a S) {e : Nat} (he : e < 4) : f_X8_isFree h a 0 (nI e) = some (if S (12 + 4 * e) < 0 then 1 else 0, h) := by
  have A := hS.st ha
  have e0 : (0 : Int32) * 4 + nI e = nI e := by rw [show (0 : Int32) * 4 = nI 0 by decide, nI_add, Nat.zero_add]
  simp only [f_X8_isFree, qst0 ha, A.2.1, Option.bind_some, aLet, e0, qst2 ha, if_pos (inst2 ha (show e < 8 by omega)), nI_clamp (show e < 2 ^ 31 by omega), r.pa (show e < 8 by omega), some_if]
  rw [ifn (q := S (12 + 4 * e) < 0) Int32.not_lt.symm]
theorem isFreeS1 (hS : Str h) (ha : a ∈ stL) (r : RSt h a S) {w : Nat} (hw : w < 4) : f_X8_isFree h a 1 (nI w) = some (if S (28 + 4 * w) < 0 then 1 else 0, h) := by
  have A := hS.st ha
  have e0 : (1 : Int32) * 4 + nI w = nI (4 + w) := by rw [show (1 : Int32) * 4 = nI 4 by decide, nI_add]
  simp only [f_X8_isFree, qst0 ha, A.2.1, Option.bind_some, aLet, e0, qst2 ha, if_pos (inst2 ha (show 4 + w < 8 by omega)), nI_clamp (show 4 + w < 2 ^ 31 by omega), r.pa (show 4 + w < 8 by omega), some_if, show 12 + 4 * (4 + w) = 28 + 4 * w by omega]
  rw [ifn (q := S (28 + 4 * w) < 0) Int32.not_lt.symm]
/-- two could be joined -/
abbrev canJ (S : Row) (e w : Nat) : Prop := S (12 + 4 * e) < 0 ∧ S (28 + 4 * w) < 0 ∧ 0 < S (43 + 4 * e + w) ∧ 0 < S (59 + 4 * e + w)
abbrev b1 (p : Prop) [Decidable p] : Int32 := if p then 1 else 0
theorem b1_0 {α : Type} {x y : α} {p : Prop} [Decidable p] : (if b1 p = 0 then x else y) = (if p then y else x) := by
  by_cases c : p
  · rw [if_pos c, b1, if_pos c, if_neg (by decide)]
  · rw [if_neg c, b1, if_neg c, if_pos rfl]
theorem couldJoinS (hS : Str h) (ha : a ∈ stL) (r : RSt h a S) {e w : Nat} (he : e < 4) (hw : w < 4) : f_X8_couldJoin h a (nI e) (nI w) = some (b1 (canJ S e w), h) := by
  simp only [f_X8_couldJoin, f_X8_likeEachOther, qst0 ha, isFreeS0 hS ha r he, isFreeS1 hS ha r hw, likeS0 hS ha r he hw, likeS1 hS ha r he hw, aBind_some]
  by_cases c1 : S (12 + 4 * e) < 0
  · by_cases c2 : S (28 + 4 * w) < 0
    · by_cases c3 : S (43 + 4 * e + w) ≤ 0
      · simp only [if_pos c1, if_pos c2, if_pos c3, aBind_some, b1]
        rw [if_neg (by decide), if_neg (by decide), if_pos trivial, if_neg (fun q => absurd q.2.2.1 (Int32.not_lt.mpr c3))]
      · by_cases c4 : S (59 + 4 * e + w) ≤ 0
        · simp only [if_pos c1, if_pos c2, if_neg c3, if_pos c4, aBind_some, b1]
          rw [if_neg (by decide), if_neg (by decide), if_pos trivial, if_neg (fun q => absurd q.2.2.2 (Int32.not_lt.mpr c4))]
        · simp only [if_pos c1, if_pos c2, if_neg c3, if_neg c4, aBind_some, b1]
          rw [if_neg (by decide), if_neg (by decide), if_neg (by decide), if_pos ⟨c1, c2, Int32.not_le.mp c3, Int32.not_le.mp c4⟩]
    · simp only [if_pos c1, if_neg c2, b1]
      rw [if_neg (by decide), if_pos trivial, if_neg (fun q => c2 q.2.1)]
  · simp only [if_neg c1, b1]
    rw [if_pos trivial, if_neg (fun q => c1 q.1)]
theorem lk0 (e w : Nat) : ((43 : Int32) + (16 * 0)) + ((4 * nI e) + nI w) = nI (43 + 4 * e + w) := by
  rw [show ((43 : Int32) + (16 * 0)) = nI 43 by decide, show (4 : Int32) = nI 4 from rfl, pk_mul, nI_add, nI_add, Nat.add_assoc]
theorem lk1 (e w : Nat) : ((43 : Int32) + (16 * 1)) + ((4 * nI e) + nI w) = nI (59 + 4 * e + w) := by
  rw [show ((43 : Int32) + (16 * 1)) = nI 59 by decide, show (4 : Int32) = nI 4 from rfl, pk_mul, nI_add, nI_add, Nat.add_assoc]
theorem likesOf0 (hS : Str h) {e w : Nat} (he : e < 4) (hw : w < 4) : f_X12_likesOf h 308 0 (nI e) (nI w) = some (hI h 318 (43 + 4 * e + w), h) := by
  simp only [f_X12_likesOf, q_308, r_308_20 hS, Option.bind_some, aLet, lk0, q_318, if_pos (in318 (show 43 + 4 * e + w < 184 by omega)), nI_clamp (show 43 + 4 * e + w < 2 ^ 31 by omega), if_true]
theorem likesOf1 (hS : Str h) {e w : Nat} (he : e < 4) (hw : w < 4) : f_X12_likesOf h 308 1 (nI w) (nI e) = some (hI h 318 (59 + 4 * e + w), h) := by
  simp only [f_X12_likesOf, q_308, r_308_20 hS, Option.bind_some, aLet, lk1, q_318, if_pos (in318 (show 59 + 4 * e + w < 184 by omega)), nI_clamp (show 59 + 4 * e + w < 2 ^ 31 by omega), if_neg (show ¬ (1 : Int32) = 0 by decide)]
theorem personR0 (hS : Str h) {p k : Nat} (hp : p < 4) (hk : k < 4) : f_X12_personOf h 308 0 (nI p) (nI k) = some (hI h 318 (11 + k + 4 * p), h) := by
  rw [personOf_0 hS hp hk, show 11 + 16 * 0 + 4 * p + k = 11 + k + 4 * p by omega]
theorem personR1 (hS : Str h) {p k : Nat} (hp : p < 4) (hk : k < 4) : f_X12_personOf h 308 1 (nI p) (nI k) = some (hI h 318 (27 + k + 4 * p), h) := by
  rw [personOf_1 hS hp hk, show 11 + 16 * 1 + 4 * p + k = 27 + k + 4 * p by omega]
theorem withR0 (hS : Str h) {p : Nat} (hp : p < 4) : f_X12_personOf h 308 0 (nI p) 1 = some (hI h 318 (12 + 4 * p), h) := personR0 hS (k := 1) hp (by decide)
theorem withR1 (hS : Str h) {p : Nat} (hp : p < 4) : f_X12_personOf h 308 1 (nI p) 1 = some (hI h 318 (28 + 4 * p), h) := personR1 hS (k := 1) hp (by decide)
theorem isFreeR0 (hS : Str h) {e : Nat} (he : e < 4) : f_X12_isFree h 308 0 (nI e) = some (if hI h 318 (12 + 4 * e) < 0 then 1 else 0, h) := by
  simp only [f_X12_isFree, q_308, withR0 hS he, aBind_some, some_if]
  rw [ifn (q := hI h 318 (12 + 4 * e) < 0) Int32.not_lt.symm]
theorem isFreeR1 (hS : Str h) {w : Nat} (hw : w < 4) : f_X12_isFree h 308 1 (nI w) = some (if hI h 318 (28 + 4 * w) < 0 then 1 else 0, h) := by
  simp only [f_X12_isFree, q_308, withR1 hS hw, aBind_some, some_if]
  rw [ifn (q := hI h 318 (28 + 4 * w) < 0) Int32.not_lt.symm]
theorem canJoinR (hS : Str h) {e w : Nat} (he : e < 4) (hw : w < 4) : f_X12_canJoin h 308 (nI e) (nI w) = some (b1 (canJ (hI h 318) e w), h) := by
  simp only [f_X12_canJoin, f_X12_areFond, q_308, isFreeR0 hS he, isFreeR1 hS hw, likesOf0 hS he hw, likesOf1 hS he hw, aBind_some]
  by_cases c1 : hI h 318 (12 + 4 * e) < 0
  · by_cases c2 : hI h 318 (28 + 4 * w) < 0
    · by_cases c3 : hI h 318 (43 + 4 * e + w) ≤ 0
      · simp only [if_pos c1, if_pos c2, if_pos c3, aBind_some, b1]
        rw [if_neg (by decide), if_neg (by decide), if_pos trivial, if_neg (fun q => absurd q.2.2.1 (Int32.not_lt.mpr c3))]
      · by_cases c4 : hI h 318 (59 + 4 * e + w) ≤ 0
        · simp only [if_pos c1, if_pos c2, if_neg c3, if_pos c4, aBind_some, b1]
          rw [if_neg (by decide), if_neg (by decide), if_pos trivial, if_neg (fun q => absurd q.2.2.2 (Int32.not_lt.mpr c4))]
        · simp only [if_pos c1, if_pos c2, if_neg c3, if_neg c4, aBind_some, b1]
          rw [if_neg (by decide), if_neg (by decide), if_neg (by decide), if_pos ⟨c1, c2, Int32.not_le.mp c3, Int32.not_le.mp c4⟩]
    · simp only [if_pos c1, if_neg c2, b1]
      rw [if_neg (by decide), if_pos trivial, if_neg (fun q => c2 q.2.1)]
  · simp only [if_neg c1, b1]
    rw [if_pos trivial, if_neg (fun q => c1 q.1)]
theorem isJoinedS (hS : Str h) (ha : a ∈ stL) (r : RSt h a S) {e : Nat} (he : e < nE S) (v : VS S) : f_X8_isJoinedEast h a (nI e) = some (if S (12 + 4 * e) < 0 then 0 else 1, h) := by
  have e3 := v.e3
  have c1 : ¬ nI e < 0 := nI_pos (by omega)
  have c2 : ¬ S 3 ≤ nI e := by rw [e3.1]; exact nI_ge he (by omega)
  simp only [f_X8_isJoinedEast, qst0 ha, hasEast_eq ha, r.s3, if_neg c1, if_neg c2, aBind_some, if_neg (show ¬ (1 : Int32) = 0 by decide), partnerS0 hS ha r (show e < 4 by omega), some_if]
theorem isFreeES (hS : Str h) (ha : a ∈ stL) (r : RSt h a S) {e : Nat} (he : e < nE S) (v : VS S) : f_X8_isFreeEast h a (nI e) = some (if S (12 + 4 * e) < 0 then 1 else 0, h) := by
  have e3 := v.e3
  have c1 : ¬ nI e < 0 := nI_pos (by omega)
  have c2 : ¬ S 3 ≤ nI e := by rw [e3.1]; exact nI_ge he (by omega)
  simp only [f_X8_isFreeEast, qst0 ha, hasEast_eq ha, r.s3, if_neg c1, if_neg c2, aBind_some, if_neg (show ¬ (1 : Int32) = 0 by decide), partnerS0 hS ha r (show e < 4 by omega), some_if]
  rw [ifn (q := S (12 + 4 * e) < 0) Int32.not_lt.symm]
theorem noEast (ha : a ∈ stL) (r : RSt h a S) {x : Int32} (hx : x < 0 ∨ S 3 ≤ x) : f_X8_hasEast h a x = some (0, h) := by
  rw [hasEast_eq ha, r.s3]
  rcases hx with q | q
  · rw [if_pos q]
  · rw [if_pos q]; split <;> rfl
theorem yesEast (ha : a ∈ stL) (r : RSt h a S) (v : VS S) {e : Nat} (he : e < nE S) : f_X8_hasEast h a (nI e) = some (1, h) := by
  have e3 := v.e3
  rw [hasEast_eq ha, r.s3, if_neg (nI_pos (by omega)), if_neg (by rw [e3.1]; exact nI_ge he (by omega))]
theorem noWest (ha : a ∈ stL) (r : RSt h a S) {x : Int32} (hx : x < 0 ∨ S 4 ≤ x) : f_X8_hasWest h a x = some (0, h) := by
  rw [hasWest_eq ha, r.s4]
  rcases hx with q | q
  · rw [if_pos q]
  · rw [if_pos q]; split <;> rfl
theorem yesWest (ha : a ∈ stL) (r : RSt h a S) (v : VS S) {w : Nat} (hw : w < nW S) : f_X8_hasWest h a (nI w) = some (1, h) := by
  have e4 := v.e4
  rw [hasWest_eq ha, r.s4, if_neg (nI_pos (by omega)), if_neg (by rw [e4.1]; exact nI_ge hw (by omega))]
theorem noEastR (hS : Str h) {x : Int32} (hx : x < 0 ∨ hI h 318 3 ≤ x) : f_X12_isEast h 308 x = some (0, h) := by
  rw [isEast_eq hS]
  rcases hx with q | q
  · rw [if_pos q]
  · rw [if_pos q]; split <;> rfl
theorem yesEastR (hS : Str h) (v : VS (hI h 318)) {e : Nat} (he : e < nE (hI h 318)) : f_X12_isEast h 308 (nI e) = some (1, h) := by
  have e3 := v.e3
  rw [isEast_eq hS, if_neg (nI_pos (by omega)), if_neg (by rw [e3.1]; exact nI_ge he (by omega))]
theorem noWestR (hS : Str h) {x : Int32} (hx : x < 0 ∨ hI h 318 4 ≤ x) : f_X12_isWest h 308 x = some (0, h) := by
  rw [isWest_eq hS]
  rcases hx with q | q
  · rw [if_pos q]
  · rw [if_pos q]; split <;> rfl
theorem yesWestR (hS : Str h) (v : VS (hI h 318)) {w : Nat} (hw : w < nW (hI h 318)) : f_X12_isWest h 308 (nI w) = some (1, h) := by
  have e4 := v.e4
  rw [isWest_eq hS, if_neg (nI_pos (by omega)), if_neg (by rw [e4.1]; exact nI_ge hw (by omega))]
end ACCS
theorem VS.mk' {S T : Row} (v : VS S) (e : ∀ j, j < 10 ∨ 75 ≤ j → T j = S j) (l : ∀ k, k < 32 → Btw (T (43 + k)) 0 20) (pe : PairE T) (pw : PairW T) : VS T := by
  obtain ⟨a, b, c, d, ⟨f1, f2, f3⟩, g, _, _⟩ := v
  refine ⟨?_, ?_, ?_, ?_, ⟨?_, ?_, ?_⟩, fun k hk => ⟨l k hk, ?_⟩, pe, pw⟩
  · rw [e 0 (by omega)]; exact a
  · rw [e 3 (by omega)]; exact b
  · rw [e 4 (by omega)]; exact c
  · rw [e 0 (by omega), e 3 (by omega), e 4 (by omega)]; exact d
  · rw [e 75 (by omega)]; exact f1
  · rw [e 76 (by omega)]; exact f2
  · rw [e 77 (by omega)]; exact f3
  · rw [e _ (by omega)]; exact (g k hk).2
theorem nE_of {S T : Row} (e : T 3 = S 3) : nE T = nE S := by unfold nE; rw [e]
theorem nW_of {S T : Row} (e : T 4 = S 4) : nW T = nW S := by unfold nW; rw [e]
theorem free_e {S : Row} (v : VS S) {e : Nat} (he : e < nE S) (f : S (12 + 4 * e) < 0) : S (12 + 4 * e) = -1 ∧ S (13 + 4 * e) = 0 := by
  rcases v.pe e he with q | ⟨w, hw, q, _⟩
  · exact q
  · rw [q] at f; exact absurd f (nI_pos (by have := v.e4.2; omega))
theorem free_w {S : Row} (v : VS S) {w : Nat} (hw : w < nW S) (f : S (28 + 4 * w) < 0) : S (28 + 4 * w) = -1 ∧ S (29 + 4 * w) = 0 := by
  rcases v.pw w hw with q | ⟨e, he, q, _⟩
  · exact q
  · rw [q] at f; exact absurd f (nI_pos (by have := v.e3.2; omega))
theorem with_e {S : Row} (v : VS S) {e : Nat} (he : e < nE S) (f : ¬ S (12 + 4 * e) < 0) : ∃ w, w < nW S ∧ S (12 + 4 * e) = nI w ∧ S (28 + 4 * w) = nI e ∧ S (29 + 4 * w) = S (13 + 4 * e) := by
  rcases v.pe e he with q | q
  · rw [q.1] at f; exact absurd (by decide) f
  · exact q
theorem VS.join {S : Row} (v : VS S) {e w : Nat} (he : e < nE S) (hw : w < nW S) (fe : S (12 + 4 * e) < 0) (fw : S (28 + 4 * w) < 0) : VS (joinT S e w) := by
  have h3 := v.e3.2
  have h4 := v.e4.2
  have n3 := nE_of (joinT_o (S := S) (j := 3) (show e < 4 by omega) (show w < 4 by omega) (by omega))
  have n4 := nW_of (joinT_o (S := S) (j := 4) (show e < 4 by omega) (show w < 4 by omega) (by omega))
  have ge := free_e v he fe
  have gw := free_w v hw fw
  refine v.mk' (fun j hj => joinT_o (by omega) (by omega) (by omega)) (fun k hk => ?_) ?_ ?_
  · rw [joinT_o (by omega) (by omega) (by omega)]; exact (v.lk k hk).1
  · intro e' he'
    rw [n3] at he'
    have q := joinT_pe (S := S) (e := e) (w := w) (e' := e') (by omega) (by omega) (by omega)
    rw [n4, q.1, q.2]
    by_cases c : e' = e
    · subst c
      have p := joinT_pw (S := S) (e := e') (w := w) (w' := w) (by omega) (by omega) (by omega)
      rw [if_pos rfl, if_pos rfl]
      exact Or.inr ⟨w, hw, rfl, by rw [p.1, if_pos rfl], by rw [p.2, if_pos rfl]⟩
    · rw [if_neg c, if_neg c]
      rcases v.pe e' he' with z | ⟨w', hw', z1, z2, z3⟩
      · exact Or.inl z
      · have p := joinT_pw (S := S) (e := e) (w := w) (w' := w') (by omega) (by omega) (by omega)
        have ne : ¬ w' = w := fun c => by rw [c, gw.1] at z2; exact nI_m1' (by omega) z2
        exact Or.inr ⟨w', hw', z1, by rw [p.1, if_neg ne]; exact z2, by rw [p.2, if_neg ne]; exact z3⟩
  · intro w' hw'
    rw [n4] at hw'
    have q := joinT_pw (S := S) (e := e) (w := w) (w' := w') (by omega) (by omega) (by omega)
    rw [n3, q.1, q.2]
    by_cases c : w' = w
    · subst c
      have p := joinT_pe (S := S) (e := e) (w := w') (e' := e) (by omega) (by omega) (by omega)
      rw [if_pos rfl, if_pos rfl]
      exact Or.inr ⟨e, he, rfl, by rw [p.1, if_pos rfl]⟩
    · rw [if_neg c, if_neg c]
      rcases v.pw w' hw' with z | ⟨e', he', z1, z2⟩
      · exact Or.inl z
      · have p := joinT_pe (S := S) (e := e) (w := w) (e' := e') (by omega) (by omega) (by omega)
        have ne : ¬ e' = e := fun c => by rw [c, ge.1] at z2; exact nI_m1' (by omega) z2
        exact Or.inr ⟨e', he', z1, by rw [p.1, if_neg ne]; exact z2⟩
theorem VS.part {S : Row} (v : VS S) {e w : Nat} (he : e < nE S) (hw : w < nW S) (pe : S (12 + 4 * e) = nI w) (pw : S (28 + 4 * w) = nI e) : VS (partT S e w) := by
  have h3 := v.e3.2
  have h4 := v.e4.2
  have n3 := nE_of (partT_o (S := S) (j := 3) (show e < 4 by omega) (show w < 4 by omega) (by omega))
  have n4 := nW_of (partT_o (S := S) (j := 4) (show e < 4 by omega) (show w < 4 by omega) (by omega))
  refine v.mk' (fun j hj => partT_o (by omega) (by omega) (by omega)) (fun k hk => ?_) ?_ ?_
  · rw [partT_o (by omega) (by omega) (by omega)]; exact (v.lk k hk).1
  · intro e' he'
    rw [n3] at he'
    have q := partT_pe (S := S) (e := e) (w := w) (e' := e') (by omega) (by omega) (by omega)
    rw [n4, q.1, q.2]
    by_cases c : e' = e
    · rw [if_pos c, if_pos c]
      exact Or.inl ⟨rfl, rfl⟩
    · rw [if_neg c, if_neg c]
      rcases v.pe e' he' with z | ⟨w', hw', z1, z2, z3⟩
      · exact Or.inl z
      · have p := partT_pw (S := S) (e := e) (w := w) (w' := w') (by omega) (by omega) (by omega)
        have ne : ¬ w' = w := fun d => by rw [d, pw] at z2; exact c ((nI_eq (by omega) (by omega)).mp z2).symm
        exact Or.inr ⟨w', hw', z1, by rw [p.1, if_neg ne]; exact z2, by rw [p.2, if_neg ne]; exact z3⟩
  · intro w' hw'
    rw [n4] at hw'
    have q := partT_pw (S := S) (e := e) (w := w) (w' := w') (by omega) (by omega) (by omega)
    rw [n3, q.1, q.2]
    by_cases c : w' = w
    · rw [if_pos c, if_pos c]
      exact Or.inl ⟨rfl, rfl⟩
    · rw [if_neg c, if_neg c]
      rcases v.pw w' hw' with z | ⟨e', he', z1, z2⟩
      · exact Or.inl z
      · have p := partT_pe (S := S) (e := e) (w := w) (e' := e') (by omega) (by omega) (by omega)
        have ne : ¬ e' = e := fun d => by rw [d, pe] at z2; exact c ((nI_eq (by omega) (by omega)).mp z2).symm
        exact Or.inr ⟨e', he', z1, by rw [p.1, if_neg ne]; exact z2⟩
theorem YR.eq {S T : Row} {n : Nat} (y : YR S n) (e : T 10 = S 10) : YR T n := by obtain ⟨k, a, b⟩ := y; exact ⟨k, a, e.trans b⟩
