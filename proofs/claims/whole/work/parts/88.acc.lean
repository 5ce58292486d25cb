/-! ===== what the small methods read ===== -/
theorem li_1 : (1 : Int32) = nI 1 := rfl
theorem li_0 : (0 : Int32) = nI 0 := rfl
theorem hasEast_eq {h : aH} {a : Nat} (ha : a ∈ stL) (x : Int32) : f_X8_hasEast h a x = some (if x < 0 then 0 else if hI h a 3 ≤ x then 0 else 1, h) := by
  unfold f_X8_hasEast
  rw [qst0 ha]
  by_cases c1 : x < 0
  · rw [if_pos c1, if_pos c1]
  · rw [if_neg c1, if_neg c1]
    split <;> rfl
theorem hasWest_eq {h : aH} {a : Nat} (ha : a ∈ stL) (x : Int32) : f_X8_hasWest h a x = some (if x < 0 then 0 else if hI h a 4 ≤ x then 0 else 1, h) := by
  unfold f_X8_hasWest
  rw [qst0 ha]
  by_cases c1 : x < 0
  · rw [if_pos c1, if_pos c1]
  · rw [if_neg c1, if_neg c1]
    split <;> rfl
theorem isEast_eq {h : aH} (hS : Str h) (x : Int32) : f_X12_isEast h 308 x = some (if x < 0 then 0 else if hI h 318 3 ≤ x then 0 else 1, h) := by
  unfold f_X12_isEast
  have hi : aIn 3 (sh 318).2 := by rw [sh_318]; decide
  rw [q_308, r_308_20 hS, Option.bind_some, q_318, if_pos hi]
  have e : (3 : Int32).toNatClampNeg = 3 := by decide
  rw [e]
  by_cases c1 : x < 0
  · rw [if_pos c1, if_pos c1]
  · rw [if_neg c1, if_neg c1]
    split <;> rfl
theorem isWest_eq {h : aH} (hS : Str h) (x : Int32) : f_X12_isWest h 308 x = some (if x < 0 then 0 else if hI h 318 4 ≤ x then 0 else 1, h) := by
  unfold f_X12_isWest
  have hi : aIn 4 (sh 318).2 := by rw [sh_318]; decide
  rw [q_308, r_308_20 hS, Option.bind_some, q_318, if_pos hi]
  have e : (4 : Int32).toNatClampNeg = 4 := by decide
  rw [e]
  by_cases c1 : x < 0
  · rw [if_pos c1, if_pos c1]
  · rw [if_neg c1, if_neg c1]
    split <;> rfl
theorem in_eq {h : aH} (a b c : Int64) : f_X12_in h a b c = some (if b ≤ a ∧ a ≤ c then 1 else 0, h) := by
  unfold f_X12_in lg_cmp
  by_cases h1 : b ≤ a
  · have g1 : ¬ (if a > b then (1 : Int32) else if a = b then 0 else -1) < 0 := by
      by_cases q : a > b
      · rw [if_pos q]; decide
      · rw [if_neg q, if_pos (Int64.le_antisymm (Int64.not_lt.mp q) h1)]; decide
    rw [if_neg g1]
    by_cases h2 : a ≤ c
    · have g2 : ¬ 0 < (if a > c then (1 : Int32) else if a = c then 0 else -1) := by
        rw [if_neg (Int64.not_lt.mpr h2)]
        split <;> decide
      rw [if_neg g2, if_pos ⟨h1, h2⟩]
    · have g2 : 0 < (if a > c then (1 : Int32) else if a = c then 0 else -1) := by
        rw [if_pos (Int64.not_le.mp h2)]; decide
      rw [if_pos g2, if_neg (fun q => h2 q.2)]
  · have g1 : (if a > b then (1 : Int32) else if a = b then 0 else -1) < 0 := by
      have l1 := Int64.not_le.mp h1
      rw [if_neg (Int64.not_lt.mpr (Int64.le_of_lt l1)), if_neg (fun q => by rw [q] at l1; exact Int64.lt_irrefl l1)]; decide
    rw [if_pos g1, if_neg (fun q => h1 q.1)]
theorem wide_le (a b : Int32) : a.toInt64 ≤ b.toInt64 ↔ a ≤ b := by
  rw [Int64.le_iff_toInt_le, Int32.le_iff_toInt_le, Int32.toInt_toInt64, Int32.toInt_toInt64]
theorem in_i {h : aH} {b c : Int64} (x lo hi : Int32) (hb : b = lo.toInt64) (hc : c = hi.toInt64) : f_X12_in h x.toInt64 b c = some (if lo ≤ x ∧ x ≤ hi then 1 else 0, h) := by
  rw [in_eq, hb, hc]
  simp only [wide_le]
theorem ix8 {s p : Nat} (hs : s < 2) (hp : p < 4) : (nI s * 4) + nI p = nI (4 * s + p) := by
  have e4 : (4 : Int32) = nI 4 := rfl
  rw [e4, pk_mul, nI_add, Nat.mul_comm s 4]
theorem ix32 {s e w : Nat} : ((nI s * 16) + (nI e * 4)) + nI w = nI (16 * s + 4 * e + w) := by
  have e4 : (4 : Int32) = nI 4 := rfl
  have e16 : (16 : Int32) = nI 16 := rfl
  rw [e4, e16, pk_mul, pk_mul, nI_add, nI_add, Nat.mul_comm s 16, Nat.mul_comm e 4]
theorem purseOf_eq {h : aH} (hS : Str h) {a s p : Nat} (ha : a ∈ stL) (hs : s < 2) (hp : p < 4) : f_X8_purseOf h a (nI s) (nI p) = some (hI h (a + 1) (4 * s + p), h) := by
  unfold f_X8_purseOf
  have hi : aIn (nI (4 * s + p)) (sh (a + 1)).2 := by rw [(st_sh a ha).2.1]; exact vp_in_nI (by omega) (by decide)
  rw [qst0 ha, (hS.st ha).1, Option.bind_some, ix8 hs hp]
  simp only [aLet]
  rw [qst1 ha, if_pos hi, nI_clamp (by omega)]
theorem partnerOf_eq {h : aH} (hS : Str h) {a s p : Nat} (ha : a ∈ stL) (hs : s < 2) (hp : p < 4) : f_X8_partnerOf h a (nI s) (nI p) = some (hI h (a + 2) (4 * s + p), h) := by
  unfold f_X8_partnerOf
  have hi : aIn (nI (4 * s + p)) (sh (a + 2)).2 := by rw [(st_sh a ha).2.2.1]; exact vp_in_nI (by omega) (by decide)
  rw [qst0 ha, (hS.st ha).2.1, Option.bind_some, ix8 hs hp]
  simp only [aLet]
  rw [qst2 ha, if_pos hi, nI_clamp (by omega)]
theorem joiningsOf_eq {h : aH} (hS : Str h) {a s p : Nat} (ha : a ∈ stL) (hs : s < 2) (hp : p < 4) : f_X8_joiningsOf h a (nI s) (nI p) = some (hI h (a + 3) (4 * s + p), h) := by
  unfold f_X8_joiningsOf
  have hi : aIn (nI (4 * s + p)) (sh (a + 3)).2 := by rw [(st_sh a ha).2.2.2.1]; exact vp_in_nI (by omega) (by decide)
  rw [qst0 ha, (hS.st ha).2.2.1, Option.bind_some, ix8 hs hp]
  simp only [aLet]
  rw [qst3 ha, if_pos hi, nI_clamp (by omega)]
theorem like_eq {h : aH} (hS : Str h) {a s e w : Nat} (ha : a ∈ stL) (hs : s < 2) (he : e < 4) (hw : w < 4) : f_X8_like h a (nI s) (nI e) (nI w) = some (hI h (a + 5) (16 * s + 4 * e + w), h) := by
  unfold f_X8_like
  have hi : aIn (nI (16 * s + 4 * e + w)) (sh (a + 5)).2 := by rw [(st_sh a ha).2.2.2.2.2.1]; exact vp_in_nI (by omega) (by decide)
  rw [qst0 ha, (hS.st ha).2.2.2.2.1, Option.bind_some, ix32]
  simp only [aLet]
  rw [qst5 ha, if_pos hi, nI_clamp (by omega)]
theorem trueLike_eq {h : aH} (hS : Str h) {a s e w : Nat} (ha : a ∈ stL) (hs : s < 2) (he : e < 4) (hw : w < 4) : f_X8_trueLike h a (nI s) (nI e) (nI w) = some (hI h (a + 6) (16 * s + 4 * e + w), h) := by
  unfold f_X8_trueLike
  have hi : aIn (nI (16 * s + 4 * e + w)) (sh (a + 6)).2 := by rw [(st_sh a ha).2.2.2.2.2.2]; exact vp_in_nI (by omega) (by decide)
  rw [qst0 ha, (hS.st ha).2.2.2.2.2, Option.bind_some, ix32]
  simp only [aLet]
  rw [qst6 ha, if_pos hi, nI_clamp (by omega)]
theorem years_b {h : aH} (hS : Str h) {a e : Nat} (ha : a ∈ stL) (he : e < 4) : b_X8_yearsOf_14 h a (nI e) = some (hI h (a + 4) e, h) := by
  unfold b_X8_yearsOf_14
  have hi : aIn (nI e) (sh (a + 4)).2 := by rw [(st_sh a ha).2.2.2.2.1]; exact vp_in_nI he (by decide)
  rw [if_pos (nI_pos' (by omega)), qst0 ha, (hS.st ha).2.2.2.1, Option.bind_some, qst4 ha, if_pos hi, nI_clamp (by omega)]
theorem years_n {h : aH} {a : Nat} : b_X8_yearsOf_14 h a (-1) = some (0, h) := by
  unfold b_X8_yearsOf_14
  rw [if_neg (by decide)]
theorem personOf_eq {h : aH} (hS : Str h) {s p k : Nat} (hs : s < 2) (hp : p < 4) (hk : k < 4) : f_X12_personOf h 308 (nI s) (nI p) (nI k) = some (hI h 318 (11 + 16 * s + 4 * p + k), h) := by
  unfold f_X12_personOf f_X12_placeOf
  have e4 : (4 : Int32) = nI 4 := rfl
  have e16 : (16 : Int32) = nI 16 := rfl
  have e11 : (11 : Int32) = nI 11 := rfl
  have hi : aIn (nI (11 + 16 * s + 4 * p + k)) (sh 318).2 := by rw [sh_318]; exact vp_in_nI (by omega) (by decide)
  rw [q_308, r_308_20 hS, Option.bind_some, aBind_some, e4, e16, e11, pk_mul, pk_mul, nI_add, nI_add, nI_add]
  simp only [aLet]
  rw [q_318, if_pos hi, nI_clamp (by omega)]
theorem small4 {x n : Int32} (h0 : ¬ x < 0) (h1 : ¬ n ≤ x) (hn : n ≤ 4) : ∃ e : Nat, e < 4 ∧ x = nI e := by
  obtain ⟨e, he, rfl⟩ := nI_of h0
  have h2 := Int32.lt_of_lt_of_le (Int32.not_le.mp h1) hn
  have h3 : e < 4 := by
    have := (nI_ltI (a := e) (b := 4) he (by decide)).mp h2
    exact this
  exact ⟨e, h3, rfl⟩
theorem m19 : 19 ∈ stL := by decide
theorem purseOf_0 {h : aH} (hS : Str h) {a p : Nat} (ha : a ∈ stL) (hp : p < 4) : f_X8_purseOf h a 0 (nI p) = some (hI h (a + 1) (4 * 0 + p), h) := purseOf_eq hS (s := 0) ha (by decide) hp
theorem purseOf_1 {h : aH} (hS : Str h) {a p : Nat} (ha : a ∈ stL) (hp : p < 4) : f_X8_purseOf h a 1 (nI p) = some (hI h (a + 1) (4 * 1 + p), h) := purseOf_eq hS (s := 1) ha (by decide) hp
theorem partnerOf_0 {h : aH} (hS : Str h) {a p : Nat} (ha : a ∈ stL) (hp : p < 4) : f_X8_partnerOf h a 0 (nI p) = some (hI h (a + 2) (4 * 0 + p), h) := partnerOf_eq hS (s := 0) ha (by decide) hp
theorem partnerOf_1 {h : aH} (hS : Str h) {a p : Nat} (ha : a ∈ stL) (hp : p < 4) : f_X8_partnerOf h a 1 (nI p) = some (hI h (a + 2) (4 * 1 + p), h) := partnerOf_eq hS (s := 1) ha (by decide) hp
theorem joiningsOf_0 {h : aH} (hS : Str h) {a p : Nat} (ha : a ∈ stL) (hp : p < 4) : f_X8_joiningsOf h a 0 (nI p) = some (hI h (a + 3) (4 * 0 + p), h) := joiningsOf_eq hS (s := 0) ha (by decide) hp
theorem joiningsOf_1 {h : aH} (hS : Str h) {a p : Nat} (ha : a ∈ stL) (hp : p < 4) : f_X8_joiningsOf h a 1 (nI p) = some (hI h (a + 3) (4 * 1 + p), h) := joiningsOf_eq hS (s := 1) ha (by decide) hp
theorem like_0 {h : aH} (hS : Str h) {a e w : Nat} (ha : a ∈ stL) (he : e < 4) (hw : w < 4) : f_X8_like h a 0 (nI e) (nI w) = some (hI h (a + 5) (16 * 0 + 4 * e + w), h) := like_eq hS (s := 0) ha (by decide) he hw
theorem like_1 {h : aH} (hS : Str h) {a e w : Nat} (ha : a ∈ stL) (he : e < 4) (hw : w < 4) : f_X8_like h a 1 (nI e) (nI w) = some (hI h (a + 5) (16 * 1 + 4 * e + w), h) := like_eq hS (s := 1) ha (by decide) he hw
theorem trueLike_0 {h : aH} (hS : Str h) {a e w : Nat} (ha : a ∈ stL) (he : e < 4) (hw : w < 4) : f_X8_trueLike h a 0 (nI e) (nI w) = some (hI h (a + 6) (16 * 0 + 4 * e + w), h) := trueLike_eq hS (s := 0) ha (by decide) he hw
theorem trueLike_1 {h : aH} (hS : Str h) {a e w : Nat} (ha : a ∈ stL) (he : e < 4) (hw : w < 4) : f_X8_trueLike h a 1 (nI e) (nI w) = some (hI h (a + 6) (16 * 1 + 4 * e + w), h) := trueLike_eq hS (s := 1) ha (by decide) he hw
theorem personOf_0 {h : aH} (hS : Str h) {p k : Nat} (hp : p < 4) (hk : k < 4) : f_X12_personOf h 308 0 (nI p) (nI k) = some (hI h 318 (11 + 16 * 0 + 4 * p + k), h) := personOf_eq hS (s := 0) (by decide) hp hk
theorem personOf_1 {h : aH} (hS : Str h) {p k : Nat} (hp : p < 4) (hk : k < 4) : f_X12_personOf h 308 1 (nI p) (nI k) = some (hI h 318 (11 + 16 * 1 + 4 * p + k), h) := personOf_eq hS (s := 1) (by decide) hp hk
