/-! ===== the begin; notes ===== -/
def bgP (T : Row) (a b c : Nat) : Row := fun j =>
  if j = 10 then 0 else if 11 ≤ j ∧ j < 11 + 4 * a then (if (j - 11) % 4 = 0 then T (142 + (j - 11) / 4) else if (j - 11) % 4 = 1 then -1 else 0) else if 43 ≤ j ∧ j < 43 + b then T (110 + (j - 43)) else if 75 ≤ j ∧ j < 75 + c then T (150 + (j - 75)) else T j
theorem bgP_o {T : Row} {a b c j : Nat} (ha : a ≤ 8) (hb : b ≤ 32) (hc : c ≤ 3) (h : 78 ≤ j) : bgP T a b c j = T j := by
  unfold bgP
  rw [if_neg (by omega), if_neg (by omega), if_neg (by omega), if_neg (by omega)]
theorem bgP_0 (T : Row) : upd T 10 0 = bgP T 0 0 0 := by
  funext j
  unfold bgP
  by_cases q : j = 10
  · rw [q, upd_at, if_pos rfl]
  · rw [upd_ne _ _ q, if_neg q, if_neg (by omega), if_neg (by omega), if_neg (by omega)]
theorem bgP_a {T : Row} {a : Nat} (ha : a < 8) : upd (upd (upd (upd (bgP T a 0 0) (11 + 4 * a) (T (142 + a))) (11 + 4 * a + 1) (-1)) (11 + 4 * a + 2) 0) (11 + 4 * a + 3) 0 = bgP T (a + 1) 0 0 := by
  funext j
  by_cases q3 : j = 11 + 4 * a + 3
  · rw [q3, upd_at]; unfold bgP
    rw [if_neg (by omega), if_pos (by omega), if_neg (by omega), if_neg (by omega)]
  rw [upd_ne _ _ q3]
  by_cases q2 : j = 11 + 4 * a + 2
  · rw [q2, upd_at]; unfold bgP
    rw [if_neg (by omega), if_pos (by omega), if_neg (by omega), if_neg (by omega)]
  rw [upd_ne _ _ q2]
  by_cases q1 : j = 11 + 4 * a + 1
  · rw [q1, upd_at]; unfold bgP
    rw [if_neg (by omega), if_pos (by omega), if_neg (by omega), if_pos (by omega)]
  rw [upd_ne _ _ q1]
  by_cases q0 : j = 11 + 4 * a
  · rw [q0, upd_at]; unfold bgP
    rw [if_neg (by omega), if_pos (by omega), if_pos (by omega), show (11 + 4 * a - 11) / 4 = a by omega]
  rw [upd_ne _ _ q0]
  unfold bgP
  by_cases z : j = 10
  · rw [if_pos z, if_pos z]
  rw [if_neg z, if_neg z]
  by_cases y : 11 ≤ j ∧ j < 11 + 4 * a
  · rw [if_pos y, if_pos (show 11 ≤ j ∧ j < 11 + 4 * (a + 1) by omega)]
  · rw [if_neg y, if_neg (show ¬ (11 ≤ j ∧ j < 11 + 4 * (a + 1)) by omega)]
theorem bgP_b {T : Row} {b : Nat} (hb : b < 32) : upd (bgP T 8 b 0) (43 + b) (T (110 + b)) = bgP T 8 (b + 1) 0 := by
  funext j
  by_cases q : j = 43 + b
  · rw [q, upd_at]; unfold bgP
    rw [if_neg (by omega), if_neg (by omega), if_pos (by omega), show 43 + b - 43 = b by omega]
  rw [upd_ne _ _ q]
  unfold bgP
  by_cases z : j = 10
  · rw [if_pos z, if_pos z]
  rw [if_neg z, if_neg z]
  by_cases y : 11 ≤ j ∧ j < 11 + 4 * 8
  · rw [if_pos y, if_pos y]
  rw [if_neg y, if_neg y]
  by_cases w : 43 ≤ j ∧ j < 43 + b
  · rw [if_pos w, if_pos (show 43 ≤ j ∧ j < 43 + (b + 1) by omega)]
  · rw [if_neg w, if_neg (show ¬ (43 ≤ j ∧ j < 43 + (b + 1)) by omega)]
theorem bgP_c {T : Row} {c : Nat} (hc : c < 3) : upd (bgP T 8 32 c) (75 + c) (T (150 + c)) = bgP T 8 32 (c + 1) := by
  funext j
  by_cases q : j = 75 + c
  · rw [q, upd_at]; unfold bgP
    rw [if_neg (by omega), if_neg (by omega), if_neg (by omega), if_pos (by omega), show 75 + c - 75 = c by omega]
  rw [upd_ne _ _ q]
  unfold bgP
  by_cases z : j = 10
  · rw [if_pos z, if_pos z]
  rw [if_neg z, if_neg z]
  by_cases y : 11 ≤ j ∧ j < 11 + 4 * 8
  · rw [if_pos y, if_pos y]
  rw [if_neg y, if_neg y]
  by_cases w : 43 ≤ j ∧ j < 43 + 32
  · rw [if_pos w, if_pos w]
  rw [if_neg w, if_neg w]
  by_cases u : 75 ≤ j ∧ j < 75 + c
  · rw [if_pos u, if_pos (show 75 ≤ j ∧ j < 75 + (c + 1) by omega)]
  · rw [if_neg u, if_neg (show ¬ (75 ≤ j ∧ j < 75 + (c + 1)) by omega)]
theorem bgP_all (T : Row) : bgP T 8 32 3 = beginOf T := rfl
theorem i11 (k : Nat) : (11 : Int32) + 4 * nI k = nI (11 + 4 * k) := by
  rw [show (11 : Int32) = nI 11 from rfl, show (4 : Int32) = nI 4 from rfl, pk_mul, nI_add]
theorem i142 (k : Nat) : (142 : Int32) + nI k = nI (142 + k) := nI_add 142 k
theorem i110 (k : Nat) : (110 : Int32) + nI k = nI (110 + k) := nI_add 110 k
theorem i150 (k : Nat) : (150 : Int32) + nI k = nI (150 + k) := nI_add 150 k
theorem i75 (k : Nat) : (75 : Int32) + nI k = nI (75 + k) := nI_add 75 k
theorem begins_c {h : aH} (hS : Str h) (T : Row) : f_X12_begins_106 2000 (wI h 318 (bgP T 8 32 0)) 308 0 = some ((), wI h 318 (beginOf T)) := by
  refine itLoop (σ := aH × Int32) (fun m s => f_X12_begins_106 m s.1 308 s.2) (fun i s => s = (wI h 318 (bgP T 8 32 i), nI i)) (fun o => o = some ((), wI h 318 (beginOf T))) 3 ?_ ?_ 2000 0 (_, 0) rfl (by omega) (by omega)
  · rintro m i _ hi rfl
    refine Or.inr ⟨_, rfl, ?_⟩
    show b_X12_begins_106 (f_X12_begins_106 m) _ 308 (nI i) = _
    have c : ¬ (3 : Int32) ≤ nI i := nI_ge (b := 3) hi (by decide)
    have rd : bgP T 8 32 i (150 + i) = T (150 + i) := bgP_o (by omega) (by omega) (by omega) (by omega)
    simp only [b_X12_begins_106, if_neg c, q_308, hR_wI, r_308_20 hS, Option.bind_some, aLet, i150, i75, q_318, if_pos (in318 (show 150 + i < 184 by omega)), if_pos (in318 (show 75 + i < 184 by omega)), nI_clamp (show 150 + i < 2 ^ 31 by omega), nI_clamp (show 75 + i < 2 ^ 31 by omega), hI_wI_eq, rd, pI_wI, bgP_c hi, i1]
  · rintro m _ rfl
    show b_X12_begins_106 (f_X12_begins_106 m) _ 308 (nI 3) = _
    simp only [b_X12_begins_106, if_pos (show (3 : Int32) ≤ nI 3 by decide), bgP_all]
theorem begins_b {h : aH} (hS : Str h) (T : Row) : f_X12_begins_74 2000 (wI h 318 (bgP T 8 0 0)) 308 0 = some ((), wI h 318 (beginOf T)) := by
  refine itLoop (σ := aH × Int32) (fun m s => f_X12_begins_74 m s.1 308 s.2) (fun i s => s = (wI h 318 (bgP T 8 i 0), nI i)) (fun o => o = some ((), wI h 318 (beginOf T))) 32 ?_ ?_ 2000 0 (_, 0) rfl (by omega) (by omega)
  · rintro m i _ hi rfl
    refine Or.inr ⟨_, rfl, ?_⟩
    show b_X12_begins_74 (f_X12_begins_74 m) _ 308 (nI i) = _
    have c : ¬ (32 : Int32) ≤ nI i := nI_ge (b := 32) hi (by decide)
    have rd : bgP T 8 i 0 (110 + i) = T (110 + i) := bgP_o (by omega) (by omega) (by omega) (by omega)
    simp only [b_X12_begins_74, if_neg c, q_308, hR_wI, r_308_20 hS, Option.bind_some, aLet, i110, i43, q_318, if_pos (in318 (show 110 + i < 184 by omega)), if_pos (in318 (show 43 + i < 184 by omega)), nI_clamp (show 110 + i < 2 ^ 31 by omega), nI_clamp (show 43 + i < 2 ^ 31 by omega), hI_wI_eq, rd, pI_wI, bgP_b hi, i1]
  · rintro m _ rfl
    show b_X12_begins_74 (f_X12_begins_74 m) _ 308 (nI 32) = _
    simp only [b_X12_begins_74, if_pos (show (32 : Int32) ≤ nI 32 by decide)]
    exact begins_c hS T
theorem begins_a {h : aH} (hS : Str h) (T : Row) : f_X12_begins_10 2000 (wI h 318 (bgP T 0 0 0)) 308 0 = some ((), wI h 318 (beginOf T)) := by
  refine itLoop (σ := aH × Int32) (fun m s => f_X12_begins_10 m s.1 308 s.2) (fun i s => s = (wI h 318 (bgP T i 0 0), nI i)) (fun o => o = some ((), wI h 318 (beginOf T))) 8 ?_ ?_ 2000 0 (_, 0) rfl (by omega) (by omega)
  · rintro m i _ hi rfl
    refine Or.inr ⟨_, rfl, ?_⟩
    show b_X12_begins_10 (f_X12_begins_10 m) _ 308 (nI i) = _
    have c : ¬ (8 : Int32) ≤ nI i := nI_ge (b := 8) hi (by decide)
    have rd : bgP T i 0 0 (142 + i) = T (142 + i) := bgP_o (by omega) (by omega) (by omega) (by omega)
    simp only [b_X12_begins_10, if_neg c, q_308, hR_wI, hR_pI, r_308_20 hS, Option.bind_some, aLet, i142, i11, i2, i3, q_318, if_pos (in318 (show 142 + i < 184 by omega)), if_pos (in318 (show 11 + 4 * i < 184 by omega)), if_pos (in318 (show 11 + 4 * i + 1 < 184 by omega)), if_pos (in318 (show 11 + 4 * i + 2 < 184 by omega)), if_pos (in318 (show 11 + 4 * i + 3 < 184 by omega)), nI_clamp (show 142 + i < 2 ^ 31 by omega), nI_clamp (show 11 + 4 * i < 2 ^ 31 by omega), nI_clamp (show 11 + 4 * i + 1 < 2 ^ 31 by omega), nI_clamp (show 11 + 4 * i + 2 < 2 ^ 31 by omega), nI_clamp (show 11 + 4 * i + 3 < 2 ^ 31 by omega), hI_wI_eq, rd, pI_wI, bgP_a hi, i1]
  · rintro m _ rfl
    show b_X12_begins_10 (f_X12_begins_10 m) _ 308 (nI 8) = _
    simp only [b_X12_begins_10, if_pos (show (8 : Int32) ≤ nI 8 by decide)]
    exact begins_b hS T
theorem begins_eq {h : aH} (hS : Str h) : f_X12_begins h 308 = some ((), wI h 318 (beginOf (hI h 318))) := by
  have a := begins_a hS (hI h 318)
  rw [← bgP_0] at a
  simp only [f_X12_begins, q_308, r_308_20 hS, Option.bind_some, q_318, if_pos in10, cl10, aLet, pI_d]
  exact a
theorem VS.begin {S : Row} (v : VS S) (t : VT S) : VS (beginOf S) := by
  have v3 := v.e3.2
  have v4 := v.e4.2
  have n3 : nE (beginOf S) = nE S := rfl
  have n4 : nW (beginOf S) = nW S := rfl
  obtain ⟨a, b, c, d, _, g, p, q⟩ := v
  obtain ⟨⟨t1, t2, t3⟩, t4⟩ := t
  have b0 : ∀ j, 11 ≤ j → j < 43 → beginOf S j = (if (j - 11) % 4 = 0 then S (142 + (j - 11) / 4) else if (j - 11) % 4 = 1 then -1 else 0) := fun j h1 h2 => by
    unfold beginOf; rw [if_neg (by omega), if_pos (by omega)]
  refine ⟨a, b, c, d, ⟨t1, t2, t3⟩, fun k hk => ⟨?_, ?_⟩, fun e he => Or.inl ⟨?_, ?_⟩, fun w hw => Or.inl ⟨?_, ?_⟩⟩
  · have e : beginOf S (43 + k) = S (110 + k) := by unfold beginOf; rw [if_neg (by omega), if_neg (by omega), if_pos (by omega), show 43 + k - 43 = k by omega]
    rw [e]; exact t4 k hk
  · have e : beginOf S (78 + k) = S (78 + k) := by unfold beginOf; rw [if_neg (by omega), if_neg (by omega), if_neg (by omega), if_neg (by omega)]
    rw [e]; exact (g k hk).2
  · rw [n3] at he
    rw [b0 _ (by omega) (by omega), if_neg (by omega), if_pos (by omega)]
  · rw [n3] at he
    rw [b0 _ (by omega) (by omega), if_neg (by omega), if_neg (by omega)]
  · rw [n4] at hw
    rw [b0 _ (by omega) (by omega), if_neg (by omega), if_pos (by omega)]
  · rw [n4] at hw
    rw [b0 _ (by omega) (by omega), if_neg (by omega), if_neg (by omega)]
theorem YR.begin (S : Row) : YR (beginOf S) 0 := ⟨0, Nat.le_refl _, rfl⟩
theorem beginOf_hi {S : Row} {j : Nat} (h : 78 ≤ j) : beginOf S j = S j := by
  unfold beginOf; rw [if_neg (by omega), if_neg (by omega), if_neg (by omega), if_neg (by omega)]
theorem beginOf_lo {S : Row} {j : Nat} (h : j < 10) : beginOf S j = S j := by
  unfold beginOf; rw [if_neg (by omega), if_neg (by omega), if_neg (by omega), if_neg (by omega)]
/-! notes -/
def eOf (S : Row) (c : Nat) : Nat := (S (154 + 3 * c)).toNatClampNeg
def nOf (S : Row) (c : Nat) : Nat := (S (153 + 3 * c)).toNatClampNeg
/-- whether the notes from c on are so behind the n-th fair -/
def ntB (S T : Row) (n : Int32) : Nat → Nat → Bool
  | 0, _ => true
  | k + 1, c => if S (153 + 3 * c) = n ∧ ¬ T (12 + 4 * eOf S c) = S (155 + 3 * c) then false else ntB S T n k (c + 1)
def NtB (S : Row) (m : Nat) : Prop := S 183 = nI m ∧ m ≤ 10 ∧ ∀ c, c < m → S (153 + 3 * c) = nI (nOf S c) ∧ nOf S c ≤ 30 ∧ S (154 + 3 * c) = nI (eOf S c) ∧ eOf S c < 4
def NtC (h : aH) (S : Row) (m : Nat) : Prop := hI h 11 5 = nI m ∧ ∀ c, c < m → hI h 26 c = S (153 + 3 * c) ∧ hI h 27 c = S (154 + 3 * c) ∧ hI h 28 c = S (155 + 3 * c)
theorem NtB.of {S T : Row} {m : Nat} (b : NtB S m) (e : ∀ j, 78 ≤ j → T j = S j) : NtB T m := by
  obtain ⟨b1, b2, b3⟩ := b
  refine ⟨by rw [e _ (by decide)]; exact b1, b2, fun c hc => ?_⟩
  unfold nOf eOf
  rw [e _ (by omega), e _ (by omega)]
  exact b3 c hc
theorem ntB_of {S S' T : Row} (e : ∀ j, 78 ≤ j → S' j = S j) (n : Int32) : ∀ k c, ntB S' T n k c = ntB S T n k c := by
  intro k
  induction k with
  | zero => intro c; rfl
  | succ k ih =>
    intro c
    have e1 : eOf S' c = eOf S c := by unfold eOf; rw [e _ (by omega)]
    rw [ntB, ntB, ih (c + 1), e1, e _ (by omega), e _ (by omega)]
theorem NtC.of {h : aH} {S T : Row} {m : Nat} (b : NtC h S m) (e : ∀ j, 78 ≤ j → T j = S j) : NtC h T m := by
  obtain ⟨b1, b3⟩ := b
  refine ⟨b1, fun c hc => ?_⟩
  rw [e _ (by omega), e _ (by omega), e _ (by omega)]
  exact b3 c hc
theorem Inv.nt {h : aH} (hV : Inv h) : ∃ m, NtB (hI h 318) m ∧ NtC h (hI h 318) m := by
  obtain ⟨m, hm, em⟩ := btw_nI hV.2.2.2.1.2.2.2.2.1 (m := 10) (by decide)
  have v : VS (hI h 318) := hV.2.2.2.1.2.1.1
  have v3 := v.e3
  have nt := hV.2.2.2.1.2.2.2.2.2.2.2.2
  have e5 := hV.2.2.2.1.2.2.2.1
  refine ⟨m, ⟨em, hm, fun c hc => ?_⟩, e5.trans em, fun c hc => ?_⟩
  · obtain ⟨a1, a2, a3, a4, a5⟩ := nt c (by omega) (by rw [em]; exact nI_lt hc (by omega))
    obtain ⟨n, hn, en⟩ := btw_nI a4 (m := 30) (by decide)
    obtain ⟨e, he, ee⟩ := nI_of (Int32.not_lt.mpr a5.1)
    have a5' := a5.2
    rw [ee, v3.1] at a5'
    have he4 := (nI_ltI he (by omega)).mp a5'
    unfold nOf eOf
    rw [en, ee, nI_clamp (by omega), nI_clamp he]
    exact ⟨rfl, hn, rfl, by omega⟩
  · obtain ⟨a1, a2, a3, a4, a5⟩ := nt c (by omega) (by rw [em]; exact nI_lt hc (by omega))
    exact ⟨a1, a2, a3⟩
theorem notesC {h : aH} (hS : Str h) {S T : Row} {m : Nat} (b : NtB S m) (c : NtC h S m) {a : Nat} (ha : a ∈ stL) (r : RSt h a T) (n : Int32) : f_X10_notesAreSo h 11 a n = some (bB (ntB S T n m 0), h) := by
  obtain ⟨b1, b2, b3⟩ := b
  refine itLoop (σ := Int32) (fun k s => f_X10_notesAreSo_2 k h 11 a n s) (fun i s => s = nI i ∧ ntB S T n (m - i) i = ntB S T n m 0) (fun o => o = some (bB (ntB S T n m 0), h)) m ?_ ?_ 2000 0 0 ⟨rfl, rfl⟩ (by omega) (by omega)
  · rintro k i _ hi ⟨rfl, e⟩
    have q : ¬ nI m ≤ nI i := nI_ge hi (by omega)
    obtain ⟨c1, c2, c3⟩ := c.2 i hi
    obtain ⟨d1, d2, d3, d4⟩ := b3 i hi
    have pn := partnerS0 hS ha r d4
    rw [← d3] at pn
    rw [show m - i = (m - (i + 1)) + 1 by omega, ntB] at e
    have hd : f_X10_notesAreSo_2 (k + 1) h 11 a n (nI i) = if S (153 + 3 * i) = n then (if T (12 + 4 * eOf S i) = S (155 + 3 * i) then f_X10_notesAreSo_2 k h 11 a n (nI (i + 1)) else some (0, h)) else f_X10_notesAreSo_2 k h 11 a n (nI (i + 1)) := by
      show b_X10_notesAreSo_2 (f_X10_notesAreSo_2 k) h 11 a n (nI i) = _
      simp only [b_X10_notesAreSo_2, q_11, c.1, if_neg q, r_11_2 hS, r_11_3 hS, r_11_4 hS, Option.bind_some, q_26, q_27, q_28, if_pos (in26 (show i < 10 by omega)), if_pos (in27 (show i < 10 by omega)), if_pos (in28 (show i < 10 by omega)), nI_clamp (show i < 2 ^ 31 by omega), c1, c2, c3, qst0 ha, pn, aBind_some, b_X10_notesAreSo_42, i1]
    by_cases z : S (153 + 3 * i) = n
    · by_cases y : T (12 + 4 * eOf S i) = S (155 + 3 * i)
      · rw [if_neg (fun x => x.2 y)] at e
        rw [if_pos z, if_pos y] at hd
        exact Or.inr ⟨_, ⟨rfl, e⟩, hd⟩
      · rw [if_pos ⟨z, y⟩] at e
        rw [if_pos z, if_neg y] at hd
        refine Or.inl ?_
        rw [← e]
        exact hd
    · rw [if_neg (fun x => z x.1)] at e
      rw [if_neg z] at hd
      exact Or.inr ⟨_, ⟨rfl, e⟩, hd⟩
  · rintro k _ ⟨rfl, e⟩
    rw [Nat.sub_self, ntB] at e
    rw [← e]
    show b_X10_notesAreSo_2 (f_X10_notesAreSo_2 k) h 11 a n (nI m) = _
    simp only [b_X10_notesAreSo_2, q_11, c.1, if_pos (Int32.le_refl (nI m))]
    rfl
theorem i3m (m : Nat) : (3 : Int32) * nI m = nI (3 * m) := by rw [show (3 : Int32) = nI 3 from rfl, pk_mul]
theorem i153' (k : Nat) : (153 : Int32) + nI k = nI (153 + k) := nI_add 153 k
theorem notesR {h : aH} (hS : Str h) {T : Row} {m : Nat} (b : NtB T m) (eS : hI h 318 = T) (n : Int32) : f_X12_areNotesSo h 308 n = some (bB (ntB T T n m 0), h) := by
  obtain ⟨b1, b2, b3⟩ := b
  refine itLoop (σ := Int32) (fun k s => f_X12_areNotesSo_2 k h 308 n s) (fun i s => s = nI (3 * i) ∧ ntB T T n (m - i) i = ntB T T n m 0) (fun o => o = some (bB (ntB T T n m 0), h)) m ?_ ?_ 2000 0 0 ⟨rfl, rfl⟩ (by omega) (by omega)
  · rintro k i _ hi ⟨rfl, e⟩
    have q : ¬ nI (3 * m) ≤ nI (3 * i) := nI_ge (by omega) (by omega)
    obtain ⟨d1, d2, d3, d4⟩ := b3 i hi
    have pn := withR0 hS d4
    rw [eS, ← d3] at pn
    rw [show m - i = (m - (i + 1)) + 1 by omega, ntB] at e
    have hd : f_X12_areNotesSo_2 (k + 1) h 308 n (nI (3 * i)) = if T (153 + 3 * i) = n then (if T (12 + 4 * eOf T i) = T (155 + 3 * i) then f_X12_areNotesSo_2 k h 308 n (nI (3 * (i + 1))) else some (0, h)) else f_X12_areNotesSo_2 k h 308 n (nI (3 * (i + 1))) := by
      show b_X12_areNotesSo_2 (f_X12_areNotesSo_2 k) h 308 n (nI (3 * i)) = _
      have a1 : 153 + 3 * i + 1 = 154 + 3 * i := by omega
      have a2 : 153 + 3 * i + 2 = 155 + 3 * i := by omega
      have a3 : 3 * i + 3 = 3 * (i + 1) := by omega
      simp only [b_X12_areNotesSo_2, q_308, r_308_20 hS, Option.bind_some, q_318, if_pos in183, cl183, eS, b1, i3m, if_neg q, aLet, i153', i1, i2, a1, a2, if_pos (in318 (show 153 + 3 * i < 184 by omega)), if_pos (in318 (show 154 + 3 * i < 184 by omega)), if_pos (in318 (show 155 + 3 * i < 184 by omega)), nI_clamp (show 153 + 3 * i < 2 ^ 31 by omega), nI_clamp (show 154 + 3 * i < 2 ^ 31 by omega), nI_clamp (show 155 + 3 * i < 2 ^ 31 by omega), pn, aBind_some, b_X12_areNotesSo_65, i3, a3]
    by_cases z : T (153 + 3 * i) = n
    · by_cases y : T (12 + 4 * eOf T i) = T (155 + 3 * i)
      · rw [if_neg (fun x => x.2 y)] at e
        rw [if_pos z, if_pos y] at hd
        exact Or.inr ⟨_, ⟨rfl, e⟩, hd⟩
      · rw [if_pos ⟨z, y⟩] at e
        rw [if_pos z, if_neg y] at hd
        refine Or.inl ?_
        rw [← e]
        exact hd
    · rw [if_neg (fun x => z x.1)] at e
      rw [if_neg z] at hd
      exact Or.inr ⟨_, ⟨rfl, e⟩, hd⟩
  · rintro k _ ⟨rfl, e⟩
    rw [Nat.sub_self, ntB] at e
    rw [← e]
    show b_X12_areNotesSo_2 (f_X12_areNotesSo_2 k) h 308 n (nI (3 * m)) = _
    simp only [b_X12_areNotesSo_2, q_308, r_308_20 hS, Option.bind_some, q_318, if_pos in183, cl183, eS, b1, i3m, if_pos (Int32.le_refl (nI (3 * m)))]
    rfl
/-- how many fairs till the last note -/
def fT (S : Row) : Nat → Nat
  | 0 => 0
  | c + 1 => if fT S c < nOf S c + 1 then nOf S c + 1 else fT S c
theorem fT_le {S : Row} {m : Nat} (b : NtB S m) : ∀ c, c ≤ m → fT S c ≤ 31 := by
  intro c
  induction c with
  | zero => intro _; exact Nat.zero_le _
  | succ c ih =>
    intro hc
    have := (b.2.2 c (by omega)).2.1
    rw [fT]
    split
    · omega
    · exact ih (by omega)
theorem fT_ge {S : Row} : ∀ c i, i < c → nOf S i < fT S c := by
  intro c
  induction c with
  | zero => intro i hi; omega
  | succ c ih =>
    intro i hi
    rw [fT]
    rcases Nat.lt_or_ge i c with q | q
    · have := ih i q
      split <;> omega
    · have : i = c := by omega
      subst this
      split <;> omega
theorem fairsTo_eq {h : aH} (hS : Str h) {S : Row} {m : Nat} (b : NtB S m) (c : NtC h S m) : f_X10_fairsToNotes h 11 = some (nI (fT S m), h) := by
  refine itLoop (σ := Int32 × Int32) (fun k s => f_X10_fairsToNotes_4 k h 11 s.1 s.2) (fun i s => s = (nI (fT S i), nI i)) (fun o => o = some (nI (fT S m), h)) m ?_ ?_ 2000 0 (0, 0) rfl (by omega) (by have := b.2.1; omega)
  · rintro k i _ hi rfl
    have hm := b.2.1
    have q : ¬ nI m ≤ nI i := nI_ge hi (by omega)
    obtain ⟨c1, c2, c3⟩ := c.2 i hi
    obtain ⟨d1, d2, d3, d4⟩ := b.2.2 i hi
    have l := fT_le b i (by omega)
    refine Or.inr ⟨_, rfl, ?_⟩
    show b_X10_fairsToNotes_4 (f_X10_fairsToNotes_4 k) h 11 (nI (fT S i)) (nI i) = f_X10_fairsToNotes_4 k h 11 (nI (fT S (i + 1))) (nI (i + 1))
    simp only [b_X10_fairsToNotes_4, q_11, c.1, if_neg q, r_11_2 hS, Option.bind_some, q_26, if_pos (in26 (show i < 10 by omega)), nI_clamp (show i < 2 ^ 31 by omega), c1, d1, aLet, i1, fT]
    by_cases z : fT S i < nOf S i + 1
    · rw [if_pos (nI_lt z (by omega)), if_pos z]
    · rw [if_neg (nI_nlt (by omega) (by omega)), if_neg z]
  · rintro k _ rfl
    show b_X10_fairsToNotes_4 (f_X10_fairsToNotes_4 k) h 11 (nI (fT S m)) (nI m) = _
    simp only [b_X10_fairsToNotes_4, q_11, c.1, if_pos (Int32.le_refl (nI m))]
