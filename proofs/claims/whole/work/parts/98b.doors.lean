/-! ===== doors ===== -/
def gn (S : Row) (o e w : Nat) (own other : Int32) : Int32 := if own = 1 then (if other = 0 then S 2 else S 2 / 2) else if other = 1 then S 1 / 2 - 10 else S (o + 4 * e + w) - S (13 + 4 * e)
theorem doorV0 {h : aH} (hS : Str h) {S : Row} (r : RSt h 19 S) {e w : Nat} (he : e < 4) (hw : w < 4) (pe : S (12 + 4 * e) = nI w) (own other : Int32) : f_X11_doorValue h 0 0 (nI e) own other = some (gn S 43 e w own other, h) := by
  have st := (hS.st m19).2.2.2.1
  have pn := partnerS0 hS m19 r he
  rw [pe] at pn
  simp only [f_X11_doorValue, q_0, r_0_5 hS, r_11_1 hS, Option.bind_some, q_11, qst0 m19, r.s2, r.s1, pn, aBind_some, if_pos (nI_pos' (show w < 2 ^ 31 by omega)), likeS0 hS m19 r he hw, st, qst4 m19, if_pos (inst4 m19 he), nI_clamp (show e < 2 ^ 31 by omega), r.ye he]
  unfold gn
  by_cases c1 : own = 1
  · simp only [if_pos c1]; split <;> rfl
  · simp only [if_neg c1]; split <;> rfl
theorem doorV1 {h : aH} (hS : Str h) {S : Row} (r : RSt h 19 S) {e w : Nat} (he : e < 4) (hw : w < 4) (pe : S (12 + 4 * e) = nI w) (own other : Int32) : f_X11_doorValue h 0 1 (nI e) own other = some (gn S 59 e w own other, h) := by
  have st := (hS.st m19).2.2.2.1
  have pn := partnerS0 hS m19 r he
  rw [pe] at pn
  simp only [f_X11_doorValue, q_0, r_0_5 hS, r_11_1 hS, Option.bind_some, q_11, qst0 m19, r.s2, r.s1, pn, aBind_some, if_pos (nI_pos' (show w < 2 ^ 31 by omega)), likeS1 hS m19 r he hw, st, qst4 m19, if_pos (inst4 m19 he), nI_clamp (show e < 2 ^ 31 by omega), r.ye he]
  unfold gn
  by_cases c1 : own = 1
  · simp only [if_pos c1]; split <;> rfl
  · simp only [if_neg c1]; split <;> rfl
theorem gn_o {S : Row} {o e w : Nat} {own other : Int32} (hb : other = 0 ∨ other = 1) : gn S o e w own other = (if own = 1 then (if other = 1 then S 2 / 2 else S 2) else if other = 1 then S 1 / 2 - 10 else S (o + 4 * e + w) - S (13 + 4 * e)) := by
  unfold gn
  rcases hb with rfl | rfl
  · rfl
  · rfl
theorem gainR0 {h : aH} (hS : Str h) {S : Row} (eS : hI h 318 = S) {e w : Nat} (he : e < 4) (hw : w < 4) (pe : S (12 + 4 * e) = nI w) (own : Int32) {other : Int32} (hb : other = 0 ∨ other = 1) : f_X12_gainBy h 308 0 (nI e) own other = some (gn S 43 e w own other, h) := by
  have p1 := withR0 hS he
  have p2 : f_X12_personOf h 308 0 (nI e) 2 = some (hI h 318 (13 + 4 * e), h) := personR0 hS (k := 2) he (by decide)
  have lk := likesOf0 hS he hw
  rw [eS, pe] at p1
  rw [eS] at p2 lk
  rw [gn_o hb]
  simp only [f_X12_gainBy, q_308, r_308_20 hS, Option.bind_some, q_318, if_pos in1, if_pos in2, cl1, cl2, eS, p1, p2, lk, aBind_some]
  by_cases c1 : own = 1
  · simp only [if_pos c1]; split <;> rfl
  · simp only [if_neg c1]; split <;> rfl
theorem gainR1 {h : aH} (hS : Str h) {S : Row} (eS : hI h 318 = S) {e w : Nat} (he : e < 4) (hw : w < 4) (pw : S (28 + 4 * w) = nI e) (py : S (29 + 4 * w) = S (13 + 4 * e)) (own : Int32) {other : Int32} (hb : other = 0 ∨ other = 1) : f_X12_gainBy h 308 1 (nI w) own other = some (gn S 59 e w own other, h) := by
  have p1 := withR1 hS hw
  have p2 : f_X12_personOf h 308 1 (nI w) 2 = some (hI h 318 (29 + 4 * w), h) := personR1 hS (k := 2) hw (by decide)
  have lk := likesOf1 hS he hw
  rw [eS, pw] at p1
  rw [eS, py] at p2
  rw [eS] at lk
  rw [gn_o hb]
  simp only [f_X12_gainBy, q_308, r_308_20 hS, Option.bind_some, q_318, if_pos in1, if_pos in2, cl1, cl2, eS, p1, p2, lk, aBind_some]
  by_cases c1 : own = 1
  · simp only [if_pos c1]; split <;> rfl
  · simp only [if_neg c1]; split <;> rfl
def nchB (S : Row) (e w : Nat) (a b : Int32) : Bool := decide (¬ gn S 43 e w a b < gn S 43 e w (1 - a) b) && decide (¬ gn S 59 e w b a < gn S 59 e w (1 - b) a)
def stC (p : Int32 × Int32) (b : Bool) (d : Int32) : Int32 × Int32 := if b = true then (p.1 + 1, d) else p
def stR (p : Int32 × Int32) (b : Bool) (d : Int32) : Int32 × Int32 := if b = true then (p.1 + 1, if p.1 = 0 then d else p.2) else p
theorem doors_d : ∀ b0 b1 b2 b3 : Bool, stC (stC (stC (stC (0, -2) b3 3) b2 2) b1 1) b0 0 = stR (stR (stR (stR (0, -2) b0 0) b1 1) b2 2) b3 3 := by decide
theorem nwc_eq {h : aH} (hS : Str h) {S : Row} (r : RSt h 19 S) {e w : Nat} (he : e < 4) (hw : w < 4) (pe : S (12 + 4 * e) = nI w) (a b : Int32) : f_X11_neitherWouldChange h 0 (nI e) a b = some (bB (nchB S e w a b), h) := by
  simp only [f_X11_neitherWouldChange, q_0, doorV0 hS r he hw pe, doorV1 hS r he hw pe, aBind_some]
  unfold nchB
  by_cases c1 : gn S 43 e w a b < gn S 43 e w (1 - a) b
  · rw [if_pos c1, decide_eq_false (fun q => q c1)]; rfl
  · rw [if_neg c1, decide_eq_true c1]
    by_cases c2 : gn S 59 e w b a < gn S 59 e w (1 - b) a
    · rw [if_pos c2, decide_eq_false (fun q => q c2)]; rfl
    · rw [if_neg c2, decide_eq_true c2]; rfl
theorem doorC_s {h : aH} (hS : Str h) {S : Row} (r : RSt h 19 S) {e w : Nat} (he : e < 4) (hw : w < 4) (pe : S (12 + 4 * e) = nI w) (x2 : Int32) (p : Int32 × Int32) {d a b d' : Int32} (h0 : ¬ d < 0) (ha : d >>> (1 &&& 31) = a) (hb : d &&& 1 = b) (hd : d + (-1) = d') (n : Nat) : f_X11_doors_34 (n + 1) h 0 (nI e) x2 p.1 p.2 d = f_X11_doors_34 n h 0 (nI e) x2 (stC p (nchB S e w a b) d).1 (stC p (nchB S e w a b) d).2 d' := by
  show b_X11_doors_34 (f_X11_doors_34 n) h 0 (nI e) x2 p.1 p.2 d = _
  simp only [b_X11_doors_34, if_neg h0, q_0, ha, hb, nwc_eq hS r he hw pe, aBind_some, bB_0, b_X11_doors_62, hd]
  unfold stC
  cases nchB S e w a b with
  | true => rfl
  | false => rfl
theorem doorR_s {h : aH} (hS : Str h) {S : Row} (eS : hI h 318 = S) {e w : Nat} (he : e < 4) (hw : w < 4) (pe : S (12 + 4 * e) = nI w) (pw : S (28 + 4 * w) = nI e) (py : S (29 + 4 * w) = S (13 + 4 * e)) (x2 : Int32) (p : Int32 × Int32) {d a b d' : Int32} (h0 : ¬ 4 ≤ d) (ha : d / 2 = a) (hb : d - a * 2 = b) (hd : d + 1 = d') (ka : a = 0 ∨ a = 1) (kb : b = 0 ∨ b = 1) (n : Nat) : f_X12_doors_47 (n + 1) h 308 (nI e) x2 (nI w) p.1 p.2 d = f_X12_doors_47 n h 308 (nI e) x2 (nI w) (stR p (nchB S e w a b) d).1 (stR p (nchB S e w a b) d).2 d' := by
  show b_X12_doors_47 (f_X12_doors_47 n) h 308 (nI e) x2 (nI w) p.1 p.2 d = _
  simp only [b_X12_doors_47, if_neg h0, aLet, ha, hb, q_308, gainR0 hS eS he hw pe _ kb, gainR1 hS eS he hw pw py _ ka, aBind_some, b_X12_doors_130, b_X12_doors_127, hd]
  unfold stR nchB
  by_cases c1 : gn S 43 e w a b < gn S 43 e w (1 - a) b
  · rw [if_pos c1, decide_eq_false (fun q => q c1)]; rfl
  · rw [if_neg c1, decide_eq_true c1]
    by_cases c2 : gn S 59 e w b a < gn S 59 e w (1 - b) a
    · rw [if_neg (Int32.not_le.mpr c2), decide_eq_false (fun q => q c2)]; rfl
    · rw [if_pos (Int32.not_lt.mp c2), decide_eq_true c2]
      by_cases c3 : p.1 = 0
      · simp only [if_pos c3, Bool.and_self, if_true]
      · simp only [if_neg c3, Bool.and_self, if_true]
def dP (S : Row) (e w : Nat) : Int32 × Int32 := stC (stC (stC (stC (0, -2) (nchB S e w 1 1) 3) (nchB S e w 1 0) 2) (nchB S e w 0 1) 1) (nchB S e w 0 0) 0
theorem dP_R (S : Row) (e w : Nat) : dP S e w = stR (stR (stR (stR (0, -2) (nchB S e w 0 0) 0) (nchB S e w 0 1) 1) (nchB S e w 1 0) 2) (nchB S e w 1 1) 3 := doors_d _ _ _ _
theorem doorsC {h : aH} (hS : Str h) {S : Row} (r : RSt h 19 S) {e w : Nat} (he : e < 4) (hw : w < 4) (pe : S (12 + 4 * e) = nI w) (x2 : Int32) : f_X11_doors_34 2000 h 0 (nI e) x2 0 (-2) 3 = some (if x2 = 0 then (dP S e w).1 else (dP S e w).2, h) := by
  refine (doorC_s hS r he hw pe x2 (0, -2) (d := 3) (a := 1) (b := 1) (d' := 2) (by decide) (by decide) (by decide) (by decide) 1999).trans ?_
  refine (doorC_s hS r he hw pe x2 _ (d := 2) (a := 1) (b := 0) (d' := 1) (by decide) (by decide) (by decide) (by decide) 1998).trans ?_
  refine (doorC_s hS r he hw pe x2 _ (d := 1) (a := 0) (b := 1) (d' := 0) (by decide) (by decide) (by decide) (by decide) 1997).trans ?_
  refine (doorC_s hS r he hw pe x2 _ (d := 0) (a := 0) (b := 0) (d' := -1) (by decide) (by decide) (by decide) (by decide) 1996).trans ?_
  show b_X11_doors_34 (f_X11_doors_34 1995) h 0 (nI e) x2 (dP S e w).1 (dP S e w).2 (-1) = _
  simp only [b_X11_doors_34, if_pos (show (-1 : Int32) < 0 by decide)]
  split <;> rfl
theorem doorsR {h : aH} (hS : Str h) {S : Row} (eS : hI h 318 = S) {e w : Nat} (he : e < 4) (hw : w < 4) (pe : S (12 + 4 * e) = nI w) (pw : S (28 + 4 * w) = nI e) (py : S (29 + 4 * w) = S (13 + 4 * e)) (x2 : Int32) : f_X12_doors_47 2000 h 308 (nI e) x2 (nI w) 0 (-2) 0 = some (if x2 = 0 then (dP S e w).1 else (dP S e w).2, h) := by
  refine (doorR_s hS eS he hw pe pw py x2 (0, -2) (d := 0) (a := 0) (b := 0) (d' := 1) (by decide) (by decide) (by decide) (by decide) (by decide) (by decide) 1999).trans ?_
  refine (doorR_s hS eS he hw pe pw py x2 _ (d := 1) (a := 0) (b := 1) (d' := 2) (by decide) (by decide) (by decide) (by decide) (by decide) (by decide) 1998).trans ?_
  refine (doorR_s hS eS he hw pe pw py x2 _ (d := 2) (a := 1) (b := 0) (d' := 3) (by decide) (by decide) (by decide) (by decide) (by decide) (by decide) 1997).trans ?_
  refine (doorR_s hS eS he hw pe pw py x2 _ (d := 3) (a := 1) (b := 1) (d' := 4) (by decide) (by decide) (by decide) (by decide) (by decide) (by decide) 1996).trans ?_
  rw [← dP_R]
  show b_X12_doors_47 (f_X12_doors_47 1995) h 308 (nI e) x2 (nI w) (dP S e w).1 (dP S e w).2 4 = _
  simp only [b_X12_doors_47, if_pos (show (4 : Int32) ≤ 4 by decide)]
  split <;> rfl
theorem doors_c1 {h : aH} (hS : Str h) {S : Row} (r : RSt h 19 S) (v : VS S) {e w : Nat} (he : e < nE S) (hw : w < 4) (c : ¬ S (12 + 4 * e) < 0) (pe : S (12 + 4 * e) = nI w) (x2 : Int32) : f_X11_doors h 0 (nI e) x2 = if x2 < 0 then some (-1, h) else if x2 ≤ 1 then some (if x2 = 0 then (dP S e w).1 else (dP S e w).2, h) else some (-1, h) := by
  have v3 := v.e3.2
  have dc := doorsC hS r (show e < 4 by omega) hw pe x2
  unfold f_X11_doors
  simp only [q_0, r_0_5 hS, r_11_1 hS, Option.bind_some, q_11, qst0 m19, isJoinedS hS m19 r he v, if_neg c, aBind_some, if_neg (show ¬ (1 : Int32) = 0 by decide)]
  rw [dc]
theorem doors_r1 {h : aH} (hS : Str h) (v : VS (hI h 318)) {e w : Nat} (he : e < nE (hI h 318)) (hw : w < 4) (c : ¬ hI h 318 (12 + 4 * e) < 0) (pe : hI h 318 (12 + 4 * e) = nI w) (pw : hI h 318 (28 + 4 * w) = nI e) (py : hI h 318 (29 + 4 * w) = hI h 318 (13 + 4 * e)) (x2 : Int32) : f_X12_doors h 308 (nI e) x2 = if 0 ≤ x2 ∧ x2 ≤ 1 then some (if x2 = 0 then (dP (hI h 318) e w).1 else (dP (hI h 318) e w).2, h) else some (-1, h) := by
  have v3 := v.e3.2
  have n1 : ¬ (1 : Int32) = 0 := by decide
  have i2' : ∀ g, f_X12_in g x2.toInt64 0 1 = some (if 0 ≤ x2 ∧ x2 ≤ 1 then 1 else 0, g) := fun g => in_i (h := g) x2 0 1 (by decide) (by decide)
  have wr := withR0 hS (show e < 4 by omega)
  rw [pe] at wr
  have dr := doorsR hS rfl (show e < 4 by omega) hw pe pw py x2
  unfold f_X12_doors
  by_cases b : 0 ≤ x2 ∧ x2 ≤ 1
  · rw [if_pos b]
    simp only [q_308, yesEastR hS v he, isFreeR0 hS (show e < 4 by omega), if_neg c, aBind_some, if_neg n1, if_true, i2', if_pos b, wr]
    rw [dr]
  · rw [if_neg b]
    simp only [q_308, yesEastR hS v he, isFreeR0 hS (show e < 4 by omega), if_neg c, aBind_some, if_neg n1, if_true, i2', if_neg b]
theorem op_doors : Op_doors Inv := by
  intro h hV x1 x2
  have hS := hV.1
  have r : RSt h 19 (hI h 318) := hV.2.2.2.1.1
  have v : VS (hI h 318) := hV.2.2.2.1.2.1.1
  have v3 := v.e3.2
  have v4 := v.e4.2
  have n1 : ¬ (1 : Int32) = 0 := by decide
  rcases hasEastV v x1 with z | ⟨e, he, rfl⟩
  · refine ⟨-1, h, h, ?_, ?_, hV⟩
    · show f_X11_doors h 0 x1 x2 = _
      simp only [f_X11_doors, f_X8_isJoinedEast, q_0, r_0_5 hS, r_11_1 hS, Option.bind_some, q_11, qst0 m19, noEast m19 r z, aBind_some, if_true]
    · show f_X12_doors h 308 x1 x2 = _
      simp only [f_X12_doors, q_308, noEastR hS z, aBind_some, if_true]
  by_cases c : hI h 318 (12 + 4 * e) < 0
  · refine ⟨-1, h, h, ?_, ?_, hV⟩
    · show f_X11_doors h 0 (nI e) x2 = _
      simp only [f_X11_doors, q_0, r_0_5 hS, r_11_1 hS, Option.bind_some, q_11, qst0 m19, isJoinedS hS m19 r he v, if_pos c, aBind_some, if_true]
    · show f_X12_doors h 308 (nI e) x2 = _
      simp only [f_X12_doors, q_308, yesEastR hS v he, isFreeR0 hS (show e < 4 by omega), if_pos c, aBind_some, if_neg n1]
  obtain ⟨w, hw, pe, pw, py⟩ := with_e v he c
  have hw4 : w < 4 := by omega
  have C := doors_c1 hS r v he hw4 c pe x2
  have R := doors_r1 hS v he hw4 c pe pw py x2
  by_cases b : 0 ≤ x2 ∧ x2 ≤ 1
  · rw [if_pos b] at R
    rw [if_neg (Int32.not_lt.mpr b.1), if_pos b.2] at C
    exact ⟨_, h, h, C, R, hV⟩
  · rw [if_neg b] at R
    refine ⟨-1, h, h, ?_, R, hV⟩
    show f_X11_doors h 0 (nI e) x2 = _
    rw [C]
    by_cases d : x2 < 0
    · rw [if_pos d]
    · rw [if_neg d, if_neg (fun q => b ⟨Int32.not_lt.mp d, q⟩)]
