/-- the two sides answer alike, and the invariant stands behind them -/
def Pair (Iv : aH → Prop) (h : aH) (o1 o2 : aH → Option (Int32 × aH)) : Prop := ∃ (r : Int32) (h1 h2 : aH), o1 h = some (r, h1) ∧ o2 h1 = some (r, h2) ∧ Iv h2
def Op_feed (Iv : aH → Prop) : Prop := ∀ h, Iv h → ∀ (x1 x2 x3 x4 x5 : Int32), Pair Iv h (fun q => f_X11_feed q 0 x1 x2 x3 x4 x5) (fun q => f_X12_feed q 308 x1 x2 x3 x4 x5)
def Op_end (Iv : aH → Prop) : Prop := ∀ h, Iv h → ∀ (x1 : Int32), Pair Iv h (fun q => f_X11_end q 0 x1) (fun q => f_X12_end q 308 x1)
def Op_isle (Iv : aH → Prop) : Prop := ∀ h, Iv h → ∀ (_ : Unit), Pair Iv h (fun q => f_X11_isle q 0) (fun q => f_X12_isle q 308)
def Op_rule (Iv : aH → Prop) : Prop := ∀ h, Iv h → ∀ (_ : Unit), Pair Iv h (fun q => f_X11_rule q 0) (fun q => f_X12_rule q 308)
def Op_force (Iv : aH → Prop) : Prop := ∀ h, Iv h → ∀ (x1 : Int32), Pair Iv h (fun q => f_X11_force q 0 x1) (fun q => f_X12_force q 308 x1)
def Op_east (Iv : aH → Prop) : Prop := ∀ h, Iv h → ∀ (x1 x2 : Int32), Pair Iv h (fun q => f_X11_east q 0 x1 x2) (fun q => f_X12_east q 308 x1 x2)
def Op_west (Iv : aH → Prop) : Prop := ∀ h, Iv h → ∀ (x1 x2 : Int32), Pair Iv h (fun q => f_X11_west q 0 x1 x2) (fun q => f_X12_west q 308 x1 x2)
def Op_likes (Iv : aH → Prop) : Prop := ∀ h, Iv h → ∀ (x1 x2 x3 : Int32), Pair Iv h (fun q => f_X11_likes q 0 x1 x2 x3) (fun q => f_X12_likes q 308 x1 x2 x3)
def Op_fair (Iv : aH → Prop) : Prop := ∀ h, Iv h → ∀ (_ : Unit), Pair Iv h (fun q => f_X11_fair q 0) (fun q => f_X12_fair q 308)
def Op_join (Iv : aH → Prop) : Prop := ∀ h, Iv h → ∀ (x1 x2 : Int32), Pair Iv h (fun q => f_X11_join q 0 x1 x2) (fun q => f_X12_join q 308 x1 x2)
def Op_part (Iv : aH → Prop) : Prop := ∀ h, Iv h → ∀ (x1 : Int32), Pair Iv h (fun q => f_X11_part q 0 x1) (fun q => f_X12_part q 308 x1)
def Op_hold (Iv : aH → Prop) : Prop := ∀ h, Iv h → ∀ (_ : Unit), Pair Iv h (fun q => f_X11_hold q 0) (fun q => f_X12_hold q 308)
def Op_undo (Iv : aH → Prop) : Prop := ∀ h, Iv h → ∀ (_ : Unit), Pair Iv h (fun q => f_X11_undo q 0) (fun q => f_X12_undo q 308)
def Op_ahead (Iv : aH → Prop) : Prop := ∀ h, Iv h → ∀ (x1 x2 x3 : Int32), Pair Iv h (fun q => f_X11_ahead q 0 x1 x2 x3) (fun q => f_X12_ahead q 308 x1 x2 x3)
def Op_lasts (Iv : aH → Prop) : Prop := ∀ h, Iv h → ∀ (x1 : Int32), Pair Iv h (fun q => f_X11_lasts q 0 x1) (fun q => f_X12_lasts q 308 x1)
def Op_settled (Iv : aH → Prop) : Prop := ∀ h, Iv h → ∀ (x1 : Int32), Pair Iv h (fun q => f_X11_settled q 0 x1) (fun q => f_X12_settled q 308 x1)
def Op_tries (Iv : aH → Prop) : Prop := ∀ h, Iv h → ∀ (x1 x2 x3 : Int32), Pair Iv h (fun q => f_X11_tries q 0 x1 x2 x3) (fun q => f_X12_tries q 308 x1 x2 x3)
def Op_liked (Iv : aH → Prop) : Prop := ∀ h, Iv h → ∀ (x1 : Int32), Pair Iv h (fun q => f_X11_liked q 0 x1) (fun q => f_X12_liked q 308 x1)
def Op_doors (Iv : aH → Prop) : Prop := ∀ h, Iv h → ∀ (x1 x2 : Int32), Pair Iv h (fun q => f_X11_doors q 0 x1 x2) (fun q => f_X12_doors q 308 x1 x2)
def Op_keep (Iv : aH → Prop) : Prop := ∀ h, Iv h → ∀ (x1 x2 : Int32), Pair Iv h (fun q => f_X11_keep q 0 x1 x2) (fun q => f_X12_keep q 308 x1 x2)
def Op_note (Iv : aH → Prop) : Prop := ∀ h, Iv h → ∀ (x1 x2 x3 : Int32), Pair Iv h (fun q => f_X11_note q 0 x1 x2 x3) (fun q => f_X12_note q 308 x1 x2 x3)
def Op_ruled (Iv : aH → Prop) : Prop := ∀ h, Iv h → ∀ (x1 : Int32), Pair Iv h (fun q => f_X11_ruled q 0 x1) (fun q => f_X12_ruled q 308 x1)
def Op_boats (Iv : aH → Prop) : Prop := ∀ h, Iv h → ∀ (x1 x2 : Int32), Pair Iv h (fun q => f_X11_boats q 0 x1 x2) (fun q => f_X12_boats q 308 x1 x2)
def Op_look (Iv : aH → Prop) : Prop := ∀ h, Iv h → ∀ (x1 x2 : Int32), Pair Iv h (fun q => f_X11_look q 0 x1 x2) (fun q => f_X12_look q 308 x1 x2)
def Op_seed (Iv : aH → Prop) : Prop := ∀ h, Iv h → ∀ (x1 : Int32), Pair Iv h (fun q => f_X11_seed q 0 x1) (fun q => f_X12_seed q 308 x1)
def Op_isles (Iv : aH → Prop) : Prop := ∀ h, Iv h → ∀ (x1 x2 x3 x4 : Int32), Pair Iv h (fun q => f_X11_isles q 0 x1 x2 x3 x4) (fun q => f_X12_isles q 308 x1 x2 x3 x4)
def Op_count (Iv : aH → Prop) : Prop := ∀ h, Iv h → ∀ (x1 : Int32), Pair Iv h (fun q => f_X11_count q 0 x1) (fun q => f_X12_count q 308 x1)
def Op_image (Iv : aH → Prop) : Prop := ∀ h, Iv h → ∀ (x1 : Int32), Pair Iv h (fun q => f_X11_image q 0 x1) (fun q => f_X12_image q 308 x1)
def Op_back (Iv : aH → Prop) : Prop := ∀ h, Iv h → ∀ (x1 : Int32), Pair Iv h (fun q => f_X11_back q 0 x1) (fun q => f_X12_back q 308 x1)
def OpsAll (Iv : aH → Prop) : Prop := Op_feed Iv ∧ Op_end Iv ∧ Op_isle Iv ∧ Op_rule Iv ∧ Op_force Iv ∧ Op_east Iv ∧ Op_west Iv ∧ Op_likes Iv ∧ Op_fair Iv ∧ Op_join Iv ∧ Op_part Iv ∧ Op_hold Iv ∧ Op_undo Iv ∧ Op_ahead Iv ∧ Op_lasts Iv ∧ Op_settled Iv ∧ Op_tries Iv ∧ Op_liked Iv ∧ Op_doors Iv ∧ Op_keep Iv ∧ Op_note Iv ∧ Op_ruled Iv ∧ Op_boats Iv ∧ Op_look Iv ∧ Op_seed Iv ∧ Op_isles Iv ∧ Op_count Iv ∧ Op_image Iv ∧ Op_back Iv
theorem law_in {L i : Nat} (hL : L ≤ 3072) (hc : ¬ (Int32.ofNat L) - 6 < nI i) (hi : i ≤ 4000) : i + 6 ≤ L := by
  have e6 : (6 : Int32) = nI 6 := rfl
  have eL : Int32.ofNat L = nI L := rfl
  rw [e6, eL] at hc
  rcases Nat.lt_or_ge L 6 with q | q
  · exfalso
    refine hc ?_
    have h1 : nI L - nI 6 < 0 := pk_sneg (by omega) q
    have h2 : 0 ≤ nI i := nI_pos' (by omega)
    exact Int32.lt_of_lt_of_le h1 h2
  · rw [pk_sub q] at hc
    rcases Nat.lt_or_ge (L - 6) i with z | z
    · exact absurd (nI_lt z (by omega)) hc
    · omega
theorem law_at {L i k : Nat} (hL : L ≤ 3072) (h : i + 6 ≤ L) (hk : k < 6) : aIn (nI i + nI k) L := by
  rw [nI_add]
  exact vp_in_nI (by omega) (by omega)
set_option maxHeartbeats 4000000 in
set_option maxRecDepth 4000 in
theorem law_loop {Iv : aH → Prop} (hN : ∀ h, Iv h → h.1 = aNN) (ops : OpsAll Iv) {L : Nat} (hL : L ≤ 3072) (xs : Nat → Int32) : ∀ (n i : Nat) (h : aH), Iv h → i ≤ L + 6 → L + 6 < i + 6 * n → ∃ h', f_L_law_18 L xs n h 0 308 (nI i) = some (1, h') ∧ h'.1 = aNN := by
  intro n
  induction n with
  | zero => intro i h _ h1 h2; omega
  | succ n ih =>
    intro i h hI h1 h2
    show ∃ h', b_L_law_18 L xs (f_L_law_18 L xs n) h 0 308 (nI i) = some (1, h') ∧ h'.1 = aNN
    unfold b_L_law_18
    by_cases hc : (Int32.ofNat L) - 6 < nI i
    · exact ⟨h, by rw [if_pos hc], hN h hI⟩
    · have hin := law_in hL hc (by omega)
      rw [if_neg hc]
      have a0 : aIn (nI i) L := vp_in_nI (by omega) (by omega)
      have a1 : aIn (nI i + 1) L := law_at (k := 1) hL hin (by decide)
      have a2 : aIn (nI i + 2) L := law_at (k := 2) hL hin (by decide)
      have a3 : aIn (nI i + 3) L := law_at (k := 3) hL hin (by decide)
      have a4 : aIn (nI i + 4) L := law_at (k := 4) hL hin (by decide)
      have a5 : aIn (nI i + 5) L := law_at (k := 5) hL hin (by decide)
      have s0 : (sh 0).1 = 18 := by rw [sh_0]
      have s8 : (sh 308).1 = 19 := by rw [sh_308]
      have nxt : ∀ h2, Iv h2 → ∃ h', b_L_law_1001 L xs (f_L_law_18 L xs n) h2 0 308 (nI i) = some (1, h') ∧ h'.1 = aNN := by
        intro h2 hI2
        unfold b_L_law_1001
        have e6 : nI i + 6 = nI (i + 6) := nI_add i 6
        rw [e6]
        exact ih (i + 6) h2 hI2 (by omega) (by omega)
      rw [if_pos a0]
      simp only [aLet]
      generalize (xs (nI i).toNatClampNeg) &&& 31 = z
      obtain ⟨o0, o1, o2, o3, o4, o5, o6, o7, o8, o9, o10, o11, o12, o13, o14, o15, o16, o17, o18, o19, o20, o21, o22, o23, o24, o25, o26, o27, o28⟩ := ops
      by_cases z0 : z = 0
      · rw [if_pos z0]
        obtain ⟨r, h3, h4, e1, e2, hI2⟩ := o0 h hI (xs (nI i + 1).toNatClampNeg) (xs (nI i + 2).toNatClampNeg) (xs (nI i + 3).toNatClampNeg) (xs (nI i + 4).toNatClampNeg) (xs (nI i + 5).toNatClampNeg)
        simp only [if_pos a1, if_pos a2, if_pos a3, if_pos a4, if_pos a5, if_pos s0, if_pos s8, e1, aBind_some, e2, if_true]
        exact nxt h4 hI2
      rw [if_neg z0]
      by_cases z1 : z = 1
      · rw [if_pos z1]
        obtain ⟨r, h3, h4, e1, e2, hI2⟩ := o1 h hI (xs (nI i + 1).toNatClampNeg)
        simp only [if_pos a1, if_pos a2, if_pos a3, if_pos a4, if_pos a5, if_pos s0, if_pos s8, e1, aBind_some, e2, if_true]
        exact nxt h4 hI2
      rw [if_neg z1]
      by_cases z2 : z = 2
      · rw [if_pos z2]
        obtain ⟨r, h3, h4, e1, e2, hI2⟩ := o2 h hI ()
        simp only [if_pos s0, if_pos s8, e1, aBind_some, e2, if_true]
        exact nxt h4 hI2
      rw [if_neg z2]
      by_cases z3 : z = 3
      · rw [if_pos z3]
        obtain ⟨r, h3, h4, e1, e2, hI2⟩ := o3 h hI ()
        simp only [if_pos s0, if_pos s8, e1, aBind_some, e2, if_true]
        exact nxt h4 hI2
      rw [if_neg z3]
      by_cases z4 : z = 4
      · rw [if_pos z4]
        obtain ⟨r, h3, h4, e1, e2, hI2⟩ := o4 h hI (xs (nI i + 1).toNatClampNeg)
        simp only [if_pos a1, if_pos a2, if_pos a3, if_pos a4, if_pos a5, if_pos s0, if_pos s8, e1, aBind_some, e2, if_true]
        exact nxt h4 hI2
      rw [if_neg z4]
      by_cases z5 : z = 5
      · rw [if_pos z5]
        obtain ⟨r, h3, h4, e1, e2, hI2⟩ := o5 h hI (xs (nI i + 1).toNatClampNeg) (xs (nI i + 2).toNatClampNeg)
        simp only [if_pos a1, if_pos a2, if_pos a3, if_pos a4, if_pos a5, if_pos s0, if_pos s8, e1, aBind_some, e2, if_true]
        exact nxt h4 hI2
      rw [if_neg z5]
      by_cases z6 : z = 6
      · rw [if_pos z6]
        obtain ⟨r, h3, h4, e1, e2, hI2⟩ := o6 h hI (xs (nI i + 1).toNatClampNeg) (xs (nI i + 2).toNatClampNeg)
        simp only [if_pos a1, if_pos a2, if_pos a3, if_pos a4, if_pos a5, if_pos s0, if_pos s8, e1, aBind_some, e2, if_true]
        exact nxt h4 hI2
      rw [if_neg z6]
      by_cases z7 : z = 7
      · rw [if_pos z7]
        obtain ⟨r, h3, h4, e1, e2, hI2⟩ := o7 h hI (xs (nI i + 1).toNatClampNeg) (xs (nI i + 2).toNatClampNeg) (xs (nI i + 3).toNatClampNeg)
        simp only [if_pos a1, if_pos a2, if_pos a3, if_pos a4, if_pos a5, if_pos s0, if_pos s8, e1, aBind_some, e2, if_true]
        exact nxt h4 hI2
      rw [if_neg z7]
      by_cases z8 : z = 8
      · rw [if_pos z8]
        obtain ⟨r, h3, h4, e1, e2, hI2⟩ := o8 h hI ()
        simp only [if_pos s0, if_pos s8, e1, aBind_some, e2, if_true]
        exact nxt h4 hI2
      rw [if_neg z8]
      by_cases z9 : z = 9
      · rw [if_pos z9]
        obtain ⟨r, h3, h4, e1, e2, hI2⟩ := o9 h hI (xs (nI i + 1).toNatClampNeg) (xs (nI i + 2).toNatClampNeg)
        simp only [if_pos a1, if_pos a2, if_pos a3, if_pos a4, if_pos a5, if_pos s0, if_pos s8, e1, aBind_some, e2, if_true]
        exact nxt h4 hI2
      rw [if_neg z9]
      by_cases z10 : z = 10
      · rw [if_pos z10]
        obtain ⟨r, h3, h4, e1, e2, hI2⟩ := o10 h hI (xs (nI i + 1).toNatClampNeg)
        simp only [if_pos a1, if_pos a2, if_pos a3, if_pos a4, if_pos a5, if_pos s0, if_pos s8, e1, aBind_some, e2, if_true]
        exact nxt h4 hI2
      rw [if_neg z10]
      by_cases z11 : z = 11
      · rw [if_pos z11]
        obtain ⟨r, h3, h4, e1, e2, hI2⟩ := o11 h hI ()
        simp only [if_pos s0, if_pos s8, e1, aBind_some, e2, if_true]
        exact nxt h4 hI2
      rw [if_neg z11]
      by_cases z12 : z = 12
      · rw [if_pos z12]
        obtain ⟨r, h3, h4, e1, e2, hI2⟩ := o12 h hI ()
        simp only [if_pos s0, if_pos s8, e1, aBind_some, e2, if_true]
        exact nxt h4 hI2
      rw [if_neg z12]
      by_cases z13 : z = 13
      · rw [if_pos z13]
        obtain ⟨r, h3, h4, e1, e2, hI2⟩ := o13 h hI (xs (nI i + 1).toNatClampNeg) (xs (nI i + 2).toNatClampNeg) (xs (nI i + 3).toNatClampNeg)
        simp only [if_pos a1, if_pos a2, if_pos a3, if_pos a4, if_pos a5, if_pos s0, if_pos s8, e1, aBind_some, e2, if_true]
        exact nxt h4 hI2
      rw [if_neg z13]
      by_cases z14 : z = 14
      · rw [if_pos z14]
        obtain ⟨r, h3, h4, e1, e2, hI2⟩ := o14 h hI (xs (nI i + 1).toNatClampNeg)
        simp only [if_pos a1, if_pos a2, if_pos a3, if_pos a4, if_pos a5, if_pos s0, if_pos s8, e1, aBind_some, e2, if_true]
        exact nxt h4 hI2
      rw [if_neg z14]
      by_cases z15 : z = 15
      · rw [if_pos z15]
        obtain ⟨r, h3, h4, e1, e2, hI2⟩ := o15 h hI (xs (nI i + 1).toNatClampNeg)
        simp only [if_pos a1, if_pos a2, if_pos a3, if_pos a4, if_pos a5, if_pos s0, if_pos s8, e1, aBind_some, e2, if_true]
        exact nxt h4 hI2
      rw [if_neg z15]
      by_cases z16 : z = 16
      · rw [if_pos z16]
        obtain ⟨r, h3, h4, e1, e2, hI2⟩ := o16 h hI (xs (nI i + 1).toNatClampNeg) (xs (nI i + 2).toNatClampNeg) (xs (nI i + 3).toNatClampNeg)
        simp only [if_pos a1, if_pos a2, if_pos a3, if_pos a4, if_pos a5, if_pos s0, if_pos s8, e1, aBind_some, e2, if_true]
        exact nxt h4 hI2
      rw [if_neg z16]
      by_cases z17 : z = 17
      · rw [if_pos z17]
        obtain ⟨r, h3, h4, e1, e2, hI2⟩ := o17 h hI (xs (nI i + 1).toNatClampNeg)
        simp only [if_pos a1, if_pos a2, if_pos a3, if_pos a4, if_pos a5, if_pos s0, if_pos s8, e1, aBind_some, e2, if_true]
        exact nxt h4 hI2
      rw [if_neg z17]
      by_cases z18 : z = 18
      · rw [if_pos z18]
        obtain ⟨r, h3, h4, e1, e2, hI2⟩ := o18 h hI (xs (nI i + 1).toNatClampNeg) (xs (nI i + 2).toNatClampNeg)
        simp only [if_pos a1, if_pos a2, if_pos a3, if_pos a4, if_pos a5, if_pos s0, if_pos s8, e1, aBind_some, e2, if_true]
        exact nxt h4 hI2
      rw [if_neg z18]
      by_cases z19 : z = 19
      · rw [if_pos z19]
        obtain ⟨r, h3, h4, e1, e2, hI2⟩ := o19 h hI (xs (nI i + 1).toNatClampNeg) (xs (nI i + 2).toNatClampNeg)
        simp only [if_pos a1, if_pos a2, if_pos a3, if_pos a4, if_pos a5, if_pos s0, if_pos s8, e1, aBind_some, e2, if_true]
        exact nxt h4 hI2
      rw [if_neg z19]
      by_cases z20 : z = 20
      · rw [if_pos z20]
        obtain ⟨r, h3, h4, e1, e2, hI2⟩ := o20 h hI (xs (nI i + 1).toNatClampNeg) (xs (nI i + 2).toNatClampNeg) (xs (nI i + 3).toNatClampNeg)
        simp only [if_pos a1, if_pos a2, if_pos a3, if_pos a4, if_pos a5, if_pos s0, if_pos s8, e1, aBind_some, e2, if_true]
        exact nxt h4 hI2
      rw [if_neg z20]
      by_cases z21 : z = 21
      · rw [if_pos z21]
        obtain ⟨r, h3, h4, e1, e2, hI2⟩ := o21 h hI (xs (nI i + 1).toNatClampNeg)
        simp only [if_pos a1, if_pos a2, if_pos a3, if_pos a4, if_pos a5, if_pos s0, if_pos s8, e1, aBind_some, e2, if_true]
        exact nxt h4 hI2
      rw [if_neg z21]
      by_cases z22 : z = 22
      · rw [if_pos z22]
        obtain ⟨r, h3, h4, e1, e2, hI2⟩ := o22 h hI (xs (nI i + 1).toNatClampNeg) (xs (nI i + 2).toNatClampNeg)
        simp only [if_pos a1, if_pos a2, if_pos a3, if_pos a4, if_pos a5, if_pos s0, if_pos s8, e1, aBind_some, e2, if_true]
        exact nxt h4 hI2
      rw [if_neg z22]
      by_cases z23 : z = 23
      · rw [if_pos z23]
        obtain ⟨r, h3, h4, e1, e2, hI2⟩ := o23 h hI (xs (nI i + 1).toNatClampNeg) (xs (nI i + 2).toNatClampNeg)
        simp only [if_pos a1, if_pos a2, if_pos a3, if_pos a4, if_pos a5, if_pos s0, if_pos s8, e1, aBind_some, e2, if_true]
        exact nxt h4 hI2
      rw [if_neg z23]
      by_cases z24 : z = 24
      · rw [if_pos z24]
        obtain ⟨r, h3, h4, e1, e2, hI2⟩ := o24 h hI (xs (nI i + 1).toNatClampNeg)
        simp only [if_pos a1, if_pos a2, if_pos a3, if_pos a4, if_pos a5, if_pos s0, if_pos s8, e1, aBind_some, e2, if_true]
        exact nxt h4 hI2
      rw [if_neg z24]
      by_cases z25 : z = 25
      · rw [if_pos z25]
        obtain ⟨r, h3, h4, e1, e2, hI2⟩ := o25 h hI (xs (nI i + 1).toNatClampNeg) (xs (nI i + 2).toNatClampNeg) (xs (nI i + 3).toNatClampNeg) (xs (nI i + 4).toNatClampNeg)
        simp only [if_pos a1, if_pos a2, if_pos a3, if_pos a4, if_pos a5, if_pos s0, if_pos s8, e1, aBind_some, e2, if_true]
        exact nxt h4 hI2
      rw [if_neg z25]
      by_cases z26 : z = 26
      · rw [if_pos z26]
        obtain ⟨r, h3, h4, e1, e2, hI2⟩ := o26 h hI (xs (nI i + 1).toNatClampNeg)
        simp only [if_pos a1, if_pos a2, if_pos a3, if_pos a4, if_pos a5, if_pos s0, if_pos s8, e1, aBind_some, e2, if_true]
        exact nxt h4 hI2
      rw [if_neg z26]
      by_cases z27 : z = 27
      · rw [if_pos z27]
        obtain ⟨r, h3, h4, e1, e2, hI2⟩ := o27 h hI (xs (nI i + 1).toNatClampNeg)
        simp only [if_pos a1, if_pos a2, if_pos a3, if_pos a4, if_pos a5, if_pos s0, if_pos s8, e1, aBind_some, e2, if_true]
        exact nxt h4 hI2
      rw [if_neg z27]
      by_cases z28 : z = 28
      · rw [if_pos z28]
        obtain ⟨r, h3, h4, e1, e2, hI2⟩ := o28 h hI (xs (nI i + 1).toNatClampNeg)
        simp only [if_pos a1, if_pos a2, if_pos a3, if_pos a4, if_pos a5, if_pos s0, if_pos s8, e1, aBind_some, e2, if_true]
        exact nxt h4 hI2
      rw [if_neg z28]
      exact nxt h hI
