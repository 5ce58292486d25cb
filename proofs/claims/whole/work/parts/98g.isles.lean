/-! ===== isles ===== -/
def dN (x : Nat) : Nat → Nat
  | 0 => x
  | i + 1 => (dN x i * 1103515245 + 12345) % 2147483648
theorem dN_lt {x : Nat} (hx : x < 2147483648) : ∀ i, dN x i < 2147483648 := by
  intro i
  cases i with
  | zero => exact hx
  | succ i => exact Nat.mod_lt _ (by decide)
theorem l_mask {n : Nat} (hn : n < 2 ^ 64) : lN n &&& 2147483647 = lN (n % 2147483648) := by
  refine l_ext ?_
  rw [Int64.toBitVec_and, BitVec.toNat_and, lN_tn hn, show (2147483647 : Int64).toBitVec.toNat = 2 ^ 31 - 1 by decide, Nat.and_two_pow_sub_one_eq_mod, lN_tn (by omega)]
theorem l_step {a : Nat} (ha : a < 2147483648) : (lN a * 1103515245) + 12345 = lN (a * 1103515245 + 12345) ∧ a * 1103515245 + 12345 < 2 ^ 63 := by
  refine ⟨?_, by omega⟩
  rw [show (1103515245 : Int64) = lN 1103515245 from rfl, show (12345 : Int64) = lN 12345 from rfl, lN_mul, lN_add]
theorem dN_s (x i : Nat) : dN x (i + 1) = (dN x i * 1103515245 + 12345) % 2147483648 := by rw [dN]
/-- a row of draws -/
def DQ (D : Nat → Nat) : Prop := (∀ i, D i < 2147483648) ∧ ∀ i, D (i + 1) = (D i * 1103515245 + 12345) % 2147483648
theorem dN_q {x : Nat} (hx : x < 2147483648) : DQ (dN x) := ⟨dN_lt hx, dN_s x⟩
theorem drawC {h : aH} {D : Nat → Nat} {i : Nat} (hD : DQ D) (e : hL h 45 6 = lN (D i)) : f_X1_draw h 45 = some (nI (D (i + 1) / 65536), pL h 45 6 (lN (D (i + 1)))) := by
  have a := l_step (hD.1 i)
  have b := hD.1 (i + 1)
  have dv : lN (D (i + 1)) / 65536 = lN (D (i + 1) / 65536) := pk_lDiv (b := 65536) (by omega) (by decide) (by decide)
  have st : ((hL h 45 6) * 1103515245) + 12345 &&& 2147483647 = lN (D (i + 1)) := by rw [e, a.1, l_mask (by omega), ← hD.2 i]
  simp only [f_X1_draw, q_45, aLet, st, hL_pL_eq, pk_uLs, dv, lN_i]
theorem drawR {h : aH} {D : Nat → Nat} {i : Nat} (hD : DQ D) (e : hL h 308 35 = lN (D i)) : f_X12_draw h 308 100 = some (nI (D (i + 1) / 65536 % 100), pL h 308 35 (lN (D (i + 1)))) := by
  have a := l_step (hD.1 i)
  have b := hD.1 (i + 1)
  have dv : lN (D (i + 1)) / 65536 = lN (D (i + 1) / 65536) := pk_lDiv (b := 65536) (by omega) (by decide) (by decide)
  have rm : lN (D (i + 1) / 65536) - lN (D (i + 1) / 65536) / lN 100 * lN 100 = lN (D (i + 1) / 65536 % 100) := pk_lRem (b := 100) (by omega) (by decide) (by decide)
  have st : (((hL h 308 35) * 1103515245) + 12345) - (((hL h 308 35) * 1103515245) + 12345) / 2147483648 * 2147483648 = lN (D (i + 1)) := by
    rw [e, a.1, hD.2 i]; exact pk_lRem (b := 2147483648) a.2 (by decide) (by decide)
  have c : (100 : Int32).toInt64 = lN 100 := by decide
  have n0 : ¬ lN 100 = 0 := by decide
  simp only [f_X12_draw, q_308, aLet, st, c, if_neg n0, hL_pL_eq, pk_uLs, dv, rm, lN_i]
def dL (D : Nat → Nat) (p i : Nat) : Bool := decide (D i / 65536 % 100 < p)
def islR (h0 : aH) (f : Option Nat) (S : Row) (D : Nat → Nat) (p o : Nat) (J : Int32) : Nat → Row × Int32
  | 0 => (S, J)
  | k + 1 => (passS h0 f (dL D p (o + k + 1) || lateB (islR h0 f S D p o J k).1) (islR h0 f S D p o J k).1, (islR h0 f S D p o J k).2 + passC h0 f (dL D p (o + k + 1) || lateB (islR h0 f S D p o J k).1) (islR h0 f S D p o J k).1)
theorem islR_ok {h0 : aH} {f : Option Nat} {S : Row} {D : Nat → Nat} {p o : Nat} {J : Int32} (v : VS S) {m : Nat} (y : YR S m) : ∀ k, VS (islR h0 f S D p o J k).1 ∧ (∀ j, j < 10 ∨ 75 ≤ j → (islR h0 f S D p o J k).1 j = S j) ∧ YR (islR h0 f S D p o J k).1 (m + k) := by
  intro k
  induction k with
  | zero => exact ⟨v, fun _ _ => rfl, y⟩
  | succ k ih =>
    obtain ⟨a, b, c⟩ := ih
    obtain ⟨d, e, _⟩ := passS_ok (h0 := h0) (f := f) (l := dL D p (o + k + 1) || lateB (islR h0 f S D p o J k).1) a
    exact ⟨d, fun j hj => (e j hj).trans (b j hj), c.pass a⟩
def jc (S : Row) : Int32 := nI (popc 31 (jb S 12 (nE S)).toNatClampNeg)
theorem jc_n {S : Row} (v : VS S) : ∃ a, a < 16 ∧ jb S 12 (nE S) = nI a ∧ jc S = nI (popc 31 a) := by
  obtain ⟨a, ha, e⟩ := jb_b (S := S) (o := 12) (nE S) v.e3.2
  have : 2 ^ nE S ≤ 2 ^ 4 := Nat.pow_le_pow_right (by decide) v.e3.2
  exact ⟨a, by omega, e, by rw [jc, e, nI_clamp (by omega)]⟩
theorem jcC {h : aH} {S : Row} (v : VS S) : f_J6_bitCount_0f7a4 h (jb S 12 (nE S)) = some (jc S, h) := by
  obtain ⟨a, ha, e1, e2⟩ := jc_n v
  rw [e1, e2, intCount h a ha]
theorem jcR {h : aH} {S : Row} (v : VS S) : f_X12_bits h (jb S 12 (nE S)) = some (jc S, h) := by
  obtain ⟨a, ha, e1, e2⟩ := jc_n v
  rw [e1, e2, bits_eq (by omega)]
theorem drawIsle_eq {h h0 : aH} (hS : Str h) {S : Row} (r : RSt h 19 S) (v : VS S) {m : Nat} (y : YR S m) (hm : m ≤ 1000) {f : Option Nat} (ok : RlOK h0 f) (eC : ∀ b, 66 ≤ b → b ≤ 95 → hI h b = hI h0 b) {n p o : Nat} {D : Nat → Nat} (hn : n ≤ 30) (hp : p ≤ 100) (hD : DQ D) {J T : Int32} (ed : hL h 45 6 = lN (D o)) (e5 : hI h 45 5 = J) (e4 : hI h 45 4 = T) :
    ∃ h', f_X1_drawIsle h 45 19 (rlA f) (nI n) (nI p) = some ((), h') ∧ hL h' 45 6 = lN (D (o + n)) ∧ hI h' 45 5 = (islR h0 f S D p o J n).2 ∧ hI h' 45 4 = T + jc (islR h0 f S D p o J n).1 ∧ Upd qC h h' := by
  obtain ⟨hA, fA, rA, uA⟩ := copyFrom_eq hS m46 m19 (by decide) r v.1
  have key : ∃ h', f_X1_drawIsle_11 2000 hA 45 (rlA f) (nI n) (nI p) 0 = some ((), h') ∧ hL h' 45 6 = lN (D (o + n)) ∧ hI h' 45 5 = (islR h0 f S D p o J n).2 ∧ hI h' 45 4 = T + jc (islR h0 f S D p o J n).1 ∧ Upd qC h h' := by
    refine itLoop (σ := aH × Int32) (fun k s => f_X1_drawIsle_11 k s.1 45 (rlA f) (nI n) (nI p) s.2) (fun i s => s = (s.1, nI i) ∧ RSt s.1 46 (islR h0 f S D p o J i).1 ∧ hL s.1 45 6 = lN (D (o + i)) ∧ hI s.1 45 5 = (islR h0 f S D p o J i).2 ∧ hI s.1 45 4 = T ∧ Upd qC h s.1)
      (fun o' => ∃ h', o' = some ((), h') ∧ hL h' 45 6 = lN (D (o + n)) ∧ hI h' 45 5 = (islR h0 f S D p o J n).2 ∧ hI h' 45 4 = T + jc (islR h0 f S D p o J n).1 ∧ Upd qC h h') n ?_ ?_ 2000 0 (hA, 0) ⟨rfl, rA, by rw [uA.2.2.2 45 (by unfold stA; omega)]; exact ed, by rw [uA.2.2.1 45 (by unfold stA; omega)]; exact e5, by rw [uA.2.2.1 45 (by unfold stA; omega)]; exact e4, uA.mono (fun c hc => by unfold stA at hc; unfold qC; omega)⟩ (by omega) (by omega)
    · rintro k i s hi ⟨es, ri, di, j5, j4, u⟩
      have Ss := u.str hS
      obtain ⟨vi, oi, yi⟩ := islR_ok (h0 := h0) (f := f) (D := D) (p := p) (o := o) (J := J) v y i
      have c : ¬ nI n ≤ nI i := nI_ge hi (by omega)
      have bd := hD.1 (o + i + 1)
      have dr := drawC (h := s.1) hD di
      obtain ⟨g, eg⟩ : ∃ g, g = pL s.1 45 6 (lN (D (o + i + 1))) := ⟨_, rfl⟩
      rw [← eg] at dr
      have Sg : Str g := by rw [eg]; exact Ss
      have rg : RSt g 46 (islR h0 f S D p o J i).1 := by rw [eg]; exact (RSt_pL (by decide)).mpr ri
      have gi : ∀ b, hI g b = hI s.1 b := fun b => by rw [eg]; rfl
      have gl : hL g 45 6 = lN (D (o + i + 1)) := by rw [eg, hL_pL_eq, pk_uLs]
      have ug : Upd qC h g := by rw [eg]; exact u.tr (Upd.pL (by unfold qC; omega))
      have rem : nI (D (o + i + 1) / 65536) - nI (D (o + i + 1) / 65536) / 100 * 100 = nI (D (o + i + 1) / 65536 % 100) := pk_rem (d := 100) (by omega) (by decide) (by decide)
      obtain ⟨l, el⟩ : ∃ l, l = (dL D p (o + i + 1) || lateB (islR h0 f S D p o J i).1) := ⟨_, rfl⟩
      obtain ⟨h2, f2, r2, u2⟩ := pass_eq Sg m46 rg vi ok (fun b p q => by rw [ug.2.2.1 b (by unfold qC; omega), eC b p q]) l
      have e1 : islR h0 f S D p o J (i + 1) = (passS h0 f l (islR h0 f S D p o J i).1, (islR h0 f S D p o J i).2 + passC h0 f l (islR h0 f S D p o J i).1) := by rw [islR, ← el]
      have hd : f_X1_drawIsle_11 (k + 1) s.1 45 (rlA f) (nI n) (nI p) s.2 = f_X1_drawIsle_11 k (pI h2 45 5 ((islR h0 f S D p o J i).2 + passC h0 f l (islR h0 f S D p o J i).1)) 45 (rlA f) (nI n) (nI p) (nI (i + 1)) := by
        rw [es]
        show b_X1_drawIsle_11 (f_X1_drawIsle_11 k) s.1 45 (rlA f) (nI n) (nI p) (nI i) = _
        have g5 : hI g 45 5 = (islR h0 f S D p o J i).2 := by rw [gi]; exact j5
        simp only [b_X1_drawIsle_11, if_neg c, q_45, dr, aBind_some, rem]
        by_cases q : D (o + i + 1) / 65536 % 100 < p
        · have hl : bB l = 1 := by rw [el, dL, decide_eq_true q, Bool.true_or]; rfl
          rw [hl] at f2
          rw [if_neg (nI_ge q (by omega))]
          simp only [b_X1_drawIsle_34, q_45, r_45_0 Sg, r_45_1 Sg, Option.bind_some, if_neg (show ¬ (1 : Int32) = 0 by decide), b_X1_drawIsle_65, b_X1_drawIsle_70, q_38, f2, aBind_some, g5, aLet, i1]
        · have l0 : l = lateB (islR h0 f S D p o J i).1 := by rw [el, dL, decide_eq_false q, Bool.false_or]
          rw [if_pos (nI_le (by omega) (by omega))]
          simp only [b_X1_drawIsle_34, q_45, r_45_0 Sg, r_45_1 Sg, Option.bind_some, if_true, q_46, isLateS m46 rg yi (by omega), aBind_some, ← l0]
          cases l with
          | true =>
            have f2' : f_X0_pass g 38 46 (rlA f) 1 = some (passC h0 f true (islR h0 f S D p o J i).1, h2) := f2
            simp only [bB, if_neg (show ¬ (1 : Int32) = 0 by decide), b_X1_drawIsle_65, b_X1_drawIsle_70, q_38, q_45, f2', aBind_some, g5, aLet, i1]
          | false =>
            have f2' : f_X0_pass g 38 46 (rlA f) 0 = some (passC h0 f false (islR h0 f S D p o J i).1, h2) := f2
            simp only [bB, if_true, b_X1_drawIsle_70, q_38, q_45, f2', aBind_some, g5, aLet, i1]
      have n45 : ¬ pC 46 45 := by unfold pC stA; omega
      refine Or.inr ⟨(pI h2 45 5 ((islR h0 f S D p o J i).2 + passC h0 f l (islR h0 f S D p o J i).1), nI (i + 1)), ⟨rfl, ?_, ?_, ?_, ?_, ?_⟩, hd⟩
      · rw [e1]; exact r2.mv (fun b p q => hI_ne _ (by omega)) rfl (fun _ _ => rfl)
      · show hL h2 45 6 = _
        rw [u2.2.2.2 45 n45]; exact gl
      · show hI (pI h2 45 5 _) 45 5 = _
        rw [hI_eq, upd_at, e1]
      · show hI (pI h2 45 5 _) 45 4 = _
        rw [hI_eq, upd_ne _ _ (by decide), u2.2.2.1 45 n45, gi]; exact j4
      · exact (ug.tr (u2.mono pC46)).tr (Upd.pI (by unfold qC; omega))
    · rintro k s ⟨es, ri, di, j5, j4, u⟩
      have Ss := u.str hS
      obtain ⟨vi, oi, yi⟩ := islR_ok (h0 := h0) (f := f) (D := D) (p := p) (o := o) (J := J) v y n
      refine ⟨pI s.1 45 4 (T + jc (islR h0 f S D p o J n).1), ?_, di, ?_, ?_, u.tr (Upd.pI (by unfold qC; omega))⟩
      · rw [es]
        show b_X1_drawIsle_11 (f_X1_drawIsle_11 k) s.1 45 (rlA f) (nI n) (nI p) (nI n) = _
        simp only [b_X1_drawIsle_11, if_pos (Int32.le_refl (nI n)), q_45, r_45_1 Ss, Option.bind_some, q_46, ri.s3, vi.e3.1, joinedBits0 Ss m46 ri vi.e3.2, aBind_some, jcC vi, aLet, j4]
      · rw [hI_eq, upd_ne _ _ (by decide)]; exact j5
      · rw [hI_eq, upd_at]
  obtain ⟨h', f', d', a5, a4, u'⟩ := key
  refine ⟨h', ?_, d', a5, a4, u'⟩
  simp only [f_X1_drawIsle, q_45, r_45_1 hS, Option.bind_some, q_46, fA, aBind_some, f']
def islA (h0 : aH) (f : Option Nat) (S : Row) (D : Nat → Nat) (p n : Nat) : Nat → Int32 × Int32
  | 0 => (0, 0)
  | t + 1 => ((islA h0 f S D p n t).1 + jc (islR h0 f S D p (n * t) (islA h0 f S D p n t).2 n).1, (islR h0 f S D p (n * t) (islA h0 f S D p n t).2 n).2)
theorem islesC {h h0 : aH} (hS : Str h) {S : Row} (r : RSt h 19 S) (v : VS S) {m : Nat} (y : YR S m) (hm : m ≤ 1000) {f : Option Nat} (ok : RlOK h0 f) (ri : RlIn h f) (e6 : hI h 11 6 = frI f) (eC : ∀ b, 66 ≤ b → b ≤ 95 → hI h b = hI h0 b) {n p x t : Nat} {D : Nat → Nat} (hn : n ≤ 30) (hp : p ≤ 100) (ht : t ≤ 10) (hx : x < 2147483648) (hD : DQ D) (eD0 : D 0 = x) (ex : hI h 11 7 = nI x) (x4 : Int32) :
    ∃ h1 h', f_X1_startDraws h 45 (hI h 11 7) = some ((), h1) ∧ f_X11_isles_87 2000 h1 0 (nI t) (nI n) (nI p) x4 0 = some (if x4 = 0 then (islA h0 f S D p n t).1 else (islA h0 f S D p n t).2, h') ∧ Upd qC h h' := by
  obtain ⟨h1, e1⟩ : ∃ h1, h1 = pI (pI (pL h 45 6 (lN x)) 45 4 0) 45 5 0 := ⟨_, rfl⟩
  have u1 : Upd qC h h1 := by rw [e1]; exact ((Upd.pL (by unfold qC; omega)).tr (Upd.pI (by unfold qC; omega))).tr (Upd.pI (by unfold qC; omega))
  have hx' : (nI x).toInt64 = lN x := nI_l (by omega)
  have f1 : f_X1_startDraws h 45 (hI h 11 7) = some ((), h1) := by
    rw [ex, e1]; simp only [f_X1_startDraws, q_45, aLet, hx']
  refine ⟨h1, ?_⟩
  have key : ∃ h', f_X11_isles_87 2000 h1 0 (nI t) (nI n) (nI p) x4 0 = some (if x4 = 0 then (islA h0 f S D p n t).1 else (islA h0 f S D p n t).2, h') ∧ Upd qC h h' := by
    refine itLoop (σ := aH × Int32) (fun k s => f_X11_isles_87 k s.1 0 (nI t) (nI n) (nI p) x4 s.2) (fun i s => s = (s.1, nI i) ∧ hL s.1 45 6 = lN (D (n * i)) ∧ hI s.1 45 5 = (islA h0 f S D p n i).2 ∧ hI s.1 45 4 = (islA h0 f S D p n i).1 ∧ Upd qC h s.1)
      (fun o => ∃ h', o = some (if x4 = 0 then (islA h0 f S D p n t).1 else (islA h0 f S D p n t).2, h') ∧ Upd qC h h') t ?_ ?_ 2000 0 (h1, 0) ⟨rfl, ?_, ?_, ?_, u1⟩ (by omega) (by omega)
    · rintro k i s hi ⟨es, di, j5, j4, u⟩
      have Ss := u.str hS
      have c : ¬ nI t ≤ nI i := nI_ge hi (by omega)
      have o : ∀ b, ¬ qC b → hI s.1 b = hI h b := fun b hb => u.2.2.1 b hb
      obtain ⟨h2, f2, d2, a5, a4, u2⟩ := drawIsle_eq Ss (r.up u (fun b p q => by unfold qC; omega)) v y hm ok (fun b p q => by rw [o b (by unfold qC; omega), eC b p q]) (n := n) (p := p) hn hp hD di j5 j4
      have rI := ruleIn_eq Ss (f := f) (fun k q => ⟨(ri k q).1, by rw [o 0 (by unfold qC; omega)]; exact (ri k q).2⟩) (by rw [o 11 (by unfold qC; omega)]; exact e6)
      refine Or.inr ⟨(h2, nI (i + 1)), ⟨rfl, ?_, a5, a4, u.tr u2⟩, ?_⟩
      · show hL h2 45 6 = _
        rw [d2, Nat.mul_succ]
      · rw [es]
        show b_X11_isles_87 (f_X11_isles_87 k) s.1 0 (nI t) (nI n) (nI p) x4 (nI i) = _
        simp only [b_X11_isles_87, if_neg c, q_0, r_0_12 Ss, r_0_5 Ss, Option.bind_some, q_11, r_11_1 Ss, rI, aBind_some, q_45, f2, i1]
    · rintro k s ⟨es, di, j5, j4, u⟩
      have Ss := u.str hS
      refine ⟨s.1, ?_, u⟩
      rw [es]
      show b_X11_isles_87 (f_X11_isles_87 k) s.1 0 (nI t) (nI n) (nI p) x4 (nI t) = _
      simp only [b_X11_isles_87, if_pos (Int32.le_refl (nI t)), q_0, r_0_12 Ss, Option.bind_some, q_45, j5, j4]
      split <;> rfl
    · rw [e1]
      show hL (pL h 45 6 (lN x)) 45 6 = _
      rw [hL_pL_eq, pk_uLs, ← eD0]; rfl
    · rw [e1, hI_eq, upd_at]; rfl
    · rw [e1, hI_eq, upd_ne _ _ (by decide), hI_eq, upd_at]; rfl
  obtain ⟨h', a, b⟩ := key
  exact ⟨h', f1, a, b⟩
/-- what drawing leaves -/
def IX (h g : aH) : Prop := g.1 = h.1 ∧ (∀ a j, ¬ (a = 4 ∧ j = 1) → hR g a j = hR h a j) ∧ (∀ c, ¬ (c = 308 ∨ (314 ≤ c ∧ c ≤ 322)) → hI g c = hI h c) ∧ (∀ c, ¬ (c = 308 ∨ (314 ≤ c ∧ c ≤ 322)) → hL g c = hL h c) ∧ ∀ j, j ≠ 18 → j ≠ 23 → hI g 308 j = hI h 308 j
theorem IX.rf (h : aH) : IX h h := ⟨rfl, fun _ _ _ => rfl, fun _ _ => rfl, fun _ _ => rfl, fun _ _ _ => rfl⟩
theorem IX.tr {a b c : aH} (x : IX a b) (y : IX b c) : IX a c := ⟨y.1.trans x.1, fun p j n => (y.2.1 p j n).trans (x.2.1 p j n), fun p n => (y.2.2.1 p n).trans (x.2.2.1 p n), fun p n => (y.2.2.2.1 p n).trans (x.2.2.2.1 p n), fun j p q => (y.2.2.2.2 j p q).trans (x.2.2.2.2 j p q)⟩
theorem RX.ix {a b : aH} (x : RX a b) : IX a b := ⟨x.1.1.1, x.1.2.1, x.1.2.2.1, x.1.2.2.2, fun j p _ => x.2 j p⟩
theorem IX.str {a b : aH} (x : IX a b) (s : Str a) : Str b := ⟨x.1.trans s.1, fun q hq => (x.2.1 q.1 q.2.1 (rf_41 q hq)).trans (s.2 q hq)⟩
theorem IX.d {h : aH} (x : Int32) : IX h (pI h 308 23 x) := ⟨rfl, fun _ _ _ => rfl, fun c n => hI_ne _ (fun q => n (Or.inl q)), fun _ _ => rfl, fun j _ q => by rw [hI_eq, upd_ne _ _ q]⟩
theorem IX.l {h : aH} {i : Nat} (x : Int64) : IX h (pL h 308 i x) := ⟨rfl, fun _ _ _ => rfl, fun _ _ => rfl, fun c n => hL_pL_ne _ (fun q => n (Or.inl q)), fun _ _ _ => rfl⟩
theorem islesR_in {h g h0 : aH} (hS : Str h) (x0 : IX h g) {S : Row} {f : Option Nat} (v : VS S) {m : Nat} (y : YR S m) (hm : m ≤ 1000) (ok : RlOK h0 f) (eF : hI h 308 21 = frI f) (eC : ∀ b, 310 ≤ b → b ≤ 313 → hI h b = hI h0 b) (kp : Kp h S) (es : hI g 318 = S) {n p o : Nat} {D : Nat → Nat} (hn : n ≤ 30) (hp : p ≤ 100) (hD : DQ D) (ed : hL g 308 35 = lN (D o)) (J T a1 x4 z : Int32) (K : aH → Nat → Int32 → Int32 → Int32 → Int32 → Int32 → Int32 → Int32 → Option (Int32 × aH)) :
    ∃ g', f_X12_isles_87 K 2000 g 308 a1 (nI n) (nI p) x4 T J z 0 = K g' 308 a1 (nI n) (nI p) x4 (T + jc (islR h0 f S D p o J n).1) (islR h0 f S D p o J n).2 (z + 1) ∧ hI g' 318 = S ∧ hL g' 308 35 = lN (D (o + n)) ∧ IX h g' := by
  refine itLoop (σ := aH × Int32 × Int32) (fun k s => f_X12_isles_87 K k s.1 308 a1 (nI n) (nI p) x4 T s.2.1 z s.2.2) (fun i s => s = (s.1, (islR h0 f S D p o J i).2, nI i) ∧ hI s.1 318 = (islR h0 f S D p o J i).1 ∧ hL s.1 308 35 = lN (D (o + i)) ∧ IX h s.1)
    (fun o' => ∃ g', o' = K g' 308 a1 (nI n) (nI p) x4 (T + jc (islR h0 f S D p o J n).1) (islR h0 f S D p o J n).2 (z + 1) ∧ hI g' 318 = S ∧ hL g' 308 35 = lN (D (o + n)) ∧ IX h g') n ?_ ?_ 2000 0 (g, J, 0) ⟨rfl, es, ed, x0⟩ (by omega) (by omega)
  · rintro k i s hi ⟨e', si, di, xi⟩
    have Ss := xi.str hS
    obtain ⟨vi, oi, yi⟩ := islR_ok (h0 := h0) (f := f) (D := D) (p := p) (o := o) (J := J) v y i
    have c : ¬ nI n ≤ nI i := nI_ge hi (by omega)
    have dr := drawR (h := s.1) hD di
    obtain ⟨g1, eg1⟩ : ∃ g1, g1 = pL s.1 308 35 (lN (D (o + i + 1))) := ⟨_, rfl⟩
    rw [← eg1] at dr
    obtain ⟨g2, eg2⟩ : ∃ g2, g2 = pI g1 308 23 (bB (dL D p (o + i + 1))) := ⟨_, rfl⟩
    have x2 : IX h g2 := by rw [eg2, eg1]; exact (xi.tr (IX.l _)).tr (IX.d _)
    have S2 := x2.str hS
    have s2 : hI g2 318 = (islR h0 f S D p o J i).1 := by rw [eg2, hI_ne _ (by decide), eg1]; exact si
    have l2 : hL g2 308 35 = lN (D (o + i + 1)) := by
      rw [eg2]
      show hL g1 308 35 = _
      rw [eg1, hL_pL_eq, pk_uLs]
    have d2 : hI g2 308 23 = bB (dL D p (o + i + 1)) := by rw [eg2, hI_eq, upd_at]
    obtain ⟨g', fg, sg, xg⟩ := passes_eq S2 s2 vi yi (by omega) ok (by rw [x2.2.2.2.2 21 (by decide) (by decide)]; exact eF) (fun b p q => by rw [x2.2.2.1 b (by omega), eC b p q]) (d := dL D p (o + i + 1)) d2
    refine Or.inr ⟨(g', (islR h0 f S D p o J (i + 1)).2, nI (i + 1)), ⟨rfl, sg, ?_, x2.tr xg.ix⟩, ?_⟩
    · show hL g' 308 35 = _
      rw [xg.1.1.2]; exact l2
    · rw [e']
      show b_X12_isles_87 K (f_X12_isles_87 K k) s.1 308 a1 (nI n) (nI p) x4 T (islR h0 f S D p o J i).2 z (nI i) = _
      simp only [b_X12_isles_87, if_neg c, q_308, dr, aBind_some]
      by_cases q : D (o + i + 1) / 65536 % 100 < p
      · have q1 : dL D p (o + i + 1) = true := decide_eq_true q
        rw [q1] at eg2
        have eg2' : pI g1 308 23 1 = g2 := eg2.symm
        rw [if_neg (nI_ge q (by omega))]
        simp only [b_X12_isles_109, q_308, or_true, if_true, aLet, eg2', fg, aBind_some, i1, islR]
      · have q1 : dL D p (o + i + 1) = false := decide_eq_false q
        rw [q1] at eg2
        have eg2' : pI g1 308 23 0 = g2 := eg2.symm
        rw [if_pos (nI_le (by omega) (by omega))]
        simp only [b_X12_isles_109, q_308, true_or, if_true, aLet, eg2', fg, aBind_some, i1, islR]
  · rintro k s ⟨e', si, di, xi⟩
    have Ss := xi.str hS
    obtain ⟨vi, oi, yi⟩ := islR_ok (h0 := h0) (f := f) (D := D) (p := p) (o := o) (J := J) v y n
    have lay := Kp.lays Ss (S := S) (fun j hj => by rw [xi.2.2.1 324 (by decide)]; exact kp j hj) (fun j hj => by rw [si]; exact oi j (by omega))
    refine ⟨wI s.1 318 S, ?_, hI_wI_eq _ _ _, di, xi.tr (RX.wI (by omega)).ix⟩
    rw [e']
    show b_X12_isles_87 K (f_X12_isles_87 K k) s.1 308 a1 (nI n) (nI p) x4 T (islR h0 f S D p o J n).2 z (nI n) = _
    simp only [b_X12_isles_87, if_pos (Int32.le_refl (nI n)), q_308, joinedOf0 Ss si vi, aBind_some, jcR vi, aLet, lay]
theorem islesR {h h0 : aH} (hS : Str h) {S : Row} {f : Option Nat} (v : VS S) {m : Nat} (y : YR S m) (hm : m ≤ 1000) (ok : RlOK h0 f) (eF : hI h 308 21 = frI f) (eC : ∀ b, 310 ≤ b → b ≤ 313 → hI h b = hI h0 b) (kp : Kp h S) (es : hI h 318 = S) {n p t : Nat} {D : Nat → Nat} (hn : n ≤ 30) (hp : p ≤ 100) (ht : t ≤ 10) (hD : DQ D) (ed : hL h 308 35 = lN (D 0)) (x4 : Int32) :
    ∃ g', f_X12_isles_78 2000 h 308 (nI t) (nI n) (nI p) x4 0 0 0 = some (if x4 = 0 then (islA h0 f S D p n t).1 else (islA h0 f S D p n t).2, g') ∧ hI g' 318 = S ∧ IX h g' ∧ hI g' 308 23 = 0 := by
  refine itLoop (σ := aH × Int32 × Int32 × Int32) (fun k s => f_X12_isles_78 k s.1 308 (nI t) (nI n) (nI p) x4 s.2.1 s.2.2.1 s.2.2.2) (fun i s => s = (s.1, (islA h0 f S D p n i).1, (islA h0 f S D p n i).2, nI i) ∧ hI s.1 318 = S ∧ hL s.1 308 35 = lN (D (n * i)) ∧ IX h s.1)
    (fun o => ∃ g', o = some (if x4 = 0 then (islA h0 f S D p n t).1 else (islA h0 f S D p n t).2, g') ∧ hI g' 318 = S ∧ IX h g' ∧ hI g' 308 23 = 0) t ?_ ?_ 2000 0 (h, 0, 0, 0) ⟨rfl, es, by rw [Nat.mul_zero]; exact ed, IX.rf h⟩ (by omega) (by omega)
  · rintro k i s hi ⟨e', si, di, xi⟩
    have c : ¬ nI t ≤ nI i := nI_ge hi (by omega)
    obtain ⟨g', fg, sg, dg, xg⟩ := islesR_in hS xi v y hm ok eF eC kp si hn hp hD di (islA h0 f S D p n i).2 (islA h0 f S D p n i).1 (nI t) x4 (nI i) (f_X12_isles_78 k)
    refine Or.inr ⟨(g', (islA h0 f S D p n (i + 1)).1, (islA h0 f S D p n (i + 1)).2, nI (i + 1)), ⟨rfl, sg, ?_, xg⟩, ?_⟩
    · show hL g' 308 35 = _
      rw [dg, Nat.mul_succ]
    · rw [e']
      show b_X12_isles_78 (f_X12_isles_78 k) s.1 308 (nI t) (nI n) (nI p) x4 (islA h0 f S D p n i).1 (islA h0 f S D p n i).2 (nI i) = _
      simp only [b_X12_isles_78, if_neg c, fg, i1, islA]
  · rintro k s ⟨e', si, di, xi⟩
    refine ⟨pI s.1 308 23 0, ?_, by rw [hI_ne _ (by decide)]; exact si, xi.tr (IX.d _), by rw [hI_eq, upd_at]⟩
    rw [e']
    show b_X12_isles_78 (f_X12_isles_78 k) s.1 308 (nI t) (nI n) (nI p) x4 (islA h0 f S D p n t).1 (islA h0 f S D p n t).2 (nI t) = _
    simp only [b_X12_isles_78, if_pos (Int32.le_refl (nI t)), q_308, aLet]
    split <;> rfl
theorem Inv.wL308 {h : aH} (hV : Inv h) (F : Nat → Int64) : Inv (wL h 308 F) := by
  obtain ⟨v0, v1, v2, v3, v4, v5, v6, v7⟩ := hV
  have ol : ∀ b, b ≠ 308 → hL (wL h 308 F) b = hL h b := fun b hb => by rw [hL_wL, if_neg hb]
  refine ⟨v0, v1, v2, v3.mv (fun b p q => ⟨rfl, ol b (by omega)⟩) rfl v3.2.2.2.2.2.1 v3.2.2.2.2.2.2.1 v3.2.2.2.2.2.2.2.1, v4, v5.mv rfl rfl rfl rfl rfl (fun b p q => ⟨rfl, ol b (by omega)⟩), v6.mv (fun b p q => ⟨rfl, ol b (by omega)⟩) rfl (fun _ _ _ => rfl), v7⟩
theorem islesC_A (h : aH) (x1 x2 x3 x4 : Int32) : f_X11_isles h 0 x1 x2 x3 x4 = b_X11_isles_37 h 0 x1 x2 x3 x4 (b1 ((1 ≤ x1 ∧ x1 ≤ 10) ∧ (1 ≤ x2 ∧ x2 ≤ 30) ∧ (0 ≤ x3 ∧ x3 ≤ 100))) := by
  simp only [f_X11_isles, b_X11_isles_36]
  by_cases a1 : x1 < 1
  · rw [if_pos a1, b1, if_neg (fun q => absurd a1 (Int32.not_lt.mpr q.1.1))]
  rw [if_neg a1]
  by_cases a2 : 10 < x1
  · rw [if_pos a2, b1, if_neg (fun q => absurd a2 (Int32.not_lt.mpr q.1.2))]
  rw [if_neg a2]
  by_cases a3 : x2 < 1
  · rw [if_pos a3, b1, if_neg (fun q => absurd a3 (Int32.not_lt.mpr q.2.1.1))]
  rw [if_neg a3]
  by_cases a4 : 30 < x2
  · rw [if_pos a4, b1, if_neg (fun q => absurd a4 (Int32.not_lt.mpr q.2.1.2))]
  rw [if_neg a4]
  by_cases a5 : x3 < 0
  · rw [if_pos a5, b1, if_neg (fun q => absurd a5 (Int32.not_lt.mpr q.2.2.1))]
  rw [if_neg a5]
  by_cases a6 : 100 < x3
  · rw [if_pos a6, b1, if_neg (fun q => absurd a6 (Int32.not_lt.mpr q.2.2.2))]
  rw [if_neg a6, b1, if_pos ⟨⟨Int32.not_lt.mp a1, Int32.not_lt.mp a2⟩, ⟨Int32.not_lt.mp a3, Int32.not_lt.mp a4⟩, Int32.not_lt.mp a5, Int32.not_lt.mp a6⟩]
theorem op_isles : Op_isles Inv := by
  intro h hV x1 x2 x3 x4
  have hS := hV.1
  have r : RSt h 19 (hI h 318) := hV.2.2.2.1.1
  have v : VS (hI h 318) := hV.2.2.2.1.2.1.1
  have y : YR (hI h 318) 999 := hV.2.2.2.1.2.1.2.2
  have n1 : ¬ (1 : Int32) = 0 := by decide
  have i1' : ∀ g, f_X12_in g x1.toInt64 1 10 = some (if 1 ≤ x1 ∧ x1 ≤ 10 then 1 else 0, g) := fun g => in_i (h := g) x1 1 10 (by decide) (by decide)
  have i2' : ∀ g, f_X12_in g x2.toInt64 1 30 = some (if 1 ≤ x2 ∧ x2 ≤ 30 then 1 else 0, g) := fun g => in_i (h := g) x2 1 30 (by decide) (by decide)
  have i3' : ∀ g, f_X12_in g x3.toInt64 0 100 = some (if 0 ≤ x3 ∧ x3 ≤ 100 then 1 else 0, g) := fun g => in_i (h := g) x3 0 100 (by decide) (by decide)
  have i4' : ∀ g, f_X12_in g x4.toInt64 0 1 = some (if 0 ≤ x4 ∧ x4 ≤ 1 then 1 else 0, g) := fun g => in_i (h := g) x4 0 1 (by decide) (by decide)
  rcases v.1 with z | z
  · refine ⟨-1, h, h, ?_, ?_, hV⟩
    · show f_X11_isles h 0 x1 x2 x3 x4 = _
      rw [islesC_A]
      simp only [b_X11_isles_37, q_0, r_0_5 hS, r_11_1 hS, Option.bind_some, q_11, qst0 m19, r.s0, z, if_true]
    · show f_X12_isles h 308 x1 x2 x3 x4 = _
      simp only [f_X12_isles, q_308, isIsle_eq hS v, z, aBind_some, if_true]
  by_cases k : ((1 ≤ x1 ∧ x1 ≤ 10) ∧ (1 ≤ x2 ∧ x2 ≤ 30) ∧ (0 ≤ x3 ∧ x3 ≤ 100)) ∧ (0 ≤ x4 ∧ x4 ≤ 1)
  · obtain ⟨⟨b1', b2', b3'⟩, b4'⟩ := k
    obtain ⟨t, ht, et⟩ := btw_nI (M := 10) (m := 10) ⟨Int32.le_trans (by decide) b1'.1, b1'.2⟩ (by decide)
    obtain ⟨n, hn, en⟩ := btw_nI (M := 30) (m := 30) ⟨Int32.le_trans (by decide) b2'.1, b2'.2⟩ (by decide)
    obtain ⟨p, hp, ep⟩ := btw_nI (M := 100) (m := 100) b3' (by decide)
    obtain ⟨x, hx, ex⟩ := btw_nI hV.2.2.2.1.2.2.2.2.2.2.2.1 (m := 2147483647) (by decide)
    have ex' : hI h 11 7 = nI x := by rw [hV.2.2.2.1.2.2.2.2.2.2.1]; exact ex
    obtain ⟨f, e21, e6, ok, ri⟩ := hV.rule
    obtain ⟨h1, h2, f1, f2, u2⟩ := islesC hS r v y (by decide) ok ri e6 (fun _ _ _ => rfl) hn hp ht (x := x) (by omega) (dN_q (x := x) (by omega)) rfl ex' x4
    have S2 := u2.str hS
    have o2 : ∀ b, ¬ qC b → hI h2 b = hI h b := fun b hb => u2.2.2.1 b hb
    have s18 : hI h2 318 = hI h 318 := o2 318 (by unfold qC; omega)
    have o8 : hI h2 308 = hI h 308 := o2 308 (by unfold qC; omega)
    obtain ⟨g0, e0⟩ : ∃ g0, g0 = pL h2 308 35 (lN x) := ⟨_, rfl⟩
    have Sg0 : Str g0 := by rw [e0]; exact S2
    have gi : ∀ b, hI g0 b = hI h2 b := fun b => by rw [e0]; rfl
    obtain ⟨g1, d1⟩ : ∃ g1, g1 = wI g0 324 (va_cpy (hI g0 318) (hI g0 324) 10 0 68) := ⟨_, rfl⟩
    have Sg1 : Str g1 := by rw [d1]; exact Sg0
    have k1 : Kp g1 (hI h 318) := by rw [d1, ← s18, ← gi 318]; exact Kp.keep g0
    have og : ∀ b, b ≠ 324 → hI g1 b = hI h2 b := fun b hb => by rw [d1, hI_wI_ne _ _ hb, gi]
    have ex1 : hL g1 308 35 = lN x := by
      rw [d1]
      show hL g0 308 35 = _
      rw [e0, hL_pL_eq, pk_uLs]
    obtain ⟨g2, f3, s3, x3', d3⟩ := islesR Sg1 v y (by decide) ok (by rw [og 308 (by decide), o8]; exact e21) (fun b p q => by rw [og b (by omega), o2 b (by unfold qC; omega)]) k1 (by rw [og 318 (by decide), s18]) hn hp ht (dN_q (x := x) (by omega)) ex1 x4
    refine ⟨if x4 = 0 then (islA h f (hI h 318) (dN x) p n t).1 else (islA h f (hI h 318) (dN x) p n t).2, h2, g2, ?_, ?_, ?_⟩
    · show f_X11_isles h 0 x1 x2 x3 x4 = _
      rw [islesC_A, b1, if_pos ⟨b1', b2', b3'⟩]
      simp only [b_X11_isles_37, q_0, r_0_5 hS, r_11_1 hS, r_0_12 hS, Option.bind_some, q_11, q_45, qst0 m19, r.s0, z, if_neg n1, if_neg (Int32.not_lt.mpr b4'.1), if_pos b4'.2, f1, aBind_some]
      rw [et, en, ep, f2]
    · have ii := isIsle_eq S2 (by rw [s18]; exact v)
      rw [s18, z] at ii
      have l22 : (hI h2 308 22).toInt64 = lN x := by rw [o8, ex]; exact nI_l (by omega)
      show f_X12_isles h2 308 x1 x2 x3 x4 = _
      simp only [f_X12_isles, q_308, ii, aBind_some, if_neg n1, i1', if_pos b1', i2', if_pos b2', i3', if_pos b3', i4', if_pos b4', aLet, l22, ← e0, keeps_eq Sg0, ← d1]
      rw [et, en, ep, f3]
    · have u : Upd Sq (wL h 308 (hL g2 308)) g2 := by
        refine ⟨⟨?_, by rw [hL_wL, if_pos rfl]⟩, fun a j nn => ?_, fun a na => ?_, fun a na => ?_⟩
        · show g2.1 = h.1
          rw [x3'.1, d1, e0]; exact u2.1.1
        · show hR g2 a j = hR h a j
          rw [x3'.2.1 a j nn, d1, e0]; exact u2.2.1 a j nn
        · show hI g2 a = hI h a
          rw [x3'.2.2.1 a (by unfold Sq at na; omega), og a (by unfold Sq at na; omega), o2 a (by unfold Sq at na; unfold qC; omega)]
        · rw [hL_wL, if_neg (by unfold Sq at na; omega), x3'.2.2.2.1 a (by unfold Sq at na; omega), d1]
          show hL g0 a = _
          rw [e0, hL_pL_ne _ (by unfold Sq at na; omega)]
          exact u2.2.2.2 a (by unfold Sq at na; unfold qC; omega)
      refine (hV.wL308 (hL g2 308)).query u s3 (fun j hj => ?_)
      show hI g2 308 j = hI h 308 j
      by_cases q : j = 23
      · rw [q, d3]; exact hV.2.2.2.2.2.2.2.symm
      · rw [x3'.2.2.2.2 j (by unfold keyE at hj; omega) q, og 308 (by decide), o8]
  · refine ⟨-1, h, h, ?_, ?_, hV⟩
    · show f_X11_isles h 0 x1 x2 x3 x4 = _
      rw [islesC_A]
      simp only [b_X11_isles_37, q_0, r_0_5 hS, r_11_1 hS, r_0_12 hS, Option.bind_some, q_11, q_45, qst0 m19, r.s0, z, if_neg n1]
      by_cases a : (1 ≤ x1 ∧ x1 ≤ 10) ∧ (1 ≤ x2 ∧ x2 ≤ 30) ∧ (0 ≤ x3 ∧ x3 ≤ 100)
      · rw [b1_0, if_pos a]
        by_cases c : x4 < 0
        · rw [if_pos c]
        · rw [if_neg c, if_neg (fun q => k ⟨a, Int32.not_lt.mp c, q⟩)]
      · rw [b1_0, if_neg a]
    · show f_X12_isles h 308 x1 x2 x3 x4 = _
      simp only [f_X12_isles, q_308, isIsle_eq hS v, z, aBind_some, if_neg n1, i1', i2', i3', i4']
      by_cases a1 : 1 ≤ x1 ∧ x1 ≤ 10
      · simp only [if_pos a1, if_neg n1]
        by_cases a2 : 1 ≤ x2 ∧ x2 ≤ 30
        · simp only [if_pos a2, if_neg n1]
          by_cases a3 : 0 ≤ x3 ∧ x3 ≤ 100
          · simp only [if_pos a3, if_neg n1, if_neg (fun q => k ⟨⟨a1, a2, a3⟩, q⟩ : ¬ (0 ≤ x4 ∧ x4 ≤ 1)), if_true]
          · simp only [if_neg a3, if_true]
        · simp only [if_neg a2, if_true]
      · simp only [if_neg a1, if_true]
