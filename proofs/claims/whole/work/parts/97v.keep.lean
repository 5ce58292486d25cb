/-! ===== keep ===== -/
theorem VS.gift {S : Row} (v : VS S) (x : Int32) : VS (upd S 1 x) := by
  have o : ∀ j, j ≠ 1 → upd S 1 x j = S j := fun j hj => upd_ne _ _ hj
  have n3 : nE (upd S 1 x) = nE S := nE_of (o 3 (by decide))
  have n4 : nW (upd S 1 x) = nW S := nW_of (o 4 (by decide))
  obtain ⟨a, b, c, d, ⟨f1, f2, f3⟩, g, p, q⟩ := v
  refine ⟨?_, ?_, ?_, ?_, ⟨?_, ?_, ?_⟩, fun k hk => ⟨?_, ?_⟩, fun e he => ?_, fun w hw => ?_⟩
  · rw [o 0 (by decide)]; exact a
  · rw [o 3 (by decide)]; exact b
  · rw [o 4 (by decide)]; exact c
  · rw [o 0 (by decide), o 3 (by decide), o 4 (by decide)]; exact d
  · rw [o 75 (by decide)]; exact f1
  · rw [o 76 (by decide)]; exact f2
  · rw [o 77 (by decide)]; exact f3
  · rw [o _ (by omega)]; exact (g k hk).1
  · rw [o _ (by omega)]; exact (g k hk).2
  · rw [n3] at he
    rw [n4, o _ (by omega), o _ (by omega)]
    rcases p e he with z | ⟨w, hw, z1, z2, z3⟩
    · exact Or.inl z
    · exact Or.inr ⟨w, hw, z1, by rw [o _ (by omega)]; exact z2, by rw [o _ (by omega)]; exact z3⟩
  · rw [n4] at hw
    rw [n3, o _ (by omega), o _ (by omega)]
    rcases q w hw with z | ⟨e, he, z1, z2⟩
    · exact Or.inl z
    · exact Or.inr ⟨e, he, z1, by rw [o _ (by omega)]; exact z2⟩
theorem YR.gift {S : Row} {n : Nat} (y : YR S n) (x : Int32) : YR (upd S 1 x) n := y.eq (upd_ne _ _ (by decide))
theorem areKept_eq {h g h0 : aH} (hS : Str h) (x : RX h g) {S : Row} {f : Option Nat} (v : VS S) {m : Nat} (y : YR S m) (hm : m ≤ 1000) (ok : RlOK h0 f) (eF : hI h 308 21 = frI f) (eC : ∀ b, 310 ≤ b → b ≤ 313 → hI h b = hI h0 b) (eD : hI h 308 23 = 0) (es : hI g 318 = S) {e : Nat} (he : e < 4) {n : Nat} (hn : n ≤ 60) (W : Int32) :
    ∃ g' i, f_X12_areKept g 308 (nI e) W (nI n) = some (b1 (tog h0 f S e W n 0 = n), g') ∧ hI g' 318 = passN h0 f S i ∧ RX h g' := by
  refine itLoop (σ := aH × Int32) (fun k s => f_X12_areKept_3 k s.1 308 (nI e) W (nI n) s.2) (fun i s => s = (s.1, nI i) ∧ hI s.1 318 = passN h0 f S i ∧ tog h0 f S e W (n - i) i = tog h0 f S e W n 0 ∧ RX h s.1)
    (fun o => ∃ g' i, o = some (b1 (tog h0 f S e W n 0 = n), g') ∧ hI g' 318 = passN h0 f S i ∧ RX h g') n ?_ ?_ 2000 0 (g, 0) ⟨rfl, es, rfl, x⟩ (by omega) (by omega)
  · rintro k i s hi ⟨es', si, ht, x'⟩
    have c : ¬ nI n ≤ nI i := nI_ge hi (by omega)
    obtain ⟨g', fg, sg, xg⟩ := pass_step hS x' v y (by omega) ok eF eC eD si
    have wr := withR0 (xg.str hS) (p := e) he
    rw [sg] at wr
    rw [show n - i = (n - (i + 1)) + 1 by omega, tog] at ht
    have hd : f_X12_areKept_3 (k + 1) s.1 308 (nI e) W (nI n) s.2 = if passN h0 f S (i + 1) (12 + 4 * e) = W then f_X12_areKept_3 k g' 308 (nI e) W (nI n) (nI (i + 1)) else some (0, g') := by
      rw [es']
      show b_X12_areKept_3 (f_X12_areKept_3 k) s.1 308 (nI e) W (nI n) (nI i) = _
      simp only [b_X12_areKept_3, if_neg c, q_308, fg, aBind_some, wr, i1]
    by_cases q : passN h0 f S (i + 1) (12 + 4 * e) = W
    · rw [if_pos q] at ht hd
      exact Or.inr ⟨(g', nI (i + 1)), ⟨rfl, sg, ht, xg⟩, hd⟩
    · rw [if_neg q] at ht hd
      refine Or.inl ⟨g', i + 1, ?_, sg, xg⟩
      show f_X12_areKept_3 (k + 1) s.1 308 (nI e) W (nI n) s.2 = _
      rw [hd, ← ht, b1, if_neg (by omega)]
  · rintro k s ⟨es', si, ht, x'⟩
    rw [Nat.sub_self, tog] at ht
    refine ⟨s.1, n, ?_, si, x'⟩
    rw [es', ← ht, b1, if_pos rfl]
    show b_X12_areKept_3 (f_X12_areKept_3 k) s.1 308 (nI e) W (nI n) (nI n) = _
    simp only [b_X12_areKept_3, if_pos (Int32.le_refl (nI n))]
/-- the least gift -/
def lgf (h0 : aH) (f : Option Nat) (S : Row) (e : Nat) (n : Nat) : Nat → Nat → Int32
  | 0, _ => -2
  | k + 1, g => if tog h0 f (upd S 1 (nI g)) e (S (12 + 4 * e)) n 0 = n then nI g else lgf h0 f S e n k (g + 1)
theorem leastGift_eq {h h0 : aH} (hS : Str h) {S : Row} (r : RSt h 19 S) (v : VS S) {m : Nat} (y : YR S m) (hm : m ≤ 1000) {f : Option Nat} (ok : RlOK h0 f) (eC : ∀ b, 66 ≤ b → b ≤ 95 → hI h b = hI h0 b) {n : Nat} (hn : n ≤ 60) {e : Nat} (he : e < 4) :
    ∃ h', f_X1_leastGift h 45 19 (rlA f) (nI e) (nI n) = some (lgf h0 f S e n 100 0, h') ∧ Upd qC h h' := by
  refine itLoop (σ := aH × Int32) (fun k s => f_X1_leastGift_3 k s.1 45 19 (rlA f) (nI e) (nI n) s.2) (fun i s => s = (s.1, nI i) ∧ lgf h0 f S e n (100 - i) i = lgf h0 f S e n 100 0 ∧ Upd qC h s.1)
    (fun o => ∃ h', o = some (lgf h0 f S e n 100 0, h') ∧ Upd qC h h') 100 ?_ ?_ 2000 0 (h, 0) ⟨rfl, rfl, Upd.rf h⟩ (by omega) (by omega)
  · rintro k i s hi ⟨es, hg, u⟩
    have S1 := u.str hS
    have c : ¬ (99 : Int32) < nI i := nI_nlt (b := i) (a := 99) (by omega) (by decide)
    have r1 : RSt s.1 19 S := r.up u (fun b p q => by unfold qC; omega)
    obtain ⟨h2, f2, r2, u2⟩ := copyFrom_eq S1 m46 m19 (by decide) r1 v.1
    have S2 := u2.str S1
    obtain ⟨h3, d3⟩ : ∃ h3, h3 = pI h2 46 1 (nI i) := ⟨_, rfl⟩
    have r3 : RSt h3 46 (upd S 1 (nI i)) := by rw [d3]; exact r2.wG rfl
    have u3 : Upd qC h h3 := (u.tr (u2.mono (fun c hc => by unfold stA at hc; unfold qC; omega))).tr (by rw [d3]; exact Upd.pI (by unfold qC; omega))
    obtain ⟨h4, f4, u4⟩ := togC (u3.str hS) r3 (v.gift _) (y.gift _) hm ok (fun b p q => by rw [u3.2.2.1 b (by unfold qC; omega), eC b p q]) hn he
    rw [upd_ne _ _ (show 12 + 4 * e ≠ 1 by omega)] at f4
    have tl := tog_le (h0 := h0) (f := f) (S := upd S 1 (nI i)) (e := e) (W := S (12 + 4 * e)) n 0
    rw [show 100 - i = (100 - (i + 1)) + 1 by omega, lgf] at hg
    have en : (nI (tog h0 f (upd S 1 (nI i)) e (S (12 + 4 * e)) n 0) = nI n) ↔ tog h0 f (upd S 1 (nI i)) e (S (12 + 4 * e)) n 0 = n := nI_eq (by omega) (by omega)
    have hd : f_X1_leastGift_3 (k + 1) s.1 45 19 (rlA f) (nI e) (nI n) s.2 = if tog h0 f (upd S 1 (nI i)) e (S (12 + 4 * e)) n 0 = n then some (nI i, h4) else f_X1_leastGift_3 k h4 45 19 (rlA f) (nI e) (nI n) (nI (i + 1)) := by
      rw [es]
      show b_X1_leastGift_3 (f_X1_leastGift_3 k) s.1 45 19 (rlA f) (nI e) (nI n) (nI i) = _
      simp only [b_X1_leastGift_3, if_neg c, q_45, r_45_1 S1, r_45_1 S2, Option.bind_some, q_46, f2, aBind_some, aLet, ← d3, f4, en, i1]
    by_cases q : tog h0 f (upd S 1 (nI i)) e (S (12 + 4 * e)) n 0 = n
    · rw [if_pos q] at hg hd
      exact Or.inl ⟨h4, by rw [← hg]; exact hd, u3.tr u4⟩
    · rw [if_neg q] at hg hd
      exact Or.inr ⟨(h4, nI (i + 1)), ⟨rfl, hg, u3.tr u4⟩, hd⟩
  · rintro k s ⟨es, hg, u⟩
    rw [Nat.sub_self, lgf] at hg
    refine ⟨s.1, ?_, u⟩
    rw [es, ← hg]
    show b_X1_leastGift_3 (f_X1_leastGift_3 k) s.1 45 19 (rlA f) (nI e) (nI n) (nI 100) = _
    simp only [b_X1_leastGift_3, if_pos (show (99 : Int32) < nI 100 by decide)]
theorem op_keep : Op_keep Inv := by
  intro h hV x1 x2
  have hS := hV.1
  have r : RSt h 19 (hI h 318) := hV.2.2.2.1.1
  have v : VS (hI h 318) := hV.2.2.2.1.2.1.1
  have y : YR (hI h 318) 999 := hV.2.2.2.1.2.1.2.2
  have v3 := v.e3.2
  have v4 := v.e4.2
  have n1 : ¬ (1 : Int32) = 0 := by decide
  rcases hasEastV v x1 with z | ⟨e, he, rfl⟩
  · refine ⟨-1, h, h, ?_, ?_, hV⟩
    · show f_X11_keep h 0 x1 x2 = _
      simp only [f_X11_keep, f_X8_isJoinedEast, q_0, r_0_5 hS, r_11_1 hS, Option.bind_some, q_11, qst0 m19, noEast m19 r z, aBind_some, if_true]
    · show f_X12_keep h 308 x1 x2 = _
      simp only [f_X12_keep, q_308, noEastR hS z, aBind_some, if_true]
  by_cases c : hI h 318 (12 + 4 * e) < 0
  · refine ⟨-1, h, h, ?_, ?_, hV⟩
    · show f_X11_keep h 0 (nI e) x2 = _
      simp only [f_X11_keep, q_0, r_0_5 hS, r_11_1 hS, Option.bind_some, q_11, qst0 m19, isJoinedS hS m19 r he v, if_pos c, aBind_some, if_true]
    · show f_X12_keep h 308 (nI e) x2 = _
      simp only [f_X12_keep, q_308, yesEastR hS v he, isFreeR0 hS (show e < 4 by omega), if_pos c, aBind_some, if_neg n1]
  have i2' : ∀ g, f_X12_in g x2.toInt64 1 30 = some (if 1 ≤ x2 ∧ x2 ≤ 30 then 1 else 0, g) := fun g => in_i (h := g) x2 1 30 (by decide) (by decide)
  by_cases nb2 : ¬ (1 ≤ x2 ∧ x2 ≤ 30)
  · refine ⟨-1, h, h, ?_, ?_, hV⟩
    · show f_X11_keep h 0 (nI e) x2 = _
      simp only [f_X11_keep, q_0, r_0_5 hS, r_11_1 hS, Option.bind_some, q_11, qst0 m19, isJoinedS hS m19 r he v, if_neg c, aBind_some, if_neg n1]
      by_cases c1 : x2 < 1
      · rw [if_pos c1]
      · rw [if_neg c1, if_neg (fun q => nb2 ⟨Int32.not_lt.mp c1, q⟩)]
    · show f_X12_keep h 308 (nI e) x2 = _
      simp only [f_X12_keep, q_308, yesEastR hS v he, isFreeR0 hS (show e < 4 by omega), if_neg c, aBind_some, if_neg n1, if_true, i2', if_neg nb2]
  have b2 := Decidable.not_not.mp nb2
  obtain ⟨n, hn, en⟩ := btw_nI (M := 30) (m := 30) ⟨Int32.le_trans (by decide) b2.1, b2.2⟩ (by decide)
  obtain ⟨f, e21, e6, ok, ri⟩ := hV.rule
  have e23 : hI h 308 23 = 0 := hV.2.2.2.2.2.2.2
  obtain ⟨h1, f1, u1⟩ := leastGift_eq hS r v y (by decide) ok (fun _ _ _ => rfl) (n := n) (by omega) (e := e) (by omega)
  have S1 := u1.str hS
  have o1 : ∀ b, ¬ qC b → hI h1 b = hI h b := fun b hb => u1.2.2.1 b hb
  have s18 : hI h1 318 = hI h 318 := o1 318 (by unfold qC; omega)
  obtain ⟨S, eS⟩ : ∃ S, S = hI h 318 := ⟨_, rfl⟩
  rw [← eS] at v y f1 s18 c
  obtain ⟨g1, d1⟩ : ∃ g1, g1 = wI h1 324 (va_cpy (hI h1 318) (hI h1 324) 10 0 68) := ⟨_, rfl⟩
  have k1 : Kp g1 S := by rw [d1, ← s18]; exact Kp.keep h1
  have Sg1 : Str g1 := by rw [d1]; exact S1
  have og : ∀ b, b ≠ 324 → hI g1 b = hI h1 b := fun b hb => by rw [d1, hI_wI_ne _ _ hb]
  have fin : ∀ s : aH, RX g1 s → (∃ c, hI s 318 = upd S 1 c) → b_X12_keep_103 s 308 (S 1) (lgf h f S e n 100 0) = some (lgf h f S e n 100 0, wI s 318 S) ∧ Inv (wI s 318 S) := by
    rintro s x ⟨c, es⟩
    have Ss := x.str Sg1
    constructor
    · simp only [b_X12_keep_103, q_308, r_308_20 Ss, Option.bind_some, q_318, if_pos in1, cl1, aLet, pI_d, es, upd_upd, upd_same]
    · have uu : Upd Sq h (wI s 318 S) := ((u1.mono (fun b hb => by unfold Sq; unfold qC at hb; omega)).tr ((show Upd Sq h1 g1 by rw [d1]; exact Upd.wI (by unfold Sq; omega)).tr (x.1.mono (fun b hb => by unfold Sq; omega)))).tr (Upd.wI (by unfold Sq; omega))
      refine hV.query uu (by rw [hI_wI_eq, eS]) (fun j hj => ?_)
      rw [hI_wI_ne _ _ (by decide), x.key j hj, og 308 (by decide), o1 308 (by unfold qC; omega)]
  have hRf : ∃ h4, f_X12_keep_58 2000 g1 308 (nI e) (nI n) (S 1) (S (12 + 4 * e)) (-2) 0 = some (lgf h f S e n 100 0, h4) ∧ Inv h4 := by
    refine itLoop (σ := aH × Int32 × Int32) (fun m s => f_X12_keep_58 m s.1 308 (nI e) (nI n) (S 1) (S (12 + 4 * e)) s.2.1 s.2.2) (fun i s => RX g1 s.1 ∧ (∃ c, hI s.1 318 = upd S 1 c) ∧ ((s = (s.1, -2, nI i) ∧ lgf h f S e n (100 - i) i = lgf h f S e n 100 0) ∨ ∃ j t, s = (s.1, nI t, nI j) ∧ t < 100 ∧ lgf h f S e n 100 0 = nI t))
      (fun o => ∃ h4, o = some (lgf h f S e n 100 0, h4) ∧ Inv h4) 100 ?_ ?_ 2000 0 (g1, -2, 0) ⟨RX.rf g1, ⟨S 1, by rw [og 318 (by decide), s18, upd_same rfl]⟩, Or.inl ⟨rfl, rfl⟩⟩ (by omega) (by omega)
    · rintro m i s hi ⟨x, hc, (⟨es, hg⟩ | ⟨j, t, es, ht, hl⟩)⟩
      · have Ss := x.str Sg1
        obtain ⟨cc, ec⟩ := hc
        have c100 : ¬ (100 : Int32) ≤ nI i := nI_ge (b := 100) hi (by decide)
        have c0 : ¬ (0 : Int32) ≤ -2 := by decide
        obtain ⟨G, eG⟩ : ∃ G, G = upd S 1 (nI i) := ⟨_, rfl⟩
        have x2' : RX g1 (wI s.1 318 G) := x.tr (RX.wI (by omega))
        obtain ⟨g', i', fg, sg, xg⟩ := areKept_eq Sg1 x2' (S := G) (f := f) (h0 := h) (by rw [eG]; exact v.gift _) (m := 999) (by rw [eG]; exact y.gift _) (by decide) ok (by rw [og 308 (by decide), o1 308 (by unfold qC; omega)]; exact e21) (fun b p q => by rw [og b (by omega), o1 b (by unfold qC; omega)]) (by rw [og 308 (by decide), o1 308 (by unfold qC; omega)]; exact e23) (hI_wI_eq _ _ _) (e := e) (by omega) (n := n) (by omega) (S (12 + 4 * e))
        have kG : Kp g' G := fun j hj => by rw [(k1.rx xg) j hj, eG, upd_ne _ _ (by omega)]
        have oG := (passN_ok (h0 := h) (f := f) (show VS G by rw [eG]; exact v.gift _) (show YR G 999 by rw [eG]; exact y.gift _) i').2.1
        have lb := kG.lays (xg.str Sg1) (fun j hj => by rw [sg, oG j (by omega)])
        rw [show 100 - i = (100 - (i + 1)) + 1 by omega, lgf, ← eG] at hg
        have hd : f_X12_keep_58 (m + 1) s.1 308 (nI e) (nI n) (S 1) (S (12 + 4 * e)) s.2.1 s.2.2 = if tog h f G e (S (12 + 4 * e)) n 0 = n then f_X12_keep_58 m (wI g' 318 G) 308 (nI e) (nI n) (S 1) (S (12 + 4 * e)) (nI i) (nI (i + 1)) else f_X12_keep_58 m (wI g' 318 G) 308 (nI e) (nI n) (S 1) (S (12 + 4 * e)) (-2) (nI (i + 1)) := by
          rw [es]
          show b_X12_keep_58 (f_X12_keep_58 m) s.1 308 (nI e) (nI n) (S 1) (S (12 + 4 * e)) (-2) (nI i) = _
          simp only [b_X12_keep_58, if_neg c100, if_neg c0, q_308, r_308_20 Ss, Option.bind_some, q_318, if_pos in1, cl1, aLet, pI_d, ec, upd_upd, ← eG, fg, aBind_some, b1_0, b_X12_keep_93, lb, i1]
        by_cases q : tog h f G e (S (12 + 4 * e)) n 0 = n
        · rw [if_pos q] at hg hd
          exact Or.inr ⟨(wI g' 318 G, nI i, nI (i + 1)), ⟨xg.tr (RX.wI (by omega)), ⟨nI i, by show hI (wI g' 318 G) 318 = _; rw [hI_wI_eq, eG]⟩, Or.inr ⟨i + 1, i, rfl, hi, hg.symm⟩⟩, hd⟩
        · rw [if_neg q] at hg hd
          exact Or.inr ⟨(wI g' 318 G, -2, nI (i + 1)), ⟨xg.tr (RX.wI (by omega)), ⟨nI i, by show hI (wI g' 318 G) 318 = _; rw [hI_wI_eq, eG]⟩, Or.inl ⟨rfl, hg⟩⟩, hd⟩
      · have fi := fin s.1 x hc
        refine Or.inl ⟨_, ?_, fi.2⟩
        rw [es, ← fi.1, hl]
        show b_X12_keep_58 (f_X12_keep_58 m) s.1 308 (nI e) (nI n) (S 1) (S (12 + 4 * e)) (nI t) (nI j) = _
        simp only [b_X12_keep_58, if_pos (nI_pos' (show t < 2 ^ 31 by omega))]
        split <;> rfl
    · rintro m s ⟨x, hc, (⟨es, hg⟩ | ⟨j, t, es, ht, hl⟩)⟩
      · have fi := fin s.1 x hc
        rw [Nat.sub_self, lgf] at hg
        refine ⟨_, ?_, fi.2⟩
        rw [es, ← fi.1, ← hg]
        show b_X12_keep_58 (f_X12_keep_58 m) s.1 308 (nI e) (nI n) (S 1) (S (12 + 4 * e)) (-2) (nI 100) = _
        simp only [b_X12_keep_58, if_pos (show (100 : Int32) ≤ nI 100 by decide)]
      · have fi := fin s.1 x hc
        refine ⟨_, ?_, fi.2⟩
        rw [es, ← fi.1, hl]
        show b_X12_keep_58 (f_X12_keep_58 m) s.1 308 (nI e) (nI n) (S 1) (S (12 + 4 * e)) (nI t) (nI j) = _
        simp only [b_X12_keep_58, if_pos (nI_pos' (show t < 2 ^ 31 by omega))]
        split <;> rfl
  obtain ⟨h4, f4, I4⟩ := hRf
  refine ⟨lgf h f S e n 100 0, h1, h4, ?_, ?_, I4⟩
  · show f_X11_keep h 0 (nI e) x2 = _
    rw [← eS] at r
    simp only [f_X11_keep, q_0, r_0_5 hS, r_11_1 hS, Option.bind_some, q_11, qst0 m19, isJoinedS hS m19 r (show e < nE S by rw [eS]; exact he) v, if_neg c, aBind_some, if_neg n1, if_neg (Int32.not_lt.mpr b2.1), if_pos b2.2, r_0_12 hS, ruleIn_eq hS ri e6, q_45]
    rw [en, f1]
    rfl
  · have ye : f_X12_isEast h1 308 (nI e) = some (1, h1) := yesEastR S1 (by rw [s18]; exact v) (by rw [s18, eS]; exact he)
    have fr := isFreeR0 S1 (show e < 4 by omega)
    have wr := withR0 S1 (p := e) (by omega)
    rw [s18, if_neg c] at fr
    rw [s18] at wr
    show f_X12_keep h1 308 (nI e) x2 = _
    simp only [f_X12_keep, q_308, ye, fr, aBind_some, if_neg n1, if_true, i2', if_pos b2, r_308_20 S1, Option.bind_some, q_318, if_pos in1, cl1, aLet, s18, wr, keeps_eq S1]
    rw [← s18, ← d1, s18, en]
    exact f4
