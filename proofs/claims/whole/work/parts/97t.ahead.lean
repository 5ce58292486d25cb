/-! ===== ahead ===== -/
theorem aheadC_bad {h : aH} {x1 x2 x3 : Int32} {a : Nat} {s : Int32} (b : ¬ (0 ≤ x2 ∧ x2 ≤ 60) ∨ ¬ (0 ≤ x3 ∧ x3 ≤ 3)) : b_X11_ahead_29 h 0 x1 x2 x3 a s = some (-2, h) := by
  unfold b_X11_ahead_29
  by_cases c0 : s = 0
  · rw [if_pos c0]
  rw [if_neg c0]
  by_cases c1 : x2 < 0
  · rw [if_pos c1]
  rw [if_neg c1]
  by_cases c2 : 60 < x2
  · rw [if_pos c2]
  rw [if_neg c2]
  by_cases c3 : x3 < 0
  · rw [if_pos c3]
  rw [if_neg c3]
  by_cases c4 : x3 ≤ 3
  · exact (b.elim (fun q => q ⟨Int32.not_lt.mp c1, Int32.not_lt.mp c2⟩) (fun q => q ⟨Int32.not_lt.mp c3, c4⟩)).elim
  rw [if_neg c4]
theorem what4 {x : Int32} (h : 0 ≤ x ∧ x ≤ 3) : x = 0 ∨ x = 1 ∨ x = 2 ∨ x = 3 := by
  obtain ⟨n, hn, rfl⟩ := btw_nI (M := 3) (m := 3) h (by decide)
  have : n = 0 ∨ n = 1 ∨ n = 2 ∨ n = 3 := by omega
  rcases this with rfl | rfl | rfl | rfl
  · exact Or.inl rfl
  · exact Or.inr (Or.inl rfl)
  · exact Or.inr (Or.inr (Or.inl rfl))
  · exact Or.inr (Or.inr (Or.inr rfl))
theorem aheadR {h h0 : aH} (hS : Str h) {S : Row} (eS : hI h 318 = S) (v : VS S) {m : Nat} (y : YR S m) (hm : m ≤ 1000) {f : Option Nat} (ok : RlOK h0 f) (eF : hI h 308 21 = frI f) (eC : ∀ b, 310 ≤ b → b ≤ 313 → hI h b = hI h0 b) (eD : hI h 308 23 = 0) {n : Nat} (hn : n ≤ 60) (x1 x3 : Int32) :
    ∃ g, b_X12_ahead_51 h 308 x1 (nI n) x3 = (if x3 = 0 then aBind (f_X12_personOf g 308 0 x1 1) (fun r22 h23 => b_X12_ahead_111 h23 308 r22) else if x3 = 1 then aBind (f_X12_likesTheirs g 308 x1) (fun r25 h26 => b_X12_ahead_111 h26 308 r25) else aBind (f_X12_personOf g 308 (x3 - 2) x1 0) (fun r28 h29 => b_X12_ahead_111 h29 308 r28)) ∧ hI g 318 = passN h0 f S n ∧ Kp g S ∧ RX (wI h 324 (va_cpy (hI h 318) (hI h 324) 10 0 68)) g := by
  obtain ⟨h1, d1⟩ : ∃ h1, h1 = wI h 324 (va_cpy (hI h 318) (hI h 324) 10 0 68) := ⟨_, rfl⟩
  have k1 : Kp h1 S := by rw [d1, ← eS]; exact Kp.keep h
  have S1 : Str h1 := by rw [d1]; exact hS
  have o1 : ∀ b, b ≠ 324 → hI h1 b = hI h b := fun b hb => by rw [d1, hI_wI_ne _ _ hb]
  have hd : b_X12_ahead_51 h 308 x1 (nI n) x3 = f_X12_ahead_58 2000 h1 308 x1 (nI n) x3 0 := by
    simp only [b_X12_ahead_51, q_308, keeps_eq hS, aBind_some, ← d1]
  rw [hd, ← d1]
  refine itLoop (σ := aH × Int32) (fun k s => f_X12_ahead_58 k s.1 308 x1 (nI n) x3 s.2) (fun i s => s = (s.1, nI i) ∧ hI s.1 318 = passN h0 f S i ∧ RX h1 s.1)
    (fun o => ∃ g, o = (if x3 = 0 then aBind (f_X12_personOf g 308 0 x1 1) (fun r22 h23 => b_X12_ahead_111 h23 308 r22) else if x3 = 1 then aBind (f_X12_likesTheirs g 308 x1) (fun r25 h26 => b_X12_ahead_111 h26 308 r25) else aBind (f_X12_personOf g 308 (x3 - 2) x1 0) (fun r28 h29 => b_X12_ahead_111 h29 308 r28)) ∧ hI g 318 = passN h0 f S n ∧ Kp g S ∧ RX h1 g) n ?_ ?_ 2000 0 (h1, 0) ⟨rfl, by rw [o1 318 (by decide), eS]; rfl, RX.rf h1⟩ (by omega) (by omega)
  · rintro k i s hi ⟨es, si, x⟩
    have c : ¬ nI n ≤ nI i := nI_ge hi (by omega)
    obtain ⟨g', fg, sg, xg⟩ := pass_step S1 x v y (by omega) ok (by rw [o1 308 (by decide)]; exact eF) (fun b p q => by rw [o1 b (by omega)]; exact eC b p q) (by rw [o1 308 (by decide)]; exact eD) si
    refine Or.inr ⟨(g', nI (i + 1)), ⟨rfl, sg, xg⟩, ?_⟩
    rw [es]
    show b_X12_ahead_58 (f_X12_ahead_58 k) s.1 308 x1 (nI n) x3 (nI i) = _
    simp only [b_X12_ahead_58, if_neg c, q_308, fg, aBind_some, i1]
  · rintro k s ⟨es, si, x⟩
    refine ⟨s.1, ?_, si, k1.rx x, x⟩
    rw [es]
    show b_X12_ahead_58 (f_X12_ahead_58 k) s.1 308 x1 (nI n) x3 (nI n) = _
    simp only [b_X12_ahead_58, if_pos (Int32.le_refl (nI n)), q_308]
/-- how a question of n fairs ends -/
theorem ahead_fin {h h1 g h0 : aH} (hV : Inv h) (u1 : Upd qC h h1) (S1 : Str h1) {n : Nat} {f : Option Nat} (x : RX (wI h1 324 (va_cpy (hI h1 318) (hI h1 324) 10 0 68)) g) (sg : hI g 318 = passN h0 f (hI h 318) n) (k : Kp g (hI h 318)) (r : Int32) :
    b_X12_ahead_111 g 308 r = some (r, wI g 318 (hI h 318)) ∧ Inv (wI g 318 (hI h 318)) := by
  have v : VS (hI h 318) := hV.2.2.2.1.2.1.1
  have y : YR (hI h 318) 999 := hV.2.2.2.1.2.1.2.2
  have Sg : Str g := x.str (show Str (wI h1 324 _) from S1)
  have lb := k.lays Sg (fun j hj => by rw [sg, (passN_ok v y n).2.1 j (by omega)])
  constructor
  · simp only [b_X12_ahead_111, q_308, lb, aBind_some]
  · have uu : Upd Sq h (wI g 318 (hI h 318)) := ((u1.mono (fun b hb => by unfold Sq; unfold qC at hb; omega)).tr ((Upd.wI (A := Sq) (by unfold Sq; omega)).tr (x.1.mono (fun b hb => by unfold Sq; omega)))).tr (Upd.wI (by unfold Sq; omega))
    refine hV.query uu (hI_wI_eq _ _ _) (fun j hj => ?_)
    rw [hI_wI_ne _ _ (by decide), x.key j hj, hI_wI_ne _ _ (by decide), u1.2.2.1 308 (by unfold qC; omega)]
theorem op_ahead : Op_ahead Inv := by
  intro h hV x1 x2 x3
  have hS := hV.1
  have r : RSt h 19 (hI h 318) := hV.2.2.2.1.1
  have v : VS (hI h 318) := hV.2.2.2.1.2.1.1
  have y : YR (hI h 318) 999 := hV.2.2.2.1.2.1.2.2
  have v3 := v.e3.2
  have v4 := v.e4.2
  have n1 : ¬ (1 : Int32) = 0 := by decide
  have i2 : ∀ g, f_X12_in g x2.toInt64 0 60 = some (if 0 ≤ x2 ∧ x2 ≤ 60 then 1 else 0, g) := fun g => in_i (h := g) x2 0 60 (by decide) (by decide)
  have i3 : ∀ g, f_X12_in g x3.toInt64 0 3 = some (if 0 ≤ x3 ∧ x3 ≤ 3 then 1 else 0, g) := fun g => in_i (h := g) x3 0 3 (by decide) (by decide)
  have badC : (¬ (0 ≤ x2 ∧ x2 ≤ 60) ∨ ¬ (0 ≤ x3 ∧ x3 ≤ 3)) → f_X11_ahead h 0 x1 x2 x3 = some (-2, h) := fun b => by
    by_cases c : x3 = 3
    · simp only [f_X11_ahead, q_0, r_0_5 hS, r_11_1 hS, Option.bind_some, q_11, if_pos c, qst0 m19, hasWest_eq m19, aBind_some, aheadC_bad b]
    · simp only [f_X11_ahead, q_0, r_0_5 hS, r_11_1 hS, Option.bind_some, q_11, if_neg c, qst0 m19, hasEast_eq m19, aBind_some, aheadC_bad b]
  by_cases nb2 : ¬ (0 ≤ x2 ∧ x2 ≤ 60)
  · have b2 := nb2
    refine ⟨-2, h, h, badC (Or.inl b2), ?_, hV⟩
    show f_X12_ahead h 308 x1 x2 x3 = _
    simp only [f_X12_ahead, i2, if_neg b2, aBind_some, if_true]
  have b2 := Decidable.not_not.mp nb2
  by_cases nb3 : ¬ (0 ≤ x3 ∧ x3 ≤ 3)
  · have b3 := nb3
    refine ⟨-2, h, h, badC (Or.inr b3), ?_, hV⟩
    show f_X12_ahead h 308 x1 x2 x3 = _
    simp only [f_X12_ahead, i2, if_pos b2, i3, if_neg b3, aBind_some, if_neg n1, if_true]
  have b3 := Decidable.not_not.mp nb3
  obtain ⟨n, hn, en⟩ := btw_nI (M := 60) (m := 60) b2 (by decide)
  obtain ⟨f, e21, e6, ok, ri⟩ := hV.rule
  have e23 : hI h 308 23 = 0 := hV.2.2.2.2.2.2.2
  obtain ⟨h1, f1, r1, u1⟩ := after_eq hS m19 (by decide) r v y (by decide) ok (fun _ _ _ => rfl) hn
  have S1 := u1.str hS
  have o1 : ∀ b, ¬ qC b → hI h1 b = hI h b := fun b hb => u1.2.2.1 b hb
  have s18 : hI h1 318 = hI h 318 := o1 318 (by unfold qC; omega)
  obtain ⟨vn, on, yn⟩ := passN_ok (h0 := h) (f := f) v y n
  obtain ⟨g, fg, sg, kg, xg⟩ := aheadR S1 s18 v y (by decide) ok (by rw [o1 308 (by unfold qC; omega)]; exact e21) (fun b p q => by rw [o1 b (by unfold qC; omega)]) (by rw [o1 308 (by unfold qC; omega)]; exact e23) hn x1 x3
  have fin := fun w => ahead_fin hV u1 S1 xg sg kg w
  have Sg : Str g := xg.str (show Str (wI h1 324 _) from S1)
  rw [← en] at f1
  have c20 : ¬ x2 < 0 := Int32.not_lt.mpr b2.1
  have c260 : ¬ 60 < x2 := Int32.not_lt.mpr b2.2
  have c30 : ¬ x3 < 0 := Int32.not_lt.mpr b3.1
  have hC : b_X11_ahead_29 h 0 x1 x2 x3 19 1 = (if x3 = 0 then aBind (f_X8_partnerOf h1 46 0 x1) (fun r32 h33 => some (r32, h33)) else if x3 = 1 then aBind (f_X8_likeOfPartner h1 46 x1) (fun r32 h33 => some (r32, h33)) else if x3 = 2 then aBind (f_X8_purseOf h1 46 0 x1) (fun r32 h33 => some (r32, h33)) else aBind (f_X8_purseOf h1 46 1 x1) (fun r32 h33 => some (r32, h33))) := by
    simp only [b_X11_ahead_29, if_neg n1, if_neg c20, if_neg c260, if_neg c30, if_pos b3.2, q_0, r_0_12 hS, Option.bind_some, ruleIn_eq hS ri e6, aBind_some, q_45, f1, q_46]
  rw [← en] at fg
  have e3' : nE (passN h f (hI h 318) n) = nE (hI h 318) := nE_of (on 3 (by omega))
  by_cases w3 : x3 = 3
  · rcases hasWestV v x1 with z | ⟨w, hw, rfl⟩
    · refine ⟨-2, h, h, ?_, ?_, hV⟩
      · show f_X11_ahead h 0 x1 x2 x3 = _
        simp only [f_X11_ahead, q_0, r_0_5 hS, r_11_1 hS, Option.bind_some, q_11, if_pos w3, qst0 m19, noWest m19 r z, aBind_some, b_X11_ahead_29, if_true]
      · show f_X12_ahead h 308 x1 x2 x3 = _
        simp only [f_X12_ahead, i2, if_pos b2, i3, if_pos b3, aBind_some, if_neg n1, if_pos w3, q_308, noWestR hS z, if_true]
    · refine ⟨passN h f (hI h 318) n (27 + 4 * w), h1, wI g 318 (hI h 318), ?_, ?_, (fin 0).2⟩
      · show f_X11_ahead h 0 (nI w) x2 x3 = _
        simp only [f_X11_ahead, q_0, r_0_5 hS, r_11_1 hS, Option.bind_some, q_11, if_pos w3, qst0 m19, yesWest m19 r v hw, aBind_some, hC]
        rw [w3, if_neg (by decide), if_neg (by decide), if_neg (by decide), purseS1 S1 m46 r1 (by omega)]
        rfl
      · have yw : f_X12_isWest h1 308 (nI w) = some (1, h1) := yesWestR S1 (by rw [s18]; exact v) (by rw [s18]; exact hw)
        have pr := personR1 Sg (p := w) (k := 0) (by omega) (by decide)
        rw [sg] at pr
        show f_X12_ahead h1 308 (nI w) x2 x3 = _
        simp only [f_X12_ahead, i2, if_pos b2, i3, if_pos b3, aBind_some, if_neg n1, if_pos w3, q_308, yw, fg]
        rw [w3, if_neg (by decide), if_neg (by decide), show (3 : Int32) - 2 = 1 by decide, show (0 : Int32) = nI 0 from rfl, pr]
        exact (fin _).1
  · rcases hasEastV v x1 with z | ⟨e, he, rfl⟩
    · refine ⟨-2, h, h, ?_, ?_, hV⟩
      · show f_X11_ahead h 0 x1 x2 x3 = _
        simp only [f_X11_ahead, q_0, r_0_5 hS, r_11_1 hS, Option.bind_some, q_11, if_neg w3, qst0 m19, noEast m19 r z, aBind_some, b_X11_ahead_29, if_true]
      · show f_X12_ahead h 308 x1 x2 x3 = _
        simp only [f_X12_ahead, i2, if_pos b2, i3, if_pos b3, aBind_some, if_neg n1, if_neg w3, q_308, noEastR hS z, if_true]
    · have ye : f_X12_isEast h1 308 (nI e) = some (1, h1) := yesEastR S1 (by rw [s18]; exact v) (by rw [s18]; exact he)
      have hcl : f_X11_ahead h 0 (nI e) x2 x3 = b_X11_ahead_29 h 0 (nI e) x2 x3 19 1 := by
        simp only [f_X11_ahead, q_0, r_0_5 hS, r_11_1 hS, Option.bind_some, q_11, if_neg w3, qst0 m19, yesEast m19 r v he, aBind_some]
      have hrf : f_X12_ahead h1 308 (nI e) x2 x3 = b_X12_ahead_51 h1 308 (nI e) x2 x3 := by
        simp only [f_X12_ahead, i2, if_pos b2, i3, if_pos b3, aBind_some, if_neg n1, if_neg w3, q_308, ye]
      rcases what4 b3 with z | z | z | z
      · refine ⟨passN h f (hI h 318) n (12 + 4 * e), h1, wI g 318 (hI h 318), ?_, ?_, (fin 0).2⟩
        · show f_X11_ahead h 0 (nI e) x2 x3 = _
          rw [hcl, hC, if_pos z, partnerS0 S1 m46 r1 (by omega)]; rfl
        · have pr := withR0 Sg (p := e) (by omega)
          rw [sg] at pr
          show f_X12_ahead h1 308 (nI e) x2 x3 = _
          rw [hrf, fg, if_pos z, pr]; exact (fin _).1
      · refine ⟨likeP (passN h f (hI h 318) n) e, h1, wI g 318 (hI h 318), ?_, ?_, (fin 0).2⟩
        · show f_X11_ahead h 0 (nI e) x2 x3 = _
          rw [hcl, hC, z, if_neg (by decide), if_pos rfl, likePS S1 m46 r1 vn (by rw [e3']; exact he)]; rfl
        · show f_X12_ahead h1 308 (nI e) x2 x3 = _
          rw [hrf, fg, z, if_neg (by decide), if_pos rfl, likePR Sg sg vn (by rw [e3']; exact he)]; exact (fin _).1
      · refine ⟨passN h f (hI h 318) n (11 + 4 * e), h1, wI g 318 (hI h 318), ?_, ?_, (fin 0).2⟩
        · show f_X11_ahead h 0 (nI e) x2 x3 = _
          rw [hcl, hC, z, if_neg (by decide), if_neg (by decide), if_pos rfl, purseS0 S1 m46 r1 (by omega)]; rfl
        · have pr := personR0 Sg (p := e) (k := 0) (by omega) (by decide)
          rw [sg] at pr
          show f_X12_ahead h1 308 (nI e) x2 x3 = _
          rw [hrf, fg, z, if_neg (by decide), if_neg (by decide), show (2 : Int32) - 2 = 0 by decide, show (f_X12_personOf g 308 0 (nI e) 0) = _ from pr]; exact (fin _).1
      · exact absurd z w3
