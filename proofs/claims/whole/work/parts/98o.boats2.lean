theorem sh_8 : ∀ Y, Y < 9 → (((8 - nI Y) &&& 31).toBitVec.smod 32).toNat = 8 - Y := by decide +kernel
theorem nI_z {n : Nat} (h : n < 2 ^ 31) : (nI n = 0) ↔ n = 0 := nI_eq (b := 0) h (by decide)
abbrev bC : Nat → Prop := fun b => pC 58 b ∨ b = 57
theorem bC_58 : ∀ c, pC 58 c → bC c := fun c hc => Or.inl hc
theorem bCn {c : Nat} (h : c < 40 ∨ (45 ≤ c ∧ c < 57) ∨ 65 ≤ c) : ¬ bC c := by unfold bC pC stA; omega
theorem searchC {h h0 : aH} (hS : Str h) {S0 : Row} (r : RSt h 12 S0) (v : VS S0) (e10 : S0 10 = 0) {f : Option Nat} (ok : RlOK h0 f) (eC : ∀ b, 66 ≤ b → b ≤ 95 → hI h b = hI h0 b) {m : Nat} (b : NtB S0 m) (c : NtC h S0 m) :
    ∃ h', f_X4_searchBoats h 57 11 (rlA f) = some ((), h') ∧ hI h' 57 4 = nI (btI (btB h0 f S0 m) 256).1 ∧ hI h' 57 5 = (btI (btB h0 f S0 m) 256).2.1 ∧ hI h' 57 6 = (if (btI (btB h0 f S0 m) 256).1 = 0 then 0 else nI (btI (btB h0 f S0 m) 256).2.2) ∧ Upd bC h h' := by
  have lF := fT_le b m (Nat.le_refl m)
  obtain ⟨Y, eY⟩ : ∃ Y, Y = (if fT S0 m < 8 then fT S0 m else 8) := ⟨_, rfl⟩
  have hY : Y = 8 ∨ (Y = fT S0 m ∧ Y ≤ 8) := by rw [eY]; split <;> omega
  have Y8 : Y ≤ 8 := by omega
  have yI : (if nI (fT S0 m) < 8 then nI (fT S0 m) else 8) = nI Y := by
    rw [eY]
    by_cases q : fT S0 m < 8
    · rw [if_pos q, if_pos (show nI (fT S0 m) < 8 from nI_lt (b := 8) q (by decide))]
    · rw [if_neg q, if_neg (show ¬ nI (fT S0 m) < 8 from nI_nlt (b := 8) (by omega) (by omega))]; rfl
  have P256 : 2 ^ Y ≤ 2 ^ 8 := Nat.pow_le_pow_right (by decide) Y8
  obtain ⟨B, eB⟩ : ∃ B : Nat → Bool, B = btB h0 f S0 m := ⟨_, rfl⟩
  have all := bt_all (B := B) Y8 (by rw [eB]; exact bt_mod v e10 b hY)
  rw [← eB]
  obtain ⟨h1, e1⟩ : ∃ h1, h1 = pI (pI h 57 5 (-2)) 57 6 255 := ⟨_, rfl⟩
  have u1 : Upd bC h h1 := by rw [e1]; exact (Upd.pI (Or.inr rfl)).tr (Upd.pI (Or.inr rfl))
  have k1 : hI h1 57 = upd (upd (hI h 57) 5 (-2)) 6 255 := by rw [e1, hI_eq, hI_eq]
  have key : ∃ h', f_X4_searchBoats_29 2000 h1 57 11 (rlA f) (nI Y) 0 0 = some ((), h') ∧ hI h' 57 4 = nI (btI B 256).1 ∧ hI h' 57 5 = (btI B 256).2.1 ∧ hI h' 57 6 = (if (btI B 256).1 = 0 then 0 else nI (btI B 256).2.2) ∧ Upd bC h h' := by
    refine itLoop (σ := aH × Int32 × Int32) (fun k s => f_X4_searchBoats_29 k s.1 57 11 (rlA f) (nI Y) s.2.1 s.2.2) (fun i s => s = (s.1, nI (btI B i).1, nI i) ∧ hI s.1 57 5 = (btI B i).2.1 ∧ hI s.1 57 6 = nI (btI B i).2.2 ∧ Upd bC h s.1)
      (fun o => ∃ h', o = some ((), h') ∧ hI h' 57 4 = nI (btI B 256).1 ∧ hI h' 57 5 = (btI B 256).2.1 ∧ hI h' 57 6 = (if (btI B 256).1 = 0 then 0 else nI (btI B 256).2.2) ∧ Upd bC h h') (2 ^ Y) ?_ ?_ 2000 0 (h1, 0, 0) ⟨rfl, by rw [k1, upd_ne _ _ (by decide), upd_at]; rfl, by rw [k1, upd_at]; rfl, u1⟩ (Nat.zero_le _) (by omega)
    · rintro k i s hi ⟨es, a5, a6, u⟩
      have Ss := u.str hS
      have i256 : i < 256 := by omega
      have bl := bt_le (B := B) i
      have o : ∀ b, ¬ bC b → hI s.1 b = hI h b := fun b hb => u.2.2.1 b hb
      have q : ¬ (1 : Int32) <<< (nI Y &&& 31) ≤ nI i := by rw [one_sh Y (by omega)]; exact nI_ge hi (by omega)
      obtain ⟨hA, fA, rA, uA⟩ := copyFrom_eq Ss m58 m12 (by decide) (r.up u (fun b p q => bCn (by omega))) v.1
      have SA := uA.str Ss
      have l12 : hL hA 12 6 = lateOf S0 := by
        rw [uA.2.2.2 12 (by unfold stA; omega), u.2.2.2 12 (bCn (by omega))]; exact r.s6
      obtain ⟨g, eg⟩ : ∃ g, g = pL hA 58 6 (lateOf (bS S0 i)) := ⟨_, rfl⟩
      have Sg : Str g := by rw [eg]; exact SA
      have rg : RSt g 58 (bS S0 i) := by rw [eg]; exact rA.wLt (fun j p q s => bS_o S0 i p) rfl
      have ug : Upd bC h g := by rw [eg]; exact (u.tr (uA.mono (fun c hc => Or.inl (Or.inl hc)))).tr (Upd.pL (by unfold bC pC stA; omega))
      have hj : ∀ j, 78 ≤ j → bS S0 i j = S0 j := fun j h => bS_o S0 i (by omega)
      obtain ⟨h2, f2, u2⟩ := fitsC Sg rg (v.bS i256) ⟨0, Nat.le_refl 0, by rw [bS_o S0 i (by decide)]; exact e10⟩ ok (fun b p q => by rw [ug.2.2.1 b (bCn (by omega)), eC b p q]) (b.of hj) (by
        have c' := c.of hj
        unfold NtC
        rw [ug.2.2.1 11 (bCn (by omega)), ug.2.2.1 26 (bCn (by omega)), ug.2.2.1 27 (bCn (by omega)), ug.2.2.1 28 (bCn (by omega))]
        exact c')
      have eBi : fitP h0 f (bS S0 i) m 31 = B i := by rw [eB]; rfl
      rw [eBi] at f2
      have S2 := u2.str Sg
      have U2 : Upd bC h h2 := ug.tr (u2.mono bC_58)
      have o57 : hI h2 57 = hI s.1 57 := by
        rw [u2.2.2.1 57 (pC58n (by omega)), eg]
        show hI hA 57 = _
        rw [uA.2.2.1 57 (by unfold stA; omega)]
      have lt : ((hL hA 12 6) &&& (-256)) ||| (nI i).toInt64 = lateOf (bS S0 i) := by rw [l12]; exact bS_l v.lt i256
      obtain ⟨g2, eg2⟩ : ∃ g2, g2 = pI (pI h2 57 5 (if (btI B i).1 = 0 then nI i else (btI B i).2.1)) 57 6 (nI ((btI B i).2.2 &&& i)) := ⟨_, rfl⟩
      have hd : f_X4_searchBoats_29 (k + 1) s.1 57 11 (rlA f) (nI Y) s.2.1 s.2.2 = if B i = true then f_X4_searchBoats_29 k g2 57 11 (rlA f) (nI Y) (nI ((btI B i).1 + 1)) (nI (i + 1)) else f_X4_searchBoats_29 k h2 57 11 (rlA f) (nI Y) (nI (btI B i).1) (nI (i + 1)) := by
        rw [es]
        show b_X4_searchBoats_29 (f_X4_searchBoats_29 k) s.1 57 11 (rlA f) (nI Y) (nI (btI B i).1) (nI i) = _
        have a6' : hI (pI h2 57 5 (nI i)) 57 6 = nI (btI B i).2.2 := by rw [hI_eq, upd_ne _ _ (by decide), o57]; exact a6
        have a6'' : hI (pI h2 57 5 (btI B i).2.1) 57 6 = nI (btI B i).2.2 := by rw [hI_eq, upd_ne _ _ (by decide), o57]; exact a6
        have a5' : hI h2 57 5 = (btI B i).2.1 := by rw [o57]; exact a5
        have an : nI (btI B i).2.2 &&& nI i = nI ((btI B i).2.2 &&& i) := nI_and (by omega) (by omega)
        simp only [b_X4_searchBoats_29, if_neg q, q_57, r_57_1 Ss, Option.bind_some, q_11, r_11_0 Ss, qst0 m58, fA, aBind_some, r_57_1 SA, r_11_0 SA, qst0 m12, aLet, lt, ← eg, f2, bB_0, b_X4_searchBoats_111, b_X4_searchBoats_94, i1]
        by_cases z : (btI B i).1 = 0
        · rw [if_pos z] at eg2
          simp only [if_pos ((nI_z (show (btI B i).1 < 2 ^ 31 by omega)).mpr z), a6', an, ← eg2]
        · rw [if_neg z] at eg2
          simp only [if_neg (fun y => z ((nI_z (show (btI B i).1 < 2 ^ 31 by omega)).mp y)), a5', a6'', an, ← eg2]
      have k2 : hI g2 57 = upd (upd (hI h2 57) 5 (if (btI B i).1 = 0 then nI i else (btI B i).2.1)) 6 (nI ((btI B i).2.2 &&& i)) := by rw [eg2, hI_eq, hI_eq]
      cases eb : B i with
      | true =>
        have e2 : btI B (i + 1) = ((btI B i).1 + 1, (if (btI B i).1 = 0 then nI i else (btI B i).2.1), (btI B i).2.2 &&& i) := by rw [btI, if_pos eb]
        rw [if_pos eb] at hd
        refine Or.inr ⟨(g2, nI ((btI B i).1 + 1), nI (i + 1)), ⟨by rw [e2], ?_, ?_, ?_⟩, hd⟩
        · show hI g2 57 5 = _
          rw [k2, upd_ne _ _ (by decide), upd_at, e2]
        · show hI g2 57 6 = _
          rw [k2, upd_at, e2]
        · rw [eg2]; exact (U2.tr (Upd.pI (Or.inr rfl))).tr (Upd.pI (Or.inr rfl))
      | false =>
        have nb' : ¬ B i = true := by rw [eb]; decide
        have e2 : btI B (i + 1) = btI B i := by rw [btI, if_neg nb']
        rw [if_neg nb'] at hd
        exact Or.inr ⟨(h2, nI (btI B i).1, nI (i + 1)), ⟨by rw [e2], by rw [e2, o57]; exact a5, by rw [e2, o57]; exact a6, U2⟩, hd⟩
    · rintro k s ⟨es, a5, a6, u⟩
      have bl := bt_le (B := B) (2 ^ Y)
      have q : (1 : Int32) <<< (nI Y &&& 31) ≤ nI (2 ^ Y) := by rw [one_sh Y (by omega)]; exact Int32.le_refl _
      have mm : (btI B (2 ^ Y)).1 * 2 ^ (8 - Y) ≤ 256 := by
        have : (btI B (2 ^ Y)).1 * 2 ^ (8 - Y) ≤ 2 ^ Y * 2 ^ (8 - Y) := Nat.mul_le_mul_right _ bl.1
        rw [← Nat.pow_add, show Y + (8 - Y) = 8 by omega] at this
        exact this
      have sl : nI (btI B (2 ^ Y)).1 <<< ((8 - nI Y) &&& 31) = nI ((btI B (2 ^ Y)).1 * 2 ^ (8 - Y)) := pk_shlN _ (8 - Y) (sh_8 Y (by omega)) (by omega)
      have e1' : (btI B 256).1 = (btI B (2 ^ Y)).1 * 2 ^ (8 - Y) := by rw [all, Nat.mul_comm]
      have e2' : (btI B 256).2 = (btI B (2 ^ Y)).2 := by rw [all]
      have z1 : (btI B 256).1 = 0 ↔ (btI B (2 ^ Y)).1 = 0 := by
        rw [e1']
        have p0 : 0 < 2 ^ (8 - Y) := Nat.pow_pos (by decide)
        constructor
        · intro z
          rcases Nat.mul_eq_zero.mp z with y | y
          · exact y
          · omega
        · intro z; rw [z, Nat.zero_mul]
      obtain ⟨g, eg⟩ : ∃ g, g = pI s.1 57 4 (nI (btI B 256).1) := ⟨_, rfl⟩
      have kg : hI g 57 = upd (hI s.1 57) 4 (nI (btI B 256).1) := by rw [eg, hI_eq]
      have ug : Upd bC h g := by rw [eg]; exact u.tr (Upd.pI (Or.inr rfl))
      have g6 : hI g 57 6 = nI (btI B 256).2.2 := by rw [kg, upd_ne _ _ (by decide), e2']; exact a6
      refine ⟨pI g 57 6 (if (btI B 256).1 = 0 then 0 else nI (btI B 256).2.2), ?_, ?_, ?_, ?_, ug.tr (Upd.pI (Or.inr rfl))⟩
      · rw [es]
        show b_X4_searchBoats_29 (f_X4_searchBoats_29 k) s.1 57 11 (rlA f) (nI Y) (nI (btI B (2 ^ Y)).1) (nI (2 ^ Y)) = _
        simp only [b_X4_searchBoats_29, if_pos q, q_57, sl, ← e1', aLet, ← eg, b_X4_searchBoats_142, g6]
        by_cases z : (btI B (2 ^ Y)).1 = 0
        · rw [if_pos ((nI_z (show (btI B (2 ^ Y)).1 < 2 ^ 31 by omega)).mpr z), if_pos (z1.mpr z)]
        · rw [if_neg (fun y => z ((nI_z (show (btI B (2 ^ Y)).1 < 2 ^ 31 by omega)).mp y)), if_neg (fun y => z (z1.mp y))]
      · rw [hI_eq, upd_ne _ _ (by decide), kg, upd_at]
      · rw [hI_eq, upd_ne _ _ (by decide), kg, upd_ne _ _ (by decide), e2']; exact a5
      · rw [hI_eq, upd_at]
  obtain ⟨h', f', a, b', c', d'⟩ := key
  refine ⟨h', ?_, a, b', c', d'⟩
  simp only [f_X4_searchBoats, q_11, fairsTo_eq hS b c, aBind_some, aLet, yI, q_57, ← e1, f']
theorem boatsR {g h : aH} (hS : Str g) {S : Row} (vS : VS S) (tS : VT S) (eS : hI g 318 = S) {f : Option Nat} (ok : RlOK h f) (eF : hI g 308 21 = frI f) (eC : ∀ b, 310 ≤ b → b ≤ 313 → hI g b = hI h b) (eD : hI g 308 23 = 0) (kp : Kp g S) {m : Nat} (b : NtB S m) (x2 W : Int32) :
    ∃ g', f_X12_boats_64 2000 g 308 x2 W 0 (-2) 255 0 = some (if x2 = 0 then nI (btI (btB h f (beginOf S) m) 256).1 else if x2 = 1 then (btI (btB h f (beginOf S) m) 256).2.1 else (if (btI (btB h f (beginOf S) m) 256).1 = 0 then 0 else nI (btI (btB h f (beginOf S) m) 256).2.2), g') ∧ hI g' 318 = S ∧ hI g' 308 21 = W ∧ Upd (fun c => c = 308 ∨ (314 ≤ c ∧ c ≤ 322) ∨ c = 328) g g' ∧ (∀ j, j ≠ 18 → j ≠ 21 → hI g' 308 j = hI g 308 j) := by
  have v0 := vS.begin tS
  have b0 : NtB (beginOf S) m := b.of (fun j hj => beginOf_hi hj)
  obtain ⟨B, eB⟩ : ∃ B : Nat → Bool, B = btB h f (beginOf S) m := ⟨_, rfl⟩
  rw [← eB]
  refine itLoop (σ := aH × Int32 × Int32 × Int32 × Int32) (fun k s => f_X12_boats_64 k s.1 308 x2 W s.2.1 s.2.2.1 s.2.2.2.1 s.2.2.2.2) (fun i s => s = (s.1, nI (btI B i).1, (btI B i).2.1, nI (btI B i).2.2, nI i) ∧ (∀ j, j < 10 ∨ 78 ≤ j → hI s.1 318 j = S j) ∧ KX g s.1)
    (fun o => ∃ g', o = some (if x2 = 0 then nI (btI B 256).1 else if x2 = 1 then (btI B 256).2.1 else (if (btI B 256).1 = 0 then 0 else nI (btI B 256).2.2), g') ∧ hI g' 318 = S ∧ hI g' 308 21 = W ∧ Upd (fun c => c = 308 ∨ (314 ≤ c ∧ c ≤ 322) ∨ c = 328) g g' ∧ (∀ j, j ≠ 18 → j ≠ 21 → hI g' 308 j = hI g 308 j)) 256 ?_ ?_ 2000 0 (g, 0, -2, 255, 0) ⟨rfl, fun j _ => by rw [eS], KX.rf g⟩ (by omega) (by omega)
  · rintro k i s hi ⟨es, a3, x⟩
    have Ss := x.1.str hS
    have bl := bt_le (B := B) i
    have q : ¬ (256 : Int32) ≤ nI i := nI_ge (b := 256) hi (by decide)
    have bg := begins_eq Ss
    rw [beginOf_eq a3] at bg
    obtain ⟨g1, eg1⟩ : ∃ g1, g1 = wI s.1 318 (beginOf S) := ⟨_, rfl⟩
    rw [← eg1] at bg
    have S1 : Str g1 := by rw [eg1]; exact Ss
    have s1 : hI g1 318 = beginOf S := by rw [eg1, hI_wI_eq]
    obtain ⟨g2, eg2⟩ : ∃ g2, g2 = wI g1 318 (bS (beginOf S) i) := ⟨_, rfl⟩
    have S2 : Str g2 := by rw [eg2]; exact S1
    have x2' : KX g g2 := by rw [eg2, eg1]; exact (x.tr (RX.wI (by omega)).kx).tr (RX.wI (by omega)).kx
    have hj : ∀ j, 78 ≤ j → bS (beginOf S) i j = beginOf S j := fun j h => bS_o _ i (by omega)
    obtain ⟨g3, f3, s3, w3, x3⟩ := isSoR (th := none) S2 (v0.bS hi) ⟨0, Nat.le_refl 0, by rw [bS_o _ i (by decide)]; rfl⟩ ok (by rw [x2'.2 21 (by decide)]; exact eF) (fun b p q => by rw [x2'.1.2.2.1 b (by omega), eC b p q]) (by rw [x2'.2 23 (by decide)]; exact eD) (by rw [eg2, hI_wI_eq]) (b0.of hj) (r := 0) (by decide) (fun t q => by cases q)
    have f3' : f_X12_isSo g2 308 0 (-1) = some (bB (B i), g3) := by rw [eB]; exact f3
    have v0i := v0.bS hi
    refine Or.inr ⟨(g3, nI (btI B (i + 1)).1, (btI B (i + 1)).2.1, nI (btI B (i + 1)).2.2, nI (i + 1)), ⟨rfl, fun j hj' => ?_, x2'.tr x3⟩, ?_⟩
    · show hI g3 318 j = S j
      rw [s3, (passN_ok v0i (⟨0, Nat.le_refl 0, by rw [bS_o _ i (by decide)]; rfl⟩ : YR (bS (beginOf S) i) 0) 31).2.1 j (by omega), bS_o _ i (by omega)]
      rcases hj' with hj' | hj'
      · exact beginOf_lo hj'
      · exact beginOf_hi hj'
    · rw [es]
      show b_X12_boats_64 (f_X12_boats_64 k) s.1 308 x2 W (nI (btI B i).1) (btI B i).2.1 (nI (btI B i).2.2) (nI i) = f_X12_boats_64 k g3 308 x2 W (nI (btI B (i + 1)).1) (btI B (i + 1)).2.1 (nI (btI B (i + 1)).2.2) (nI (i + 1))
      have bs : upd (beginOf S) 75 (beginOf S 75 / 256 * 256 + nI i) = bS (beginOf S) i := rfl
      have an : nI (btI B i).2.2 &&& nI i = nI ((btI B i).2.2 &&& i) := nI_and (by omega) (by omega)
      simp only [b_X12_boats_64, if_neg q, q_308, bg, aBind_some, r_308_20 S1, Option.bind_some, q_318, if_pos in75, cl75, s1, aLet, pI_d, bs, ← eg2, f3', bB_0, b_X12_boats_132, b_X12_boats_122, an, i1]
      by_cases eb : B i = true
      · have e2 : btI B (i + 1) = ((btI B i).1 + 1, (if (btI B i).1 = 0 then nI i else (btI B i).2.1), (btI B i).2.2 &&& i) := by rw [btI, if_pos eb]
        rw [if_pos eb, e2]
        by_cases z : (btI B i).1 = 0
        · rw [if_pos ((nI_z (show (btI B i).1 < 2 ^ 31 by omega)).mpr z)]
          simp only [if_pos z]
        · rw [if_neg (fun y => z ((nI_z (show (btI B i).1 < 2 ^ 31 by omega)).mp y))]
          simp only [if_neg z]
      · have e2 : btI B (i + 1) = btI B i := by rw [btI, if_neg eb]
        rw [if_neg eb, e2]
  · rintro k s ⟨es, a3, x⟩
    have Ss := x.1.str hS
    have bl := bt_le (B := B) 256
    obtain ⟨g2, eg2⟩ : ∃ g2, g2 = pI s.1 308 21 W := ⟨_, rfl⟩
    have S2 : Str g2 := by rw [eg2]; exact Ss
    have o2 : ∀ b, b ≠ 308 → hI g2 b = hI s.1 b := fun b hb => by rw [eg2, hI_ne _ hb]
    have k2 : Kp g2 S := fun j hj => by rw [o2 324 (by decide), x.1.2.2.1 324 (by decide)]; exact kp j hj
    have lay := k2.lays S2 (fun j hj => by rw [o2 318 (by decide)]; exact a3 j hj)
    refine ⟨wI g2 318 S, ?_, hI_wI_eq _ _ _, by rw [hI_wI_ne _ _ (by decide), eg2, hI_eq, upd_at], ?_, fun j p q => ?_⟩
    · rw [es]
      show b_X12_boats_64 (f_X12_boats_64 k) s.1 308 x2 W (nI (btI B 256).1) (btI B 256).2.1 (nI (btI B 256).2.2) (nI 256) = _
      simp only [b_X12_boats_64, if_pos (show (256 : Int32) ≤ nI 256 by decide), q_308, aLet, ← eg2, lay, aBind_some]
      by_cases p0 : x2 = 0
      · rw [if_pos p0, if_pos p0]
      · rw [if_neg p0, if_neg p0]
        by_cases p1 : x2 = 1
        · rw [if_pos p1, if_pos p1]
        · rw [if_neg p1, if_neg p1]
          by_cases z : (btI B 256).1 = 0
          · rw [if_pos ((nI_z (show (btI B 256).1 < 2 ^ 31 by omega)).mpr z), if_pos z]
          · rw [if_neg (fun y => z ((nI_z (show (btI B 256).1 < 2 ^ 31 by omega)).mp y)), if_neg z]
    · rw [eg2]; exact (x.1.tr (Upd.pI (by omega))).tr (Upd.wI (by omega))
    · rw [hI_wI_ne _ _ (by decide), eg2, hI_eq, upd_ne _ _ q, x.2 j p]
theorem op_boats : Op_boats Inv := by
  intro h hV x1 x2
  have hS := hV.1
  have r : RSt h 19 (hI h 318) := hV.2.2.2.1.1
  have v : VS (hI h 318) := hV.2.2.2.1.2.1.1
  have rr := hV.2.2.1
  have n1 : ¬ (1 : Int32) = 0 := by decide
  have i2' : ∀ g, f_X12_in g x2.toInt64 0 2 = some (if 0 ≤ x2 ∧ x2 ≤ 2 then 1 else 0, g) := fun g => in_i (h := g) x2 0 2 (by decide) (by decide)
  rcases v.1 with z | z
  · refine ⟨-3, h, h, ?_, ?_, hV⟩
    · show f_X11_boats h 0 x1 x2 = _
      simp only [f_X11_boats, q_0, r_0_5 hS, r_11_1 hS, Option.bind_some, q_11, qst0 m19, r.s0, z, if_true]
    · show f_X12_boats h 308 x1 x2 = _
      simp only [f_X12_boats, q_308, isIsle_eq hS v, z, aBind_some, if_true]
  by_cases kr : -1 ≤ x1 ∧ x1 < hI h 308 2
  · have c1 : ¬ x1 < -1 := Int32.not_lt.mpr kr.1
    have c2 : ¬ hI h 0 4 ≤ x1 := by rw [rr.1]; exact Int32.not_le.mpr kr.2
    have ir : f_X11_isRuleOrNone h 0 x1 = some (1, h) := by simp only [f_X11_isRuleOrNone, if_neg c1, q_0, if_neg c2]
    have rB : ∀ g, hI g 308 2 = hI h 308 2 → Str g → f_X12_isIsle g 308 = some (1, g) → f_X12_boats g 308 x1 x2 = b_X12_boats_20 g 308 x1 x2 := by
      intro g e2 Sg ii
      by_cases y : x1 = -1
      · simp only [f_X12_boats, q_308, ii, aBind_some, if_neg n1, if_pos y]
      · have y0 : ¬ x1 < 0 := fun w => by
          have a1 := Int32.le_iff_toInt_le.mp kr.1
          have a2 := Int32.lt_iff_toInt_lt.mp w
          have e1 : (-1 : Int32).toInt = -1 := by decide
          have e0 : (0 : Int32).toInt = 0 := by decide
          exact y (Int32.toInt_inj.mp (by rw [e1]; omega))
        have c3 : ¬ hI g 308 2 ≤ x1 := by rw [e2]; exact Int32.not_le.mpr kr.2
        simp only [f_X12_boats, f_X12_isRule, q_308, ii, aBind_some, if_neg n1, if_neg y, if_neg y0, if_neg c3]
    by_cases b2' : 0 ≤ x2 ∧ x2 ≤ 2
    · obtain ⟨f, ef, ok, ri⟩ := rule_num hV kr.1 kr.2
      obtain ⟨m, nb, nc⟩ := hV.nt
      have v0 : VS (beginOf (hI h 318)) := v.begin hV.2.2.2.1.2.1.2.1
      obtain ⟨h1, f1, t4, t5, t6, u1⟩ := searchC hS (hV.2.2.2.1.2.2.1.1 z) v0 rfl ok (fun _ _ _ => rfl) (nb.of (fun j hj => beginOf_hi hj)) (nc.of (fun j hj => beginOf_hi hj))
      have S1 := u1.str hS
      have o1 : ∀ b, ¬ bC b → hI h1 b = hI h b := fun b hb => u1.2.2.1 b hb
      have s18 : hI h1 318 = hI h 318 := o1 318 (bCn (by omega))
      have o8 : hI h1 308 = hI h 308 := o1 308 (bCn (by omega))
      obtain ⟨g1, d1⟩ : ∃ g1, g1 = wI h1 324 (va_cpy (hI h1 318) (hI h1 324) 10 0 68) := ⟨_, rfl⟩
      have k1 : Kp g1 (hI h 318) := by rw [d1, ← s18]; exact Kp.keep h1
      have Sg1 : Str g1 := by rw [d1]; exact S1
      have og : ∀ b, b ≠ 324 → hI g1 b = hI h1 b := fun b hb => by rw [d1, hI_wI_ne _ _ hb]
      obtain ⟨g2, d2⟩ : ∃ g2, g2 = pI g1 308 21 x1 := ⟨_, rfl⟩
      have Sg2 : Str g2 := by rw [d2]; exact Sg1
      have og2 : ∀ b, b ≠ 308 → hI g2 b = hI g1 b := fun b hb => by rw [d2, hI_ne _ hb]
      have k308 : hI g2 308 = upd (hI h 308) 21 x1 := by rw [d2, hI_eq, og 308 (by decide), o8]
      obtain ⟨g, fg, s3, f21, ug, kg⟩ := boatsR (h := h) Sg2 v hV.2.2.2.1.2.1.2.1 (by rw [og2 318 (by decide), og 318 (by decide), s18]) ok (by rw [k308, upd_at]; exact ef) (fun b p q => by rw [og2 b (by omega), og b (by omega), o1 b (bCn (by omega))]) (by rw [k308, upd_ne _ _ (by decide)]; exact hV.2.2.2.2.2.2.2) (fun j hj => by rw [og2 324 (by decide)]; exact k1 j hj) nb x2 (hI h1 308 21)
      refine ⟨if x2 = 0 then nI (btI (btB h f (beginOf (hI h 318)) m) 256).1 else if x2 = 1 then (btI (btB h f (beginOf (hI h 318)) m) 256).2.1 else (if (btI (btB h f (beginOf (hI h 318)) m) 256).1 = 0 then 0 else nI (btI (btB h f (beginOf (hI h 318)) m) 256).2.2), h1, g, ?_, ?_, ?_⟩
      · have ro := ruleOf_eq hS ri
        rw [← ef] at ro
        show f_X11_boats h 0 x1 x2 = _
        simp only [f_X11_boats, q_0, r_0_5 hS, r_11_1 hS, r_0_14 hS, Option.bind_some, q_11, qst0 m19, r.s0, z, if_neg n1, ir, aBind_some, if_neg (Int32.not_lt.mpr b2'.1), if_pos b2'.2, ro, q_57, f1, r_0_14 S1, t4, t5, t6]
        by_cases p0 : x2 = 0
        · rw [if_pos p0, if_pos p0]
        · rw [if_neg p0, if_neg p0]
          by_cases p1 : x2 = 1
          · rw [if_pos p1, if_pos p1]
          · rw [if_neg p1, if_neg p1]
      · have ii := isIsle_eq S1 (by rw [s18]; exact v)
        rw [s18, z] at ii
        show f_X12_boats h1 308 x1 x2 = _
        rw [rB h1 (by rw [o8]) S1 ii]
        simp only [b_X12_boats_20, i2', if_pos b2', aBind_some, if_neg n1, q_308, aLet, keeps_eq S1, ← d1, ← d2]
        rw [fg]
      · have uu : Upd Sq h g := ((u1.mono (fun b hb => by unfold bC pC stA at hb; unfold Sq; omega)).tr (show Upd Sq h1 g1 by rw [d1]; exact Upd.wI (by unfold Sq; omega))).tr ((show Upd Sq g1 g2 by rw [d2]; exact Upd.pI (by unfold Sq; omega)).tr (ug.mono (fun b hb => by unfold Sq; omega)))
        refine hV.query uu s3 (fun j hj => ?_)
        by_cases q : j = 21
        · rw [q, f21, o8]
        · rw [kg j (by unfold keyE at hj; omega) q, k308, upd_ne _ _ q]
    · refine ⟨-3, h, h, ?_, ?_, hV⟩
      · show f_X11_boats h 0 x1 x2 = _
        simp only [f_X11_boats, q_0, r_0_5 hS, r_11_1 hS, Option.bind_some, q_11, qst0 m19, r.s0, z, if_neg n1, ir, aBind_some]
        by_cases c : x2 < 0
        · rw [if_pos c]
        · rw [if_neg c, if_neg (fun q => b2' ⟨Int32.not_lt.mp c, q⟩)]
      · have ii := isIsle_eq hS v
        rw [z] at ii
        show f_X12_boats h 308 x1 x2 = _
        rw [rB h rfl hS ii]
        simp only [b_X12_boats_20, i2', if_neg b2', aBind_some, if_true]
  · have kc : x1 < -1 ∨ (¬ x1 < -1 ∧ hI h 308 2 ≤ x1) := by
      rcases Int32.lt_or_le x1 (-1) with y | y
      · exact Or.inl y
      · exact Or.inr ⟨Int32.not_lt.mpr y, by
          rcases Int32.lt_or_le x1 (hI h 308 2) with w | w
          · exact absurd ⟨y, w⟩ kr
          · exact w⟩
    refine ⟨-3, h, h, ?_, ?_, hV⟩
    · show f_X11_boats h 0 x1 x2 = _
      have ir : f_X11_isRuleOrNone h 0 x1 = some (0, h) := by
        rcases kc with y | ⟨y, w⟩
        · simp only [f_X11_isRuleOrNone, if_pos y]
        · simp only [f_X11_isRuleOrNone, if_neg y, q_0, rr.1, if_pos w]
      simp only [f_X11_boats, q_0, r_0_5 hS, r_11_1 hS, Option.bind_some, q_11, qst0 m19, r.s0, z, if_neg n1, ir, aBind_some, if_true]
    · show f_X12_boats h 308 x1 x2 = _
      have ii := isIsle_eq hS v
      rw [z] at ii
      have y1 : ¬ x1 = -1 := fun y => kr ⟨by rw [y]; decide, by rw [y]; exact Int32.lt_of_lt_of_le (by decide) rr.2.1.1⟩
      have ir : f_X12_isRule h 308 x1 = some (0, h) := by
        rcases kc with y | ⟨y, w⟩
        · simp only [f_X12_isRule, if_pos (Int32.lt_trans y (show (-1 : Int32) < 0 by decide))]
        · simp only [f_X12_isRule, if_neg (Int32.not_lt.mpr (Int32.le_trans rr.2.1.1 w)), q_308, if_pos w]
      simp only [f_X12_boats, q_308, ii, aBind_some, if_neg n1, if_neg y1, ir, if_true]
