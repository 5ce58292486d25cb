/-! ===== isle ===== -/
theorem op_isle : Op_isle Inv := by
  intro h hV _
  have hS := hV.1
  have hV' := hV
  obtain ⟨v0, v1, v2, v3, v4, v5, v6, v7⟩ := hV
  obtain ⟨n, hn, en⟩ := btw_nI v1.2.1 (m := 400) (by decide)
  have b : TB h (hI h 309) n := ⟨hS, by rw [v1.1]; exact en, hn, v1.2.2⟩
  obtain ⟨Q, eQ⟩ : ∃ Q, Q = zrQ (hI h 314) 153 := ⟨_, rfl⟩
  have zq : ∀ j, j < 153 → Q j = 0 := fun j hj => by rw [eQ]; unfold zrQ; rw [if_pos hj]
  have z : ZQ (trM Q 32) := by
    refine ⟨fun j hj => ?_, fun k hk => ?_, fun j h1 h2 => ?_⟩
    · unfold trM; rw [if_neg (by omega)]; exact zq j (by omega)
    · unfold trM; rw [if_pos (by omega)]
    · unfold trM; rw [if_neg (by omega)]; exact zq j h2
  have vq : VQ Q := by
    refine ⟨⟨0, by omega, zq 3 (by omega)⟩, ⟨0, by omega, zq 4 (by omega)⟩, ?_, fun k hk => ⟨?_, ?_⟩⟩
    · unfold LateR
      rw [zq 150 (by omega), zq (150 + 1) (by omega), zq (150 + 2) (by omega)]; decide
    · rw [zq (110 + k) (by omega)]; decide
    · rw [zq (78 + k) (by omega)]; decide
  obtain ⟨h1, e1, u1, r1⟩ := readIntoC b z
  obtain ⟨k1, k2⟩ := rd_first (t := hI h 309) (n := n) Q hn
  rw [k1] at e1 r1
  have S1 := u1.str hS
  obtain ⟨F, eF⟩ : ∃ F, F = (rdF (hI h 309) n 40 0 0 Q).1 := ⟨_, rfl⟩
  rw [← eF] at e1 r1 k2
  have o1 : ∀ c, c ≠ 1 → c < 31 ∨ 38 ≤ c → hI h1 c = hI h c := fun c p q => u1.2.2.1 c (by unfold iA stA; omega)
  have ol1 : ∀ c, c ≠ 1 → c < 31 ∨ 38 ≤ c → hL h1 c = hL h c := fun c p q => u1.2.2.2 c (by unfold iA stA; omega)
  obtain ⟨h2, eh2⟩ : ∃ h2, h2 = pI h1 1 1 0 := ⟨_, rfl⟩
  have S2 : Str h2 := by rw [eh2]; exact S1
  have o2 : ∀ c, c ≠ 1 → hI h2 c = hI h1 c := fun c p => by rw [eh2, hI_ne _ p]
  have ol2 : ∀ c, hL h2 c = hL h1 c := fun c => by rw [eh2]; rfl
  have h211 : hI h2 1 1 = 0 := by rw [eh2, hI_eq, upd_at]
  -- the reference from a heap g of the class's end
  have REF : ∀ g : aH, Str g → (∀ c, 308 ≤ c → hI g c = hI h c) → ∃ h', f_X12_readsAll (wI (pI g 308 11 6) 314 Q) 308 = some (if F = 0 then 1 else 0, h') ∧ Upd (fun c => c = 308 ∨ c = 311 ∨ c = 314) g h' ∧ (∀ j, j ≠ 1 → j ≠ 8 → j ≠ 9 → j ≠ 10 → j ≠ 11 → j ≠ 12 → j ≠ 14 → hI h' 308 j = hI h 308 j) ∧ hI h' 308 1 = 0 ∧ hI h' 308 9 = F ∧ (∀ j, j ≠ 6 → hI h' 311 j = hI h 311 j) ∧ (F = 0 → hI h' 314 = (rdF (hI h 309) n 40 0 0 Q).2 ∧ VQ (hI h' 314) ∧ hI h' 314 0 = 1) := by
    intro g Sg og
    obtain ⟨g1, eg1⟩ : ∃ g1, g1 = wI (pI g 308 11 6) 314 Q := ⟨_, rfl⟩
    have Sg1 : Str g1 := by rw [eg1]; exact Sg
    have q314 : hI g1 314 = Q := by rw [eg1, hI_wI_eq]
    have q308 : hI g1 308 = upd (hI h 308) 11 6 := by rw [eg1, hI_wI_ne _ _ (by decide), hI_eq, og 308 (by omega)]
    have qo : ∀ c, 308 ≤ c → c ≠ 308 → c ≠ 314 → hI g1 c = hI h c := fun c p q r => by rw [eg1, hI_wI_ne _ _ r, hI_ne _ q, og c p]
    have ug : Upd (fun c => c = 308 ∨ c = 311 ∨ c = 314) g g1 := by
      rw [eg1]
      exact (Upd.pI (Or.inl rfl)).tr (Upd.wI (Or.inr (Or.inr rfl)))
    obtain ⟨h', x1, x2, x3, x4, x5, x6, x7⟩ := readsAllR (h := g1) (t := hI h 309) (n := n) ⟨Sg1, by rw [q308, upd_ne _ _ (by decide)]; exact en, hn, fun j hj => by rw [qo 309 (by omega) (by omega) (by omega)]; exact ⟨rfl, (v1.2.2 j hj).2⟩⟩ (by rw [q308, upd_at]) (by rw [q314]; exact vq) (by rw [q314]; exact zq 0 (by omega))
    rw [q314] at x1 x5 x7
    rw [← eF] at x1 x5 x7
    rw [← eg1]
    refine ⟨h', x1, ug.tr x2, fun j a1 a8 a9 a10 a11 a12 a14 => ?_, x4, x5, fun j hj => ?_, x7⟩
    · rw [x3 j a1 a8 a9 a10 a12 a14, q308, upd_ne _ _ a11]
    · rw [x6 j hj, qo 311 (by omega) (by omega) (by omega)]
  have RI : ∀ g : aH, Str g → hI g 314 = hI h 314 → f_X12_isle g 308 = isleT8 (wI (pI g 308 11 6) 314 Q) := fun g Sg g4 => by
    have i8 := isle8 (h := pI g 308 11 6) Sg
    rw [hI_ne _ (show (314 : Nat) ≠ 308 by decide), g4, ← eQ] at i8
    unfold f_X12_isle
    rw [q_308, aLet_e, i8]
  by_cases z0 : F = 0
  · obtain ⟨QF, eQF⟩ : ∃ QF, QF = (rdF (hI h 309) n 40 0 0 Q).2 := ⟨_, rfl⟩
    have rS := r1 z0
    rw [k2 z0, ← eQF] at rS
    obtain ⟨S, eS⟩ : ∃ S, S = flP (upd (dq QF) 0 1) 32 := ⟨_, rfl⟩
    rw [← eS] at rS
    have s0 : S 0 = 1 := by rw [eS]; unfold flP; rw [if_neg (by omega), upd_at]
    have s3 : S 3 = QF 3 := by rw [eS]; unfold flP; rw [if_neg (by omega), upd_ne _ _ (by omega), dq_p (by omega), bo_o (by omega)]
    have rS2 : RSt h2 31 S := rS.u1 (by rw [eh2]; exact Upd.pI rfl)
    have m12 : 12 ∈ stL := by decide
    obtain ⟨h3, f3, ra, ua⟩ := copyFrom_eq S2 m12 m31 (by decide) rS2 (Or.inr s0)
    have S3 := ua.str S2
    have rS3 : RSt h3 31 S := rS2.up ua (fun c p q => by unfold stA; omega)
    obtain ⟨h4, f4, rb, ub⟩ := copyFrom_eq S3 m19 m31 (by decide) rS3 (Or.inr s0)
    have S4 := ub.str S3
    have ra4 : RSt h4 12 S := ra.up ub (fun c p q => by unfold stA; omega)
    have rS4 : RSt h4 31 S := rS3.up ub (fun c p q => by unfold stA; omega)
    obtain ⟨h5, eh5⟩ : ∃ h5, h5 = pI (pI h4 11 5 0) 0 9 0 := ⟨_, rfl⟩
    have S5 : Str h5 := by rw [eh5]; exact S4
    have o5 : ∀ c, c ≠ 0 → c ≠ 11 → hI h5 c = hI h4 c := fun c p q => by rw [eh5, hI_ne _ p, hI_ne _ q]
    have o4 : ∀ c, c < 12 ∨ 26 ≤ c → hI h4 c = hI h2 c := fun c p => by rw [ub.2.2.1 c (by unfold stA; omega), ua.2.2.1 c (by unfold stA; omega)]
    have ol4 : ∀ c, c < 12 ∨ 26 ≤ c → hL h5 c = hL h2 c := fun c p => by
      have e : hL h5 c = hL h4 c := by rw [eh5]; rfl
      rw [e, ub.2.2.2 c (by unfold stA; omega), ua.2.2.2 c (by unfold stA; omega)]
    have k0 : hI h5 0 = upd (hI h 0) 9 0 := by rw [eh5, hI_eq, hI_ne _ (by decide), o4 0 (by omega), o2 0 (by decide), o1 0 (by decide) (by omega)]
    have k11 : hI h5 11 = upd (hI h 11) 5 0 := by rw [eh5, hI_ne _ (by decide), hI_eq, o4 11 (by omega), o2 11 (by decide), o1 11 (by decide) (by omega)]
    have oh : ∀ c, c ≠ 0 → c ≠ 1 → c < 11 ∨ (26 ≤ c ∧ c < 31) ∨ 38 ≤ c → hI h5 c = hI h c := fun c p q r => by rw [o5 c p (by omega), o4 c (by omega), o2 c q, o1 c q (by omega)]
    have ohl : ∀ c, c ≠ 1 → c < 11 ∨ (26 ≤ c ∧ c < 31) ∨ 38 ≤ c → hL h5 c = hL h c := fun c q r => by rw [ol4 c (by omega), ol2 c, ol1 c q (by omega)]
    obtain ⟨h6, x1, x2, x3, x4, x5, x6, x7⟩ := REF h5 S5 (fun c p => oh c (by omega) (by omega) (by omega))
    obtain ⟨y1, y2, y3⟩ := x7 z0
    rw [if_pos z0] at x1
    rw [← eQF] at y1
    rw [y1] at y2 y3
    have S6 := x2.str S5
    obtain ⟨B, eB⟩ : ∃ B, B = beginOf (flR (cpQ QF (hI h6 318) 184) 32) := ⟨_, rfl⟩
    have sr := said_row (S0 := hI h6 318) y2 y3
    have sv := said_v (S0 := hI h6 318) y2 y3
    rw [← eB] at sr sv
    rw [← eS] at sr
    obtain ⟨w1, w2, w3, w4, w5, w6⟩ := sv
    obtain ⟨h7, eh7⟩ : ∃ h7, h7 = pI (wI h6 318 B) 308 29 0 := ⟨_, rfl⟩
    have S7 : Str h7 := by rw [eh7]; exact S6
    have k318 : hI h7 318 = B := by rw [eh7, hI_ne _ (by decide), hI_wI_eq]
    have k308 : hI h7 308 = upd (hI h6 308) 29 0 := by rw [eh7, hI_eq, hI_wI_ne _ _ (by decide)]
    have o7 : ∀ c, c ≠ 308 → c ≠ 311 → c ≠ 314 → c ≠ 318 → hI h7 c = hI h5 c := fun c p q r t => by rw [eh7, hI_ne _ p, hI_wI_ne _ _ t, x2.2.2.1 c (by omega)]
    have ol7 : ∀ c, c ≠ 308 → c ≠ 311 → c ≠ 314 → hL h7 c = hL h5 c := fun c p q r => by
      have e : hL h7 c = hL h6 c := by rw [eh7]; rfl
      rw [e, x2.2.2.2 c (by omega)]
    have k311 : ∀ j, j ≠ 6 → hI h7 311 j = hI h 311 j := fun j hj => by rw [eh7, hI_ne _ (by decide), hI_wI_ne _ _ (by decide)]; exact x6 j hj
    have f8 : ∀ j, j ≠ 1 → j ≠ 8 → j ≠ 9 → j ≠ 10 → j ≠ 11 → j ≠ 12 → j ≠ 14 → j ≠ 29 → hI h7 308 j = hI h 308 j := fun j a1 a8 a9 a10 a11 a12 a14 a29 => by rw [k308, upd_ne _ _ a29]; exact x3 j a1 a8 a9 a10 a11 a12 a14
    refine ⟨S 3, h5, h7, ?_, ?_, ?_⟩
    · have q12 : ∀ {α : Type} {x y : α}, (if (sh 12).1 = 15 then x else y) = x := if_pos (by decide)
      have q19 : ∀ {α : Type} {x y : α}, (if (sh 19).1 = 15 then x else y) = x := if_pos (by decide)
      have v5' : hI h5 31 3 = S 3 := by rw [o5 31 (by decide) (by decide)]; exact rS4.s3
      show f_X11_isle h 0 = _
      simp only [f_X11_isle, q_0, r_0_1 hS, r_0_10 hS, Option.bind_some, q_3, e1, aBind_some, r_0_0 S1, q_1, aLet, if_pos z0, ← eh2, r_0_5 S2, q_11, r_11_0 S2, r_0_10 S2, q12, f3, r_0_5 S3, r_11_1 S3, r_0_10 S3, q19, f4, r_0_5 S4, ← eh5, r_0_10 S5, q_31, v5']
    · show f_X12_isle h5 308 = _
      rw [RI h5 S5 (oh 314 (by omega) (by omega) (by omega))]
      unfold isleT8
      rw [x1, aBind_some, if_neg (by decide), isle45 S6, isle83 (h := wI h6 318 (cpQ (hI h6 314) (hI h6 318) 184)) S6 (hI_wI_eq _ _ _), wI_wI, y1, ← eB, ← eh7, s3]
      rfl
    · obtain ⟨nn, p, hnn, hp, e29, e9, e8, rp⟩ := RPast.nums v5
      refine ⟨S7, ⟨?_, ?_, fun j hj => ?_⟩, v2.mv7 (by rw [o7 0 (by decide) (by decide) (by decide) (by decide), k0, upd_ne _ _ (by decide)]) (f8 2 (by decide) (by decide) (by decide) (by decide) (by decide) (by decide) (by decide) (by decide)) (fun c p q => by rw [o7 c (by omega) (by omega) (by omega) (by omega)]; exact oh c (by omega) (by omega) (by omega)) (by rw [o7 310 (by decide) (by decide) (by decide) (by decide)]; exact oh 310 (by omega) (by omega) (by omega)) k311 (by rw [o7 312 (by decide) (by decide) (by decide) (by decide)]; exact oh 312 (by omega) (by omega) (by omega)) (by rw [o7 313 (by decide) (by decide) (by decide) (by decide)]; exact oh 313 (by omega) (by omega) (by omega)), ?_, ?_, ?_, v6.mv (fun c p q => ⟨by rw [o7 c (by omega) (by omega) (by omega) (by omega)]; exact oh c (by omega) (by omega) (by omega), by rw [ol7 c (by omega) (by omega) (by omega)]; exact ohl c (by omega) (by omega)⟩) (f8 2 (by decide) (by decide) (by decide) (by decide) (by decide) (by decide) (by decide) (by decide)) (fun c p q => by rw [o7 c (by omega) (by omega) (by omega) (by omega)]; exact oh c (by omega) (by omega) (by omega)), ?_⟩
      · rw [o7 1 (by decide) (by decide) (by decide) (by decide), o5 1 (by decide) (by decide), o4 1 (by omega), h211, k308, upd_ne _ _ (by decide), x4]
      · rw [k308, upd_ne _ _ (by decide), x4]; decide
      · rw [o7 2 (by decide) (by decide) (by decide) (by decide), oh 2 (by omega) (by omega) (by omega), o7 309 (by decide) (by decide) (by decide) (by decide), oh 309 (by omega) (by omega) (by omega)]; exact v1.2.2 j hj
      · rw [k318, f8 21 (by decide) (by decide) (by decide) (by decide) (by decide) (by decide) (by decide) (by decide), f8 22 (by decide) (by decide) (by decide) (by decide) (by decide) (by decide) (by decide) (by decide)]
        have mv : ∀ {a : Nat} {T : Row}, (a = 12 ∨ a = 19) → RSt h4 a S → (∀ j, j < 110 → T j = S j) → RSt h7 a T := fun ha r e => r.mv (fun c p q => by rw [o7 c (by omega) (by omega) (by omega) (by omega), o5 c (by omega) (by omega)]) (by rw [ol7 _ (by omega) (by omega) (by omega), eh5]; rfl) e
        have g11 : hI h7 11 = upd (hI h 11) 5 0 := by rw [o7 11 (by decide) (by decide) (by decide) (by decide), k11]
        have bb : ∀ j, j < 110 → beginOf B j = S j := fun j hj => by rw [eB, bo_bo hj, ← eB]; exact sr j hj
        have r12 : RSt h7 12 (beginOf B) := mv (Or.inl rfl) ra4 bb
        refine ⟨mv (Or.inr rfl) rb sr, ⟨w1, w2, w3⟩, ⟨fun _ => r12, ?_⟩, ?_, ?_, ?_, ?_, v3.2.2.2.2.2.2.2.1, fun i hi q => ?_⟩
        · rw [r12.s0, bb 0 (by omega)]; exact Or.inr s0
        · rw [g11, upd_at, w4]
        · rw [w4]; decide
        · rw [g11, upd_ne _ _ (by decide)]; exact v3.2.2.2.2.2.1
        · rw [g11, upd_ne _ _ (by decide)]; exact v3.2.2.2.2.2.2.1
        · rw [w4] at q
          exact absurd q (nI_pos (by omega))
      · rw [f8 21 (by decide) (by decide) (by decide) (by decide) (by decide) (by decide) (by decide) (by decide), f8 2 (by decide) (by decide) (by decide) (by decide) (by decide) (by decide) (by decide) (by decide)]; exact v4
      · exact RPast.mk' (n := 0) (p := p) (by decide) hp (by rw [k308, upd_at]; rfl) (by rw [o7 0 (by decide) (by decide) (by decide) (by decide), k0, upd_at]; rfl) (by rw [o7 0 (by decide) (by decide) (by decide) (by decide), k0, upd_ne _ _ (by decide)]; exact e8) (fun i hi => by omega)
      · rw [f8 23 (by decide) (by decide) (by decide) (by decide) (by decide) (by decide) (by decide) (by decide)]; exact v7
  · have og : ∀ c, 308 ≤ c → hI h2 c = hI h c := fun c p => by rw [o2 c (by omega), o1 c (by omega) (by omega)]
    obtain ⟨h', x1, x2, x3, x4, x5, x6, x7⟩ := REF h2 S2 og
    rw [if_neg z0] at x1
    have oc : ∀ c, c ≠ 308 → c ≠ 311 → c ≠ 314 → hI h' c = hI h2 c := fun c p q r => x2.2.2.1 c (by omega)
    have och : ∀ c, c ≠ 1 → c < 31 ∨ 38 ≤ c → c ≠ 308 → c ≠ 311 → c ≠ 314 → hI h' c = hI h c := fun c a b d e f => by rw [oc c d e f, o2 c a, o1 c a b]
    have ocl : ∀ c, c ≠ 1 → c < 31 ∨ 38 ≤ c → c ≠ 308 → c ≠ 311 → c ≠ 314 → hL h' c = hL h c := fun c a b d e f => by rw [x2.2.2.2 c (by omega), ol2 c, ol1 c a b]
    refine ⟨(-2) - F, h2, h', ?_, ?_, ?_⟩
    · show f_X11_isle h 0 = _
      simp only [f_X11_isle, q_0, r_0_1 hS, r_0_10 hS, Option.bind_some, q_3, e1, aBind_some, r_0_0 S1, q_1, aLet, if_neg z0, ← eh2]
    · show f_X12_isle h2 308 = _
      rw [RI h2 S2 (og 314 (by omega))]
      unfold isleT8
      rw [x1, aBind_some, if_pos rfl, x5]
    · have f8 : ∀ j, j ≠ 1 → j ≠ 8 → j ≠ 9 → j ≠ 10 → j ≠ 11 → j ≠ 12 → j ≠ 14 → hI h' 308 j = hI h 308 j := x3
      refine ⟨x2.str S2, ⟨?_, ?_, fun j hj => ?_⟩, v2.mv7 (by rw [och 0 (by decide) (by omega) (by decide) (by decide) (by decide)]) (f8 2 (by decide) (by decide) (by decide) (by decide) (by decide) (by decide) (by decide)) (fun c p q => och c (by omega) (by omega) (by omega) (by omega) (by omega)) (och 310 (by decide) (by omega) (by decide) (by decide) (by decide)) x6 (och 312 (by decide) (by omega) (by decide) (by decide) (by decide)) (och 313 (by decide) (by omega) (by decide) (by decide) (by decide)), ?_, ?_, ?_, v6.mv (fun c p q => ⟨och c (by omega) (by omega) (by omega) (by omega) (by omega), ocl c (by omega) (by omega) (by omega) (by omega) (by omega)⟩) (f8 2 (by decide) (by decide) (by decide) (by decide) (by decide) (by decide) (by decide)) (fun c p q => och c (by omega) (by omega) (by omega) (by omega) (by omega)), ?_⟩
      · rw [oc 1 (by decide) (by decide) (by decide), h211, x4]
      · rw [x4]; decide
      · rw [och 2 (by decide) (by omega) (by decide) (by decide) (by decide), och 309 (by decide) (by omega) (by decide) (by decide) (by decide)]; exact v1.2.2 j hj
      · rw [och 318 (by decide) (by omega) (by decide) (by decide) (by decide), f8 21 (by decide) (by decide) (by decide) (by decide) (by decide) (by decide) (by decide), f8 22 (by decide) (by decide) (by decide) (by decide) (by decide) (by decide) (by decide)]
        exact v3.mv (fun c p q => ⟨och c (by omega) (by omega) (by omega) (by omega) (by omega), ocl c (by omega) (by omega) (by omega) (by omega) (by omega)⟩) (by rw [och 11 (by decide) (by omega) (by decide) (by decide) (by decide)]) (by rw [och 11 (by decide) (by omega) (by decide) (by decide) (by decide)]; exact v3.2.2.2.2.2.1) (by rw [och 11 (by decide) (by omega) (by decide) (by decide) (by decide)]; exact v3.2.2.2.2.2.2.1) v3.2.2.2.2.2.2.2.1
      · rw [f8 21 (by decide) (by decide) (by decide) (by decide) (by decide) (by decide) (by decide), f8 2 (by decide) (by decide) (by decide) (by decide) (by decide) (by decide) (by decide)]; exact v4
      · exact v5.mv (by rw [och 0 (by decide) (by omega) (by decide) (by decide) (by decide)]) (by rw [och 0 (by decide) (by omega) (by decide) (by decide) (by decide)]) (f8 29 (by decide) (by decide) (by decide) (by decide) (by decide) (by decide) (by decide)) (och 318 (by decide) (by omega) (by decide) (by decide) (by decide)) (och 323 (by decide) (by omega) (by decide) (by decide) (by decide)) (fun c p q => ⟨och c (by omega) (by omega) (by omega) (by omega) (by omega), ocl c (by omega) (by omega) (by omega) (by omega) (by omega)⟩)
      · rw [f8 23 (by decide) (by decide) (by decide) (by decide) (by decide) (by decide) (by decide)]; exact v7
