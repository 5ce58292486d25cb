/-! ===== at a fair: the reference's asking and joining ===== -/
def RAsk (h : aH) (n : Nat) (B A H : Row) : Prop := (∀ e, e < n → hI h 319 e = B e) ∧ ∀ i, i < 4 → hI h 320 i = A i ∧ hI h 322 i = H i ∧ hI h 321 i = b1 (atH H i)
theorem isOf_eq (h : aH) (x : Int32) (w : Nat) : f_X12_isOf h x (nI w) = some (b1 (bitI x w), h) := by
  unfold f_X12_isOf b1
  split <;> rfl
theorem likeB {S : Row} (v : VS S) {e w : Nat} (he : e < 4) (hw : w < 4) : 0 ≤ S (43 + 4 * e + w) ∧ 0 ≤ S (59 + 4 * e + w) := by
  have a := (v.lk (4 * e + w) (by omega)).1.1
  have b := (v.lk (16 + 4 * e + w) (by omega)).1.1
  rw [show 43 + (4 * e + w) = 43 + 4 * e + w by omega] at a
  rw [show 43 + (16 + 4 * e + w) = 59 + 4 * e + w by omega] at b
  exact ⟨a, b⟩
theorem pos_ne {x : Int32} (h : 0 ≤ x) : (x = 0) ↔ ¬ 0 < x := ⟨fun q => by rw [q]; decide, fun q => Int32.le_antisymm (Int32.not_lt.mp q) h⟩
theorem asks_eq {h : aH} (hS : Str h) {S : Row} (eS : hI h 318 = S) (v : VS S) {B A H : Row} (k : RAsk h (nE S) B A H) {e : Nat} (he : e < nE S) : f_X12_asks h 308 (nI e) = some (if S (12 + 4 * e) < 0 ∧ ¬ atH H e then favN S (A e) (B e) e (nW S) else -1, h) := by
  have e4 := v.e4
  have h3 := v.e3.2
  have he4 : e < 4 := by omega
  have n1 : ¬ (1 : Int32) = 0 := by decide
  have fr := isFreeR0 hS he4
  rw [eS] at fr
  have lp : f_X12_asks_24 2000 h 308 (nI e) (-1) 0 = some (favN S (A e) (B e) e (nW S), h) := by
    refine itLoop (σ := Int32 × Int32) (fun n s => f_X12_asks_24 n h 308 (nI e) s.1 s.2) (fun i s => s = (favN S (A e) (B e) e i, nI i)) (fun o => o = some (favN S (A e) (B e) e (nW S), h)) (nW S) ?_ ?_ 2000 0 (-1, 0) rfl (by omega) (by omega)
    · rintro m i _ hi rfl
      refine Or.inr ⟨_, rfl, ?_⟩
      show b_X12_asks_24 (f_X12_asks_24 m) h 308 (nI e) _ (nI i) = _
      have c : ¬ nI (nW S) ≤ nI i := nI_ge hi (by omega)
      have hi4 : i < 4 := by omega
      have kA := (k.2 e he4).1
      have kB := k.1 e he
      have fw := isFreeR1 hS hi4
      have lk := likesOf0 hS he4 hi4
      rw [eS] at fw lk
      have lb := (likeB v he4 hi4).1
      by_cases c1 : S (28 + 4 * i) < 0
      · rw [if_pos c1] at fw
        by_cases c2 : bitI (A e) i
        · have no : ¬ (opn S (A e) (B e) i ∧ mostOf S e (favN S (A e) (B e) e i) < S (43 + 4 * e + i)) := fun q => q.1.2.1 c2
          simp only [b_X12_asks_24, q_308, r_308_20 hS, r_308_25 hS, Option.bind_some, q_318, if_pos in4, cl4, eS, e4.1, if_neg c, fw, aBind_some, if_neg n1, q_320, if_pos (in320 he4), nI_clamp (show e < 2 ^ 31 by omega), kA, isOf_eq, b1_0, if_pos c2, b_X12_asks_102, i1, favN, if_neg no]
        · by_cases c3 : B e = nI i
          · have no : ¬ (opn S (A e) (B e) i ∧ mostOf S e (favN S (A e) (B e) e i) < S (43 + 4 * e + i)) := fun q => q.1.2.2 c3
            simp only [b_X12_asks_24, q_308, r_308_20 hS, r_308_25 hS, r_308_24 hS, Option.bind_some, q_318, if_pos in4, cl4, eS, e4.1, if_neg c, fw, aBind_some, if_neg n1, q_320, q_319, if_pos (in320 he4), if_pos (in319 he4), nI_clamp (show e < 2 ^ 31 by omega), kA, kB, isOf_eq, b1_0, if_neg c2, if_true, if_pos c3, b_X12_asks_102, i1, favN, if_neg no]
          · have hd : b_X12_asks_24 (f_X12_asks_24 m) h 308 (nI e) (favN S (A e) (B e) e i) (nI i) = if S (43 + 4 * e + i) = 0 then f_X12_asks_24 m h 308 (nI e) (favN S (A e) (B e) e i) (nI (i + 1)) else if favN S (A e) (B e) e i < 0 then f_X12_asks_24 m h 308 (nI e) (nI i) (nI (i + 1)) else aBind (f_X12_likesOf h 308 0 (nI e) (favN S (A e) (B e) e i)) (fun r36 h37 => if S (43 + 4 * e + i) ≤ r36 then f_X12_asks_24 m h37 308 (nI e) (favN S (A e) (B e) e i) (nI (i + 1)) else f_X12_asks_24 m h37 308 (nI e) (nI i) (nI (i + 1))) := by
              simp only [b_X12_asks_24, q_308, r_308_20 hS, r_308_25 hS, r_308_24 hS, Option.bind_some, q_318, if_pos in4, cl4, eS, e4.1, if_neg c, fw, aBind_some, if_neg n1, q_320, q_319, if_pos (in320 he4), if_pos (in319 he4), nI_clamp (show e < 2 ^ 31 by omega), kA, kB, isOf_eq, b1_0, if_neg c2, if_true, if_neg c3, lk, b_X12_asks_102, b_X12_asks_100, i1]
            rw [hd]
            show _ = f_X12_asks_24 m h 308 (nI e) (favN S (A e) (B e) e (i + 1)) (nI (i + 1))
            rw [favN]
            rcases favN_c (S := S) (ae := A e) (be := B e) (e := e) i (by omega) with z | ⟨b, hb, z, _⟩
            · rw [z]
              have m0 : mostOf S e (-1) = 0 := by rw [mostOf, if_pos (by decide)]
              rw [m0]
              by_cases l0 : S (43 + 4 * e + i) = 0
              · rw [if_pos l0, if_neg (fun q => ((pos_ne lb).mp l0) q.2)]
              · have lp : 0 < S (43 + 4 * e + i) := by
                  rcases Int32.lt_or_le 0 (S (43 + 4 * e + i)) with z | z
                  · exact z
                  · exact absurd (Int32.le_antisymm z lb) l0
                rw [if_neg l0, if_pos (by decide), if_pos ⟨⟨c1, c2, c3⟩, lp⟩]
            · have lkb := likesOf0 hS he4 (show b < 4 by omega)
              rw [eS] at lkb
              have bb := (likeB v he4 (show b < 4 by omega)).1
              have m0 : mostOf S e (nI b) = S (43 + 4 * e + b) := by rw [mostOf, if_neg (nI_pos (by omega)), nI_clamp (by omega)]
              rw [z, m0, if_neg (nI_pos (by omega)), lkb]
              simp only [aBind_some]
              by_cases l0 : S (43 + 4 * e + i) = 0
              · rw [if_pos l0, if_neg (fun q => by have := q.2; rw [l0] at this; exact absurd this (Int32.not_lt.mpr bb))]
              · rw [if_neg l0]
                by_cases l1 : S (43 + 4 * e + i) ≤ S (43 + 4 * e + b)
                · rw [if_pos l1, if_neg (fun q => absurd q.2 (Int32.not_lt.mpr l1))]
                · rw [if_neg l1, if_pos ⟨⟨c1, c2, c3⟩, Int32.not_le.mp l1⟩]
      · rw [if_neg c1] at fw
        have no : ¬ (opn S (A e) (B e) i ∧ mostOf S e (favN S (A e) (B e) e i) < S (43 + 4 * e + i)) := fun q => c1 q.1.1
        simp only [b_X12_asks_24, q_308, r_308_20 hS, Option.bind_some, q_318, if_pos in4, cl4, eS, e4.1, if_neg c, fw, aBind_some, if_true, b_X12_asks_102, i1, favN, if_neg no]
    · rintro m _ rfl
      show b_X12_asks_24 (f_X12_asks_24 m) h 308 (nI e) _ (nI (nW S)) = _
      simp only [b_X12_asks_24, q_308, r_308_20 hS, Option.bind_some, q_318, if_pos in4, cl4, eS, e4.1, if_pos (Int32.le_refl (nI (nW S)))]
  by_cases c1 : S (12 + 4 * e) < 0
  · rw [if_pos c1] at fr
    by_cases c2 : atH H e
    · rw [if_neg (fun q => q.2 c2)]
      simp only [f_X12_asks, q_308, fr, aBind_some, if_neg n1, r_308_26 hS, Option.bind_some, q_321, if_pos (in321 he4), nI_clamp (show e < 2 ^ 31 by omega), (k.2 e he4).2.2, b1_0, if_pos c2]
    · rw [if_pos ⟨c1, c2⟩]
      simp only [f_X12_asks, q_308, fr, aBind_some, if_neg n1, r_308_26 hS, Option.bind_some, q_321, if_pos (in321 he4), nI_clamp (show e < 2 ^ 31 by omega), (k.2 e he4).2.2, b1_0, if_neg c2, if_true, lp]
  · rw [if_neg c1] at fr
    rw [if_neg (fun q => c1 q.1)]
    simp only [f_X12_asks, q_308, fr, aBind_some, if_true]
theorem nb1 : vp_nar .boolean 1 = 1 := by decide
theorem nb0 : vp_nar .boolean 0 = 0 := by decide
theorem atH_upd {S H : Row} (ho : HOK S H) {e w i : Nat} (hw : w < 4) (he : e < 4) (hi : i < 4) : atH (upd H w (nI e)) i ↔ i = e ∨ (atH H i ∧ ¬ H w = nI i) := by
  rw [atH_iff, atH_iff]
  constructor
  · rintro ⟨w', hw', z⟩
    by_cases c : w' = w
    · rw [c, upd_at] at z
      exact Or.inl ((nI_eq (by omega) (by omega)).mp z).symm
    · rw [upd_ne _ _ c] at z
      refine Or.inr ⟨⟨w', hw', z⟩, fun q => ?_⟩
      have := ho.2 w' w hw' hw (by rw [z, q]) c
      rw [z] at this
      exact nI_m1 (by omega) this
  · rintro (rfl | ⟨⟨w', hw', z⟩, n⟩)
    · exact ⟨w, hw, upd_at _ _ _⟩
    · exact ⟨w', hw', by rw [upd_ne _ _ (fun q => n (by rw [← q]; exact z))]; exact z⟩
theorem isAsked_eq {h : aH} (hS : Str h) {S : Row} (eS : hI h 318 = S) (v : VS S) {B A H : Row} (k : RAsk h (nE S) B A H) (ho : HOK S H) {e w : Nat} (he : e < nE S) (hw : w < nW S) : ∃ h', f_X12_isAsked h 308 (nI e) (nI w) = some ((), h') ∧ hI h' 318 = S ∧ RAsk h' (nE S) B (askA A e w) (askH S H e w) ∧ RX h h' := by
  have h3 := v.e3.2
  have h4 := v.e4.2
  have he4 : e < 4 := by omega
  have hw4 : w < 4 := by omega
  have n1 : ¬ (1 : Int32) = 0 := by decide
  obtain ⟨g, dg⟩ : ∃ g, g = pI h 320 e (A e ||| (1 <<< (nI w &&& 31))) := ⟨_, rfl⟩
  have ug : Upd (fun c => c = 320) h g := by rw [dg]; exact Upd.pI rfl
  have xg : RX h g := by rw [dg]; exact RX.pI (by omega)
  have Sg := ug.str hS
  have g18 : hI g 318 = S := by rw [ug.2.2.1 318 (by decide), eS]
  have g322 : hI g 322 = hI h 322 := ug.2.2.1 322 (by decide)
  have g321 : hI g 321 = hI h 321 := ug.2.2.1 321 (by decide)
  have kg : RAsk g (nE S) B (askA A e w) H := by
    refine ⟨fun e' he' => by rw [ug.2.2.1 319 (by decide)]; exact k.1 e' he', fun i hi => ⟨?_, by rw [g322]; exact (k.2 i hi).2.1, by rw [g321]; exact (k.2 i hi).2.2⟩⟩
    rw [dg, hI_eq, askA]
    by_cases c : i = e
    · rw [c, upd_at, upd_at]
    · rw [upd_ne _ _ c, upd_ne _ _ c]; exact (k.2 i hi).1
  have lk := likesOf1 Sg he4 hw4
  rw [g18] at lk
  have lb := (likeB v he4 hw4).2
  /- the two ends -/
  have yes : rivL S H w < S (59 + 4 * e + w) → ∀ x, x = H w → ∃ h', b_X12_isAsked_51 g 308 (nI e) (nI w) x = some ((), h') ∧ hI h' 318 = S ∧ RAsk h' (nE S) B (askA A e w) (askH S H e w) ∧ RX h h' := by
    intro c x hx
    subst hx
    by_cases q : H w < 0
    · refine ⟨pI (pI g 322 w (nI e)) 321 e 1, ?_, ?_, ?_, (xg.tr (RX.pI (by omega))).tr (RX.pI (by omega))⟩
      · simp only [b_X12_isAsked_51, if_pos q, b_X12_isAsked_62, q_308, r_308_27 Sg, r_308_26 Sg, hR_pI, Option.bind_some, q_322, q_321, if_pos (in322 hw4), if_pos (in321 he4), aLet, nI_clamp (show w < 2 ^ 31 by omega), nI_clamp (show e < 2 ^ 31 by omega), nb1]
      · rw [hI_ne _ (by decide), hI_ne _ (by decide), g18]
      · rw [askH, if_pos c]
        refine ⟨fun e' he' => by rw [hI_ne _ (by decide), hI_ne _ (by decide)]; exact kg.1 e' he', fun i hi => ⟨by rw [hI_ne _ (by decide), hI_ne _ (by decide)]; exact (kg.2 i hi).1, ?_, ?_⟩⟩
        · rw [hI_ne _ (by decide), hI_eq]
          by_cases d : i = w
          · rw [d, upd_at, upd_at]
          · rw [upd_ne _ _ d, upd_ne _ _ d]; exact (kg.2 i hi).2.1
        · rw [hI_eq, hI_ne _ (by decide)]
          have au := atH_upd ho (e := e) (i := i) hw4 he4 hi
          by_cases d : i = e
          · rw [d, upd_at, b1, if_pos (by have z := au.mpr (Or.inl d); rw [d] at z; exact z)]
          · rw [upd_ne _ _ d, (kg.2 i hi).2.2]
            exact ifs ⟨fun z => au.mpr (Or.inr ⟨z, fun y => by rw [y] at q; exact absurd q (nI_pos (by omega))⟩), fun z => ((au.mp z).resolve_left d).1⟩
    · obtain ⟨e', he', _, eH, _⟩ := (ho.1 w hw4).resolve_left (fun z => q (by rw [z]; decide))
      have he4' : e' < 4 := by omega
      refine ⟨pI (pI (pI g 321 e' 0) 322 w (nI e)) 321 e 1, ?_, ?_, ?_, ((xg.tr (RX.pI (by omega))).tr (RX.pI (by omega))).tr (RX.pI (by omega))⟩
      · simp only [b_X12_isAsked_51, if_neg q, eH, b_X12_isAsked_62, q_308, r_308_27 Sg, r_308_26 Sg, hR_pI, Option.bind_some, q_322, q_321, if_pos (in322 hw4), if_pos (in321 he4), if_pos (in321 he4'), aLet, nI_clamp (show w < 2 ^ 31 by omega), nI_clamp (show e < 2 ^ 31 by omega), nI_clamp (show e' < 2 ^ 31 by omega), nb1, nb0, if_neg (nI_pos (show e' < 2 ^ 31 by omega))]
      · rw [hI_ne _ (by decide), hI_ne _ (by decide), hI_ne _ (by decide), g18]
      · rw [askH, if_pos c]
        refine ⟨fun e' he' => by rw [hI_ne _ (by decide), hI_ne _ (by decide), hI_ne _ (by decide)]; exact kg.1 e' he', fun i hi => ⟨by rw [hI_ne _ (by decide), hI_ne _ (by decide), hI_ne _ (by decide)]; exact (kg.2 i hi).1, ?_, ?_⟩⟩
        · rw [hI_ne _ (by decide), hI_eq, hI_ne _ (by decide)]
          by_cases d : i = w
          · rw [d, upd_at, upd_at]
          · rw [upd_ne _ _ d, upd_ne _ _ d]; exact (kg.2 i hi).2.1
        · rw [hI_eq, hI_ne _ (by decide), hI_eq]
          have au := atH_upd ho (e := e) (i := i) hw4 he4 hi
          by_cases d : i = e
          · rw [d, upd_at, b1, if_pos (by have z := au.mpr (Or.inl d); rw [d] at z; exact z)]
          · rw [upd_ne _ _ d]
            by_cases d' : i = e'
            · rw [d', upd_at, b1, if_neg]
              intro z
              rw [← d'] at z
              exact ((au.mp z).resolve_left d).2 (by rw [d']; exact eH)
            · rw [upd_ne _ _ d', (kg.2 i hi).2.2]
              exact ifs ⟨fun z => au.mpr (Or.inr ⟨z, fun y => by rw [eH] at y; exact d' ((nI_eq (by omega) (by omega)).mp y).symm⟩), fun z => ((au.mp z).resolve_left d).1⟩
  have nope : ¬ rivL S H w < S (59 + 4 * e + w) → RAsk g (nE S) B (askA A e w) (askH S H e w) := fun c => by rw [askH, if_neg c]; exact kg
  have hd : f_X12_isAsked h 308 (nI e) (nI w) = if S (59 + 4 * e + w) = 0 then some ((), g) else if H w < 0 then b_X12_isAsked_51 g 308 (nI e) (nI w) (H w) else aBind (f_X12_likesOf g 308 1 (nI w) (H w)) (fun r32 h33 => if r32 < S (59 + 4 * e + w) then b_X12_isAsked_51 h33 308 (nI e) (nI w) (H w) else some ((), h33)) := by
    simp only [f_X12_isAsked, q_308, r_308_25 hS, Option.bind_some, q_320, if_pos (in320 he4), aLet, nI_clamp (show e < 2 ^ 31 by omega), (k.2 e he4).1, ← dg, r_308_27 Sg, q_322, if_pos (in322 hw4), nI_clamp (show w < 2 ^ 31 by omega), (kg.2 w hw4).2.1, lk, aBind_some]
  rw [hd]
  by_cases l0 : S (59 + 4 * e + w) = 0
  · rw [if_pos l0]
    refine ⟨g, rfl, g18, nope ?_, xg⟩
    rw [l0]
    unfold rivL
    by_cases q : H w < 0
    · rw [if_pos q]; decide
    · obtain ⟨e', he', _, eH, _⟩ := (ho.1 w hw4).resolve_left (fun z => q (by rw [z]; decide))
      rw [if_neg q, eH, nI_clamp (by omega)]
      exact Int32.not_lt.mpr (likeB v (show e' < 4 by omega) hw4).2
  · rw [if_neg l0]
    by_cases q : H w < 0
    · rw [if_pos q]
      refine yes ?_ (H w) rfl
      rw [rivL, if_pos q]
      rcases Int32.lt_or_le 0 (S (59 + 4 * e + w)) with z | z
      · exact z
      · exact absurd (Int32.le_antisymm z lb) l0
    · obtain ⟨e', he', _, eH, _⟩ := (ho.1 w hw4).resolve_left (fun z => q (by rw [z]; decide))
      have lk' := likesOf1 Sg (show e' < 4 by omega) hw4
      rw [g18] at lk'
      have rv : rivL S H w = S (59 + 4 * e' + w) := by rw [rivL, if_neg q, eH, nI_clamp (by omega)]
      rw [if_neg q]
      by_cases c : rivL S H w < S (59 + 4 * e + w)
      · obtain ⟨h', f', r'⟩ := yes c (H w) rfl
        refine ⟨h', ?_, r'⟩
        rw [← f', eH, lk']
        simp only [aBind_some]
        rw [if_pos (by rw [← rv]; exact c)]
      · refine ⟨g, ?_, g18, nope c, xg⟩
        rw [eH, lk']
        simp only [aBind_some]
        rw [if_neg (by rw [← rv]; exact c)]
