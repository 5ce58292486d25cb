/-! ===== settled: the reference ===== -/
theorem in325 {k : Nat} (h : k < 4) : aIn (nI k) (sh 325).2 := by rw [sh_325]; exact vp_in_nI h (by decide)
theorem in326 {k : Nat} (h : k < 4) : aIn (nI k) (sh 326).2 := by rw [sh_326]; exact vp_in_nI h (by decide)
abbrev wC : Nat → Prop := fun c => c = 325 ∨ c = 326
theorem m1_1 (x : Int32) : x + (-1) = x - 1 := (Int32.sub_eq_add_neg x 1).symm
/-- what isRow has seen of the easts from n on -/
def IR (S : Row) (d : Nat → Nat) (E n : Nat) (rw ho : Row) : Prop :=
  (∀ e, n ≤ e → e < E → d e = 0 ∨ (canJ S e (d e - 1) ∧ ∀ e', n ≤ e' → e' < E → e' = e ∨ ¬ d e' = d e)) ∧ (∀ e, n ≤ e → e < E → rw e = rwD d e) ∧
  ∀ w, w < 4 → (ho w = -1 ∧ ∀ e, n ≤ e → e < E → ¬ d e = w + 1) ∨ ∃ e, n ≤ e ∧ e < E ∧ ho w = nI e ∧ d e = w + 1
theorem isRow_lo {g : aH} (hS : Str g) (x1 : Int32) {E : Nat} (e3 : hI g 318 3 = nI E) : ∃ g', f_X12_isRow g 308 x1 = f_X12_isRow_31 2000 g' 308 x1 (nI E - 1) ∧ (∀ w, w < 4 → hI g' 326 w = -1) ∧ Upd wC g g' := by
  refine itLoop (σ := aH × Int32) (fun k s => f_X12_isRow_4 k s.1 308 x1 s.2) (fun i s => s = (s.1, nI i) ∧ (∀ w, w < i → hI s.1 326 w = -1) ∧ Upd wC g s.1) (fun o => ∃ g', o = f_X12_isRow_31 2000 g' 308 x1 (nI E - 1) ∧ (∀ w, w < 4 → hI g' 326 w = -1) ∧ Upd wC g g') 4 ?_ ?_ 2000 0 (g, 0) ⟨rfl, fun w hw => by omega, Upd.rf g⟩ (by omega) (by omega)
  · rintro k i s hi ⟨es, a, u⟩
    have Ss := u.str hS
    have q : ¬ (4 : Int32) ≤ nI i := nI_ge (b := 4) hi (by decide)
    refine Or.inr ⟨(pI s.1 326 i (-1), nI (i + 1)), ⟨rfl, fun w hw => ?_, u.tr (Upd.pI (Or.inr rfl))⟩, ?_⟩
    · show hI (pI s.1 326 i (-1)) 326 w = -1
      rw [hI_eq]
      by_cases y : w = i
      · rw [y, upd_at]
      · rw [upd_ne _ _ y]; exact a w (by omega)
    · rw [es]
      show b_X12_isRow_4 (f_X12_isRow_4 k) s.1 308 x1 (nI i) = _
      simp only [b_X12_isRow_4, if_neg q, q_308, r_308_32 Ss, Option.bind_some, q_326, if_pos (in326 hi), nI_clamp (show i < 2 ^ 31 by omega), aLet, i1]
  · rintro k s ⟨es, a, u⟩
    have Ss := u.str hS
    refine ⟨s.1, ?_, a, u⟩
    rw [es]
    show b_X12_isRow_4 (f_X12_isRow_4 k) s.1 308 x1 (nI 4) = _
    have e3' : hI s.1 318 3 = nI E := by rw [u.2.2.1 318 (by unfold wC; omega)]; exact e3
    simp only [b_X12_isRow_4, if_pos (show (4 : Int32) ≤ nI 4 by decide), q_308, r_308_20 Ss, Option.bind_some, q_318, if_pos in3, cl3, e3', aLet]
theorem pow_le5 {b n : Nat} (hb : b ≤ 5) (hn : n ≤ 4) : b ^ n ≤ 625 := by
  have h1 : b ^ n ≤ 5 ^ n := Nat.pow_le_pow_left hb n
  have h2 : 5 ^ n ≤ 5 ^ 4 := Nat.pow_le_pow_right (by decide) hn
  have h3 : 5 ^ 4 = 625 := by decide
  omega
theorem isRowR {g : aH} (hS : Str g) {S : Row} (eS : hI g 318 = S) (v : VS S) {b c : Nat} (eb : b = nW S + 1) (hc : c < 1000) :
    ∃ g', f_X12_isRow g 308 (nI c) = some (bB (decide (VD S (dgE b (nE S) c) (nE S))), g') ∧ (VD S (dgE b (nE S) c) (nE S) → (∀ e, e < nE S → hI g' 325 e = rwD (dgE b (nE S) c) e) ∧ ∀ w, w < 4 → hI g' 326 w = hoD (dgE b (nE S) c) (nE S) w) ∧ Upd wC g g' := by
  have v3 := v.e3
  have v4 := v.e4
  obtain ⟨E, eE⟩ : ∃ E, E = nE S := ⟨_, rfl⟩
  rw [← eE] at v3 ⊢
  obtain ⟨d, ed⟩ : ∃ d, d = dgE b E c := ⟨_, rfl⟩
  rw [← ed]
  have hb : 0 < b := by omega
  have dl : ∀ i, d i < b := fun i => by rw [ed]; exact dgE_lt hb
  have dd : ∀ i, i < E → d (E - 1 - i) = c / b ^ i % b := fun i hi => by
    rw [ed]; unfold dgE; rw [if_pos (by omega), show E - 1 - (E - 1 - i) = i by omega]
  obtain ⟨g0, f0, a0, u0⟩ := isRow_lo hS (nI c) (E := E) (by rw [eS]; exact v3.1)
  rw [f0]
  have fin : ∃ g', f_X12_isRow_31 2000 g0 308 (nI c) (nI E - 1) = some (bB (decide (VD S d E)), g') ∧ (VD S d E → (∀ e, e < E → hI g' 325 e = rwD d e) ∧ ∀ w, w < 4 → hI g' 326 w = hoD d E w) ∧ Upd wC g g' := by
    refine itLoop (σ := aH × Int32 × Int32) (fun k s => f_X12_isRow_31 k s.1 308 s.2.1 s.2.2) (fun i s => s = (s.1, nI (c / b ^ i), nI (E - i) - 1) ∧ IR S d E (E - i) (hI s.1 325) (hI s.1 326) ∧ Upd wC g s.1)
      (fun o => ∃ g', o = some (bB (decide (VD S d E)), g') ∧ (VD S d E → (∀ e, e < E → hI g' 325 e = rwD d e) ∧ ∀ w, w < 4 → hI g' 326 w = hoD d E w) ∧ Upd wC g g') E ?_ ?_ 2000 0 (g0, nI c, nI E - 1) ⟨by rw [Nat.pow_zero, Nat.div_one]; rfl, ⟨fun e h1 h2 => by omega, fun e h1 h2 => by omega, fun w hw => Or.inl ⟨a0 w hw, fun e h1 h2 => by omega⟩⟩, u0⟩ (by omega) (by omega)
    · rintro k i s hi ⟨es, ⟨j1, j2, j3⟩, u⟩
      have Ss := u.str hS
      obtain ⟨n, en⟩ : ∃ n, n = E - 1 - i := ⟨_, rfl⟩
      have n1 : E - i = n + 1 := by omega
      have n2 : E - (i + 1) = n := by omega
      rw [n1] at j1 j2 j3
      have n4 : n < 4 := by omega
      have cl : c / b ^ i ≤ c := Nat.div_le_self _ _
      have dn : d n = c / b ^ i % b := by rw [en]; exact dd i hi
      have dnb := dl n
      have e18 : hI s.1 318 = S := by rw [u.2.2.1 318 (by unfold wC; omega)]; exact eS
      have b1' : S 4 + 1 = nI b := by rw [v4.1, i1, eb]
      have bn : ¬ nI b = 0 := nI_ne0 hb (by omega)
      have rm : nI (c / b ^ i) - nI (c / b ^ i) / nI b * nI b = nI (d n) := by rw [dn]; exact pk_rem (by omega) hb (by omega)
      have dv : nI (c / b ^ i) / nI b = nI (c / b ^ (i + 1)) := by
        rw [pk_div (by omega) hb (by omega), Nat.pow_succ, ← Nat.div_div_eq_div_mul]
      have rm2 : nI (c / b ^ i) - nI (c / b ^ (i + 1)) * nI b = nI (d n) := by rw [← dv]; exact rm
      have np : nI (n + 1) - 1 = nI n := nI_pred n
      have nn : ¬ nI n < 0 := nI_pos (by omega)
      -- the row's new entry
      obtain ⟨g1, eg1⟩ : ∃ g1, g1 = pI s.1 325 n (rwD d n) := ⟨_, rfl⟩
      have S1 : Str g1 := by rw [eg1]; exact Ss
      have u1 : Upd wC g g1 := by rw [eg1]; exact u.tr (Upd.pI (Or.inl rfl))
      have k325 : hI g1 325 = upd (hI s.1 325) n (rwD d n) := by rw [eg1, hI_eq]
      have k326 : hI g1 326 = hI s.1 326 := by rw [eg1, hI_ne _ (by decide)]
      have s1 : hI g1 318 = S := by rw [eg1, hI_ne _ (by decide)]; exact e18
      have vl : nI (d n) - 1 = rwD d n := by
        unfold rwD
        by_cases z : d n = 0
        · rw [if_pos z, z]; rfl
        · rw [if_neg z]
          have := nI_pred (d n - 1)
          rw [show d n - 1 + 1 = d n by omega] at this
          exact this
      have hd : f_X12_isRow_31 (k + 1) s.1 308 s.2.1 s.2.2 = if 0 ≤ rwD d n then aBind (f_X12_canJoin g1 308 (nI n) (rwD d n)) (fun r33 h34 => if r33 = 0 then some (0, h34) else (hR h34 308 32).bind (fun b35 => if (sh b35).1 = 0 then (if aIn (rwD d n) (sh b35).2 then (if hI h34 b35 (rwD d n).toNatClampNeg < 0 then (hR h34 308 32).bind (fun b37 => if (sh b37).1 = 0 then (if aIn (rwD d n) (sh b37).2 then f_X12_isRow_31 k (pI h34 b37 (rwD d n).toNatClampNeg (nI n)) 308 (nI (c / b ^ (i + 1))) (nI n - 1) else none) else none) else some (0, h34)) else none) else none)) else f_X12_isRow_31 k g1 308 (nI (c / b ^ (i + 1))) (nI n - 1) := by
        rw [es]
        show f_X12_isRow_31 (k + 1) s.1 308 (nI (c / b ^ i)) (nI (E - i) - 1) = _
        rw [n1, np]
        show b_X12_isRow_31 (f_X12_isRow_31 k) s.1 308 (nI (c / b ^ i)) (nI n) = _
        simp only [b_X12_isRow_31, if_neg nn, q_308, r_308_20 Ss, Option.bind_some, q_318, if_pos in4, cl4, e18, b1', if_neg bn, dv, rm2, vl, aLet, r_308_31 Ss, q_325, if_pos (in325 n4), nI_clamp (show n < 2 ^ 31 by omega), ← eg1, b_X12_isRow_106, m1_1]
      by_cases z : d n = 0
      · have r0 : rwD d n = -1 := by unfold rwD; rw [if_pos z]
        rw [if_neg (by rw [r0]; decide)] at hd
        refine Or.inr ⟨(g1, nI (c / b ^ (i + 1)), nI n - 1), ⟨by rw [n2], ⟨fun e h1 h2 => ?_, fun e h1 h2 => ?_, fun w hw => ?_⟩, u1⟩, hd⟩
        · rw [n2] at h1
          by_cases y : e = n
          · rw [y]; exact Or.inl z
          · rcases j1 e (by omega) h2 with t | ⟨t1, t2⟩
            · exact Or.inl t
            · by_cases x : d e = 0
              · exact Or.inl x
              · refine Or.inr ⟨t1, fun e' h3 h4 => ?_⟩
                rw [n2] at h3
                by_cases y' : e' = n
                · rw [y', z]; exact Or.inr (fun t => x t.symm)
                · exact t2 e' (by omega) h4
        · rw [n2] at h1
          show hI g1 325 e = _
          rw [k325]
          by_cases y : e = n
          · rw [y, upd_at]
          · rw [upd_ne _ _ y]; exact j2 e (by omega) h2
        · show (hI g1 326 w = -1 ∧ _) ∨ _
          rw [k326]
          rcases j3 w hw with ⟨t1, t2⟩ | ⟨e, t0, t1, t2, t3⟩
          · refine Or.inl ⟨t1, fun e h1 h2 => ?_⟩
            rw [n2] at h1
            by_cases y : e = n
            · rw [y, z]; omega
            · exact t2 e (by omega) h2
          · exact Or.inr ⟨e, by rw [n2]; omega, t1, t2, t3⟩
      · obtain ⟨w, ew⟩ : ∃ w, d n = w + 1 := ⟨d n - 1, by omega⟩
        have w4 : w < 4 := by omega
        have rv : rwD d n = nI w := by unfold rwD; rw [if_neg z, ew]; rfl
        rw [rv] at hd eg1 k325
        have cj := canJoinR S1 n4 w4
        rw [s1] at cj
        rw [if_pos (nI_pos' (by omega)), cj] at hd
        simp only [aBind_some, b1_0, r_308_32 S1, Option.bind_some, q_326, if_pos (in326 w4), nI_clamp (show w < 2 ^ 31 by omega), k326] at hd
        have bad : (¬ canJ S n w ∨ ¬ hI s.1 326 w < 0) → ¬ VD S d E := by
          intro y vv
          rcases vv n (by omega) with t | ⟨t1, t2⟩
          · exact z t
          · rcases y with y | y
            · rw [ew] at t1; exact y t1
            · rcases j3 w w4 with ⟨x1, _⟩ | ⟨e, x0, x1, x2, x3⟩
              · rw [x1] at y; exact y (by decide)
              · rcases t2 e (by omega) with t | t
                · omega
                · exact t (by rw [x3, ew])
        by_cases cc : canJ S n w
        · rw [if_pos cc] at hd
          by_cases oc : hI s.1 326 w < 0
          · rw [if_pos oc] at hd
            have free : hI s.1 326 w = -1 ∧ ∀ e, n + 1 ≤ e → e < E → ¬ d e = w + 1 := by
              rcases j3 w w4 with t | ⟨e, x0, x1, x2, x3⟩
              · exact t
              · rw [x2] at oc; exact absurd oc (nI_pos (by omega))
            obtain ⟨g2, eg2⟩ : ∃ g2, g2 = pI g1 326 w (nI n) := ⟨_, rfl⟩
            rw [← eg2] at hd
            have q325 : hI g2 325 = upd (hI s.1 325) n (nI w) := by rw [eg2, hI_ne _ (by decide)]; exact k325
            have q326 : hI g2 326 = upd (hI s.1 326) w (nI n) := by rw [eg2, hI_eq, k326]
            refine Or.inr ⟨(g2, nI (c / b ^ (i + 1)), nI n - 1), ⟨by rw [n2], ⟨fun e h1 h2 => ?_, fun e h1 h2 => ?_, fun x hx => ?_⟩, by rw [eg2]; exact u1.tr (Upd.pI (Or.inr rfl))⟩, hd⟩
            · rw [n2] at h1
              by_cases y : e = n
              · rw [y, ew]
                refine Or.inr ⟨cc, fun e' h3 h4 => ?_⟩
                rw [n2] at h3
                by_cases y' : e' = n
                · exact Or.inl y'
                · exact Or.inr (free.2 e' (by omega) h4)
              · rcases j1 e (by omega) h2 with t | ⟨t1, t2⟩
                · exact Or.inl t
                · refine Or.inr ⟨t1, fun e' h3 h4 => ?_⟩
                  rw [n2] at h3
                  by_cases y' : e' = n
                  · rw [y', ew]; exact Or.inr (fun t => free.2 e (by omega) h2 t.symm)
                  · exact t2 e' (by omega) h4
            · rw [n2] at h1
              show hI g2 325 e = _
              rw [q325]
              by_cases y : e = n
              · rw [y, upd_at, rv]
              · rw [upd_ne _ _ y]; exact j2 e (by omega) h2
            · show (hI g2 326 x = -1 ∧ _) ∨ _
              rw [q326]
              by_cases y : x = w
              · rw [y, upd_at]
                exact Or.inr ⟨n, by rw [n2]; exact Nat.le_refl n, by omega, rfl, ew⟩
              · rw [upd_ne _ _ y]
                rcases j3 x hx with ⟨t1, t2⟩ | ⟨e, t0, t1, t2, t3⟩
                · refine Or.inl ⟨t1, fun e h1 h2 => ?_⟩
                  rw [n2] at h1
                  by_cases y' : e = n
                  · rw [y', ew]; omega
                  · exact t2 e (by omega) h2
                · exact Or.inr ⟨e, by rw [n2]; omega, t1, t2, t3⟩
          · rw [if_neg oc] at hd
            have nv := bad (Or.inr oc)
            exact Or.inl ⟨g1, by rw [decide_eq_false nv]; exact hd, fun vv => absurd vv nv, u1⟩
        · rw [if_neg cc] at hd
          have nv := bad (Or.inl cc)
          exact Or.inl ⟨g1, by rw [decide_eq_false nv]; exact hd, fun vv => absurd vv nv, u1⟩
    · rintro k s ⟨es, ⟨j1, j2, j3⟩, u⟩
      rw [Nat.sub_self] at j1 j2 j3
      have vv : VD S d E := fun e he => by
        rcases j1 e (by omega) he with t | ⟨t1, t2⟩
        · exact Or.inl t
        · exact Or.inr ⟨t1, fun e' he' => t2 e' (by omega) he'⟩
      refine ⟨s.1, ?_, fun _ => ⟨fun e he => j2 e (by omega) he, fun w hw => ?_⟩, u⟩
      · rw [es, decide_eq_true vv]
        show f_X12_isRow_31 (k + 1) s.1 308 (nI (c / b ^ E)) (nI (E - E) - 1) = _
        rw [Nat.sub_self]
        show b_X12_isRow_31 (f_X12_isRow_31 k) s.1 308 (nI (c / b ^ E)) (nI 0 - 1) = _
        simp only [b_X12_isRow_31, if_pos (show nI 0 - 1 < 0 by decide)]
        rfl
      · rcases j3 w hw with ⟨t1, t2⟩ | ⟨e, t0, t1, t2, t3⟩
        · rcases hoD_c d w E with ⟨y1, _⟩ | ⟨i, hi, _, y2⟩
          · rw [t1, y1]
          · exact absurd y2 (t2 i (by omega) hi)
        · rcases hoD_c d w E with ⟨_, y1⟩ | ⟨i, hi, y1, y2⟩
          · exact absurd t3 (y1 e t1)
          · rcases vv e t1 with x | ⟨_, x⟩
            · rw [x] at t3; omega
            · rcases x i hi with x | x
              · rw [t2, y1, x]
              · exact absurd (by rw [y2, t3]) x
  exact fin
/-! whether it is settled, how much it is liked -/
def RR (g : aH) (E : Nat) (rw ho : Row) : Prop := (∀ e, e < E → hI g 325 e = rw e) ∧ ∀ w, w < 4 → hI g 326 w = ho w
theorem ratherR1 {g : aH} (hS : Str g) {S rw ho : Row} (eS : hI g 318 = S) (v : VS S) (o : RO S rw ho) (c : RR g (nE S) rw ho) {e w : Nat} (he : e < nE S) (hw : w < 4) : b_X12_wouldRather_47 g 308 (nI e) (nI w) 1 = some (bB (decide (wWo S ho e w)), g) := by
  have v3 := v.e3.2
  have l1 := likesOf1 hS (show e < 4 by omega) hw
  rw [eS] at l1
  simp only [b_X12_wouldRather_47, if_neg (show ¬ (1 : Int32) = 0 by decide), q_308, r_308_32 hS, Option.bind_some, q_326, if_pos (in326 hw), nI_clamp (show w < 2 ^ 31 by omega), c.2 w hw, l1, aBind_some]
  rcases o.2 w hw with z | ⟨e', he', z⟩
  · have t : wWo S ho e w := Or.inl (by rw [z]; decide)
    rw [decide_eq_true t, z, if_pos (by decide)]; rfl
  · have l2 := likesOf1 hS (show e' < 4 by omega) hw
    rw [eS] at l2
    have p0 : ¬ nI e' < 0 := nI_pos (by omega)
    by_cases q : S (59 + 4 * e' + w) < S (59 + 4 * e + w)
    · have t : wWo S ho e w := Or.inr (by rw [z, nI_clamp (show e' < 2 ^ 31 by omega)]; exact q)
      rw [decide_eq_true t, z, if_neg p0, l2]
      simp only [aBind_some]
      rw [if_neg (Int32.not_le.mpr q)]; rfl
    · have t : ¬ wWo S ho e w := fun y => by
        rcases y with y | y
        · rw [z] at y; exact p0 y
        · rw [z, nI_clamp (show e' < 2 ^ 31 by omega)] at y; exact q y
      rw [decide_eq_false t, z, if_neg p0, l2]
      simp only [aBind_some]
      rw [if_pos (Int32.not_lt.mp q)]; rfl
theorem ratherR {g : aH} (hS : Str g) {S rw ho : Row} (eS : hI g 318 = S) (v : VS S) (o : RO S rw ho) (c : RR g (nE S) rw ho) {e w : Nat} (he : e < nE S) (hw : w < 4) : f_X12_wouldRather g 308 (nI e) (nI w) = some (bB (wdR S rw ho e w), g) := by
  have v3 := v.e3.2
  have v4 := v.e4.2
  have e4 : e < 4 := by omega
  have r1 := ratherR1 hS eS v o c he hw
  have cj := canJoinR hS e4 hw
  have l0 := likesOf0 hS e4 hw
  rw [eS] at cj l0
  unfold wdR
  simp only [f_X12_wouldRather, q_308, cj, aBind_some, b1_0]
  by_cases cc : canJ S e w
  · rw [if_pos cc, decide_eq_true cc, Bool.true_and]
    simp only [r_308_31 hS, Option.bind_some, q_325, if_pos (in325 e4), nI_clamp (show e < 2 ^ 31 by omega), c.1 e he, l0, aBind_some, b_X12_wouldRather_42]
    rcases o.1 e e4 with z | ⟨w', hw', z⟩
    · have t : eWo S rw e w := Or.inl (by rw [z]; decide)
      rw [decide_eq_true t, Bool.true_and, z, if_pos (by decide), r1]
    · have l2 := likesOf0 hS e4 (show w' < 4 by omega)
      rw [eS] at l2
      have p0 : ¬ nI w' < 0 := nI_pos (by omega)
      by_cases q : S (43 + 4 * e + w') < S (43 + 4 * e + w)
      · have t : eWo S rw e w := Or.inr (by rw [z, nI_clamp (show w' < 2 ^ 31 by omega)]; exact q)
        rw [decide_eq_true t, Bool.true_and, z, if_neg p0, l2]
        simp only [aBind_some]
        rw [if_neg (Int32.not_le.mpr q), r1]
      · have t : ¬ eWo S rw e w := fun y => by
          rcases y with y | y
          · rw [z] at y; exact p0 y
          · rw [z, nI_clamp (show w' < 2 ^ 31 by omega)] at y; exact q y
        rw [decide_eq_false t, Bool.false_and, z, if_neg p0, l2]
        simp only [aBind_some]
        rw [if_pos (Int32.not_lt.mp q)]
        simp only [b_X12_wouldRather_47, if_true]
        rfl
  · rw [if_neg cc, decide_eq_false cc, Bool.false_and]; rfl
theorem settledR_in {g : aH} (hS : Str g) {S rw ho : Row} (eS : hI g 318 = S) (v : VS S) (o : RO S rw ho) (c : RR g (nE S) rw ho) {e : Nat} (he : e < nE S) (K : aH → Nat → Int32 → Option (Int32 × aH)) : f_X12_isSettled_14 K 2000 g 308 (nI e) 0 = if wrE S rw ho e (nW S) 0 = true then some (0, g) else K g 308 (nI (e + 1)) := by
  have v4 := v.e4
  refine itLoop (σ := Int32) (fun n s => f_X12_isSettled_14 K n g 308 (nI e) s) (fun i s => s = nI i ∧ wrE S rw ho e (nW S - i) i = wrE S rw ho e (nW S) 0) (fun q => q = if wrE S rw ho e (nW S) 0 = true then some (0, g) else K g 308 (nI (e + 1))) (nW S) ?_ ?_ 2000 0 0 ⟨rfl, rfl⟩ (by omega) (by omega)
  · rintro n i _ hi ⟨rfl, t⟩
    have q : ¬ nI (nW S) ≤ nI i := nI_ge hi (by omega)
    rw [show nW S - i = (nW S - (i + 1)) + 1 by omega, wrE] at t
    have rr := ratherR hS eS v o c he (show i < 4 by omega)
    have hd : f_X12_isSettled_14 K (n + 1) g 308 (nI e) (nI i) = if wdR S rw ho e i = true then some (0, g) else f_X12_isSettled_14 K n g 308 (nI e) (nI (i + 1)) := by
      show b_X12_isSettled_14 K (f_X12_isSettled_14 K n) g 308 (nI e) (nI i) = _
      simp only [b_X12_isSettled_14, q_308, r_308_20 hS, Option.bind_some, q_318, if_pos in4, cl4, eS, v4.1, if_neg q, rr, aBind_some, bB_0, i1]
    cases ew : wdR S rw ho e i with
    | true =>
      rw [ew, Bool.true_or] at t
      rw [ew, if_pos rfl] at hd
      exact Or.inl (by rw [← t, if_pos rfl]; exact hd)
    | false =>
      rw [ew, Bool.false_or] at t
      rw [ew, if_neg (by decide)] at hd
      exact Or.inr ⟨_, ⟨rfl, t⟩, hd⟩
  · rintro n _ ⟨rfl, t⟩
    rw [Nat.sub_self, wrE] at t
    rw [← t, if_neg (by decide)]
    show b_X12_isSettled_14 K (f_X12_isSettled_14 K n) g 308 (nI e) (nI (nW S)) = _
    simp only [b_X12_isSettled_14, q_308, r_308_20 hS, Option.bind_some, q_318, if_pos in4, cl4, eS, v4.1, if_pos (Int32.le_refl (nI (nW S))), i1]
theorem settledR {g : aH} (hS : Str g) {S rw ho : Row} (eS : hI g 318 = S) (v : VS S) (o : RO S rw ho) (c : RR g (nE S) rw ho) : f_X12_isSettled g 308 = some (bB (!(wrA S rw ho (nE S) 0)), g) := by
  have v3 := v.e3
  refine itLoop (σ := Int32) (fun n s => f_X12_isSettled_2 n g 308 s) (fun i s => s = nI i ∧ wrA S rw ho (nE S - i) i = wrA S rw ho (nE S) 0) (fun q => q = some (bB (!(wrA S rw ho (nE S) 0)), g)) (nE S) ?_ ?_ 2000 0 0 ⟨rfl, rfl⟩ (by omega) (by omega)
  · rintro n i _ hi ⟨rfl, t⟩
    have q : ¬ nI (nE S) ≤ nI i := nI_ge hi (by omega)
    rw [show nE S - i = (nE S - (i + 1)) + 1 by omega, wrA] at t
    have hd : f_X12_isSettled_2 (n + 1) g 308 (nI i) = if wrE S rw ho i (nW S) 0 = true then some (0, g) else f_X12_isSettled_2 n g 308 (nI (i + 1)) := by
      show b_X12_isSettled_2 (f_X12_isSettled_2 n) g 308 (nI i) = _
      simp only [b_X12_isSettled_2, q_308, r_308_20 hS, Option.bind_some, q_318, if_pos in3, cl3, eS, v3.1, if_neg q, settledR_in hS eS v o c hi]
    cases ew : wrE S rw ho i (nW S) 0 with
    | true =>
      rw [ew, Bool.true_or] at t
      rw [ew, if_pos rfl] at hd
      exact Or.inl (by rw [← t]; exact hd)
    | false =>
      rw [ew, Bool.false_or] at t
      rw [ew, if_neg (by decide)] at hd
      exact Or.inr ⟨_, ⟨rfl, t⟩, hd⟩
  · rintro n _ ⟨rfl, t⟩
    rw [Nat.sub_self, wrA] at t
    rw [← t]
    show b_X12_isSettled_2 (f_X12_isSettled_2 n) g 308 (nI (nE S)) = _
    simp only [b_X12_isSettled_2, q_308, r_308_20 hS, Option.bind_some, q_318, if_pos in3, cl3, eS, v3.1, if_pos (Int32.le_refl (nI (nE S)))]
    rfl
theorem likedRowR {g : aH} (hS : Str g) {S rw ho : Row} (eS : hI g 318 = S) (v : VS S) (o : RO S rw ho) (c : RR g (nE S) rw ho) : f_X12_likedInRow g 308 = some (sumR S rw (nE S), g) := by
  have v3 := v.e3
  have v4 := v.e4.2
  refine itLoop (σ := Int32 × Int32) (fun n s => f_X12_likedInRow_4 n g 308 s.1 s.2) (fun i s => s = (sumR S rw i, nI i)) (fun q => q = some (sumR S rw (nE S), g)) (nE S) ?_ ?_ 2000 0 (0, 0) rfl (by omega) (by omega)
  · rintro n i _ hi rfl
    have i4 : i < 4 := by omega
    have q : ¬ nI (nE S) ≤ nI i := nI_ge hi (by omega)
    refine Or.inr ⟨_, rfl, ?_⟩
    show b_X12_likedInRow_4 (f_X12_likedInRow_4 n) g 308 (sumR S rw i) (nI i) = f_X12_likedInRow_4 n g 308 (sumR S rw (i + 1)) (nI (i + 1))
    simp only [b_X12_likedInRow_4, q_308, r_308_20 hS, Option.bind_some, q_318, if_pos in3, cl3, eS, v3.1, if_neg q, r_308_31 hS, q_325, if_pos (in325 i4), nI_clamp (show i < 2 ^ 31 by omega), c.1 i hi, b_X12_likedInRow_53, aLet, i1, sumR, sumE]
    rcases o.1 i i4 with z | ⟨w, hw, z⟩
    · rw [z, if_neg (by decide), if_pos (by decide), Int32.add_zero]
    · have w31 : w < 2 ^ 31 := by omega
      have l0 := likesOf0 hS i4 (show w < 4 by omega)
      have l1 := likesOf1 hS i4 (show w < 4 by omega)
      rw [eS] at l0 l1
      rw [z, if_pos (nI_pos' w31), if_neg (nI_pos w31), nI_clamp w31, l0]
      simp only [aBind_some, r_308_31 hS, Option.bind_some, q_325, if_pos (in325 i4), c.1 i hi, z, l1]
  · rintro n _ rfl
    show b_X12_likedInRow_4 (f_X12_likedInRow_4 n) g 308 (sumR S rw (nE S)) (nI (nE S)) = _
    simp only [b_X12_likedInRow_4, q_308, r_308_20 hS, Option.bind_some, q_318, if_pos in3, cl3, eS, v3.1, if_pos (Int32.le_refl (nI (nE S)))]
