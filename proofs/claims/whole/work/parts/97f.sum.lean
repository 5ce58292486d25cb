/-! ===== what a rule says of one ===== -/
def sgK (h : aH) (k : Nat) : Nat → Int32 := fun z => hI h 310 (400 * k + z)
def valB (wd : Nat → Int64) (sg : Nat → Int32) (i j : Nat) : Int64 := (evR wd sg (j - i) i []).headD 0
def cI (h : aH) (k c : Nat) : Nat := (hI h (68 + 5 * k) c).toNatClampNeg
def cJ (h : aH) (k c : Nat) : Nat := (hI h (69 + 5 * k) c).toNatClampNeg
def cL (h : aH) (k c : Nat) : Nat := (hI h (70 + 5 * k) c).toNatClampNeg
def nC (h : aH) (k : Nat) : Nat := (hI h 313 k).toNatClampNeg
def sumB (h : aH) (k : Nat) (wd : Nat → Int64) : Nat → Nat → Int64
  | 0, _ => 0
  | n + 1, c => if cJ h k c = cL h k c ∨ ¬ valB wd (sgK h k) (cJ h k c) (cL h k c) = 0 then valB wd (sgK h k) (cI h k c) (cJ h k c) else sumB h k wd n (c + 1)
theorem valB_c {wd wd' : Nat → Int64} (e : ∀ i, i < 11 → wd i = wd' i) (sg : Nat → Int32) (i j : Nat) : valB wd sg i j = valB wd' sg i j := by
  unfold valB; rw [evR_c e]
theorem sumB_c {wd wd' : Nat → Int64} (e : ∀ i, i < 11 → wd i = wd' i) (h : aH) (k : Nat) : ∀ n c, sumB h k wd n c = sumB h k wd' n c := by
  intro n
  induction n with
  | zero => intro c; rfl
  | succ n ih => intro c; rw [sumB, sumB, valB_c e, valB_c e, ih]
/-- a clause's numbers -/
theorem RRule.cl {h : aH} {k : Nat} (r : RRule h k) {c : Nat} (hc : c < nC h k) : hI h (68 + 5 * k) c = nI (cI h k c) ∧ hI h (69 + 5 * k) c = nI (cJ h k c) ∧ hI h (70 + 5 * k) c = nI (cL h k c) ∧ cI h k c ≤ cJ h k c ∧ cJ h k c ≤ cL h k c ∧ cL h k c ≤ 256 ∧ hI h 312 (48 * k + 4 * c) = nI (cI h k c) ∧ hI h 312 (48 * k + 4 * c + 1) = nI (cJ h k c) ∧ hI h 312 (48 * k + 4 * c + 2) = (if cJ h k c = cL h k c then -1 else nI (cJ h k c)) ∧ hI h 312 (48 * k + 4 * c + 3) = nI (cL h k c) ∧ tyR (sgK h k) (cJ h k c - cI h k c) (cI h k c) [] = some [false] ∧ (cJ h k c < cL h k c → tyR (sgK h k) (cL h k c - cJ h k c) (cJ h k c) [] = some [true]) ∧ ∀ z, z < cL h k c → sgK h k z &&& 15 = kindOf (hI h (67 + 5 * k) z &&& 15) ∧ sgK h k z >>> 4 = hI h (67 + 5 * k) z >>> 4 := by
  obtain ⟨_, b, s, d⟩ := r
  obtain ⟨n, hn, en⟩ := btw_nI b (m := 12) (by decide)
  have hn' : nC h k = n := by unfold nC; rw [en, nI_clamp (by omega)]
  rw [hn'] at hc
  obtain ⟨i, j, l, q1, q2, q3, q4, e1, e2, e3, f1, f2, f3, f4, t1, t2⟩ := d c (by omega) (by rw [en]; exact nI_lt hc (by omega))
  have ei : cI h k c = i := by unfold cI; rw [e1, nI_clamp (by omega)]
  have ej : cJ h k c = j := by unfold cJ; rw [e2, nI_clamp (by omega)]
  have el : cL h k c = l := by unfold cL; rw [e3, nI_clamp (by omega)]
  rw [ei, ej, el]
  exact ⟨e1, e2, e3, q1, q2, q3, f1, f2, f3, f4, t1, t2, fun z hz => s z (by omega) (Int32.lt_of_lt_of_le (nI_lt hz (by omega)) q4)⟩
theorem RRule.nc {h : aH} {k : Nat} (r : RRule h k) : hI h 313 k = nI (nC h k) ∧ nC h k ≤ 12 := by
  obtain ⟨n, hn, en⟩ := btw_nI r.2.1 (m := 12) (by decide)
  have hn' : nC h k = n := by unfold nC; rw [en, nI_clamp (by omega)]
  rw [hn']; exact ⟨en, hn⟩
theorem valB_1 {wd : Nat → Int64} {sg : Nat → Int32} {i j : Nat} {x : Int64} (h : evR wd sg (j - i) i [] = [x]) : valB wd sg i j = x := by unfold valB; rw [h]; rfl
theorem rl_k : ∀ k, k < 6 → 66 + 5 * k ∈ rlL := by decide +kernel
theorem b1_if {h : aH} {p q : Prop} [Decidable p] [Decidable q] (e : q ↔ ¬ p) : (if p then some ((0 : Int32), h) else some (1, h)) = some (b1 q, h) := by
  by_cases c : p
  · rw [if_pos c, b1, if_neg (fun d => (e.mp d) c)]
  · rw [if_neg c, b1, if_pos (e.mpr c)]
theorem stays_c {h h0 : aH} (hS : Str h) {k : Nat} (hk : k < 6) (r : RRule h0 k) (eC : ∀ b, 66 ≤ b → b ≤ 95 → hI h b = hI h0 b) : ∃ h', f_X3_stays_39 2000 h 39 (66 + 5 * k) 0 = some (b1 (0 < sumB h0 k (hL h 40) (nC h0 k) 0), h') ∧ Upd (fun c => c = 41) h h' := by
  have hra := rl_k k hk
  have nc := r.nc
  refine itLoop (σ := aH × Int32) (fun n s => f_X3_stays_39 n s.1 39 (66 + 5 * k) s.2)
    (fun c s => s = (s.1, nI c) ∧ Upd (fun c => c = 41) h s.1 ∧ sumB h0 k (hL h 40) (nC h0 k - c) c = sumB h0 k (hL h 40) (nC h0 k) 0)
    (fun o => ∃ h', o = some (b1 (0 < sumB h0 k (hL h 40) (nC h0 k) 0), h') ∧ Upd (fun c => c = 41) h h') (nC h0 k) ?_ ?_ 2000 0 (h, 0) ?_ (by omega) (by omega)
  · rintro m c s hc ⟨es, u, hsum⟩
    have S1 := u.str hS
    have A := S1.rl hra
    have nr := rl_ne _ hra
    have eb : ∀ b, 66 ≤ b → b ≤ 95 → hI s.1 b = hI h0 b := fun b p q => by rw [u.2.2.1 b (by omega), eC b p q]
    have e5 : hI s.1 (66 + 5 * k) 5 = nI (nC h0 k) := by rw [eb _ (by omega) (by omega), r.1, nc.1]
    have c5 : ¬ nI (nC h0 k) ≤ nI c := nI_ge hc (by omega)
    obtain ⟨a1, a2, a3, a4, a5, a6, -, -, -, -, t1, t2, hz⟩ := r.cl hc
    have d1 : hI s.1 (66 + 5 * k + 2) c = nI (cI h0 k c) := by rw [show 66 + 5 * k + 2 = 68 + 5 * k by omega, eb _ (by omega) (by omega), a1]
    have d2 : hI s.1 (66 + 5 * k + 3) c = nI (cJ h0 k c) := by rw [show 66 + 5 * k + 3 = 69 + 5 * k by omega, eb _ (by omega) (by omega), a2]
    have d3 : hI s.1 (66 + 5 * k + 4) c = nI (cL h0 k c) := by rw [show 66 + 5 * k + 4 = 70 + 5 * k by omega, eb _ (by omega) (by omega), a3]
    have e40 : ∀ g, Upd (fun c => c = 41) h g → hL g 40 = hL h 40 := fun g ug => ug.2.2.2 40 (by decide)
    have kz : ∀ g, Upd (fun c => c = 41) h g → ∀ z, z < cL h0 k c → sgK h0 k z &&& 15 = kindOf (hI g (66 + 5 * k + 1) z &&& 15) ∧ sgK h0 k z >>> 4 = hI g (66 + 5 * k + 1) z >>> 4 := fun g ug z hzl => by
      rw [show 66 + 5 * k + 1 = 67 + 5 * k by omega, ug.2.2.1 _ (by omega), eC _ (by omega) (by omega)]; exact hz z hzl
    have last : ∀ g, Upd (fun c => c = 41) h g → hI g (66 + 5 * k + 2) c = nI (cI h0 k c) → (cJ h0 k c = cL h0 k c ∨ ¬ valB (hL h 40) (sgK h0 k) (cJ h0 k c) (cL h0 k c) = 0) → ∃ h', b_X3_stays_87 g 39 (66 + 5 * k) (nI c) (nI (cJ h0 k c)) = some (b1 (0 < sumB h0 k (hL h 40) (nC h0 k) 0), h') ∧ Upd (fun c => c = 41) h h' := fun g ug eg hq => by
      have Sg := ug.str hS
      obtain ⟨x, g', f, ev, _, ug'⟩ := value_eq Sg hra (sg := sgK h0 k) a4 (show cJ h0 k c ≤ 256 by omega) (fun z hzl => kz g ug z (by omega)) t1
      rw [e40 g ug] at ev
      refine ⟨g', ?_, ug.tr ug'⟩
      rw [show nC h0 k - c = (nC h0 k - (c + 1)) + 1 by omega, sumB, if_pos hq, valB_1 ev] at hsum
      simp only [b_X3_stays_87, qrl0 hra, (Sg.rl hra).2.1, Option.bind_some, qrl2 hra, if_pos (inrl2 hra (show c < 12 by omega)), nI_clamp (show c < 2 ^ 31 by omega), q_39, eg, f, aBind_some, lg_cmp_le]
      rw [← hsum]
      exact b1_if Int64.not_le.symm
    by_cases jl : cJ h0 k c = cL h0 k c
    · obtain ⟨h', f', u'⟩ := last s.1 u d1 (Or.inl jl)
      refine Or.inl ⟨h', ?_, u'⟩
      rw [es]
      show b_X3_stays_39 (f_X3_stays_39 m) s.1 39 (66 + 5 * k) (nI c) = _
      simp only [b_X3_stays_39, qrl0 hra, e5, if_neg c5, A.2.2.1, A.2.2.2, Option.bind_some, qrl3 hra, qrl4 hra, if_pos (inrl3 hra (show c < 12 by omega)), if_pos (inrl4 hra (show c < 12 by omega)), aLet, nI_clamp (show c < 2 ^ 31 by omega), d2, d3, jl, if_true]
      rw [← jl]; exact f'
    · have njl : ¬ nI (cJ h0 k c) = nI (cL h0 k c) := fun q => jl ((nI_eq (by omega) (by omega)).mp q)
      obtain ⟨x, g, f, ev, _, ug⟩ := value_eq S1 hra (sg := sgK h0 k) a5 a6 (kz s.1 u) (t2 (by omega))
      rw [e40 s.1 u] at ev
      have u2 := u.tr ug
      have vx := valB_1 ev
      by_cases x0 : x = 0
      · refine Or.inr ⟨(g, nI (c + 1)), ⟨rfl, u2, ?_⟩, ?_⟩
        · rw [show nC h0 k - c = (nC h0 k - (c + 1)) + 1 by omega, sumB, if_neg (by rw [vx]; exact fun q => q.elim jl (fun q => q x0))] at hsum
          exact hsum
        · rw [es]
          show b_X3_stays_39 (f_X3_stays_39 m) s.1 39 (66 + 5 * k) (nI c) = _
          simp only [b_X3_stays_39, qrl0 hra, e5, if_neg c5, A.2.2.1, A.2.2.2, Option.bind_some, qrl3 hra, qrl4 hra, if_pos (inrl3 hra (show c < 12 by omega)), if_pos (inrl4 hra (show c < 12 by omega)), aLet, nI_clamp (show c < 2 ^ 31 by omega), d2, d3, if_neg njl, q_39, f, aBind_some, lg_cmp_eq, if_pos x0, i1]
      · obtain ⟨h', f', u'⟩ := last g u2 (by rw [u2.2.2.1 _ (by omega), ← u.2.2.1 _ (by omega), d1]) (Or.inr (by rw [vx]; exact x0))
        refine Or.inl ⟨h', ?_, u'⟩
        rw [es]
        show b_X3_stays_39 (f_X3_stays_39 m) s.1 39 (66 + 5 * k) (nI c) = _
        simp only [b_X3_stays_39, qrl0 hra, e5, if_neg c5, A.2.2.1, A.2.2.2, Option.bind_some, qrl3 hra, qrl4 hra, if_pos (inrl3 hra (show c < 12 by omega)), if_pos (inrl4 hra (show c < 12 by omega)), aLet, nI_clamp (show c < 2 ^ 31 by omega), d2, d3, if_neg njl, q_39, f, aBind_some, lg_cmp_eq, if_neg x0]
        exact f'
  · rintro m s ⟨es, u, hsum⟩
    have e5 : hI s.1 (66 + 5 * k) 5 = nI (nC h0 k) := by rw [u.2.2.1 _ (by omega), eC _ (by omega) (by omega), r.1, nc.1]
    refine ⟨s.1, ?_, u⟩
    rw [Nat.sub_self, sumB] at hsum
    rw [es, ← hsum]
    show b_X3_stays_39 (f_X3_stays_39 m) s.1 39 (66 + 5 * k) (nI (nC h0 k)) = _
    simp only [b_X3_stays_39, qrl0 hra, e5, if_pos (Int32.le_refl (nI (nC h0 k)))]
    rw [b1, if_neg (by decide)]
  · exact ⟨rfl, Upd.rf h, rfl⟩
theorem in312 {k : Nat} (h : k < 288) : aIn (nI k) (sh 312).2 := by rw [sh_312]; exact vp_in_nI h (by decide)
theorem in313 {k : Nat} (h : k < 6) : aIn (nI k) (sh 313).2 := by rw [sh_313]; exact vp_in_nI h (by decide)
theorem i48 (k c : Nat) : (48 : Int32) * nI k + 4 * nI c = nI (48 * k + 4 * c) := by
  rw [show (48 : Int32) = nI 48 from rfl, show (4 : Int32) = nI 4 from rfl, pk_mul, pk_mul, nI_add]
/-- what a sum of the reference leaves -/
def RU (h h' : aH) : Prop := Upd (fun c => c = 308 ∨ c = 316) h h' ∧ ∀ j, j ≠ 18 → hI h' 308 j = hI h 308 j
theorem RU.tr {a b c : aH} (x : RU a b) (y : RU b c) : RU a c := ⟨x.1.tr y.1, fun j hj => (y.2 j hj).trans (x.2 j hj)⟩
theorem summed_eq {h h0 : aH} (hS : Str h) {k : Nat} (hk : k < 6) (r : RRule h0 k) (eC : ∀ b, 310 ≤ b → b ≤ 313 → hI h b = hI h0 b) : ∃ h', f_X12_summedBy h 308 (nI k) = some (sumB h0 k (hL h 317) (nC h0 k) 0, h') ∧ RU h h' := by
  have nc := r.nc
  refine itLoop (σ := aH × Int32) (fun n s => f_X12_summedBy_2 n s.1 308 (nI k) s.2)
    (fun c s => s = (s.1, nI c) ∧ RU h s.1 ∧ sumB h0 k (hL h 317) (nC h0 k - c) c = sumB h0 k (hL h 317) (nC h0 k) 0)
    (fun o => ∃ h', o = some (sumB h0 k (hL h 317) (nC h0 k) 0, h') ∧ RU h h') (nC h0 k) ?_ ?_ 2000 0 (h, 0) ?_ (by omega) (by omega)
  · rintro m c s hc ⟨es, u, hsum⟩
    have S1 := u.1.str hS
    have eb : ∀ g, RU h g → ∀ b, 310 ≤ b → b ≤ 313 → hI g b = hI h0 b := fun g ug b p q => by rw [ug.1.2.2.1 b (by omega), eC b p q]
    have e5 : hI s.1 313 k = nI (nC h0 k) := by rw [eb _ u _ (by omega) (by omega), nc.1]
    have c5 : ¬ nI (nC h0 k) ≤ nI c := nI_ge hc (by omega)
    obtain ⟨-, -, -, a4, a5, a6, a7, a8, a9, a10, t1, t2, -⟩ := r.cl hc
    have e317 : ∀ g, RU h g → hL g 317 = hL h 317 := fun g ug => ug.1.2.2.2 317 (by decide)
    have esg : ∀ g, RU h g → (fun z => hI g 310 (400 * k + z)) = sgK h0 k := fun g ug => by rw [eb g ug 310 (by omega) (by omega)]; rfl
    have e12 : ∀ g, RU h g → hI g 312 = hI h0 312 := fun g ug => eb g ug 312 (by omega) (by omega)
    have last : ∀ g, RU h g → (cJ h0 k c = cL h0 k c ∨ ¬ valB (hL h 317) (sgK h0 k) (cJ h0 k c) (cL h0 k c) = 0) → ∃ h', b_X12_summedBy_58 g 308 (nI k) (nI (48 * k + 4 * c)) = some (sumB h0 k (hL h 317) (nC h0 k) 0, h') ∧ RU h h' := fun g ug hq => by
      have Sg := ug.1.str hS
      obtain ⟨x, g', f, ev, _, ug', kg'⟩ := reckon_eq Sg hk (i := cI h0 k c) (l := cJ h0 k c) a4 (by omega) (b := false) (by rw [esg g ug]; exact t1)
      rw [e317 g ug, esg g ug] at ev
      refine ⟨g', ?_, ug.tr ⟨ug', kg'⟩⟩
      rw [show nC h0 k - c = (nC h0 k - (c + 1)) + 1 by omega, sumB, if_pos hq, valB_1 ev] at hsum
      simp only [b_X12_summedBy_58, q_308, r_308_5 Sg, Option.bind_some, q_312, if_pos (in312 (show 48 * k + 4 * c < 288 by omega)), if_pos (in312 (show 48 * k + 4 * c + 1 < 288 by omega)), aLet, i1, nI_clamp (show 48 * k + 4 * c < 2 ^ 31 by omega), nI_clamp (show 48 * k + 4 * c + 1 < 2 ^ 31 by omega), e12 g ug, a7, a8, f, aBind_some]
      rw [← hsum]
    by_cases jl : cJ h0 k c = cL h0 k c
    · obtain ⟨h', f', u'⟩ := last s.1 u (Or.inl jl)
      refine Or.inl ⟨h', ?_, u'⟩
      rw [es]
      rw [if_pos jl] at a9
      show b_X12_summedBy_2 (f_X12_summedBy_2 m) s.1 308 (nI k) (nI c) = _
      simp only [b_X12_summedBy_2, q_308, r_308_6 S1, r_308_5 S1, Option.bind_some, q_313, if_pos (in313 hk), nI_clamp (show k < 2 ^ 31 by omega), e5, if_neg c5, aLet, i48, i2, q_312, if_pos (in312 (show 48 * k + 4 * c + 2 < 288 by omega)), nI_clamp (show 48 * k + 4 * c + 2 < 2 ^ 31 by omega), e12 s.1 u, a9, if_pos (show (-1 : Int32) < 0 by decide)]
      exact f'
    · rw [if_neg jl] at a9
      obtain ⟨x, g, f, ev, xb, ug, kg⟩ := reckon_eq S1 hk (i := cJ h0 k c) (l := cL h0 k c) a5 a6 (b := true) (by rw [esg s.1 u]; exact t2 (by omega))
      rw [e317 s.1 u, esg s.1 u] at ev
      have u2 : RU h g := u.tr ⟨ug, kg⟩
      have vx := valB_1 ev
      have nj : ¬ nI (cJ h0 k c) < 0 := nI_pos (by omega)
      by_cases x0 : x = 0
      · have x1 : ¬ x = 1 := by rw [x0]; decide
        refine Or.inr ⟨(g, nI (c + 1)), ⟨rfl, u2, ?_⟩, ?_⟩
        · rw [show nC h0 k - c = (nC h0 k - (c + 1)) + 1 by omega, sumB, if_neg (by rw [vx]; exact fun q => q.elim jl (fun q => q x0))] at hsum
          exact hsum
        · rw [es]
          show b_X12_summedBy_2 (f_X12_summedBy_2 m) s.1 308 (nI k) (nI c) = _
          simp only [b_X12_summedBy_2, q_308, r_308_6 S1, r_308_5 S1, Option.bind_some, q_313, if_pos (in313 hk), nI_clamp (show k < 2 ^ 31 by omega), e5, if_neg c5, aLet, i48, i2, i3, q_312, if_pos (in312 (show 48 * k + 4 * c + 2 < 288 by omega)), if_pos (in312 (show 48 * k + 4 * c + 3 < 288 by omega)), nI_clamp (show 48 * k + 4 * c + 2 < 2 ^ 31 by omega), nI_clamp (show 48 * k + 4 * c + 3 < 2 ^ 31 by omega), e12 s.1 u, a9, a10, if_neg nj, f, aBind_some, lg_cmp_eq, if_neg x1, i1]
      · have x1 : x = 1 := (xb rfl).resolve_left x0
        obtain ⟨h', f', u'⟩ := last g u2 (Or.inr (by rw [vx]; exact x0))
        refine Or.inl ⟨h', ?_, u'⟩
        rw [es]
        show b_X12_summedBy_2 (f_X12_summedBy_2 m) s.1 308 (nI k) (nI c) = _
        simp only [b_X12_summedBy_2, q_308, r_308_6 S1, r_308_5 S1, Option.bind_some, q_313, if_pos (in313 hk), nI_clamp (show k < 2 ^ 31 by omega), e5, if_neg c5, aLet, i48, i2, i3, q_312, if_pos (in312 (show 48 * k + 4 * c + 2 < 288 by omega)), if_pos (in312 (show 48 * k + 4 * c + 3 < 288 by omega)), nI_clamp (show 48 * k + 4 * c + 2 < 2 ^ 31 by omega), nI_clamp (show 48 * k + 4 * c + 3 < 2 ^ 31 by omega), e12 s.1 u, a9, a10, if_neg nj, f, aBind_some, lg_cmp_eq, if_pos x1]
        exact f'
  · rintro m s ⟨es, u, hsum⟩
    have S1 := u.1.str hS
    have e5 : hI s.1 313 k = nI (nC h0 k) := by rw [u.1.2.2.1 _ (by omega), eC _ (by omega) (by omega), nc.1]
    refine ⟨s.1, ?_, u⟩
    rw [Nat.sub_self, sumB] at hsum
    rw [es, ← hsum]
    show b_X12_summedBy_2 (f_X12_summedBy_2 m) s.1 308 (nI k) (nI (nC h0 k)) = _
    simp only [b_X12_summedBy_2, q_308, r_308_6 S1, Option.bind_some, q_313, if_pos (in313 hk), nI_clamp (show k < 2 ^ 31 by omega), e5, if_pos (Int32.le_refl (nI (nC h0 k)))]
  · exact ⟨rfl, ⟨Upd.rf h, fun _ _ => rfl⟩, rfl⟩
