/-! ===== at a fair: all are joined, in the reference ===== -/
theorem inner_eq {h : aH} (hS : Str h) {S : Row} (eS : hI h 318 = S) (v : VS S) {B A H : Row} (k : RAsk h (nE S) B A H) (ho : HOK S H) (K : aH → Nat → Int32 → Option (Int32 × aH)) :
    (selF S A B H (nE S) 0 = none ∧ f_X12_joinsAll_44 K 2000 h 308 0 0 = K h 308 0) ∨ ∃ q h', selF S A B H (nE S) 0 = some q ∧ f_X12_joinsAll_44 K 2000 h 308 0 0 = K h' 308 1 ∧ hI h' 318 = S ∧ RAsk h' (nE S) B (askA A q.1 q.2) (askH S H q.1 q.2) ∧ RX h h' := by
  have e3 := v.e3
  have e4 := v.e4
  have key : ∀ n i, i ≤ nE S → nE S + 1 < n + i → selF S A B H (nE S - i) i = selF S A B H (nE S) 0 → (selF S A B H (nE S) 0 = none ∧ f_X12_joinsAll_44 K n h 308 0 (nI i) = K h 308 0) ∨ ∃ q h', selF S A B H (nE S) 0 = some q ∧ f_X12_joinsAll_44 K n h 308 0 (nI i) = K h' 308 1 ∧ hI h' 318 = S ∧ RAsk h' (nE S) B (askA A q.1 q.2) (askH S H q.1 q.2) ∧ RX h h' := by
    intro n
    induction n with
    | zero => intro i h1 h2; omega
    | succ n ih =>
      intro i h1 h2 hs
      by_cases hi : i < nE S
      · have hi4 : i < 4 := by omega
        have c3 : ¬ nI (nE S) ≤ nI i := nI_ge hi (by omega)
        have hs0 := hs
        rw [show nE S - i = (nE S - (i + 1)) + 1 by omega, selF] at hs
        by_cases c : selC S A B H i
        · rcases favN_c (S := S) (ae := A i) (be := B i) (e := i) (nW S) e4.2 with z | ⟨w, hw, z, o⟩
          · have := c.2.2; rw [z] at this; exact absurd this (by decide)
          · rw [if_pos c, z, nI_clamp (by omega)] at hs
            obtain ⟨h', f', s', k', x'⟩ := isAsked_eq hS eS v k ho hi hw
            refine Or.inr ⟨(i, w), h', hs.symm, ?_, s', k', x'⟩
            have S' := x'.str hS
            obtain ⟨n', rfl⟩ : ∃ n', n = n' + 1 := ⟨n - 1, by omega⟩
            show b_X12_joinsAll_44 K (f_X12_joinsAll_44 K (n' + 1)) h 308 0 (nI i) = _
            simp only [b_X12_joinsAll_44, q_308, r_308_20 hS, Option.bind_some, q_318, if_pos in3, cl3, eS, e3.1, if_neg c3, if_true, asks_eq hS eS v k hi, if_pos (show S (12 + 4 * i) < 0 ∧ ¬ atH H i from ⟨c.1, c.2.1⟩), aBind_some, z, if_pos (nI_pos' (show w < 2 ^ 31 by omega)), f', b_X12_joinsAll_79, i1]
            show b_X12_joinsAll_44 K (f_X12_joinsAll_44 K n') h' 308 1 (nI (i + 1)) = _
            simp only [b_X12_joinsAll_44, q_308, r_308_20 S', Option.bind_some, q_318, if_pos in3, cl3, s', e3.1, if_neg (show ¬ (1 : Int32) = 0 by decide), b_X12_joinsAll_85]
            split <;> rfl
        · rw [if_neg c] at hs
          have as : f_X12_asks h 308 (nI i) = some (-1, h) ∨ ∃ x, f_X12_asks h 308 (nI i) = some (x, h) ∧ ¬ 0 ≤ x := by
            rw [asks_eq hS eS v k hi]
            by_cases d : S (12 + 4 * i) < 0 ∧ ¬ atH H i
            · rw [if_pos d]; exact Or.inr ⟨_, rfl, fun q => c ⟨d.1, d.2, q⟩⟩
            · rw [if_neg d]; exact Or.inl rfl
          have as' : ∃ x, f_X12_asks h 308 (nI i) = some (x, h) ∧ ¬ 0 ≤ x := as.elim (fun q => ⟨-1, q, by decide⟩) id
          obtain ⟨x, fx, nx⟩ := as'
          have st : f_X12_joinsAll_44 K (n + 1) h 308 0 (nI i) = f_X12_joinsAll_44 K n h 308 0 (nI (i + 1)) := by
            show b_X12_joinsAll_44 K (f_X12_joinsAll_44 K n) h 308 0 (nI i) = _
            simp only [b_X12_joinsAll_44, q_308, r_308_20 hS, Option.bind_some, q_318, if_pos in3, cl3, eS, e3.1, if_neg c3, if_true, fx, aBind_some, if_neg nx, b_X12_joinsAll_79, i1]
          rw [st]
          exact ih (i + 1) (by omega) (by omega) hs
      · have : i = nE S := by omega
        subst this
        rw [Nat.sub_self, selF] at hs
        refine Or.inl ⟨hs.symm, ?_⟩
        show b_X12_joinsAll_44 K (f_X12_joinsAll_44 K n) h 308 0 (nI (nE S)) = _
        simp only [b_X12_joinsAll_44, q_308, r_308_20 hS, Option.bind_some, q_318, if_pos in3, cl3, eS, e3.1, if_pos (Int32.le_refl (nI (nE S))), b_X12_joinsAll_85]
  exact key 2000 0 (by omega) (by omega) rfl
theorem outer_eq {S B : Row} (v : VS S) : ∀ (t n : Nat) (h : aH) (s : Row × Row), Str h → hI h 318 = S → RAsk h (nE S) B s.1 s.2 → HOK S s.2 → AOK s.1 → mu s.1 ≤ t → t + 2 ≤ n →
    ∃ h', f_X12_joinsAll_36 n h 308 1 = f_X12_joinsAll_92 2000 h' 308 0 0 ∧ hI h' 318 = S ∧ RAsk h' (nE S) B (askN S B t s).1 (askN S B t s).2 ∧ RX h h' := by
  have h3 := v.e3.2
  have h4 := v.e4.2
  intro t
  induction t with
  | zero =>
    intro n h s hS eS k ho ao hm hn
    obtain ⟨m, rfl⟩ : ∃ m, n = m + 2 := ⟨n - 2, by omega⟩
    have un : f_X12_joinsAll_36 (m + 2) h 308 1 = f_X12_joinsAll_44 (f_X12_joinsAll_36 (m + 1)) 2000 h 308 0 0 := by
      show b_X12_joinsAll_36 (f_X12_joinsAll_36 (m + 1)) h 308 1 = _
      simp only [b_X12_joinsAll_36, if_neg (show ¬ (1 : Int32) = 0 by decide)]
    rw [un]
    rcases inner_eq hS eS v k ho (f_X12_joinsAll_36 (m + 1)) with ⟨z, f⟩ | ⟨q, h', z, _⟩
    · refine ⟨h, ?_, eS, k, RX.rf h⟩
      rw [f]
      show b_X12_joinsAll_36 (f_X12_joinsAll_36 m) h 308 0 = _
      simp only [b_X12_joinsAll_36, if_true]
    · obtain ⟨_, a2, a3, _, _, a6, _⟩ := selF_some v z
      have := (ao.ask (show q.1 < 4 by omega) (show q.2 < 4 by omega) a6.2.1).2
      omega
  | succ t ih =>
    intro n h s hS eS k ho ao hm hn
    obtain ⟨m, rfl⟩ : ∃ m, n = m + 2 := ⟨n - 2, by omega⟩
    have un : f_X12_joinsAll_36 (m + 2) h 308 1 = f_X12_joinsAll_44 (f_X12_joinsAll_36 (m + 1)) 2000 h 308 0 0 := by
      show b_X12_joinsAll_36 (f_X12_joinsAll_36 (m + 1)) h 308 1 = _
      simp only [b_X12_joinsAll_36, if_neg (show ¬ (1 : Int32) = 0 by decide)]
    rw [un, askN]
    rcases inner_eq hS eS v k ho (f_X12_joinsAll_36 (m + 1)) with ⟨z, f⟩ | ⟨q, h', z, f, s', k', x'⟩
    · rw [z]
      refine ⟨h, ?_, eS, k, RX.rf h⟩
      rw [f]
      show b_X12_joinsAll_36 (f_X12_joinsAll_36 m) h 308 0 = _
      simp only [b_X12_joinsAll_36, if_true]
    · obtain ⟨_, a2, a3, _, _, a6, _⟩ := selF_some v z
      have am := ao.ask (show q.1 < 4 by omega) (show q.2 < 4 by omega) a6.2.1
      have ho' := ho.ask v z
      rw [z, f]
      obtain ⟨g, fg, sg, kg, xg⟩ := ih (m + 1) h' (askA s.1 q.1 q.2, askH S s.2 q.1 q.2) (x'.str hS) s' k' ho' am.1 (show mu (askA s.1 q.1 q.2) ≤ t by omega) (by omega)
      exact ⟨g, fg, sg, kg, x'.tr xg⟩
theorem joinsAll_eq {h : aH} (hS : Str h) {S : Row} (eS : hI h 318 = S) (v : VS S) {B : Row} (kB : ∀ e, e < nE S → hI h 319 e = B e) :
    ∃ h', f_X12_joinsAll h 308 = some (cntA (askN S B 16 (A0, H0)).2 (nW S), h') ∧ hI h' 318 = joinA S (askN S B 16 (A0, H0)).2 (nW S) ∧ RX h h' := by
  have h3 := v.e3.2
  have e4 := v.e4
  have st : ∃ h', f_X12_joinsAll h 308 = f_X12_joinsAll_36 2000 h' 308 1 ∧ hI h' 318 = S ∧ RAsk h' (nE S) B A0 H0 ∧ RX h h' := by
    refine itLoop (σ := aH × Int32) (fun n s => f_X12_joinsAll_2 n s.1 308 s.2) (fun i s => s = (s.1, nI i) ∧ (∀ j, j < i → hI s.1 320 j = 0 ∧ hI s.1 321 j = 0 ∧ hI s.1 322 j = -1) ∧ Upd (fun c => c = 320 ∨ c = 321 ∨ c = 322) h s.1)
      (fun o => ∃ h', o = f_X12_joinsAll_36 2000 h' 308 1 ∧ hI h' 318 = S ∧ RAsk h' (nE S) B A0 H0 ∧ RX h h') 4 ?_ ?_ 2000 0 (h, 0) ⟨rfl, fun j hj => by omega, Upd.rf h⟩ (by omega) (by omega)
    · rintro m i s hi ⟨es, kj, u⟩
      have S1 := u.str hS
      have c : ¬ (4 : Int32) ≤ nI i := nI_ge (b := 4) hi (by decide)
      refine Or.inr ⟨(pI (pI (pI s.1 320 i 0) 321 i 0) 322 i (-1), nI (i + 1)), ⟨rfl, fun j hj => ?_, ((u.tr (Upd.pI (A := fun c => c = 320 ∨ c = 321 ∨ c = 322) (Or.inl rfl))).tr (Upd.pI (Or.inr (Or.inl rfl)))).tr (Upd.pI (Or.inr (Or.inr rfl)))⟩, ?_⟩
      · show hI (pI (pI (pI s.1 320 i 0) 321 i 0) 322 i (-1)) 320 j = 0 ∧ hI (pI (pI (pI s.1 320 i 0) 321 i 0) 322 i (-1)) 321 j = 0 ∧ hI (pI (pI (pI s.1 320 i 0) 321 i 0) 322 i (-1)) 322 j = -1
        rw [hI_ne _ (show 320 ≠ 322 by decide), hI_ne _ (show 320 ≠ 321 by decide), hI_eq, hI_ne _ (show 321 ≠ 322 by decide), hI_eq, hI_ne _ (show 321 ≠ 320 by decide), hI_eq, hI_ne _ (show 322 ≠ 321 by decide), hI_ne _ (show 322 ≠ 320 by decide)]
        by_cases d : j = i
        · rw [d, upd_at, upd_at, upd_at]; exact ⟨rfl, rfl, rfl⟩
        · rw [upd_ne _ _ d, upd_ne _ _ d, upd_ne _ _ d]; exact kj j (by omega)
      · rw [es]
        show b_X12_joinsAll_2 (f_X12_joinsAll_2 m) s.1 308 (nI i) = _
        simp only [b_X12_joinsAll_2, if_neg c, q_308, r_308_25 S1, r_308_26 S1, r_308_27 S1, hR_pI, Option.bind_some, q_320, q_321, q_322, if_pos (in320 hi), if_pos (in321 hi), if_pos (in322 hi), aLet, nI_clamp (show i < 2 ^ 31 by omega), i1, nb0]
    · rintro m s ⟨es, kj, u⟩
      refine ⟨s.1, ?_, by rw [u.2.2.1 318 (by decide), eS], ⟨fun e he => by rw [u.2.2.1 319 (by decide)]; exact kB e he, fun i hi => ⟨(kj i hi).1, (kj i hi).2.2, ?_⟩⟩, ⟨u.mono (fun c hc => by omega), fun j _ => by rw [u.2.2.1 308 (by decide)]⟩⟩
      · rw [es]
        show b_X12_joinsAll_2 (f_X12_joinsAll_2 m) s.1 308 (nI 4) = _
        simp only [b_X12_joinsAll_2, if_pos (show (4 : Int32) ≤ nI 4 by decide)]
      · rw [(kj i hi).2.1, b1, if_neg]
        rw [atH_iff]
        rintro ⟨w, _, z⟩
        exact nI_m1' (by omega) z
  obtain ⟨g, fg, sg, kg, xg⟩ := st
  obtain ⟨g1, fg1, sg1, kg1, xg1⟩ := outer_eq v 16 2000 g (A0, H0) (xg.str hS) sg kg (HOK0 S) AOK0 (mu_16 AOK0) (by omega)
  have ho : HOK S (askN S B 16 (A0, H0)).2 := askN_ok v (HOK0 S)
  obtain ⟨H, eH⟩ : ∃ H, H = (askN S B 16 (A0, H0)).2 := ⟨_, rfl⟩
  rw [← eH] at ho kg1
  rw [fg, fg1, ← eH]
  have x1 := xg.tr xg1
  refine itLoop (σ := aH × Int32 × Int32) (fun n s => f_X12_joinsAll_92 n s.1 308 s.2.1 s.2.2)
    (fun i s => s = (s.1, cntA H i, nI i) ∧ hI s.1 318 = joinA S H i ∧ (∀ j, j < 4 → hI s.1 322 j = H j) ∧ RX h s.1)
    (fun o => ∃ h', o = some (cntA H (nW S), h') ∧ hI h' 318 = joinA S H (nW S) ∧ RX h h') (nW S) ?_ ?_ 2000 0 (g1, 0, 0) ⟨rfl, sg1, fun j hj => (kg1.2 j hj).2.1, x1⟩ (by omega) (by omega)
  · rintro m i s hi ⟨es, si, k, x⟩
    have S1 := x.str hS
    have hi4 : i < 4 := by omega
    obtain ⟨vi, oi, _⟩ := joinA_i v ho (i := i) (by omega)
    have c : ¬ nI (nW S) ≤ nI i := nI_ge hi (by omega)
    have r4 : joinA S H i 4 = nI (nW S) := by rw [oi 4 (by omega), e4.1]
    have k44 : hI s.1 322 i = H i := k i hi4
    by_cases q : H i < 0
    · refine Or.inr ⟨(s.1, cntA H (i + 1), nI (i + 1)), ⟨rfl, ?_, k, x⟩, ?_⟩
      · rw [joinA, if_pos q]; exact si
      · rw [es]
        show b_X12_joinsAll_92 (f_X12_joinsAll_92 m) s.1 308 (cntA H i) (nI i) = _
        simp only [b_X12_joinsAll_92, q_308, r_308_20 S1, r_308_27 S1, Option.bind_some, q_318, if_pos in4, cl4, si, r4, if_neg c, q_322, if_pos (in322 hi4), nI_clamp (show i < 2 ^ 31 by omega), k44, if_neg (Int32.not_le.mpr q), b_X12_joinsAll_129, i1, cntA, if_pos q]
    · obtain ⟨e, he, hw, eHi, fe, fw⟩ := (ho.1 i hi4).resolve_left (fun z => q (by rw [z]; decide))
      have jn := joins_eq S1 (show e < 4 by omega) hi4
      rw [si] at jn
      refine Or.inr ⟨(wI s.1 318 (joinT (joinA S H i) e i), cntA H (i + 1), nI (i + 1)), ⟨rfl, ?_, fun j hj => ?_, x.tr (RX.wI (by omega))⟩, ?_⟩
      · rw [joinA, if_neg q, eHi, nI_clamp (by omega)]; exact hI_wI_eq _ _ _
      · show hI (wI s.1 318 _) 322 j = _
        rw [hI_wI_ne _ _ (by decide)]; exact k j hj
      · rw [es]
        show b_X12_joinsAll_92 (f_X12_joinsAll_92 m) s.1 308 (cntA H i) (nI i) = _
        simp only [b_X12_joinsAll_92, q_308, r_308_20 S1, r_308_27 S1, Option.bind_some, q_318, if_pos in4, cl4, si, r4, if_neg c, q_322, if_pos (in322 hi4), nI_clamp (show i < 2 ^ 31 by omega), k44, if_pos (Int32.not_lt.mp q), cntA, if_neg q]
        rw [eHi, jn]
        simp only [aBind_some, b_X12_joinsAll_129, i1]
  · rintro m s ⟨es, si, k, x⟩
    have S1 := x.str hS
    have oi := (joinA_i v ho (i := nW S) (by omega)).2.1
    have r4 : joinA S H (nW S) 4 = nI (nW S) := by rw [oi 4 (by omega), e4.1]
    refine ⟨s.1, ?_, si, x⟩
    rw [es]
    show b_X12_joinsAll_92 (f_X12_joinsAll_92 m) s.1 308 (cntA H (nW S)) (nI (nW S)) = _
    simp only [b_X12_joinsAll_92, q_308, r_308_20 S1, Option.bind_some, q_318, if_pos in4, cl4, si, r4, if_pos (Int32.le_refl (nI (nW S)))]
