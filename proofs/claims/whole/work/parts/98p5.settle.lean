theorem chooseC' {S : Row} (v : VS S) : ∀ k n e (h : aH) (rw ho : Row) (a : Acc), k < n → e + k = nE S → Str h → RSt h 19 S → RO S rw ho → (∀ i, e ≤ i → i < 4 → rw i = -1) → CR h rw ho → accC h a → a.1 + 5 ^ k ≤ 999 → ∃ h', fr_X7 n h 53 19 (nI e) = some ((), h') ∧ CR h' rw ho ∧ accC h' (chS S k e rw ho a) ∧ Upd zC h h' := by
  have v3 := v.e3
  have v4 := v.e4
  intro k
  induction k with
  | zero =>
    intro n e h rw ho a hn he hS r o z c ac ha
    obtain ⟨n, rfl⟩ : ∃ m, n = m + 1 := ⟨n - 1, by omega⟩
    obtain ⟨h', f', ac', u'⟩ := takeC hS r v o c ac (by have : 5 ^ 0 = 1 := rfl; omega)
    refine ⟨h', ?_, fun i hi => ?_, by rw [chS]; exact ac', u'.mono (fun c hc => by unfold zC; omega)⟩
    · show fb_X7_choose (fr_X7 n) h 53 19 (nI e) = _
      have q : nI (nE S) ≤ nI e := nI_le (by omega) (by omega)
      simp only [fb_X7_choose, qst0 m19, r.s3, v3.1, if_pos q, b_X7_choose_13, q_53, f', aBind_some]
    · rw [u'.2.2.1 54 (by unfold sC; omega), u'.2.2.1 55 (by unfold sC; omega)]; exact c i hi
  | succ k ih =>
    intro n e h rw ho a hn he hS r o z c ac ha
    have p5 : 5 ^ (k + 1) = 5 * 5 ^ k := by rw [Nat.pow_succ, Nat.mul_comm]
    obtain ⟨n, rfl⟩ : ∃ m, n = m + 1 := ⟨n - 1, by omega⟩
    have e4 : e < 4 := by omega
    have q : ¬ nI (nE S) ≤ nI e := nI_ge (by omega) (by omega)
    have q4 : nI e < 4 := nI_lt (b := 4) e4 (by decide)
    obtain ⟨h1, f1, c1, ac1, u1⟩ := ih n (e + 1) h rw ho a (by omega) (by omega) hS r o (fun i p q => z i (by omega) q) c ac (by omega)
    have S1 := u1.str hS
    have r1 : RSt h1 19 S := r.up u1 (fun b p q => zCn (by omega))
    have fr := isFreeS0 S1 m19 r1 e4
    have l1 := chS_le v k (e + 1) rw ho a
    by_cases fe : S (12 + 4 * e) < 0
    · rw [if_pos fe] at fr
      have key : ∃ h', f_X7_choose_39 (fr_X7 n) 2000 h1 53 19 (nI e) 0 = some ((), h') ∧ CR h' rw ho ∧ accC h' (chS S (k + 1) e rw ho a) ∧ Upd zC h h' := by
        refine itLoop (σ := aH × Int32) (fun m s => f_X7_choose_39 (fr_X7 n) m s.1 53 19 (nI e) s.2) (fun i s => s = (s.1, nI i) ∧ CR s.1 rw ho ∧ (∃ b : Acc, accC s.1 b ∧ b.1 ≤ a.1 + (i + 1) * 5 ^ k ∧ chL S e rw ho (fun r o b => chS S k (e + 1) r o b) (nW S - i) i b = chS S (k + 1) e rw ho a) ∧ Upd zC h s.1)
          (fun o => ∃ h', o = some ((), h') ∧ CR h' rw ho ∧ accC h' (chS S (k + 1) e rw ho a) ∧ Upd zC h h') (nW S) ?_ ?_ 2000 0 (h1, 0) ⟨rfl, c1, ⟨_, ac1, by rw [Nat.zero_add, Nat.one_mul]; exact l1, rfl⟩, u1⟩ (by omega) (by omega)
        · rintro m i s hi ⟨es, ci, ⟨b, ab, bl, be⟩, u⟩
          have Ss := u.str hS
          have i4 : i < 4 := by omega
          have rs : RSt s.1 19 S := r.up u (fun b p q => zCn (by omega))
          have qi : ¬ nI (nW S) ≤ nI i := nI_ge hi (by omega)
          rw [show nW S - i = (nW S - (i + 1)) + 1 by omega, chL] at be
          have cj := couldJoinS Ss m19 rs e4 i4
          have bm : (i + 1) * 5 ^ k ≤ 4 * 5 ^ k := Nat.mul_le_mul_right _ (by omega)
          have bs : (i + 1 + 1) * 5 ^ k = (i + 1) * 5 ^ k + 5 ^ k := Nat.succ_mul _ _
          by_cases cd : ho i < 0 ∧ canJ S e i
          · rw [if_pos cd] at be
            have hoi : ho i = -1 := by
              rcases o.2 i i4 with y | ⟨e', he', y⟩
              · exact y
              · rw [y] at cd; exact absurd cd.1 (nI_pos (by omega))
            obtain ⟨g, eg⟩ : ∃ g, g = pI (pI s.1 54 e (nI i)) 55 i (nI e) := ⟨_, rfl⟩
            have Sg : Str g := by rw [eg]; exact Ss
            have ug : Upd zC s.1 g := by rw [eg]; exact (Upd.pI (by unfold zC; omega)).tr (Upd.pI (by unfold zC; omega))
            have cg : CR g (upd rw e (nI i)) (upd ho i (nI e)) := fun j hj => by
              rw [eg, hI_ne _ (show (54 : Nat) ≠ 55 by decide), hI_eq, hI_eq, hI_ne _ (show (55 : Nat) ≠ 54 by decide)]
              constructor
              · by_cases y : j = e
                · rw [y, upd_at, upd_at]
                · rw [upd_ne _ _ y, upd_ne _ _ y]; exact (ci j hj).1
              · by_cases y : j = i
                · rw [y, upd_at, upd_at]
                · rw [upd_ne _ _ y, upd_ne _ _ y]; exact (ci j hj).2
            have og : RO S (upd rw e (nI i)) (upd ho i (nI e)) := by
              refine ⟨fun j hj => ?_, fun j hj => ?_⟩
              · by_cases y : j = e
                · rw [y, upd_at]; exact Or.inr ⟨i, hi, rfl⟩
                · rw [upd_ne _ _ y]; exact o.1 j hj
              · by_cases y : j = i
                · rw [y, upd_at]; exact Or.inr ⟨e, by omega, rfl⟩
                · rw [upd_ne _ _ y]; exact o.2 j hj
            have ag : accC g b := by
              unfold accC
              rw [eg, hI_ne _ (show (53 : Nat) ≠ 55 by decide), hI_ne _ (show (53 : Nat) ≠ 54 by decide), hI_ne _ (show (56 : Nat) ≠ 55 by decide), hI_ne _ (show (56 : Nat) ≠ 54 by decide)]
              exact ab
            obtain ⟨h2, f2, c2, ac2, u2⟩ := ih n (e + 1) g (upd rw e (nI i)) (upd ho i (nI e)) b (by omega) (by omega) Sg (rs.up ug (fun b p q => zCn (by omega))) og (fun j p q => by rw [upd_ne _ _ (by omega)]; exact z j (by omega) q) cg ag (by omega)
            have S2 := u2.str Sg
            obtain ⟨g2, eg2⟩ : ∃ g2, g2 = pI (pI h2 54 e (-1)) 55 i (-1) := ⟨_, rfl⟩
            have ug2 : Upd zC h2 g2 := by rw [eg2]; exact (Upd.pI (by unfold zC; omega)).tr (Upd.pI (by unfold zC; omega))
            have l2 := chS_le v k (e + 1) (upd rw e (nI i)) (upd ho i (nI e)) b
            refine Or.inr ⟨(g2, nI (i + 1)), ⟨rfl, fun j hj => ?_, ⟨_, ?_, ?_, be⟩, u.tr (ug.tr (u2.tr ug2))⟩, ?_⟩
            · show hI g2 54 j = rw j ∧ hI g2 55 j = ho j
              rw [eg2, hI_ne _ (show (54 : Nat) ≠ 55 by decide), hI_eq, hI_eq, hI_ne _ (show (55 : Nat) ≠ 54 by decide)]
              constructor
              · by_cases y : j = e
                · rw [y, upd_at]; exact (z e (Nat.le_refl e) e4).symm
                · rw [upd_ne _ _ y, (c2 j hj).1, upd_ne _ _ y]
              · by_cases y : j = i
                · rw [y, upd_at]; exact hoi.symm
                · rw [upd_ne _ _ y, (c2 j hj).2, upd_ne _ _ y]
            · show accC g2 (chS S k (e + 1) (upd rw e (nI i)) (upd ho i (nI e)) b)
              unfold accC
              rw [eg2, hI_ne _ (show (53 : Nat) ≠ 55 by decide), hI_ne _ (show (53 : Nat) ≠ 54 by decide), hI_ne _ (show (56 : Nat) ≠ 55 by decide), hI_ne _ (show (56 : Nat) ≠ 54 by decide)]
              exact ac2
            · show (chS S k (e + 1) (upd rw e (nI i)) (upd ho i (nI e)) b).1 ≤ _
              omega
            · rw [es]
              show b_X7_choose_39 (fr_X7 n) (f_X7_choose_39 (fr_X7 n) m) s.1 53 19 (nI e) (nI i) = _
              simp only [b_X7_choose_39, qst0 m19, rs.s4, v4.1, if_neg qi, q_53, r_53_1 Ss, Option.bind_some, q_55, if_pos (in55 i4), nI_clamp (show i < 2 ^ 31 by omega), nI_clamp (show e < 2 ^ 31 by omega), (ci i i4).2, if_neg (Int32.not_le.mpr cd.1), cj, aBind_some, b1_0, if_pos cd.2, if_neg (show ¬ (1 : Int32) = 0 by decide), r_53_0 Ss, q_54, if_pos (in54 e4), aLet, hR_pI, ← eg, i1, f2, r_53_0 S2, r_53_1 S2, ← eg2, b_X7_choose_101]
          · rw [if_neg cd] at be
            refine Or.inr ⟨(s.1, nI (i + 1)), ⟨rfl, ci, ⟨b, ab, by omega, be⟩, u⟩, ?_⟩
            rw [es]
            show b_X7_choose_39 (fr_X7 n) (f_X7_choose_39 (fr_X7 n) m) s.1 53 19 (nI e) (nI i) = _
            simp only [b_X7_choose_39, qst0 m19, rs.s4, v4.1, if_neg qi, q_53, r_53_1 Ss, Option.bind_some, q_55, if_pos (in55 i4), nI_clamp (show i < 2 ^ 31 by omega), (ci i i4).2, cj, aBind_some, b1_0, b_X7_choose_101, i1]
            by_cases y : ho i < 0
            · rw [if_neg (Int32.not_le.mpr y), if_neg (fun w => cd ⟨y, w⟩)]
            · rw [if_pos (Int32.not_lt.mp y)]
        · rintro m s ⟨es, ci, ⟨b, ab, bl, be⟩, u⟩
          have rs : RSt s.1 19 S := r.up u (fun b p q => zCn (by omega))
          rw [Nat.sub_self, chL] at be
          refine ⟨s.1, ?_, ci, by rw [← be]; exact ab, u⟩
          rw [es]
          show b_X7_choose_39 (fr_X7 n) (f_X7_choose_39 (fr_X7 n) m) s.1 53 19 (nI e) (nI (nW S)) = _
          simp only [b_X7_choose_39, qst0 m19, rs.s4, v4.1, if_pos (Int32.le_refl (nI (nW S)))]
      obtain ⟨h', f', x, y, w⟩ := key
      refine ⟨h', ?_, x, y, w⟩
      show fb_X7_choose (fr_X7 n) h 53 19 (nI e) = _
      simp only [fb_X7_choose, qst0 m19, r.s3, v3.1, if_neg q, if_pos q4, q_53, i1, f1, aBind_some, fr, if_neg (show ¬ (1 : Int32) = 0 by decide), f']
    · rw [if_neg fe] at fr
      refine ⟨h1, ?_, c1, by rw [chS, chL_id fe]; exact ac1, u1⟩
      show fb_X7_choose (fr_X7 n) h 53 19 (nI e) = _
      simp only [fb_X7_choose, qst0 m19, r.s3, v3.1, if_neg q, if_pos q4, q_53, i1, f1, aBind_some, fr, if_true]
