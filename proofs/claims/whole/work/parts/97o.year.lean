/-! ===== a year goes by ===== -/
def lrn (l t : Int32) : Int32 := if t ≤ l then (if l ≤ t then l else l - 1) else l + 1
theorem lrn_b {l t : Int32} (hl : Btw l 0 20) (ht : Btw t 0 20) : Btw (lrn l t) 0 20 := by
  obtain ⟨a, ha, rfl⟩ := btw_nI hl (m := 20) (by decide)
  obtain ⟨b, hb, rfl⟩ := btw_nI ht (m := 20) (by decide)
  unfold lrn
  by_cases c : nI b ≤ nI a
  · rw [if_pos c]
    by_cases d : nI a ≤ nI b
    · rw [if_pos d]; exact hl
    · rw [if_neg d]
      have := (nI_leI (by omega) (by omega)).mp c
      have nd : ¬ a ≤ b := fun q => d (nI_le q (by omega))
      have e : nI a - 1 = nI (a - 1) := by
        have := nI_pred (a - 1)
        rw [show a - 1 + 1 = a by omega] at this; exact this
      rw [e]
      exact ⟨nI_pos' (by omega), nI_le (b := 20) (by omega) (by decide)⟩
  · rw [if_neg c, nI_1]
    have nc : ¬ b ≤ a := fun q => c (nI_le q (by omega))
    exact ⟨nI_pos' (by omega), nI_le (b := 20) (by omega) (by decide)⟩
theorem learn_eq {h : aH} (hS : Str h) {a c : Nat} (ha : a ∈ stL) (hc : c < 32) {S : Row} (r : RSt h a S) : ∃ h', f_X8_learn h a (nI c) = some ((), h') ∧ RSt h' a (upd S (43 + c) (lrn (S (43 + c)) (S (78 + c)))) ∧ Upd (stA a) h h' := by
  have A := hS.st ha
  by_cases q : S (78 + c) ≤ S (43 + c)
  · by_cases p : S (43 + c) ≤ S (78 + c)
    · refine ⟨h, ?_, by rw [lrn, if_pos q, if_pos p, upd_same rfl]; exact r, Upd.rf h⟩
      simp only [f_X8_learn, qst0 ha, A.2.2.2.2.1, A.2.2.2.2.2, Option.bind_some, qst5 ha, qst6 ha, if_pos (inst5 ha hc), if_pos (inst6 ha hc), nI_clamp (show c < 2 ^ 31 by omega), r.li hc, r.tr hc, if_pos q, if_pos p]
    · refine ⟨pI h (a + 5) c (S (43 + c) - 1), ?_, by rw [lrn, if_pos q, if_neg p]; exact r.wLi hc rfl, Upd.pI (by unfold stA; omega)⟩
      simp only [f_X8_learn, qst0 ha, A.2.2.2.2.1, A.2.2.2.2.2, Option.bind_some, qst5 ha, qst6 ha, if_pos (inst5 ha hc), if_pos (inst6 ha hc), nI_clamp (show c < 2 ^ 31 by omega), r.li hc, r.tr hc, if_pos q, if_neg p, aLet]
  · refine ⟨pI h (a + 5) c (S (43 + c) + 1), ?_, by rw [lrn, if_neg q]; exact r.wLi hc rfl, Upd.pI (by unfold stA; omega)⟩
    simp only [f_X8_learn, qst0 ha, A.2.2.2.2.1, A.2.2.2.2.2, Option.bind_some, qst5 ha, qst6 ha, if_pos (inst5 ha hc), if_pos (inst6 ha hc), nI_clamp (show c < 2 ^ 31 by omega), r.li hc, r.tr hc, if_neg q, aLet]
def learnT (S : Row) (e w : Nat) : Row := upd (upd (upd (upd S (43 + 4 * e + w) (lrn (S (43 + 4 * e + w)) (S (78 + 4 * e + w)))) (59 + 4 * e + w) (lrn (S (59 + 4 * e + w)) (S (94 + 4 * e + w)))) (13 + 4 * e) (S (13 + 4 * e) + 1)) (29 + 4 * w) (S (29 + 4 * w) + 1)
def learnE (S : Row) (e : Nat) : Row := if S (12 + 4 * e) < 0 then S else learnT S e (wOf S e)
def learnA (S : Row) : Nat → Row
  | 0 => S
  | e + 1 => learnE (learnA S e) e
def yearT (S : Row) : Row := upd (learnA S (nE S)) 10 (S 10 + 1)
theorem learnT_o {S : Row} {e w j : Nat} (he : e < 4) (hw : w < 4) (h : j < 13 ∨ 75 ≤ j) : learnT S e w j = S j := by
  rw [learnT, upd_ne _ _ (by omega), upd_ne _ _ (by omega), upd_ne _ _ (by omega), upd_ne _ _ (by omega)]
theorem learnT_p {S : Row} {e w : Nat} (he : e < 4) (hw : w < 4) {k : Nat} (hk : k < 4) : learnT S e w (12 + 4 * k) = S (12 + 4 * k) ∧ learnT S e w (28 + 4 * k) = S (28 + 4 * k) ∧ learnT S e w (13 + 4 * k) = (if k = e then S (13 + 4 * k) + 1 else S (13 + 4 * k)) ∧ learnT S e w (29 + 4 * k) = (if k = w then S (29 + 4 * k) + 1 else S (29 + 4 * k)) := by
  refine ⟨?_, ?_, ?_, ?_⟩
  · rw [learnT, upd_ne _ _ (by omega), upd_ne _ _ (by omega), upd_ne _ _ (by omega), upd_ne _ _ (by omega)]
  · rw [learnT, upd_ne _ _ (by omega), upd_ne _ _ (by omega), upd_ne _ _ (by omega), upd_ne _ _ (by omega)]
  · rw [learnT, upd_ne _ _ (by omega)]
    by_cases c : k = e
    · rw [if_pos c, c, upd_at]
    · rw [if_neg c, upd_ne _ _ (by omega), upd_ne _ _ (by omega), upd_ne _ _ (by omega)]
  · rw [learnT]
    by_cases c : k = w
    · rw [if_pos c, c, upd_at]
    · rw [if_neg c, upd_ne _ _ (by omega), upd_ne _ _ (by omega), upd_ne _ _ (by omega), upd_ne _ _ (by omega)]
theorem VS.learn {S : Row} (v : VS S) {e w : Nat} (he : e < nE S) (hw : w < nW S) (pe : S (12 + 4 * e) = nI w) (pw : S (28 + 4 * w) = nI e) : VS (learnT S e w) := by
  have h3 := v.e3.2
  have h4 := v.e4.2
  have n3 := nE_of (learnT_o (S := S) (j := 3) (show e < 4 by omega) (show w < 4 by omega) (by omega))
  have n4 := nW_of (learnT_o (S := S) (j := 4) (show e < 4 by omega) (show w < 4 by omega) (by omega))
  refine v.mk' (fun j hj => learnT_o (by omega) (by omega) (by omega)) (fun k hk => ?_) ?_ ?_
  · rw [learnT, upd_ne _ _ (by omega), upd_ne _ _ (by omega)]
    by_cases c : k = 16 + 4 * e + w
    · rw [c, show 43 + (16 + 4 * e + w) = 59 + 4 * e + w by omega, upd_at]
      have := v.lk (16 + 4 * e + w) (by omega)
      rw [show 43 + (16 + 4 * e + w) = 59 + 4 * e + w by omega, show 78 + (16 + 4 * e + w) = 94 + 4 * e + w by omega] at this
      exact lrn_b this.1 this.2
    · rw [upd_ne _ _ (by omega)]
      by_cases d : k = 4 * e + w
      · rw [d, show 43 + (4 * e + w) = 43 + 4 * e + w by omega, upd_at]
        have := v.lk (4 * e + w) (by omega)
        rw [show 43 + (4 * e + w) = 43 + 4 * e + w by omega, show 78 + (4 * e + w) = 78 + 4 * e + w by omega] at this
        exact lrn_b this.1 this.2
      · rw [upd_ne _ _ (by omega)]; exact (v.lk k hk).1
  · intro e' he'
    rw [n3] at he'
    rw [n4]
    have q := learnT_p (S := S) (show e < 4 by omega) (show w < 4 by omega) (show e' < 4 by omega)
    rw [q.1, q.2.2.1]
    by_cases c : e' = e
    · subst c
      have p := learnT_p (S := S) (show e' < 4 by omega) (show w < 4 by omega) (show w < 4 by omega)
      obtain ⟨w', hw', z1, z2, z3⟩ := with_e v he (by rw [pe]; exact nI_pos (by omega))
      have : w' = w := (nI_eq (by omega) (by omega)).mp (by rw [← z1, pe])
      subst this
      refine Or.inr ⟨w', hw, pe, by rw [p.2.1]; exact pw, ?_⟩
      rw [p.2.2.2, if_pos rfl, if_pos rfl, z3]
    · rw [if_neg c]
      rcases v.pe e' he' with z | ⟨w', hw', z1, z2, z3⟩
      · exact Or.inl z
      · have p := learnT_p (S := S) (show e < 4 by omega) (show w < 4 by omega) (show w' < 4 by omega)
        have ne : ¬ w' = w := fun d => by rw [d, pw] at z2; exact c ((nI_eq (by omega) (by omega)).mp z2).symm
        exact Or.inr ⟨w', hw', z1, by rw [p.2.1]; exact z2, by rw [p.2.2.2, if_neg ne]; exact z3⟩
  · intro w' hw'
    rw [n4] at hw'
    rw [n3]
    have q := learnT_p (S := S) (show e < 4 by omega) (show w < 4 by omega) (show w' < 4 by omega)
    rw [q.2.1, q.2.2.2]
    by_cases c : w' = w
    · subst c
      have p := learnT_p (S := S) (show e < 4 by omega) (show w' < 4 by omega) (show e < 4 by omega)
      exact Or.inr ⟨e, he, pw, by rw [p.1]; exact pe⟩
    · rw [if_neg c]
      rcases v.pw w' hw' with z | ⟨e', he', z1, z2⟩
      · exact Or.inl z
      · have p := learnT_p (S := S) (show e < 4 by omega) (show w < 4 by omega) (show e' < 4 by omega)
        exact Or.inr ⟨e', he', z1, by rw [p.1]; exact z2⟩
theorem learnA_i {S : Row} (v : VS S) : ∀ {i : Nat}, i ≤ nE S → VS (learnA S i) ∧ (∀ j, j < 13 ∨ 75 ≤ j → learnA S i j = S j) := by
  have h3 := v.e3.2
  intro i
  induction i with
  | zero => intro _; exact ⟨v, fun _ _ => rfl⟩
  | succ i ih =>
    intro hi
    obtain ⟨a, b⟩ := ih (by omega)
    have n3 : nE (learnA S i) = nE S := nE_of (b 3 (by omega))
    rw [learnA, learnE]
    split
    · exact ⟨a, b⟩
    · rename_i q
      obtain ⟨w, hw, pe, pw, _⟩ := with_e a (e := i) (by omega) q
      have h4 := a.e4.2
      rw [show wOf (learnA S i) i = w by unfold wOf; rw [pe, nI_clamp (by omega)]]
      exact ⟨a.learn (by omega) hw pe pw, fun j hj => by rw [learnT_o (by omega) (by omega) hj, b j hj]⟩
theorem yearT_ok {S : Row} (v : VS S) : VS (yearT S) ∧ (∀ j, j < 10 ∨ 75 ≤ j → yearT S j = S j) ∧ yearT S 10 = S 10 + 1 := by
  obtain ⟨a, b⟩ := learnA_i v (i := nE S) (by omega)
  have o : ∀ j, j ≠ 10 → yearT S j = learnA S (nE S) j := fun j hj => by rw [yearT, upd_ne _ _ hj]
  refine ⟨a.mk' (fun j hj => o j (by omega)) (fun k hk => by rw [o _ (by omega)]; exact (a.lk k hk).1) ?_ ?_, fun j hj => by rw [o j (by omega), b j (by omega)], by rw [yearT, upd_at]⟩
  · intro e he
    rw [nE_of (o 3 (by decide))] at he
    rw [nW_of (o 4 (by decide)), o _ (by omega), o _ (by omega)]
    rcases a.pe e he with z | ⟨w, hw, z1, z2, z3⟩
    · exact Or.inl z
    · exact Or.inr ⟨w, hw, z1, by rw [o _ (by omega)]; exact z2, by rw [o _ (by omega)]; exact z3⟩
  · intro w hw
    rw [nW_of (o 4 (by decide))] at hw
    rw [nE_of (o 3 (by decide)), o _ (by omega), o _ (by omega)]
    rcases a.pw w hw with z | ⟨e, he, z1, z2⟩
    · exact Or.inl z
    · exact Or.inr ⟨e, he, z1, by rw [o _ (by omega)]; exact z2⟩
theorem cell0 (h : aH) (e w : Nat) : f_X8_cell h 0 (nI e) (nI w) = some (nI (4 * e + w), h) := by
  have := ix32 (s := 0) (e := e) (w := w)
  rw [show nI 0 = 0 from rfl, show 16 * 0 + 4 * e + w = 4 * e + w by omega] at this
  unfold f_X8_cell
  rw [this]
theorem cell1 (h : aH) (e w : Nat) : f_X8_cell h 1 (nI e) (nI w) = some (nI (16 + 4 * e + w), h) := by
  have := ix32 (s := 1) (e := e) (w := w)
  rw [show nI 1 = 1 from rfl, show 16 * 1 + 4 * e + w = 16 + 4 * e + w by omega] at this
  unfold f_X8_cell
  rw [this]
theorem passYear_eq {h : aH} (hS : Str h) {a : Nat} (ha : a ∈ stL) {S : Row} (r : RSt h a S) (v : VS S) : ∃ h', f_X8_passYear h a = some ((), h') ∧ RSt h' a (yearT S) ∧ Upd (stA a) h h' := by
  have e3 := v.e3
  refine itLoop (σ := aH × Int32) (fun n s => f_X8_passYear_2 n s.1 a s.2)
    (fun i s => s = (s.1, nI i) ∧ RSt s.1 a (learnA S i) ∧ Upd (stA a) h s.1)
    (fun o => ∃ h', o = some ((), h') ∧ RSt h' a (yearT S) ∧ Upd (stA a) h h') (nE S) ?_ ?_ 2000 0 (h, 0) ⟨rfl, r, Upd.rf h⟩ (by omega) (by omega)
  · rintro m i s hi ⟨es, ri, u⟩
    have S1 := u.str hS
    have A := S1.st ha
    have hi4 : i < 4 := by omega
    obtain ⟨vi, oi⟩ := learnA_i v (i := i) (by omega)
    have n3 : nE (learnA S i) = nE S := nE_of (oi 3 (by omega))
    have c : ¬ nI (nE S) ≤ nI i := nI_ge hi (by omega)
    have r3 : hI s.1 a 3 = nI (nE S) := by rw [ri.s3, oi 3 (by omega), e3.1]
    by_cases q : learnA S i (12 + 4 * i) < 0
    · refine Or.inr ⟨(s.1, nI (i + 1)), ⟨rfl, by rw [learnA, learnE, if_pos q]; exact ri, u⟩, ?_⟩
      rw [es]
      show b_X8_passYear_2 (f_X8_passYear_2 m) s.1 a (nI i) = _
      simp only [b_X8_passYear_2, qst0 ha, r3, if_neg c, partnerS0 S1 ha ri hi4, aBind_some, if_pos q, b_X8_passYear_51, i1]
    · obtain ⟨w, hw, pe, pw, _⟩ := with_e vi (e := i) (by omega) q
      have hw4 : w < 4 := by have := vi.e4.2; omega
      have ew : wOf (learnA S i) i = w := by unfold wOf; rw [pe, nI_clamp (by omega)]
      have pn := partnerS0 S1 ha ri hi4
      rw [pe] at pn
      obtain ⟨g, dg⟩ : ∃ g, g = pI s.1 (a + 4) i (learnA S i (13 + 4 * i) + 1) := ⟨_, rfl⟩
      have rg : RSt g a (upd (learnA S i) (13 + 4 * i) (learnA S i (13 + 4 * i) + 1)) := by rw [dg]; exact ri.wYe hi4 rfl
      have ug : Upd (stA a) s.1 g := by rw [dg]; exact Upd.pI (by unfold stA; omega)
      obtain ⟨g1, f1, r1, u1⟩ := learn_eq (ug.str S1) ha (c := 4 * i + w) (by omega) rg
      obtain ⟨g2, f2, r2, u2⟩ := learn_eq (u1.str (ug.str S1)) ha (c := 16 + 4 * i + w) (by omega) r1
      refine Or.inr ⟨(g2, nI (i + 1)), ⟨rfl, ?_, ((u.tr ug).tr u1).tr u2⟩, ?_⟩
      · rw [learnA, learnE, if_neg q, ew]
        refine r2.eqv (fun j hj hn => ?_)
        have hn2 : ¬ (j = 29 ∨ j = 33 ∨ j = 37 ∨ j = 41) := hn
        rw [learnT, upd_ne _ _ (by omega), show 43 + (4 * i + w) = 43 + 4 * i + w by omega, show 43 + (16 + 4 * i + w) = 59 + 4 * i + w by omega, show 78 + (4 * i + w) = 78 + 4 * i + w by omega, show 78 + (16 + 4 * i + w) = 94 + 4 * i + w by omega]
        have k1 : ∀ k, k ≠ 13 + 4 * i → upd (learnA S i) (13 + 4 * i) (learnA S i (13 + 4 * i) + 1) k = learnA S i k := fun k hk => upd_ne _ _ hk
        rw [upd_ne _ _ (show 59 + 4 * i + w ≠ 43 + 4 * i + w by omega), upd_ne _ _ (show 94 + 4 * i + w ≠ 43 + 4 * i + w by omega), k1 _ (by omega), k1 _ (by omega), k1 _ (by omega), k1 _ (by omega)]
        rw [upd_comm (show 43 + 4 * i + w ≠ 59 + 4 * i + w by omega)]
        by_cases c1 : j = 13 + 4 * i
        · rw [c1, upd_at, upd_ne _ _ (by omega), upd_ne _ _ (by omega), upd_at]
        · rw [upd_ne _ _ c1]
          by_cases c2 : j = 43 + 4 * i + w
          · rw [c2, upd_at, upd_ne _ _ (by omega), upd_at]
          · rw [upd_ne _ _ c2]
            by_cases c3 : j = 59 + 4 * i + w
            · rw [c3, upd_at, upd_at]
            · rw [upd_ne _ _ c3, upd_ne _ _ c3, upd_ne _ _ c2, upd_ne _ _ c1]
      · rw [es]
        have cw : ¬ nI w < 0 := nI_pos (by omega)
        show b_X8_passYear_2 (f_X8_passYear_2 m) s.1 a (nI i) = _
        simp only [b_X8_passYear_2, qst0 ha, r3, if_neg c, pn, aBind_some, if_neg cw, A.2.2.2.1, Option.bind_some, qst4 ha, if_pos (inst4 ha hi4), aLet, nI_clamp (show i < 2 ^ 31 by omega), ri.ye hi4, ← dg, cell0, f1, cell1, f2, b_X8_passYear_51, i1]
  · rintro m s ⟨es, ri, u⟩
    obtain ⟨vi, oi⟩ := learnA_i v (i := nE S) (by omega)
    have r3 : hI s.1 a 3 = nI (nE S) := by rw [ri.s3, oi 3 (by omega), e3.1]
    have r5 : hI s.1 a 5 = S 10 := by rw [ri.s5, oi 10 (by omega)]
    refine ⟨pI s.1 a 5 (S 10 + 1), ?_, ri.wY rfl, u.tr (Upd.pI (by unfold stA; omega))⟩
    rw [es]
    show b_X8_passYear_2 (f_X8_passYear_2 m) s.1 a (nI (nE S)) = _
    simp only [b_X8_passYear_2, qst0 ha, r3, if_pos (Int32.le_refl (nI (nE S))), aLet, r5]
