/-! ===== rule: the reference's values ===== -/
def SR (g : Row) : List (Nat × Nat) → Prop
  | [] => True
  | x :: r => g r.length = nI (x.1 + 16 * x.2) ∧ SR g r
theorem SR.up {g g' : Row} : ∀ {L : List (Nat × Nat)} {i : Nat}, L.length ≤ i → (∀ j, j < i → g' j = g j) → SR g L → SR g' L := by
  intro L
  induction L with
  | nil => intro _ _ _ _; exact True.intro
  | cons z r ih =>
    intro i h e c
    rw [List.length_cons] at h
    exact ⟨by rw [e r.length (by omega)]; exact c.1, ih (i := i) (by omega) e c.2⟩
def RRk (h : aH) (t : Row) (n k : Nat) (s : GS) : Prop := RT h t n s.1 0 ∧ s.2.1 ≤ 60 ∧ hI h 308 12 = nI s.2.1 ∧ hI h 308 11 = nI k ∧ s.2.2.length ≤ 256 ∧ hI h 311 k = nI s.2.2.length ∧ SR (fun i => hI h 310 (400 * k + i)) s.2.2
def RRx (h : aH) (t : Row) (n : Nat) (f : Int32) : Prop := ¬ f = 0 ∧ ∃ p, RT h t n p f
def RRu (h : aH) (t : Row) (n k : Nat) (r : Rs) : Prop := match r with
  | none => False
  | some (.inl f) => RRx h t n f
  | some (.inr s) => RRk h t n k s
def okR (r : Rs) : Bool := match r with
  | some (.inr _) => true
  | _ => false
theorem bB_t (s : GS) : ¬ bB (okR (some (Sum.inr s))) = 0 := by
  show ¬ (1 : Int32) = 0
  decide
def FS (k : Nat) (h h' : aH) : Prop := Upd (fun c => c = 308 ∨ c = 310 ∨ c = 311) h h' ∧ (∀ j, j ≠ 8 → j ≠ 9 → j ≠ 10 → j ≠ 12 → hI h' 308 j = hI h 308 j) ∧ (∀ j, j ≠ k → hI h' 311 j = hI h 311 j) ∧ (∀ j, j < 400 * k ∨ 400 * k + 400 ≤ j → hI h' 310 j = hI h 310 j)
theorem FS.rf {k : Nat} (h : aH) : FS k h h := ⟨Upd.rf h, fun _ _ _ _ _ => rfl, fun _ _ => rfl, fun _ _ => rfl⟩
theorem FS.tr {k : Nat} {a b c : aH} (x : FS k a b) (y : FS k b c) : FS k a c := ⟨x.1.tr y.1, fun j p q r s => (y.2.1 j p q r s).trans (x.2.1 j p q r s), fun j p => (y.2.2.1 j p).trans (x.2.2.1 j p), fun j p => (y.2.2.2 j p).trans (x.2.2.2 j p)⟩
theorem FS.rs {k : Nat} {h : aH} {R : Row} {q : Nat} {f : Int32} (hR : ∀ j, j ≠ 10 → R j = hI h 308 j) : FS k h (rS h R q f) := ⟨Upd.wI (Or.inl rfl), fun j p q r s => by rw [rS_j _ _ _ _ p q]; exact hR j r, fun j _ => by rw [rS_o _ _ _ _ (by decide)], fun j _ => by rw [rS_o _ _ _ _ (by decide)]⟩
theorem RRk.rs {h : aH} {t : Row} {n k : Nat} {s : GS} (c : RRk h t n k s) {R : Row} (hR : ∀ j, j ≠ 10 → R j = hI h 308 j) {q : Nat} (hq : q ≤ n) : RRk (rS h R q 0) t n k (q, s.2) := by
  obtain ⟨c1, c2, c3, c4, c5, c6, c7⟩ := c
  have tb : TRB h R t n := ⟨c1.1.1, by rw [hR 1 (by decide)]; exact c1.1.2.1, c1.1.2.2⟩
  refine ⟨RT.of tb hq, c2, ?_, ?_, c5, ?_, ?_⟩
  · rw [rS_j _ _ _ _ (by decide) (by decide), hR 12 (by decide)]; exact c3
  · rw [rS_j _ _ _ _ (by decide) (by decide), hR 11 (by decide)]; exact c4
  · rw [rS_o _ _ _ _ (by decide)]; exact c6
  · rw [rS_o _ _ _ _ (by decide)]; exact c7
theorem RRk.rx {h : aH} {t : Row} {n k : Nat} {s : GS} (c : RRk h t n k s) {R : Row} (hR : ∀ j, j ≠ 10 → R j = hI h 308 j) {q : Nat} (hq : q ≤ n) {f : Int32} (f0 : ¬ f = 0) : RRx (rS h R q f) t n f := by
  obtain ⟨c1, c2, c3, c4, c5, c6, c7⟩ := c
  have tb : TRB h R t n := ⟨c1.1.1, by rw [hR 1 (by decide)]; exact c1.1.2.1, c1.1.2.2⟩
  exact ⟨f0, q, RT.of tb hq⟩
/-- the place goes to q -/
abbrev rP (h : aH) (q : Nat) : aH := rS h (hI h 308) q 0
theorem RRk.p {h : aH} {t : Row} {n k : Nat} {s : GS} (c : RRk h t n k s) {q : Nat} (hq : q ≤ n) : RRk (rP h q) t n k (q, s.2) := c.rs (fun _ _ => rfl) hq
theorem FS.p {k : Nat} {h : aH} {q : Nat} : FS k h (rP h q) := FS.rs (fun _ _ => rfl)
theorem RRk.pp {h : aH} {t : Row} {n k : Nat} {s : GS} (c : RRk h t n k s) (q : Nat) : pI h 308 8 (nI q) = rP h q := by
  have e := rS_p h (hI h 308) s.1 q 0
  rw [c.1.e] at e
  exact e
theorem seeT {h : aH} {t : Row} {n k : Nat} {s : GS} (c : RRk h t n k s) : f_X12_see h 308 = some (bya t n (sk t n s.1), rP h (sk t n s.1)) := by
  have x := seeR c.1.1 c.1.2.1 0
  rw [c.1.e] at x
  exact x
theorem seeS {h : aH} {t : Row} {n k : Nat} {s : GS} (c : RRk h t n k s) (ss : sk t n s.1 = s.1) : f_X12_see h 308 = some (bya t n s.1, h) := by
  have x := seeT c
  rw [ss] at x
  have e := c.1.e
  exact x.trans (by rw [show rP h s.1 = h from e])
theorem digT {h : aH} {t : Row} {n p : Nat} {f : Int32} (c : RT h t n p f) {q : Nat} (hq : q < 2 ^ 31) : f_X12_isDigit h 308 (nI q) = some (bB (decide (q < n) && bdg t q), h) := by
  have x := isDigR c.1 p f hq
  rw [c.e] at x
  exact x
theorem byte_c {x : Int32} (h : Btw x (-128) 127) {c : Nat} (hc : c < 128) : x &&& 255 = nI c ↔ x = nI c := by
  obtain ⟨k, hk, rfl⟩ := byte_k h
  exact byte_s k hk c hc
theorem in_310 {k : Nat} (h : k < 2400) : aIn (nI k) (sh 310).2 := by rw [sh_310]; exact vp_in_nI h (by decide)
theorem in_311 {k : Nat} (h : k < 7) : aIn (nI k) (sh 311).2 := by rw [sh_311]; exact vp_in_nI h (by decide)
theorem putsR {h : aH} {t : Row} {n k : Nat} {s : GS} (hk : k < 6) (c : RRk h t n k s) (l : s.2.2.length < 256) (a x : Nat) : ∃ h', f_X12_puts h 308 (nI a) (nI x) = some ((), h') ∧ RRk h' t n k (s.1, s.2.1, (a, x) :: s.2.2) ∧ FS k h h' := by
  obtain ⟨c1, c2, c3, c4, c5, c6, c7⟩ := c
  have S := c1.1.1
  obtain ⟨z, ez⟩ : ∃ z, z = s.2.2.length := ⟨_, rfl⟩
  rw [← ez] at l c6
  have e4 : (400 : Int32) * nI k = nI (400 * k) := pk_mul 400 k
  have e5 : nI (400 * k) + nI z = nI (400 * k + z) := nI_add _ _
  have e6 : (16 : Int32) * nI x = nI (16 * x) := pk_mul 16 x
  have e7 : nI a + nI (16 * x) = nI (a + 16 * x) := nI_add _ _
  have u : Upd (fun c => c = 308 ∨ c = 310 ∨ c = 311) h (pI (pI h 310 (400 * k + z) (nI (a + 16 * x))) 311 k (nI (z + 1))) := (Upd.pI (Or.inr (Or.inl rfl))).tr (Upd.pI (Or.inr (Or.inr rfl)))
  have o3 : hI (pI (pI h 310 (400 * k + z) (nI (a + 16 * x))) 311 k (nI (z + 1))) 308 = hI h 308 := by rw [hI_ne _ (by decide), hI_ne _ (by decide)]
  have o9 : hI (pI (pI h 310 (400 * k + z) (nI (a + 16 * x))) 311 k (nI (z + 1))) 309 = hI h 309 := by rw [hI_ne _ (by decide), hI_ne _ (by decide)]
  have o0 : hI (pI (pI h 310 (400 * k + z) (nI (a + 16 * x))) 311 k (nI (z + 1))) 310 = upd (hI h 310) (400 * k + z) (nI (a + 16 * x)) := by rw [hI_ne _ (by decide), hI_eq]
  refine ⟨pI (pI h 310 (400 * k + z) (nI (a + 16 * x))) 311 k (nI (z + 1)), ?_, ⟨⟨⟨S, ?_, c1.1.2.2.1, ?_⟩, c1.2.1, ?_, ?_⟩, c2, ?_, ?_, ?_, ?_, ?_, ?_⟩, u, ?_, ?_, ?_⟩
  · simp only [f_X12_puts, q_308, r_308_3 S, r_308_4 S, Option.bind_some, aLet, c4, q_311, if_pos (in_311 (show k < 7 by omega)), nI_clamp (show k < 2 ^ 31 by omega), c6, e4, e5, q_310, if_pos (in_310 (show 400 * k + z < 2400 by omega)), nI_clamp (show 400 * k + z < 2 ^ 31 by omega), e6, e7, hR_pI, hI_ne _ (show (308 : Nat) ≠ 310 by decide), hI_ne _ (show (311 : Nat) ≠ 310 by decide), i1]
  · rw [o3]; exact c1.1.2.1
  · rw [o9]; exact c1.1.2.2.2
  · rw [o3]; exact c1.2.2.1
  · rw [o3]; exact c1.2.2.2
  · rw [o3]; exact c3
  · rw [o3]; exact c4
  · show ((a, x) :: s.2.2).length ≤ 256
    rw [List.length_cons]; omega
  · show _ = nI ((a, x) :: s.2.2).length
    rw [hI_eq, upd_at, List.length_cons, ez]
  · show hI _ 310 (400 * k + s.2.2.length) = _
    rw [o0, ez, upd_at]
  · refine SR.up (i := z) (by omega) (fun j hj => ?_) c7
    show hI _ 310 (400 * k + j) = _
    rw [o0, upd_ne _ _ (by omega)]
  · intro j _ _ _ _; rw [o3]
  · intro j hj
    rw [hI_eq, upd_ne _ _ hj, hI_ne _ (by decide)]
  · intro j hj
    rw [o0, upd_ne _ _ (by omega)]
theorem failK {h : aH} {t : Row} {n k : Nat} {s : GS} (c : RRk h t n k s) (x : Int32) (q : Nat) (f0 : ¬ blm q x 0 = 0) : ∃ h', f_X12_fails h 308 x (nI q) = some (0, h') ∧ RRx h' t n (blm q x 0) ∧ FS k h h' := by
  have y := failsR h (hI h 308) s.1 q 0 x
  rw [c.1.e] at y
  exact ⟨_, y, c.rx (fun _ _ => rfl) c.1.2.1 f0, FS.rs (fun _ _ => rfl)⟩
theorem makesR {h : aH} {t : Row} {n k : Nat} {s : GS} (c : RRk h t n k s) {q : Nat} (hq : q ≤ 400) : ∃ h', f_X12_makes h 308 (nI q) = some (bB (okR (gCnt q s)), h') ∧ RRu h' t n k (gCnt q s) ∧ FS k h h' := by
  have c' := c
  obtain ⟨c1, c2, c3, c4, c5, c6, c7⟩ := c
  unfold gCnt
  by_cases y : s.2.1 = 60
  · rw [if_pos y]
    obtain ⟨h1, e1, x1, u1⟩ := failK c' 3 q (blm_ne2 hq (Or.inr rfl))
    refine ⟨h1, ?_, x1, u1⟩
    have e6 : hI h 308 12 = 60 := by rw [c3, y]; rfl
    simp only [f_X12_makes, q_308, e6, if_true, e1, aBind_some, true_or]
    rfl
  · rw [if_neg y]
    have n6 : ¬ nI s.2.1 = 60 := fun z => y ((nI_eq (b := 60) (by omega) (by decide)).mp z)
    have o3 : hI (pI h 308 12 (nI (s.2.1 + 1))) 308 = upd (hI h 308) 12 (nI (s.2.1 + 1)) := hI_eq _
    refine ⟨pI h 308 12 (nI (s.2.1 + 1)), ?_, ⟨⟨⟨c1.1.1, ?_, c1.1.2.2.1, ?_⟩, c1.2.1, ?_, ?_⟩, ?_, ?_, ?_, c5, ?_, ?_⟩, ⟨Upd.pI (Or.inl rfl), ?_, ?_, ?_⟩⟩
    · simp only [f_X12_makes, q_308, c3, if_neg n6, i1, aLet]
      rfl
    · rw [o3, upd_ne _ _ (by decide)]; exact c1.1.2.1
    · rw [hI_ne _ (by decide)]; exact c1.1.2.2.2
    · rw [o3, upd_ne _ _ (by decide)]; exact c1.2.2.1
    · rw [o3, upd_ne _ _ (by decide)]; exact c1.2.2.2
    · show s.2.1 + 1 ≤ 60; omega
    · rw [o3, upd_at]
    · rw [o3, upd_ne _ _ (by decide)]; exact c4
    · rw [hI_ne _ (by decide)]; exact c6
    · rw [hI_ne _ (by decide)]; exact c7
    · intro j _ _ _ h12; rw [o3, upd_ne _ _ h12]
    · intro j _; rw [hI_ne _ (by decide)]
    · intro j _; rw [hI_ne _ (by decide)]
theorem wordHereR {h : aH} {t : Row} {n q : Nat} {f : Int32} (c : RT h t n q f) (ss : sk t n q = q) : f_X12_wordHere h 308 = some (match kW t q (lw t n q) wdW 0 with
    | some k => nI k
    | none => -1, h) := by
  have x0 := wordT c ss (w := 1936286821) (by decide)
  have x1 := wordT c ss (w := 123581014175598) (by decide)
  have x2 := wordT c ss (w := 478694368626) (by decide)
  have x3 := wordT c ss (w := 465625113971) (by decide)
  have x4 := wordT c ss (w := 465625113956) (by decide)
  have x5 := wordT c ss (w := 521391927923) (by decide)
  have x6 := wordT c ss (w := 483006772069) (by decide)
  have x7 := wordT c ss (w := 1734960756) (by decide)
  have x8 := wordT c ss (w := 1650815860) (by decide)
  have x9 := wordT c ss (w := 2036687218) (by decide)
  have x10 := wordT c ss (w := 448311223411) (by decide)
  have y0 : f_X12_isWord h 308 1936286821 = some (bB (isWB t q (lw t n q) 1936286821), h) := x0
  have y1 : f_X12_isWord h 308 123581014175598 = some (bB (isWB t q (lw t n q) 123581014175598), h) := x1
  have y2 : f_X12_isWord h 308 478694368626 = some (bB (isWB t q (lw t n q) 478694368626), h) := x2
  have y3 : f_X12_isWord h 308 465625113971 = some (bB (isWB t q (lw t n q) 465625113971), h) := x3
  have y4 : f_X12_isWord h 308 465625113956 = some (bB (isWB t q (lw t n q) 465625113956), h) := x4
  have y5 : f_X12_isWord h 308 521391927923 = some (bB (isWB t q (lw t n q) 521391927923), h) := x5
  have y6 : f_X12_isWord h 308 483006772069 = some (bB (isWB t q (lw t n q) 483006772069), h) := x6
  have y7 : f_X12_isWord h 308 1734960756 = some (bB (isWB t q (lw t n q) 1734960756), h) := x7
  have y8 : f_X12_isWord h 308 1650815860 = some (bB (isWB t q (lw t n q) 1650815860), h) := x8
  have y9 : f_X12_isWord h 308 2036687218 = some (bB (isWB t q (lw t n q) 2036687218), h) := x9
  have y10 : f_X12_isWord h 308 448311223411 = some (bB (isWB t q (lw t n q) 448311223411), h) := x10
  unfold f_X12_wordHere
  simp only [q_308, y0, y1, y2, y3, y4, y5, y6, y7, y8, y9, y10, aBind_some, bB_0]
  unfold wdW
  simp only [kW]
  generalize lw t n q = e
  by_cases w0 : isWB t q e 1936286821 = true
  · simp only [if_pos w0]; rfl
  · simp only [if_neg w0]
    by_cases w1 : isWB t q e 123581014175598 = true
    · simp only [if_pos w1]; rfl
    · simp only [if_neg w1]
      by_cases w2 : isWB t q e 478694368626 = true
      · simp only [if_pos w2]; rfl
      · simp only [if_neg w2]
        by_cases w3 : isWB t q e 465625113971 = true
        · simp only [if_pos w3]; rfl
        · simp only [if_neg w3]
          by_cases w4 : isWB t q e 465625113956 = true
          · simp only [if_pos w4]; rfl
          · simp only [if_neg w4]
            by_cases w5 : isWB t q e 521391927923 = true
            · simp only [if_pos w5]; rfl
            · simp only [if_neg w5]
              by_cases w6 : isWB t q e 483006772069 = true
              · simp only [if_pos w6]; rfl
              · simp only [if_neg w6]
                by_cases w7 : isWB t q e 1734960756 = true
                · simp only [if_pos w7]; rfl
                · simp only [if_neg w7]
                  by_cases w8 : isWB t q e 1650815860 = true
                  · simp only [if_pos w8]; rfl
                  · simp only [if_neg w8]
                    by_cases w9 : isWB t q e 2036687218 = true
                    · simp only [if_pos w9]; rfl
                    · simp only [if_neg w9]
                      by_cases w10 : isWB t q e 448311223411 = true
                      · simp only [if_pos w10]; rfl
                      · simp only [if_neg w10]
theorem passK {h : aH} {t : Row} {n k : Nat} {s : GS} (c : RRk h t n k s) : f_X12_passWord h 308 = some ((), rP h (lw t n s.1)) := by
  have x := passWordR c.1.1 c.1.2.1 0
  rw [c.1.e] at x
  exact x
theorem gd_sk {t : Row} {n p : Nat} {m : Int32} (hp : p ≤ n) : gd t n (sk t n p) m = gd t n p m := by unfold gd; rw [sk_sk hp, nv_sk hp]
theorem em_len {a x : Nat} {s : GS} (h : gEm a x s ≠ none) : s.2.2.length < 256 := by
  by_cases y : s.2.2.length < 256
  · exact y
  · exact absurd (show gEm a x s = none by unfold gEm; rw [if_neg y]) h
theorem em_ok {a x : Nat} {s : GS} (h : s.2.2.length < 256) : gEm a x s = gK (s.1, s.2.1, (a, x) :: s.2.2) := by unfold gEm; rw [if_pos h]
/-- counted, then put: as put, then counted -/
theorem cnt_em {a x q : Nat} {s : GS} (h : s.2.2.length < 256) : gB (gEm a x s) (gCnt q) = gB (gCnt q s) (gEm a x) := by
  rw [em_ok h]
  show gCnt q (s.1, s.2.1, (a, x) :: s.2.2) = _
  unfold gCnt
  by_cases y : s.2.1 = 60
  · rw [if_pos (show (s.1, s.2.1, (a, x) :: s.2.2).2.1 = 60 from y), if_pos y]; rfl
  · rw [if_neg (show ¬ (s.1, s.2.1, (a, x) :: s.2.2).2.1 = 60 from y), if_neg y]
    show _ = gEm a x (s.1, s.2.1 + 1, s.2.2)
    rw [em_ok (s := (s.1, s.2.1 + 1, s.2.2)) h]
theorem valueR {h : aH} {t : Row} {n k : Nat} {s : GS} (hk : k < 6) (c : RRk h t n k s) (hne : gVal t n s ≠ none) : ∃ h', f_X12_value h 308 = some (bB (okR (gVal t n s)), h') ∧ RRu h' t n k (gVal t n s) ∧ FS k h h' := by
  have hp := c.1.2.1
  have hn := c.1.1.2.2.1
  have sl := sk_le (t := t) hp
  have ll := lw_le (t := t) sl.2
  have ss := sk_sk (t := t) hp
  have se := seeT c
  obtain ⟨g1, eg1⟩ : ∃ g1, g1 = rP h (sk t n s.1) := ⟨_, rfl⟩
  have c1 : RRk g1 t n k (sk t n s.1, s.2) := by rw [eg1]; exact c.p sl.2
  have u1 : FS k h g1 := by rw [eg1]; exact FS.p
  rw [← eg1] at se
  have p8 : hI g1 308 8 = nI (sk t n s.1) := c1.1.2.2.1
  have dd := digT c1.1 (q := sk t n s.1) (by omega)
  unfold gVal at hne ⊢
  by_cases z : (decide (sk t n s.1 < n) && bdg t (sk t n s.1)) = true
  · rw [z] at dd
    rw [if_pos z] at hne ⊢
    have nu := numberR c1.1.1 c1.1.2.1 0 99999
    rw [c1.1.e] at nu
    have nu' : f_X12_numberHere g1 308 0 99999 = some (bB (gd t n (sk t n s.1) 99999), rS g1 (nR t n (sk t n s.1) (hI g1 308)) (de t n (sk t n (sk t n s.1))) (nf t n (sk t n s.1) 99999 0)) := nu
    rw [gd_sk hp, nf_sk hp, ss] at nu'
    by_cases g : gd t n s.1 99999 = true
    · rw [if_pos g] at hne ⊢
      rw [g, nf_gd g] at nu'
      obtain ⟨x, hx, ex⟩ := nv_nn hp g
      rw [ex, nI_clamp (show x < 2 ^ 31 by omega)] at hne ⊢
      obtain ⟨g2, eg2⟩ : ∃ g2, g2 = rS g1 (nR t n (sk t n s.1) (hI g1 308)) (de t n (sk t n s.1)) 0 := ⟨_, rfl⟩
      rw [← eg2] at nu'
      have c2 : RRk g2 t n k (nx t n s.1, s.2) := by rw [eg2]; exact c1.rs (fun j hj => nR_o hj) (nx_le hp)
      have u2 : FS k g1 g2 := by rw [eg2]; exact FS.rs (fun j hj => nR_o hj)
      have v10 : hI g2 308 10 = nI x := by
        rw [eg2, rS_j _ _ _ _ (by decide) (by decide)]
        unfold nR
        rw [ss, if_neg (of_decide_eq_true g).1, upd_at, nv_sk hp, ex]
      have l : (nx t n s.1, s.2).2.2.length < 256 := em_len (gB_n hne)
      rw [cnt_em l] at hne ⊢
      obtain ⟨g3, e3, c3, u3⟩ := makesR c2 (q := sk t n s.1) (by omega)
      have v10' : hI g3 308 10 = nI x ∨ okR (gCnt (sk t n s.1) (nx t n s.1, s.2)) = false := by
        unfold gCnt at e3 c3 ⊢
        by_cases y : (nx t n s.1, s.2).2.1 = 60
        · rw [if_pos y]; exact Or.inr rfl
        · rw [if_neg y] at e3 c3 ⊢
          left
          have n6 : ¬ nI s.2.1 = 60 := fun z => y ((nI_eq (b := 60) (by have := c2.2.1; have : s.2.1 ≤ 60 := this; omega) (by decide)).mp z)
          have c212 : hI g2 308 12 = nI s.2.1 := c2.2.2.1
          have e3' : f_X12_makes g2 308 (nI (sk t n s.1)) = some (1, pI g2 308 12 (nI (s.2.1 + 1))) := by
            simp only [f_X12_makes, q_308, c212, if_neg n6, i1, aLet]
          rw [e3'] at e3
          injection e3 with e3
          injection e3 with _ e3
          rw [← e3, hI_eq, upd_ne _ _ (by decide)]; exact v10
      cases q : gCnt (sk t n s.1) (nx t n s.1, s.2) with
      | none => rw [q] at c3; exact c3.elim
      | some v =>
        rw [q] at e3 c3
        cases v with
        | inl f =>
          refine ⟨g3, ?_, c3, u1.tr (u2.tr u3)⟩
          simp only [f_X12_value, q_308, se, aBind_some, aLet, p8, dd, bB, if_neg (show ¬ (1 : Int32) = 0 by decide), nu', e3, okR, if_true]
          rfl
        | inr s3 =>
          rw [q] at hne v10'
          have w10 : hI g3 308 10 = nI x := by
            rcases v10' with y | y
            · exact y
            · have y' : true = false := y
              cases y'
          have l3 := em_len hne
          obtain ⟨g4, e4, c4, u4⟩ := putsR hk c3 l3 0 x
          have em := em_ok (a := 0) (x := x) l3
          have e4' : f_X12_puts g3 308 0 (nI x) = some ((), g4) := e4
          refine ⟨g4, ?_, by show RRu g4 t n k (gEm 0 x s3); rw [em]; exact c4, u1.tr (u2.tr (u3.tr u4))⟩
          show _ = some (bB (okR (gEm 0 x s3)), g4)
          rw [em]
          simp only [f_X12_value, q_308, se, aBind_some, aLet, p8, dd, bB, if_neg (show ¬ (1 : Int32) = 0 by decide), nu', e3, okR, w10, e4', gK]
    · rw [if_neg g] at hne ⊢
      rw [Bool.not_eq_true _ |>.mp g] at nu'
      have f0 : ¬ nf t n s.1 99999 0 = 0 := nf_ng hn hp (Bool.not_eq_true _ |>.mp g)
      refine ⟨rS g1 (nR t n (sk t n s.1) (hI g1 308)) (de t n (sk t n s.1)) (nf t n s.1 99999 0), ?_, c1.rx (R := nR t n (sk t n s.1) (hI g1 308)) (fun j hj => nR_o hj) (q := de t n (sk t n s.1)) (nx_le (t := t) hp) f0, u1.tr (FS.rs (fun j hj => nR_o hj))⟩
      simp only [f_X12_value, q_308, se, aBind_some, aLet, p8, dd, bB, if_neg (show ¬ (1 : Int32) = 0 by decide), nu', if_true]
      rfl
  · rw [Bool.not_eq_true _ |>.mp z] at dd
    rw [if_neg z] at hne ⊢
    have wh := wordHereR c1.1 ss
    have wh' : f_X12_wordHere g1 308 = some (match kW t (sk t n s.1) (lw t n (sk t n s.1)) wdW 0 with
      | some k => nI k
      | none => -1, g1) := wh
    cases kw : kW t (sk t n s.1) (lw t n (sk t n s.1)) wdW 0 with
    | none =>
      rw [kw] at wh'
      have wh2 : f_X12_wordHere g1 308 = some (-1, g1) := wh'
      obtain ⟨g2, e2, x2, u2⟩ := failK c1 0 (sk t n s.1) (blm_ne (by omega) (Or.inl rfl))
      refine ⟨g2, ?_, x2, u1.tr u2⟩
      simp only [f_X12_value, q_308, se, aBind_some, aLet, p8, dd, bB, if_true, wh2, if_neg (show ¬ (0 : Int32) ≤ -1 by decide), e2, true_or]
      rfl
    | some w =>
      rw [kw] at wh' hne
      have wh2 : f_X12_wordHere g1 308 = some (nI w, g1) := wh'
      have hw := kW_lt wdW 0 w kw
      have hw' : w < 11 := by
        have : wdW.length = 11 := rfl
        omega
      have hne2 : gB (gEm 1 w (lw t n (sk t n s.1), s.2)) (gCnt (sk t n s.1)) ≠ none := hne
      have l : s.2.2.length < 256 := em_len (s := (lw t n (sk t n s.1), s.2)) (gB_n hne2)
      show ∃ h', _ = some (bB (okR (gB (gEm 1 w (lw t n (sk t n s.1), s.2)) (gCnt (sk t n s.1)))), h') ∧ RRu h' t n k (gB (gEm 1 w (lw t n (sk t n s.1), s.2)) (gCnt (sk t n s.1))) ∧ _
      rw [em_ok (s := (lw t n (sk t n s.1), s.2)) l, gB_k]
      have w0 : (0 : Int32) ≤ nI w := nI_pos' (by omega)
      obtain ⟨g2, e2, c2, u2⟩ := makesR c1 (q := sk t n s.1) (by omega)
      unfold gCnt at e2 c2 ⊢
      by_cases y : s.2.1 = 60
      · rw [if_pos (show (sk t n s.1, s.2).2.1 = 60 from y)] at e2 c2
        rw [if_pos (show (lw t n (sk t n s.1), s.2.1, (1, w) :: s.2.2).2.1 = 60 from y)]
        refine ⟨g2, ?_, c2, u1.tr u2⟩
        have e2' : f_X12_makes g1 308 (nI (sk t n s.1)) = some (0, g2) := e2
        simp only [f_X12_value, q_308, se, aBind_some, aLet, p8, dd, bB, if_true, wh2, if_pos w0, e2']
        rfl
      · rw [if_neg (show ¬ (sk t n s.1, s.2).2.1 = 60 from y)] at e2 c2
        rw [if_neg (show ¬ (lw t n (sk t n s.1), s.2.1, (1, w) :: s.2.2).2.1 = 60 from y)]
        have c2' : RRk g2 t n k (sk t n s.1, s.2.1 + 1, s.2.2) := c2
        have ps := passK c2'
        have ps' : f_X12_passWord g2 308 = some ((), rP g2 (lw t n (sk t n s.1))) := ps
        have c3 : RRk (rP g2 (lw t n (sk t n s.1))) t n k (lw t n (sk t n s.1), s.2.1 + 1, s.2.2) := c2'.p ll.2
        obtain ⟨g4, e4, c4, u4⟩ := putsR hk c3 l 1 w
        have e4' : f_X12_puts (rP g2 (lw t n (sk t n s.1))) 308 1 (nI w) = some ((), g4) := e4
        have e2' : f_X12_makes g1 308 (nI (sk t n s.1)) = some (1, g2) := e2
        refine ⟨g4, ?_, c4, u1.tr (u2.tr (FS.p.tr u4))⟩
        simp only [f_X12_value, q_308, se, aBind_some, aLet, p8, dd, bB, if_true, wh2, if_pos w0, e2', if_neg (show ¬ (1 : Int32) = 0 by decide), ps', e4']
        rfl
