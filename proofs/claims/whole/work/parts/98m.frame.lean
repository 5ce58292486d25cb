/-! ===== a fair reads late years only by whether this year's boat is late ===== -/
def Ag (S T : Row) : Prop := ∀ j, j < 75 ∨ 78 ≤ j → T j = S j
theorem Ag.g_rf (S : Row) : Ag S S := fun _ _ => rfl
theorem Ag.g_upd {S T : Row} (a : Ag S T) {k : Nat} {x y : Int32} (e : y = x) : Ag (upd S k x) (upd T k y) := fun j hj => by
  by_cases q : j = k
  · rw [q, upd_at, upd_at, e]
  · rw [upd_ne _ _ q, upd_ne _ _ q]; exact a j hj
theorem Ag.g_nE {S T : Row} (a : Ag S T) : nE T = nE S := nE_of (a 3 (by decide))
theorem Ag.g_nW {S T : Row} (a : Ag S T) : nW T = nW S := nW_of (a 4 (by decide))
theorem Ag.g_best0 {S T : Row} (a : Ag S T) {e : Nat} (he : e < 4) : ∀ n, n ≤ 4 → best0 T e n = best0 S e n := by
  intro n
  induction n with
  | zero => intro _; rfl
  | succ n ih => intro h; rw [best0, best0, ih (by omega), a (28 + 4 * n) (by omega), a (43 + 4 * e + n) (by omega)]
theorem Ag.g_best1 {S T : Row} (a : Ag S T) {w : Nat} (hw : w < 4) : ∀ n, n ≤ 4 → best1 T w n = best1 S w n := by
  intro n
  induction n with
  | zero => intro _; rfl
  | succ n ih => intro h; rw [best1, best1, ih (by omega), a (12 + 4 * n) (by omega), a (59 + 4 * n + w) (by omega)]
theorem Ag.g_wd0 {S T : Row} (a : Ag S T) (v : VS S) {e w : Nat} (he : e < 4) (hw : w < 4) (i : Nat) : wd0 T e w i = wd0 S e w i := by
  unfold wd0
  rw [a (43 + 4 * e + w) (by omega), a (59 + 4 * e + w) (by omega), a (13 + 4 * e) (by omega), a (11 + 4 * e) (by omega), a 1 (by omega), a.g_nW, a.g_best0 he _ v.e4.2, a 10 (by omega), a (14 + 4 * e) (by omega)]
theorem Ag.g_wd1 {S T : Row} (a : Ag S T) (v : VS S) {e w : Nat} (he : e < 4) (hw : w < 4) (i : Nat) : wd1 T e w i = wd1 S e w i := by
  unfold wd1
  rw [a (43 + 4 * e + w) (by omega), a (59 + 4 * e + w) (by omega), a (13 + 4 * e) (by omega), a (27 + 4 * w) (by omega), a 1 (by omega), a.g_nE, a.g_best1 hw _ v.e3.2, a 10 (by omega), a (30 + 4 * w) (by omega)]
theorem Ag.g_stay0 {S T : Row} (a : Ag S T) (v : VS S) {h0 : aH} {f : Option Nat} {e w : Nat} (he : e < 4) (hw : w < 4) : stay0 h0 f T e w = stay0 h0 f S e w := by
  cases f with
  | none => show decide (T 2 ≤ T (43 + 4 * e + w)) = decide (S 2 ≤ S (43 + 4 * e + w)); rw [a 2 (by omega), a (43 + 4 * e + w) (by omega)]
  | some k => show decide (0 < sumB h0 k (wd0 T e w) (nC h0 k) 0) = decide (0 < sumB h0 k (wd0 S e w) (nC h0 k) 0); rw [sumB_c (fun i _ => a.g_wd0 v he hw i)]
theorem Ag.g_stay1 {S T : Row} (a : Ag S T) (v : VS S) {h0 : aH} {f : Option Nat} {e w : Nat} (he : e < 4) (hw : w < 4) : stay1 h0 f T e w = stay1 h0 f S e w := by
  cases f with
  | none => show decide (T 2 ≤ T (59 + 4 * e + w)) = decide (S 2 ≤ S (59 + 4 * e + w)); rw [a 2 (by omega), a (59 + 4 * e + w) (by omega)]
  | some k => show decide (0 < sumB h0 k (wd1 T e w) (nC h0 k) 0) = decide (0 < sumB h0 k (wd1 S e w) (nC h0 k) 0); rw [sumB_c (fun i _ => a.g_wd1 v he hw i)]
theorem Ag.g_partT {S T : Row} (a : Ag S T) {e w : Nat} (he : e < 4) (hw : w < 4) : Ag (partT S e w) (partT T e w) := by
  unfold partT payT partM
  have p : ∀ j, j < 75 → T j = S j := fun j hj => a j (Or.inl hj)
  refine Ag.g_upd (Ag.g_upd (Ag.g_upd (Ag.g_upd (Ag.g_upd (Ag.g_upd a ?_) ?_) rfl) rfl) rfl) rfl
  · rw [p _ (by omega), p _ (by omega)]
  · rw [p _ (by omega), p _ (by omega), p _ (by omega)]
theorem Ag.g_joinT {S T : Row} (a : Ag S T) {e w : Nat} (he : e < 4) (hw : w < 4) : Ag (joinT S e w) (joinT T e w) := by
  unfold joinT payT joinM
  have p : ∀ j, j < 75 → T j = S j := fun j hj => a j (Or.inl hj)
  refine Ag.g_upd (Ag.g_upd (Ag.g_upd (Ag.g_upd (Ag.g_upd (Ag.g_upd (Ag.g_upd (Ag.g_upd a ?_) ?_) rfl) rfl) rfl) rfl) ?_) ?_
  · rw [p _ (by omega), p _ (by omega)]
  · rw [p _ (by omega), p _ (by omega), p _ (by omega)]
  · rw [p _ (by omega)]
  · rw [p _ (by omega)]
theorem Ag.g_learnT {S T : Row} (a : Ag S T) {e w : Nat} (he : e < 4) (hw : w < 4) : Ag (learnT S e w) (learnT T e w) := by
  unfold learnT
  refine Ag.g_upd (Ag.g_upd (Ag.g_upd (Ag.g_upd a ?_) ?_) ?_) ?_
  · rw [a _ (by omega), a _ (by omega)]
  · rw [a _ (by omega), a _ (by omega)]
  · rw [a _ (by omega)]
  · rw [a _ (by omega)]
theorem wOf_lt {S : Row} (v : VS S) {e : Nat} (he : e < nE S) (q : ¬ S (12 + 4 * e) < 0) : wOf S e < 4 := by
  obtain ⟨w, hw, pe, _⟩ := with_e v he q
  have := v.e4.2
  unfold wOf
  rw [pe, nI_clamp (by omega)]
  omega
theorem Ag.g_wOf {S T : Row} (a : Ag S T) {e : Nat} (he : e < 4) : wOf T e = wOf S e := by unfold wOf; rw [a _ (by omega)]
theorem Ag.g_partE {S T : Row} (a : Ag S T) (v : VS S) {h0 : aH} {f : Option Nat} {e : Nat} (he : e < nE S) : Ag (partE h0 f S e) (partE h0 f T e) := by
  have he4 : e < 4 := by have := v.e3.2; omega
  unfold partE
  rw [a (12 + 4 * e) (by omega), a.g_wOf he4]
  by_cases q : S (12 + 4 * e) < 0
  · rw [if_pos q, if_pos q]; exact a
  · have hw := wOf_lt v he q
    rw [if_neg q, if_neg q, a.g_stay0 v he4 hw, a.g_stay1 v he4 hw]
    split
    · exact a
    · exact a.g_partT he4 hw
theorem Ag.g_partA {S T : Row} (a : Ag S T) (v : VS S) {h0 : aH} {f : Option Nat} : ∀ i, i ≤ nE S → Ag (partA h0 f S i) (partA h0 f T i) := by
  intro i
  induction i with
  | zero => intro _; exact a
  | succ i ih =>
    intro hi
    obtain ⟨vp, op, _⟩ := partA_i (h0 := h0) (f := f) v (i := i) (by omega)
    rw [partA, partA]
    exact (ih (by omega)).g_partE vp (by rw [nE_of (op 3 (by omega))]; omega)
theorem Ag.g_favN {S T : Row} (a : Ag S T) {ae be : Int32} {e : Nat} (he : e < 4) : ∀ i, i ≤ 4 → favN T ae be e i = favN S ae be e i := by
  intro i
  induction i with
  | zero => intro _; rfl
  | succ i ih =>
    intro hi
    have m : mostOf T e (favN S ae be e i) = mostOf S e (favN S ae be e i) := by
      unfold mostOf
      rcases favN_c (S := S) (ae := ae) (be := be) (e := e) i (by omega) with z | ⟨w, hw, z, _⟩
      · rw [z, if_pos (by decide), if_pos (by decide)]
      · rw [z, if_neg (nI_pos (by omega)), if_neg (nI_pos (by omega)), nI_clamp (by omega), a _ (by omega)]
    rw [favN, favN, ih (by omega), m, a (43 + 4 * e + i) (by omega)]
    unfold opn
    rw [a (28 + 4 * i) (by omega)]
theorem Ag.g_selF {S T : Row} (a : Ag S T) (v : VS S) {A B H : Row} : ∀ n e, e + n ≤ 4 → selF T A B H n e = selF S A B H n e := by
  intro n
  induction n with
  | zero => intro e _; rfl
  | succ n ih =>
    intro e h
    rw [selF, selF, ih (e + 1) (by omega)]
    unfold selC
    rw [a (12 + 4 * e) (by omega), a.g_nW, a.g_favN (by omega) _ v.e4.2]
theorem Ag.g_askH {S T : Row} (a : Ag S T) {H : Row} (k : HOK S H) (v : VS S) {e w : Nat} (he : e < 4) (hw : w < 4) : askH T H e w = askH S H e w := by
  have v3 := v.e3.2
  unfold askH rivL
  rw [a (59 + 4 * e + w) (by omega)]
  rcases k.1 w hw with z | ⟨e', he', _, z, _⟩
  · rw [z, if_pos (show (-1 : Int32) < 0 by decide), if_pos (show (-1 : Int32) < 0 by decide)]
  · rw [z, if_neg (nI_pos (by omega)), if_neg (nI_pos (by omega)), nI_clamp (by omega), a _ (by omega)]
theorem Ag.g_askN {S T : Row} (a : Ag S T) (v : VS S) {B : Row} : ∀ n (s : Row × Row), HOK S s.2 → askN T B n s = askN S B n s := by
  have v3 := v.e3.2
  have v4 := v.e4.2
  intro n
  induction n with
  | zero => intro s _; rfl
  | succ n ih =>
    intro s k
    rw [askN, askN, a.g_nE, a.g_selF v (nE S) 0 (by omega)]
    cases e : selF S s.1 B s.2 (nE S) 0 with
    | none => rfl
    | some q =>
      obtain ⟨p1, p2, p3, _⟩ := selF_some v e
      show askN T B n (askA s.1 q.1 q.2, askH T s.2 q.1 q.2) = askN S B n (askA s.1 q.1 q.2, askH S s.2 q.1 q.2)
      rw [a.g_askH k v (by omega) (by omega)]
      exact ih _ (k.ask v e)
theorem favN_b {S : Row} {ae be be' : Int32} (h : be = be') {e : Nat} (i : Nat) : favN S ae be e i = favN S ae be' e i := by rw [h]
theorem selF_b {S A B B' H : Row} (hb : ∀ e, e < 4 → B' e = B e) : ∀ n e, e + n ≤ 4 → selF S A B' H n e = selF S A B H n e := by
  intro n
  induction n with
  | zero => intro e _; rfl
  | succ n ih =>
    intro e h
    rw [selF, selF, ih (e + 1) (by omega)]
    unfold selC
    rw [hb e (by omega)]
theorem askN_b {S B B' : Row} (v : VS S) (hb : ∀ e, e < 4 → B' e = B e) : ∀ n (s : Row × Row), askN S B' n s = askN S B n s := by
  have v3 := v.e3.2
  intro n
  induction n with
  | zero => intro s; rfl
  | succ n ih =>
    intro s
    rw [askN, askN, selF_b hb (nE S) 0 (by omega)]
    cases selF S s.1 B s.2 (nE S) 0 with
    | none => rfl
    | some q => exact ih _
theorem Ag.g_joinA {S T : Row} (a : Ag S T) (v : VS S) {H : Row} (k : HOK S H) : ∀ i, i ≤ 4 → Ag (joinA S H i) (joinA T H i) := by
  have v3 := v.e3.2
  intro i
  induction i with
  | zero => intro _; exact a
  | succ i ih =>
    intro hi
    rw [joinA, joinA]
    rcases k.1 i (by omega) with z | ⟨e', he', _, z, _⟩
    · rw [z, if_pos (by decide), if_pos (by decide)]; exact ih (by omega)
    · rw [z, if_neg (nI_pos (by omega)), if_neg (nI_pos (by omega)), nI_clamp (by omega)]
      exact (ih (by omega)).g_joinT (by omega) (by omega)
theorem Ag.g_learnA {S T : Row} (a : Ag S T) (v : VS S) : ∀ i, i ≤ nE S → Ag (learnA S i) (learnA T i) := by
  have v3 := v.e3.2
  intro i
  induction i with
  | zero => intro _; exact a
  | succ i ih =>
    intro hi
    obtain ⟨vp, op⟩ := learnA_i v (i := i) (by omega)
    have b := ih (by omega)
    rw [learnA, learnA]
    unfold learnE
    rw [b (12 + 4 * i) (by omega), b.g_wOf (by omega)]
    by_cases q : learnA S i (12 + 4 * i) < 0
    · rw [if_pos q, if_pos q]; exact b
    · rw [if_neg q, if_neg q]
      exact b.g_learnT (by omega) (wOf_lt vp (by rw [nE_of (op 3 (by omega))]; omega) q)
theorem Ag.g_yearT {S T : Row} (a : Ag S T) (v : VS S) : Ag (yearT S) (yearT T) := by
  unfold yearT
  rw [a.g_nE]
  exact (a.g_learnA v (nE S) (Nat.le_refl _)).g_upd (by rw [a 10 (by omega)])
theorem Ag.g_passS {S T : Row} (a : Ag S T) (v : VS S) {h0 : aH} {f : Option Nat} {l : Bool} : Ag (passS h0 f l S) (passS h0 f l T) := by
  unfold passS
  cases l with
  | true => rw [if_pos rfl, if_pos rfl]; exact a.g_yearT v
  | false =>
    rw [if_neg (by decide), if_neg (by decide)]
    refine Ag.g_yearT ?_ (fairS_ok v).1
    obtain ⟨vp, op, _⟩ := partA_i (h0 := h0) (f := f) v (i := nE S) (by omega)
    have ap := a.g_partA v (h0 := h0) (f := f) (nE S) (Nat.le_refl _)
    have bf : ∀ e, e < 4 → bef T e = bef S e := fun e he => a _ (by omega)
    have k0 : HOK (partA h0 f S (nE S)) H0 := HOK0 _
    unfold fairS
    rw [a.g_nE, ap.g_nW, ap.g_askN vp 16 (A0, H0) k0]
    have ab : askN (partA h0 f S (nE S)) (bef T) 16 (A0, H0) = askN (partA h0 f S (nE S)) (bef S) 16 (A0, H0) := askN_b vp bf 16 (A0, H0)
    rw [ab]
    exact ap.g_joinA vp (askN_ok vp k0) _ vp.e4.2
