/-! ===== questions: what is asked leaves all as it was ===== -/
def Sq (b : Nat) : Prop := (31 ≤ b ∧ b ≤ 65) ∨ b = 308 ∨ (314 ≤ b ∧ b ≤ 322) ∨ (324 ≤ b ∧ b ≤ 328)
theorem Inv.query {h h' : aH} (hV : Inv h) (u : Upd Sq h h') (e18 : hI h' 318 = hI h 318) (k : ∀ j, keyE j → hI h' 308 j = hI h 308 j) : Inv h' := by
  have o : ∀ b, ¬ Sq b → hI h' b = hI h b := fun b hb => u.2.2.1 b hb
  have ol : ∀ b, ¬ Sq b → hL h' b = hL h b := fun b hb => u.2.2.2 b hb
  have o0 : hI h' 0 = hI h 0 := o 0 (by unfold Sq; omega)
  refine hV.act (u.mono (fun b hb => by unfold Sq at hb; unfold Ac; omega)) (fun j _ => by rw [e18]) ?_ ?_ ?_ ?_ (by rw [o0]) (k 1 (by unfold keyE; omega)) (k 2 (by unfold keyE; omega)) (k 21 (by unfold keyE; omega)) (k 22 (by unfold keyE; omega)) ((k 23 (by unfold keyE; omega)).trans hV.2.2.2.2.2.2.2)
  · rw [e18]; exact hV.2.2.2.1.1.up u (fun b p q => by unfold Sq; omega)
  · rw [e18]; exact hV.2.2.2.1.2.1.1
  · rw [e18]; exact hV.2.2.2.1.2.1.2.2
  · exact hV.2.2.2.2.2.1.mv (by rw [o0]) (by rw [o0]) (k 29 (by unfold keyE; omega)) e18 (o 323 (by unfold Sq; omega)) (fun b _ _ => ⟨o b (by unfold Sq; omega), ol b (by unfold Sq; omega)⟩)
/-- n fairs on -/
def passN (h0 : aH) (f : Option Nat) (S : Row) : Nat → Row
  | 0 => S
  | n + 1 => passS h0 f (lateB (passN h0 f S n)) (passN h0 f S n)
theorem passN_ok {h0 : aH} {f : Option Nat} {S : Row} (v : VS S) {m : Nat} (y : YR S m) : ∀ n, VS (passN h0 f S n) ∧ (∀ j, j < 10 ∨ 75 ≤ j → passN h0 f S n j = S j) ∧ YR (passN h0 f S n) (m + n) := by
  intro n
  induction n with
  | zero => exact ⟨v, fun _ _ => rfl, y⟩
  | succ n ih =>
    obtain ⟨a, b, c⟩ := ih
    obtain ⟨d, e, _⟩ := passS_ok (h0 := h0) (f := f) (l := lateB (passN h0 f S n)) a
    exact ⟨d, fun j hj => (e j hj).trans (b j hj), c.pass a⟩
theorem keeps_eq {h : aH} (hS : Str h) : f_X12_keeps h 308 = some ((), wI h 324 (va_cpy (hI h 318) (hI h 324) 10 0 68)) := by
  refine itLoop (σ := aH × Int32) (fun m s => f_X12_keeps_2 m s.1 308 s.2) (fun i s => s = (wI h 324 (va_cpy (hI h 318) (hI h 324) 10 0 i), nI i)) (fun o => o = some ((), wI h 324 (va_cpy (hI h 318) (hI h 324) 10 0 68))) 68 ?_ ?_ 2000 0 (h, 0) ?_ (by omega) (by omega)
  · rintro m i _ hi rfl
    refine Or.inr ⟨_, rfl, ?_⟩
    show b_X12_keeps_2 (f_X12_keeps_2 m) _ 308 (nI i) = _
    have c : ¬ (68 : Int32) ≤ nI i := nI_ge (b := 68) hi (by decide)
    have ex := cpy_s (f := hI h 318) (g := hI h 324) (s := 10) (d := 0) (n := i) rfl
    rw [Nat.zero_add] at ex
    simp only [b_X12_keeps_2, if_neg c, q_308, hR_wI, r_308_20 hS, r_308_30 hS, Option.bind_some, aLet, hI_wI_ne h _ (show 318 ≠ 324 by decide), i10, q_324, q_318, if_pos (in324 (show i < 68 by omega)), if_pos (in318 (show 10 + i < 184 by omega)), nI_clamp (show i < 2 ^ 31 by omega), nI_clamp (show 10 + i < 2 ^ 31 by omega), pI_wI, ex, i1]
  · rintro m _ rfl
    show b_X12_keeps_2 (f_X12_keeps_2 m) _ 308 (nI 68) = _
    simp only [b_X12_keeps_2, if_pos (show (68 : Int32) ≤ nI 68 by decide)]
  · rw [cpy_0, wI_self]; rfl
theorem lays_eq {h : aH} (hS : Str h) : f_X12_laysBack h 308 = some ((), wI h 318 (va_cpy (hI h 324) (hI h 318) 0 10 68)) := by
  refine itLoop (σ := aH × Int32) (fun m s => f_X12_laysBack_2 m s.1 308 s.2) (fun i s => s = (wI h 318 (va_cpy (hI h 324) (hI h 318) 0 10 i), nI i)) (fun o => o = some ((), wI h 318 (va_cpy (hI h 324) (hI h 318) 0 10 68))) 68 ?_ ?_ 2000 0 (h, 0) ?_ (by omega) (by omega)
  · rintro m i _ hi rfl
    refine Or.inr ⟨_, rfl, ?_⟩
    show b_X12_laysBack_2 (f_X12_laysBack_2 m) _ 308 (nI i) = _
    have c : ¬ (68 : Int32) ≤ nI i := nI_ge (b := 68) hi (by decide)
    have ex := cpy_s (f := hI h 324) (g := hI h 318) (s := 0) (d := 10) (n := i) rfl
    rw [Nat.zero_add] at ex
    simp only [b_X12_laysBack_2, if_neg c, q_308, hR_wI, r_308_20 hS, r_308_30 hS, Option.bind_some, aLet, hI_wI_ne h _ (show 324 ≠ 318 by decide), i10, q_324, q_318, if_pos (in324 (show i < 68 by omega)), if_pos (in318 (show 10 + i < 184 by omega)), nI_clamp (show i < 2 ^ 31 by omega), nI_clamp (show 10 + i < 2 ^ 31 by omega), pI_wI, ex, i1]
  · rintro m _ rfl
    show b_X12_laysBack_2 (f_X12_laysBack_2 m) _ 308 (nI 68) = _
    simp only [b_X12_laysBack_2, if_pos (show (68 : Int32) ≤ nI 68 by decide)]
  · rw [cpy_0, wI_self]; rfl
/-- what was kept of a row -/
def Kp (h : aH) (S : Row) : Prop := ∀ j, j < 68 → hI h 324 j = S (10 + j)
theorem Kp.keep (h : aH) : Kp (wI h 324 (va_cpy (hI h 318) (hI h 324) 10 0 68)) (hI h 318) := fun j hj => by
  rw [hI_wI_eq, pk_cpy_in (by omega) (by omega)]; rfl
theorem Kp.rx {h h' : aH} {S : Row} (k : Kp h S) (x : RX h h') : Kp h' S := fun j hj => by rw [x.o (by decide) (by decide)]; exact k j hj
theorem Kp.lays {h : aH} (hS : Str h) {S : Row} (k : Kp h S) (o : ∀ j, j < 10 ∨ 78 ≤ j → hI h 318 j = S j) : f_X12_laysBack h 308 = some ((), wI h 318 S) := by
  have e : va_cpy (hI h 324) (hI h 318) 0 10 68 = S := by
    funext j
    by_cases c : 10 ≤ j ∧ j < 78
    · rw [pk_cpy_in c.1 (by omega), k _ (by omega)]; congr 1; omega
    · rw [pk_cpy_out (by omega)]; exact o j (by omega)
  rw [lays_eq hS, e]
/-- how much an east likes whom they have -/
def likeP (S : Row) (e : Nat) : Int32 := if S (12 + 4 * e) < 0 then 0 else S (43 + 4 * e + wOf S e)
theorem likePS {h : aH} (hS : Str h) {a : Nat} (ha : a ∈ stL) {S : Row} (r : RSt h a S) (v : VS S) {e : Nat} (he : e < nE S) : f_X8_likeOfPartner h a (nI e) = some (likeP S e, h) := by
  have he4 : e < 4 := by have := v.e3.2; omega
  unfold likeP
  by_cases q : S (12 + 4 * e) < 0
  · simp only [f_X8_likeOfPartner, qst0 ha, partnerS0 hS ha r he4, aBind_some, if_neg (Int32.not_le.mpr q), if_pos q]
  · obtain ⟨w, hw, pe, _⟩ := with_e v he q
    have hw4 : w < 4 := by have := v.e4.2; omega
    have ew : wOf S e = w := by unfold wOf; rw [pe, nI_clamp (by omega)]
    have pn := partnerS0 hS ha r he4
    rw [pe] at pn
    rw [if_neg q, ew]
    simp only [f_X8_likeOfPartner, qst0 ha, pn, aBind_some, if_pos (nI_pos' (show w < 2 ^ 31 by omega)), likeS0 hS ha r he4 hw4]
theorem likePR {h : aH} (hS : Str h) {S : Row} (eS : hI h 318 = S) (v : VS S) {e : Nat} (he : e < nE S) : f_X12_likesTheirs h 308 (nI e) = some (likeP S e, h) := by
  have he4 : e < 4 := by have := v.e3.2; omega
  have fr := isFreeR0 hS he4
  have wr := withR0 hS he4
  rw [eS] at fr wr
  unfold likeP
  by_cases q : S (12 + 4 * e) < 0
  · rw [if_pos q] at fr
    simp only [f_X12_likesTheirs, q_308, fr, aBind_some, if_neg (show ¬ (1 : Int32) = 0 by decide), if_pos q]
  · rw [if_neg q] at fr
    obtain ⟨w, hw, pe, _⟩ := with_e v he q
    have hw4 : w < 4 := by have := v.e4.2; omega
    have ew : wOf S e = w := by unfold wOf; rw [pe, nI_clamp (by omega)]
    have lk := likesOf0 hS he4 hw4
    rw [eS] at lk
    rw [pe] at wr
    rw [if_neg q, ew]
    simp only [f_X12_likesTheirs, q_308, fr, aBind_some, if_true, wr, lk]
theorem m46 : 46 ∈ stL := by decide
theorem m58 : 58 ∈ stL := by decide
theorem q_46 {α : Type} {x y : α} : (if (sh 46).1 = 15 then x else y) = x := qst0 m46
/-- class cells that a question changes -/
abbrev qC : Nat → Prop := fun c => 38 ≤ c ∧ c ≤ 65
theorem pC46 : ∀ c, pC 46 c → qC c := fun c hc => by unfold pC stA at hc; unfold qC; omega
theorem pC58 : ∀ c, pC 58 c → qC c := fun c hc => by unfold pC stA at hc; unfold qC; omega
theorem after_eq {h h0 : aH} (hS : Str h) {a : Nat} (ha : a ∈ stL) (na : a ≠ 46) {S : Row} (r : RSt h a S) (v : VS S) {m : Nat} (y : YR S m) (hm : m ≤ 1000) {f : Option Nat} (ok : RlOK h0 f) (eC : ∀ b, 66 ≤ b → b ≤ 95 → hI h b = hI h0 b) {n : Nat} (hn : n ≤ 60) :
    ∃ h', f_X1_after h 45 a (rlA f) (nI n) = some (46, h') ∧ RSt h' 46 (passN h0 f S n) ∧ Upd qC h h' := by
  obtain ⟨h1, f1, r1, u1⟩ := copyFrom_eq hS m46 ha (fun q => na q.symm) r v.1
  have key : ∃ h', f_X1_after_11 2000 h1 45 (rlA f) (nI n) 0 = some (46, h') ∧ RSt h' 46 (passN h0 f S n) ∧ Upd qC h h' := by
    refine itLoop (σ := aH × Int32) (fun k s => f_X1_after_11 k s.1 45 (rlA f) (nI n) s.2) (fun i s => s = (s.1, nI i) ∧ RSt s.1 46 (passN h0 f S i) ∧ Upd qC h s.1)
      (fun o => ∃ h', o = some (46, h') ∧ RSt h' 46 (passN h0 f S n) ∧ Upd qC h h') n ?_ ?_ 2000 0 (h1, 0) ⟨rfl, r1, u1.mono (fun c hc => by unfold stA at hc; unfold qC; omega)⟩ (by omega) (by omega)
    · rintro k i s hi ⟨es, ri, u⟩
      have S1 := u.str hS
      obtain ⟨vi, oi, yi⟩ := passN_ok (h0 := h0) (f := f) v y i
      have c : ¬ nI n ≤ nI i := nI_ge hi (by omega)
      obtain ⟨h2, f2, r2, u2⟩ := pass_eq S1 m46 ri vi ok (fun b p q => by rw [u.2.2.1 b (by unfold qC; omega), eC b p q]) (lateB (passN h0 f S i))
      refine Or.inr ⟨(h2, nI (i + 1)), ⟨rfl, r2, u.tr (u2.mono pC46)⟩, ?_⟩
      rw [es]
      show b_X1_after_11 (f_X1_after_11 k) s.1 45 (rlA f) (nI n) (nI i) = _
      simp only [b_X1_after_11, if_neg c, q_45, r_45_0 S1, r_45_1 S1, Option.bind_some, q_46, isLateS m46 ri yi (by omega), aBind_some, q_38, f2, i1]
    · rintro k s ⟨es, ri, u⟩
      have S1 := u.str hS
      refine ⟨s.1, ?_, ri, u⟩
      rw [es]
      show b_X1_after_11 (f_X1_after_11 k) s.1 45 (rlA f) (nI n) (nI n) = _
      simp only [b_X1_after_11, if_pos (Int32.le_refl (nI n)), q_45, r_45_1 S1, Option.bind_some]
  obtain ⟨h', f', r', u'⟩ := key
  refine ⟨h', ?_, r', u'⟩
  simp only [f_X1_after, q_45, r_45_1 hS, Option.bind_some, q_46, f1, aBind_some, f']
/-- one fair more in the reference -/
theorem pass_step {h g h0 : aH} (hS : Str h) (x : RX h g) {S : Row} {i : Nat} {f : Option Nat} (v : VS S) {m : Nat} (y : YR S m) (hm : m + i < 100000) (ok : RlOK h0 f) (eF : hI h 308 21 = frI f) (eC : ∀ b, 310 ≤ b → b ≤ 313 → hI h b = hI h0 b) (eD : hI h 308 23 = 0) (es : hI g 318 = passN h0 f S i) :
    ∃ g', f_X12_passes g 308 = some (passC h0 f (lateB (passN h0 f S i)) (passN h0 f S i), g') ∧ hI g' 318 = passN h0 f S (i + 1) ∧ RX h g' := by
  obtain ⟨vi, oi, yi⟩ := passN_ok (h0 := h0) (f := f) v y i
  obtain ⟨g', fg, sg, xg⟩ := passes_eq (x.str hS) es vi yi hm ok (by rw [x.2 21 (by decide)]; exact eF) (fun b p q => by rw [x.o (by omega) (by omega), eC b p q]) (d := false) (by rw [x.2 23 (by decide)]; exact eD)
  rw [Bool.false_or] at fg sg
  exact ⟨g', fg, sg, x.tr xg⟩
