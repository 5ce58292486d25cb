/-! ===== look ===== -/
def cnt (p : Nat → Bool) : Nat → Nat
  | 0 => 0
  | n + 1 => cnt p n + (if p n = true then 1 else 0)
def mxN (g : Nat → Nat) : Nat → Nat
  | 0 => 0
  | n + 1 => if mxN g n < g n then g n else mxN g n
theorem cnt_congr {p q : Nat → Bool} : ∀ n, (∀ j, j < n → p j = q j) → cnt p n = cnt q n := by
  intro n
  induction n with
  | zero => intro _; rfl
  | succ n ih => intro h; rw [cnt, cnt, ih (fun j hj => h j (by omega)), h n (by omega)]
theorem mxN_congr {p q : Nat → Nat} : ∀ n, (∀ j, j < n → p j = q j) → mxN p n = mxN q n := by
  intro n
  induction n with
  | zero => intro _; rfl
  | succ n ih => intro h; rw [mxN, mxN, ih (fun j hj => h j (by omega)), h n (by omega)]
theorem cnt_le {p : Nat → Bool} : ∀ n, cnt p n ≤ n := by
  intro n
  induction n with
  | zero => exact Nat.le_refl _
  | succ n ih => rw [cnt]; split <;> omega
theorem cnt_pos {p : Nat → Bool} {k : Nat} (hp : p k = true) : ∀ n, k < n → 0 < cnt p n := by
  intro n
  induction n with
  | zero => intro h; omega
  | succ n ih =>
    intro h
    rw [cnt]
    by_cases q : k = n
    · subst q; rw [if_pos hp]; omega
    · have := ih (by omega); omega
theorem mxN_ge {g : Nat → Nat} {k : Nat} : ∀ n, k < n → g k ≤ mxN g n := by
  intro n
  induction n with
  | zero => intro h; omega
  | succ n ih =>
    intro h
    rw [mxN]
    by_cases q : k = n
    · subst q; split <;> omega
    · have := ih (by omega); split <;> omega
theorem mxN_le {g : Nat → Nat} {b : Nat} : ∀ n, (∀ j, j < n → g j ≤ b) → mxN g n ≤ b := by
  intro n
  induction n with
  | zero => intro _; exact Nat.zero_le _
  | succ n ih =>
    intro h
    have h1 := ih (fun j hj => h j (by omega))
    have h2 := h n (by omega)
    rw [mxN]
    split <;> omega
/-- those that fit, one behind another -/
def cIx (B : Nat → Bool) : Nat → Nat × (Nat → Nat)
  | 0 => (0, fun _ => 0)
  | i + 1 => if B i = true then ((cIx B i).1 + 1, fun j => if j = (cIx B i).1 then i else (cIx B i).2 j) else cIx B i
theorem cIx_le {B : Nat → Bool} : ∀ n, (cIx B n).1 ≤ n := by
  intro n
  induction n with
  | zero => exact Nat.le_refl _
  | succ n ih =>
    rw [cIx]
    split
    · show (cIx B n).1 + 1 ≤ n + 1; omega
    · omega
theorem cnt_ix {B P : Nat → Bool} : ∀ N, cnt (fun j => P ((cIx B N).2 j)) (cIx B N).1 = cnt (fun b => B b && P b) N := by
  intro N
  induction N with
  | zero => rfl
  | succ N ih =>
    cases e : B N with
    | false =>
      have c : cIx B (N + 1) = cIx B N := by rw [cIx, if_neg (by rw [e]; decide)]
      rw [c, ih, cnt, e, Bool.false_and, if_neg (by decide), Nat.add_zero]
    | true =>
      have c : cIx B (N + 1) = ((cIx B N).1 + 1, fun j => if j = (cIx B N).1 then N else (cIx B N).2 j) := by rw [cIx, if_pos e]
      rw [c]
      show cnt (fun j => P (if j = (cIx B N).1 then N else (cIx B N).2 j)) ((cIx B N).1 + 1) = _
      rw [cnt, cnt, e, Bool.true_and, if_pos rfl, ← ih]
      congr 1
      exact cnt_congr _ (fun j hj => by rw [if_neg (by omega)])
theorem mx_ix {B : Nat → Bool} {g : Nat → Nat} : ∀ N, mxN (fun j => g ((cIx B N).2 j)) (cIx B N).1 = mxN (fun b => if B b = true then g b else 0) N := by
  intro N
  induction N with
  | zero => rfl
  | succ N ih =>
    cases e : B N with
    | false =>
      have c : cIx B (N + 1) = cIx B N := by rw [cIx, if_neg (by rw [e]; decide)]
      rw [c, ih, mxN, e, if_neg (show ¬ false = true by decide), if_neg (by omega)]
    | true =>
      have c : cIx B (N + 1) = ((cIx B N).1 + 1, fun j => if j = (cIx B N).1 then N else (cIx B N).2 j) := by rw [cIx, if_pos e]
      have cg : mxN (fun j => g (if j = (cIx B N).1 then N else (cIx B N).2 j)) (cIx B N).1 = mxN (fun b => if B b = true then g b else 0) N := by
        rw [← ih]; exact mxN_congr _ (fun j hj => by rw [if_neg (by omega)])
      rw [c]
      show mxN (fun j => g (if j = (cIx B N).1 then N else (cIx B N).2 j)) ((cIx B N).1 + 1) = _
      rw [mxN, mxN, cg, e, if_pos rfl, if_pos rfl]
/-- the most alike by an east -/
def alk (B : Nat → Bool) (V : Nat → Nat → Int32) (N e : Nat) : Nat := mxN (fun a => if B a = true then cnt (fun b => B b && decide (V a e = V b e)) N else 0) N
theorem alk_ix (B : Nat → Bool) (V : Nat → Nat → Int32) (N e : Nat) : alk B V N e = mxN (fun i => cnt (fun j => decide (V ((cIx B N).2 i) e = V ((cIx B N).2 j) e)) (cIx B N).1) (cIx B N).1 := by
  unfold alk
  rw [← mx_ix (B := B) (g := fun a => cnt (fun b => B b && decide (V a e = V b e)) N) N]
  exact mxN_congr _ (fun i _ => (cnt_ix (B := B) (P := fun b => decide (V ((cIx B N).2 i) e = V b e)) N).symm)
theorem alk_0 {B : Nat → Bool} {V : Nat → Nat → Int32} {N e : Nat} : alk B V N e = 0 ↔ (cIx B N).1 = 0 := by
  rw [alk_ix]
  constructor
  · intro h
    rcases Nat.eq_zero_or_pos (cIx B N).1 with z | z
    · exact z
    · have g := mxN_ge (g := fun i => cnt (fun j => decide (V ((cIx B N).2 i) e = V ((cIx B N).2 j) e)) (cIx B N).1) (k := 0) _ z
      have p := cnt_pos (p := fun j => decide (V ((cIx B N).2 0) e = V ((cIx B N).2 j) e)) (k := 0) (decide_eq_true rfl) _ z
      rw [h] at g
      have g' : cnt (fun j => decide (V ((cIx B N).2 0) e = V ((cIx B N).2 j) e)) (cIx B N).1 ≤ 0 := g
      omega
  · intro h; rw [h]; rfl
theorem alk_le {B : Nat → Bool} {V : Nat → Nat → Int32} {N e : Nat} : alk B V N e ≤ N := by
  unfold alk
  refine mxN_le N (fun j _ => ?_)
  show (if B j = true then cnt (fun b => B b && decide (V j e = V b e)) N else 0) ≤ N
  split
  · exact cnt_le N
  · omega
/-- where to look -/
def lkW (M : Nat → Nat) : Nat → Int32 × Int32
  | 0 => (-2, -2)
  | e + 1 => if M e = 0 then lkW M e else if (lkW M e).1 < 0 then (nI e, nI (M e)) else if nI (M e) < (lkW M e).2 then (nI e, nI (M e)) else lkW M e
theorem lkW_0 {M : Nat → Nat} (h : ∀ e, M e = 0) : ∀ n, lkW M n = (-2, -2) := by
  intro n
  induction n with
  | zero => rfl
  | succ n ih => rw [lkW, if_pos (h n), ih]
/-! the class -/
theorem in65 {k : Nat} (h : k < 28) : aIn (nI k) (sh 65).2 := by rw [sh_65]; exact vp_in_nI h (by decide)
theorem i4m (c e : Nat) : nI c * (4 : Int32) + nI e = nI (4 * c + e) := by rw [show (4 : Int32) = nI 4 from rfl, pk_mul, nI_add, Nat.mul_comm]
abbrev lC : Nat → Prop := fun b => pC 58 b ∨ b = 57 ∨ b = 65
theorem addW {g : aH} (hS : Str g) {T : Row} (r : RSt g 58 T) {c : Nat} (hc : c < 7) (e3 : hI g 57 3 = nI c) : f_X4_addToLook_79 2000 g 57 0 = some ((), pI (wI g 65 (w4 (hI g 65) (4 * c) T 4)) 57 3 (nI (c + 1))) := by
  refine itLoop (σ := aH × Int32) (fun k s => f_X4_addToLook_79 k s.1 57 s.2) (fun e s => s = (wI g 65 (w4 (hI g 65) (4 * c) T e), nI e)) (fun o => o = some ((), pI (wI g 65 (w4 (hI g 65) (4 * c) T 4)) 57 3 (nI (c + 1)))) 4 ?_ ?_ 2000 0 (g, 0) ?_ (by omega) (by omega)
  · rintro k e _ he rfl
    refine Or.inr ⟨_, rfl, ?_⟩
    show b_X4_addToLook_79 (f_X4_addToLook_79 k) (wI g 65 (w4 (hI g 65) (4 * c) T e)) 57 (nI e) = _
    have q : ¬ (4 : Int32) ≤ nI e := nI_ge (b := 4) he (by decide)
    have r2 : RSt (wI g 65 (w4 (hI g 65) (4 * c) T e)) 58 T := r.mv (fun b p q => hI_wI_ne _ _ (by omega)) rfl (fun _ _ => rfl)
    have pn := partnerS0 (h := wI g 65 (w4 (hI g 65) (4 * c) T e)) hS m58 r2 he
    have e3' : hI (wI g 65 (w4 (hI g 65) (4 * c) T e)) 57 3 = nI c := by rw [hI_wI_ne _ _ (by decide)]; exact e3
    simp only [b_X4_addToLook_79, if_neg q, q_57, hR_wI, r_57_1 hS, r_57_2 hS, Option.bind_some, qst0 m58, pn, aBind_some, e3', aLet, i4m, q_65, if_pos (in65 (show 4 * c + e < 28 by omega)), nI_clamp (show 4 * c + e < 2 ^ 31 by omega), pI_wI, i1, w4]
  · rintro k _ rfl
    show b_X4_addToLook_79 (f_X4_addToLook_79 k) (wI g 65 (w4 (hI g 65) (4 * c) T 4)) 57 (nI 4) = _
    have e3' : hI (wI g 65 (w4 (hI g 65) (4 * c) T 4)) 57 3 = nI c := by rw [hI_wI_ne _ _ (by decide)]; exact e3
    simp only [b_X4_addToLook_79, if_pos (show (4 : Int32) ≤ nI 4 by decide), q_57, e3', aLet, i1]
  · show (g, (0 : Int32)) = (wI g 65 (hI g 65), nI 0)
    rw [wI_self]; rfl
theorem lC_58 : ∀ c, pC 58 c → lC c := fun c hc => Or.inl hc
theorem addLook {g h0 : aH} (hS : Str g) {S0 : Row} (r : RSt g 12 S0) (v : VS S0) (y : YR S0 0) {f : Option Nat} (ok : RlOK h0 f) (eC : ∀ b, 66 ≤ b → b ≤ 95 → hI g b = hI h0 b) {m : Nat} (b : NtB S0 m) (c : NtC g S0 m) {k n : Nat} (hk : k < 7) (e3 : hI g 57 3 = nI k) (hn : n ≤ 30) :
    ∃ g', f_X4_addToLook g 57 11 (rlA f) (nI n) = some ((), g') ∧ hI g' 57 3 = (if fitP h0 f S0 m 31 = true then nI (k + 1) else nI k) ∧ hI g' 65 = (if fitP h0 f S0 m 31 = true then w4 (hI g 65) (4 * k) (passN h0 f S0 (n + 1)) 4 else hI g 65) ∧ Upd lC g g' := by
  obtain ⟨hA, fA, rA, uA⟩ := copyFrom_eq hS m58 m12 (by decide) r v.1
  have uA' : Upd (pC 58) g hA := uA.mono (fun c hc => Or.inl hc)
  have SA := uA.str hS
  obtain ⟨h1, f1, u1⟩ := fitsC SA rA v y ok (fun b p q => by rw [uA'.2.2.1 b (pC58n (by omega)), eC b p q]) b (by
    unfold NtC
    rw [uA'.2.2.1 11 (pC58n (by omega)), uA'.2.2.1 26 (pC58n (by omega)), uA'.2.2.1 27 (pC58n (by omega)), uA'.2.2.1 28 (pC58n (by omega))]
    exact c)
  have S1 := u1.str SA
  have U1 := uA'.tr u1
  have e3A : ¬ (7 : Int32) ≤ hI hA 57 3 := by rw [uA'.2.2.1 57 (pC58n (by omega)), e3]; exact nI_ge (b := 7) hk (by decide)
  cases ef : fitP h0 f S0 m 31 with
  | false =>
    rw [ef] at f1
    have f1' : f_X4_fitsFromHere hA 57 11 (rlA f) = some (0, h1) := f1
    refine ⟨h1, ?_, ?_, ?_, U1.mono lC_58⟩
    · simp only [f_X4_addToLook, q_57, r_57_1 hS, Option.bind_some, q_11, r_11_0 hS, qst0 m58, fA, aBind_some, if_neg e3A, f1', if_true]
    · rw [if_neg (by decide), U1.2.2.1 57 (pC58n (by omega))]; exact e3
    · rw [if_neg (by decide), U1.2.2.1 65 (pC58n (by omega))]
  | true =>
    rw [ef] at f1
    have f1' : f_X4_fitsFromHere hA 57 11 (rlA f) = some (1, h1) := f1
    obtain ⟨hB, fB, rB, uB⟩ := copyFrom_eq S1 m58 m12 (by decide) (r.up U1 (fun b p q => pC58n (by omega))) v.1
    have uB' : Upd (pC 58) g hB := U1.tr (uB.mono (fun c hc => Or.inl hc))
    have SB := uB'.str hS
    have key : ∃ g', f_X4_addToLook_44 2000 hB 57 (rlA f) (nI n) 0 = some ((), g') ∧ hI g' 57 3 = nI (k + 1) ∧ hI g' 65 = w4 (hI g 65) (4 * k) (passN h0 f S0 (n + 1)) 4 ∧ Upd lC g g' := by
      refine itLoop (σ := aH × Int32) (fun j s => f_X4_addToLook_44 j s.1 57 (rlA f) (nI n) s.2) (fun i s => s = (s.1, nI i) ∧ RSt s.1 58 (passN h0 f S0 i) ∧ Upd (pC 58) g s.1)
        (fun o => ∃ g', o = some ((), g') ∧ hI g' 57 3 = nI (k + 1) ∧ hI g' 65 = w4 (hI g 65) (4 * k) (passN h0 f S0 (n + 1)) 4 ∧ Upd lC g g') (n + 1) ?_ ?_ 2000 0 (hB, 0) ⟨rfl, rB, uB'⟩ (by omega) (by omega)
      · rintro j i s hi ⟨es, ri, u⟩
        have Ss := u.str hS
        obtain ⟨vi, oi, yi⟩ := passN_ok (h0 := h0) (f := f) v y i
        have q : ¬ nI n < nI i := nI_nlt (by omega) (by omega)
        obtain ⟨h2, f2, r2, u2⟩ := pass_eq Ss m58 ri vi ok (fun b p q => by rw [u.2.2.1 b (pC58n (by omega)), eC b p q]) (lateB (passN h0 f S0 i))
        refine Or.inr ⟨(h2, nI (i + 1)), ⟨rfl, r2, u.tr u2⟩, ?_⟩
        rw [es]
        show b_X4_addToLook_44 (f_X4_addToLook_44 j) s.1 57 (rlA f) (nI n) (nI i) = _
        simp only [b_X4_addToLook_44, if_neg q, q_57, r_57_0 Ss, r_57_1 Ss, Option.bind_some, qst0 m58, isLateS m58 ri yi (by omega), aBind_some, q_38, f2, i1]
      · rintro j s ⟨es, ri, u⟩
        have Ss := u.str hS
        have aw := addW Ss ri hk (by rw [u.2.2.1 57 (pC58n (by omega))]; exact e3)
        rw [u.2.2.1 65 (pC58n (by omega))] at aw
        refine ⟨pI (wI s.1 65 (w4 (hI g 65) (4 * k) (passN h0 f S0 (n + 1)) 4)) 57 3 (nI (k + 1)), ?_, ?_, ?_, ?_⟩
        · rw [es]
          show b_X4_addToLook_44 (f_X4_addToLook_44 j) s.1 57 (rlA f) (nI n) (nI (n + 1)) = _
          simp only [b_X4_addToLook_44, if_pos (nI_lt (show n < n + 1 by omega) (by omega))]
          exact aw
        · rw [hI_eq, upd_at]
        · rw [hI_ne _ (by decide), hI_wI_eq]
        · exact ((u.mono lC_58).tr (Upd.wI (by unfold lC; omega))).tr (Upd.pI (by unfold lC; omega))
    obtain ⟨g', k1, k2, k3, k4⟩ := key
    refine ⟨g', ?_, by rw [if_pos rfl]; exact k2, by rw [if_pos rfl]; exact k3, k4⟩
    simp only [f_X4_addToLook, q_57, r_57_1 hS, Option.bind_some, q_11, r_11_0 hS, qst0 m58, fA, aBind_some, if_neg e3A, f1', if_neg (show ¬ (1 : Int32) = 0 by decide), r_57_1 S1, r_11_0 S1, fB, k1]
theorem mostC_in {g : aH} (hS : Str g) {C e i : Nat} (hC : C ≤ 7) (he : e < 4) (hi : i < C) {U : Nat → Int32} (e3 : hI g 57 3 = nI C) (w : ∀ j, j < C → hI g 65 (4 * j + e) = U j) (K : aH → Nat → Int32 → Int32 → Int32 → Option (Int32 × aH)) {a : Nat} (ha : a ≤ 7) : f_X4_mostAlikeBy_18 K 2000 g 57 (nI e) (nI a) (nI i) 0 0 = K g 57 (nI e) (nI (if a < cnt (fun j => decide (U i = U j)) C then cnt (fun j => decide (U i = U j)) C else a)) (nI (i + 1)) := by
  refine itLoop (σ := Int32 × Int32) (fun k s => f_X4_mostAlikeBy_18 K k g 57 (nI e) (nI a) (nI i) s.1 s.2) (fun j s => s = (nI (cnt (fun j => decide (U i = U j)) j), nI j)) (fun o => o = K g 57 (nI e) (nI (if a < cnt (fun j => decide (U i = U j)) C then cnt (fun j => decide (U i = U j)) C else a)) (nI (i + 1))) C ?_ ?_ 2000 0 (0, 0) rfl (by omega) (by omega)
  · rintro k j _ hj rfl
    refine Or.inr ⟨_, rfl, ?_⟩
    have q : ¬ nI C ≤ nI j := nI_ge hj (by omega)
    show b_X4_mostAlikeBy_18 K (f_X4_mostAlikeBy_18 K k) g 57 (nI e) (nI a) (nI i) (nI (cnt (fun j => decide (U i = U j)) j)) (nI j) = f_X4_mostAlikeBy_18 K k g 57 (nI e) (nI a) (nI i) (nI (cnt (fun j => decide (U i = U j)) (j + 1))) (nI (j + 1))
    simp only [b_X4_mostAlikeBy_18, q_57, e3, if_neg q, r_57_2 hS, Option.bind_some, aLet, i4m, q_65, if_pos (in65 (show 4 * i + e < 28 by omega)), if_pos (in65 (show 4 * j + e < 28 by omega)), nI_clamp (show 4 * i + e < 2 ^ 31 by omega), nI_clamp (show 4 * j + e < 2 ^ 31 by omega), w i hi, w j hj, b_X4_mostAlikeBy_54, i1, cnt]
    by_cases z : U i = U j
    · rw [if_pos z, if_pos (decide_eq_true z)]
    · rw [if_neg z, if_neg (fun y => z (of_decide_eq_true y))]; first | done | rfl
  · rintro k _ rfl
    show b_X4_mostAlikeBy_18 K (f_X4_mostAlikeBy_18 K k) g 57 (nI e) (nI a) (nI i) (nI (cnt (fun j => decide (U i = U j)) C)) (nI C) = _
    have l := cnt_le (p := fun j => decide (U i = U j)) C
    simp only [b_X4_mostAlikeBy_18, q_57, e3, if_pos (Int32.le_refl (nI C)), aLet, i1]
    by_cases z : a < cnt (fun j => decide (U i = U j)) C
    · rw [if_pos z, if_pos (nI_lt z (by omega))]
    · rw [if_neg z, if_neg (nI_nlt (by omega) (by omega))]
theorem mostC {g : aH} (hS : Str g) {C e : Nat} (hC : C ≤ 7) (he : e < 4) {U : Nat → Int32} (e3 : hI g 57 3 = nI C) (w : ∀ j, j < C → hI g 65 (4 * j + e) = U j) : f_X4_mostAlikeBy g 57 (nI e) = some (nI (mxN (fun i => cnt (fun j => decide (U i = U j)) C) C), g) := by
  refine itLoop (σ := Int32 × Int32) (fun k s => f_X4_mostAlikeBy_4 k g 57 (nI e) s.1 s.2) (fun i s => s = (nI (mxN (fun i => cnt (fun j => decide (U i = U j)) C) i), nI i)) (fun o => o = some (nI (mxN (fun i => cnt (fun j => decide (U i = U j)) C) C), g)) C ?_ ?_ 2000 0 (0, 0) rfl (by omega) (by omega)
  · rintro k i _ hi rfl
    refine Or.inr ⟨_, rfl, ?_⟩
    have q : ¬ nI C ≤ nI i := nI_ge hi (by omega)
    have l : mxN (fun i => cnt (fun j => decide (U i = U j)) C) i ≤ 7 := Nat.le_trans (mxN_le (b := C) i (fun j _ => cnt_le C)) hC
    show b_X4_mostAlikeBy_4 (f_X4_mostAlikeBy_4 k) g 57 (nI e) (nI (mxN (fun i => cnt (fun j => decide (U i = U j)) C) i)) (nI i) = f_X4_mostAlikeBy_4 k g 57 (nI e) (nI (mxN (fun i => cnt (fun j => decide (U i = U j)) C) (i + 1))) (nI (i + 1))
    simp only [b_X4_mostAlikeBy_4, q_57, e3, if_neg q, mostC_in hS hC he hi e3 w _ l, mxN]
  · rintro k _ rfl
    show b_X4_mostAlikeBy_4 (f_X4_mostAlikeBy_4 k) g 57 (nI e) (nI (mxN (fun i => cnt (fun j => decide (U i = U j)) C) C)) (nI C) = _
    simp only [b_X4_mostAlikeBy_4, q_57, e3, if_pos (Int32.le_refl (nI C))]
theorem chooseC {g : aH} (hS : Str g) {C E : Nat} (hC : C ≤ 7) (hE : E ≤ 4) (e3 : hI g 57 3 = nI C) {M : Nat → Nat} (hM : ∀ e, M e ≤ 7) (w : ∀ g', hI g' 65 = hI g 65 → Str g' → hI g' 57 3 = nI C → ∀ e, e < 4 → f_X4_mostAlikeBy g' 57 (nI e) = some (nI (M e), g')) (m0 : ∀ e, M e = 0 ↔ C = 0) :
    ∃ g', f_X4_chooseLook g 57 (nI E) = some ((), g') ∧ hI g' 57 7 = (lkW M E).1 ∧ hI g' 57 8 = (lkW M E).2 ∧ Upd (fun c => c = 57) g g' := by
  obtain ⟨g1, eg1⟩ : ∃ g1, g1 = pI (pI g 57 7 (-2)) 57 8 (-2) := ⟨_, rfl⟩
  have u1 : Upd (fun c => c = 57) g g1 := by rw [eg1]; exact (Upd.pI (A := fun c => c = 57) rfl).tr (Upd.pI (A := fun c => c = 57) rfl)
  have k1 : hI g1 57 = upd (upd (hI g 57) 7 (-2)) 8 (-2) := by rw [eg1, hI_eq, hI_eq]
  have key : ∃ g', f_X4_chooseLook_14 2000 g1 57 (nI E) 0 = some ((), g') ∧ hI g' 57 7 = (lkW M E).1 ∧ hI g' 57 8 = (lkW M E).2 ∧ Upd (fun c => c = 57) g g' := by
    refine itLoop (σ := aH × Int32) (fun k s => f_X4_chooseLook_14 k s.1 57 (nI E) s.2) (fun e s => s = (s.1, nI e) ∧ hI s.1 57 7 = (lkW M e).1 ∧ hI s.1 57 8 = (lkW M e).2 ∧ hI s.1 57 3 = nI C ∧ Upd (fun c => c = 57) g s.1)
      (fun o => ∃ g', o = some ((), g') ∧ hI g' 57 7 = (lkW M E).1 ∧ hI g' 57 8 = (lkW M E).2 ∧ Upd (fun c => c = 57) g g') E ?_ ?_ 2000 0 (g1, 0) ⟨rfl, by rw [k1, upd_ne _ _ (by decide), upd_at]; rfl, by rw [k1, upd_at]; rfl, by rw [k1, upd_ne _ _ (by decide), upd_ne _ _ (by decide)]; exact e3, u1⟩ (by omega) (by omega)
    · rintro k e s he ⟨es, a7, a8, a3, u⟩
      have Ss := u.str hS
      have q : ¬ nI E ≤ nI e := nI_ge he (by omega)
      by_cases z : C = 0
      · subst z
        refine Or.inl ⟨s.1, ?_, ?_, ?_, u⟩
        · rw [es]
          show b_X4_chooseLook_14 (f_X4_chooseLook_14 k) s.1 57 (nI E) (nI e) = _
          simp only [b_X4_chooseLook_14, if_neg q, q_57, a3, if_pos (show nI 0 ≤ 0 by decide)]
        · rw [a7, lkW_0 (fun e => (m0 e).mpr rfl), lkW_0 (fun e => (m0 e).mpr rfl)]
        · rw [a8, lkW_0 (fun e => (m0 e).mpr rfl), lkW_0 (fun e => (m0 e).mpr rfl)]
      · have q2 : ¬ nI C ≤ 0 := nI_nle (by omega) (by omega)
        have m1 : ¬ M e = 0 := fun y => z ((m0 e).mp y)
        have mm := w s.1 (u.2.2.1 65 (by decide)) Ss a3 e (by omega)
        obtain ⟨g2, eg2⟩ : ∃ g2, g2 = pI (pI s.1 57 7 (nI e)) 57 8 (nI (M e)) := ⟨_, rfl⟩
        have k2 : hI g2 57 = upd (upd (hI s.1 57) 7 (nI e)) 8 (nI (M e)) := by rw [eg2, hI_eq, hI_eq]
        have u2 : Upd (fun c => c = 57) g g2 := by rw [eg2]; exact u.tr ((Upd.pI (A := fun c => c = 57) rfl).tr (Upd.pI (A := fun c => c = 57) rfl))
        have hd : f_X4_chooseLook_14 (k + 1) s.1 57 (nI E) s.2 = if (lkW M e).1 < 0 then f_X4_chooseLook_14 k g2 57 (nI E) (nI (e + 1)) else if (lkW M e).2 ≤ nI (M e) then f_X4_chooseLook_14 k s.1 57 (nI E) (nI (e + 1)) else f_X4_chooseLook_14 k g2 57 (nI E) (nI (e + 1)) := by
          rw [es]
          show b_X4_chooseLook_14 (f_X4_chooseLook_14 k) s.1 57 (nI E) (nI e) = _
          simp only [b_X4_chooseLook_14, if_neg q, q_57, a3, if_neg q2, mm, aBind_some, a7, a8, b_X4_chooseLook_47, b_X4_chooseLook_57, aLet, i1, ← eg2]
        have done : lkW M (e + 1) = (nI e, nI (M e)) → hI g2 57 7 = (lkW M (e + 1)).1 ∧ hI g2 57 8 = (lkW M (e + 1)).2 ∧ hI g2 57 3 = nI C := fun p => by
          rw [p, k2]
          exact ⟨by rw [upd_ne _ _ (by decide), upd_at], by rw [upd_at], by rw [upd_ne _ _ (by decide), upd_ne _ _ (by decide)]; exact a3⟩
        by_cases p1 : (lkW M e).1 < 0
        · obtain ⟨d1, d2, d3⟩ := done (by rw [lkW, if_neg m1, if_pos p1])
          rw [if_pos p1] at hd
          exact Or.inr ⟨(g2, nI (e + 1)), ⟨rfl, d1, d2, d3, u2⟩, hd⟩
        · by_cases p2 : nI (M e) < (lkW M e).2
          · obtain ⟨d1, d2, d3⟩ := done (by rw [lkW, if_neg m1, if_neg p1, if_pos p2])
            rw [if_neg p1, if_neg (Int32.not_le.mpr p2)] at hd
            exact Or.inr ⟨(g2, nI (e + 1)), ⟨rfl, d1, d2, d3, u2⟩, hd⟩
          · have ee : lkW M (e + 1) = lkW M e := by rw [lkW, if_neg m1, if_neg p1, if_neg p2]
            rw [if_neg p1, if_pos (Int32.not_lt.mp p2)] at hd
            exact Or.inr ⟨(s.1, nI (e + 1)), ⟨rfl, by rw [ee]; exact a7, by rw [ee]; exact a8, a3, u⟩, hd⟩
    · rintro k s ⟨es, a7, a8, a3, u⟩
      refine ⟨s.1, ?_, a7, a8, u⟩
      rw [es]
      show b_X4_chooseLook_14 (f_X4_chooseLook_14 k) s.1 57 (nI E) (nI E) = _
      simp only [b_X4_chooseLook_14, if_pos (Int32.le_refl (nI E))]
  obtain ⟨g', a, b, c, d⟩ := key
  refine ⟨g', ?_, b, c, d⟩
  simp only [f_X4_chooseLook, q_57, aLet, ← eg1, a]
/-! the reference -/
theorem alikeR_in {g : aH} (hS : Str g) {R e a : Nat} (l6 : R ≤ 6) (he : e < 4) (ha : a ≤ R) {B : Nat → Bool} {V : Nat → Nat → Int32} (e2 : hI g 308 2 = nI R) (f : ∀ r, r ≤ R → hI g 327 r = bB (B r)) (w : ∀ r, r ≤ R → hI g 328 (4 * r + e) = V r e) (K : aH → Nat → Int32 → Int32 → Int32 → Option (Int32 × aH)) {t : Nat} (ht : t ≤ 7) :
    f_X12_alikeAt_18 K 2000 g 308 (nI e) (nI t) (nI a) 0 0 = K g 308 (nI e) (nI (if t < (if B a = true then cnt (fun b => B b && decide (V a e = V b e)) (R + 1) else 0) then (if B a = true then cnt (fun b => B b && decide (V a e = V b e)) (R + 1) else 0) else t)) (nI (a + 1)) := by
  cases eB : B a with
  | false =>
    show b_X12_alikeAt_18 K (f_X12_alikeAt_18 K 1999) g 308 (nI e) (nI t) (nI a) (nI 0) (nI 0) = _
    have q : ¬ nI R < nI 0 := nI_nlt (by omega) (by omega)
    have fa := f a ha
    rw [eB] at fa
    have fa' : hI g 327 a = 0 := fa
    simp only [b_X12_alikeAt_18, q_308, e2, if_neg q, r_308_33 hS, Option.bind_some, q_327, if_pos (in327 (show a < 7 by omega)), nI_clamp (show a < 2 ^ 31 by omega), fa', if_true, b_X12_alikeAt_86, b_X12_alikeAt_98, i1, if_pos (nI_le (show 0 ≤ t by omega) (show t < 2 ^ 31 by omega))]
    rw [if_neg (show ¬ false = true by decide), if_neg (show ¬ t < 0 by omega)]
  | true =>
    rw [if_pos rfl]
    have fa := f a ha
    rw [eB] at fa
    have fa' : ¬ hI g 327 a = 0 := by rw [fa]; decide
    refine itLoop (σ := Int32 × Int32) (fun k s => f_X12_alikeAt_18 K k g 308 (nI e) (nI t) (nI a) s.1 s.2) (fun b s => s = (nI (cnt (fun b => B b && decide (V a e = V b e)) b), nI b)) (fun o => o = K g 308 (nI e) (nI (if t < cnt (fun b => B b && decide (V a e = V b e)) (R + 1) then cnt (fun b => B b && decide (V a e = V b e)) (R + 1) else t)) (nI (a + 1))) (R + 1) ?_ ?_ 2000 0 (0, 0) rfl (by omega) (by omega)
    · rintro k b _ hb rfl
      refine Or.inr ⟨_, rfl, ?_⟩
      have q : ¬ nI R < nI b := nI_nlt (by omega) (by omega)
      have fb := f b (by omega)
      show b_X12_alikeAt_18 K (f_X12_alikeAt_18 K k) g 308 (nI e) (nI t) (nI a) (nI (cnt (fun b => B b && decide (V a e = V b e)) b)) (nI b) = f_X12_alikeAt_18 K k g 308 (nI e) (nI t) (nI a) (nI (cnt (fun b => B b && decide (V a e = V b e)) (b + 1))) (nI (b + 1))
      simp only [b_X12_alikeAt_18, q_308, e2, if_neg q, r_308_33 hS, r_308_34 hS, Option.bind_some, q_327, q_328, if_pos (in327 (show a < 7 by omega)), if_pos (in327 (show b < 7 by omega)), nI_clamp (show a < 2 ^ 31 by omega), nI_clamp (show b < 2 ^ 31 by omega), if_neg fa', fb, bB_0, aLet, i4r, if_pos (in328 (show 4 * a + e < 28 by omega)), if_pos (in328 (show 4 * b + e < 28 by omega)), nI_clamp (show 4 * a + e < 2 ^ 31 by omega), nI_clamp (show 4 * b + e < 2 ^ 31 by omega), w a ha, w b (show b ≤ R by omega), b_X12_alikeAt_76, b_X12_alikeAt_77, i1, cnt, Int32.add_zero]
      by_cases eb : B b = true
      · rw [if_pos eb]
        by_cases z : V a e = V b e
        · rw [if_pos z, if_pos (by rw [Bool.and_eq_true]; exact ⟨eb, decide_eq_true z⟩)]
        · rw [if_neg z, if_neg (fun y => by rw [Bool.and_eq_true] at y; exact z (of_decide_eq_true y.2))]; first | done | rfl
      · rw [if_neg eb, if_neg (fun y => by rw [Bool.and_eq_true] at y; exact eb y.1)]; first | done | rfl
    · rintro k _ rfl
      have l := cnt_le (p := fun b => B b && decide (V a e = V b e)) (R + 1)
      show b_X12_alikeAt_18 K (f_X12_alikeAt_18 K k) g 308 (nI e) (nI t) (nI a) (nI (cnt (fun b => B b && decide (V a e = V b e)) (R + 1))) (nI (R + 1)) = _
      simp only [b_X12_alikeAt_18, q_308, e2, if_pos (nI_lt (show R < R + 1 by omega) (show R + 1 < 2 ^ 31 by omega)), b_X12_alikeAt_86, b_X12_alikeAt_98, i1]
      by_cases z : t < cnt (fun b => B b && decide (V a e = V b e)) (R + 1)
      · rw [if_pos z, if_neg (nI_ge z (by omega))]
      · rw [if_neg z, if_pos (nI_le (by omega) (by omega))]
theorem alikeR {g : aH} (hS : Str g) {R e : Nat} (l6 : R ≤ 6) (he : e < 4) {B : Nat → Bool} {V : Nat → Nat → Int32} (e2 : hI g 308 2 = nI R) (f : ∀ r, r ≤ R → hI g 327 r = bB (B r)) (w : ∀ r, r ≤ R → hI g 328 (4 * r + e) = V r e) : f_X12_alikeAt g 308 (nI e) = some (nI (alk B V (R + 1) e), g) := by
  unfold alk
  obtain ⟨G, eG⟩ : ∃ G : Nat → Nat, G = (fun a => if B a = true then cnt (fun b => B b && decide (V a e = V b e)) (R + 1) else 0) := ⟨_, rfl⟩
  have Gl : ∀ j, G j ≤ 7 := fun j => by
    rw [eG]
    show (if B j = true then cnt (fun b => B b && decide (V j e = V b e)) (R + 1) else 0) ≤ 7
    have := cnt_le (p := fun b => B b && decide (V j e = V b e)) (R + 1)
    split <;> omega
  rw [← eG]
  refine itLoop (σ := Int32 × Int32) (fun k s => f_X12_alikeAt_4 k g 308 (nI e) s.1 s.2) (fun i s => s = (nI (mxN G i), nI i)) (fun o => o = some (nI (mxN G (R + 1)), g)) (R + 1) ?_ ?_ 2000 0 (0, 0) rfl (by omega) (by omega)
  · rintro k i _ hi rfl
    refine Or.inr ⟨_, rfl, ?_⟩
    have q : ¬ nI R < nI i := nI_nlt (by omega) (by omega)
    have al := alikeR_in hS l6 he (a := i) (by omega) e2 f w (f_X12_alikeAt_4 k) (t := mxN G i) (mxN_le i (fun j _ => Gl j))
    have eGi : (if B i = true then cnt (fun b => B b && decide (V i e = V b e)) (R + 1) else 0) = G i := by rw [eG]
    rw [eGi] at al
    show b_X12_alikeAt_4 (f_X12_alikeAt_4 k) g 308 (nI e) (nI (mxN G i)) (nI i) = f_X12_alikeAt_4 k g 308 (nI e) (nI (mxN G (i + 1))) (nI (i + 1))
    simp only [b_X12_alikeAt_4, q_308, e2, if_neg q, mxN]
    exact al
  · rintro k _ rfl
    show b_X12_alikeAt_4 (f_X12_alikeAt_4 k) g 308 (nI e) (nI (mxN G (R + 1))) (nI (R + 1)) = _
    simp only [b_X12_alikeAt_4, q_308, e2, if_pos (nI_lt (show R < R + 1 by omega) (show R + 1 < 2 ^ 31 by omega))]
theorem lookR {g : aH} (hS : Str g) {S : Row} (eS : hI g 318 = S) (v : VS S) {R : Nat} (l6 : R ≤ 6) {B : Nat → Bool} {V : Nat → Nat → Int32} (e2 : hI g 308 2 = nI R) (f : ∀ r, r ≤ R → hI g 327 r = bB (B r)) (w : ∀ e, e < 4 → ∀ r, r ≤ R → hI g 328 (4 * r + e) = V r e) (x2 : Int32) :
    f_X12_look_46 2000 g 308 x2 (-2) (-2) 0 = some (if x2 = 0 then (lkW (alk B V (R + 1)) (nE S)).1 else (lkW (alk B V (R + 1)) (nE S)).2, g) := by
  have v3 := v.e3
  refine itLoop (σ := (Int32 × Int32) × Int32) (fun k s => f_X12_look_46 k g 308 x2 s.1.1 s.1.2 s.2) (fun e s => s = (lkW (alk B V (R + 1)) e, nI e)) (fun o => o = some (if x2 = 0 then (lkW (alk B V (R + 1)) (nE S)).1 else (lkW (alk B V (R + 1)) (nE S)).2, g)) (nE S) ?_ ?_ 2000 0 ((-2, -2), 0) rfl (by omega) (by omega)
  · rintro k e _ he rfl
    refine Or.inr ⟨_, rfl, ?_⟩
    have q : ¬ nI (nE S) ≤ nI e := nI_ge he (by omega)
    have al := alikeR hS l6 (show e < 4 by omega) e2 f (w e (by omega))
    have l : alk B V (R + 1) e ≤ R + 1 := alk_le
    show b_X12_look_46 (f_X12_look_46 k) g 308 x2 (lkW (alk B V (R + 1)) e).1 (lkW (alk B V (R + 1)) e).2 (nI e) = f_X12_look_46 k g 308 x2 (lkW (alk B V (R + 1)) (e + 1)).1 (lkW (alk B V (R + 1)) (e + 1)).2 (nI (e + 1))
    simp only [b_X12_look_46, q_308, r_308_20 hS, Option.bind_some, q_318, if_pos in3, cl3, eS, v3.1, if_neg q, al, aBind_some, b_X12_look_91, b_X12_look_84, i1, lkW]
    by_cases z : alk B V (R + 1) e = 0
    · rw [if_pos (show nI (alk B V (R + 1) e) = 0 by rw [z]; rfl), if_pos z]
    · rw [if_neg (nI_ne0 (by omega) (by omega)), if_neg z]
      by_cases p1 : (lkW (alk B V (R + 1)) e).1 < 0
      · rw [if_pos p1, if_pos p1]
      · rw [if_neg p1, if_neg p1]
        by_cases p2 : nI (alk B V (R + 1) e) < (lkW (alk B V (R + 1)) e).2
        · rw [if_pos p2, if_pos p2]
        · rw [if_neg p2, if_neg p2]
  · rintro k _ rfl
    show b_X12_look_46 (f_X12_look_46 k) g 308 x2 (lkW (alk B V (R + 1)) (nE S)).1 (lkW (alk B V (R + 1)) (nE S)).2 (nI (nE S)) = _
    simp only [b_X12_look_46, q_308, r_308_20 hS, Option.bind_some, q_318, if_pos in3, cl3, eS, v3.1, if_pos (Int32.le_refl (nI (nE S)))]
    split <;> rfl
