/-! ===== at a fair: free ones ask ===== -/
abbrev bitI (x : Int32) (w : Nat) : Prop := (x >>> (nI w &&& 31)) &&& 1 = 1
abbrev opn (S : Row) (ae be : Int32) (w : Nat) : Prop := S (28 + 4 * w) < 0 ∧ ¬ bitI ae w ∧ ¬ be = nI w
def mostOf (S : Row) (e : Nat) (b : Int32) : Int32 := if b < 0 then 0 else S (43 + 4 * e + b.toNatClampNeg)
def favN (S : Row) (ae be : Int32) (e : Nat) : Nat → Int32
  | 0 => -1
  | i + 1 => if opn S ae be i ∧ mostOf S e (favN S ae be e i) < S (43 + 4 * e + i) then nI i else favN S ae be e i
theorem favN_c {S : Row} {ae be : Int32} {e : Nat} : ∀ i, i ≤ 4 → favN S ae be e i = -1 ∨ ∃ w, w < i ∧ favN S ae be e i = nI w ∧ opn S ae be w := by
  intro i
  induction i with
  | zero => intro _; exact Or.inl rfl
  | succ i ih =>
    intro hi
    rw [favN]
    split
    · rename_i q; exact Or.inr ⟨i, by omega, rfl, q.1⟩
    · rcases ih (by omega) with z | ⟨w, hw, z⟩
      · exact Or.inl z
      · exact Or.inr ⟨w, by omega, z⟩
abbrev atH (H : Row) (e : Nat) : Prop := H 0 = nI e ∨ H 1 = nI e ∨ H 2 = nI e ∨ H 3 = nI e
theorem atH_iff {H : Row} {e : Nat} : atH H e ↔ ∃ w, w < 4 ∧ H w = nI e := by
  constructor
  · rintro (q | q | q | q)
    · exact ⟨0, by decide, q⟩
    · exact ⟨1, by decide, q⟩
    · exact ⟨2, by decide, q⟩
    · exact ⟨3, by decide, q⟩
  · rintro ⟨w, hw, q⟩
    have : w = 0 ∨ w = 1 ∨ w = 2 ∨ w = 3 := by omega
    rcases this with rfl | rfl | rfl | rfl
    · exact Or.inl q
    · exact Or.inr (Or.inl q)
    · exact Or.inr (Or.inr (Or.inl q))
    · exact Or.inr (Or.inr (Or.inr q))
abbrev selC (S A B H : Row) (e : Nat) : Prop := S (12 + 4 * e) < 0 ∧ ¬ atH H e ∧ 0 ≤ favN S (A e) (B e) e (nW S)
def selF (S A B H : Row) : Nat → Nat → Option (Nat × Nat)
  | 0, _ => none
  | n + 1, e => if selC S A B H e then some (e, (favN S (A e) (B e) e (nW S)).toNatClampNeg) else selF S A B H n (e + 1)
def askA (A : Row) (e w : Nat) : Row := upd A e (A e ||| (1 <<< (nI w &&& 31)))
def rivL (S H : Row) (w : Nat) : Int32 := if H w < 0 then 0 else S (59 + 4 * (H w).toNatClampNeg + w)
def askH (S H : Row) (e w : Nat) : Row := if rivL S H w < S (59 + 4 * e + w) then upd H w (nI e) else H
def askN (S B : Row) : Nat → Row × Row → Row × Row
  | 0, s => s
  | n + 1, s => match selF S s.1 B s.2 (nE S) 0 with
    | none => s
    | some q => askN S B n (askA s.1 q.1 q.2, askH S s.2 q.1 q.2)
theorem selF_some {S A B H : Row} (v : VS S) : ∀ {n e : Nat} {q : Nat × Nat}, selF S A B H n e = some q → e ≤ q.1 ∧ q.1 < e + n ∧ q.2 < nW S ∧ S (12 + 4 * q.1) < 0 ∧ ¬ atH H q.1 ∧ opn S (A q.1) (B q.1) q.2 ∧ favN S (A q.1) (B q.1) q.1 (nW S) = nI q.2 := by
  intro n
  induction n with
  | zero => intro e q h; cases h
  | succ n ih =>
    intro e q h
    rw [selF] at h
    split at h
    · rename_i c
      cases h
      have e4 := v.e4.2
      rcases favN_c (S := S) (ae := A e) (be := B e) (e := e) (nW S) e4 with z | ⟨w, hw, z, o⟩
      · have := c.2.2; rw [z] at this; exact absurd this (by decide)
      · simp only [z, nI_clamp (show w < 2 ^ 31 by omega)]
        exact ⟨by omega, by omega, hw, c.1, c.2.1, o, trivial⟩
    · obtain ⟨a, b, r⟩ := ih h
      exact ⟨by omega, by omega, r⟩
/-- who is at hand -/
def HOK (S H : Row) : Prop := (∀ w, w < 4 → H w = -1 ∨ ∃ e, e < nE S ∧ w < nW S ∧ H w = nI e ∧ S (12 + 4 * e) < 0 ∧ S (28 + 4 * w) < 0) ∧ ∀ w w', w < 4 → w' < 4 → H w = H w' → w ≠ w' → H w = -1
theorem HOK.ask {S A B H : Row} (v : VS S) (k : HOK S H) {q : Nat × Nat} (hq : selF S A B H (nE S) 0 = some q) : HOK S (askH S H q.1 q.2) := by
  obtain ⟨_, a2, a3, a4, a5, a6, _⟩ := selF_some v hq
  unfold askH
  split
  · refine ⟨fun w hw => ?_, fun w w' hw hw' e ne => ?_⟩
    · by_cases c : w = q.2
      · rw [c, upd_at]; exact Or.inr ⟨q.1, by omega, a3, rfl, a4, a6.1⟩
      · rw [upd_ne _ _ c]; exact k.1 w hw
    · by_cases c : w = q.2
      · by_cases c' : w' = q.2
        · omega
        · rw [c, upd_at, upd_ne _ _ c'] at e
          exact absurd (atH_iff.mpr ⟨w', hw', e.symm⟩) a5
      · by_cases c' : w' = q.2
        · rw [c', upd_at, upd_ne _ _ c] at e
          exact absurd (atH_iff.mpr ⟨w, hw, e⟩) a5
        · rw [upd_ne _ _ c, upd_ne _ _ c'] at e
          rw [upd_ne _ _ c]; exact k.2 w w' hw hw' e ne
  · exact k
/-- bits that are left -/
def clI (x : Int32) : Nat := (if bitI x 0 then 0 else 1) + (if bitI x 1 then 0 else 1) + (if bitI x 2 then 0 else 1) + (if bitI x 3 then 0 else 1)
theorem cl_dec : ∀ a, a < 16 → ∀ w, w < 4 → ¬ bitI (nI a) w → clI (nI a ||| (1 <<< (nI w &&& 31))) + 1 = clI (nI a) ∧ ∃ b, b < 16 ∧ (nI a ||| (1 <<< (nI w &&& 31))) = nI b := by decide +kernel
theorem cl_16 : ∀ a, a < 16 → clI (nI a) ≤ 4 := by decide +kernel
def mu (A : Row) : Nat := clI (A 0) + clI (A 1) + clI (A 2) + clI (A 3)
def AOK (A : Row) : Prop := ∀ e, e < 4 → ∃ a, a < 16 ∧ A e = nI a
theorem mu_16 {A : Row} (k : AOK A) : mu A ≤ 16 := by
  obtain ⟨a, ha, ea⟩ := k 0 (by decide)
  obtain ⟨b, hb, eb⟩ := k 1 (by decide)
  obtain ⟨c, hc, ec⟩ := k 2 (by decide)
  obtain ⟨d, hd, ed⟩ := k 3 (by decide)
  have := cl_16 a ha
  have := cl_16 b hb
  have := cl_16 c hc
  have := cl_16 d hd
  unfold mu; rw [ea, eb, ec, ed]; omega
theorem AOK.ask {A : Row} (k : AOK A) {e w : Nat} (he : e < 4) (hw : w < 4) (hb : ¬ bitI (A e) w) : AOK (askA A e w) ∧ mu (askA A e w) + 1 = mu A := by
  obtain ⟨a, ha, ea⟩ := k e he
  have cd := cl_dec a ha w hw (by rw [← ea]; exact hb)
  constructor
  · intro e' he'
    by_cases c : e' = e
    · rw [c, askA, upd_at, ea]; exact cd.2
    · rw [askA, upd_ne _ _ c]; exact k e' he'
  · have : e = 0 ∨ e = 1 ∨ e = 2 ∨ e = 3 := by omega
    unfold mu askA
    rcases this with rfl | rfl | rfl | rfl
    · rw [upd_at, upd_ne _ _ (show (1 : Nat) ≠ 0 by decide), upd_ne _ _ (show (2 : Nat) ≠ 0 by decide), upd_ne _ _ (show (3 : Nat) ≠ 0 by decide), ea]; omega
    · rw [upd_at, upd_ne _ _ (show (0 : Nat) ≠ 1 by decide), upd_ne _ _ (show (2 : Nat) ≠ 1 by decide), upd_ne _ _ (show (3 : Nat) ≠ 1 by decide), ea]; omega
    · rw [upd_at, upd_ne _ _ (show (0 : Nat) ≠ 2 by decide), upd_ne _ _ (show (1 : Nat) ≠ 2 by decide), upd_ne _ _ (show (3 : Nat) ≠ 2 by decide), ea]; omega
    · rw [upd_at, upd_ne _ _ (show (0 : Nat) ≠ 3 by decide), upd_ne _ _ (show (1 : Nat) ≠ 3 by decide), upd_ne _ _ (show (2 : Nat) ≠ 3 by decide), ea]; omega
theorem askN_ok {S B : Row} (v : VS S) : ∀ {n : Nat} {s : Row × Row}, HOK S s.2 → HOK S (askN S B n s).2 := by
  intro n
  induction n with
  | zero => intro s k; exact k
  | succ n ih =>
    intro s k
    rw [askN]
    split
    · exact k
    · rename_i q hq
      exact ih (k.ask v hq)
/-! the class's asking -/
theorem n31 : ∀ w, w < 4 → (nI w &&& 31) = nI w := by decide +kernel
theorem bit01 (x : Int32) : x &&& 1 = 0 ∨ x &&& 1 = 1 := by
  obtain ⟨j, hj, e⟩ := pk_andE x (m := 1) 1 (by decide)
  rw [e]
  have : j = 0 ∨ j = 1 := by omega
  rcases this with rfl | rfl
  · exact Or.inl rfl
  · exact Or.inr rfl
theorem bit_n {x : Int32} {w : Nat} : ((x >>> (nI w &&& 31)) &&& 1 = 0) ↔ ¬ bitI x w := by
  rcases bit01 (x >>> (nI w &&& 31)) with z | z
  · exact ⟨fun _ q => by have q' : (x >>> (nI w &&& 31)) &&& 1 = 1 := q; rw [z] at q'; exact absurd q' (by decide), fun _ => z⟩
  · exact ⟨fun q => by rw [z] at q; exact absurd q (by decide), fun q => absurd z q⟩
/-- the rows at the asking -/
def CAsk (h : aH) (n : Nat) (B A H : Row) : Prop := (∀ e, e < n → hI h 42 e = B e) ∧ ∀ i, i < 4 → hI h 43 i = A i ∧ hI h 44 i = H i
theorem favourite_eq {h : aH} (hS : Str h) {a : Nat} (ha : a ∈ stL) {S : Row} (r : RSt h a S) (v : VS S) {B A H : Row} (k : CAsk h (nE S) B A H) {e : Nat} (he : e < nE S) : f_X0_favourite h 38 a (nI e) = some (favN S (A e) (B e) e (nW S), h) := by
  have e4 := v.e4
  have h3 := v.e3.2
  have he4 : e < 4 := by omega
  refine itLoop (σ := Int32 × Int32 × Int32) (fun n s => f_X0_favourite_8 n h 38 a (nI e) s.1 s.2.1 s.2.2) (fun i s => s = (favN S (A e) (B e) e i, mostOf S e (favN S (A e) (B e) e i), nI i)) (fun o => o = some (favN S (A e) (B e) e (nW S), h)) (nW S) ?_ ?_ 2000 0 (-1, 0, 0) rfl (by omega) (by omega)
  · rintro m i _ hi rfl
    refine Or.inr ⟨_, rfl, ?_⟩
    show b_X0_favourite_8 (f_X0_favourite_8 m) h 38 a (nI e) _ _ (nI i) = _
    have c : ¬ nI (nW S) ≤ nI i := nI_ge hi (by omega)
    have hi4 : i < 4 := by omega
    have n1 : ¬ (1 : Int32) = 0 := by decide
    have kA := (k.2 e he4).1
    have kB := k.1 e he
    by_cases c1 : S (28 + 4 * i) < 0
    · by_cases c2 : bitI (A e) i
      · have c2' : ¬ ((A e >>> (nI i &&& 31)) &&& 1 = 0) := fun q => (bit_n.mp q) c2
        have no : ¬ (opn S (A e) (B e) i ∧ mostOf S e (favN S (A e) (B e) e i) < S (43 + 4 * e + i)) := fun q => q.1.2.1 c2
        simp only [b_X0_favourite_8, qst0 ha, r.s4, e4.1, if_neg c, isFreeS1 hS ha r hi4, if_pos c1, aBind_some, if_neg n1, q_38, r_38_2 hS, Option.bind_some, q_43, if_pos (in43 he4), nI_clamp (show e < 2 ^ 31 by omega), kA, if_neg c2', b_X0_favourite_56, b_X0_favourite_57, if_true, b_X0_favourite_90, i1, favN, if_neg no]
      · have c2' : (A e >>> (nI i &&& 31)) &&& 1 = 0 := bit_n.mpr c2
        by_cases c3 : B e = nI i
        · have no : ¬ (opn S (A e) (B e) i ∧ mostOf S e (favN S (A e) (B e) e i) < S (43 + 4 * e + i)) := fun q => q.1.2.2 c3
          simp only [b_X0_favourite_8, qst0 ha, r.s4, e4.1, if_neg c, isFreeS1 hS ha r hi4, if_pos c1, aBind_some, if_neg n1, q_38, r_38_2 hS, r_38_1 hS, Option.bind_some, q_43, q_42, if_pos (in43 he4), if_pos (in42 he4), nI_clamp (show e < 2 ^ 31 by omega), kA, if_pos c2', kB, if_pos c3, b_X0_favourite_56, b_X0_favourite_57, if_true, b_X0_favourite_90, i1, favN, if_neg no]
        · by_cases c4 : S (43 + 4 * e + i) ≤ mostOf S e (favN S (A e) (B e) e i)
          · have no : ¬ (opn S (A e) (B e) i ∧ mostOf S e (favN S (A e) (B e) e i) < S (43 + 4 * e + i)) := fun q => absurd q.2 (Int32.not_lt.mpr c4)
            simp only [b_X0_favourite_8, qst0 ha, r.s4, e4.1, if_neg c, isFreeS1 hS ha r hi4, if_pos c1, aBind_some, if_neg n1, q_38, r_38_2 hS, r_38_1 hS, Option.bind_some, q_43, q_42, if_pos (in43 he4), if_pos (in42 he4), nI_clamp (show e < 2 ^ 31 by omega), kA, if_pos c2', kB, if_neg c3, b_X0_favourite_57, likeS0 hS ha r he4 hi4, if_pos c4, b_X0_favourite_90, i1, favN, if_neg no]
          · have yes : opn S (A e) (B e) i ∧ mostOf S e (favN S (A e) (B e) e i) < S (43 + 4 * e + i) := ⟨⟨c1, c2, c3⟩, Int32.not_le.mp c4⟩
            have mo : mostOf S e (nI i) = S (43 + 4 * e + i) := by rw [mostOf, if_neg (nI_pos (by omega)), nI_clamp (by omega)]
            simp only [b_X0_favourite_8, qst0 ha, r.s4, e4.1, if_neg c, isFreeS1 hS ha r hi4, if_pos c1, aBind_some, if_neg n1, q_38, r_38_2 hS, r_38_1 hS, Option.bind_some, q_43, q_42, if_pos (in43 he4), if_pos (in42 he4), nI_clamp (show e < 2 ^ 31 by omega), kA, if_pos c2', kB, if_neg c3, b_X0_favourite_57, likeS0 hS ha r he4 hi4, if_neg c4, b_X0_favourite_90, i1, favN, if_pos yes, mo]
    · have no : ¬ (opn S (A e) (B e) i ∧ mostOf S e (favN S (A e) (B e) e i) < S (43 + 4 * e + i)) := fun q => c1 q.1.1
      simp only [b_X0_favourite_8, qst0 ha, r.s4, e4.1, if_neg c, isFreeS1 hS ha r hi4, if_neg c1, aBind_some, if_true, b_X0_favourite_56, b_X0_favourite_57, b_X0_favourite_90, i1, favN, if_neg no]
  · rintro m _ rfl
    show b_X0_favourite_8 (f_X0_favourite_8 m) h 38 a (nI e) _ _ (nI (nW S)) = _
    simp only [b_X0_favourite_8, qst0 ha, r.s4, e4.1, if_pos (Int32.le_refl (nI (nW S)))]
theorem isAtHand_eq {h : aH} (hS : Str h) {n : Nat} {B A H : Row} (k : CAsk h n B A H) (e : Nat) : f_X0_isAtHand h 38 (nI e) = some (b1 (atH H e), h) := by
  have k0 := (k.2 0 (by decide)).2
  have k1 := (k.2 1 (by decide)).2
  have k2 := (k.2 2 (by decide)).2
  have k3 := (k.2 3 (by decide)).2
  have st : ∀ (m w : Nat), w < 4 → f_X0_isAtHand_2 (m + 1) h 38 (nI e) (nI w) = if H w = nI e then some (1, h) else f_X0_isAtHand_2 m h 38 (nI e) (nI (w + 1)) := by
    intro m w hw
    have c : ¬ (4 : Int32) ≤ nI w := nI_ge (b := 4) hw (by decide)
    show b_X0_isAtHand_2 (f_X0_isAtHand_2 m) h 38 (nI e) (nI w) = _
    simp only [b_X0_isAtHand_2, if_neg c, q_38, r_38_3 hS, Option.bind_some, q_44, if_pos (in44 hw), nI_clamp (show w < 2 ^ 31 by omega), (k.2 w hw).2, i1]
  have en : ∀ m, f_X0_isAtHand_2 (m + 1) h 38 (nI e) (nI 4) = some (0, h) := fun m => by
    show b_X0_isAtHand_2 (f_X0_isAtHand_2 m) h 38 (nI e) (nI 4) = _
    simp only [b_X0_isAtHand_2, if_pos (show (4 : Int32) ≤ nI 4 by decide)]
  show f_X0_isAtHand_2 2000 h 38 (nI e) (nI 0) = _
  rw [st 1999 0 (by decide), st 1998 1 (by decide), st 1997 2 (by decide), st 1996 3 (by decide), en 1995]
  unfold b1
  by_cases c0 : H 0 = nI e
  · rw [if_pos c0, if_pos (Or.inl c0)]
  by_cases c1 : H 1 = nI e
  · rw [if_neg c0, if_pos c1, if_pos (Or.inr (Or.inl c1))]
  by_cases c2 : H 2 = nI e
  · rw [if_neg c0, if_neg c1, if_pos c2, if_pos (Or.inr (Or.inr (Or.inl c2)))]
  by_cases c3 : H 3 = nI e
  · rw [if_neg c0, if_neg c1, if_neg c2, if_pos c3, if_pos (Or.inr (Or.inr (Or.inr c3)))]
  rw [if_neg c0, if_neg c1, if_neg c2, if_neg c3, if_neg (by rintro (q | q | q | q) <;> contradiction)]
