/-! ===== there is a settled row ===== -/
theorem fav_max {S : Row} {ae be : Int32} {e : Nat} : ∀ i, i ≤ 4 → (favN S ae be e i = -1 → ∀ w', w' < i → opn S ae be w' → S (43 + 4 * e + w') ≤ 0) ∧ ∀ w, w < 4 → favN S ae be e i = nI w → 0 < S (43 + 4 * e + w) ∧ ∀ w', w' < i → opn S ae be w' → S (43 + 4 * e + w') ≤ S (43 + 4 * e + w) := by
  intro i
  induction i with
  | zero => intro _; exact ⟨fun _ w' h => by omega, fun w hw h => absurd h (nI_m1' (by omega))⟩
  | succ i ih =>
    intro hi
    obtain ⟨a, b⟩ := ih (by omega)
    rw [favN]
    by_cases q : opn S ae be i ∧ mostOf S e (favN S ae be e i) < S (43 + 4 * e + i)
    · rw [if_pos q]
      refine ⟨fun h => absurd h (nI_m1 (by omega)), fun w hw h => ?_⟩
      have ew : i = w := (nI_eq (by omega) (by omega)).mp h
      subst ew
      have q2 := q.2
      unfold mostOf at q2
      rcases favN_c (S := S) (ae := ae) (be := be) (e := e) i (by omega) with z | ⟨w1, hw1, z, _⟩
      · rw [z, if_pos (by decide)] at q2
        refine ⟨q2, fun w' h' o => ?_⟩
        by_cases y : w' = i
        · rw [y]; exact Int32.le_refl _
        · exact Int32.le_trans (a z w' (by omega) o) (Int32.le_of_lt q2)
      · rw [z, if_neg (nI_pos (by omega)), nI_clamp (show w1 < 2 ^ 31 by omega)] at q2
        obtain ⟨b1', b2'⟩ := b w1 (by omega) z
        refine ⟨Int32.lt_trans b1' q2, fun w' h' o => ?_⟩
        by_cases y : w' = i
        · rw [y]; exact Int32.le_refl _
        · exact Int32.le_trans (b2' w' (by omega) o) (Int32.le_of_lt q2)
    · rw [if_neg q]
      have nm : opn S ae be i → S (43 + 4 * e + i) ≤ mostOf S e (favN S ae be e i) := fun o => Int32.not_lt.mp (fun y => q ⟨o, y⟩)
      refine ⟨fun h w' h' o => ?_, fun w hw h => ?_⟩
      · by_cases y : w' = i
        · subst y
          have := nm o
          unfold mostOf at this
          rw [h, if_pos (by decide)] at this
          exact this
        · exact a h w' (by omega) o
      · obtain ⟨b1', b2'⟩ := b w hw h
        refine ⟨b1', fun w' h' o => ?_⟩
        by_cases y : w' = i
        · subst y
          have := nm o
          unfold mostOf at this
          rw [h, if_neg (nI_pos (by omega)), nI_clamp (show w < 2 ^ 31 by omega)] at this
          exact this
        · exact b2' w' (by omega) o
def Bn : Row := fun _ => -1
theorem bit_or : ∀ a, a < 16 → ∀ w, w < 4 → ∀ w', w' < 4 → (bitI (nI a ||| (1 <<< (nI w &&& 31))) w' ↔ (bitI (nI a) w' ∨ w' = w)) := by decide +kernel
theorem bit_0 : ∀ w, w < 4 → ¬ bitI 0 w := by decide +kernel
/-- what holds while they ask -/
def DA (S A H : Row) : Prop := HOK S H ∧ AOK A ∧
  (∀ e w, e < nE S → w < nW S → bitI (A e) w → 0 < S (59 + 4 * e + w) → ∃ e', e' < nE S ∧ H w = nI e' ∧ S (59 + 4 * e + w) ≤ S (59 + 4 * e' + w)) ∧
  (∀ e w w', e < nE S → w < nW S → w' < nW S → bitI (A e) w → S (28 + 4 * w') < 0 → S (43 + 4 * e + w) < S (43 + 4 * e + w') → bitI (A e) w') ∧
  ∀ e w, e < nE S → w < nW S → H w = nI e → bitI (A e) w ∧ 0 < S (43 + 4 * e + w) ∧ 0 < S (59 + 4 * e + w)
theorem DA_0 {S : Row} (v : VS S) : DA S A0 H0 := by
  have v4 := v.e4.2
  exact ⟨HOK0 S, AOK0, fun e w _ hw b _ => absurd b (bit_0 w (by omega)), fun e w w' _ hw _ b _ _ => absurd b (bit_0 w (by omega)), fun e w _ _ h => absurd h (nI_m1' (by have := v.e3.2; omega))⟩
theorem DA_s {S A H : Row} (v : VS S) (k : DA S A H) {q : Nat × Nat} (hq : selF S A Bn H (nE S) 0 = some q) : DA S (askA A q.1 q.2) (askH S H q.1 q.2) := by
  have v3 := v.e3.2
  have v4 := v.e4.2
  obtain ⟨k1, k2, k3, k4, k5⟩ := k
  obtain ⟨p1, p2, p3, p4, p5, p6, p7⟩ := selF_some v hq
  obtain ⟨e, w⟩ := q
  have he : e < nE S := by have : e < 0 + nE S := p2; omega
  have hw : w < nW S := p3
  have e4 : e < 4 := by omega
  have w4 : w < 4 := by omega
  obtain ⟨a, ha, ea⟩ := k2 e e4
  have fv : favN S (A e) (Bn e) e (nW S) = nI w := p7
  obtain ⟨f1, f2⟩ := (fav_max (S := S) (ae := A e) (be := Bn e) (e := e) (nW S) v4).2 w w4 fv
  have op : opn S (A e) (Bn e) w := p6
  have bA : ∀ w', w' < 4 → (bitI (askA A e w e) w' ↔ (bitI (A e) w' ∨ w' = w)) := fun w' h' => by
    unfold askA
    rw [upd_at, ea]
    exact bit_or a ha w w4 w' h'
  have oA : ∀ e', e' ≠ e → askA A e w e' = A e' := fun e' h' => by unfold askA; rw [upd_ne _ _ h']
  have mono : ∀ e' w', w' < 4 → bitI (A e') w' → bitI (askA A e w e') w' := fun e' w' h' b => by
    by_cases y : e' = e
    · subst y; exact (bA w' h').mpr (Or.inl b)
    · rw [oA e' y]; exact b
  have rv : 0 ≤ rivL S H w := by
    unfold rivL
    rcases k1.1 w w4 with z | ⟨e', he', _, z, _⟩
    · rw [z, if_pos (by decide)]; decide
    · rw [z, if_neg (nI_pos (by omega)), nI_clamp (show e' < 2 ^ 31 by omega)]
      exact (likeB v (show e' < 4 by omega) w4).2
  have hH : (rivL S H w < S (59 + 4 * e + w) ∧ askH S H e w = upd H w (nI e)) ∨ (¬ rivL S H w < S (59 + 4 * e + w) ∧ askH S H e w = H) := by
    unfold askH
    by_cases y : rivL S H w < S (59 + 4 * e + w)
    · exact Or.inl ⟨y, if_pos y⟩
    · exact Or.inr ⟨y, if_neg y⟩
  refine ⟨k1.ask v hq, (k2.ask e4 w4 op.2.1).1, ?_, ?_, ?_⟩
  · intro e0 w0 he0 hw0 b pos
    show ∃ e', e' < nE S ∧ askH S H e w w0 = nI e' ∧ _
    have hb : bitI (A e0) w0 ∨ (e0 = e ∧ w0 = w) := by
      by_cases y : e0 = e
      · subst y
        rcases (bA w0 (by omega)).mp b with t | t
        · exact Or.inl t
        · exact Or.inr ⟨rfl, t⟩
      · rw [oA e0 y] at b; exact Or.inl b
    rcases hb with hb | ⟨y1, y2⟩
    · obtain ⟨e', he', z1, z2⟩ := k3 e0 w0 he0 hw0 hb pos
      rcases hH with ⟨r1, r2⟩ | ⟨r1, r2⟩
      · rw [r2]
        by_cases y : w0 = w
        · subst y
          refine ⟨e, he, upd_at _ _ _, ?_⟩
          unfold rivL at r1
          rw [z1, if_neg (nI_pos (by omega)), nI_clamp (show e' < 2 ^ 31 by omega)] at r1
          exact Int32.le_trans z2 (Int32.le_of_lt r1)
        · exact ⟨e', he', by rw [upd_ne _ _ y]; exact z1, z2⟩
      · rw [r2]; exact ⟨e', he', z1, z2⟩
    · subst y1 y2
      rcases hH with ⟨r1, r2⟩ | ⟨r1, r2⟩
      · rw [r2]; exact ⟨e0, he, upd_at _ _ _, Int32.le_refl _⟩
      · rw [r2]
        have r3 := Int32.not_lt.mp r1
        unfold rivL at r3
        rcases k1.1 w0 w4 with z | ⟨e', he', _, z, _⟩
        · rw [z, if_pos (by decide)] at r3
          exact absurd pos (Int32.not_lt.mpr r3)
        · rw [z, if_neg (nI_pos (by omega)), nI_clamp (show e' < 2 ^ 31 by omega)] at r3
          exact ⟨e', he', z, r3⟩
  · intro e0 w0 w' he0 hw0 hw' b fr lt
    by_cases y : e0 = e
    · subst y
      refine (bA w' (by omega)).mpr (Or.inl ?_)
      rcases (bA w0 (by omega)).mp b with t | t
      · exact k4 e0 w0 w' he0 hw0 hw' t fr lt
      · subst t
        by_cases bb : bitI (A e0) w'
        · exact bb
        · have o' : opn S (A e0) (Bn e0) w' := ⟨fr, bb, nI_m1' (by omega)⟩
          exact absurd lt (Int32.not_lt.mpr (f2 w' hw' o'))
    · rw [oA e0 y] at b ⊢
      exact k4 e0 w0 w' he0 hw0 hw' b fr lt
  · intro e0 w0 he0 hw0 h
    rcases hH with ⟨r1, r2⟩ | ⟨r1, r2⟩
    · rw [r2] at h
      by_cases y : w0 = w
      · subst y
        rw [upd_at] at h
        have ee : e = e0 := (nI_eq (by omega) (by omega)).mp h
        subst ee
        exact ⟨(bA w0 w4).mpr (Or.inr rfl), f1, Int32.lt_of_le_of_lt rv r1⟩
      · rw [upd_ne _ _ y] at h
        obtain ⟨t1, t2, t3⟩ := k5 e0 w0 he0 hw0 h
        exact ⟨mono e0 w0 (by omega) t1, t2, t3⟩
    · rw [r2] at h
      obtain ⟨t1, t2, t3⟩ := k5 e0 w0 he0 hw0 h
      exact ⟨mono e0 w0 (by omega) t1, t2, t3⟩
theorem cl0_bits : ∀ a, a < 16 → clI (nI a) = 0 → ∀ w, w < 4 → bitI (nI a) w := by decide +kernel
theorem DA_end {S : Row} (v : VS S) : ∀ n (s : Row × Row), mu s.1 ≤ n → DA S s.1 s.2 → DA S (askN S Bn n s).1 (askN S Bn n s).2 ∧ selF S (askN S Bn n s).1 Bn (askN S Bn n s).2 (nE S) 0 = none := by
  have v3 := v.e3.2
  have v4 := v.e4.2
  intro n
  induction n with
  | zero =>
    intro s hm k
    refine ⟨k, ?_⟩
    show selF S s.1 Bn s.2 (nE S) 0 = none
    cases e : selF S s.1 Bn s.2 (nE S) 0 with
    | none => rfl
    | some q =>
      exfalso
      obtain ⟨p1, p2, p3, p4, p5, p6, p7⟩ := selF_some v e
      obtain ⟨a, ha, ea⟩ := k.2.1 q.1 (by omega)
      have z : clI (s.1 q.1) = 0 := by
        have hmu : mu s.1 = 0 := by omega
        unfold mu at hmu
        have c : q.1 = 0 ∨ q.1 = 1 ∨ q.1 = 2 ∨ q.1 = 3 := by omega
        rcases c with c | c | c | c <;> rw [c] <;> omega
      rw [ea] at z
      have := cl0_bits a ha z q.2 (by omega)
      rw [← ea] at this
      exact p6.2.1 this
  | succ n ih =>
    intro s hm k
    rw [askN]
    cases e : selF S s.1 Bn s.2 (nE S) 0 with
    | none => exact ⟨k, e⟩
    | some q =>
      obtain ⟨p1, p2, p3, p4, p5, p6, p7⟩ := selF_some v e
      have m1 := (k.2.1.ask (show q.1 < 4 by omega) (show q.2 < 4 by omega) p6.2.1).2
      exact ih (askA s.1 q.1 q.2, askH S s.2 q.1 q.2) (by show mu (askA s.1 q.1 q.2) ≤ n; omega) (DA_s v k e)
theorem selF_no {S A B H : Row} : ∀ n e, selF S A B H n e = none → ∀ i, e ≤ i → i < e + n → ¬ selC S A B H i := by
  intro n
  induction n with
  | zero => intro e _ i h1 h2; omega
  | succ n ih =>
    intro e h i h1 h2
    rw [selF] at h
    by_cases c : selC S A B H e
    · rw [if_pos c] at h; cases h
    · rw [if_neg c] at h
      by_cases y : i = e
      · rw [y]; exact c
      · exact ih (e + 1) h i (by omega) (by omega)
def dH (H : Row) (e : Nat) : Nat := if H 0 = nI e then 1 else if H 1 = nI e then 2 else if H 2 = nI e then 3 else if H 3 = nI e then 4 else 0
theorem dH_c (H : Row) (e : Nat) : (dH H e = 0 ∧ ∀ w, w < 4 → ¬ H w = nI e) ∨ ∃ w, w < 4 ∧ dH H e = w + 1 ∧ H w = nI e := by
  unfold dH
  by_cases h0 : H 0 = nI e
  · rw [if_pos h0]; exact Or.inr ⟨0, by omega, rfl, h0⟩
  rw [if_neg h0]
  by_cases h1 : H 1 = nI e
  · rw [if_pos h1]; exact Or.inr ⟨1, by omega, rfl, h1⟩
  rw [if_neg h1]
  by_cases h2 : H 2 = nI e
  · rw [if_pos h2]; exact Or.inr ⟨2, by omega, rfl, h2⟩
  rw [if_neg h2]
  by_cases h3 : H 3 = nI e
  · rw [if_pos h3]; exact Or.inr ⟨3, by omega, rfl, h3⟩
  rw [if_neg h3]
  refine Or.inl ⟨rfl, fun w hw => ?_⟩
  have c : w = 0 ∨ w = 1 ∨ w = 2 ∨ w = 3 := by omega
  rcases c with c | c | c | c <;> rw [c] <;> assumption
def cod (b : Nat) (d : Nat → Nat) : Nat → Nat
  | 0 => 0
  | e + 1 => cod b d e * b + d e
theorem cod_lt {b : Nat} {d : Nat → Nat} (hb : 0 < b) (hd : ∀ i, d i < b) : ∀ e, cod b d e < b ^ e := by
  intro e
  induction e with
  | zero => exact Nat.one_pos
  | succ e ih =>
    rw [cod, Nat.pow_succ]
    have h1 : (cod b d e + 1) * b ≤ b ^ e * b := Nat.mul_le_mul_right b ih
    have h2 : (cod b d e + 1) * b = cod b d e * b + b := Nat.succ_mul _ _
    have := hd e
    omega
theorem cod_dg {b : Nat} {d : Nat → Nat} (hb : 0 < b) (hd : ∀ i, d i < b) : ∀ e, dgE b e (cod b d e) = fun i => if i < e then d i else 0 := by
  intro e
  induction e with
  | zero => funext i; unfold dgE; rfl
  | succ e ih =>
    rw [cod, dgE_s hb (hd e), ih]
    funext i
    show (if i = e then d e else if i < e then d i else 0) = if i < e + 1 then d i else 0
    by_cases y : i = e
    · rw [if_pos y, if_pos (by omega), y]
    · rw [if_neg y]
      by_cases z : i < e
      · rw [if_pos z, if_pos (by omega)]
      · rw [if_neg z, if_neg (by omega)]
theorem wrE_f {S rw ho : Row} {e : Nat} : ∀ k w, (∀ i, w ≤ i → i < w + k → wdR S rw ho e i = false) → wrE S rw ho e k w = false := by
  intro k
  induction k with
  | zero => intro w _; rfl
  | succ k ih => intro w h; rw [wrE, h w (by omega) (by omega), Bool.false_or]; exact ih (w + 1) (fun i h1 h2 => h i (by omega) (by omega))
theorem wrA_f {S rw ho : Row} : ∀ k e, (∀ i, e ≤ i → i < e + k → wrE S rw ho i (nW S) 0 = false) → wrA S rw ho k e = false := by
  intro k
  induction k with
  | zero => intro w _; rfl
  | succ k ih => intro w h; rw [wrA, h w (by omega) (by omega), Bool.false_or]; exact ih (w + 1) (fun i h1 h2 => h i (by omega) (by omega))
theorem exists_settled {S : Row} (v : VS S) : ∃ d : Nat → Nat, (∀ i, d i < nW S + 1) ∧ (∀ i, nE S ≤ i → d i = 0) ∧ VD S d (nE S) ∧ wrA S (rwD d) (hoD d (nE S)) (nE S) 0 = false := by
  have v3 := v.e3.2
  have v4 := v.e4.2
  obtain ⟨k, none⟩ := DA_end v 16 (A0, H0) (mu_16 AOK0) (DA_0 v)
  obtain ⟨A, eA⟩ : ∃ A, A = (askN S Bn 16 (A0, H0)).1 := ⟨_, rfl⟩
  obtain ⟨H, eH⟩ : ∃ H, H = (askN S Bn 16 (A0, H0)).2 := ⟨_, rfl⟩
  rw [← eA, ← eH] at k none
  obtain ⟨k1, k2, k3, k4, k5⟩ := k
  have hw : ∀ w e, w < 4 → H w = nI e → e < 2 ^ 31 → e < nE S ∧ w < nW S ∧ S (12 + 4 * e) < 0 ∧ S (28 + 4 * w) < 0 := fun w e h1 h2 h3 => by
    rcases k1.1 w h1 with z | ⟨e', he', z0, z1, z2, z3⟩
    · rw [z] at h2; exact absurd h2 (nI_m1' (by omega))
    · rw [z1] at h2
      have : e' = e := (nI_eq (by omega) h3).mp h2
      subst this
      exact ⟨he', z0, z2, z3⟩
  obtain ⟨d, ed⟩ : ∃ d : Nat → Nat, d = fun i => if i < nE S then dH H i else 0 := ⟨_, rfl⟩
  have d1 : ∀ i, i < nE S → d i = dH H i := fun i hi => by rw [ed]; exact if_pos hi
  have d2 : ∀ i, nE S ≤ i → d i = 0 := fun i hi => by rw [ed]; exact if_neg (by omega)
  have dw : ∀ e w, e < nE S → d e = w + 1 → w < 4 ∧ H w = nI e ∧ w < nW S := fun e w he h => by
    rw [d1 e he] at h
    rcases dH_c H e with ⟨z, _⟩ | ⟨w', hw', z1, z2⟩
    · omega
    · have : w' = w := by omega
      subst this
      exact ⟨hw', z2, (hw w' e hw' z2 (by omega)).2.1⟩
  have wd : ∀ e w, e < nE S → w < 4 → H w = nI e → d e = w + 1 := fun e w he h4 h => by
    rw [d1 e he]
    rcases dH_c H e with ⟨_, z⟩ | ⟨w', hw', z1, z2⟩
    · exact absurd h (z w h4)
    · by_cases y : w' = w
      · rw [z1, y]
      · have := k1.2 w w' h4 hw' (by rw [h, z2]) (fun t => y t.symm)
        rw [h] at this
        exact absurd this (nI_m1 (by omega))
  have hoV : ∀ w, w < 4 → (hoD d (nE S) w = -1 ∧ ∀ e, e < nE S → ¬ H w = nI e) ∨ ∃ e, e < nE S ∧ hoD d (nE S) w = nI e ∧ H w = nI e := fun w h4 => by
    rcases hoD_c d w (nE S) with ⟨z1, z2⟩ | ⟨i, hi, z1, z2⟩
    · exact Or.inl ⟨z1, fun e he h => z2 e he (wd e w he h4 h)⟩
    · exact Or.inr ⟨i, hi, z1, (dw i w hi z2).2.1⟩
  refine ⟨d, fun i => ?_, d2, fun e he => ?_, ?_⟩
  · rcases Nat.lt_or_ge i (nE S) with z | z
    · rcases Nat.eq_zero_or_pos (d i) with y | y
      · omega
      · have := (dw i (d i - 1) z (by omega)).2.2
        omega
    · rw [d2 i z]; omega
  · rcases Nat.eq_zero_or_pos (d e) with y | y
    · exact Or.inl y
    · obtain ⟨t1, t2, t3⟩ := dw e (d e - 1) he (by omega)
      obtain ⟨_, _, s1, s2⟩ := hw (d e - 1) e t1 t2 (by omega)
      obtain ⟨_, p1, p2⟩ := k5 e (d e - 1) he t3 t2
      refine Or.inr ⟨⟨s1, s2, p1, p2⟩, fun e' he' => ?_⟩
      by_cases q : d e' = d e
      · obtain ⟨u1, u2, _⟩ := dw e' (d e - 1) he' (by omega)
        rw [t2] at u2
        exact Or.inl ((nI_eq (by omega) (by omega)).mp u2).symm
      · exact Or.inr q
  · refine wrA_f (nE S) 0 (fun e _ he => wrE_f (nW S) 0 (fun w _ hw' => ?_))
    have he' : e < nE S := by omega
    have hww : w < nW S := by omega
    unfold wdR
    by_cases c1 : canJ S e w
    · by_cases c2 : eWo S (rwD d) e w
      · have bit : bitI (A e) w := by
          rcases Nat.eq_zero_or_pos (d e) with y | y
          · have na : ¬ atH H e := fun t => by
              obtain ⟨w', h1, h2⟩ := atH_iff.mp t
              have := wd e w' he' h1 h2
              omega
            have ns := selF_no (nE S) 0 none e (by omega) (by omega)
            have fm : favN S (A e) (Bn e) e (nW S) = -1 := by
              rcases favN_c (S := S) (ae := A e) (be := Bn e) (e := e) (nW S) v4 with z | ⟨w', h1, z, _⟩
              · exact z
              · exact absurd ⟨c1.1, na, by rw [z]; exact nI_pos' (by omega)⟩ ns
            have mx := (fav_max (S := S) (ae := A e) (be := Bn e) (e := e) (nW S) v4).1 fm w hww
            by_cases bb : bitI (A e) w
            · exact bb
            · exact absurd c1.2.2.1 (Int32.not_lt.mpr (mx ⟨c1.2.1, bb, nI_m1' (by omega)⟩))
          · obtain ⟨t1, t2, t3⟩ := dw e (d e - 1) he' (by omega)
            obtain ⟨b1', _, _⟩ := k5 e (d e - 1) he' t3 t2
            have rv : rwD d e = nI (d e - 1) := by unfold rwD; rw [if_neg (by omega)]
            rcases c2 with c2 | c2
            · rw [rv] at c2; exact absurd c2 (nI_pos (by omega))
            · rw [rv, nI_clamp (show d e - 1 < 2 ^ 31 by omega)] at c2
              exact k4 e (d e - 1) w he' t3 hww b1' c1.2.1 c2
        obtain ⟨e', h1, h2, h3⟩ := k3 e w he' hww bit c1.2.2.2
        have c3 : ¬ wWo S (hoD d (nE S)) e w := fun y => by
          rcases hoV w (by omega) with ⟨_, z⟩ | ⟨e2, z0, z1, z2⟩
          · exact z e' h1 h2
          · have : e2 = e' := (nI_eq (by omega) (by omega)).mp (z2.symm.trans h2)
            subst this
            rcases y with y | y
            · rw [z1] at y; exact nI_pos (by omega) y
            · rw [z1, nI_clamp (show e2 < 2 ^ 31 by omega)] at y
              exact absurd y (Int32.not_lt.mpr h3)
        rw [decide_eq_false c3, Bool.and_false, Bool.and_false]
      · rw [decide_eq_false c2, Bool.false_and, Bool.and_false]
    · rw [decide_eq_false c1, Bool.false_and]
