/-! ===== liked ===== -/
theorem trueLS1 {h : aH} {a : Nat} {S : Row} (hS : Str h) (ha : a ∈ stL) (r : RSt h a S) {e w : Nat} (he : e < 4) (hw : w < 4) : f_X8_trueLike h a 1 (nI e) (nI w) = some (S (94 + 4 * e + w), h) := by
  rw [trueLike_1 hS ha he hw, r.tr (by omega), show 78 + (16 * 1 + 4 * e + w) = 94 + 4 * e + w by omega]
theorem i94 (e w : Nat) : ((94 : Int32) + (4 * nI e)) + nI w = nI (94 + 4 * e + w) := by
  rw [show (94 : Int32) = nI 94 from rfl, show (4 : Int32) = nI 4 from rfl, pk_mul, nI_add, nI_add]
def lkS (S : Row) (e : Nat) : Nat → Int32
  | 0 => 0
  | w + 1 => lkS S e w + S (94 + 4 * e + w)
def lkB (S : Row) : Nat → Int32 × Int32
  | 0 => (-2, -2)
  | e + 1 => if (lkB S e).2 < lkS S e (nW S) then (nI e, lkS S e (nW S)) else lkB S e
theorem likedC_in {h : aH} (hS : Str h) {S : Row} (r : RSt h 19 S) (v : VS S) {e : Nat} (he : e < 4) (K : aH → Int32 → Nat → Int32 → Int32 → Int32 → Option (Int32 × aH)) (x1 x3 x4 : Int32) : f_X11_liked_51 K 2000 h x1 19 x3 x4 (nI e) 0 0 = K h x1 19 (if x4 < lkS S e (nW S) then nI e else x3) (if x4 < lkS S e (nW S) then lkS S e (nW S) else x4) (nI (e + 1)) := by
  have v4 := v.e4
  refine itLoop (σ := Int32 × Int32) (fun n s => f_X11_liked_51 K n h x1 19 x3 x4 (nI e) s.1 s.2) (fun i s => s = (lkS S e i, nI i)) (fun o => o = K h x1 19 (if x4 < lkS S e (nW S) then nI e else x3) (if x4 < lkS S e (nW S) then lkS S e (nW S) else x4) (nI (e + 1))) (nW S) ?_ ?_ 2000 0 (0, 0) rfl (by omega) (by omega)
  · rintro n i _ hi rfl
    refine Or.inr ⟨_, rfl, ?_⟩
    have c : ¬ nI (nW S) ≤ nI i := nI_ge hi (by omega)
    show b_X11_liked_51 K (f_X11_liked_51 K n) h x1 19 x3 x4 (nI e) (lkS S e i) (nI i) = f_X11_liked_51 K n h x1 19 x3 x4 (nI e) (lkS S e (i + 1)) (nI (i + 1))
    simp only [b_X11_liked_51, qst0 m19, r.s4, v4.1, if_neg c, trueLS1 hS m19 r he (show i < 4 by omega), aBind_some, aLet, i1, lkS]
  · rintro n _ rfl
    show b_X11_liked_51 K (f_X11_liked_51 K n) h x1 19 x3 x4 (nI e) (lkS S e (nW S)) (nI (nW S)) = _
    simp only [b_X11_liked_51, qst0 m19, r.s4, v4.1, if_pos (Int32.le_refl (nI (nW S))), b_X11_liked_94, i1]
    by_cases q : x4 < lkS S e (nW S)
    · simp only [if_pos q, if_neg (Int32.not_le.mpr q)]
    · simp only [if_neg q, if_pos (Int32.not_lt.mp q)]
theorem likedC {h : aH} (hS : Str h) {S : Row} (r : RSt h 19 S) (v : VS S) (x1 : Int32) : f_X11_liked_36 2000 h x1 19 (-2) (-2) 0 = some (if x1 = 0 then (lkB S (nE S)).1 else (lkB S (nE S)).2, h) := by
  have v3 := v.e3
  refine itLoop (σ := (Int32 × Int32) × Int32) (fun n s => f_X11_liked_36 n h x1 19 s.1.1 s.1.2 s.2) (fun i s => s = (lkB S i, nI i)) (fun o => o = some (if x1 = 0 then (lkB S (nE S)).1 else (lkB S (nE S)).2, h)) (nE S) ?_ ?_ 2000 0 ((-2, -2), 0) rfl (by omega) (by omega)
  · rintro n i _ hi rfl
    refine Or.inr ⟨_, rfl, ?_⟩
    have c : ¬ nI (nE S) ≤ nI i := nI_ge hi (by omega)
    show b_X11_liked_36 (f_X11_liked_36 n) h x1 19 (lkB S i).1 (lkB S i).2 (nI i) = f_X11_liked_36 n h x1 19 (lkB S (i + 1)).1 (lkB S (i + 1)).2 (nI (i + 1))
    simp only [b_X11_liked_36, qst0 m19, r.s3, v3.1, if_neg c, likedC_in hS r v (show i < 4 by omega), lkB]
    by_cases q : (lkB S i).2 < lkS S i (nW S)
    · simp only [if_pos q]
    · simp only [if_neg q]
  · rintro n _ rfl
    show b_X11_liked_36 (f_X11_liked_36 n) h x1 19 (lkB S (nE S)).1 (lkB S (nE S)).2 (nI (nE S)) = _
    simp only [b_X11_liked_36, qst0 m19, r.s3, v3.1, if_pos (Int32.le_refl (nI (nE S)))]
    split <;> rfl
theorem likedR_in {h : aH} (hS : Str h) {S : Row} (eS : hI h 318 = S) (v : VS S) {e : Nat} (he : e < 4) (K : aH → Nat → Int32 → Int32 → Int32 → Int32 → Option (Int32 × aH)) (x1 x3 x4 : Int32) : f_X12_liked_45 K 2000 h 308 x1 x3 x4 (nI e) 0 0 = K h 308 x1 (if x4 < lkS S e (nW S) then nI e else x3) (if x4 < lkS S e (nW S) then lkS S e (nW S) else x4) (nI (e + 1)) := by
  have v4 := v.e4
  refine itLoop (σ := Int32 × Int32) (fun n s => f_X12_liked_45 K n h 308 x1 x3 x4 (nI e) s.1 s.2) (fun i s => s = (lkS S e i, nI i)) (fun o => o = K h 308 x1 (if x4 < lkS S e (nW S) then nI e else x3) (if x4 < lkS S e (nW S) then lkS S e (nW S) else x4) (nI (e + 1))) (nW S) ?_ ?_ 2000 0 (0, 0) rfl (by omega) (by omega)
  · rintro n i _ hi rfl
    refine Or.inr ⟨_, rfl, ?_⟩
    have c : ¬ nI (nW S) ≤ nI i := nI_ge hi (by omega)
    show b_X12_liked_45 K (f_X12_liked_45 K n) h 308 x1 x3 x4 (nI e) (lkS S e i) (nI i) = f_X12_liked_45 K n h 308 x1 x3 x4 (nI e) (lkS S e (i + 1)) (nI (i + 1))
    simp only [b_X12_liked_45, q_308, r_308_20 hS, Option.bind_some, q_318, if_pos in4, cl4, eS, v4.1, if_neg c, aLet, i94, if_pos (in318 (show 94 + 4 * e + i < 184 by omega)), nI_clamp (show 94 + 4 * e + i < 2 ^ 31 by omega), i1, lkS]
  · rintro n _ rfl
    show b_X12_liked_45 K (f_X12_liked_45 K n) h 308 x1 x3 x4 (nI e) (lkS S e (nW S)) (nI (nW S)) = _
    simp only [b_X12_liked_45, q_308, r_308_20 hS, Option.bind_some, q_318, if_pos in4, cl4, eS, v4.1, if_pos (Int32.le_refl (nI (nW S))), b_X12_liked_97, i1]
    by_cases q : x4 < lkS S e (nW S)
    · simp only [if_pos q]
    · simp only [if_neg q]
theorem likedR {h : aH} (hS : Str h) {S : Row} (eS : hI h 318 = S) (v : VS S) (x1 : Int32) : f_X12_liked_28 2000 h 308 x1 (-2) (-2) 0 = some (if x1 = 0 then (lkB S (nE S)).1 else (lkB S (nE S)).2, h) := by
  have v3 := v.e3
  refine itLoop (σ := (Int32 × Int32) × Int32) (fun n s => f_X12_liked_28 n h 308 x1 s.1.1 s.1.2 s.2) (fun i s => s = (lkB S i, nI i)) (fun o => o = some (if x1 = 0 then (lkB S (nE S)).1 else (lkB S (nE S)).2, h)) (nE S) ?_ ?_ 2000 0 ((-2, -2), 0) rfl (by omega) (by omega)
  · rintro n i _ hi rfl
    refine Or.inr ⟨_, rfl, ?_⟩
    have c : ¬ nI (nE S) ≤ nI i := nI_ge hi (by omega)
    show b_X12_liked_28 (f_X12_liked_28 n) h 308 x1 (lkB S i).1 (lkB S i).2 (nI i) = f_X12_liked_28 n h 308 x1 (lkB S (i + 1)).1 (lkB S (i + 1)).2 (nI (i + 1))
    simp only [b_X12_liked_28, q_308, r_308_20 hS, Option.bind_some, q_318, if_pos in3, cl3, eS, v3.1, if_neg c, likedR_in hS eS v (show i < 4 by omega), lkB]
    by_cases q : (lkB S i).2 < lkS S i (nW S)
    · simp only [if_pos q]
    · simp only [if_neg q]
  · rintro n _ rfl
    show b_X12_liked_28 (f_X12_liked_28 n) h 308 x1 (lkB S (nE S)).1 (lkB S (nE S)).2 (nI (nE S)) = _
    simp only [b_X12_liked_28, q_308, r_308_20 hS, Option.bind_some, q_318, if_pos in3, cl3, eS, v3.1, if_pos (Int32.le_refl (nI (nE S)))]
    split <;> rfl
theorem op_liked : Op_liked Inv := by
  intro h hV x1
  have hS := hV.1
  have r : RSt h 19 (hI h 318) := hV.2.2.2.1.1
  have v : VS (hI h 318) := hV.2.2.2.1.2.1.1
  have n1 : ¬ (1 : Int32) = 0 := by decide
  have i1' : ∀ g, f_X12_in g x1.toInt64 0 1 = some (if 0 ≤ x1 ∧ x1 ≤ 1 then 1 else 0, g) := fun g => in_i (h := g) x1 0 1 (by decide) (by decide)
  rcases v.1 with z | z
  · refine ⟨-1, h, h, ?_, ?_, hV⟩
    · show f_X11_liked h 0 x1 = _
      simp only [f_X11_liked, q_0, r_0_5 hS, r_11_1 hS, Option.bind_some, q_11, qst0 m19, r.s0, z, if_true]
    · show f_X12_liked h 308 x1 = _
      simp only [f_X12_liked, q_308, isIsle_eq hS v, z, aBind_some, if_true]
  by_cases b : 0 ≤ x1 ∧ x1 ≤ 1
  · refine ⟨if x1 = 0 then (lkB (hI h 318) (nE (hI h 318))).1 else (lkB (hI h 318) (nE (hI h 318))).2, h, h, ?_, ?_, hV⟩
    · show f_X11_liked h 0 x1 = _
      simp only [f_X11_liked, q_0, r_0_5 hS, r_11_1 hS, Option.bind_some, q_11, qst0 m19, r.s0, z, if_neg n1, if_neg (Int32.not_lt.mpr b.1), if_pos b.2, likedC hS r v]
    · show f_X12_liked h 308 x1 = _
      simp only [f_X12_liked, q_308, isIsle_eq hS v, z, aBind_some, if_neg n1, i1', if_pos b, likedR hS rfl v]
  · refine ⟨-1, h, h, ?_, ?_, hV⟩
    · show f_X11_liked h 0 x1 = _
      simp only [f_X11_liked, q_0, r_0_5 hS, r_11_1 hS, Option.bind_some, q_11, qst0 m19, r.s0, z, if_neg n1]
      by_cases c : x1 < 0
      · rw [if_pos c]
      · rw [if_neg c, if_neg (fun q => b ⟨Int32.not_lt.mp c, q⟩)]
    · show f_X12_liked h 308 x1 = _
      simp only [f_X12_liked, q_308, isIsle_eq hS v, z, aBind_some, if_neg n1, i1', if_neg b, if_true]
