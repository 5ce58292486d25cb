/-! ===== LEVEL 3: the heap's refs stand; what a change leaves ===== -/
def rtL : List (List (Option Nat)) := [[some 1, some 3, some 4, some 10, none, some 11, some 29, some 30, none, none, some 31, some 38, some 45, some 53, some 57], [some 2], [], [some 1], [some 1, some 5], [some 6, some 7, some 8, some 9], [], [], [], [], [some 66, some 71, some 76, some 81, some 86, some 91], [some 12, some 19, some 26, some 27, some 28], [none, none, none, none, none, none, none, some 13, some 14, some 15, some 16, some 17, some 18], [], [], [], [], [], [], [none, none, none, none, none, none, none, some 20, some 21, some 22, some 23, some 24, some 25], [], [], [], [], [], [], [], [], [], [some 96, some 114, some 132, some 150], [some 168, some 175, some 182, some 189, some 196, some 203, some 210, some 217, some 224, some 231, some 238, some 245, some 252, some 259, some 266, some 273, some 280, some 287, some 294, some 301], [none, none, none, none, none, none, none, some 32, some 33, some 34, some 35, some 36, some 37], [], [], [], [], [], [], [some 39, some 42, some 43, some 44], [some 40, some 41], [], [], [], [], [], [some 38, some 46], [none, none, none, none, none, none, none, some 47, some 48, some 49, some 50, some 51, some 52], [], [], [], [], [], [], [some 54, some 55, some 56], [], [], [], [some 38, some 58, some 65], [none, none, none, none, none, none, none, some 59, some 60, some 61, some 62, some 63, some 64], [], [], [], [], [], [], [], [some 67, some 68, some 69, some 70], [], [], [], [], [some 72, some 73, some 74, some 75], [], [], [], [], [some 77, some 78, some 79, some 80], [], [], [], [], [some 82, some 83, some 84, some 85], [], [], [], [], [some 87, some 88, some 89, some 90], [], [], [], [], [some 92, some 93, some 94, some 95], [], [], [], [], [some 97, some 104, some 111, some 112, some 113], [none, none, none, none, none, none, none, some 98, some 99, some 100, some 101, some 102, some 103], [], [], [], [], [], [], [none, none, none, none, none, none, none, some 105, some 106, some 107, some 108, some 109, some 110], [], [], [], [], [], [], [], [], [], [some 115, some 122, some 129, some 130, some 131], [none, none, none, none, none, none, none, some 116, some 117, some 118, some 119, some 120, some 121], [], [], [], [], [], [], [none, none, none, none, none, none, none, some 123, some 124, some 125, some 126, some 127, some 128], [], [], [], [], [], [], [], [], [], [some 133, some 140, some 147, some 148, some 149], [none, none, none, none, none, none, none, some 134, some 135, some 136, some 137, some 138, some 139], [], [], [], [], [], [], [none, none, none, none, none, none, none, some 141, some 142, some 143, some 144, some 145, some 146], [], [], [], [], [], [], [], [], [], [some 151, some 158, some 165, some 166, some 167], [none, none, none, none, none, none, none, some 152, some 153, some 154, some 155, some 156, some 157], [], [], [], [], [], [], [none, none, none, none, none, none, none, some 159, some 160, some 161, some 162, some 163, some 164], [], [], [], [], [], [], [], [], [], [none, none, none, none, none, none, none, some 169, some 170, some 171, some 172, some 173, some 174], [], [], [], [], [], [], [none, none, none, none, none, none, none, some 176, some 177, some 178, some 179, some 180, some 181], [], [], [], [], [], [], [none, none, none, none, none, none, none, some 183, some 184, some 185, some 186, some 187, some 188], [], [], [], [], [], [], [none, none, none, none, none, none, none, some 190, some 191, some 192, some 193, some 194, some 195], [], [], [], [], [], [], [none, none, none, none, none, none, none, some 197, some 198, some 199, some 200, some 201, some 202], [], [], [], [], [], [], [none, none, none, none, none, none, none, some 204, some 205, some 206, some 207, some 208, some 209], [], [], [], [], [], [], [none, none, none, none, none, none, none, some 211, some 212, some 213, some 214, some 215, some 216], [], [], [], [], [], [], [none, none, none, none, none, none, none, some 218, some 219, some 220, some 221, some 222, some 223], [], [], [], [], [], [], [none, none, none, none, none, none, none, some 225, some 226, some 227, some 228, some 229, some 230], [], [], [], [], [], [], [none, none, none, none, none, none, none, some 232, some 233, some 234, some 235, some 236, some 237], [], [], [], [], [], [], [none, none, none, none, none, none, none, some 239, some 240, some 241, some 242, some 243, some 244], [], [], [], [], [], [], [none, none, none, none, none, none, none, some 246, some 247, some 248, some 249, some 250, some 251], [], [], [], [], [], [], [none, none, none, none, none, none, none, some 253, some 254, some 255, some 256, some 257, some 258], [], [], [], [], [], [], [none, none, none, none, none, none, none, some 260, some 261, some 262, some 263, some 264, some 265], [], [], [], [], [], [], [none, none, none, none, none, none, none, some 267, some 268, some 269, some 270, some 271, some 272], [], [], [], [], [], [], [none, none, none, none, none, none, none, some 274, some 275, some 276, some 277, some 278, some 279], [], [], [], [], [], [], [none, none, none, none, none, none, none, some 281, some 282, some 283, some 284, some 285, some 286], [], [], [], [], [], [], [none, none, none, none, none, none, none, some 288, some 289, some 290, some 291, some 292, some 293], [], [], [], [], [], [], [none, none, none, none, none, none, none, some 295, some 296, some 297, some 298, some 299, some 300], [], [], [], [], [], [], [none, none, none, none, none, none, none, some 302, some 303, some 304, some 305, some 306, some 307], [], [], [], [], [], [], [some 309, none, none, some 310, some 311, some 312, some 313, some 314, none, none, none, none, none, none, none, some 315, none, some 316, none, some 317, some 318, none, none, none, some 319, some 320, some 321, some 322, some 323, none, some 324, some 325, some 326, some 327, some 328, none, some 329, some 330, some 331, some 332], [], [], [], [], [], [], [], [], [], [], [], [], [], [], [], [], [], [], [], [], [], [], [], []]
def rt (a j : Nat) : Option Nat := (rtL.getD a []).getD j none
/-- the refs are those of the constructors, but for the rule that the reader of rules holds -/
def Str (h : aH) : Prop := h.1 = aNN ∧ ∀ a, a < 333 → ∀ j, j < 40 → ¬ (a = 4 ∧ j = 1) → hR h a j = rt a j
theorem Str.at {h : aH} (hS : Str h) (a j b : Nat) (ha : a < 333) (hj : j < 40) (hn : ¬ (a = 4 ∧ j = 1)) (hb : rt a j = some b) : hR h a j = some b := (hS.2 a ha j hj hn).trans hb
def stL : List Nat := [12, 19, 31, 46, 58, 97, 104, 115, 122, 133, 140, 151, 158, 168, 175, 182, 189, 196, 203, 210, 217, 224, 231, 238, 245, 252, 259, 266, 273, 280, 287, 294, 301]
def wlL : List Nat := [11, 96, 114, 132, 150]
def rlL : List Nat := [5, 66, 71, 76, 81, 86, 91]
theorem st_sh : ∀ a ∈ stL, (sh a).1 = 15 ∧ sh (a + 1) = (0, 8) ∧ sh (a + 2) = (0, 8) ∧ sh (a + 3) = (0, 8) ∧ sh (a + 4) = (0, 4) ∧ sh (a + 5) = (0, 32) ∧ sh (a + 6) = (0, 32) := by decide +kernel
theorem st_rt : ∀ a ∈ stL, a < 333 ∧ a ≠ 4 ∧ rt a 7 = some (a + 1) ∧ rt a 8 = some (a + 2) ∧ rt a 9 = some (a + 3) ∧ rt a 10 = some (a + 4) ∧ rt a 11 = some (a + 5) ∧ rt a 12 = some (a + 6) := by decide +kernel
theorem wl_sh : ∀ a ∈ wlL, (sh a).1 = 17 ∧ (a + 1) ∈ stL ∧ (a + 8) ∈ stL ∧ sh (a + 15) = (0, 10) ∧ sh (a + 16) = (0, 10) ∧ sh (a + 17) = (0, 10) := by decide +kernel
theorem wl_rt : ∀ a ∈ wlL, a < 333 ∧ a ≠ 4 ∧ rt a 0 = some (a + 1) ∧ rt a 1 = some (a + 8) ∧ rt a 2 = some (a + 15) ∧ rt a 3 = some (a + 16) ∧ rt a 4 = some (a + 17) := by decide +kernel
theorem rl_sh : ∀ a ∈ rlL, (sh a).1 = 12 ∧ sh (a + 1) = (0, 256) ∧ sh (a + 2) = (0, 12) ∧ sh (a + 3) = (0, 12) ∧ sh (a + 4) = (0, 12) := by decide +kernel
theorem rl_rt : ∀ a ∈ rlL, a < 333 ∧ a ≠ 4 ∧ rt a 0 = some (a + 1) ∧ rt a 1 = some (a + 2) ∧ rt a 2 = some (a + 3) ∧ rt a 3 = some (a + 4) := by decide +kernel
theorem Str.st {h : aH} (hS : Str h) {a : Nat} (ha : a ∈ stL) : hR h a 7 = some (a + 1) ∧ hR h a 8 = some (a + 2) ∧ hR h a 9 = some (a + 3) ∧ hR h a 10 = some (a + 4) ∧ hR h a 11 = some (a + 5) ∧ hR h a 12 = some (a + 6) := by
  obtain ⟨q0, q1, q2, q3, q4, q5, q6, q7⟩ := st_rt a ha
  exact ⟨hS.at _ _ _ q0 (by decide) (fun z => q1 z.1) q2, hS.at _ _ _ q0 (by decide) (fun z => q1 z.1) q3, hS.at _ _ _ q0 (by decide) (fun z => q1 z.1) q4, hS.at _ _ _ q0 (by decide) (fun z => q1 z.1) q5, hS.at _ _ _ q0 (by decide) (fun z => q1 z.1) q6, hS.at _ _ _ q0 (by decide) (fun z => q1 z.1) q7⟩
theorem Str.wl {h : aH} (hS : Str h) {a : Nat} (ha : a ∈ wlL) : hR h a 0 = some (a + 1) ∧ hR h a 1 = some (a + 8) ∧ hR h a 2 = some (a + 15) ∧ hR h a 3 = some (a + 16) ∧ hR h a 4 = some (a + 17) := by
  obtain ⟨q0, q1, q2, q3, q4, q5, q6⟩ := wl_rt a ha
  exact ⟨hS.at _ _ _ q0 (by decide) (fun z => q1 z.1) q2, hS.at _ _ _ q0 (by decide) (fun z => q1 z.1) q3, hS.at _ _ _ q0 (by decide) (fun z => q1 z.1) q4, hS.at _ _ _ q0 (by decide) (fun z => q1 z.1) q5, hS.at _ _ _ q0 (by decide) (fun z => q1 z.1) q6⟩
theorem Str.rl {h : aH} (hS : Str h) {a : Nat} (ha : a ∈ rlL) : hR h a 0 = some (a + 1) ∧ hR h a 1 = some (a + 2) ∧ hR h a 2 = some (a + 3) ∧ hR h a 3 = some (a + 4) := by
  obtain ⟨q0, q1, q2, q3, q4, q5⟩ := rl_rt a ha
  exact ⟨hS.at _ _ _ q0 (by decide) (fun z => q1 z.1) q2, hS.at _ _ _ q0 (by decide) (fun z => q1 z.1) q3, hS.at _ _ _ q0 (by decide) (fun z => q1 z.1) q4, hS.at _ _ _ q0 (by decide) (fun z => q1 z.1) q5⟩
/-- only the int and long rows of the cells in A change; refs stand but for the reader's rule -/
def Upd (A : Nat → Prop) (h h' : aH) : Prop := h'.1 = h.1 ∧ (∀ a j, ¬ (a = 4 ∧ j = 1) → hR h' a j = hR h a j) ∧ (∀ a, ¬ A a → hI h' a = hI h a) ∧ ∀ a, ¬ A a → hL h' a = hL h a
theorem Upd.rf {A : Nat → Prop} (h : aH) : Upd A h h := ⟨rfl, fun _ _ _ => rfl, fun _ _ => rfl, fun _ _ => rfl⟩
theorem Upd.tr {A : Nat → Prop} {h1 h2 h3 : aH} (a : Upd A h1 h2) (b : Upd A h2 h3) : Upd A h1 h3 := ⟨b.1.trans a.1, fun x j n => (b.2.1 x j n).trans (a.2.1 x j n), fun x n => (b.2.2.1 x n).trans (a.2.2.1 x n), fun x n => (b.2.2.2 x n).trans (a.2.2.2 x n)⟩
theorem Upd.mono {A B : Nat → Prop} {h h' : aH} (a : Upd A h h') (hab : ∀ x, A x → B x) : Upd B h h' := ⟨a.1, a.2.1, fun x n => a.2.2.1 x (fun q => n (hab x q)), fun x n => a.2.2.2 x (fun q => n (hab x q))⟩
theorem Upd.wI {A : Nat → Prop} {h : aH} {a : Nat} {f : Nat → Int32} (ha : A a) : Upd A h (wI h a f) := ⟨rfl, fun _ _ _ => rfl, fun x n => by rw [hI_wI, if_neg (fun q => n (by rw [q]; exact ha))], fun _ _ => rfl⟩
theorem Upd.wL {A : Nat → Prop} {h : aH} {a : Nat} {f : Nat → Int64} (ha : A a) : Upd A h (wL h a f) := ⟨rfl, fun _ _ _ => rfl, fun _ _ => rfl, fun x n => by rw [hL_wL, if_neg (fun q => n (by rw [q]; exact ha))]⟩
theorem Upd.pI {A : Nat → Prop} {h : aH} {a i : Nat} {x : Int32} (ha : A a) : Upd A h (pI h a i x) := Upd.wI ha
theorem Upd.pL {A : Nat → Prop} {h : aH} {a i : Nat} {x : Int64} (ha : A a) : Upd A h (pL h a i x) := Upd.wL ha
theorem Upd.str {A : Nat → Prop} {h h' : aH} (u : Upd A h h') (hS : Str h) : Str h' := ⟨u.1.trans hS.1, fun a ha j hj n => (u.2.1 a j n).trans (hS.2 a ha j hj n)⟩
theorem hI_pI (h : aH) (a i : Nat) (x : Int32) (b : Nat) : hI (pI h a i x) b = if b = a then upd (hI h a) i x else hI h b := rfl
theorem hL_pI (h : aH) (a i : Nat) (x : Int32) (b : Nat) : hL (pI h a i x) b = hL h b := rfl
theorem hR_pI (h : aH) (a i : Nat) (x : Int32) (b : Nat) : hR (pI h a i x) b = hR h b := rfl
theorem hI_pL (h : aH) (a i : Nat) (x : Int64) (b : Nat) : hI (pL h a i x) b = hI h b := rfl
theorem hR_pL (h : aH) (a i : Nat) (x : Int64) (b : Nat) : hR (pL h a i x) b = hR h b := rfl
theorem hL_pL (h : aH) (a i : Nat) (x : Int64) (b : Nat) : hL (pL h a i x) b = if b = a then vp_updL (hL h a) i x else hL h b := rfl
theorem aBind_some {ρ τ : Type} {r : τ} {h' : aH} {f : τ → aH → Option (ρ × aH)} : aBind (some (r, h')) f = f r h' := rfl
/-- the class's cells, the reference's cells -/
abbrev inC : Nat → Prop := fun a => a < 308
abbrev inR : Nat → Prop := fun a => 308 ≤ a
theorem sh_0 : sh 0 = (18, 15) := by decide
theorem sh_1 : sh 1 = (16, 4) := by decide
theorem sh_2 : sh 2 = (1, 400) := by decide
theorem sh_3 : sh 3 = (9, 1) := by decide
theorem sh_4 : sh 4 = (13, 3) := by decide
theorem sh_5 : sh 5 = (12, 6) := by decide
theorem sh_10 : sh 10 = (4, 6) := by decide
theorem sh_11 : sh 11 = (17, 9) := by decide
theorem sh_29 : sh 29 = (6, 4) := by decide
theorem sh_30 : sh 30 = (5, 20) := by decide
theorem sh_31 : sh 31 = (15, 13) := by decide
theorem sh_38 : sh 38 = (7, 4) := by decide
theorem sh_39 : sh 39 = (10, 2) := by decide
theorem sh_40 : sh 40 = (3, 11) := by decide
theorem sh_41 : sh 41 = (3, 64) := by decide
theorem sh_42 : sh 42 = (0, 4) := by decide
theorem sh_43 : sh 43 = (0, 4) := by decide
theorem sh_44 : sh 44 = (0, 4) := by decide
theorem sh_45 : sh 45 = (8, 7) := by decide
theorem sh_53 : sh 53 = (14, 5) := by decide
theorem sh_54 : sh 54 = (0, 4) := by decide
theorem sh_55 : sh 55 = (0, 4) := by decide
theorem sh_56 : sh 56 = (0, 4) := by decide
theorem sh_57 : sh 57 = (11, 9) := by decide
theorem sh_65 : sh 65 = (0, 28) := by decide
theorem sh_308 : sh 308 = (19, 40) := by decide
theorem sh_309 : sh 309 = (1, 400) := by decide
theorem sh_310 : sh 310 = (0, 2400) := by decide
theorem sh_311 : sh 311 = (0, 7) := by decide
theorem sh_312 : sh 312 = (0, 288) := by decide
theorem sh_313 : sh 313 = (0, 6) := by decide
theorem sh_314 : sh 314 = (0, 153) := by decide
theorem sh_315 : sh 315 = (0, 400) := by decide
theorem sh_316 : sh 316 = (3, 64) := by decide
theorem sh_317 : sh 317 = (3, 11) := by decide
theorem sh_318 : sh 318 = (0, 184) := by decide
theorem sh_319 : sh 319 = (0, 4) := by decide
theorem sh_320 : sh 320 = (0, 4) := by decide
theorem sh_321 : sh 321 = (2, 4) := by decide
theorem sh_322 : sh 322 = (0, 4) := by decide
theorem sh_323 : sh 323 = (0, 1360) := by decide
theorem sh_324 : sh 324 = (0, 68) := by decide
theorem sh_325 : sh 325 = (0, 4) := by decide
theorem sh_326 : sh 326 = (0, 4) := by decide
theorem sh_327 : sh 327 = (2, 7) := by decide
theorem sh_328 : sh 328 = (0, 28) := by decide
theorem sh_329 : sh 329 = (0, 736) := by decide
theorem sh_330 : sh 330 = (0, 4) := by decide
theorem sh_331 : sh 331 = (0, 4) := by decide
theorem sh_332 : sh 332 = (2, 4) := by decide
