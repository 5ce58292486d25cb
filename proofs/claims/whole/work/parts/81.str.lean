/-! ===== LEVEL 3: the heap's refs stand; what a change leaves ===== -/
def rfL : List (Nat × Nat × Nat) := [(0, 0, 1), (0, 1, 3), (0, 2, 4), (0, 3, 10), (0, 5, 11), (0, 6, 29), (0, 7, 30), (0, 10, 31), (0, 11, 38), (0, 12, 45), (0, 13, 53), (0, 14, 57), (1, 0, 2), (3, 0, 1), (4, 0, 1), (5, 0, 6), (5, 1, 7), (5, 2, 8), (5, 3, 9), (10, 0, 66), (10, 1, 71), (10, 2, 76), (10, 3, 81), (10, 4, 86), (10, 5, 91), (11, 0, 12), (11, 1, 19), (11, 2, 26), (11, 3, 27), (11, 4, 28), (12, 7, 13), (12, 8, 14), (12, 9, 15), (12, 10, 16), (12, 11, 17), (12, 12, 18), (19, 7, 20), (19, 8, 21), (19, 9, 22), (19, 10, 23), (19, 11, 24), (19, 12, 25), (29, 0, 96), (29, 1, 114), (29, 2, 132), (29, 3, 150), (30, 0, 168), (30, 1, 175), (30, 2, 182), (30, 3, 189), (30, 4, 196), (30, 5, 203), (30, 6, 210), (30, 7, 217), (30, 8, 224), (30, 9, 231), (30, 10, 238), (30, 11, 245), (30, 12, 252), (30, 13, 259), (30, 14, 266), (30, 15, 273), (30, 16, 280), (30, 17, 287), (30, 18, 294), (30, 19, 301), (31, 7, 32), (31, 8, 33), (31, 9, 34), (31, 10, 35), (31, 11, 36), (31, 12, 37), (38, 0, 39), (38, 1, 42), (38, 2, 43), (38, 3, 44), (39, 0, 40), (39, 1, 41), (45, 0, 38), (45, 1, 46), (46, 7, 47), (46, 8, 48), (46, 9, 49), (46, 10, 50), (46, 11, 51), (46, 12, 52), (53, 0, 54), (53, 1, 55), (53, 2, 56), (57, 0, 38), (57, 1, 58), (57, 2, 65), (58, 7, 59), (58, 8, 60), (58, 9, 61), (58, 10, 62), (58, 11, 63), (58, 12, 64), (66, 0, 67), (66, 1, 68), (66, 2, 69), (66, 3, 70), (71, 0, 72), (71, 1, 73), (71, 2, 74), (71, 3, 75), (76, 0, 77), (76, 1, 78), (76, 2, 79), (76, 3, 80), (81, 0, 82), (81, 1, 83), (81, 2, 84), (81, 3, 85), (86, 0, 87), (86, 1, 88), (86, 2, 89), (86, 3, 90), (91, 0, 92), (91, 1, 93), (91, 2, 94), (91, 3, 95), (96, 0, 97), (96, 1, 104), (96, 2, 111), (96, 3, 112), (96, 4, 113), (97, 7, 98), (97, 8, 99), (97, 9, 100), (97, 10, 101), (97, 11, 102), (97, 12, 103), (104, 7, 105), (104, 8, 106), (104, 9, 107), (104, 10, 108), (104, 11, 109), (104, 12, 110), (114, 0, 115), (114, 1, 122), (114, 2, 129), (114, 3, 130), (114, 4, 131), (115, 7, 116), (115, 8, 117), (115, 9, 118), (115, 10, 119), (115, 11, 120), (115, 12, 121), (122, 7, 123), (122, 8, 124), (122, 9, 125), (122, 10, 126), (122, 11, 127), (122, 12, 128), (132, 0, 133), (132, 1, 140), (132, 2, 147), (132, 3, 148), (132, 4, 149), (133, 7, 134), (133, 8, 135), (133, 9, 136), (133, 10, 137), (133, 11, 138), (133, 12, 139), (140, 7, 141), (140, 8, 142), (140, 9, 143), (140, 10, 144), (140, 11, 145), (140, 12, 146), (150, 0, 151), (150, 1, 158), (150, 2, 165), (150, 3, 166), (150, 4, 167), (151, 7, 152), (151, 8, 153), (151, 9, 154), (151, 10, 155), (151, 11, 156), (151, 12, 157), (158, 7, 159), (158, 8, 160), (158, 9, 161), (158, 10, 162), (158, 11, 163), (158, 12, 164), (168, 7, 169), (168, 8, 170), (168, 9, 171), (168, 10, 172), (168, 11, 173), (168, 12, 174), (175, 7, 176), (175, 8, 177), (175, 9, 178), (175, 10, 179), (175, 11, 180), (175, 12, 181), (182, 7, 183), (182, 8, 184), (182, 9, 185), (182, 10, 186), (182, 11, 187), (182, 12, 188), (189, 7, 190), (189, 8, 191), (189, 9, 192), (189, 10, 193), (189, 11, 194), (189, 12, 195), (196, 7, 197), (196, 8, 198), (196, 9, 199), (196, 10, 200), (196, 11, 201), (196, 12, 202), (203, 7, 204), (203, 8, 205), (203, 9, 206), (203, 10, 207), (203, 11, 208), (203, 12, 209), (210, 7, 211), (210, 8, 212), (210, 9, 213), (210, 10, 214), (210, 11, 215), (210, 12, 216), (217, 7, 218), (217, 8, 219), (217, 9, 220), (217, 10, 221), (217, 11, 222), (217, 12, 223), (224, 7, 225), (224, 8, 226), (224, 9, 227), (224, 10, 228), (224, 11, 229), (224, 12, 230), (231, 7, 232), (231, 8, 233), (231, 9, 234), (231, 10, 235), (231, 11, 236), (231, 12, 237), (238, 7, 239), (238, 8, 240), (238, 9, 241), (238, 10, 242), (238, 11, 243), (238, 12, 244), (245, 7, 246), (245, 8, 247), (245, 9, 248), (245, 10, 249), (245, 11, 250), (245, 12, 251), (252, 7, 253), (252, 8, 254), (252, 9, 255), (252, 10, 256), (252, 11, 257), (252, 12, 258), (259, 7, 260), (259, 8, 261), (259, 9, 262), (259, 10, 263), (259, 11, 264), (259, 12, 265), (266, 7, 267), (266, 8, 268), (266, 9, 269), (266, 10, 270), (266, 11, 271), (266, 12, 272), (273, 7, 274), (273, 8, 275), (273, 9, 276), (273, 10, 277), (273, 11, 278), (273, 12, 279), (280, 7, 281), (280, 8, 282), (280, 9, 283), (280, 10, 284), (280, 11, 285), (280, 12, 286), (287, 7, 288), (287, 8, 289), (287, 9, 290), (287, 10, 291), (287, 11, 292), (287, 12, 293), (294, 7, 295), (294, 8, 296), (294, 9, 297), (294, 10, 298), (294, 11, 299), (294, 12, 300), (301, 7, 302), (301, 8, 303), (301, 9, 304), (301, 10, 305), (301, 11, 306), (301, 12, 307), (308, 0, 309), (308, 3, 310), (308, 4, 311), (308, 5, 312), (308, 6, 313), (308, 7, 314), (308, 15, 315), (308, 17, 316), (308, 19, 317), (308, 20, 318), (308, 24, 319), (308, 25, 320), (308, 26, 321), (308, 27, 322), (308, 28, 323), (308, 30, 324), (308, 31, 325), (308, 32, 326), (308, 33, 327), (308, 34, 328), (308, 36, 329), (308, 37, 330), (308, 38, 331), (308, 39, 332)]
/-- the refs are those of the constructors, but for the rule that the reader of rules holds -/
def Str (h : aH) : Prop := h.1 = aNN ∧ ∀ q ∈ rfL, hR h q.1 q.2.1 = some q.2.2
theorem Str.at {h : aH} (hS : Str h) (a j b : Nat) (hm : (a, j, b) ∈ rfL) : hR h a j = some b := hS.2 (a, j, b) hm
def stL : List Nat := [12, 19, 31, 46, 58, 97, 104, 115, 122, 133, 140, 151, 158, 168, 175, 182, 189, 196, 203, 210, 217, 224, 231, 238, 245, 252, 259, 266, 273, 280, 287, 294, 301]
def wlL : List Nat := [11, 96, 114, 132, 150]
def rlL : List Nat := [5, 66, 71, 76, 81, 86, 91]
theorem st_sh : ∀ a ∈ stL, (sh a).1 = 15 ∧ sh (a + 1) = (0, 8) ∧ sh (a + 2) = (0, 8) ∧ sh (a + 3) = (0, 8) ∧ sh (a + 4) = (0, 4) ∧ sh (a + 5) = (0, 32) ∧ sh (a + 6) = (0, 32) := by decide +kernel
theorem st_rt : ∀ a ∈ stL, (a, 7, a + 1) ∈ rfL ∧ (a, 8, a + 2) ∈ rfL ∧ (a, 9, a + 3) ∈ rfL ∧ (a, 10, a + 4) ∈ rfL ∧ (a, 11, a + 5) ∈ rfL ∧ (a, 12, a + 6) ∈ rfL := by decide +kernel
theorem wl_sh : ∀ a ∈ wlL, (sh a).1 = 17 ∧ (a + 1) ∈ stL ∧ (a + 8) ∈ stL ∧ sh (a + 15) = (0, 10) ∧ sh (a + 16) = (0, 10) ∧ sh (a + 17) = (0, 10) := by decide +kernel
theorem wl_rt : ∀ a ∈ wlL, (a, 0, a + 1) ∈ rfL ∧ (a, 1, a + 8) ∈ rfL ∧ (a, 2, a + 15) ∈ rfL ∧ (a, 3, a + 16) ∈ rfL ∧ (a, 4, a + 17) ∈ rfL := by decide +kernel
theorem rl_sh : ∀ a ∈ rlL, (sh a).1 = 12 ∧ sh (a + 1) = (0, 256) ∧ sh (a + 2) = (0, 12) ∧ sh (a + 3) = (0, 12) ∧ sh (a + 4) = (0, 12) := by decide +kernel
theorem rl_rt : ∀ a ∈ rlL, (a, 0, a + 1) ∈ rfL ∧ (a, 1, a + 2) ∈ rfL ∧ (a, 2, a + 3) ∈ rfL ∧ (a, 3, a + 4) ∈ rfL := by decide +kernel
theorem rf_41 : ∀ q ∈ rfL, ¬ (q.1 = 4 ∧ q.2.1 = 1) := by decide +kernel
theorem Str.st {h : aH} (hS : Str h) {a : Nat} (ha : a ∈ stL) : hR h a 7 = some (a + 1) ∧ hR h a 8 = some (a + 2) ∧ hR h a 9 = some (a + 3) ∧ hR h a 10 = some (a + 4) ∧ hR h a 11 = some (a + 5) ∧ hR h a 12 = some (a + 6) := by
  obtain ⟨q2, q3, q4, q5, q6, q7⟩ := st_rt a ha
  exact ⟨hS.at _ _ _ q2, hS.at _ _ _ q3, hS.at _ _ _ q4, hS.at _ _ _ q5, hS.at _ _ _ q6, hS.at _ _ _ q7⟩
theorem Str.wl {h : aH} (hS : Str h) {a : Nat} (ha : a ∈ wlL) : hR h a 0 = some (a + 1) ∧ hR h a 1 = some (a + 8) ∧ hR h a 2 = some (a + 15) ∧ hR h a 3 = some (a + 16) ∧ hR h a 4 = some (a + 17) := by
  obtain ⟨q2, q3, q4, q5, q6⟩ := wl_rt a ha
  exact ⟨hS.at _ _ _ q2, hS.at _ _ _ q3, hS.at _ _ _ q4, hS.at _ _ _ q5, hS.at _ _ _ q6⟩
theorem Str.rl {h : aH} (hS : Str h) {a : Nat} (ha : a ∈ rlL) : hR h a 0 = some (a + 1) ∧ hR h a 1 = some (a + 2) ∧ hR h a 2 = some (a + 3) ∧ hR h a 3 = some (a + 4) := by
  obtain ⟨q2, q3, q4, q5⟩ := rl_rt a ha
  exact ⟨hS.at _ _ _ q2, hS.at _ _ _ q3, hS.at _ _ _ q4, hS.at _ _ _ q5⟩
/-- only the int and long rows of the cells in A change; refs stand but for the reader's rule -/
theorem st_308 : ∀ a ∈ stL, a ≠ 308 := by decide +kernel
def Upd (A : Nat → Prop) (h h' : aH) : Prop := (h'.1 = h.1 ∧ hL h' 308 = hL h 308) ∧ (∀ a j, ¬ (a = 4 ∧ j = 1) → hR h' a j = hR h a j) ∧ (∀ a, ¬ A a → hI h' a = hI h a) ∧ ∀ a, ¬ A a → hL h' a = hL h a
theorem Upd.rf {A : Nat → Prop} (h : aH) : Upd A h h := ⟨⟨rfl, rfl⟩, fun _ _ _ => rfl, fun _ _ => rfl, fun _ _ => rfl⟩
theorem Upd.tr {A : Nat → Prop} {h1 h2 h3 : aH} (a : Upd A h1 h2) (b : Upd A h2 h3) : Upd A h1 h3 := ⟨⟨b.1.1.trans a.1.1, b.1.2.trans a.1.2⟩, fun x j n => (b.2.1 x j n).trans (a.2.1 x j n), fun x n => (b.2.2.1 x n).trans (a.2.2.1 x n), fun x n => (b.2.2.2 x n).trans (a.2.2.2 x n)⟩
theorem Upd.mono {A B : Nat → Prop} {h h' : aH} (a : Upd A h h') (hab : ∀ x, A x → B x) : Upd B h h' := ⟨a.1, a.2.1, fun x n => a.2.2.1 x (fun q => n (hab x q)), fun x n => a.2.2.2 x (fun q => n (hab x q))⟩
theorem Upd.wI {A : Nat → Prop} {h : aH} {a : Nat} {f : Nat → Int32} (ha : A a) : Upd A h (wI h a f) := ⟨⟨rfl, rfl⟩, fun _ _ _ => rfl, fun x n => by rw [hI_wI, if_neg (fun q => n (by rw [q]; exact ha))], fun _ _ => rfl⟩
theorem Upd.wL {A : Nat → Prop} {h : aH} {a : Nat} {f : Nat → Int64} (ha : A a) (hn : a ≠ 308 := by first | decide | omega | exact st_308 _ (by assumption)) : Upd A h (wL h a f) := ⟨⟨rfl, by rw [hL_wL, if_neg (fun q => hn q.symm)]⟩, fun _ _ _ => rfl, fun _ _ => rfl, fun x n => by rw [hL_wL, if_neg (fun q => n (by rw [q]; exact ha))]⟩
theorem Upd.pI {A : Nat → Prop} {h : aH} {a i : Nat} {x : Int32} (ha : A a) : Upd A h (pI h a i x) := Upd.wI ha
theorem Upd.pL {A : Nat → Prop} {h : aH} {a i : Nat} {x : Int64} (ha : A a) (hn : a ≠ 308 := by first | decide | omega | exact st_308 _ (by assumption)) : Upd A h (pL h a i x) := Upd.wL ha hn
theorem Upd.str {A : Nat → Prop} {h h' : aH} (u : Upd A h h') (hS : Str h) : Str h' := ⟨u.1.1.trans hS.1, fun q hq => (u.2.1 q.1 q.2.1 (rf_41 q hq)).trans (hS.2 q hq)⟩
theorem hI_pI (h : aH) (a i : Nat) (x : Int32) (b : Nat) : hI (pI h a i x) b = if b = a then upd (hI h a) i x else hI h b := rfl
theorem hL_pI (h : aH) (a i : Nat) (x : Int32) (b : Nat) : hL (pI h a i x) b = hL h b := rfl
theorem hR_pI (h : aH) (a i : Nat) (x : Int32) (b : Nat) : hR (pI h a i x) b = hR h b := rfl
theorem hI_pL (h : aH) (a i : Nat) (x : Int64) (b : Nat) : hI (pL h a i x) b = hI h b := rfl
theorem hR_pL (h : aH) (a i : Nat) (x : Int64) (b : Nat) : hR (pL h a i x) b = hR h b := rfl
theorem hL_pL (h : aH) (a i : Nat) (x : Int64) (b : Nat) : hL (pL h a i x) b = if b = a then vp_updL (hL h a) i x else hL h b := rfl
theorem aBind_some {ρ τ : Type} {r : τ} {h' : aH} {f : τ → aH → Option (ρ × aH)} : aBind (some (r, h')) f = f r h' := rfl
/-- the class's cells, the reference's cells -/
abbrev inC : Nat → Prop := fun a => a < 308
abbrev inR : Nat → Prop := fun a => 308 ≤ a
theorem sh_0 : sh 0 = (18, 15) := by decide
theorem sh_1 : sh 1 = (16, 4) := by decide
theorem sh_2 : sh 2 = (1, 400) := by decide
theorem sh_3 : sh 3 = (9, 1) := by decide
theorem sh_4 : sh 4 = (13, 3) := by decide
theorem sh_5 : sh 5 = (12, 6) := by decide
theorem sh_10 : sh 10 = (4, 6) := by decide
theorem sh_11 : sh 11 = (17, 9) := by decide
theorem sh_29 : sh 29 = (6, 4) := by decide
theorem sh_30 : sh 30 = (5, 20) := by decide
theorem sh_31 : sh 31 = (15, 13) := by decide
theorem sh_38 : sh 38 = (7, 4) := by decide
theorem sh_39 : sh 39 = (10, 2) := by decide
theorem sh_40 : sh 40 = (3, 11) := by decide
theorem sh_41 : sh 41 = (3, 64) := by decide
theorem sh_42 : sh 42 = (0, 4) := by decide
theorem sh_43 : sh 43 = (0, 4) := by decide
theorem sh_44 : sh 44 = (0, 4) := by decide
theorem sh_45 : sh 45 = (8, 7) := by decide
theorem sh_53 : sh 53 = (14, 5) := by decide
theorem sh_54 : sh 54 = (0, 4) := by decide
theorem sh_55 : sh 55 = (0, 4) := by decide
theorem sh_56 : sh 56 = (0, 4) := by decide
theorem sh_57 : sh 57 = (11, 9) := by decide
theorem sh_65 : sh 65 = (0, 28) := by decide
theorem sh_308 : sh 308 = (19, 40) := by decide
theorem sh_309 : sh 309 = (1, 400) := by decide
theorem sh_310 : sh 310 = (0, 2400) := by decide
theorem sh_311 : sh 311 = (0, 7) := by decide
theorem sh_312 : sh 312 = (0, 288) := by decide
theorem sh_313 : sh 313 = (0, 6) := by decide
theorem sh_314 : sh 314 = (0, 153) := by decide
theorem sh_315 : sh 315 = (0, 400) := by decide
theorem sh_316 : sh 316 = (3, 64) := by decide
theorem sh_317 : sh 317 = (3, 11) := by decide
theorem sh_318 : sh 318 = (0, 184) := by decide
theorem sh_319 : sh 319 = (0, 4) := by decide
theorem sh_320 : sh 320 = (0, 4) := by decide
theorem sh_321 : sh 321 = (2, 4) := by decide
theorem sh_322 : sh 322 = (0, 4) := by decide
theorem sh_323 : sh 323 = (0, 1360) := by decide
theorem sh_324 : sh 324 = (0, 68) := by decide
theorem sh_325 : sh 325 = (0, 4) := by decide
theorem sh_326 : sh 326 = (0, 4) := by decide
theorem sh_327 : sh 327 = (2, 7) := by decide
theorem sh_328 : sh 328 = (0, 28) := by decide
theorem sh_329 : sh 329 = (0, 736) := by decide
theorem sh_330 : sh 330 = (0, 4) := by decide
theorem sh_331 : sh 331 = (0, 4) := by decide
theorem sh_332 : sh 332 = (2, 4) := by decide
