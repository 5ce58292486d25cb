/-! ===== isle: the reference's clause, by its word ===== -/
theorem line_0 {h g : aH} {r : Bool} {x : Int32} (x0 : f_X12_isWord h 308 1769172069 = some (1, h)) (f1 : f_X12_isIsleHere h 308 x = some (bB r, g)) : f_X12_isleLineHere h 308 x = some (bB r, g) := by
  unfold f_X12_isleLineHere
  rw [q_308, x0, aBind_some, if_neg (show ¬ (1 : Int32) = 0 by decide), f1, aBind_some, if_pos (bB01 r)]
theorem line_n {h : aH} (hS : Str h) {x : Int32} (x0 : f_X12_isWord h 308 1769172069 = some (0, h)) (n0 : hI h 314 0 = 0) {g : aH} (f1 : f_X12_fails h 308 4 x = some (0, g)) : f_X12_isleLineHere h 308 x = some (0, g) := by
  unfold f_X12_isleLineHere
  have i0 : aIn 0 (sh 314).2 := in_314 (k := 0) (by decide)
  rw [q_308, x0, aBind_some, if_pos rfl, r_308_7 hS, Option.bind_some, q_314, if_pos i0, if_pos (show hI h 314 (Int32.toNatClampNeg 0) = 0 by rw [z_clamp]; exact n0), f1, aBind_some, if_pos (Or.inl rfl)]
theorem line_1 {h g : aH} (hS : Str h) {r : Bool} {x : Int32} (x0 : f_X12_isWord h 308 1769172069 = some (0, h)) (n0 : ¬ hI h 314 0 = 0) (x1 : f_X12_isWord h 308 1700885364 = some (1, h)) (f1 : f_X12_isOneHere h 308 0 x = some (bB r, g)) : f_X12_isleLineHere h 308 x = some (bB r, g) := by
  unfold f_X12_isleLineHere
  have i0 : aIn 0 (sh 314).2 := in_314 (k := 0) (by decide)
  rw [q_308, x0, aBind_some, if_pos rfl, r_308_7 hS, Option.bind_some, q_314, if_pos i0, if_neg (show ¬ hI h 314 (Int32.toNatClampNeg 0) = 0 by rw [z_clamp]; exact n0), x1, aBind_some, if_neg (show ¬ (1 : Int32) = 0 by decide), f1, aBind_some, if_pos (bB01 r)]
theorem line_2 {h g : aH} (hS : Str h) {r : Bool} {x : Int32} (x0 : f_X12_isWord h 308 1769172069 = some (0, h)) (n0 : ¬ hI h 314 0 = 0) (x1 : f_X12_isWord h 308 1700885364 = some (0, h)) (x2 : f_X12_isWord h 308 2003137396 = some (1, h)) (f1 : f_X12_isOneHere h 308 1 x = some (bB r, g)) : f_X12_isleLineHere h 308 x = some (bB r, g) := by
  unfold f_X12_isleLineHere
  have i0 : aIn 0 (sh 314).2 := in_314 (k := 0) (by decide)
  rw [q_308, x0, aBind_some, if_pos rfl, r_308_7 hS, Option.bind_some, q_314, if_pos i0, if_neg (show ¬ hI h 314 (Int32.toNatClampNeg 0) = 0 by rw [z_clamp]; exact n0), x1, aBind_some, if_pos rfl, x2, aBind_some, if_neg (show ¬ (1 : Int32) = 0 by decide), f1, aBind_some, if_pos (bB01 r)]
theorem line_5 {h g : aH} (hS : Str h) {r : Bool} {x : Int32} (x0 : f_X12_isWord h 308 1769172069 = some (0, h)) (n0 : ¬ hI h 314 0 = 0) (x1 : f_X12_isWord h 308 1700885364 = some (0, h)) (x2 : f_X12_isWord h 308 2003137396 = some (0, h)) (x5 : f_X12_isWord h 308 1818326117 = some (1, h)) (f1 : f_X12_isLateHere h 308 = some (bB r, g)) : f_X12_isleLineHere h 308 x = some (bB r, g) := by
  unfold f_X12_isleLineHere
  have i0 : aIn 0 (sh 314).2 := in_314 (k := 0) (by decide)
  rw [q_308, x0, aBind_some, if_pos rfl, r_308_7 hS, Option.bind_some, q_314, if_pos i0, if_neg (show ¬ hI h 314 (Int32.toNatClampNeg 0) = 0 by rw [z_clamp]; exact n0), x1, aBind_some, if_pos rfl, x2, aBind_some, if_pos rfl, x5, aBind_some, if_neg (show ¬ (1 : Int32) = 0 by decide), f1, aBind_some, if_pos (bB01 r)]
theorem line_3 {h g : aH} (hS : Str h) {r : Bool} {x : Int32} (x0 : f_X12_isWord h 308 1769172069 = some (0, h)) (n0 : ¬ hI h 314 0 = 0) (x1 : f_X12_isWord h 308 1700885364 = some (0, h)) (x2 : f_X12_isWord h 308 2003137396 = some (0, h)) (x5 : f_X12_isWord h 308 1818326117 = some (0, h)) (x3 : f_X12_isWord h 308 495622385011 = some (1, h)) (f1 : f_X12_areLikesHere h 308 110 = some (bB r, g)) : f_X12_isleLineHere h 308 x = some (bB r, g) := by
  unfold f_X12_isleLineHere b_X12_isleLineHere_99
  have i0 : aIn 0 (sh 314).2 := in_314 (k := 0) (by decide)
  rw [q_308, x0, aBind_some, if_pos rfl, r_308_7 hS, Option.bind_some, q_314, if_pos i0, if_neg (show ¬ hI h 314 (Int32.toNatClampNeg 0) = 0 by rw [z_clamp]; exact n0), x1, aBind_some, if_pos rfl, x2, aBind_some, if_pos rfl, x5, aBind_some, if_pos rfl, x3, aBind_some, if_neg (show ¬ (1 : Int32) = 0 by decide), q_308, f1, aBind_some, if_pos (bB01 r)]
theorem line_4 {h g : aH} (hS : Str h) {r : Bool} {x : Int32} (x0 : f_X12_isWord h 308 1769172069 = some (0, h)) (n0 : ¬ hI h 314 0 = 0) (x1 : f_X12_isWord h 308 1700885364 = some (0, h)) (x2 : f_X12_isWord h 308 2003137396 = some (0, h)) (x5 : f_X12_isWord h 308 1818326117 = some (0, h)) (x3 : f_X12_isWord h 308 495622385011 = some (0, h)) (f1 : f_X12_areLikesHere h 308 78 = some (bB r, g)) : f_X12_isleLineHere h 308 x = some (bB r, g) := by
  unfold f_X12_isleLineHere b_X12_isleLineHere_99
  have i0 : aIn 0 (sh 314).2 := in_314 (k := 0) (by decide)
  rw [q_308, x0, aBind_some, if_pos rfl, r_308_7 hS, Option.bind_some, q_314, if_pos i0, if_neg (show ¬ hI h 314 (Int32.toNatClampNeg 0) = 0 by rw [z_clamp]; exact n0), x1, aBind_some, if_pos rfl, x2, aBind_some, if_pos rfl, x5, aBind_some, if_pos rfl, x3, aBind_some, if_pos rfl, q_308, f1, aBind_some, if_pos (bB01 r)]
