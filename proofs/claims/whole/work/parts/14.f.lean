def b_X1_after_11 (k11 : aH → Nat → Option Nat → Int32 → Int32 → Option (Nat × aH)) (h : aH) (a0 : Nat) (a2 : Option Nat) (x3 : Int32) (x4 : Int32) : Option (Nat × aH) :=
(if x3 ≤ x4 then
(if (sh a0).1 = 8 then
((hR h a0 1).bind fun b22 =>
some (b22, h))
else none)
else
(if (sh a0).1 = 8 then
((hR h a0 0).bind fun b24 =>
((hR h a0 1).bind fun b25 =>
((hR h a0 1).bind fun b26 =>
(if (sh b26).1 = 15 then
(aBind (f_X8_isLate h b26) fun r28 h29 =>
(if (sh b24).1 = 7 then
(aBind (f_X0_pass h29 b24 b25 a2 r28) fun r31 h32 =>
k11 h32 a0 a2 x3 (x4 + 1))
else none))
else none))))
else none))
set_option maxHeartbeats 2000000 in
theorem t_X1_after_11 {k11 : aH → Nat → Option Nat → Int32 → Int32 → Option (Nat × aH)} (hk11 : ∀ (h : aH) (a0 : Nat) (a2 : Option Nat) (x3 : Int32) (x4 : Int32), AO eN 7 kX1_after 11 [some (.ref a0), none, some (va_rf a2), some (.int x3), some (.int x4)] [] h (k11 h a0 a2 x3 x4)) (h : aH) (a0 : Nat) (a2 : Option Nat) (x3 : Int32) (x4 : Int32) : AO eN 7 kX1_after 11 [some (.ref a0), none, some (va_rf a2), some (.int x3), some (.int x4)] [] h (b_X1_after_11 k11 h a0 a2 x3 x4) := by
  unfold b_X1_after_11
  refine ao_s (st_iload dX1_after_11 rfl) ?_
  refine ao_s (st_iload_n dX1_after_13 rfl rfl) ?_
  refine ao_br (br_icmp_ge (tgt := 43) dX1_after_14 (by decide)) (fun c33 => ?_) (fun c33 => ?_)
  · refine ao_s (st_aload_n dX1_after_43 rfl rfl) ?_
    refine ao_chk (fun e21 => ?_)
    refine ao_getR dX1_after_44 fl_X1_12 rfl e21 (fun b22 => ?_)
    exact ao_arN dX1_after_47 rfl
  · refine ao_s (st_aload_n dX1_after_17 rfl rfl) ?_
    refine ao_chk (fun e23 => ?_)
    refine ao_getR dX1_after_18 fl_X1_35 rfl e23 (fun b24 => ?_)
    refine ao_s (st_aload_n dX1_after_21 rfl rfl) ?_
    refine ao_getR dX1_after_22 fl_X1_12 rfl e23 (fun b25 => ?_)
    refine ao_s (st_aload_nQ dX1_after_25 rfl rfl) ?_
    refine ao_s (st_aload_n dX1_after_26 rfl rfl) ?_
    refine ao_getR dX1_after_27 fl_X1_12 rfl e23 (fun b26 => ?_)
    refine ao_chk (fun e27 => ?_)
    refine ao_cVi (Kc := kX8_isLate) (As := []) (st := [va_rf a2, .ref b25, .ref b24]) dX1_after_30 ml_X1_43 mv_X8_isLate rfl e27 (by decide) rfl rfl (by simp [aEn, aEnt, aCatN, aCatR, aCatQ, aCatL]) (by decide) (s_X8_isLate h b26) (fun r28 h29 => ?_)
    refine ao_chk (fun e30 => ?_)
    refine ao_cVi (Kc := kX0_pass) (As := [.ref b25, va_rf a2, .int r28]) (st := []) dX1_after_33 ml_X1_47 mv_X0_pass rfl e30 (by decide) rfl rfl (Nat.le_of_ble_eq_true rfl) (by decide) (s_X0_pass h29 b24 b25 a2 r28) (fun r31 h32 => ?_)
    refine ao_s (st_pop dX1_after_36 rfl) ?_
    refine ao_s (st_iinc (lv' := [some (.ref a0), none, some (va_rf a2), some (.int x3), some (.int (x4 + 1))]) dX1_after_37 rfl nc_1 (by decide) rfl) ?_
    refine ao_s (st_goto 11 dX1_after_40 (by decide)) ?_
    exact ao_w (sb_s (sb_n (sb_s (sb_s (sb_s sb_0))))) (hk11 h32 a0 a2 x3 (x4 + 1))
def f_X1_after_11 (n : Nat) : aH → Nat → Option Nat → Int32 → Int32 → Option (Nat × aH) := aIt (fun _ _ _ _ _ => none) (fun k => b_X1_after_11 k) n
theorem l_X1_after_11 (n : Nat) : ∀ (h : aH) (a0 : Nat) (a2 : Option Nat) (x3 : Int32) (x4 : Int32), AO eN 7 kX1_after 11 [some (.ref a0), none, some (va_rf a2), some (.int x3), some (.int x4)] [] h (f_X1_after_11 n h a0 a2 x3 x4) := by
  induction n with
  | zero => intros; exact ao_none
  | succ n ih =>
    intro h a0 a2 x3 x4
    exact t_X1_after_11 ih h a0 a2 x3 x4
def f_X1_after (h : aH) (a0 : Nat) (a1 : Nat) (a2 : Option Nat) (x3 : Int32) : Option (Nat × aH) :=
(if (sh a0).1 = 8 then
((hR h a0 1).bind fun b22 =>
(if (sh b22).1 = 15 then
(aBind (f_X8_copyFrom h b22 a1) fun r24 h25 =>
f_X1_after_11 2000 h25 a0 a2 x3 0)
else none))
else none)
set_option maxHeartbeats 2000000 in
theorem s_X1_after (h : aH) (a0 : Nat) (a1 : Nat) (a2 : Option Nat) (x3 : Int32) : SO eN 7 kX1_after [.ref a0, .ref a1, va_rf a2, .int x3] h (f_X1_after h a0 a1 a2 x3) := by
  refine so_of (lv0 := [some (.ref a0), some (.ref a1), some (va_rf a2), some (.int x3), none]) pn_X1 (by simp [aEn, aEnt, aCatN, aCatR, aCatQ, aCatL]) (by simp [aEn, aEnt, aCatN, aCatR, aCatQ, aCatL]) ?_
  unfold f_X1_after
  refine ao_s (st_aload_n dX1_after_0 rfl rfl) ?_
  refine ao_chk (fun e21 => ?_)
  refine ao_getR dX1_after_1 fl_X1_12 rfl e21 (fun b22 => ?_)
  refine ao_s (st_aload_n dX1_after_4 rfl rfl) ?_
  refine ao_chk (fun e23 => ?_)
  refine ao_cVv (Kc := kX8_copyFrom) (As := [.ref a1]) (st := []) dX1_after_5 ml_X1_39 mv_X8_copyFrom rfl e23 (by decide) rfl rfl (Nat.le_of_ble_eq_true rfl) (by decide) (s_X8_copyFrom h b22 a1) (fun r24 h25 => ?_)
  refine ao_s (st_iconst dX1_after_8 ic_0) ?_
  refine ao_s (st_istore (lv' := [some (.ref a0), some (.ref a1), some (va_rf a2), some (.int x3), some (.int 0)]) dX1_after_9 (by decide) rfl) ?_
  exact ao_w (sb_s (sb_n (sb_s (sb_s (sb_s sb_0))))) (l_X1_after_11 2000 h25 a0 a2 x3 0)
def b_X1_fairsTogetherFromHere_14 (k14 : aH → Nat → Option Nat → Int32 → Int32 → Int32 → Int32 → Option (Int32 × aH)) (h : aH) (a0 : Nat) (a1 : Option Nat) (x2 : Int32) (x3 : Int32) (x4 : Int32) (x5 : Int32) : Option (Int32 × aH) :=
(if x3 ≤ x5 then
some (x3, h)
else
(if (sh a0).1 = 8 then
((hR h a0 0).bind fun b22 =>
((hR h a0 1).bind fun b23 =>
((hR h a0 1).bind fun b24 =>
(if (sh b24).1 = 15 then
(aBind (f_X8_isLate h b24) fun r26 h27 =>
(if (sh b22).1 = 7 then
(aBind (f_X0_pass h27 b22 b23 a1 r26) fun r29 h30 =>
((hR h30 a0 1).bind fun b31 =>
(if (sh b31).1 = 15 then
(aBind (f_X8_partnerOf h30 b31 0 x2) fun r33 h34 =>
(if r33 = x4 then
k14 h34 a0 a1 x2 x3 x4 (x5 + 1)
else
some (x5, h34)))
else none)))
else none))
else none))))
else none))
set_option maxHeartbeats 2000000 in
theorem t_X1_fairsTogetherFromHere_14 {k14 : aH → Nat → Option Nat → Int32 → Int32 → Int32 → Int32 → Option (Int32 × aH)} (hk14 : ∀ (h : aH) (a0 : Nat) (a1 : Option Nat) (x2 : Int32) (x3 : Int32) (x4 : Int32) (x5 : Int32), AO eI 7 kX1_fairsTogetherFromHere 14 [some (.ref a0), some (va_rf a1), some (.int x2), some (.int x3), some (.int x4), some (.int x5)] [] h (k14 h a0 a1 x2 x3 x4 x5)) (h : aH) (a0 : Nat) (a1 : Option Nat) (x2 : Int32) (x3 : Int32) (x4 : Int32) (x5 : Int32) : AO eI 7 kX1_fairsTogetherFromHere 14 [some (.ref a0), some (va_rf a1), some (.int x2), some (.int x3), some (.int x4), some (.int x5)] [] h (b_X1_fairsTogetherFromHere_14 k14 h a0 a1 x2 x3 x4 x5) := by
  unfold b_X1_fairsTogetherFromHere_14
  refine ao_s (st_iload dX1_fairsTogetherFromHere_14 rfl) ?_
  refine ao_s (st_iload_n dX1_fairsTogetherFromHere_16 rfl rfl) ?_
  refine ao_br (br_icmp_ge (tgt := 63) dX1_fairsTogetherFromHere_17 (by decide)) (fun c36 => ?_) (fun c36 => ?_)
  · refine ao_s (st_iload_n dX1_fairsTogetherFromHere_63 rfl rfl) ?_
    exact ao_ir dX1_fairsTogetherFromHere_64 rfl rfl
  · refine ao_s (st_aload_n dX1_fairsTogetherFromHere_20 rfl rfl) ?_
    refine ao_chk (fun e21 => ?_)
    refine ao_getR dX1_fairsTogetherFromHere_21 fl_X1_35 rfl e21 (fun b22 => ?_)
    refine ao_s (st_aload_n dX1_fairsTogetherFromHere_24 rfl rfl) ?_
    refine ao_getR dX1_fairsTogetherFromHere_25 fl_X1_12 rfl e21 (fun b23 => ?_)
    refine ao_s (st_aload_nQ dX1_fairsTogetherFromHere_28 rfl rfl) ?_
    refine ao_s (st_aload_n dX1_fairsTogetherFromHere_29 rfl rfl) ?_
    refine ao_getR dX1_fairsTogetherFromHere_30 fl_X1_12 rfl e21 (fun b24 => ?_)
    refine ao_chk (fun e25 => ?_)
    refine ao_cVi (Kc := kX8_isLate) (As := []) (st := [va_rf a1, .ref b23, .ref b22]) dX1_fairsTogetherFromHere_33 ml_X1_43 mv_X8_isLate rfl e25 (by decide) rfl rfl (by simp [aEn, aEnt, aCatN, aCatR, aCatQ, aCatL]) (by decide) (s_X8_isLate h b24) (fun r26 h27 => ?_)
    refine ao_chk (fun e28 => ?_)
    refine ao_cVi (Kc := kX0_pass) (As := [.ref b23, va_rf a1, .int r26]) (st := []) dX1_fairsTogetherFromHere_36 ml_X1_47 mv_X0_pass rfl e28 (by decide) rfl rfl (Nat.le_of_ble_eq_true rfl) (by decide) (s_X0_pass h27 b22 b23 a1 r26) (fun r29 h30 => ?_)
    refine ao_s (st_pop dX1_fairsTogetherFromHere_39 rfl) ?_
    refine ao_s (st_aload_n dX1_fairsTogetherFromHere_40 rfl rfl) ?_
    refine ao_getR dX1_fairsTogetherFromHere_41 fl_X1_12 rfl e21 (fun b31 => ?_)
    refine ao_s (st_iconst dX1_fairsTogetherFromHere_44 ic_0) ?_
    refine ao_s (st_iload_n dX1_fairsTogetherFromHere_45 rfl rfl) ?_
    refine ao_chk (fun e32 => ?_)
    refine ao_cVi (Kc := kX8_partnerOf) (As := [.int 0, .int x2]) (st := []) dX1_fairsTogetherFromHere_46 ml_X1_57 mv_X8_partnerOf rfl e32 (by decide) rfl rfl (Nat.le_of_ble_eq_true rfl) (by decide) (s_X8_partnerOf h30 b31 0 x2) (fun r33 h34 => ?_)
    refine ao_s (st_iload dX1_fairsTogetherFromHere_49 rfl) ?_
    refine ao_br (br_icmp_eq (tgt := 57) dX1_fairsTogetherFromHere_51 (by decide)) (fun c35 => ?_) (fun c35 => ?_)
    · refine ao_s (st_iinc (lv' := [some (.ref a0), some (va_rf a1), some (.int x2), some (.int x3), some (.int x4), some (.int (x5 + 1))]) dX1_fairsTogetherFromHere_57 rfl nc_1 (by decide) rfl) ?_
      refine ao_s (st_goto 14 dX1_fairsTogetherFromHere_60 (by decide)) ?_
      exact ao_w (sb_s (sb_s (sb_s (sb_s (sb_s (sb_s sb_0)))))) (hk14 h34 a0 a1 x2 x3 x4 (x5 + 1))
    · refine ao_s (st_iload dX1_fairsTogetherFromHere_54 rfl) ?_
      exact ao_ir dX1_fairsTogetherFromHere_56 rfl rfl
def f_X1_fairsTogetherFromHere_14 (n : Nat) : aH → Nat → Option Nat → Int32 → Int32 → Int32 → Int32 → Option (Int32 × aH) := aIt (fun _ _ _ _ _ _ _ => none) (fun k => b_X1_fairsTogetherFromHere_14 k) n
theorem l_X1_fairsTogetherFromHere_14 (n : Nat) : ∀ (h : aH) (a0 : Nat) (a1 : Option Nat) (x2 : Int32) (x3 : Int32) (x4 : Int32) (x5 : Int32), AO eI 7 kX1_fairsTogetherFromHere 14 [some (.ref a0), some (va_rf a1), some (.int x2), some (.int x3), some (.int x4), some (.int x5)] [] h (f_X1_fairsTogetherFromHere_14 n h a0 a1 x2 x3 x4 x5) := by
  induction n with
  | zero => intros; exact ao_none
  | succ n ih =>
    intro h a0 a1 x2 x3 x4 x5
    exact t_X1_fairsTogetherFromHere_14 ih h a0 a1 x2 x3 x4 x5
def f_X1_fairsTogetherFromHere (h : aH) (a0 : Nat) (a1 : Option Nat) (x2 : Int32) (x3 : Int32) : Option (Int32 × aH) :=
(if (sh a0).1 = 8 then
((hR h a0 1).bind fun b22 =>
(if (sh b22).1 = 15 then
(aBind (f_X8_partnerOf h b22 0 x2) fun r24 h25 =>
f_X1_fairsTogetherFromHere_14 2000 h25 a0 a1 x2 x3 r24 0)
else none))
else none)
set_option maxHeartbeats 2000000 in
theorem s_X1_fairsTogetherFromHere (h : aH) (a0 : Nat) (a1 : Option Nat) (x2 : Int32) (x3 : Int32) : SO eI 7 kX1_fairsTogetherFromHere [.ref a0, va_rf a1, .int x2, .int x3] h (f_X1_fairsTogetherFromHere h a0 a1 x2 x3) := by
  refine so_of (lv0 := [some (.ref a0), some (va_rf a1), some (.int x2), some (.int x3), none, none]) pn_X1 (by simp [aEn, aEnt, aCatN, aCatR, aCatQ, aCatL]) (by simp [aEn, aEnt, aCatN, aCatR, aCatQ, aCatL]) ?_
  unfold f_X1_fairsTogetherFromHere
  refine ao_s (st_aload_n dX1_fairsTogetherFromHere_0 rfl rfl) ?_
  refine ao_chk (fun e21 => ?_)
  refine ao_getR dX1_fairsTogetherFromHere_1 fl_X1_12 rfl e21 (fun b22 => ?_)
  refine ao_s (st_iconst dX1_fairsTogetherFromHere_4 ic_0) ?_
  refine ao_s (st_iload_n dX1_fairsTogetherFromHere_5 rfl rfl) ?_
  refine ao_chk (fun e23 => ?_)
  refine ao_cVi (Kc := kX8_partnerOf) (As := [.int 0, .int x2]) (st := []) dX1_fairsTogetherFromHere_6 ml_X1_57 mv_X8_partnerOf rfl e23 (by decide) rfl rfl (Nat.le_of_ble_eq_true rfl) (by decide) (s_X8_partnerOf h b22 0 x2) (fun r24 h25 => ?_)
  refine ao_s (st_istore (lv' := [some (.ref a0), some (va_rf a1), some (.int x2), some (.int x3), some (.int r24), none]) dX1_fairsTogetherFromHere_9 (by decide) rfl) ?_
  refine ao_s (st_iconst dX1_fairsTogetherFromHere_11 ic_0) ?_
  refine ao_s (st_istore (lv' := [some (.ref a0), some (va_rf a1), some (.int x2), some (.int x3), some (.int r24), some (.int 0)]) dX1_fairsTogetherFromHere_12 (by decide) rfl) ?_
  exact ao_w (sb_s (sb_s (sb_s (sb_s (sb_s (sb_s sb_0)))))) (l_X1_fairsTogetherFromHere_14 2000 h25 a0 a1 x2 x3 r24 0)
def f_X1_fairsTogether (h : aH) (a0 : Nat) (a1 : Nat) (a2 : Option Nat) (x3 : Int32) (x4 : Int32) : Option (Int32 × aH) :=
(if (sh a0).1 = 8 then
((hR h a0 1).bind fun b22 =>
(if (sh b22).1 = 15 then
(aBind (f_X8_copyFrom h b22 a1) fun r24 h25 =>
(aBind (f_X1_fairsTogetherFromHere h25 a0 a2 x3 x4) fun r26 h27 =>
some (r26, h27)))
else none))
else none)
set_option maxHeartbeats 2000000 in
theorem s_X1_fairsTogether (h : aH) (a0 : Nat) (a1 : Nat) (a2 : Option Nat) (x3 : Int32) (x4 : Int32) : SO eI 8 kX1_fairsTogether [.ref a0, .ref a1, va_rf a2, .int x3, .int x4] h (f_X1_fairsTogether h a0 a1 a2 x3 x4) := by
  refine so_of (lv0 := [some (.ref a0), some (.ref a1), some (va_rf a2), some (.int x3), some (.int x4)]) pn_X1 (by simp [aEn, aEnt, aCatN, aCatR, aCatQ, aCatL]) (by simp [aEn, aEnt, aCatN, aCatR, aCatQ, aCatL]) ?_
  unfold f_X1_fairsTogether
  refine ao_s (st_aload_n dX1_fairsTogether_0 rfl rfl) ?_
  refine ao_chk (fun e21 => ?_)
  refine ao_getR dX1_fairsTogether_1 fl_X1_12 rfl e21 (fun b22 => ?_)
  refine ao_s (st_aload_n dX1_fairsTogether_4 rfl rfl) ?_
  refine ao_chk (fun e23 => ?_)
  refine ao_cVv (Kc := kX8_copyFrom) (As := [.ref a1]) (st := []) dX1_fairsTogether_5 ml_X1_39 mv_X8_copyFrom rfl e23 (by decide) rfl rfl (Nat.le_of_ble_eq_true rfl) (by decide) (s_X8_copyFrom h b22 a1) (fun r24 h25 => ?_)
  refine ao_s (st_aload_n dX1_fairsTogether_8 rfl rfl) ?_
  refine ao_s (st_aload_nQ dX1_fairsTogether_9 rfl rfl) ?_
  refine ao_s (st_iload_n dX1_fairsTogether_10 rfl rfl) ?_
  refine ao_s (st_iload dX1_fairsTogether_11 rfl) ?_
  refine ao_cVi (Kc := kX1_fairsTogetherFromHere) (As := [va_rf a2, .int x3, .int x4]) (st := []) dX1_fairsTogether_13 ml_X1_53 mv_X1_fairsTogetherFromHere rfl e21 (by decide) rfl rfl (Nat.le_of_ble_eq_true rfl) (by decide) (s_X1_fairsTogetherFromHere h25 a0 a2 x3 x4) (fun r26 h27 => ?_)
  exact ao_ir dX1_fairsTogether_16 rfl rfl
def b_X1_leastGift_3 (k3 : aH → Nat → Nat → Option Nat → Int32 → Int32 → Int32 → Option (Int32 × aH)) (h : aH) (a0 : Nat) (a1 : Nat) (a2 : Option Nat) (x3 : Int32) (x4 : Int32) (x5 : Int32) : Option (Int32 × aH) :=
(if 99 < x5 then
some ((-2), h)
else
(if (sh a0).1 = 8 then
((hR h a0 1).bind fun b22 =>
(if (sh b22).1 = 15 then
(aBind (f_X8_copyFrom h b22 a1) fun r24 h25 =>
((hR h25 a0 1).bind fun b26 =>
(if (sh b26).1 = 15 then
(aLet (pI h25 b26 1 x5) fun h28 =>
(aBind (f_X1_fairsTogetherFromHere h28 a0 a2 x3 x4) fun r29 h30 =>
(if r29 = x4 then
some (x5, h30)
else
k3 h30 a0 a1 a2 x3 x4 (x5 + 1))))
else none)))
else none))
else none))
set_option maxHeartbeats 2000000 in
theorem t_X1_leastGift_3 {k3 : aH → Nat → Nat → Option Nat → Int32 → Int32 → Int32 → Option (Int32 × aH)} (hk3 : ∀ (h : aH) (a0 : Nat) (a1 : Nat) (a2 : Option Nat) (x3 : Int32) (x4 : Int32) (x5 : Int32), AO eI 8 kX1_leastGift 3 [some (.ref a0), some (.ref a1), some (va_rf a2), some (.int x3), some (.int x4), some (.int x5)] [] h (k3 h a0 a1 a2 x3 x4 x5)) (h : aH) (a0 : Nat) (a1 : Nat) (a2 : Option Nat) (x3 : Int32) (x4 : Int32) (x5 : Int32) : AO eI 8 kX1_leastGift 3 [some (.ref a0), some (.ref a1), some (va_rf a2), some (.int x3), some (.int x4), some (.int x5)] [] h (b_X1_leastGift_3 k3 h a0 a1 a2 x3 x4 x5) := by
  unfold b_X1_leastGift_3
  refine ao_s (st_iload dX1_leastGift_3 rfl) ?_
  refine ao_s (st_bipush dX1_leastGift_5 bp_99) ?_
  refine ao_br (br_icmp_gt (tgt := 49) dX1_leastGift_7 (by decide)) (fun c32 => ?_) (fun c32 => ?_)
  · refine ao_s (st_bipush dX1_leastGift_49 bp_m2) ?_
    exact ao_ir dX1_leastGift_51 rfl rfl
  · refine ao_s (st_aload_n dX1_leastGift_10 rfl rfl) ?_
    refine ao_chk (fun e21 => ?_)
    refine ao_getR dX1_leastGift_11 fl_X1_12 rfl e21 (fun b22 => ?_)
    refine ao_s (st_aload_n dX1_leastGift_14 rfl rfl) ?_
    refine ao_chk (fun e23 => ?_)
    refine ao_cVv (Kc := kX8_copyFrom) (As := [.ref a1]) (st := []) dX1_leastGift_15 ml_X1_39 mv_X8_copyFrom rfl e23 (by decide) rfl rfl (Nat.le_of_ble_eq_true rfl) (by decide) (s_X8_copyFrom h b22 a1) (fun r24 h25 => ?_)
    refine ao_s (st_aload_n dX1_leastGift_18 rfl rfl) ?_
    refine ao_getR dX1_leastGift_19 fl_X1_12 rfl e21 (fun b26 => ?_)
    refine ao_s (st_iload dX1_leastGift_22 rfl) ?_
    refine ao_chk (fun e27 => ?_)
    refine ao_putI dX1_leastGift_24 fl_X1_61 rfl rfl rfl rfl e27 ?_
    refine ao_letH (fun h28 => ?_)
    refine ao_s (st_aload_n dX1_leastGift_27 rfl rfl) ?_
    refine ao_s (st_aload_nQ dX1_leastGift_28 rfl rfl) ?_
    refine ao_s (st_iload_n dX1_leastGift_29 rfl rfl) ?_
    refine ao_s (st_iload dX1_leastGift_30 rfl) ?_
    refine ao_cVi (Kc := kX1_fairsTogetherFromHere) (As := [va_rf a2, .int x3, .int x4]) (st := []) dX1_leastGift_32 ml_X1_53 mv_X1_fairsTogetherFromHere rfl e21 (by decide) rfl rfl (Nat.le_of_ble_eq_true rfl) (by decide) (s_X1_fairsTogetherFromHere h28 a0 a2 x3 x4) (fun r29 h30 => ?_)
    refine ao_s (st_iload dX1_leastGift_35 rfl) ?_
    refine ao_br (br_icmp_ne (tgt := 43) dX1_leastGift_37 (by decide)) (fun c31 => ?_) (fun c31 => ?_)
    · refine ao_s (st_iload dX1_leastGift_40 rfl) ?_
      exact ao_ir dX1_leastGift_42 rfl rfl
    · refine ao_s (st_iinc (lv' := [some (.ref a0), some (.ref a1), some (va_rf a2), some (.int x3), some (.int x4), some (.int (x5 + 1))]) dX1_leastGift_43 rfl nc_1 (by decide) rfl) ?_
      refine ao_s (st_goto 3 dX1_leastGift_46 (by decide)) ?_
      exact ao_w (sb_s (sb_s (sb_s (sb_s (sb_s (sb_s sb_0)))))) (hk3 h30 a0 a1 a2 x3 x4 (x5 + 1))
def f_X1_leastGift_3 (n : Nat) : aH → Nat → Nat → Option Nat → Int32 → Int32 → Int32 → Option (Int32 × aH) := aIt (fun _ _ _ _ _ _ _ => none) (fun k => b_X1_leastGift_3 k) n
theorem l_X1_leastGift_3 (n : Nat) : ∀ (h : aH) (a0 : Nat) (a1 : Nat) (a2 : Option Nat) (x3 : Int32) (x4 : Int32) (x5 : Int32), AO eI 8 kX1_leastGift 3 [some (.ref a0), some (.ref a1), some (va_rf a2), some (.int x3), some (.int x4), some (.int x5)] [] h (f_X1_leastGift_3 n h a0 a1 a2 x3 x4 x5) := by
  induction n with
  | zero => intros; exact ao_none
  | succ n ih =>
    intro h a0 a1 a2 x3 x4 x5
    exact t_X1_leastGift_3 ih h a0 a1 a2 x3 x4 x5
def f_X1_leastGift (h : aH) (a0 : Nat) (a1 : Nat) (a2 : Option Nat) (x3 : Int32) (x4 : Int32) : Option (Int32 × aH) :=
f_X1_leastGift_3 2000 h a0 a1 a2 x3 x4 0
set_option maxHeartbeats 2000000 in
theorem s_X1_leastGift (h : aH) (a0 : Nat) (a1 : Nat) (a2 : Option Nat) (x3 : Int32) (x4 : Int32) : SO eI 8 kX1_leastGift [.ref a0, .ref a1, va_rf a2, .int x3, .int x4] h (f_X1_leastGift h a0 a1 a2 x3 x4) := by
  refine so_of (lv0 := [some (.ref a0), some (.ref a1), some (va_rf a2), some (.int x3), some (.int x4), none]) pn_X1 (by simp [aEn, aEnt, aCatN, aCatR, aCatQ, aCatL]) (by simp [aEn, aEnt, aCatN, aCatR, aCatQ, aCatL]) ?_
  unfold f_X1_leastGift
  refine ao_s (st_iconst dX1_leastGift_0 ic_0) ?_
  refine ao_s (st_istore (lv' := [some (.ref a0), some (.ref a1), some (va_rf a2), some (.int x3), some (.int x4), some (.int 0)]) dX1_leastGift_1 (by decide) rfl) ?_
  exact ao_w (sb_s (sb_s (sb_s (sb_s (sb_s (sb_s sb_0)))))) (l_X1_leastGift_3 2000 h a0 a1 a2 x3 x4 0)
def f_X8_likeOfPartner (h : aH) (a0 : Nat) (x1 : Int32) : Option (Int32 × aH) :=
(if (sh a0).1 = 15 then
(aBind (f_X8_partnerOf h a0 0 x1) fun r22 h23 =>
(if 0 ≤ r22 then
(aBind (f_X8_like h23 a0 0 x1 r22) fun r24 h25 =>
some (r24, h25))
else
some (0, h23)))
else none)
set_option maxHeartbeats 2000000 in
theorem s_X8_likeOfPartner (h : aH) (a0 : Nat) (x1 : Int32) : SO eI 3 kX8_likeOfPartner [.ref a0, .int x1] h (f_X8_likeOfPartner h a0 x1) := by
  refine so_of (lv0 := [some (.ref a0), some (.int x1), none]) pn_X8 (Nat.le_of_ble_eq_true rfl) rfl ?_
  unfold f_X8_likeOfPartner
  refine ao_s (st_aload_n dX8_likeOfPartner_0 rfl rfl) ?_
  refine ao_s (st_iconst dX8_likeOfPartner_1 ic_0) ?_
  refine ao_s (st_iload_n dX8_likeOfPartner_2 rfl rfl) ?_
  refine ao_chk (fun e21 => ?_)
  refine ao_cVi (Kc := kX8_partnerOf) (As := [.int 0, .int x1]) (st := []) dX8_likeOfPartner_3 ml_X8_64 mv_X8_partnerOf rfl e21 (by decide) rfl rfl (Nat.le_of_ble_eq_true rfl) (by decide) (s_X8_partnerOf h a0 0 x1) (fun r22 h23 => ?_)
  refine ao_s (st_istore_n (lv' := [some (.ref a0), some (.int x1), some (.int r22)]) dX8_likeOfPartner_6 rfl (by decide) rfl) ?_
  refine ao_s (st_iload_n dX8_likeOfPartner_7 rfl rfl) ?_
  refine ao_br (br_if_ge (tgt := 15) dX8_likeOfPartner_8 (by decide)) (fun c26 => ?_) (fun c26 => ?_)
  · refine ao_s (st_aload_n dX8_likeOfPartner_15 rfl rfl) ?_
    refine ao_s (st_iconst dX8_likeOfPartner_16 ic_0) ?_
    refine ao_s (st_iload_n dX8_likeOfPartner_17 rfl rfl) ?_
    refine ao_s (st_iload_n dX8_likeOfPartner_18 rfl rfl) ?_
    refine ao_cVi (Kc := kX8_like) (As := [.int 0, .int x1, .int r22]) (st := []) dX8_likeOfPartner_19 ml_X8_68 mv_X8_like rfl e21 (by decide) rfl rfl (Nat.le_of_ble_eq_true rfl) (by decide) (s_X8_like h23 a0 0 x1 r22) (fun r24 h25 => ?_)
    exact ao_ir dX8_likeOfPartner_22 rfl rfl
  · refine ao_s (st_iconst dX8_likeOfPartner_11 ic_0) ?_
    refine ao_s (st_goto 22 dX8_likeOfPartner_12 (by decide)) ?_
    exact ao_ir dX8_likeOfPartner_22 rfl rfl
def b_X1_sumOfTry_30 (k30 : aH → Nat → Option Nat → Int32 → Int32 → Int32 → Int32 → Option (Int32 × aH)) (h : aH) (a0 : Nat) (a2 : Option Nat) (x3 : Int32) (x5 : Int32) (x6 : Int32) (x7 : Int32) : Option (Int32 × aH) :=
(if x5 ≤ x7 then
some (x6, h)
else
(if (sh a0).1 = 8 then
((hR h a0 0).bind fun b22 =>
((hR h a0 1).bind fun b23 =>
((hR h a0 1).bind fun b24 =>
(if (sh b24).1 = 15 then
(aBind (f_X8_isLate h b24) fun r26 h27 =>
(if (sh b22).1 = 7 then
(aBind (f_X0_pass h27 b22 b23 a2 r26) fun r29 h30 =>
((hR h30 a0 1).bind fun b31 =>
(if (sh b31).1 = 15 then
(aBind (f_X8_likeOfPartner h30 b31 x3) fun r33 h34 =>
(aLet (x6 + r33) fun x35 =>
k30 h34 a0 a2 x3 x5 x35 (x7 + 1)))
else none)))
else none))
else none))))
else none))
set_option maxHeartbeats 2000000 in
theorem t_X1_sumOfTry_30 {k30 : aH → Nat → Option Nat → Int32 → Int32 → Int32 → Int32 → Option (Int32 × aH)} (hk30 : ∀ (h : aH) (a0 : Nat) (a2 : Option Nat) (x3 : Int32) (x5 : Int32) (x6 : Int32) (x7 : Int32), AO eI 7 kX1_sumOfTry 30 [some (.ref a0), none, some (va_rf a2), some (.int x3), none, some (.int x5), some (.int x6), some (.int x7)] [] h (k30 h a0 a2 x3 x5 x6 x7)) (h : aH) (a0 : Nat) (a2 : Option Nat) (x3 : Int32) (x5 : Int32) (x6 : Int32) (x7 : Int32) : AO eI 7 kX1_sumOfTry 30 [some (.ref a0), none, some (va_rf a2), some (.int x3), none, some (.int x5), some (.int x6), some (.int x7)] [] h (b_X1_sumOfTry_30 k30 h a0 a2 x3 x5 x6 x7) := by
  unfold b_X1_sumOfTry_30
  refine ao_s (st_iload dX1_sumOfTry_30 rfl) ?_
  refine ao_s (st_iload dX1_sumOfTry_32 rfl) ?_
  refine ao_br (br_icmp_ge (tgt := 76) dX1_sumOfTry_34 (by decide)) (fun c36 => ?_) (fun c36 => ?_)
  · refine ao_s (st_iload dX1_sumOfTry_76 rfl) ?_
    exact ao_ir dX1_sumOfTry_78 rfl rfl
  · refine ao_s (st_aload_n dX1_sumOfTry_37 rfl rfl) ?_
    refine ao_chk (fun e21 => ?_)
    refine ao_getR dX1_sumOfTry_38 fl_X1_35 rfl e21 (fun b22 => ?_)
    refine ao_s (st_aload_n dX1_sumOfTry_41 rfl rfl) ?_
    refine ao_getR dX1_sumOfTry_42 fl_X1_12 rfl e21 (fun b23 => ?_)
    refine ao_s (st_aload_nQ dX1_sumOfTry_45 rfl rfl) ?_
    refine ao_s (st_aload_n dX1_sumOfTry_46 rfl rfl) ?_
    refine ao_getR dX1_sumOfTry_47 fl_X1_12 rfl e21 (fun b24 => ?_)
    refine ao_chk (fun e25 => ?_)
    refine ao_cVi (Kc := kX8_isLate) (As := []) (st := [va_rf a2, .ref b23, .ref b22]) dX1_sumOfTry_50 ml_X1_43 mv_X8_isLate rfl e25 (by decide) rfl rfl (by simp [aEn, aEnt, aCatN, aCatR, aCatQ, aCatL]) (by decide) (s_X8_isLate h b24) (fun r26 h27 => ?_)
    refine ao_chk (fun e28 => ?_)
    refine ao_cVi (Kc := kX0_pass) (As := [.ref b23, va_rf a2, .int r26]) (st := []) dX1_sumOfTry_53 ml_X1_47 mv_X0_pass rfl e28 (by decide) rfl rfl (Nat.le_of_ble_eq_true rfl) (by decide) (s_X0_pass h27 b22 b23 a2 r26) (fun r29 h30 => ?_)
    refine ao_s (st_pop dX1_sumOfTry_56 rfl) ?_
    refine ao_s (st_iload dX1_sumOfTry_57 rfl) ?_
    refine ao_s (st_aload_n dX1_sumOfTry_59 rfl rfl) ?_
    refine ao_getR dX1_sumOfTry_60 fl_X1_12 rfl e21 (fun b31 => ?_)
    refine ao_s (st_iload_n dX1_sumOfTry_63 rfl rfl) ?_
    refine ao_chk (fun e32 => ?_)
    refine ao_cVi (Kc := kX8_likeOfPartner) (As := [.int x3]) (st := [.int x6]) dX1_sumOfTry_64 ml_X1_78 mv_X8_likeOfPartner rfl e32 (by decide) rfl rfl (Nat.le_of_ble_eq_true rfl) (by decide) (s_X8_likeOfPartner h30 b31 x3) (fun r33 h34 => ?_)
    refine ao_s (st_iadd dX1_sumOfTry_67) ?_
    refine ao_letI (fun x35 => ?_)
    refine ao_s (st_istore (lv' := [some (.ref a0), none, some (va_rf a2), some (.int x3), none, some (.int x5), some (.int x35), some (.int x7)]) dX1_sumOfTry_68 (by decide) rfl) ?_
    refine ao_s (st_iinc (lv' := [some (.ref a0), none, some (va_rf a2), some (.int x3), none, some (.int x5), some (.int x35), some (.int (x7 + 1))]) dX1_sumOfTry_70 rfl nc_1 (by decide) rfl) ?_
    refine ao_s (st_goto 30 dX1_sumOfTry_73 (by decide)) ?_
    exact ao_w (sb_s (sb_n (sb_s (sb_s (sb_n (sb_s (sb_s (sb_s sb_0)))))))) (hk30 h34 a0 a2 x3 x5 x35 (x7 + 1))
def f_X1_sumOfTry_30 (n : Nat) : aH → Nat → Option Nat → Int32 → Int32 → Int32 → Int32 → Option (Int32 × aH) := aIt (fun _ _ _ _ _ _ _ => none) (fun k => b_X1_sumOfTry_30 k) n
theorem l_X1_sumOfTry_30 (n : Nat) : ∀ (h : aH) (a0 : Nat) (a2 : Option Nat) (x3 : Int32) (x5 : Int32) (x6 : Int32) (x7 : Int32), AO eI 7 kX1_sumOfTry 30 [some (.ref a0), none, some (va_rf a2), some (.int x3), none, some (.int x5), some (.int x6), some (.int x7)] [] h (f_X1_sumOfTry_30 n h a0 a2 x3 x5 x6 x7) := by
  induction n with
  | zero => intros; exact ao_none
  | succ n ih =>
    intro h a0 a2 x3 x5 x6 x7
    exact t_X1_sumOfTry_30 ih h a0 a2 x3 x5 x6 x7
def b_X1_sumOfTry_24 (h : aH) (a0 : Nat) (a2 : Option Nat) (x3 : Int32) (x5 : Int32) : Option (Int32 × aH) :=
f_X1_sumOfTry_30 2000 h a0 a2 x3 x5 0 0
set_option maxHeartbeats 2000000 in
theorem t_X1_sumOfTry_24 (h : aH) (a0 : Nat) (a2 : Option Nat) (x3 : Int32) (x5 : Int32) : AO eI 7 kX1_sumOfTry 24 [some (.ref a0), none, some (va_rf a2), some (.int x3), none, some (.int x5), none, none] [] h (b_X1_sumOfTry_24 h a0 a2 x3 x5) := by
  unfold b_X1_sumOfTry_24
  refine ao_s (st_iconst dX1_sumOfTry_24 ic_0) ?_
  refine ao_s (st_istore (lv' := [some (.ref a0), none, some (va_rf a2), some (.int x3), none, some (.int x5), some (.int 0), none]) dX1_sumOfTry_25 (by decide) rfl) ?_
  refine ao_s (st_iconst dX1_sumOfTry_27 ic_0) ?_
  refine ao_s (st_istore (lv' := [some (.ref a0), none, some (va_rf a2), some (.int x3), none, some (.int x5), some (.int 0), some (.int 0)]) dX1_sumOfTry_28 (by decide) rfl) ?_
  exact ao_w (sb_s (sb_n (sb_s (sb_s (sb_n (sb_s (sb_s (sb_s sb_0)))))))) (l_X1_sumOfTry_30 2000 h a0 a2 x3 x5 0 0)
def f_X1_sumOfTry (h : aH) (a0 : Nat) (a1 : Nat) (a2 : Option Nat) (x3 : Int32) (x4 : Int32) (x5 : Int32) : Option (Int32 × aH) :=
(if (sh a0).1 = 8 then
((hR h a0 1).bind fun b22 =>
(if (sh b22).1 = 15 then
(aBind (f_X8_copyFrom h b22 a1) fun r24 h25 =>
(if x4 < 0 then
b_X1_sumOfTry_24 h25 a0 a2 x3 x5
else
((hR h25 a0 1).bind fun b26 =>
(if (sh b26).1 = 15 then
(aBind (f_X8_joinTwo h25 b26 x3 x4) fun r28 h29 =>
b_X1_sumOfTry_24 h29 a0 a2 x3 x5)
else none))))
else none))
else none)
set_option maxHeartbeats 2000000 in
theorem s_X1_sumOfTry (h : aH) (a0 : Nat) (a1 : Nat) (a2 : Option Nat) (x3 : Int32) (x4 : Int32) (x5 : Int32) : SO eI 7 kX1_sumOfTry [.ref a0, .ref a1, va_rf a2, .int x3, .int x4, .int x5] h (f_X1_sumOfTry h a0 a1 a2 x3 x4 x5) := by
  refine so_of (lv0 := [some (.ref a0), some (.ref a1), some (va_rf a2), some (.int x3), some (.int x4), some (.int x5), none, none]) pn_X1 (by simp [aEn, aEnt, aCatN, aCatR, aCatQ, aCatL]) (by simp [aEn, aEnt, aCatN, aCatR, aCatQ, aCatL]) ?_
  unfold f_X1_sumOfTry
  refine ao_s (st_aload_n dX1_sumOfTry_0 rfl rfl) ?_
  refine ao_chk (fun e21 => ?_)
  refine ao_getR dX1_sumOfTry_1 fl_X1_12 rfl e21 (fun b22 => ?_)
  refine ao_s (st_aload_n dX1_sumOfTry_4 rfl rfl) ?_
  refine ao_chk (fun e23 => ?_)
  refine ao_cVv (Kc := kX8_copyFrom) (As := [.ref a1]) (st := []) dX1_sumOfTry_5 ml_X1_39 mv_X8_copyFrom rfl e23 (by decide) rfl rfl (Nat.le_of_ble_eq_true rfl) (by decide) (s_X8_copyFrom h b22 a1) (fun r24 h25 => ?_)
  refine ao_s (st_iload dX1_sumOfTry_8 rfl) ?_
  refine ao_br (br_if_lt (tgt := 24) dX1_sumOfTry_10 (by decide)) (fun c30 => ?_) (fun c30 => ?_)
  · exact ao_w (sb_s (sb_n (sb_s (sb_s (sb_n (sb_s (sb_n (sb_n sb_0)))))))) (t_X1_sumOfTry_24 h25 a0 a2 x3 x5)
  · refine ao_s (st_aload_n dX1_sumOfTry_13 rfl rfl) ?_
    refine ao_getR dX1_sumOfTry_14 fl_X1_12 rfl e21 (fun b26 => ?_)
    refine ao_s (st_iload_n dX1_sumOfTry_17 rfl rfl) ?_
    refine ao_s (st_iload dX1_sumOfTry_18 rfl) ?_
    refine ao_chk (fun e27 => ?_)
    refine ao_cVi (Kc := kX8_joinTwo) (As := [.int x3, .int x4]) (st := []) dX1_sumOfTry_20 ml_X1_75 mv_X8_joinTwo rfl e27 (by decide) rfl rfl (Nat.le_of_ble_eq_true rfl) (by decide) (s_X8_joinTwo h25 b26 x3 x4) (fun r28 h29 => ?_)
    refine ao_s (st_pop dX1_sumOfTry_23 rfl) ?_
    exact ao_w (sb_s (sb_n (sb_s (sb_s (sb_n (sb_s (sb_n (sb_n sb_0)))))))) (t_X1_sumOfTry_24 h29 a0 a2 x3 x5)
def f_X8_likeEachOther (h : aH) (a0 : Nat) (x1 : Int32) (x2 : Int32) : Option (Int32 × aH) :=
(if (sh a0).1 = 15 then
(aBind (f_X8_like h a0 0 x1 x2) fun r22 h23 =>
(if r22 ≤ 0 then
some (0, h23)
else
(aBind (f_X8_like h23 a0 1 x1 x2) fun r24 h25 =>
(if r24 ≤ 0 then
some (0, h25)
else
some (1, h25)))))
else none)
set_option maxHeartbeats 2000000 in
theorem s_X8_likeEachOther (h : aH) (a0 : Nat) (x1 : Int32) (x2 : Int32) : SO eI 3 kX8_likeEachOther [.ref a0, .int x1, .int x2] h (f_X8_likeEachOther h a0 x1 x2) := by
  refine so_of (lv0 := [some (.ref a0), some (.int x1), some (.int x2)]) pn_X8 (Nat.le_of_ble_eq_true rfl) rfl ?_
  unfold f_X8_likeEachOther
  refine ao_s (st_aload_n dX8_likeEachOther_0 rfl rfl) ?_
  refine ao_s (st_iconst dX8_likeEachOther_1 ic_0) ?_
  refine ao_s (st_iload_n dX8_likeEachOther_2 rfl rfl) ?_
  refine ao_s (st_iload_n dX8_likeEachOther_3 rfl rfl) ?_
  refine ao_chk (fun e21 => ?_)
  refine ao_cVi (Kc := kX8_like) (As := [.int 0, .int x1, .int x2]) (st := []) dX8_likeEachOther_4 ml_X8_68 mv_X8_like rfl e21 (by decide) rfl rfl (Nat.le_of_ble_eq_true rfl) (by decide) (s_X8_like h a0 0 x1 x2) (fun r22 h23 => ?_)
  refine ao_br (br_if_le (tgt := 24) dX8_likeEachOther_7 (by decide)) (fun c27 => ?_) (fun c27 => ?_)
  · refine ao_s (st_iconst dX8_likeEachOther_24 ic_0) ?_
    exact ao_ir dX8_likeEachOther_25 rfl (by decide)
  · refine ao_s (st_aload_n dX8_likeEachOther_10 rfl rfl) ?_
    refine ao_s (st_iconst dX8_likeEachOther_11 ic_1) ?_
    refine ao_s (st_iload_n dX8_likeEachOther_12 rfl rfl) ?_
    refine ao_s (st_iload_n dX8_likeEachOther_13 rfl rfl) ?_
    refine ao_cVi (Kc := kX8_like) (As := [.int 1, .int x1, .int x2]) (st := []) dX8_likeEachOther_14 ml_X8_68 mv_X8_like rfl e21 (by decide) rfl rfl (Nat.le_of_ble_eq_true rfl) (by decide) (s_X8_like h23 a0 1 x1 x2) (fun r24 h25 => ?_)
    refine ao_br (br_if_le (tgt := 24) dX8_likeEachOther_17 (by decide)) (fun c26 => ?_) (fun c26 => ?_)
    · refine ao_s (st_iconst dX8_likeEachOther_24 ic_0) ?_
      exact ao_ir dX8_likeEachOther_25 rfl (by decide)
    · refine ao_s (st_iconst dX8_likeEachOther_20 ic_1) ?_
      refine ao_s (st_goto 25 dX8_likeEachOther_21 (by decide)) ?_
      exact ao_ir dX8_likeEachOther_25 rfl (by decide)
def f_X8_couldJoin (h : aH) (a0 : Nat) (x1 : Int32) (x2 : Int32) : Option (Int32 × aH) :=
(if (sh a0).1 = 15 then
(aBind (f_X8_isFree h a0 0 x1) fun r22 h23 =>
(if r22 = 0 then
some (0, h23)
else
(aBind (f_X8_isFree h23 a0 1 x2) fun r24 h25 =>
(if r24 = 0 then
some (0, h25)
else
(aBind (f_X8_likeEachOther h25 a0 x1 x2) fun r26 h27 =>
(if r26 = 0 then
some (0, h27)
else
some (1, h27)))))))
else none)
set_option maxHeartbeats 2000000 in
theorem s_X8_couldJoin (h : aH) (a0 : Nat) (x1 : Int32) (x2 : Int32) : SO eI 4 kX8_couldJoin [.ref a0, .int x1, .int x2] h (f_X8_couldJoin h a0 x1 x2) := by
  refine so_of (lv0 := [some (.ref a0), some (.int x1), some (.int x2)]) pn_X8 (Nat.le_of_ble_eq_true rfl) rfl ?_
  unfold f_X8_couldJoin
  refine ao_s (st_aload_n dX8_couldJoin_0 rfl rfl) ?_
  refine ao_s (st_iconst dX8_couldJoin_1 ic_0) ?_
  refine ao_s (st_iload_n dX8_couldJoin_2 rfl rfl) ?_
  refine ao_chk (fun e21 => ?_)
  refine ao_cVi (Kc := kX8_isFree) (As := [.int 0, .int x1]) (st := []) dX8_couldJoin_3 ml_X8_72 mv_X8_isFree rfl e21 (by decide) rfl rfl (Nat.le_of_ble_eq_true rfl) (by decide) (s_X8_isFree h a0 0 x1) (fun r22 h23 => ?_)
  refine ao_br (br_if_eq (tgt := 31) dX8_couldJoin_6 (by decide)) (fun c30 => ?_) (fun c30 => ?_)
  · refine ao_s (st_iconst dX8_couldJoin_31 ic_0) ?_
    exact ao_ir dX8_couldJoin_32 rfl (by decide)
  · refine ao_s (st_aload_n dX8_couldJoin_9 rfl rfl) ?_
    refine ao_s (st_iconst dX8_couldJoin_10 ic_1) ?_
    refine ao_s (st_iload_n dX8_couldJoin_11 rfl rfl) ?_
    refine ao_cVi (Kc := kX8_isFree) (As := [.int 1, .int x2]) (st := []) dX8_couldJoin_12 ml_X8_72 mv_X8_isFree rfl e21 (by decide) rfl rfl (Nat.le_of_ble_eq_true rfl) (by decide) (s_X8_isFree h23 a0 1 x2) (fun r24 h25 => ?_)
    refine ao_br (br_if_eq (tgt := 31) dX8_couldJoin_15 (by decide)) (fun c29 => ?_) (fun c29 => ?_)
    · refine ao_s (st_iconst dX8_couldJoin_31 ic_0) ?_
      exact ao_ir dX8_couldJoin_32 rfl (by decide)
    · refine ao_s (st_aload_n dX8_couldJoin_18 rfl rfl) ?_
      refine ao_s (st_iload_n dX8_couldJoin_19 rfl rfl) ?_
      refine ao_s (st_iload_n dX8_couldJoin_20 rfl rfl) ?_
      refine ao_cVi (Kc := kX8_likeEachOther) (As := [.int x1, .int x2]) (st := []) dX8_couldJoin_21 ml_X8_76 mv_X8_likeEachOther rfl e21 (by decide) rfl rfl (Nat.le_of_ble_eq_true rfl) (by decide) (s_X8_likeEachOther h25 a0 x1 x2) (fun r26 h27 => ?_)
      refine ao_br (br_if_eq (tgt := 31) dX8_couldJoin_24 (by decide)) (fun c28 => ?_) (fun c28 => ?_)
      · refine ao_s (st_iconst dX8_couldJoin_31 ic_0) ?_
        exact ao_ir dX8_couldJoin_32 rfl (by decide)
      · refine ao_s (st_iconst dX8_couldJoin_27 ic_1) ?_
        refine ao_s (st_goto 32 dX8_couldJoin_28 (by decide)) ?_
        exact ao_ir dX8_couldJoin_32 rfl (by decide)
