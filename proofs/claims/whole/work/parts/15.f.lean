def b_X1_tryAll_75 (k22 : aH → Nat → Nat → Option Nat → Int32 → Int32 → Int32 → Option (Unit × aH)) (h : aH) (a0 : Nat) (a1 : Nat) (a2 : Option Nat) (x3 : Int32) (x4 : Int32) (x5 : Int32) : Option (Unit × aH) :=
k22 h a0 a1 a2 x3 x4 (x5 + 1)
set_option maxHeartbeats 2000000 in
theorem t_X1_tryAll_75 {k22 : aH → Nat → Nat → Option Nat → Int32 → Int32 → Int32 → Option (Unit × aH)} (hk22 : ∀ (h : aH) (a0 : Nat) (a1 : Nat) (a2 : Option Nat) (x3 : Int32) (x4 : Int32) (x5 : Int32), AO eV 8 kX1_tryAll 22 [some (.ref a0), some (.ref a1), some (va_rf a2), some (.int x3), some (.int x4), some (.int x5), none] [] h (k22 h a0 a1 a2 x3 x4 x5)) (h : aH) (a0 : Nat) (a1 : Nat) (a2 : Option Nat) (x3 : Int32) (x4 : Int32) (x5 : Int32) : AO eV 8 kX1_tryAll 75 [some (.ref a0), some (.ref a1), some (va_rf a2), some (.int x3), some (.int x4), some (.int x5), none] [] h (b_X1_tryAll_75 k22 h a0 a1 a2 x3 x4 x5) := by
  unfold b_X1_tryAll_75
  refine ao_s (st_iinc (lv' := [some (.ref a0), some (.ref a1), some (va_rf a2), some (.int x3), some (.int x4), some (.int (x5 + 1)), none]) dX1_tryAll_75 rfl nc_1 (by decide) rfl) ?_
  refine ao_s (st_goto 22 dX1_tryAll_78 (by decide)) ?_
  exact ao_w (sb_s (sb_s (sb_s (sb_s (sb_s (sb_s (sb_n sb_0))))))) (hk22 h a0 a1 a2 x3 x4 (x5 + 1))
def b_X1_tryAll_22 (k22 : aH → Nat → Nat → Option Nat → Int32 → Int32 → Int32 → Option (Unit × aH)) (h : aH) (a0 : Nat) (a1 : Nat) (a2 : Option Nat) (x3 : Int32) (x4 : Int32) (x5 : Int32) : Option (Unit × aH) :=
(if (sh a1).1 = 15 then
(if hI h a1 4 ≤ x5 then
some ((), h)
else
(aBind (f_X8_couldJoin h a1 x3 x5) fun r22 h23 =>
(if r22 = 0 then
b_X1_tryAll_75 k22 h23 a0 a1 a2 x3 x4 x5
else
(if (sh a0).1 = 8 then
(aBind (f_X1_sumOfTry h23 a0 a1 a2 x3 x5 x4) fun r25 h26 =>
(if r25 ≤ hI h26 a0 3 then
b_X1_tryAll_75 k22 h26 a0 a1 a2 x3 x4 x5
else
(aLet (pI h26 a0 2 x5) fun h27 =>
(aLet (pI h27 a0 3 r25) fun h28 =>
b_X1_tryAll_75 k22 h28 a0 a1 a2 x3 x4 x5))))
else none))))
else none)
set_option maxHeartbeats 2000000 in
theorem t_X1_tryAll_22 {k22 : aH → Nat → Nat → Option Nat → Int32 → Int32 → Int32 → Option (Unit × aH)} (hk22 : ∀ (h : aH) (a0 : Nat) (a1 : Nat) (a2 : Option Nat) (x3 : Int32) (x4 : Int32) (x5 : Int32), AO eV 8 kX1_tryAll 22 [some (.ref a0), some (.ref a1), some (va_rf a2), some (.int x3), some (.int x4), some (.int x5), none] [] h (k22 h a0 a1 a2 x3 x4 x5)) (h : aH) (a0 : Nat) (a1 : Nat) (a2 : Option Nat) (x3 : Int32) (x4 : Int32) (x5 : Int32) : AO eV 8 kX1_tryAll 22 [some (.ref a0), some (.ref a1), some (va_rf a2), some (.int x3), some (.int x4), some (.int x5), none] [] h (b_X1_tryAll_22 k22 h a0 a1 a2 x3 x4 x5) := by
  unfold b_X1_tryAll_22
  refine ao_s (st_iload dX1_tryAll_22 rfl) ?_
  refine ao_s (st_aload_n dX1_tryAll_24 rfl rfl) ?_
  refine ao_chk (fun e21 => ?_)
  refine ao_getI dX1_tryAll_25 fl_X1_68 rfl e21 ?_
  refine ao_br (br_icmp_ge (tgt := 81) dX1_tryAll_28 (by decide)) (fun c31 => ?_) (fun c31 => ?_)
  · exact ao_vr dX1_tryAll_81 rfl
  · refine ao_s (st_aload_n dX1_tryAll_31 rfl rfl) ?_
    refine ao_s (st_iload_n dX1_tryAll_32 rfl rfl) ?_
    refine ao_s (st_iload dX1_tryAll_33 rfl) ?_
    refine ao_cVi (Kc := kX8_couldJoin) (As := [.int x3, .int x5]) (st := []) dX1_tryAll_35 ml_X1_71 mv_X8_couldJoin rfl e21 (by decide) rfl rfl (Nat.le_of_ble_eq_true rfl) (by decide) (s_X8_couldJoin h a1 x3 x5) (fun r22 h23 => ?_)
    refine ao_br (br_if_eq (tgt := 75) dX1_tryAll_38 (by decide)) (fun c30 => ?_) (fun c30 => ?_)
    · exact ao_w (sb_s (sb_s (sb_s (sb_s (sb_s (sb_s (sb_n sb_0))))))) (t_X1_tryAll_75 hk22 h23 a0 a1 a2 x3 x4 x5)
    · refine ao_s (st_aload_n dX1_tryAll_41 rfl rfl) ?_
      refine ao_s (st_aload_n dX1_tryAll_42 rfl rfl) ?_
      refine ao_s (st_aload_nQ dX1_tryAll_43 rfl rfl) ?_
      refine ao_s (st_iload_n dX1_tryAll_44 rfl rfl) ?_
      refine ao_s (st_iload dX1_tryAll_45 rfl) ?_
      refine ao_s (st_iload dX1_tryAll_47 rfl) ?_
      refine ao_chk (fun e24 => ?_)
      refine ao_cVi (Kc := kX1_sumOfTry) (As := [.ref a1, va_rf a2, .int x3, .int x5, .int x4]) (st := []) dX1_tryAll_49 ml_X1_64 mv_X1_sumOfTry rfl e24 (by decide) rfl rfl (Nat.le_of_ble_eq_true rfl) (by decide) (s_X1_sumOfTry h23 a0 a1 a2 x3 x5 x4) (fun r25 h26 => ?_)
      refine ao_s (st_istore (lv' := [some (.ref a0), some (.ref a1), some (va_rf a2), some (.int x3), some (.int x4), some (.int x5), some (.int r25)]) dX1_tryAll_52 (by decide) rfl) ?_
      refine ao_s (st_iload dX1_tryAll_54 rfl) ?_
      refine ao_s (st_aload_n dX1_tryAll_56 rfl rfl) ?_
      refine ao_getI dX1_tryAll_57 fl_X1_22 rfl e24 ?_
      refine ao_br (br_icmp_le (tgt := 75) dX1_tryAll_60 (by decide)) (fun c29 => ?_) (fun c29 => ?_)
      · exact ao_w (sb_s (sb_s (sb_s (sb_s (sb_s (sb_s (sb_n sb_0))))))) (t_X1_tryAll_75 hk22 h26 a0 a1 a2 x3 x4 x5)
      · refine ao_s (st_aload_n dX1_tryAll_63 rfl rfl) ?_
        refine ao_s (st_iload dX1_tryAll_64 rfl) ?_
        refine ao_putI dX1_tryAll_66 fl_X1_18 rfl rfl rfl rfl e24 ?_
        refine ao_letH (fun h27 => ?_)
        refine ao_s (st_aload_n dX1_tryAll_69 rfl rfl) ?_
        refine ao_s (st_iload dX1_tryAll_70 rfl) ?_
        refine ao_putI dX1_tryAll_72 fl_X1_22 rfl rfl rfl rfl e24 ?_
        refine ao_letH (fun h28 => ?_)
        exact ao_w (sb_s (sb_s (sb_s (sb_s (sb_s (sb_s (sb_n sb_0))))))) (t_X1_tryAll_75 hk22 h28 a0 a1 a2 x3 x4 x5)
def f_X1_tryAll_22 (n : Nat) : aH → Nat → Nat → Option Nat → Int32 → Int32 → Int32 → Option (Unit × aH) := aIt (fun _ _ _ _ _ _ _ => none) (fun k => b_X1_tryAll_22 k) n
theorem l_X1_tryAll_22 (n : Nat) : ∀ (h : aH) (a0 : Nat) (a1 : Nat) (a2 : Option Nat) (x3 : Int32) (x4 : Int32) (x5 : Int32), AO eV 8 kX1_tryAll 22 [some (.ref a0), some (.ref a1), some (va_rf a2), some (.int x3), some (.int x4), some (.int x5), none] [] h (f_X1_tryAll_22 n h a0 a1 a2 x3 x4 x5) := by
  induction n with
  | zero => intros; exact ao_none
  | succ n ih =>
    intro h a0 a1 a2 x3 x4 x5
    exact t_X1_tryAll_22 ih h a0 a1 a2 x3 x4 x5
def f_X1_tryAll (h : aH) (a0 : Nat) (a1 : Nat) (a2 : Option Nat) (x3 : Int32) (x4 : Int32) : Option (Unit × aH) :=
(if (sh a0).1 = 8 then
(aLet (pI h a0 2 (-1)) fun h22 =>
(aBind (f_X1_sumOfTry h22 a0 a1 a2 x3 (-1) x4) fun r23 h24 =>
(aLet (pI h24 a0 3 r23) fun h25 =>
f_X1_tryAll_22 2000 h25 a0 a1 a2 x3 x4 0)))
else none)
set_option maxHeartbeats 2000000 in
theorem s_X1_tryAll (h : aH) (a0 : Nat) (a1 : Nat) (a2 : Option Nat) (x3 : Int32) (x4 : Int32) : SO eV 8 kX1_tryAll [.ref a0, .ref a1, va_rf a2, .int x3, .int x4] h (f_X1_tryAll h a0 a1 a2 x3 x4) := by
  refine so_of (lv0 := [some (.ref a0), some (.ref a1), some (va_rf a2), some (.int x3), some (.int x4), none, none]) pn_X1 (by simp [aEn, aEnt, aCatN, aCatR, aCatQ, aCatL]) (by simp [aEn, aEnt, aCatN, aCatR, aCatQ, aCatL]) ?_
  unfold f_X1_tryAll
  refine ao_s (st_aload_n dX1_tryAll_0 rfl rfl) ?_
  refine ao_s (st_iconst dX1_tryAll_1 ic_m1) ?_
  refine ao_chk (fun e21 => ?_)
  refine ao_putI dX1_tryAll_2 fl_X1_18 rfl rfl rfl rfl e21 ?_
  refine ao_letH (fun h22 => ?_)
  refine ao_s (st_aload_n dX1_tryAll_5 rfl rfl) ?_
  refine ao_s (st_aload_n dX1_tryAll_6 rfl rfl) ?_
  refine ao_s (st_aload_n dX1_tryAll_7 rfl rfl) ?_
  refine ao_s (st_aload_nQ dX1_tryAll_8 rfl rfl) ?_
  refine ao_s (st_iload_n dX1_tryAll_9 rfl rfl) ?_
  refine ao_s (st_iconst dX1_tryAll_10 ic_m1) ?_
  refine ao_s (st_iload dX1_tryAll_11 rfl) ?_
  refine ao_cVi (Kc := kX1_sumOfTry) (As := [.ref a1, va_rf a2, .int x3, .int (-1), .int x4]) (st := [.ref a0]) dX1_tryAll_13 ml_X1_64 mv_X1_sumOfTry rfl e21 (by decide) rfl rfl (Nat.le_of_ble_eq_true rfl) (by decide) (s_X1_sumOfTry h22 a0 a1 a2 x3 (-1) x4) (fun r23 h24 => ?_)
  refine ao_putI dX1_tryAll_16 fl_X1_22 rfl rfl rfl rfl e21 ?_
  refine ao_letH (fun h25 => ?_)
  refine ao_s (st_iconst dX1_tryAll_19 ic_0) ?_
  refine ao_s (st_istore (lv' := [some (.ref a0), some (.ref a1), some (va_rf a2), some (.int x3), some (.int x4), some (.int 0), none]) dX1_tryAll_20 (by decide) rfl) ?_
  exact ao_w (sb_s (sb_s (sb_s (sb_s (sb_s (sb_s (sb_n sb_0))))))) (l_X1_tryAll_22 2000 h25 a0 a1 a2 x3 x4 0)
def f_X1_startDraws (h : aH) (a0 : Nat) (x1 : Int32) : Option (Unit × aH) :=
(if (sh a0).1 = 8 then
(aLet (pL h a0 6 x1.toInt64) fun h22 =>
(aLet (pI h22 a0 4 0) fun h23 =>
(aLet (pI h23 a0 5 0) fun h24 =>
some ((), h24))))
else none)
set_option maxHeartbeats 2000000 in
theorem s_X1_startDraws (h : aH) (a0 : Nat) (x1 : Int32) : SO eV 2 kX1_startDraws [.ref a0, .int x1] h (f_X1_startDraws h a0 x1) := by
  refine so_of (lv0 := [some (.ref a0), some (.int x1)]) pn_X1 (Nat.le_of_ble_eq_true rfl) rfl ?_
  unfold f_X1_startDraws
  refine ao_s (st_aload_n dX1_startDraws_0 rfl rfl) ?_
  refine ao_s (st_iload_n dX1_startDraws_1 rfl rfl) ?_
  refine ao_s (st_i2l dX1_startDraws_2) ?_
  refine ao_chk (fun e21 => ?_)
  refine ao_putL dX1_startDraws_3 fl_X1_31 rfl rfl rfl rfl e21 ?_
  refine ao_letH (fun h22 => ?_)
  refine ao_s (st_aload_n dX1_startDraws_6 rfl rfl) ?_
  refine ao_s (st_iconst dX1_startDraws_7 ic_0) ?_
  refine ao_putI dX1_startDraws_8 fl_X1_25 rfl rfl rfl rfl e21 ?_
  refine ao_letH (fun h23 => ?_)
  refine ao_s (st_aload_n dX1_startDraws_11 rfl rfl) ?_
  refine ao_s (st_iconst dX1_startDraws_12 ic_0) ?_
  refine ao_putI dX1_startDraws_13 fl_X1_28 rfl rfl rfl rfl e21 ?_
  refine ao_letH (fun h24 => ?_)
  exact ao_vr dX1_startDraws_16 rfl
def f_X1_draw (h : aH) (a0 : Nat) : Option (Int32 × aH) :=
(if (sh a0).1 = 8 then
(aLet (pL h a0 6 ((((hL h a0 6) * 1103515245) + 12345) &&& 2147483647)) fun h22 =>
some (((hL h22 a0 6) / 65536).toInt32, h22))
else none)
set_option maxHeartbeats 2000000 in
theorem s_X1_draw (h : aH) (a0 : Nat) : SO eI 2 kX1_draw [.ref a0] h (f_X1_draw h a0) := by
  refine so_of (lv0 := [some (.ref a0)]) pn_X1 (Nat.le_of_ble_eq_true rfl) rfl ?_
  unfold f_X1_draw
  refine ao_s (st_aload_n dX1_draw_0 rfl rfl) ?_
  refine ao_s (st_aload_n dX1_draw_1 rfl rfl) ?_
  refine ao_chk (fun e21 => ?_)
  refine ao_getL dX1_draw_2 fl_X1_31 rfl e21 ?_
  refine ao_s (st_ldc2 dX1_draw_5 cl_X1_82) ?_
  refine ao_s (st_lmul dX1_draw_8) ?_
  refine ao_s (st_ldc2 dX1_draw_9 cl_X1_84) ?_
  refine ao_s (st_ladd dX1_draw_12) ?_
  refine ao_s (st_ldc2 dX1_draw_13 cl_X1_86) ?_
  refine ao_s (st_land dX1_draw_16) ?_
  refine ao_putL dX1_draw_17 fl_X1_31 rfl rfl rfl rfl e21 ?_
  refine ao_letH (fun h22 => ?_)
  refine ao_s (st_aload_n dX1_draw_20 rfl rfl) ?_
  refine ao_getL dX1_draw_21 fl_X1_31 rfl e21 ?_
  refine ao_s (st_ldc2 dX1_draw_24 cl_X1_88) ?_
  refine ao_s (st_ldiv dX1_draw_27 (by decide)) ?_
  refine ao_s (st_l2i dX1_draw_28) ?_
  exact ao_ir dX1_draw_29 rfl rfl
def f_J6_bitCount_0f7a4 (h : aH) (x0 : Int32) : Option (Int32 × aH) :=
(aLet (x0 - (((x0.toUInt32 >>> ((1 : Int32).toUInt32 &&& Int32.toUInt32 31)).toInt32) &&& 1431655765)) fun x21 =>
(aLet ((x21 &&& 858993459) + (((x21.toUInt32 >>> ((2 : Int32).toUInt32 &&& Int32.toUInt32 31)).toInt32) &&& 858993459)) fun x22 =>
(aLet ((x22 + ((x22.toUInt32 >>> ((4 : Int32).toUInt32 &&& Int32.toUInt32 31)).toInt32)) &&& 252645135) fun x23 =>
(aLet (x23 + ((x23.toUInt32 >>> ((8 : Int32).toUInt32 &&& Int32.toUInt32 31)).toInt32)) fun x24 =>
(aLet (x24 + ((x24.toUInt32 >>> ((16 : Int32).toUInt32 &&& Int32.toUInt32 31)).toInt32)) fun x25 =>
some (x25 &&& 63, h))))))
set_option maxHeartbeats 2000000 in
theorem s_J6_bitCount_0f7a4 (h : aH) (x0 : Int32) : SO eI 2 kJ6_bitCount_0f7a4 [.int x0] h (f_J6_bitCount_0f7a4 h x0) := by
  refine so_of (lv0 := [some (.int x0)]) pn_J6 (Nat.le_of_ble_eq_true rfl) rfl ?_
  unfold f_J6_bitCount_0f7a4
  refine ao_s (st_iload_n dJ6_bitCount_0f7a4_0 rfl rfl) ?_
  refine ao_s (st_iload_n dJ6_bitCount_0f7a4_1 rfl rfl) ?_
  refine ao_s (st_iconst dJ6_bitCount_0f7a4_2 ic_1) ?_
  refine ao_s (st_iushr dJ6_bitCount_0f7a4_3) ?_
  refine ao_s (st_ldcw dJ6_bitCount_0f7a4_4 ci_J6_265) ?_
  refine ao_s (st_iand dJ6_bitCount_0f7a4_7) ?_
  refine ao_s (st_isub dJ6_bitCount_0f7a4_8) ?_
  refine ao_letI (fun x21 => ?_)
  refine ao_s (st_istore_n (lv' := [some (.int x21)]) dJ6_bitCount_0f7a4_9 rfl (by decide) rfl) ?_
  refine ao_s (st_iload_n dJ6_bitCount_0f7a4_10 rfl rfl) ?_
  refine ao_s (st_ldcw dJ6_bitCount_0f7a4_11 ci_J6_266) ?_
  refine ao_s (st_iand dJ6_bitCount_0f7a4_14) ?_
  refine ao_s (st_iload_n dJ6_bitCount_0f7a4_15 rfl rfl) ?_
  refine ao_s (st_iconst dJ6_bitCount_0f7a4_16 ic_2) ?_
  refine ao_s (st_iushr dJ6_bitCount_0f7a4_17) ?_
  refine ao_s (st_ldcw dJ6_bitCount_0f7a4_18 ci_J6_266) ?_
  refine ao_s (st_iand dJ6_bitCount_0f7a4_21) ?_
  refine ao_s (st_iadd dJ6_bitCount_0f7a4_22) ?_
  refine ao_letI (fun x22 => ?_)
  refine ao_s (st_istore_n (lv' := [some (.int x22)]) dJ6_bitCount_0f7a4_23 rfl (by decide) rfl) ?_
  refine ao_s (st_iload_n dJ6_bitCount_0f7a4_24 rfl rfl) ?_
  refine ao_s (st_iload_n dJ6_bitCount_0f7a4_25 rfl rfl) ?_
  refine ao_s (st_iconst dJ6_bitCount_0f7a4_26 ic_4) ?_
  refine ao_s (st_iushr dJ6_bitCount_0f7a4_27) ?_
  refine ao_s (st_iadd dJ6_bitCount_0f7a4_28) ?_
  refine ao_s (st_ldcw dJ6_bitCount_0f7a4_29 ci_J6_267) ?_
  refine ao_s (st_iand dJ6_bitCount_0f7a4_32) ?_
  refine ao_letI (fun x23 => ?_)
  refine ao_s (st_istore_n (lv' := [some (.int x23)]) dJ6_bitCount_0f7a4_33 rfl (by decide) rfl) ?_
  refine ao_s (st_iload_n dJ6_bitCount_0f7a4_34 rfl rfl) ?_
  refine ao_s (st_iload_n dJ6_bitCount_0f7a4_35 rfl rfl) ?_
  refine ao_s (st_bipush dJ6_bitCount_0f7a4_36 bp_8) ?_
  refine ao_s (st_iushr dJ6_bitCount_0f7a4_38) ?_
  refine ao_s (st_iadd dJ6_bitCount_0f7a4_39) ?_
  refine ao_letI (fun x24 => ?_)
  refine ao_s (st_istore_n (lv' := [some (.int x24)]) dJ6_bitCount_0f7a4_40 rfl (by decide) rfl) ?_
  refine ao_s (st_iload_n dJ6_bitCount_0f7a4_41 rfl rfl) ?_
  refine ao_s (st_iload_n dJ6_bitCount_0f7a4_42 rfl rfl) ?_
  refine ao_s (st_bipush dJ6_bitCount_0f7a4_43 bp_16) ?_
  refine ao_s (st_iushr dJ6_bitCount_0f7a4_45) ?_
  refine ao_s (st_iadd dJ6_bitCount_0f7a4_46) ?_
  refine ao_letI (fun x25 => ?_)
  refine ao_s (st_istore_n (lv' := [some (.int x25)]) dJ6_bitCount_0f7a4_47 rfl (by decide) rfl) ?_
  refine ao_s (st_iload_n dJ6_bitCount_0f7a4_48 rfl rfl) ?_
  refine ao_s (st_bipush dJ6_bitCount_0f7a4_49 bp_63) ?_
  refine ao_s (st_iand dJ6_bitCount_0f7a4_51) ?_
  exact ao_ir dJ6_bitCount_0f7a4_52 rfl rfl
def b_X8_joinedBits_28 (k5 : aH → Nat → Int32 → Int32 → Int32 → Int32 → Option (Int32 × aH)) (h : aH) (a0 : Nat) (x1 : Int32) (x2 : Int32) (x3 : Int32) (x4 : Int32) : Option (Int32 × aH) :=
k5 h a0 x1 x2 x3 (x4 + 1)
set_option maxHeartbeats 2000000 in
theorem t_X8_joinedBits_28 {k5 : aH → Nat → Int32 → Int32 → Int32 → Int32 → Option (Int32 × aH)} (hk5 : ∀ (h : aH) (a0 : Nat) (x1 : Int32) (x2 : Int32) (x3 : Int32) (x4 : Int32), AO eI 3 kX8_joinedBits 5 [some (.ref a0), some (.int x1), some (.int x2), some (.int x3), some (.int x4)] [] h (k5 h a0 x1 x2 x3 x4)) (h : aH) (a0 : Nat) (x1 : Int32) (x2 : Int32) (x3 : Int32) (x4 : Int32) : AO eI 3 kX8_joinedBits 28 [some (.ref a0), some (.int x1), some (.int x2), some (.int x3), some (.int x4)] [] h (b_X8_joinedBits_28 k5 h a0 x1 x2 x3 x4) := by
  unfold b_X8_joinedBits_28
  refine ao_s (st_iinc (lv' := [some (.ref a0), some (.int x1), some (.int x2), some (.int x3), some (.int (x4 + 1))]) dX8_joinedBits_28 rfl nc_1 (by decide) rfl) ?_
  refine ao_s (st_goto 5 dX8_joinedBits_31 (by decide)) ?_
  exact ao_w (sb_s (sb_s (sb_s (sb_s (sb_s sb_0))))) (hk5 h a0 x1 x2 x3 (x4 + 1))
def b_X8_joinedBits_5 (k5 : aH → Nat → Int32 → Int32 → Int32 → Int32 → Option (Int32 × aH)) (h : aH) (a0 : Nat) (x1 : Int32) (x2 : Int32) (x3 : Int32) (x4 : Int32) : Option (Int32 × aH) :=
(if x2 ≤ x4 then
some (x3, h)
else
(if (sh a0).1 = 15 then
(aBind (f_X8_isFree h a0 x1 x4) fun r22 h23 =>
(if r22 = 0 then
(aLet (x3 ||| (1 <<< (x4 &&& 31))) fun x24 =>
b_X8_joinedBits_28 k5 h23 a0 x1 x2 x24 x4)
else
b_X8_joinedBits_28 k5 h23 a0 x1 x2 x3 x4))
else none))
set_option maxHeartbeats 2000000 in
theorem t_X8_joinedBits_5 {k5 : aH → Nat → Int32 → Int32 → Int32 → Int32 → Option (Int32 × aH)} (hk5 : ∀ (h : aH) (a0 : Nat) (x1 : Int32) (x2 : Int32) (x3 : Int32) (x4 : Int32), AO eI 3 kX8_joinedBits 5 [some (.ref a0), some (.int x1), some (.int x2), some (.int x3), some (.int x4)] [] h (k5 h a0 x1 x2 x3 x4)) (h : aH) (a0 : Nat) (x1 : Int32) (x2 : Int32) (x3 : Int32) (x4 : Int32) : AO eI 3 kX8_joinedBits 5 [some (.ref a0), some (.int x1), some (.int x2), some (.int x3), some (.int x4)] [] h (b_X8_joinedBits_5 k5 h a0 x1 x2 x3 x4) := by
  unfold b_X8_joinedBits_5
  refine ao_s (st_iload dX8_joinedBits_5 rfl) ?_
  refine ao_s (st_iload_n dX8_joinedBits_7 rfl rfl) ?_
  refine ao_br (br_icmp_ge (tgt := 34) dX8_joinedBits_8 (by decide)) (fun c26 => ?_) (fun c26 => ?_)
  · refine ao_s (st_iload_n dX8_joinedBits_34 rfl rfl) ?_
    exact ao_ir dX8_joinedBits_35 rfl rfl
  · refine ao_s (st_aload_n dX8_joinedBits_11 rfl rfl) ?_
    refine ao_s (st_iload_n dX8_joinedBits_12 rfl rfl) ?_
    refine ao_s (st_iload dX8_joinedBits_13 rfl) ?_
    refine ao_chk (fun e21 => ?_)
    refine ao_cVi (Kc := kX8_isFree) (As := [.int x1, .int x4]) (st := []) dX8_joinedBits_15 ml_X8_72 mv_X8_isFree rfl e21 (by decide) rfl rfl (Nat.le_of_ble_eq_true rfl) (by decide) (s_X8_isFree h a0 x1 x4) (fun r22 h23 => ?_)
    refine ao_br (br_if_ne (tgt := 28) dX8_joinedBits_18 (by decide)) (fun c25 => ?_) (fun c25 => ?_)
    · refine ao_s (st_iload_n dX8_joinedBits_21 rfl rfl) ?_
      refine ao_s (st_iconst dX8_joinedBits_22 ic_1) ?_
      refine ao_s (st_iload dX8_joinedBits_23 rfl) ?_
      refine ao_s (st_ishl dX8_joinedBits_25) ?_
      refine ao_s (st_ior dX8_joinedBits_26) ?_
      refine ao_letI (fun x24 => ?_)
      refine ao_s (st_istore_n (lv' := [some (.ref a0), some (.int x1), some (.int x2), some (.int x24), some (.int x4)]) dX8_joinedBits_27 rfl (by decide) rfl) ?_
      exact ao_w (sb_s (sb_s (sb_s (sb_s (sb_s sb_0))))) (t_X8_joinedBits_28 hk5 h23 a0 x1 x2 x24 x4)
    · exact ao_w (sb_s (sb_s (sb_s (sb_s (sb_s sb_0))))) (t_X8_joinedBits_28 hk5 h23 a0 x1 x2 x3 x4)
def f_X8_joinedBits_5 (n : Nat) : aH → Nat → Int32 → Int32 → Int32 → Int32 → Option (Int32 × aH) := aIt (fun _ _ _ _ _ _ => none) (fun k => b_X8_joinedBits_5 k) n
theorem l_X8_joinedBits_5 (n : Nat) : ∀ (h : aH) (a0 : Nat) (x1 : Int32) (x2 : Int32) (x3 : Int32) (x4 : Int32), AO eI 3 kX8_joinedBits 5 [some (.ref a0), some (.int x1), some (.int x2), some (.int x3), some (.int x4)] [] h (f_X8_joinedBits_5 n h a0 x1 x2 x3 x4) := by
  induction n with
  | zero => intros; exact ao_none
  | succ n ih =>
    intro h a0 x1 x2 x3 x4
    exact t_X8_joinedBits_5 ih h a0 x1 x2 x3 x4
def f_X8_joinedBits (h : aH) (a0 : Nat) (x1 : Int32) (x2 : Int32) : Option (Int32 × aH) :=
f_X8_joinedBits_5 2000 h a0 x1 x2 0 0
set_option maxHeartbeats 2000000 in
theorem s_X8_joinedBits (h : aH) (a0 : Nat) (x1 : Int32) (x2 : Int32) : SO eI 3 kX8_joinedBits [.ref a0, .int x1, .int x2] h (f_X8_joinedBits h a0 x1 x2) := by
  refine so_of (lv0 := [some (.ref a0), some (.int x1), some (.int x2), none, none]) pn_X8 (Nat.le_of_ble_eq_true rfl) rfl ?_
  unfold f_X8_joinedBits
  refine ao_s (st_iconst dX8_joinedBits_0 ic_0) ?_
  refine ao_s (st_istore_n (lv' := [some (.ref a0), some (.int x1), some (.int x2), some (.int 0), none]) dX8_joinedBits_1 rfl (by decide) rfl) ?_
  refine ao_s (st_iconst dX8_joinedBits_2 ic_0) ?_
  refine ao_s (st_istore (lv' := [some (.ref a0), some (.int x1), some (.int x2), some (.int 0), some (.int 0)]) dX8_joinedBits_3 (by decide) rfl) ?_
  exact ao_w (sb_s (sb_s (sb_s (sb_s (sb_s sb_0))))) (l_X8_joinedBits_5 2000 h a0 x1 x2 0 0)
def b_X1_drawIsle_70 (k11 : aH → Nat → Option Nat → Int32 → Int32 → Int32 → Option (Unit × aH)) (h : aH) (a0 : Nat) (a2 : Option Nat) (x3 : Int32) (x4 : Int32) (x5 : Int32) (s0 : Int32) (s1 : Option Nat) (s2 : Nat) (s3 : Nat) (s4 : Int32) (s5 : Nat) : Option (Unit × aH) :=
(if (sh s3).1 = 7 then
(aBind (f_X0_pass h s3 s2 s1 s0) fun r22 h23 =>
(if (sh s5).1 = 8 then
(aLet (pI h23 s5 5 (s4 + r22)) fun h25 =>
k11 h25 a0 a2 x3 x4 (x5 + 1))
else none))
else none)
set_option maxHeartbeats 2000000 in
theorem t_X1_drawIsle_70 {k11 : aH → Nat → Option Nat → Int32 → Int32 → Int32 → Option (Unit × aH)} (hk11 : ∀ (h : aH) (a0 : Nat) (a2 : Option Nat) (x3 : Int32) (x4 : Int32) (x5 : Int32), AO eV 7 kX1_drawIsle 11 [some (.ref a0), none, some (va_rf a2), some (.int x3), some (.int x4), some (.int x5), none] [] h (k11 h a0 a2 x3 x4 x5)) (h : aH) (a0 : Nat) (a2 : Option Nat) (x3 : Int32) (x4 : Int32) (x5 : Int32) (s0 : Int32) (s1 : Option Nat) (s2 : Nat) (s3 : Nat) (s4 : Int32) (s5 : Nat) : AO eV 7 kX1_drawIsle 70 [some (.ref a0), none, some (va_rf a2), some (.int x3), some (.int x4), some (.int x5), none] [.int s0, va_rf s1, .ref s2, .ref s3, .int s4, .ref s5] h (b_X1_drawIsle_70 k11 h a0 a2 x3 x4 x5 s0 s1 s2 s3 s4 s5) := by
  unfold b_X1_drawIsle_70
  refine ao_chk (fun e21 => ?_)
  refine ao_cVi (Kc := kX0_pass) (As := [.ref s2, va_rf s1, .int s0]) (st := [.int s4, .ref s5]) dX1_drawIsle_70 ml_X1_47 mv_X0_pass rfl e21 (by decide) rfl rfl (Nat.le_of_ble_eq_true rfl) (by decide) (s_X0_pass h s3 s2 s1 s0) (fun r22 h23 => ?_)
  refine ao_s (st_iadd dX1_drawIsle_73) ?_
  refine ao_chk (fun e24 => ?_)
  refine ao_putI dX1_drawIsle_74 fl_X1_28 rfl rfl rfl rfl e24 ?_
  refine ao_letH (fun h25 => ?_)
  refine ao_s (st_iinc (lv' := [some (.ref a0), none, some (va_rf a2), some (.int x3), some (.int x4), some (.int (x5 + 1)), none]) dX1_drawIsle_77 rfl nc_1 (by decide) rfl) ?_
  refine ao_s (st_goto 11 dX1_drawIsle_80 (by decide)) ?_
  exact ao_w (sb_s (sb_n (sb_s (sb_s (sb_s (sb_s (sb_n sb_0))))))) (hk11 h25 a0 a2 x3 x4 (x5 + 1))
def b_X1_drawIsle_65 (k11 : aH → Nat → Option Nat → Int32 → Int32 → Int32 → Option (Unit × aH)) (h : aH) (a0 : Nat) (a2 : Option Nat) (x3 : Int32) (x4 : Int32) (x5 : Int32) (s0 : Option Nat) (s1 : Nat) (s2 : Nat) (s3 : Int32) (s4 : Nat) : Option (Unit × aH) :=
b_X1_drawIsle_70 k11 h a0 a2 x3 x4 x5 1 s0 s1 s2 s3 s4
set_option maxHeartbeats 2000000 in
theorem t_X1_drawIsle_65 {k11 : aH → Nat → Option Nat → Int32 → Int32 → Int32 → Option (Unit × aH)} (hk11 : ∀ (h : aH) (a0 : Nat) (a2 : Option Nat) (x3 : Int32) (x4 : Int32) (x5 : Int32), AO eV 7 kX1_drawIsle 11 [some (.ref a0), none, some (va_rf a2), some (.int x3), some (.int x4), some (.int x5), none] [] h (k11 h a0 a2 x3 x4 x5)) (h : aH) (a0 : Nat) (a2 : Option Nat) (x3 : Int32) (x4 : Int32) (x5 : Int32) (s0 : Option Nat) (s1 : Nat) (s2 : Nat) (s3 : Int32) (s4 : Nat) : AO eV 7 kX1_drawIsle 65 [some (.ref a0), none, some (va_rf a2), some (.int x3), some (.int x4), some (.int x5), none] [va_rf s0, .ref s1, .ref s2, .int s3, .ref s4] h (b_X1_drawIsle_65 k11 h a0 a2 x3 x4 x5 s0 s1 s2 s3 s4) := by
  unfold b_X1_drawIsle_65
  refine ao_s (st_iconst dX1_drawIsle_65 ic_1) ?_
  refine ao_s (st_goto 70 dX1_drawIsle_66 (by decide)) ?_
  exact ao_w (sb_s (sb_n (sb_s (sb_s (sb_s (sb_s (sb_n sb_0))))))) (t_X1_drawIsle_70 hk11 h a0 a2 x3 x4 x5 1 s0 s1 s2 s3 s4)
def b_X1_drawIsle_34 (k11 : aH → Nat → Option Nat → Int32 → Int32 → Int32 → Option (Unit × aH)) (h : aH) (a0 : Nat) (a2 : Option Nat) (x3 : Int32) (x4 : Int32) (x5 : Int32) (s0 : Int32) : Option (Unit × aH) :=
(if (sh a0).1 = 8 then
((hR h a0 0).bind fun b22 =>
((hR h a0 1).bind fun b23 =>
(if s0 = 0 then
((hR h a0 1).bind fun b24 =>
(if (sh b24).1 = 15 then
(aBind (f_X8_isLate h b24) fun r26 h27 =>
(if r26 = 0 then
b_X1_drawIsle_70 k11 h27 a0 a2 x3 x4 x5 0 a2 b23 b22 (hI h a0 5) a0
else
b_X1_drawIsle_65 k11 h27 a0 a2 x3 x4 x5 a2 b23 b22 (hI h a0 5) a0))
else none))
else
b_X1_drawIsle_65 k11 h a0 a2 x3 x4 x5 a2 b23 b22 (hI h a0 5) a0)))
else none)
set_option maxHeartbeats 2000000 in
theorem t_X1_drawIsle_34 {k11 : aH → Nat → Option Nat → Int32 → Int32 → Int32 → Option (Unit × aH)} (hk11 : ∀ (h : aH) (a0 : Nat) (a2 : Option Nat) (x3 : Int32) (x4 : Int32) (x5 : Int32), AO eV 7 kX1_drawIsle 11 [some (.ref a0), none, some (va_rf a2), some (.int x3), some (.int x4), some (.int x5), none] [] h (k11 h a0 a2 x3 x4 x5)) (h : aH) (a0 : Nat) (a2 : Option Nat) (x3 : Int32) (x4 : Int32) (x5 : Int32) (s0 : Int32) : AO eV 7 kX1_drawIsle 34 [some (.ref a0), none, some (va_rf a2), some (.int x3), some (.int x4), some (.int x5), none] [.int s0] h (b_X1_drawIsle_34 k11 h a0 a2 x3 x4 x5 s0) := by
  unfold b_X1_drawIsle_34
  refine ao_s (st_istore (lv' := [some (.ref a0), none, some (va_rf a2), some (.int x3), some (.int x4), some (.int x5), some (.int s0)]) dX1_drawIsle_34 (by decide) rfl) ?_
  refine ao_s (st_aload_n dX1_drawIsle_36 rfl rfl) ?_
  refine ao_s (st_dup dX1_drawIsle_37 rfl) ?_
  refine ao_chk (fun e21 => ?_)
  refine ao_getI dX1_drawIsle_38 fl_X1_28 rfl e21 ?_
  refine ao_s (st_aload_n dX1_drawIsle_41 rfl rfl) ?_
  refine ao_getR dX1_drawIsle_42 fl_X1_35 rfl e21 (fun b22 => ?_)
  refine ao_s (st_aload_n dX1_drawIsle_45 rfl rfl) ?_
  refine ao_getR dX1_drawIsle_46 fl_X1_12 rfl e21 (fun b23 => ?_)
  refine ao_s (st_aload_nQ dX1_drawIsle_49 rfl rfl) ?_
  refine ao_s (st_iload dX1_drawIsle_50 rfl) ?_
  refine ao_br (br_if_ne (tgt := 65) dX1_drawIsle_52 (by decide)) (fun c29 => ?_) (fun c29 => ?_)
  · refine ao_s (st_aload_n dX1_drawIsle_55 rfl rfl) ?_
    refine ao_getR dX1_drawIsle_56 fl_X1_12 rfl e21 (fun b24 => ?_)
    refine ao_chk (fun e25 => ?_)
    refine ao_cVi (Kc := kX8_isLate) (As := []) (st := [va_rf a2, .ref b23, .ref b22, .int (hI h a0 5), .ref a0]) dX1_drawIsle_59 ml_X1_43 mv_X8_isLate rfl e25 (by decide) rfl rfl (by simp [aEn, aEnt, aCatN, aCatR, aCatQ, aCatL]) (by decide) (s_X8_isLate h b24) (fun r26 h27 => ?_)
    refine ao_br (br_if_eq (tgt := 69) dX1_drawIsle_62 (by decide)) (fun c28 => ?_) (fun c28 => ?_)
    · refine ao_s (st_iconst dX1_drawIsle_69 ic_0) ?_
      exact ao_w (sb_s (sb_n (sb_s (sb_s (sb_s (sb_s (sb_n sb_0))))))) (t_X1_drawIsle_70 hk11 h27 a0 a2 x3 x4 x5 0 a2 b23 b22 (hI h a0 5) a0)
    · exact ao_w (sb_s (sb_n (sb_s (sb_s (sb_s (sb_s (sb_n sb_0))))))) (t_X1_drawIsle_65 hk11 h27 a0 a2 x3 x4 x5 a2 b23 b22 (hI h a0 5) a0)
  · exact ao_w (sb_s (sb_n (sb_s (sb_s (sb_s (sb_s (sb_n sb_0))))))) (t_X1_drawIsle_65 hk11 h a0 a2 x3 x4 x5 a2 b23 b22 (hI h a0 5) a0)
def b_X1_drawIsle_11 (k11 : aH → Nat → Option Nat → Int32 → Int32 → Int32 → Option (Unit × aH)) (h : aH) (a0 : Nat) (a2 : Option Nat) (x3 : Int32) (x4 : Int32) (x5 : Int32) : Option (Unit × aH) :=
(if x3 ≤ x5 then
(if (sh a0).1 = 8 then
((hR h a0 1).bind fun b22 =>
((hR h a0 1).bind fun b23 =>
(if (sh b23).1 = 15 then
(if (sh b22).1 = 15 then
(aBind (f_X8_joinedBits h b22 0 (hI h b23 3)) fun r26 h27 =>
(aBind (f_J6_bitCount_0f7a4 h27 r26) fun r28 h29 =>
(aLet (pI h29 a0 4 ((hI h a0 4) + r28)) fun h30 =>
some ((), h30))))
else none)
else none)))
else none)
else
(if (sh a0).1 = 8 then
(aBind (f_X1_draw h a0) fun r32 h33 =>
(if x4 ≤ r32 - r32 / 100 * 100 then
b_X1_drawIsle_34 k11 h33 a0 a2 x3 x4 x5 0
else
b_X1_drawIsle_34 k11 h33 a0 a2 x3 x4 x5 1))
else none))
set_option maxHeartbeats 2000000 in
theorem t_X1_drawIsle_11 {k11 : aH → Nat → Option Nat → Int32 → Int32 → Int32 → Option (Unit × aH)} (hk11 : ∀ (h : aH) (a0 : Nat) (a2 : Option Nat) (x3 : Int32) (x4 : Int32) (x5 : Int32), AO eV 7 kX1_drawIsle 11 [some (.ref a0), none, some (va_rf a2), some (.int x3), some (.int x4), some (.int x5), none] [] h (k11 h a0 a2 x3 x4 x5)) (h : aH) (a0 : Nat) (a2 : Option Nat) (x3 : Int32) (x4 : Int32) (x5 : Int32) : AO eV 7 kX1_drawIsle 11 [some (.ref a0), none, some (va_rf a2), some (.int x3), some (.int x4), some (.int x5), none] [] h (b_X1_drawIsle_11 k11 h a0 a2 x3 x4 x5) := by
  unfold b_X1_drawIsle_11
  refine ao_s (st_iload dX1_drawIsle_11 rfl) ?_
  refine ao_s (st_iload_n dX1_drawIsle_13 rfl rfl) ?_
  refine ao_br (br_icmp_ge (tgt := 83) dX1_drawIsle_14 (by decide)) (fun c35 => ?_) (fun c35 => ?_)
  · refine ao_s (st_aload_n dX1_drawIsle_83 rfl rfl) ?_
    refine ao_s (st_dup dX1_drawIsle_84 rfl) ?_
    refine ao_chk (fun e21 => ?_)
    refine ao_getI dX1_drawIsle_85 fl_X1_25 rfl e21 ?_
    refine ao_s (st_aload_n dX1_drawIsle_88 rfl rfl) ?_
    refine ao_getR dX1_drawIsle_89 fl_X1_12 rfl e21 (fun b22 => ?_)
    refine ao_s (st_iconst dX1_drawIsle_92 ic_0) ?_
    refine ao_s (st_aload_n dX1_drawIsle_93 rfl rfl) ?_
    refine ao_getR dX1_drawIsle_94 fl_X1_12 rfl e21 (fun b23 => ?_)
    refine ao_chk (fun e24 => ?_)
    refine ao_getI dX1_drawIsle_97 fl_X1_94 rfl e24 ?_
    refine ao_chk (fun e25 => ?_)
    refine ao_cVi (Kc := kX8_joinedBits) (As := [.int 0, .int (hI h b23 3)]) (st := [.int (hI h a0 4), .ref a0]) dX1_drawIsle_100 ml_X1_97 mv_X8_joinedBits rfl e25 (by decide) rfl rfl (Nat.le_of_ble_eq_true rfl) (by decide) (s_X8_joinedBits h b22 0 (hI h b23 3)) (fun r26 h27 => ?_)
    refine ao_cSi (Kc := kJ6_bitCount_0f7a4) (As := [.int r26]) (st := [.int (hI h a0 4), .ref a0]) dX1_drawIsle_103 ml_X1_100 ms_J6_bitCount_0f7a4 rfl rfl (Nat.le_of_ble_eq_true rfl) (by decide) (s_J6_bitCount_0f7a4 h27 r26) (fun r28 h29 => ?_)
    refine ao_s (st_iadd dX1_drawIsle_106) ?_
    refine ao_putI dX1_drawIsle_107 fl_X1_25 rfl rfl rfl rfl e21 ?_
    refine ao_letH (fun h30 => ?_)
    exact ao_vr dX1_drawIsle_110 rfl
  · refine ao_s (st_aload_n dX1_drawIsle_17 rfl rfl) ?_
    refine ao_chk (fun e31 => ?_)
    refine ao_cVi (Kc := kX1_draw) (As := []) (st := []) dX1_drawIsle_18 ml_X1_90 mv_X1_draw rfl e31 (by decide) rfl rfl (Nat.le_of_ble_eq_true rfl) (by decide) (s_X1_draw h a0) (fun r32 h33 => ?_)
    refine ao_s (st_bipush dX1_drawIsle_21 bp_100) ?_
    refine ao_s (st_irem dX1_drawIsle_23 (by decide)) ?_
    refine ao_s (st_iload dX1_drawIsle_24 rfl) ?_
    refine ao_br (br_icmp_ge (tgt := 33) dX1_drawIsle_26 (by decide)) (fun c34 => ?_) (fun c34 => ?_)
    · refine ao_s (st_iconst dX1_drawIsle_33 ic_0) ?_
      exact ao_w (sb_s (sb_n (sb_s (sb_s (sb_s (sb_s (sb_n sb_0))))))) (t_X1_drawIsle_34 hk11 h33 a0 a2 x3 x4 x5 0)
    · refine ao_s (st_iconst dX1_drawIsle_29 ic_1) ?_
      refine ao_s (st_goto 34 dX1_drawIsle_30 (by decide)) ?_
      exact ao_w (sb_s (sb_n (sb_s (sb_s (sb_s (sb_s (sb_n sb_0))))))) (t_X1_drawIsle_34 hk11 h33 a0 a2 x3 x4 x5 1)
def f_X1_drawIsle_11 (n : Nat) : aH → Nat → Option Nat → Int32 → Int32 → Int32 → Option (Unit × aH) := aIt (fun _ _ _ _ _ _ => none) (fun k => b_X1_drawIsle_11 k) n
theorem l_X1_drawIsle_11 (n : Nat) : ∀ (h : aH) (a0 : Nat) (a2 : Option Nat) (x3 : Int32) (x4 : Int32) (x5 : Int32), AO eV 7 kX1_drawIsle 11 [some (.ref a0), none, some (va_rf a2), some (.int x3), some (.int x4), some (.int x5), none] [] h (f_X1_drawIsle_11 n h a0 a2 x3 x4 x5) := by
  induction n with
  | zero => intros; exact ao_none
  | succ n ih =>
    intro h a0 a2 x3 x4 x5
    exact t_X1_drawIsle_11 ih h a0 a2 x3 x4 x5
def f_X1_drawIsle (h : aH) (a0 : Nat) (a1 : Nat) (a2 : Option Nat) (x3 : Int32) (x4 : Int32) : Option (Unit × aH) :=
(if (sh a0).1 = 8 then
((hR h a0 1).bind fun b22 =>
(if (sh b22).1 = 15 then
(aBind (f_X8_copyFrom h b22 a1) fun r24 h25 =>
f_X1_drawIsle_11 2000 h25 a0 a2 x3 x4 0)
else none))
else none)
set_option maxHeartbeats 2000000 in
theorem s_X1_drawIsle (h : aH) (a0 : Nat) (a1 : Nat) (a2 : Option Nat) (x3 : Int32) (x4 : Int32) : SO eV 7 kX1_drawIsle [.ref a0, .ref a1, va_rf a2, .int x3, .int x4] h (f_X1_drawIsle h a0 a1 a2 x3 x4) := by
  refine so_of (lv0 := [some (.ref a0), some (.ref a1), some (va_rf a2), some (.int x3), some (.int x4), none, none]) pn_X1 (by simp [aEn, aEnt, aCatN, aCatR, aCatQ, aCatL]) (by simp [aEn, aEnt, aCatN, aCatR, aCatQ, aCatL]) ?_
  unfold f_X1_drawIsle
  refine ao_s (st_aload_n dX1_drawIsle_0 rfl rfl) ?_
  refine ao_chk (fun e21 => ?_)
  refine ao_getR dX1_drawIsle_1 fl_X1_12 rfl e21 (fun b22 => ?_)
  refine ao_s (st_aload_n dX1_drawIsle_4 rfl rfl) ?_
  refine ao_chk (fun e23 => ?_)
  refine ao_cVv (Kc := kX8_copyFrom) (As := [.ref a1]) (st := []) dX1_drawIsle_5 ml_X1_39 mv_X8_copyFrom rfl e23 (by decide) rfl rfl (Nat.le_of_ble_eq_true rfl) (by decide) (s_X8_copyFrom h b22 a1) (fun r24 h25 => ?_)
  refine ao_s (st_iconst dX1_drawIsle_8 ic_0) ?_
  refine ao_s (st_istore (lv' := [some (.ref a0), some (.ref a1), some (va_rf a2), some (.int x3), some (.int x4), some (.int 0), none]) dX1_drawIsle_9 (by decide) rfl) ?_
  exact ao_w (sb_s (sb_n (sb_s (sb_s (sb_s (sb_s (sb_n sb_0))))))) (l_X1_drawIsle_11 2000 h25 a0 a2 x3 x4 0)
def b_X2_isTooMany_40 (h : aH) (a1 : Nat) (x3 : Int32) : Option (Int32 × aH) :=
(if x3 = 2 then
(if (sh a1).1 = 15 then
(if hI h a1 4 < 4 then
some (0, h)
else
some (1, h))
else none)
else
some (0, h))
set_option maxHeartbeats 2000000 in
theorem t_X2_isTooMany_40 (h : aH) (a1 : Nat) (x3 : Int32) : AO eI 2 kX2_isTooMany 40 [none, some (.ref a1), none, some (.int x3)] [] h (b_X2_isTooMany_40 h a1 x3) := by
  unfold b_X2_isTooMany_40
  refine ao_s (st_iload_n dX2_isTooMany_40 rfl rfl) ?_
  refine ao_s (st_iconst dX2_isTooMany_41 ic_2) ?_
  refine ao_br (br_icmp_ne (tgt := 57) dX2_isTooMany_42 (by decide)) (fun c23 => ?_) (fun c23 => ?_)
  · refine ao_s (st_aload_n dX2_isTooMany_45 rfl rfl) ?_
    refine ao_chk (fun e21 => ?_)
    refine ao_getI dX2_isTooMany_46 fl_X2_74 rfl e21 ?_
    refine ao_s (st_iconst dX2_isTooMany_49 ic_4) ?_
    refine ao_br (br_icmp_lt (tgt := 57) dX2_isTooMany_50 (by decide)) (fun c22 => ?_) (fun c22 => ?_)
    · refine ao_s (st_iconst dX2_isTooMany_57 ic_0) ?_
      exact ao_ir dX2_isTooMany_58 rfl (by decide)
    · refine ao_s (st_iconst dX2_isTooMany_53 ic_1) ?_
      refine ao_s (st_goto 58 dX2_isTooMany_54 (by decide)) ?_
      exact ao_ir dX2_isTooMany_58 rfl (by decide)
  · refine ao_s (st_iconst dX2_isTooMany_57 ic_0) ?_
    exact ao_ir dX2_isTooMany_58 rfl (by decide)
def b_X2_isTooMany_24 (h : aH) (a1 : Nat) (x3 : Int32) (s0 : Int32) (s1 : Int32) : Option (Int32 × aH) :=
(if s1 = s0 then
(if x3 = 1 then
(if (sh a1).1 = 15 then
(if 4 ≤ hI h a1 3 then
some (1, h)
else
b_X2_isTooMany_40 h a1 x3)
else none)
else
b_X2_isTooMany_40 h a1 x3)
else
some (1, h))
set_option maxHeartbeats 2000000 in
theorem t_X2_isTooMany_24 (h : aH) (a1 : Nat) (x3 : Int32) (s0 : Int32) (s1 : Int32) : AO eI 2 kX2_isTooMany 24 [none, some (.ref a1), none, some (.int x3)] [.int s0, .int s1] h (b_X2_isTooMany_24 h a1 x3 s0 s1) := by
  unfold b_X2_isTooMany_24
  refine ao_br (br_icmp_ne (tgt := 53) dX2_isTooMany_24 (by decide)) (fun c24 => ?_) (fun c24 => ?_)
  · refine ao_s (st_iload_n dX2_isTooMany_27 rfl rfl) ?_
    refine ao_s (st_iconst dX2_isTooMany_28 ic_1) ?_
    refine ao_br (br_icmp_ne (tgt := 40) dX2_isTooMany_29 (by decide)) (fun c23 => ?_) (fun c23 => ?_)
    · refine ao_s (st_aload_n dX2_isTooMany_32 rfl rfl) ?_
      refine ao_chk (fun e21 => ?_)
      refine ao_getI dX2_isTooMany_33 fl_X2_71 rfl e21 ?_
      refine ao_s (st_iconst dX2_isTooMany_36 ic_4) ?_
      refine ao_br (br_icmp_ge (tgt := 53) dX2_isTooMany_37 (by decide)) (fun c22 => ?_) (fun c22 => ?_)
      · refine ao_s (st_iconst dX2_isTooMany_53 ic_1) ?_
        refine ao_s (st_goto 58 dX2_isTooMany_54 (by decide)) ?_
        exact ao_ir dX2_isTooMany_58 rfl (by decide)
      · exact ao_w (sb_n (sb_s (sb_n (sb_s sb_0)))) (t_X2_isTooMany_40 h a1 x3)
    · exact ao_w (sb_n (sb_s (sb_n (sb_s sb_0)))) (t_X2_isTooMany_40 h a1 x3)
  · refine ao_s (st_iconst dX2_isTooMany_53 ic_1) ?_
    refine ao_s (st_goto 58 dX2_isTooMany_54 (by decide)) ?_
    exact ao_ir dX2_isTooMany_58 rfl (by decide)
def b_X2_isTooMany_15 (h : aH) (a1 : Nat) (x2 : Int32) (x3 : Int32) (s0 : Int32) : Option (Int32 × aH) :=
(if x2 = 0 then
b_X2_isTooMany_24 h a1 x3 1 s0
else
b_X2_isTooMany_24 h a1 x3 0 s0)
set_option maxHeartbeats 2000000 in
theorem t_X2_isTooMany_15 (h : aH) (a1 : Nat) (x2 : Int32) (x3 : Int32) (s0 : Int32) : AO eI 2 kX2_isTooMany 15 [none, some (.ref a1), some (.int x2), some (.int x3)] [.int s0] h (b_X2_isTooMany_15 h a1 x2 x3 s0) := by
  unfold b_X2_isTooMany_15
  refine ao_s (st_iload_n dX2_isTooMany_15 rfl rfl) ?_
  refine ao_br (br_if_ne (tgt := 23) dX2_isTooMany_16 (by decide)) (fun c21 => ?_) (fun c21 => ?_)
  · refine ao_s (st_iconst dX2_isTooMany_19 ic_1) ?_
    refine ao_s (st_goto 24 dX2_isTooMany_20 (by decide)) ?_
    exact ao_w (sb_n (sb_s (sb_n (sb_s sb_0)))) (t_X2_isTooMany_24 h a1 x3 1 s0)
  · refine ao_s (st_iconst dX2_isTooMany_23 ic_0) ?_
    exact ao_w (sb_n (sb_s (sb_n (sb_s sb_0)))) (t_X2_isTooMany_24 h a1 x3 0 s0)
def f_X2_isTooMany (h : aH) (a0 : Nat) (a1 : Nat) (x2 : Int32) (x3 : Int32) : Option (Int32 × aH) :=
(if 40 ≤ x2 then
some (1, h)
else
(if x3 = 0 then
b_X2_isTooMany_15 h a1 x2 x3 1
else
b_X2_isTooMany_15 h a1 x2 x3 0))
set_option maxHeartbeats 2000000 in
theorem s_X2_isTooMany (h : aH) (a0 : Nat) (a1 : Nat) (x2 : Int32) (x3 : Int32) : SO eI 2 kX2_isTooMany [.ref a0, .ref a1, .int x2, .int x3] h (f_X2_isTooMany h a0 a1 x2 x3) := by
  refine so_of (lv0 := [some (.ref a0), some (.ref a1), some (.int x2), some (.int x3)]) pn_X2 (Nat.le_of_ble_eq_true rfl) rfl ?_
  unfold f_X2_isTooMany
  refine ao_s (st_iload_n dX2_isTooMany_0 rfl rfl) ?_
  refine ao_s (st_bipush dX2_isTooMany_1 bp_40) ?_
  refine ao_br (br_icmp_ge (tgt := 53) dX2_isTooMany_3 (by decide)) (fun c22 => ?_) (fun c22 => ?_)
  · refine ao_s (st_iconst dX2_isTooMany_53 ic_1) ?_
    refine ao_s (st_goto 58 dX2_isTooMany_54 (by decide)) ?_
    exact ao_ir dX2_isTooMany_58 rfl (by decide)
  · refine ao_s (st_iload_n dX2_isTooMany_6 rfl rfl) ?_
    refine ao_br (br_if_ne (tgt := 14) dX2_isTooMany_7 (by decide)) (fun c21 => ?_) (fun c21 => ?_)
    · refine ao_s (st_iconst dX2_isTooMany_10 ic_1) ?_
      refine ao_s (st_goto 15 dX2_isTooMany_11 (by decide)) ?_
      exact ao_w (sb_n (sb_s (sb_s (sb_s sb_0)))) (t_X2_isTooMany_15 h a1 x2 x3 1)
    · refine ao_s (st_iconst dX2_isTooMany_14 ic_0) ?_
      exact ao_w (sb_n (sb_s (sb_s (sb_s sb_0)))) (t_X2_isTooMany_15 h a1 x2 x3 0)
def f_X9_blame (h : aH) (a0 : Nat) (x1 : Int32) (x2 : Int32) : Option (Unit × aH) :=
(if (sh a0).1 = 16 then
(if hI h a0 3 = 0 then
(aLet (pI h a0 3 ((1 + (8 * x1)) + x2)) fun h22 =>
some ((), h22))
else
some ((), h))
else none)
set_option maxHeartbeats 2000000 in
theorem s_X9_blame (h : aH) (a0 : Nat) (x1 : Int32) (x2 : Int32) : SO eV 2 kX9_blame [.ref a0, .int x1, .int x2] h (f_X9_blame h a0 x1 x2) := by
  refine so_of (lv0 := [some (.ref a0), some (.int x1), some (.int x2)]) pn_X9 (Nat.le_of_ble_eq_true rfl) rfl ?_
  unfold f_X9_blame
  refine ao_s (st_aload_n dX9_blame_0 rfl rfl) ?_
  refine ao_chk (fun e21 => ?_)
  refine ao_getI dX9_blame_1 fl_X9_22 rfl e21 ?_
  refine ao_br (br_if_ne (tgt := 19) dX9_blame_4 (by decide)) (fun c23 => ?_) (fun c23 => ?_)
  · refine ao_s (st_aload_n dX9_blame_7 rfl rfl) ?_
    refine ao_s (st_iconst dX9_blame_8 ic_1) ?_
    refine ao_s (st_bipush dX9_blame_9 bp_8) ?_
    refine ao_s (st_iload_n dX9_blame_11 rfl rfl) ?_
    refine ao_s (st_imul dX9_blame_12) ?_
    refine ao_s (st_iadd dX9_blame_13) ?_
    refine ao_s (st_iload_n dX9_blame_14 rfl rfl) ?_
    refine ao_s (st_iadd dX9_blame_15) ?_
    refine ao_putI dX9_blame_16 fl_X9_22 rfl rfl rfl rfl e21 ?_
    refine ao_letH (fun h22 => ?_)
    exact ao_vr dX9_blame_19 rfl
  · exact ao_vr dX9_blame_19 rfl
