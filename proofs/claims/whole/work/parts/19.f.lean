def f_X4_startLook (h : aH) (a0 : Nat) : Option (Unit × aH) :=
(if (sh a0).1 = 11 then
(aLet (pI h a0 3 0) fun h22 =>
some ((), h22))
else none)
set_option maxHeartbeats 2000000 in
theorem s_X4_startLook (h : aH) (a0 : Nat) : SO eV 2 kX4_startLook [.ref a0] h (f_X4_startLook h a0) := by
  refine so_of (lv0 := [some (.ref a0)]) pn_X4 (Nat.le_of_ble_eq_true rfl) rfl ?_
  unfold f_X4_startLook
  refine ao_s (st_aload_n dX4_startLook_0 rfl rfl) ?_
  refine ao_s (st_iconst dX4_startLook_1 ic_0) ?_
  refine ao_chk (fun e21 => ?_)
  refine ao_putI dX4_startLook_2 fl_X4_22 rfl rfl rfl rfl e21 ?_
  refine ao_letH (fun h22 => ?_)
  exact ao_vr dX4_startLook_5 rfl
def b_X4_addToLook_79 (k79 : aH → Nat → Int32 → Option (Unit × aH)) (h : aH) (a0 : Nat) (x4 : Int32) : Option (Unit × aH) :=
(if 4 ≤ x4 then
(if (sh a0).1 = 11 then
(aLet (pI h a0 3 ((hI h a0 3) + 1)) fun h22 =>
some ((), h22))
else none)
else
(if (sh a0).1 = 11 then
((hR h a0 2).bind fun b24 =>
((hR h a0 1).bind fun b25 =>
(if (sh b25).1 = 15 then
(aBind (f_X8_partnerOf h b25 0 x4) fun r27 h28 =>
(aLet (((hI h a0 3) * 4) + x4) fun x29 =>
(if (sh b24).1 = 0 then
(if aIn x29 (sh b24).2 then
(aLet (pI h28 b24 x29.toNatClampNeg r27) fun h31 =>
k79 h31 a0 (x4 + 1))
else none)
else none)))
else none)))
else none))
set_option maxHeartbeats 2000000 in
theorem t_X4_addToLook_79 {k79 : aH → Nat → Int32 → Option (Unit × aH)} (hk79 : ∀ (h : aH) (a0 : Nat) (x4 : Int32) {z1 : Option Value} {z2 : Option Value} {z3 : Option Value}, AO eV 9 kX4_addToLook 79 [some (.ref a0), z1, z2, z3, some (.int x4)] [] h (k79 h a0 x4)) (h : aH) (a0 : Nat) (x4 : Int32) {z1 : Option Value} {z2 : Option Value} {z3 : Option Value} : AO eV 9 kX4_addToLook 79 [some (.ref a0), z1, z2, z3, some (.int x4)] [] h (b_X4_addToLook_79 k79 h a0 x4) := by
  unfold b_X4_addToLook_79
  refine ao_s (st_iload dX4_addToLook_79 rfl) ?_
  refine ao_s (st_iconst dX4_addToLook_81 ic_4) ?_
  refine ao_br (br_icmp_ge (tgt := 115) dX4_addToLook_82 (by decide)) (fun c32 => ?_) (fun c32 => ?_)
  · refine ao_s (st_aload_n dX4_addToLook_115 rfl rfl) ?_
    refine ao_s (st_dup dX4_addToLook_116 rfl) ?_
    refine ao_chk (fun e21 => ?_)
    refine ao_getI dX4_addToLook_117 fl_X4_22 rfl e21 ?_
    refine ao_s (st_iconst dX4_addToLook_120 ic_1) ?_
    refine ao_s (st_iadd dX4_addToLook_121) ?_
    refine ao_putI dX4_addToLook_122 fl_X4_22 rfl rfl rfl rfl e21 ?_
    refine ao_letH (fun h22 => ?_)
    exact ao_vr dX4_addToLook_125 rfl
  · refine ao_s (st_aload_n dX4_addToLook_85 rfl rfl) ?_
    refine ao_chk (fun e23 => ?_)
    refine ao_getR dX4_addToLook_86 fl_X4_18 rfl e23 (fun b24 => ?_)
    refine ao_s (st_aload_n dX4_addToLook_89 rfl rfl) ?_
    refine ao_getI dX4_addToLook_90 fl_X4_22 rfl e23 ?_
    refine ao_s (st_iconst dX4_addToLook_93 ic_4) ?_
    refine ao_s (st_imul dX4_addToLook_94) ?_
    refine ao_s (st_iload dX4_addToLook_95 rfl) ?_
    refine ao_s (st_iadd dX4_addToLook_97) ?_
    refine ao_s (st_aload_n dX4_addToLook_98 rfl rfl) ?_
    refine ao_getR dX4_addToLook_99 fl_X4_14 rfl e23 (fun b25 => ?_)
    refine ao_s (st_iconst dX4_addToLook_102 ic_0) ?_
    refine ao_s (st_iload dX4_addToLook_103 rfl) ?_
    refine ao_chk (fun e26 => ?_)
    refine ao_cVi (As := [.int 0, .int x4]) (st := [.int (((hI h a0 3) * 4) + x4), .ref b24]) dX4_addToLook_105 ml_X4_88 mv_X8_partnerOf rfl e26 (by decide) rfl rfl (Nat.le_of_ble_eq_true rfl) (by decide) (s_X8_partnerOf h b25 0 x4) (fun r27 h28 => ?_)
    refine ao_let2 (fun x29 => ?_)
    refine ao_chk (fun e30 => ?_)
    refine ao_iast dX4_addToLook_108 e30 ?_
    refine ao_letH (fun h31 => ?_)
    refine ao_s (st_iinc (lv' := [some (.ref a0), z1, z2, z3, some (.int (x4 + 1))]) dX4_addToLook_109 rfl nc_1 (by decide) rfl) ?_
    refine ao_s (st_goto 79 dX4_addToLook_112 (by decide)) ?_
    exact hk79 h31 a0 (x4 + 1)
def f_X4_addToLook_79 (n : Nat) : aH → Nat → Int32 → Option (Unit × aH) := aIt (fun _ _ _ => none) (fun k => b_X4_addToLook_79 k) n
theorem l_X4_addToLook_79 (n : Nat) : ∀ (h : aH) (a0 : Nat) (x4 : Int32) {z1 : Option Value} {z2 : Option Value} {z3 : Option Value}, AO eV 9 kX4_addToLook 79 [some (.ref a0), z1, z2, z3, some (.int x4)] [] h (f_X4_addToLook_79 n h a0 x4) := by
  induction n with
  | zero => intros; exact ao_none
  | succ n ih =>
    intro h a0 x4 z1 z2 z3
    exact t_X4_addToLook_79 ih h a0 x4
def b_X4_addToLook_44 (k44 : aH → Nat → Option Nat → Int32 → Int32 → Option (Unit × aH)) (h : aH) (a0 : Nat) (a2 : Option Nat) (x3 : Int32) (x4 : Int32) : Option (Unit × aH) :=
(if x3 < x4 then
f_X4_addToLook_79 2000 h a0 0
else
(if (sh a0).1 = 11 then
((hR h a0 0).bind fun b22 =>
((hR h a0 1).bind fun b23 =>
((hR h a0 1).bind fun b24 =>
(if (sh b24).1 = 15 then
(aBind (f_X8_isLate h b24) fun r26 h27 =>
(if (sh b22).1 = 7 then
(aBind (f_X0_pass h27 b22 b23 a2 r26) fun r29 h30 =>
k44 h30 a0 a2 x3 (x4 + 1))
else none))
else none))))
else none))
set_option maxHeartbeats 2000000 in
theorem t_X4_addToLook_44 {k44 : aH → Nat → Option Nat → Int32 → Int32 → Option (Unit × aH)} (hk44 : ∀ (h : aH) (a0 : Nat) (a2 : Option Nat) (x3 : Int32) (x4 : Int32) {z1 : Option Value}, AO eV 9 kX4_addToLook 44 [some (.ref a0), z1, some (va_rf a2), some (.int x3), some (.int x4)] [] h (k44 h a0 a2 x3 x4)) (h : aH) (a0 : Nat) (a2 : Option Nat) (x3 : Int32) (x4 : Int32) {z1 : Option Value} : AO eV 9 kX4_addToLook 44 [some (.ref a0), z1, some (va_rf a2), some (.int x3), some (.int x4)] [] h (b_X4_addToLook_44 k44 h a0 a2 x3 x4) := by
  unfold b_X4_addToLook_44
  refine ao_s (st_iload dX4_addToLook_44 rfl) ?_
  refine ao_s (st_iload_n dX4_addToLook_46 rfl rfl) ?_
  refine ao_br (br_icmp_gt (tgt := 76) dX4_addToLook_47 (by decide)) (fun c31 => ?_) (fun c31 => ?_)
  · refine ao_s (st_iconst dX4_addToLook_76 ic_0) ?_
    refine ao_s (st_istore (lv' := [some (.ref a0), z1, some (va_rf a2), some (.int x3), some (.int 0)]) dX4_addToLook_77 (by decide) rfl) ?_
    exact l_X4_addToLook_79 2000 h a0 0
  · refine ao_s (st_aload_n dX4_addToLook_50 rfl rfl) ?_
    refine ao_chk (fun e21 => ?_)
    refine ao_getR dX4_addToLook_51 fl_X4_41 rfl e21 (fun b22 => ?_)
    refine ao_s (st_aload_n dX4_addToLook_54 rfl rfl) ?_
    refine ao_getR dX4_addToLook_55 fl_X4_14 rfl e21 (fun b23 => ?_)
    refine ao_s (st_aload_nQ dX4_addToLook_58 rfl rfl) ?_
    refine ao_s (st_aload_n dX4_addToLook_59 rfl rfl) ?_
    refine ao_getR dX4_addToLook_60 fl_X4_14 rfl e21 (fun b24 => ?_)
    refine ao_chk (fun e25 => ?_)
    refine ao_cVi (As := []) (st := [va_rf a2, .ref b23, .ref b22]) dX4_addToLook_63 ml_X4_62 mv_X8_isLate rfl e25 (by decide) rfl rfl (Nat.le_of_ble_eq_true rfl) (by decide) (s_X8_isLate h b24) (fun r26 h27 => ?_)
    refine ao_chk (fun e28 => ?_)
    refine ao_cVi (As := [.ref b23, va_rf a2, .int r26]) (st := []) dX4_addToLook_66 ml_X4_66 mv_X0_pass rfl e28 (by decide) rfl rfl (Nat.le_of_ble_eq_true rfl) (by decide) (s_X0_pass h27 b22 b23 a2 r26) (fun r29 h30 => ?_)
    refine ao_s (st_pop dX4_addToLook_69 rfl) ?_
    refine ao_s (st_iinc (lv' := [some (.ref a0), z1, some (va_rf a2), some (.int x3), some (.int (x4 + 1))]) dX4_addToLook_70 rfl nc_1 (by decide) rfl) ?_
    refine ao_s (st_goto 44 dX4_addToLook_73 (by decide)) ?_
    exact hk44 h30 a0 a2 x3 (x4 + 1)
def f_X4_addToLook_44 (n : Nat) : aH → Nat → Option Nat → Int32 → Int32 → Option (Unit × aH) := aIt (fun _ _ _ _ _ => none) (fun k => b_X4_addToLook_44 k) n
theorem l_X4_addToLook_44 (n : Nat) : ∀ (h : aH) (a0 : Nat) (a2 : Option Nat) (x3 : Int32) (x4 : Int32) {z1 : Option Value}, AO eV 9 kX4_addToLook 44 [some (.ref a0), z1, some (va_rf a2), some (.int x3), some (.int x4)] [] h (f_X4_addToLook_44 n h a0 a2 x3 x4) := by
  induction n with
  | zero => intros; exact ao_none
  | succ n ih =>
    intro h a0 a2 x3 x4 z1
    exact t_X4_addToLook_44 ih h a0 a2 x3 x4
def f_X4_addToLook (h : aH) (a0 : Nat) (a1 : Nat) (a2 : Option Nat) (x3 : Int32) : Option (Unit × aH) :=
(if (sh a0).1 = 11 then
((hR h a0 1).bind fun b22 =>
(if (sh a1).1 = 17 then
((hR h a1 0).bind fun b24 =>
(if (sh b22).1 = 15 then
(aBind (f_X8_copyFrom h b22 b24) fun r26 h27 =>
(if 7 ≤ hI h27 a0 3 then
some ((), h27)
else
(aBind (f_X4_fitsFromHere h27 a0 a1 a2) fun r28 h29 =>
(if r28 = 0 then
some ((), h29)
else
((hR h29 a0 1).bind fun b30 =>
((hR h29 a1 0).bind fun b31 =>
(if (sh b30).1 = 15 then
(aBind (f_X8_copyFrom h29 b30 b31) fun r33 h34 =>
f_X4_addToLook_44 2000 h34 a0 a2 x3 0)
else none)))))))
else none))
else none))
else none)
set_option maxHeartbeats 2000000 in
theorem s_X4_addToLook (h : aH) (a0 : Nat) (a1 : Nat) (a2 : Option Nat) (x3 : Int32) : SO eV 9 kX4_addToLook [.ref a0, .ref a1, va_rf a2, .int x3] h (f_X4_addToLook h a0 a1 a2 x3) := by
  refine so_of (lv0 := [some (.ref a0), some (.ref a1), some (va_rf a2), some (.int x3), none]) pn_X4 (Nat.le_of_ble_eq_true rfl) rfl ?_
  unfold f_X4_addToLook
  refine ao_s (st_aload_n dX4_addToLook_0 rfl rfl) ?_
  refine ao_chk (fun e21 => ?_)
  refine ao_getR dX4_addToLook_1 fl_X4_14 rfl e21 (fun b22 => ?_)
  refine ao_s (st_aload_n dX4_addToLook_4 rfl rfl) ?_
  refine ao_chk (fun e23 => ?_)
  refine ao_getR dX4_addToLook_5 fl_X4_45 rfl e23 (fun b24 => ?_)
  refine ao_chk (fun e25 => ?_)
  refine ao_cVv (As := [.ref b24]) (st := []) dX4_addToLook_8 ml_X4_50 mv_X8_copyFrom rfl e25 (by decide) rfl rfl (Nat.le_of_ble_eq_true rfl) (by decide) (s_X8_copyFrom h b22 b24) (fun r26 h27 => ?_)
  refine ao_s (st_aload_n dX4_addToLook_11 rfl rfl) ?_
  refine ao_getI dX4_addToLook_12 fl_X4_22 rfl e21 ?_
  refine ao_s (st_bipush dX4_addToLook_15 bp_7) ?_
  refine ao_br (br_icmp_ge (tgt := 29) dX4_addToLook_17 (by decide)) (fun c36 => ?_) (fun c36 => ?_)
  · exact ao_vr dX4_addToLook_29 rfl
  · refine ao_s (st_aload_n dX4_addToLook_20 rfl rfl) ?_
    refine ao_s (st_aload_n dX4_addToLook_21 rfl rfl) ?_
    refine ao_s (st_aload_nQ dX4_addToLook_22 rfl rfl) ?_
    refine ao_cVi (As := [.ref a1, va_rf a2]) (st := []) dX4_addToLook_23 ml_X4_54 mv_X4_fitsFromHere rfl e21 (by decide) rfl rfl (Nat.le_of_ble_eq_true rfl) (by decide) (s_X4_fitsFromHere h27 a0 a1 a2) (fun r28 h29 => ?_)
    refine ao_br (br_if_ne (tgt := 30) dX4_addToLook_26 (by decide)) (fun c35 => ?_) (fun c35 => ?_)
    · exact ao_vr dX4_addToLook_29 rfl
    · refine ao_s (st_aload_n dX4_addToLook_30 rfl rfl) ?_
      refine ao_getR dX4_addToLook_31 fl_X4_14 rfl e21 (fun b30 => ?_)
      refine ao_s (st_aload_n dX4_addToLook_34 rfl rfl) ?_
      refine ao_getR dX4_addToLook_35 fl_X4_45 rfl e23 (fun b31 => ?_)
      refine ao_chk (fun e32 => ?_)
      refine ao_cVv (As := [.ref b31]) (st := []) dX4_addToLook_38 ml_X4_50 mv_X8_copyFrom rfl e32 (by decide) rfl rfl (Nat.le_of_ble_eq_true rfl) (by decide) (s_X8_copyFrom h29 b30 b31) (fun r33 h34 => ?_)
      refine ao_s (st_iconst dX4_addToLook_41 ic_0) ?_
      refine ao_s (st_istore (lv' := [some (.ref a0), some (.ref a1), some (va_rf a2), some (.int x3), some (.int 0)]) dX4_addToLook_42 (by decide) rfl) ?_
      exact l_X4_addToLook_44 2000 h34 a0 a2 x3 0
def b_X4_mostAlikeBy_54 (k18 : aH → Nat → Int32 → Int32 → Int32 → Int32 → Int32 → Option (Int32 × aH)) (h : aH) (a0 : Nat) (x1 : Int32) (x2 : Int32) (x3 : Int32) (x4 : Int32) (x5 : Int32) : Option (Int32 × aH) :=
k18 h a0 x1 x2 x3 x4 (x5 + 1)
set_option maxHeartbeats 2000000 in
theorem t_X4_mostAlikeBy_54 {k18 : aH → Nat → Int32 → Int32 → Int32 → Int32 → Int32 → Option (Int32 × aH)} (hk18 : ∀ (h : aH) (a0 : Nat) (x1 : Int32) (x2 : Int32) (x3 : Int32) (x4 : Int32) (x5 : Int32), AO eI 3 kX4_mostAlikeBy 18 [some (.ref a0), some (.int x1), some (.int x2), some (.int x3), some (.int x4), some (.int x5)] [] h (k18 h a0 x1 x2 x3 x4 x5)) (h : aH) (a0 : Nat) (x1 : Int32) (x2 : Int32) (x3 : Int32) (x4 : Int32) (x5 : Int32) : AO eI 3 kX4_mostAlikeBy 54 [some (.ref a0), some (.int x1), some (.int x2), some (.int x3), some (.int x4), some (.int x5)] [] h (b_X4_mostAlikeBy_54 k18 h a0 x1 x2 x3 x4 x5) := by
  unfold b_X4_mostAlikeBy_54
  refine ao_s (st_iinc (lv' := [some (.ref a0), some (.int x1), some (.int x2), some (.int x3), some (.int x4), some (.int (x5 + 1))]) dX4_mostAlikeBy_54 rfl nc_1 (by decide) rfl) ?_
  refine ao_s (st_goto 18 dX4_mostAlikeBy_57 (by decide)) ?_
  exact hk18 h a0 x1 x2 x3 x4 (x5 + 1)
def b_X4_mostAlikeBy_18 (k4 : aH → Nat → Int32 → Int32 → Int32 → Option (Int32 × aH)) (k18 : aH → Nat → Int32 → Int32 → Int32 → Int32 → Int32 → Option (Int32 × aH)) (h : aH) (a0 : Nat) (x1 : Int32) (x2 : Int32) (x3 : Int32) (x4 : Int32) (x5 : Int32) : Option (Int32 × aH) :=
(if (sh a0).1 = 11 then
(if hI h a0 3 ≤ x5 then
(aBind (f_J9_max_7cf53 h x2 x4) fun r22 h23 =>
k4 h23 a0 x1 r22 (x3 + 1))
else
((hR h a0 2).bind fun b24 =>
(aLet ((x3 * 4) + x1) fun x25 =>
(if (sh b24).1 = 0 then
(if aIn x25 (sh b24).2 then
((hR h a0 2).bind fun b27 =>
(aLet ((x5 * 4) + x1) fun x28 =>
(if (sh b27).1 = 0 then
(if aIn x28 (sh b27).2 then
(if hI h b24 x25.toNatClampNeg = hI h b27 x28.toNatClampNeg then
b_X4_mostAlikeBy_54 k18 h a0 x1 x2 x3 (x4 + 1) x5
else
b_X4_mostAlikeBy_54 k18 h a0 x1 x2 x3 x4 x5)
else none)
else none)))
else none)
else none))))
else none)
set_option maxHeartbeats 2000000 in
theorem t_X4_mostAlikeBy_18 {k4 : aH → Nat → Int32 → Int32 → Int32 → Option (Int32 × aH)} (hk4 : ∀ (h : aH) (a0 : Nat) (x1 : Int32) (x2 : Int32) (x3 : Int32) {z4 : Option Value} {z5 : Option Value}, AO eI 3 kX4_mostAlikeBy 4 [some (.ref a0), some (.int x1), some (.int x2), some (.int x3), z4, z5] [] h (k4 h a0 x1 x2 x3)) {k18 : aH → Nat → Int32 → Int32 → Int32 → Int32 → Int32 → Option (Int32 × aH)} (hk18 : ∀ (h : aH) (a0 : Nat) (x1 : Int32) (x2 : Int32) (x3 : Int32) (x4 : Int32) (x5 : Int32), AO eI 3 kX4_mostAlikeBy 18 [some (.ref a0), some (.int x1), some (.int x2), some (.int x3), some (.int x4), some (.int x5)] [] h (k18 h a0 x1 x2 x3 x4 x5)) (h : aH) (a0 : Nat) (x1 : Int32) (x2 : Int32) (x3 : Int32) (x4 : Int32) (x5 : Int32) : AO eI 3 kX4_mostAlikeBy 18 [some (.ref a0), some (.int x1), some (.int x2), some (.int x3), some (.int x4), some (.int x5)] [] h (b_X4_mostAlikeBy_18 k4 k18 h a0 x1 x2 x3 x4 x5) := by
  unfold b_X4_mostAlikeBy_18
  refine ao_s (st_iload dX4_mostAlikeBy_18 rfl) ?_
  refine ao_s (st_aload_n dX4_mostAlikeBy_20 rfl rfl) ?_
  refine ao_chk (fun e21 => ?_)
  refine ao_getI dX4_mostAlikeBy_21 fl_X4_22 rfl e21 ?_
  refine ao_br (br_icmp_ge (tgt := 60) dX4_mostAlikeBy_24 (by decide)) (fun c31 => ?_) (fun c31 => ?_)
  · refine ao_s (st_iload_n dX4_mostAlikeBy_60 rfl rfl) ?_
    refine ao_s (st_iload dX4_mostAlikeBy_61 rfl) ?_
    refine ao_cSi (As := [.int x2, .int x4]) (st := []) dX4_mostAlikeBy_63 ml_X4_95 ms_J9_max_7cf53 rfl rfl (Nat.le_of_ble_eq_true rfl) (by decide) (s_J9_max_7cf53 h x2 x4) (fun r22 h23 => ?_)
    refine ao_s (st_istore_n (lv' := [some (.ref a0), some (.int x1), some (.int r22), some (.int x3), some (.int x4), some (.int x5)]) dX4_mostAlikeBy_66 rfl (by decide) rfl) ?_
    refine ao_s (st_iinc (lv' := [some (.ref a0), some (.int x1), some (.int r22), some (.int (x3 + 1)), some (.int x4), some (.int x5)]) dX4_mostAlikeBy_67 rfl nc_1 (by decide) rfl) ?_
    refine ao_s (st_goto 4 dX4_mostAlikeBy_70 (by decide)) ?_
    exact hk4 h23 a0 x1 r22 (x3 + 1)
  · refine ao_s (st_aload_n dX4_mostAlikeBy_27 rfl rfl) ?_
    refine ao_getR dX4_mostAlikeBy_28 fl_X4_18 rfl e21 (fun b24 => ?_)
    refine ao_s (st_iload_n dX4_mostAlikeBy_31 rfl rfl) ?_
    refine ao_s (st_iconst dX4_mostAlikeBy_32 ic_4) ?_
    refine ao_s (st_imul dX4_mostAlikeBy_33) ?_
    refine ao_s (st_iload_n dX4_mostAlikeBy_34 rfl rfl) ?_
    refine ao_s (st_iadd dX4_mostAlikeBy_35) ?_
    refine ao_letI (fun x25 => ?_)
    refine ao_chk (fun e26 => ?_)
    refine ao_iald dX4_mostAlikeBy_36 e26 ?_
    refine ao_s (st_aload_n dX4_mostAlikeBy_37 rfl rfl) ?_
    refine ao_getR dX4_mostAlikeBy_38 fl_X4_18 rfl e21 (fun b27 => ?_)
    refine ao_s (st_iload dX4_mostAlikeBy_41 rfl) ?_
    refine ao_s (st_iconst dX4_mostAlikeBy_43 ic_4) ?_
    refine ao_s (st_imul dX4_mostAlikeBy_44) ?_
    refine ao_s (st_iload_n dX4_mostAlikeBy_45 rfl rfl) ?_
    refine ao_s (st_iadd dX4_mostAlikeBy_46) ?_
    refine ao_letI (fun x28 => ?_)
    refine ao_chk (fun e29 => ?_)
    refine ao_iald dX4_mostAlikeBy_47 e29 ?_
    refine ao_br (br_icmp_ne (tgt := 54) dX4_mostAlikeBy_48 (by decide)) (fun c30 => ?_) (fun c30 => ?_)
    · refine ao_s (st_iinc (lv' := [some (.ref a0), some (.int x1), some (.int x2), some (.int x3), some (.int (x4 + 1)), some (.int x5)]) dX4_mostAlikeBy_51 rfl nc_1 (by decide) rfl) ?_
      exact t_X4_mostAlikeBy_54 hk18 h a0 x1 x2 x3 (x4 + 1) x5
    · exact t_X4_mostAlikeBy_54 hk18 h a0 x1 x2 x3 x4 x5
def f_X4_mostAlikeBy_18 (k4 : aH → Nat → Int32 → Int32 → Int32 → Option (Int32 × aH)) (n : Nat) : aH → Nat → Int32 → Int32 → Int32 → Int32 → Int32 → Option (Int32 × aH) := aIt (fun _ _ _ _ _ _ _ => none) (fun k => b_X4_mostAlikeBy_18 k4 k) n
theorem l_X4_mostAlikeBy_18 {k4 : aH → Nat → Int32 → Int32 → Int32 → Option (Int32 × aH)} (hk4 : ∀ (h : aH) (a0 : Nat) (x1 : Int32) (x2 : Int32) (x3 : Int32) {z4 : Option Value} {z5 : Option Value}, AO eI 3 kX4_mostAlikeBy 4 [some (.ref a0), some (.int x1), some (.int x2), some (.int x3), z4, z5] [] h (k4 h a0 x1 x2 x3)) (n : Nat) : ∀ (h : aH) (a0 : Nat) (x1 : Int32) (x2 : Int32) (x3 : Int32) (x4 : Int32) (x5 : Int32), AO eI 3 kX4_mostAlikeBy 18 [some (.ref a0), some (.int x1), some (.int x2), some (.int x3), some (.int x4), some (.int x5)] [] h (f_X4_mostAlikeBy_18 k4 n h a0 x1 x2 x3 x4 x5) := by
  induction n with
  | zero => intros; exact ao_none
  | succ n ih =>
    intro h a0 x1 x2 x3 x4 x5
    exact t_X4_mostAlikeBy_18 hk4 ih h a0 x1 x2 x3 x4 x5
def b_X4_mostAlikeBy_4 (k4 : aH → Nat → Int32 → Int32 → Int32 → Option (Int32 × aH)) (h : aH) (a0 : Nat) (x1 : Int32) (x2 : Int32) (x3 : Int32) : Option (Int32 × aH) :=
(if (sh a0).1 = 11 then
(if hI h a0 3 ≤ x3 then
some (x2, h)
else
f_X4_mostAlikeBy_18 k4 2000 h a0 x1 x2 x3 0 0)
else none)
set_option maxHeartbeats 2000000 in
theorem t_X4_mostAlikeBy_4 {k4 : aH → Nat → Int32 → Int32 → Int32 → Option (Int32 × aH)} (hk4 : ∀ (h : aH) (a0 : Nat) (x1 : Int32) (x2 : Int32) (x3 : Int32) {z4 : Option Value} {z5 : Option Value}, AO eI 3 kX4_mostAlikeBy 4 [some (.ref a0), some (.int x1), some (.int x2), some (.int x3), z4, z5] [] h (k4 h a0 x1 x2 x3)) (h : aH) (a0 : Nat) (x1 : Int32) (x2 : Int32) (x3 : Int32) {z4 : Option Value} {z5 : Option Value} : AO eI 3 kX4_mostAlikeBy 4 [some (.ref a0), some (.int x1), some (.int x2), some (.int x3), z4, z5] [] h (b_X4_mostAlikeBy_4 k4 h a0 x1 x2 x3) := by
  unfold b_X4_mostAlikeBy_4
  refine ao_s (st_iload_n dX4_mostAlikeBy_4 rfl rfl) ?_
  refine ao_s (st_aload_n dX4_mostAlikeBy_5 rfl rfl) ?_
  refine ao_chk (fun e21 => ?_)
  refine ao_getI dX4_mostAlikeBy_6 fl_X4_22 rfl e21 ?_
  refine ao_br (br_icmp_ge (tgt := 73) dX4_mostAlikeBy_9 (by decide)) (fun c22 => ?_) (fun c22 => ?_)
  · refine ao_s (st_iload_n dX4_mostAlikeBy_73 rfl rfl) ?_
    exact ao_ir dX4_mostAlikeBy_74 rfl rfl
  · refine ao_s (st_iconst dX4_mostAlikeBy_12 ic_0) ?_
    refine ao_s (st_istore (lv' := [some (.ref a0), some (.int x1), some (.int x2), some (.int x3), some (.int 0), z5]) dX4_mostAlikeBy_13 (by decide) rfl) ?_
    refine ao_s (st_iconst dX4_mostAlikeBy_15 ic_0) ?_
    refine ao_s (st_istore (lv' := [some (.ref a0), some (.int x1), some (.int x2), some (.int x3), some (.int 0), some (.int 0)]) dX4_mostAlikeBy_16 (by decide) rfl) ?_
    exact l_X4_mostAlikeBy_18 hk4 2000 h a0 x1 x2 x3 0 0
def f_X4_mostAlikeBy_4 (n : Nat) : aH → Nat → Int32 → Int32 → Int32 → Option (Int32 × aH) := aIt (fun _ _ _ _ _ => none) (fun k => b_X4_mostAlikeBy_4 k) n
theorem l_X4_mostAlikeBy_4 (n : Nat) : ∀ (h : aH) (a0 : Nat) (x1 : Int32) (x2 : Int32) (x3 : Int32) {z4 : Option Value} {z5 : Option Value}, AO eI 3 kX4_mostAlikeBy 4 [some (.ref a0), some (.int x1), some (.int x2), some (.int x3), z4, z5] [] h (f_X4_mostAlikeBy_4 n h a0 x1 x2 x3) := by
  induction n with
  | zero => intros; exact ao_none
  | succ n ih =>
    intro h a0 x1 x2 x3 z4 z5
    exact t_X4_mostAlikeBy_4 ih h a0 x1 x2 x3
def f_X4_mostAlikeBy (h : aH) (a0 : Nat) (x1 : Int32) : Option (Int32 × aH) :=
f_X4_mostAlikeBy_4 2000 h a0 x1 0 0
set_option maxHeartbeats 2000000 in
theorem s_X4_mostAlikeBy (h : aH) (a0 : Nat) (x1 : Int32) : SO eI 3 kX4_mostAlikeBy [.ref a0, .int x1] h (f_X4_mostAlikeBy h a0 x1) := by
  refine so_of (lv0 := [some (.ref a0), some (.int x1), none, none, none, none]) pn_X4 (Nat.le_of_ble_eq_true rfl) rfl ?_
  unfold f_X4_mostAlikeBy
  refine ao_s (st_iconst dX4_mostAlikeBy_0 ic_0) ?_
  refine ao_s (st_istore_n (lv' := [some (.ref a0), some (.int x1), some (.int 0), none, none, none]) dX4_mostAlikeBy_1 rfl (by decide) rfl) ?_
  refine ao_s (st_iconst dX4_mostAlikeBy_2 ic_0) ?_
  refine ao_s (st_istore_n (lv' := [some (.ref a0), some (.int x1), some (.int 0), some (.int 0), none, none]) dX4_mostAlikeBy_3 rfl (by decide) rfl) ?_
  exact l_X4_mostAlikeBy_4 2000 h a0 x1 0 0
def b_X4_chooseLook_57 (k14 : aH → Nat → Int32 → Int32 → Option (Unit × aH)) (h : aH) (a0 : Nat) (x1 : Int32) (x2 : Int32) : Option (Unit × aH) :=
k14 h a0 x1 (x2 + 1)
set_option maxHeartbeats 2000000 in
theorem t_X4_chooseLook_57 {k14 : aH → Nat → Int32 → Int32 → Option (Unit × aH)} (hk14 : ∀ (h : aH) (a0 : Nat) (x1 : Int32) (x2 : Int32) {z3 : Option Value}, AO eV 4 kX4_chooseLook 14 [some (.ref a0), some (.int x1), some (.int x2), z3] [] h (k14 h a0 x1 x2)) (h : aH) (a0 : Nat) (x1 : Int32) (x2 : Int32) {z3 : Option Value} : AO eV 4 kX4_chooseLook 57 [some (.ref a0), some (.int x1), some (.int x2), z3] [] h (b_X4_chooseLook_57 k14 h a0 x1 x2) := by
  unfold b_X4_chooseLook_57
  refine ao_s (st_iinc (lv' := [some (.ref a0), some (.int x1), some (.int (x2 + 1)), z3]) dX4_chooseLook_57 rfl nc_1 (by decide) rfl) ?_
  refine ao_s (st_goto 14 dX4_chooseLook_60 (by decide)) ?_
  exact hk14 h a0 x1 (x2 + 1)
def b_X4_chooseLook_47 (k14 : aH → Nat → Int32 → Int32 → Option (Unit × aH)) (h : aH) (a0 : Nat) (x1 : Int32) (x2 : Int32) (x3 : Int32) : Option (Unit × aH) :=
(if (sh a0).1 = 11 then
(aLet (pI h a0 7 x2) fun h22 =>
(aLet (pI h22 a0 8 x3) fun h23 =>
b_X4_chooseLook_57 k14 h23 a0 x1 x2))
else none)
set_option maxHeartbeats 2000000 in
theorem t_X4_chooseLook_47 {k14 : aH → Nat → Int32 → Int32 → Option (Unit × aH)} (hk14 : ∀ (h : aH) (a0 : Nat) (x1 : Int32) (x2 : Int32) {z3 : Option Value}, AO eV 4 kX4_chooseLook 14 [some (.ref a0), some (.int x1), some (.int x2), z3] [] h (k14 h a0 x1 x2)) (h : aH) (a0 : Nat) (x1 : Int32) (x2 : Int32) (x3 : Int32) : AO eV 4 kX4_chooseLook 47 [some (.ref a0), some (.int x1), some (.int x2), some (.int x3)] [] h (b_X4_chooseLook_47 k14 h a0 x1 x2 x3) := by
  unfold b_X4_chooseLook_47
  refine ao_s (st_aload_n dX4_chooseLook_47 rfl rfl) ?_
  refine ao_s (st_iload_n dX4_chooseLook_48 rfl rfl) ?_
  refine ao_chk (fun e21 => ?_)
  refine ao_putI dX4_chooseLook_49 fl_X4_35 rfl rfl rfl rfl e21 ?_
  refine ao_letH (fun h22 => ?_)
  refine ao_s (st_aload_n dX4_chooseLook_52 rfl rfl) ?_
  refine ao_s (st_iload_n dX4_chooseLook_53 rfl rfl) ?_
  refine ao_putI dX4_chooseLook_54 fl_X4_38 rfl rfl rfl rfl e21 ?_
  refine ao_letH (fun h23 => ?_)
  exact t_X4_chooseLook_57 hk14 h23 a0 x1 x2
def b_X4_chooseLook_14 (k14 : aH → Nat → Int32 → Int32 → Option (Unit × aH)) (h : aH) (a0 : Nat) (x1 : Int32) (x2 : Int32) : Option (Unit × aH) :=
(if x1 ≤ x2 then
some ((), h)
else
(if (sh a0).1 = 11 then
(if hI h a0 3 ≤ 0 then
some ((), h)
else
(aBind (f_X4_mostAlikeBy h a0 x2) fun r22 h23 =>
(if hI h23 a0 7 < 0 then
b_X4_chooseLook_47 k14 h23 a0 x1 x2 r22
else
(if hI h23 a0 8 ≤ r22 then
b_X4_chooseLook_57 k14 h23 a0 x1 x2
else
b_X4_chooseLook_47 k14 h23 a0 x1 x2 r22))))
else none))
set_option maxHeartbeats 2000000 in
theorem t_X4_chooseLook_14 {k14 : aH → Nat → Int32 → Int32 → Option (Unit × aH)} (hk14 : ∀ (h : aH) (a0 : Nat) (x1 : Int32) (x2 : Int32) {z3 : Option Value}, AO eV 4 kX4_chooseLook 14 [some (.ref a0), some (.int x1), some (.int x2), z3] [] h (k14 h a0 x1 x2)) (h : aH) (a0 : Nat) (x1 : Int32) (x2 : Int32) {z3 : Option Value} : AO eV 4 kX4_chooseLook 14 [some (.ref a0), some (.int x1), some (.int x2), z3] [] h (b_X4_chooseLook_14 k14 h a0 x1 x2) := by
  unfold b_X4_chooseLook_14
  refine ao_s (st_iload_n dX4_chooseLook_14 rfl rfl) ?_
  refine ao_s (st_iload_n dX4_chooseLook_15 rfl rfl) ?_
  refine ao_br (br_icmp_ge (tgt := 63) dX4_chooseLook_16 (by decide)) (fun c27 => ?_) (fun c27 => ?_)
  · exact ao_vr dX4_chooseLook_63 rfl
  · refine ao_s (st_aload_n dX4_chooseLook_19 rfl rfl) ?_
    refine ao_chk (fun e21 => ?_)
    refine ao_getI dX4_chooseLook_20 fl_X4_22 rfl e21 ?_
    refine ao_br (br_if_le (tgt := 63) dX4_chooseLook_23 (by decide)) (fun c26 => ?_) (fun c26 => ?_)
    · exact ao_vr dX4_chooseLook_63 rfl
    · refine ao_s (st_aload_n dX4_chooseLook_26 rfl rfl) ?_
      refine ao_s (st_iload_n dX4_chooseLook_27 rfl rfl) ?_
      refine ao_cVi (As := [.int x2]) (st := []) dX4_chooseLook_28 ml_X4_91 mv_X4_mostAlikeBy rfl e21 (by decide) rfl rfl (Nat.le_of_ble_eq_true rfl) (by decide) (s_X4_mostAlikeBy h a0 x2) (fun r22 h23 => ?_)
      refine ao_s (st_istore_n (lv' := [some (.ref a0), some (.int x1), some (.int x2), some (.int r22)]) dX4_chooseLook_31 rfl (by decide) rfl) ?_
      refine ao_s (st_aload_n dX4_chooseLook_32 rfl rfl) ?_
      refine ao_getI dX4_chooseLook_33 fl_X4_35 rfl e21 ?_
      refine ao_br (br_if_lt (tgt := 47) dX4_chooseLook_36 (by decide)) (fun c25 => ?_) (fun c25 => ?_)
      · exact t_X4_chooseLook_47 hk14 h23 a0 x1 x2 r22
      · refine ao_s (st_iload_n dX4_chooseLook_39 rfl rfl) ?_
        refine ao_s (st_aload_n dX4_chooseLook_40 rfl rfl) ?_
        refine ao_getI dX4_chooseLook_41 fl_X4_38 rfl e21 ?_
        refine ao_br (br_icmp_ge (tgt := 57) dX4_chooseLook_44 (by decide)) (fun c24 => ?_) (fun c24 => ?_)
        · exact t_X4_chooseLook_57 hk14 h23 a0 x1 x2
        · exact t_X4_chooseLook_47 hk14 h23 a0 x1 x2 r22
def f_X4_chooseLook_14 (n : Nat) : aH → Nat → Int32 → Int32 → Option (Unit × aH) := aIt (fun _ _ _ _ => none) (fun k => b_X4_chooseLook_14 k) n
theorem l_X4_chooseLook_14 (n : Nat) : ∀ (h : aH) (a0 : Nat) (x1 : Int32) (x2 : Int32) {z3 : Option Value}, AO eV 4 kX4_chooseLook 14 [some (.ref a0), some (.int x1), some (.int x2), z3] [] h (f_X4_chooseLook_14 n h a0 x1 x2) := by
  induction n with
  | zero => intros; exact ao_none
  | succ n ih =>
    intro h a0 x1 x2 z3
    exact t_X4_chooseLook_14 ih h a0 x1 x2
def f_X4_chooseLook (h : aH) (a0 : Nat) (x1 : Int32) : Option (Unit × aH) :=
(if (sh a0).1 = 11 then
(aLet (pI h a0 7 (-2)) fun h22 =>
(aLet (pI h22 a0 8 (-2)) fun h23 =>
f_X4_chooseLook_14 2000 h23 a0 x1 0))
else none)
set_option maxHeartbeats 2000000 in
theorem s_X4_chooseLook (h : aH) (a0 : Nat) (x1 : Int32) : SO eV 4 kX4_chooseLook [.ref a0, .int x1] h (f_X4_chooseLook h a0 x1) := by
  refine so_of (lv0 := [some (.ref a0), some (.int x1), none, none]) pn_X4 (Nat.le_of_ble_eq_true rfl) rfl ?_
  unfold f_X4_chooseLook
  refine ao_s (st_aload_n dX4_chooseLook_0 rfl rfl) ?_
  refine ao_s (st_bipush dX4_chooseLook_1 bp_m2) ?_
  refine ao_chk (fun e21 => ?_)
  refine ao_putI dX4_chooseLook_3 fl_X4_35 rfl rfl rfl rfl e21 ?_
  refine ao_letH (fun h22 => ?_)
  refine ao_s (st_aload_n dX4_chooseLook_6 rfl rfl) ?_
  refine ao_s (st_bipush dX4_chooseLook_7 bp_m2) ?_
  refine ao_putI dX4_chooseLook_9 fl_X4_38 rfl rfl rfl rfl e21 ?_
  refine ao_letH (fun h23 => ?_)
  refine ao_s (st_iconst dX4_chooseLook_12 ic_0) ?_
  refine ao_s (st_istore_n (lv' := [some (.ref a0), some (.int x1), some (.int 0), none]) dX4_chooseLook_13 rfl (by decide) rfl) ?_
  exact l_X4_chooseLook_14 2000 h23 a0 x1 0
def f_X5_clear (h : aH) (a0 : Nat) : Option (Unit × aH) :=
(if (sh a0).1 = 12 then
(aLet (pI h a0 4 0) fun h22 =>
(aLet (pI h22 a0 5 0) fun h23 =>
some ((), h23)))
else none)
set_option maxHeartbeats 2000000 in
theorem s_X5_clear (h : aH) (a0 : Nat) : SO eV 2 kX5_clear [.ref a0] h (f_X5_clear h a0) := by
  refine so_of (lv0 := [some (.ref a0)]) pn_X5 (Nat.le_of_ble_eq_true rfl) rfl ?_
  unfold f_X5_clear
  refine ao_s (st_aload_n dX5_clear_0 rfl rfl) ?_
  refine ao_s (st_iconst dX5_clear_1 ic_0) ?_
  refine ao_chk (fun e21 => ?_)
  refine ao_putI dX5_clear_2 fl_X5_22 rfl rfl rfl rfl e21 ?_
  refine ao_letH (fun h22 => ?_)
  refine ao_s (st_aload_n dX5_clear_5 rfl rfl) ?_
  refine ao_s (st_iconst dX5_clear_6 ic_0) ?_
  refine ao_putI dX5_clear_7 fl_X5_26 rfl rfl rfl rfl e21 ?_
  refine ao_letH (fun h23 => ?_)
  exact ao_vr dX5_clear_10 rfl
def f_X5_emit (h : aH) (a0 : Nat) (x1 : Int32) (x2 : Int32) : Option (Unit × aH) :=
(if (sh a0).1 = 12 then
(if 256 ≤ hI h a0 4 then
some ((), h)
else
((hR h a0 0).bind fun b22 =>
(aLet (hI h a0 4) fun x23 =>
(if (sh b22).1 = 0 then
(if aIn x23 (sh b22).2 then
(aLet (pI h b22 x23.toNatClampNeg (x1 ||| (x2 <<< (4 &&& 31)))) fun h25 =>
(aLet (pI h25 a0 4 ((hI h25 a0 4) + 1)) fun h26 =>
some ((), h26)))
else none)
else none))))
else none)
set_option maxHeartbeats 2000000 in
theorem s_X5_emit (h : aH) (a0 : Nat) (x1 : Int32) (x2 : Int32) : SO eV 2 kX5_emit [.ref a0, .int x1, .int x2] h (f_X5_emit h a0 x1 x2) := by
  refine so_of (lv0 := [some (.ref a0), some (.int x1), some (.int x2)]) pn_X5 (Nat.le_of_ble_eq_true rfl) rfl ?_
  unfold f_X5_emit
  refine ao_s (st_aload_n dX5_emit_0 rfl rfl) ?_
  refine ao_chk (fun e21 => ?_)
  refine ao_getI dX5_emit_1 fl_X5_22 rfl e21 ?_
  refine ao_s (st_sipush dX5_emit_4 sp_256) ?_
  refine ao_br (br_icmp_ge (tgt := 34) dX5_emit_7 (by decide)) (fun c27 => ?_) (fun c27 => ?_)
  · exact ao_vr dX5_emit_34 rfl
  · refine ao_s (st_aload_n dX5_emit_10 rfl rfl) ?_
    refine ao_getR dX5_emit_11 fl_X5_9 rfl e21 (fun b22 => ?_)
    refine ao_s (st_aload_n dX5_emit_14 rfl rfl) ?_
    refine ao_getI dX5_emit_15 fl_X5_22 rfl e21 ?_
    refine ao_s (st_iload_n dX5_emit_18 rfl rfl) ?_
    refine ao_s (st_iload_n dX5_emit_19 rfl rfl) ?_
    refine ao_s (st_iconst dX5_emit_20 ic_4) ?_
    refine ao_s (st_ishl dX5_emit_21) ?_
    refine ao_s (st_ior dX5_emit_22) ?_
    refine ao_let2 (fun x23 => ?_)
    refine ao_chk (fun e24 => ?_)
    refine ao_iast dX5_emit_23 e24 ?_
    refine ao_letH (fun h25 => ?_)
    refine ao_s (st_aload_n dX5_emit_24 rfl rfl) ?_
    refine ao_s (st_dup dX5_emit_25 rfl) ?_
    refine ao_getI dX5_emit_26 fl_X5_22 rfl e21 ?_
    refine ao_s (st_iconst dX5_emit_29 ic_1) ?_
    refine ao_s (st_iadd dX5_emit_30) ?_
    refine ao_putI dX5_emit_31 fl_X5_22 rfl rfl rfl rfl e21 ?_
    refine ao_letH (fun h26 => ?_)
    exact ao_vr dX5_emit_34 rfl
def f_X5_addClause (h : aH) (a0 : Nat) (x1 : Int32) (x2 : Int32) : Option (Unit × aH) :=
(if (sh a0).1 = 12 then
(if 12 ≤ hI h a0 5 then
some ((), h)
else
((hR h a0 1).bind fun b22 =>
(aLet (hI h a0 5) fun x23 =>
(if (sh b22).1 = 0 then
(if aIn x23 (sh b22).2 then
(aLet (pI h b22 x23.toNatClampNeg x1) fun h25 =>
((hR h25 a0 2).bind fun b26 =>
(aLet (hI h25 a0 5) fun x27 =>
(if (sh b26).1 = 0 then
(if aIn x27 (sh b26).2 then
(aLet (pI h25 b26 x27.toNatClampNeg x2) fun h29 =>
((hR h29 a0 3).bind fun b30 =>
(aLet (hI h29 a0 5) fun x31 =>
(if (sh b30).1 = 0 then
(if aIn x31 (sh b30).2 then
(aLet (pI h29 b30 x31.toNatClampNeg (hI h29 a0 4)) fun h33 =>
(aLet (pI h33 a0 5 ((hI h33 a0 5) + 1)) fun h34 =>
some ((), h34)))
else none)
else none))))
else none)
else none))))
else none)
else none))))
else none)
set_option maxHeartbeats 2000000 in
theorem s_X5_addClause (h : aH) (a0 : Nat) (x1 : Int32) (x2 : Int32) : SO eV 2 kX5_addClause [.ref a0, .int x1, .int x2] h (f_X5_addClause h a0 x1 x2) := by
  refine so_of (lv0 := [some (.ref a0), some (.int x1), some (.int x2)]) pn_X5 (Nat.le_of_ble_eq_true rfl) rfl ?_
  unfold f_X5_addClause
  refine ao_s (st_aload_n dX5_addClause_0 rfl rfl) ?_
  refine ao_chk (fun e21 => ?_)
  refine ao_getI dX5_addClause_1 fl_X5_26 rfl e21 ?_
  refine ao_s (st_bipush dX5_addClause_4 bp_12) ?_
  refine ao_br (br_icmp_ge (tgt := 52) dX5_addClause_6 (by decide)) (fun c35 => ?_) (fun c35 => ?_)
  · exact ao_vr dX5_addClause_52 rfl
  · refine ao_s (st_aload_n dX5_addClause_9 rfl rfl) ?_
    refine ao_getR dX5_addClause_10 fl_X5_13 rfl e21 (fun b22 => ?_)
    refine ao_s (st_aload_n dX5_addClause_13 rfl rfl) ?_
    refine ao_getI dX5_addClause_14 fl_X5_26 rfl e21 ?_
    refine ao_s (st_iload_n dX5_addClause_17 rfl rfl) ?_
    refine ao_let2 (fun x23 => ?_)
    refine ao_chk (fun e24 => ?_)
    refine ao_iast dX5_addClause_18 e24 ?_
    refine ao_letH (fun h25 => ?_)
    refine ao_s (st_aload_n dX5_addClause_19 rfl rfl) ?_
    refine ao_getR dX5_addClause_20 fl_X5_16 rfl e21 (fun b26 => ?_)
    refine ao_s (st_aload_n dX5_addClause_23 rfl rfl) ?_
    refine ao_getI dX5_addClause_24 fl_X5_26 rfl e21 ?_
    refine ao_s (st_iload_n dX5_addClause_27 rfl rfl) ?_
    refine ao_let2 (fun x27 => ?_)
    refine ao_chk (fun e28 => ?_)
    refine ao_iast dX5_addClause_28 e28 ?_
    refine ao_letH (fun h29 => ?_)
    refine ao_s (st_aload_n dX5_addClause_29 rfl rfl) ?_
    refine ao_getR dX5_addClause_30 fl_X5_19 rfl e21 (fun b30 => ?_)
    refine ao_s (st_aload_n dX5_addClause_33 rfl rfl) ?_
    refine ao_getI dX5_addClause_34 fl_X5_26 rfl e21 ?_
    refine ao_s (st_aload_n dX5_addClause_37 rfl rfl) ?_
    refine ao_getI dX5_addClause_38 fl_X5_22 rfl e21 ?_
    refine ao_let2 (fun x31 => ?_)
    refine ao_chk (fun e32 => ?_)
    refine ao_iast dX5_addClause_41 e32 ?_
    refine ao_letH (fun h33 => ?_)
    refine ao_s (st_aload_n dX5_addClause_42 rfl rfl) ?_
    refine ao_s (st_dup dX5_addClause_43 rfl) ?_
    refine ao_getI dX5_addClause_44 fl_X5_26 rfl e21 ?_
    refine ao_s (st_iconst dX5_addClause_47 ic_1) ?_
    refine ao_s (st_iadd dX5_addClause_48) ?_
    refine ao_putI dX5_addClause_49 fl_X5_26 rfl rfl rfl rfl e21 ?_
    refine ao_letH (fun h34 => ?_)
    exact ao_vr dX5_addClause_52 rfl
def f_X6_isNextWord (h : aH) (a0 : Nat) (a1 : Nat) : Option (Int32 × aH) :=
(if (sh a0).1 = 13 then
((hR h a0 0).bind fun b22 =>
(if (sh b22).1 = 16 then
(if hI h b22 3 = 0 then
((hR h a0 0).bind fun b24 =>
(if (sh b24).1 = 16 then
(aBind (f_X9_takeWord h b24 a1) fun r26 h27 =>
(if r26 = (-1) then
some (0, h27)
else
some (1, h27)))
else none))
else
some (0, h))
else none))
else none)
set_option maxHeartbeats 2000000 in
theorem s_X6_isNextWord (h : aH) (a0 : Nat) (a1 : Nat) : SO eI 8 kX6_isNextWord [.ref a0, .ref a1] h (f_X6_isNextWord h a0 a1) := by
  refine so_of (lv0 := [some (.ref a0), some (.ref a1)]) pn_X6 (Nat.le_of_ble_eq_true rfl) rfl ?_
  unfold f_X6_isNextWord
  refine ao_s (st_aload_n dX6_isNextWord_0 rfl rfl) ?_
  refine ao_chk (fun e21 => ?_)
  refine ao_getR dX6_isNextWord_1 fl_X6_22 rfl e21 (fun b22 => ?_)
  refine ao_chk (fun e23 => ?_)
  refine ao_getI dX6_isNextWord_4 fl_X6_38 rfl e23 ?_
  refine ao_br (br_if_ne (tgt := 26) dX6_isNextWord_7 (by decide)) (fun c29 => ?_) (fun c29 => ?_)
  · refine ao_s (st_aload_n dX6_isNextWord_10 rfl rfl) ?_
    refine ao_getR dX6_isNextWord_11 fl_X6_22 rfl e21 (fun b24 => ?_)
    refine ao_s (st_aload_n dX6_isNextWord_14 rfl rfl) ?_
    refine ao_chk (fun e25 => ?_)
    refine ao_cVi (As := [.ref a1]) (st := []) dX6_isNextWord_15 ml_X6_61 mv_X9_takeWord rfl e25 (by decide) rfl rfl (Nat.le_of_ble_eq_true rfl) (by decide) (s_X9_takeWord h b24 a1) (fun r26 h27 => ?_)
    refine ao_s (st_iconst dX6_isNextWord_18 ic_m1) ?_
    refine ao_br (br_icmp_eq (tgt := 26) dX6_isNextWord_19 (by decide)) (fun c28 => ?_) (fun c28 => ?_)
    · refine ao_s (st_iconst dX6_isNextWord_26 ic_0) ?_
      exact ao_ir dX6_isNextWord_27 rfl (by decide)
    · refine ao_s (st_iconst dX6_isNextWord_22 ic_1) ?_
      refine ao_s (st_goto 27 dX6_isNextWord_23 (by decide)) ?_
      exact ao_ir dX6_isNextWord_27 rfl (by decide)
  · refine ao_s (st_iconst dX6_isNextWord_26 ic_0) ?_
    exact ao_ir dX6_isNextWord_27 rfl (by decide)
def b_X6_countValue_18 (h : aH) (a0 : Nat) : Option (Unit × aH) :=
(if (sh a0).1 = 13 then
(aLet (pI h a0 2 ((hI h a0 2) + 1)) fun h22 =>
some ((), h22))
else none)
set_option maxHeartbeats 2000000 in
theorem t_X6_countValue_18 (h : aH) (a0 : Nat) {z1 : Option Value} : AO eV 3 kX6_countValue 18 [some (.ref a0), z1] [] h (b_X6_countValue_18 h a0) := by
  unfold b_X6_countValue_18
  refine ao_s (st_aload_n dX6_countValue_18 rfl rfl) ?_
  refine ao_s (st_dup dX6_countValue_19 rfl) ?_
  refine ao_chk (fun e21 => ?_)
  refine ao_getI dX6_countValue_20 fl_X6_18 rfl e21 ?_
  refine ao_s (st_iconst dX6_countValue_23 ic_1) ?_
  refine ao_s (st_iadd dX6_countValue_24) ?_
  refine ao_putI dX6_countValue_25 fl_X6_18 rfl rfl rfl rfl e21 ?_
  refine ao_letH (fun h22 => ?_)
  exact ao_vr dX6_countValue_28 rfl
def f_X6_countValue (h : aH) (a0 : Nat) (x1 : Int32) : Option (Unit × aH) :=
(if (sh a0).1 = 13 then
(if hI h a0 2 < 60 then
b_X6_countValue_18 h a0
else
((hR h a0 0).bind fun b22 =>
(if (sh b22).1 = 16 then
(aBind (f_X9_blame h b22 x1 3) fun r24 h25 =>
b_X6_countValue_18 h25 a0)
else none)))
else none)
set_option maxHeartbeats 2000000 in
theorem s_X6_countValue (h : aH) (a0 : Nat) (x1 : Int32) : SO eV 3 kX6_countValue [.ref a0, .int x1] h (f_X6_countValue h a0 x1) := by
  refine so_of (lv0 := [some (.ref a0), some (.int x1)]) pn_X6 (Nat.le_of_ble_eq_true rfl) rfl ?_
  unfold f_X6_countValue
  refine ao_s (st_aload_n dX6_countValue_0 rfl rfl) ?_
  refine ao_chk (fun e21 => ?_)
  refine ao_getI dX6_countValue_1 fl_X6_18 rfl e21 ?_
  refine ao_s (st_bipush dX6_countValue_4 bp_60) ?_
  refine ao_br (br_icmp_lt (tgt := 18) dX6_countValue_6 (by decide)) (fun c26 => ?_) (fun c26 => ?_)
  · exact t_X6_countValue_18 h a0
  · refine ao_s (st_aload_n dX6_countValue_9 rfl rfl) ?_
    refine ao_getR dX6_countValue_10 fl_X6_22 rfl e21 (fun b22 => ?_)
    refine ao_s (st_iload_n dX6_countValue_13 rfl rfl) ?_
    refine ao_s (st_iconst dX6_countValue_14 ic_3) ?_
    refine ao_chk (fun e23 => ?_)
    refine ao_cVv (As := [.int x1, .int 3]) (st := []) dX6_countValue_15 ml_X6_52 mv_X9_blame rfl e23 (by decide) rfl rfl (Nat.le_of_ble_eq_true rfl) (by decide) (s_X9_blame h b22 x1 3) (fun r24 h25 => ?_)
    exact t_X6_countValue_18 h25 a0
def f_X9_isDigitHere (h : aH) (a0 : Nat) : Option (Int32 × aH) :=
(if (sh a0).1 = 16 then
(aBind (f_X9_byteAt h a0 (hI h a0 2)) fun r22 h23 =>
(aBind (f_X9_isDigit h23 a0 r22) fun r24 h25 =>
(if r24 = 0 ∨ r24 = 1 then some (r24, h25) else none)))
else none)
set_option maxHeartbeats 2000000 in
theorem s_X9_isDigitHere (h : aH) (a0 : Nat) : SO eI 3 kX9_isDigitHere [.ref a0] h (f_X9_isDigitHere h a0) := by
  refine so_of (lv0 := [some (.ref a0)]) pn_X9 (Nat.le_of_ble_eq_true rfl) rfl ?_
  unfold f_X9_isDigitHere
  refine ao_s (st_aload_n dX9_isDigitHere_0 rfl rfl) ?_
  refine ao_s (st_aload_n dX9_isDigitHere_1 rfl rfl) ?_
  refine ao_s (st_aload_n dX9_isDigitHere_2 rfl rfl) ?_
  refine ao_chk (fun e21 => ?_)
  refine ao_getI dX9_isDigitHere_3 fl_X9_19 rfl e21 ?_
  refine ao_cVi (As := [.int (hI h a0 2)]) (st := [.ref a0]) dX9_isDigitHere_6 ml_X9_29 mv_X9_byteAt rfl e21 (by decide) rfl rfl (Nat.le_of_ble_eq_true rfl) (by decide) (s_X9_byteAt h a0 (hI h a0 2)) (fun r22 h23 => ?_)
  refine ao_cVi (As := [.int r22]) (st := []) dX9_isDigitHere_9 ml_X9_36 mv_X9_isDigit rfl e21 (by decide) rfl rfl (Nat.le_of_ble_eq_true rfl) (by decide) (s_X9_isDigit h23 a0 r22) (fun r24 h25 => ?_)
  refine ao_chk (fun c26 => ?_)
  exact ao_ir dX9_isDigitHere_12 rfl (nz c26).1
