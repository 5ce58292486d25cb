def f_X10_copyFrom (h : aH) (a0 : Nat) (a1 : Nat) : Option (Unit × aH) :=
(if (sh a0).1 = 17 then
((hR h a0 0).bind fun b22 =>
(if (sh a1).1 = 17 then
((hR h a1 0).bind fun b24 =>
(if (sh b22).1 = 15 then
(aBind (f_X8_copyFrom h b22 b24) fun r26 h27 =>
((hR h27 a0 1).bind fun b28 =>
((hR h27 a1 1).bind fun b29 =>
(if (sh b28).1 = 15 then
(aBind (f_X8_copyFrom h27 b28 b29) fun r31 h32 =>
((hR h32 a1 2).bind fun b33 =>
((hR h32 a0 2).bind fun b34 =>
(if (sh b33).1 = 0 then
(if (sh b34).1 = 0 then
(if 10 ≤ (sh b33).2 ∧ 10 ≤ (sh b34).2 then
(aLet (wI h32 b34 (va_cpy (hI h32 b33) (hI h32 b34) (0 : Int32).toNatClampNeg (0 : Int32).toNatClampNeg (10 : Int32).toNatClampNeg)) fun h37 =>
((hR h37 a1 3).bind fun b38 =>
((hR h37 a0 3).bind fun b39 =>
(if (sh b38).1 = 0 then
(if (sh b39).1 = 0 then
(if 10 ≤ (sh b38).2 ∧ 10 ≤ (sh b39).2 then
(aLet (wI h37 b39 (va_cpy (hI h37 b38) (hI h37 b39) (0 : Int32).toNatClampNeg (0 : Int32).toNatClampNeg (10 : Int32).toNatClampNeg)) fun h42 =>
((hR h42 a1 4).bind fun b43 =>
((hR h42 a0 4).bind fun b44 =>
(if (sh b43).1 = 0 then
(if (sh b44).1 = 0 then
(if 10 ≤ (sh b43).2 ∧ 10 ≤ (sh b44).2 then
(aLet (wI h42 b44 (va_cpy (hI h42 b43) (hI h42 b44) (0 : Int32).toNatClampNeg (0 : Int32).toNatClampNeg (10 : Int32).toNatClampNeg)) fun h47 =>
(aLet (pI h47 a0 5 (hI h47 a1 5)) fun h48 =>
(aLet (pI h48 a0 6 (hI h48 a1 6)) fun h49 =>
(aLet (pI h49 a0 7 (hI h49 a1 7)) fun h50 =>
some ((), h50)))))
else none)
else none)
else none))))
else none)
else none)
else none))))
else none)
else none)
else none))))
else none))))
else none))
else none))
else none)
set_option maxHeartbeats 2000000 in
theorem s_X10_copyFrom (h : aH) (a0 : Nat) (a1 : Nat) : SO eV 3 kX10_copyFrom [.ref a0, .ref a1] h (f_X10_copyFrom h a0 a1) := by
  refine so_of (lv0 := [some (.ref a0), some (.ref a1)]) pn_X10 (Nat.le_of_ble_eq_true rfl) rfl ?_
  unfold f_X10_copyFrom
  refine ao_s (st_aload_n dX10_copyFrom_0 rfl rfl) ?_
  refine ao_chk (fun e21 => ?_)
  refine ao_getR dX10_copyFrom_1 fl_X10_12 rfl e21 (fun b22 => ?_)
  refine ao_s (st_aload_n dX10_copyFrom_4 rfl rfl) ?_
  refine ao_chk (fun e23 => ?_)
  refine ao_getR dX10_copyFrom_5 fl_X10_12 rfl e23 (fun b24 => ?_)
  refine ao_chk (fun e25 => ?_)
  refine ao_cVv (Kc := kX8_copyFrom) (As := [.ref b24]) (st := []) dX10_copyFrom_8 ml_X10_45 mv_X8_copyFrom rfl e25 (by decide) rfl rfl (Nat.le_of_ble_eq_true rfl) (by decide) (s_X8_copyFrom h b22 b24) (fun r26 h27 => ?_)
  refine ao_s (st_aload_n dX10_copyFrom_11 rfl rfl) ?_
  refine ao_getR dX10_copyFrom_12 fl_X10_18 rfl e21 (fun b28 => ?_)
  refine ao_s (st_aload_n dX10_copyFrom_15 rfl rfl) ?_
  refine ao_getR dX10_copyFrom_16 fl_X10_18 rfl e23 (fun b29 => ?_)
  refine ao_chk (fun e30 => ?_)
  refine ao_cVv (Kc := kX8_copyFrom) (As := [.ref b29]) (st := []) dX10_copyFrom_19 ml_X10_45 mv_X8_copyFrom rfl e30 (by decide) rfl rfl (Nat.le_of_ble_eq_true rfl) (by decide) (s_X8_copyFrom h27 b28 b29) (fun r31 h32 => ?_)
  refine ao_s (st_aload_n dX10_copyFrom_22 rfl rfl) ?_
  refine ao_getR dX10_copyFrom_23 fl_X10_21 rfl e23 (fun b33 => ?_)
  refine ao_s (st_iconst dX10_copyFrom_26 ic_0) ?_
  refine ao_s (st_aload_n dX10_copyFrom_27 rfl rfl) ?_
  refine ao_getR dX10_copyFrom_28 fl_X10_21 rfl e21 (fun b34 => ?_)
  refine ao_s (st_iconst dX10_copyFrom_31 ic_0) ?_
  refine ao_s (st_bipush dX10_copyFrom_32 bp_10) ?_
  refine ao_chk (fun e35 => ?_)
  refine ao_chk (fun e36 => ?_)
  refine ao_chk (fun c53 => ?_)
  refine ao_copy dX10_copyFrom_34 (wcp ml_X10_49) e35 e36 ⟨by decide, by decide, by decide, (cp_10 _ c53.1), (cp_10 _ c53.2)⟩ (Nat.le_of_ble_eq_true rfl) (by decide) ?_
  refine ao_letH (fun h37 => ?_)
  refine ao_s (st_aload_n dX10_copyFrom_37 rfl rfl) ?_
  refine ao_getR dX10_copyFrom_38 fl_X10_25 rfl e23 (fun b38 => ?_)
  refine ao_s (st_iconst dX10_copyFrom_41 ic_0) ?_
  refine ao_s (st_aload_n dX10_copyFrom_42 rfl rfl) ?_
  refine ao_getR dX10_copyFrom_43 fl_X10_25 rfl e21 (fun b39 => ?_)
  refine ao_s (st_iconst dX10_copyFrom_46 ic_0) ?_
  refine ao_s (st_bipush dX10_copyFrom_47 bp_10) ?_
  refine ao_chk (fun e40 => ?_)
  refine ao_chk (fun e41 => ?_)
  refine ao_chk (fun c52 => ?_)
  refine ao_copy dX10_copyFrom_49 (wcp ml_X10_49) e40 e41 ⟨by decide, by decide, by decide, (cp_10 _ c52.1), (cp_10 _ c52.2)⟩ (Nat.le_of_ble_eq_true rfl) (by decide) ?_
  refine ao_letH (fun h42 => ?_)
  refine ao_s (st_aload_n dX10_copyFrom_52 rfl rfl) ?_
  refine ao_getR dX10_copyFrom_53 fl_X10_28 rfl e23 (fun b43 => ?_)
  refine ao_s (st_iconst dX10_copyFrom_56 ic_0) ?_
  refine ao_s (st_aload_n dX10_copyFrom_57 rfl rfl) ?_
  refine ao_getR dX10_copyFrom_58 fl_X10_28 rfl e21 (fun b44 => ?_)
  refine ao_s (st_iconst dX10_copyFrom_61 ic_0) ?_
  refine ao_s (st_bipush dX10_copyFrom_62 bp_10) ?_
  refine ao_chk (fun e45 => ?_)
  refine ao_chk (fun e46 => ?_)
  refine ao_chk (fun c51 => ?_)
  refine ao_copy dX10_copyFrom_64 (wcp ml_X10_49) e45 e46 ⟨by decide, by decide, by decide, (cp_10 _ c51.1), (cp_10 _ c51.2)⟩ (Nat.le_of_ble_eq_true rfl) (by decide) ?_
  refine ao_letH (fun h47 => ?_)
  refine ao_s (st_aload_n dX10_copyFrom_67 rfl rfl) ?_
  refine ao_s (st_aload_n dX10_copyFrom_68 rfl rfl) ?_
  refine ao_getI dX10_copyFrom_69 fl_X10_31 rfl e23 ?_
  refine ao_putI dX10_copyFrom_72 fl_X10_31 rfl rfl rfl rfl e21 ?_
  refine ao_letH (fun h48 => ?_)
  refine ao_s (st_aload_n dX10_copyFrom_75 rfl rfl) ?_
  refine ao_s (st_aload_n dX10_copyFrom_76 rfl rfl) ?_
  refine ao_getI dX10_copyFrom_77 fl_X10_35 rfl e23 ?_
  refine ao_putI dX10_copyFrom_80 fl_X10_35 rfl rfl rfl rfl e21 ?_
  refine ao_letH (fun h49 => ?_)
  refine ao_s (st_aload_n dX10_copyFrom_83 rfl rfl) ?_
  refine ao_s (st_aload_n dX10_copyFrom_84 rfl rfl) ?_
  refine ao_getI dX10_copyFrom_85 fl_X10_38 rfl e23 ?_
  refine ao_putI dX10_copyFrom_88 fl_X10_38 rfl rfl rfl rfl e21 ?_
  refine ao_letH (fun h50 => ?_)
  exact ao_vr dX10_copyFrom_91 rfl
def f_X10_addNote (h : aH) (a0 : Nat) (x1 : Int32) (x2 : Int32) (x3 : Int32) : Option (Unit × aH) :=
(if (sh a0).1 = 17 then
(if 10 ≤ hI h a0 5 then
some ((), h)
else
((hR h a0 2).bind fun b22 =>
(aLet (hI h a0 5) fun x23 =>
(if (sh b22).1 = 0 then
(if aIn x23 (sh b22).2 then
(aLet (pI h b22 x23.toNatClampNeg x1) fun h25 =>
((hR h25 a0 3).bind fun b26 =>
(aLet (hI h25 a0 5) fun x27 =>
(if (sh b26).1 = 0 then
(if aIn x27 (sh b26).2 then
(aLet (pI h25 b26 x27.toNatClampNeg x2) fun h29 =>
((hR h29 a0 4).bind fun b30 =>
(aLet (hI h29 a0 5) fun x31 =>
(if (sh b30).1 = 0 then
(if aIn x31 (sh b30).2 then
(aLet (pI h29 b30 x31.toNatClampNeg x3) fun h33 =>
(aLet (pI h33 a0 5 ((hI h33 a0 5) + 1)) fun h34 =>
some ((), h34)))
else none)
else none))))
else none)
else none))))
else none)
else none))))
else none)
set_option maxHeartbeats 2000000 in
theorem s_X10_addNote (h : aH) (a0 : Nat) (x1 : Int32) (x2 : Int32) (x3 : Int32) : SO eV 2 kX10_addNote [.ref a0, .int x1, .int x2, .int x3] h (f_X10_addNote h a0 x1 x2 x3) := by
  refine so_of (lv0 := [some (.ref a0), some (.int x1), some (.int x2), some (.int x3)]) pn_X10 (Nat.le_of_ble_eq_true rfl) rfl ?_
  unfold f_X10_addNote
  refine ao_s (st_aload_n dX10_addNote_0 rfl rfl) ?_
  refine ao_chk (fun e21 => ?_)
  refine ao_getI dX10_addNote_1 fl_X10_31 rfl e21 ?_
  refine ao_s (st_bipush dX10_addNote_4 bp_10) ?_
  refine ao_br (br_icmp_ge (tgt := 49) dX10_addNote_6 (by decide)) (fun c35 => ?_) (fun c35 => ?_)
  · exact ao_vr dX10_addNote_49 rfl
  · refine ao_s (st_aload_n dX10_addNote_9 rfl rfl) ?_
    refine ao_getR dX10_addNote_10 fl_X10_21 rfl e21 (fun b22 => ?_)
    refine ao_s (st_aload_n dX10_addNote_13 rfl rfl) ?_
    refine ao_getI dX10_addNote_14 fl_X10_31 rfl e21 ?_
    refine ao_s (st_iload_n dX10_addNote_17 rfl rfl) ?_
    refine ao_let2 (fun x23 => ?_)
    refine ao_chk (fun e24 => ?_)
    refine ao_iast dX10_addNote_18 e24 ?_
    refine ao_letH (fun h25 => ?_)
    refine ao_s (st_aload_n dX10_addNote_19 rfl rfl) ?_
    refine ao_getR dX10_addNote_20 fl_X10_25 rfl e21 (fun b26 => ?_)
    refine ao_s (st_aload_n dX10_addNote_23 rfl rfl) ?_
    refine ao_getI dX10_addNote_24 fl_X10_31 rfl e21 ?_
    refine ao_s (st_iload_n dX10_addNote_27 rfl rfl) ?_
    refine ao_let2 (fun x27 => ?_)
    refine ao_chk (fun e28 => ?_)
    refine ao_iast dX10_addNote_28 e28 ?_
    refine ao_letH (fun h29 => ?_)
    refine ao_s (st_aload_n dX10_addNote_29 rfl rfl) ?_
    refine ao_getR dX10_addNote_30 fl_X10_28 rfl e21 (fun b30 => ?_)
    refine ao_s (st_aload_n dX10_addNote_33 rfl rfl) ?_
    refine ao_getI dX10_addNote_34 fl_X10_31 rfl e21 ?_
    refine ao_s (st_iload_n dX10_addNote_37 rfl rfl) ?_
    refine ao_let2 (fun x31 => ?_)
    refine ao_chk (fun e32 => ?_)
    refine ao_iast dX10_addNote_38 e32 ?_
    refine ao_letH (fun h33 => ?_)
    refine ao_s (st_aload_n dX10_addNote_39 rfl rfl) ?_
    refine ao_s (st_dup dX10_addNote_40 rfl) ?_
    refine ao_getI dX10_addNote_41 fl_X10_31 rfl e21 ?_
    refine ao_s (st_iconst dX10_addNote_44 ic_1) ?_
    refine ao_s (st_iadd dX10_addNote_45) ?_
    refine ao_putI dX10_addNote_46 fl_X10_31 rfl rfl rfl rfl e21 ?_
    refine ao_letH (fun h34 => ?_)
    exact ao_vr dX10_addNote_49 rfl
def f_X11_feed (h : aH) (a0 : Nat) (x1 : Int32) (x2 : Int32) (x3 : Int32) (x4 : Int32) (x5 : Int32) : Option (Int32 × aH) :=
(if (sh a0).1 = 18 then
((hR h a0 0).bind fun b22 =>
(if (sh b22).1 = 16 then
(if (hI h b22 1) + 20 ≤ 400 then
((hR h a0 0).bind fun b24 =>
(if (sh b24).1 = 16 then
(aBind (f_X9_append h b24 x1) fun r26 h27 =>
((hR h27 a0 0).bind fun b28 =>
(if (sh b28).1 = 16 then
(aBind (f_X9_append h27 b28 x2) fun r30 h31 =>
((hR h31 a0 0).bind fun b32 =>
(if (sh b32).1 = 16 then
(aBind (f_X9_append h31 b32 x3) fun r34 h35 =>
((hR h35 a0 0).bind fun b36 =>
(if (sh b36).1 = 16 then
(aBind (f_X9_append h35 b36 x4) fun r38 h39 =>
((hR h39 a0 0).bind fun b40 =>
(if (sh b40).1 = 16 then
(aBind (f_X9_append h39 b40 x5) fun r42 h43 =>
((hR h43 a0 0).bind fun b44 =>
(if (sh b44).1 = 16 then
some (hI h43 b44 1, h43)
else none)))
else none)))
else none)))
else none)))
else none)))
else none))
else
some ((-1), h))
else none))
else none)
set_option maxHeartbeats 2000000 in
theorem s_X11_feed (h : aH) (a0 : Nat) (x1 : Int32) (x2 : Int32) (x3 : Int32) (x4 : Int32) (x5 : Int32) : SO eI 3 kX11_feed [.ref a0, .int x1, .int x2, .int x3, .int x4, .int x5] h (f_X11_feed h a0 x1 x2 x3 x4 x5) := by
  refine so_of (lv0 := [some (.ref a0), some (.int x1), some (.int x2), some (.int x3), some (.int x4), some (.int x5)]) pn_X11 (Nat.le_of_ble_eq_true rfl) rfl ?_
  unfold f_X11_feed
  refine ao_s (st_aload_n dX11_feed_0 rfl rfl) ?_
  refine ao_chk (fun e21 => ?_)
  refine ao_getR dX11_feed_1 fl_X11_12 rfl e21 (fun b22 => ?_)
  refine ao_chk (fun e23 => ?_)
  refine ao_getI dX11_feed_4 fl_X11_101 rfl e23 ?_
  refine ao_s (st_bipush dX11_feed_7 bp_20) ?_
  refine ao_s (st_iadd dX11_feed_9) ?_
  refine ao_s (st_sipush dX11_feed_10 sp_400) ?_
  refine ao_br (br_icmp_le (tgt := 18) dX11_feed_13 (by decide)) (fun c46 => ?_) (fun c46 => ?_)
  · refine ao_s (st_aload_n dX11_feed_18 rfl rfl) ?_
    refine ao_getR dX11_feed_19 fl_X11_12 rfl e21 (fun b24 => ?_)
    refine ao_s (st_iload_n dX11_feed_22 rfl rfl) ?_
    refine ao_chk (fun e25 => ?_)
    refine ao_cVv (Kc := kX9_append) (As := [.int x1]) (st := []) dX11_feed_23 ml_X11_104 mv_X9_append rfl e25 (by decide) rfl rfl (Nat.le_of_ble_eq_true rfl) (by decide) (s_X9_append h b24 x1) (fun r26 h27 => ?_)
    refine ao_s (st_aload_n dX11_feed_26 rfl rfl) ?_
    refine ao_getR dX11_feed_27 fl_X11_12 rfl e21 (fun b28 => ?_)
    refine ao_s (st_iload_n dX11_feed_30 rfl rfl) ?_
    refine ao_chk (fun e29 => ?_)
    refine ao_cVv (Kc := kX9_append) (As := [.int x2]) (st := []) dX11_feed_31 ml_X11_104 mv_X9_append rfl e29 (by decide) rfl rfl (Nat.le_of_ble_eq_true rfl) (by decide) (s_X9_append h27 b28 x2) (fun r30 h31 => ?_)
    refine ao_s (st_aload_n dX11_feed_34 rfl rfl) ?_
    refine ao_getR dX11_feed_35 fl_X11_12 rfl e21 (fun b32 => ?_)
    refine ao_s (st_iload_n dX11_feed_38 rfl rfl) ?_
    refine ao_chk (fun e33 => ?_)
    refine ao_cVv (Kc := kX9_append) (As := [.int x3]) (st := []) dX11_feed_39 ml_X11_104 mv_X9_append rfl e33 (by decide) rfl rfl (Nat.le_of_ble_eq_true rfl) (by decide) (s_X9_append h31 b32 x3) (fun r34 h35 => ?_)
    refine ao_s (st_aload_n dX11_feed_42 rfl rfl) ?_
    refine ao_getR dX11_feed_43 fl_X11_12 rfl e21 (fun b36 => ?_)
    refine ao_s (st_iload dX11_feed_46 rfl) ?_
    refine ao_chk (fun e37 => ?_)
    refine ao_cVv (Kc := kX9_append) (As := [.int x4]) (st := []) dX11_feed_48 ml_X11_104 mv_X9_append rfl e37 (by decide) rfl rfl (Nat.le_of_ble_eq_true rfl) (by decide) (s_X9_append h35 b36 x4) (fun r38 h39 => ?_)
    refine ao_s (st_aload_n dX11_feed_51 rfl rfl) ?_
    refine ao_getR dX11_feed_52 fl_X11_12 rfl e21 (fun b40 => ?_)
    refine ao_s (st_iload dX11_feed_55 rfl) ?_
    refine ao_chk (fun e41 => ?_)
    refine ao_cVv (Kc := kX9_append) (As := [.int x5]) (st := []) dX11_feed_57 ml_X11_104 mv_X9_append rfl e41 (by decide) rfl rfl (Nat.le_of_ble_eq_true rfl) (by decide) (s_X9_append h39 b40 x5) (fun r42 h43 => ?_)
    refine ao_s (st_aload_n dX11_feed_60 rfl rfl) ?_
    refine ao_getR dX11_feed_61 fl_X11_12 rfl e21 (fun b44 => ?_)
    refine ao_chk (fun e45 => ?_)
    refine ao_getI dX11_feed_64 fl_X11_101 rfl e45 ?_
    exact ao_ir dX11_feed_67 rfl rfl
  · refine ao_s (st_iconst dX11_feed_16 ic_m1) ?_
    exact ao_ir dX11_feed_17 rfl rfl
def f_X11_end (h : aH) (a0 : Nat) (x1 : Int32) : Option (Int32 × aH) :=
(if x1 < 0 then
some ((-1), h)
else
(if (sh a0).1 = 18 then
((hR h a0 0).bind fun b22 =>
(if (sh b22).1 = 16 then
(if x1 ≤ hI h b22 1 then
((hR h a0 0).bind fun b24 =>
(if (sh b24).1 = 16 then
(aLet (pI h b24 1 x1) fun h26 =>
some (x1, h26))
else none))
else
some ((-1), h))
else none))
else none))
set_option maxHeartbeats 2000000 in
theorem s_X11_end (h : aH) (a0 : Nat) (x1 : Int32) : SO eI 2 kX11_end [.ref a0, .int x1] h (f_X11_end h a0 x1) := by
  refine so_of (lv0 := [some (.ref a0), some (.int x1)]) pn_X11 (Nat.le_of_ble_eq_true rfl) rfl ?_
  unfold f_X11_end
  refine ao_s (st_iload_n dX11_end_0 rfl rfl) ?_
  refine ao_br (br_if_lt (tgt := 15) dX11_end_1 (by decide)) (fun c28 => ?_) (fun c28 => ?_)
  · refine ao_s (st_iconst dX11_end_15 ic_m1) ?_
    exact ao_ir dX11_end_16 rfl rfl
  · refine ao_s (st_iload_n dX11_end_4 rfl rfl) ?_
    refine ao_s (st_aload_n dX11_end_5 rfl rfl) ?_
    refine ao_chk (fun e21 => ?_)
    refine ao_getR dX11_end_6 fl_X11_12 rfl e21 (fun b22 => ?_)
    refine ao_chk (fun e23 => ?_)
    refine ao_getI dX11_end_9 fl_X11_101 rfl e23 ?_
    refine ao_br (br_icmp_le (tgt := 17) dX11_end_12 (by decide)) (fun c27 => ?_) (fun c27 => ?_)
    · refine ao_s (st_aload_n dX11_end_17 rfl rfl) ?_
      refine ao_getR dX11_end_18 fl_X11_12 rfl e21 (fun b24 => ?_)
      refine ao_s (st_iload_n dX11_end_21 rfl rfl) ?_
      refine ao_chk (fun e25 => ?_)
      refine ao_putI dX11_end_22 fl_X11_101 rfl rfl rfl rfl e25 ?_
      refine ao_letH (fun h26 => ?_)
      refine ao_s (st_iload_n dX11_end_25 rfl rfl) ?_
      exact ao_ir dX11_end_26 rfl rfl
    · refine ao_s (st_iconst dX11_end_15 ic_m1) ?_
      exact ao_ir dX11_end_16 rfl rfl
def f_X11_isle (h : aH) (a0 : Nat) : Option (Int32 × aH) :=
(if (sh a0).1 = 18 then
((hR h a0 1).bind fun b22 =>
((hR h a0 10).bind fun b23 =>
(if (sh b22).1 = 9 then
(aBind (f_X2_readInto h b22 b23) fun r25 h26 =>
((hR h26 a0 0).bind fun b27 =>
(if (sh b27).1 = 16 then
(aLet (pI h26 b27 1 0) fun h29 =>
(if r25 = 0 then
((hR h29 a0 5).bind fun b30 =>
(if (sh b30).1 = 17 then
((hR h29 b30 0).bind fun b32 =>
((hR h29 a0 10).bind fun b33 =>
(if (sh b32).1 = 15 then
(aBind (f_X8_copyFrom h29 b32 b33) fun r35 h36 =>
((hR h36 a0 5).bind fun b37 =>
(if (sh b37).1 = 17 then
((hR h36 b37 1).bind fun b39 =>
((hR h36 a0 10).bind fun b40 =>
(if (sh b39).1 = 15 then
(aBind (f_X8_copyFrom h36 b39 b40) fun r42 h43 =>
((hR h43 a0 5).bind fun b44 =>
(if (sh b44).1 = 17 then
(aLet (pI h43 b44 5 0) fun h46 =>
(aLet (pI h46 a0 9 0) fun h47 =>
((hR h47 a0 10).bind fun b48 =>
(if (sh b48).1 = 15 then
some (hI h47 b48 3, h47)
else none))))
else none)))
else none)))
else none)))
else none)))
else none))
else
some ((-2) - r25, h29)))
else none)))
else none)))
else none)
set_option maxHeartbeats 2000000 in
theorem s_X11_isle (h : aH) (a0 : Nat) : SO eI 9 kX11_isle [.ref a0] h (f_X11_isle h a0) := by
  refine so_of (lv0 := [some (.ref a0), none]) pn_X11 (Nat.le_of_ble_eq_true rfl) rfl ?_
  unfold f_X11_isle
  refine ao_s (st_aload_n dX11_isle_0 rfl rfl) ?_
  refine ao_chk (fun e21 => ?_)
  refine ao_getR dX11_isle_1 fl_X11_21 rfl e21 (fun b22 => ?_)
  refine ao_s (st_aload_n dX11_isle_4 rfl rfl) ?_
  refine ao_getR dX11_isle_5 fl_X11_66 rfl e21 (fun b23 => ?_)
  refine ao_chk (fun e24 => ?_)
  refine ao_cVi (Kc := kX2_readInto) (As := [.ref b23]) (st := []) dX11_isle_8 ml_X11_108 mv_X2_readInto rfl e24 (by decide) rfl rfl (Nat.le_of_ble_eq_true rfl) (by decide) (s_X2_readInto h b22 b23) (fun r25 h26 => ?_)
  refine ao_s (st_istore_n (lv' := [some (.ref a0), some (.int r25)]) dX11_isle_11 rfl (by decide) rfl) ?_
  refine ao_s (st_aload_n dX11_isle_12 rfl rfl) ?_
  refine ao_getR dX11_isle_13 fl_X11_12 rfl e21 (fun b27 => ?_)
  refine ao_s (st_iconst dX11_isle_16 ic_0) ?_
  refine ao_chk (fun e28 => ?_)
  refine ao_putI dX11_isle_17 fl_X11_101 rfl rfl rfl rfl e28 ?_
  refine ao_letH (fun h29 => ?_)
  refine ao_s (st_iload_n dX11_isle_20 rfl rfl) ?_
  refine ao_br (br_if_eq (tgt := 29) dX11_isle_21 (by decide)) (fun c50 => ?_) (fun c50 => ?_)
  · refine ao_s (st_aload_n dX11_isle_29 rfl rfl) ?_
    refine ao_getR dX11_isle_30 fl_X11_45 rfl e21 (fun b30 => ?_)
    refine ao_chk (fun e31 => ?_)
    refine ao_getR dX11_isle_33 fl_X11_112 rfl e31 (fun b32 => ?_)
    refine ao_s (st_aload_n dX11_isle_36 rfl rfl) ?_
    refine ao_getR dX11_isle_37 fl_X11_66 rfl e21 (fun b33 => ?_)
    refine ao_chk (fun e34 => ?_)
    refine ao_cVv (Kc := kX8_copyFrom) (As := [.ref b33]) (st := []) dX11_isle_40 ml_X11_115 mv_X8_copyFrom rfl e34 (by decide) rfl rfl (Nat.le_of_ble_eq_true rfl) (by decide) (s_X8_copyFrom h29 b32 b33) (fun r35 h36 => ?_)
    refine ao_s (st_aload_n dX11_isle_43 rfl rfl) ?_
    refine ao_getR dX11_isle_44 fl_X11_45 rfl e21 (fun b37 => ?_)
    refine ao_chk (fun e38 => ?_)
    refine ao_getR dX11_isle_47 fl_X11_119 rfl e38 (fun b39 => ?_)
    refine ao_s (st_aload_n dX11_isle_50 rfl rfl) ?_
    refine ao_getR dX11_isle_51 fl_X11_66 rfl e21 (fun b40 => ?_)
    refine ao_chk (fun e41 => ?_)
    refine ao_cVv (Kc := kX8_copyFrom) (As := [.ref b40]) (st := []) dX11_isle_54 ml_X11_115 mv_X8_copyFrom rfl e41 (by decide) rfl rfl (Nat.le_of_ble_eq_true rfl) (by decide) (s_X8_copyFrom h36 b39 b40) (fun r42 h43 => ?_)
    refine ao_s (st_aload_n dX11_isle_57 rfl rfl) ?_
    refine ao_getR dX11_isle_58 fl_X11_45 rfl e21 (fun b44 => ?_)
    refine ao_s (st_iconst dX11_isle_61 ic_0) ?_
    refine ao_chk (fun e45 => ?_)
    refine ao_putI dX11_isle_62 fl_X11_122 rfl rfl rfl rfl e45 ?_
    refine ao_letH (fun h46 => ?_)
    refine ao_s (st_aload_n dX11_isle_65 rfl rfl) ?_
    refine ao_s (st_iconst dX11_isle_66 ic_0) ?_
    refine ao_putI dX11_isle_67 fl_X11_62 rfl rfl rfl rfl e21 ?_
    refine ao_letH (fun h47 => ?_)
    refine ao_s (st_aload_n dX11_isle_70 rfl rfl) ?_
    refine ao_getR dX11_isle_71 fl_X11_66 rfl e21 (fun b48 => ?_)
    refine ao_chk (fun e49 => ?_)
    refine ao_getI dX11_isle_74 fl_X11_125 rfl e49 ?_
    exact ao_ir dX11_isle_77 rfl rfl
  · refine ao_s (st_bipush dX11_isle_24 bp_m2) ?_
    refine ao_s (st_iload_n dX11_isle_26 rfl rfl) ?_
    refine ao_s (st_isub dX11_isle_27) ?_
    exact ao_ir dX11_isle_28 rfl rfl
def f_X11_rule (h : aH) (a0 : Nat) : Option (Int32 × aH) :=
(if (sh a0).1 = 18 then
(if hI h a0 4 < 6 then
((hR h a0 2).bind fun b22 =>
((hR h a0 3).bind fun b23 =>
(aLet (hI h a0 4) fun x24 =>
(if (sh b23).1 = 4 then
(if aIn x24 (sh b23).2 then (hR h b23 x24.toNatClampNeg).bind fun b26 =>
(if (sh b22).1 = 13 then
(aBind (f_X6_readInto h b22 b26) fun r28 h29 =>
((hR h29 a0 0).bind fun b30 =>
(if (sh b30).1 = 16 then
(aLet (pI h29 b30 1 0) fun h32 =>
(if r28 = 0 then
(aLet (pI h32 a0 4 ((hI h32 a0 4) + 1)) fun h33 =>
some ((hI h33 a0 4) - 1, h33))
else
some ((-2) - r28, h32)))
else none)))
else none)
else none)
else none))))
else
some ((-1), h))
else none)
set_option maxHeartbeats 2000000 in
theorem s_X11_rule (h : aH) (a0 : Nat) : SO eI 52 kX11_rule [.ref a0] h (f_X11_rule h a0) := by
  refine so_of (lv0 := [some (.ref a0), none]) pn_X11 (Nat.le_of_ble_eq_true rfl) rfl ?_
  unfold f_X11_rule
  refine ao_s (st_aload_n dX11_rule_0 rfl rfl) ?_
  refine ao_chk (fun e21 => ?_)
  refine ao_getI dX11_rule_1 fl_X11_38 rfl e21 ?_
  refine ao_s (st_bipush dX11_rule_4 bp_6) ?_
  refine ao_br (br_icmp_lt (tgt := 11) dX11_rule_6 (by decide)) (fun c35 => ?_) (fun c35 => ?_)
  · refine ao_s (st_aload_n dX11_rule_11 rfl rfl) ?_
    refine ao_getR dX11_rule_12 fl_X11_28 rfl e21 (fun b22 => ?_)
    refine ao_s (st_aload_n dX11_rule_15 rfl rfl) ?_
    refine ao_getR dX11_rule_16 fl_X11_34 rfl e21 (fun b23 => ?_)
    refine ao_s (st_aload_n dX11_rule_19 rfl rfl) ?_
    refine ao_getI dX11_rule_20 fl_X11_38 rfl e21 ?_
    refine ao_letI (fun x24 => ?_)
    refine ao_chk (fun e25 => ?_)
    refine ao_aald4 dX11_rule_23 e25 (fun b26 => ?_)
    refine ao_chk (fun e27 => ?_)
    refine ao_cVi (Kc := kX6_readInto) (As := [.ref b26]) (st := []) dX11_rule_24 ml_X11_128 mv_X6_readInto rfl e27 (by decide) rfl rfl (Nat.le_of_ble_eq_true rfl) (by decide) (s_X6_readInto h b22 b26) (fun r28 h29 => ?_)
    refine ao_s (st_istore_n (lv' := [some (.ref a0), some (.int r28)]) dX11_rule_27 rfl (by decide) rfl) ?_
    refine ao_s (st_aload_n dX11_rule_28 rfl rfl) ?_
    refine ao_getR dX11_rule_29 fl_X11_12 rfl e21 (fun b30 => ?_)
    refine ao_s (st_iconst dX11_rule_32 ic_0) ?_
    refine ao_chk (fun e31 => ?_)
    refine ao_putI dX11_rule_33 fl_X11_101 rfl rfl rfl rfl e31 ?_
    refine ao_letH (fun h32 => ?_)
    refine ao_s (st_iload_n dX11_rule_36 rfl rfl) ?_
    refine ao_br (br_if_eq (tgt := 45) dX11_rule_37 (by decide)) (fun c34 => ?_) (fun c34 => ?_)
    · refine ao_s (st_aload_n dX11_rule_45 rfl rfl) ?_
      refine ao_s (st_dup dX11_rule_46 rfl) ?_
      refine ao_getI dX11_rule_47 fl_X11_38 rfl e21 ?_
      refine ao_s (st_iconst dX11_rule_50 ic_1) ?_
      refine ao_s (st_iadd dX11_rule_51) ?_
      refine ao_putI dX11_rule_52 fl_X11_38 rfl rfl rfl rfl e21 ?_
      refine ao_letH (fun h33 => ?_)
      refine ao_s (st_aload_n dX11_rule_55 rfl rfl) ?_
      refine ao_getI dX11_rule_56 fl_X11_38 rfl e21 ?_
      refine ao_s (st_iconst dX11_rule_59 ic_1) ?_
      refine ao_s (st_isub dX11_rule_60) ?_
      exact ao_ir dX11_rule_61 rfl rfl
    · refine ao_s (st_bipush dX11_rule_40 bp_m2) ?_
      refine ao_s (st_iload_n dX11_rule_42 rfl rfl) ?_
      refine ao_s (st_isub dX11_rule_43) ?_
      exact ao_ir dX11_rule_44 rfl rfl
  · refine ao_s (st_iconst dX11_rule_9 ic_m1) ?_
    exact ao_ir dX11_rule_10 rfl rfl
def f_X11_isRuleOrNone (h : aH) (a0 : Nat) (x1 : Int32) : Option (Int32 × aH) :=
(if x1 < (-1) then
some (0, h)
else
(if (sh a0).1 = 18 then
(if hI h a0 4 ≤ x1 then
some (0, h)
else
some (1, h))
else none))
set_option maxHeartbeats 2000000 in
theorem s_X11_isRuleOrNone (h : aH) (a0 : Nat) (x1 : Int32) : SO eI 2 kX11_isRuleOrNone [.ref a0, .int x1] h (f_X11_isRuleOrNone h a0 x1) := by
  refine so_of (lv0 := [some (.ref a0), some (.int x1)]) pn_X11 (Nat.le_of_ble_eq_true rfl) rfl ?_
  unfold f_X11_isRuleOrNone
  refine ao_s (st_iload_n dX11_isRuleOrNone_0 rfl rfl) ?_
  refine ao_s (st_iconst dX11_isRuleOrNone_1 ic_m1) ?_
  refine ao_br (br_icmp_lt (tgt := 17) dX11_isRuleOrNone_2 (by decide)) (fun c23 => ?_) (fun c23 => ?_)
  · refine ao_s (st_iconst dX11_isRuleOrNone_17 ic_0) ?_
    exact ao_ir dX11_isRuleOrNone_18 rfl (by decide)
  · refine ao_s (st_iload_n dX11_isRuleOrNone_5 rfl rfl) ?_
    refine ao_s (st_aload_n dX11_isRuleOrNone_6 rfl rfl) ?_
    refine ao_chk (fun e21 => ?_)
    refine ao_getI dX11_isRuleOrNone_7 fl_X11_38 rfl e21 ?_
    refine ao_br (br_icmp_ge (tgt := 17) dX11_isRuleOrNone_10 (by decide)) (fun c22 => ?_) (fun c22 => ?_)
    · refine ao_s (st_iconst dX11_isRuleOrNone_17 ic_0) ?_
      exact ao_ir dX11_isRuleOrNone_18 rfl (by decide)
    · refine ao_s (st_iconst dX11_isRuleOrNone_13 ic_1) ?_
      refine ao_s (st_goto 18 dX11_isRuleOrNone_14 (by decide)) ?_
      exact ao_ir dX11_isRuleOrNone_18 rfl (by decide)
def f_X11_force (h : aH) (a0 : Nat) (x1 : Int32) : Option (Int32 × aH) :=
(if (sh a0).1 = 18 then
(aBind (f_X11_isRuleOrNone h a0 x1) fun r22 h23 =>
(if r22 = 0 then
some ((-2), h23)
else
((hR h23 a0 5).bind fun b24 =>
(if (sh b24).1 = 17 then
(aLet (hI h23 b24 6) fun x26 =>
((hR h23 a0 5).bind fun b27 =>
(if (sh b27).1 = 17 then
(aLet (pI h23 b27 6 x1) fun h29 =>
some (x26, h29))
else none)))
else none))))
else none)
set_option maxHeartbeats 2000000 in
theorem s_X11_force (h : aH) (a0 : Nat) (x1 : Int32) : SO eI 3 kX11_force [.ref a0, .int x1] h (f_X11_force h a0 x1) := by
  refine so_of (lv0 := [some (.ref a0), some (.int x1), none]) pn_X11 (Nat.le_of_ble_eq_true rfl) rfl ?_
  unfold f_X11_force
  refine ao_s (st_aload_n dX11_force_0 rfl rfl) ?_
  refine ao_s (st_iload_n dX11_force_1 rfl rfl) ?_
  refine ao_chk (fun e21 => ?_)
  refine ao_cVi (Kc := kX11_isRuleOrNone) (As := [.int x1]) (st := []) dX11_force_2 ml_X11_131 mv_X11_isRuleOrNone rfl e21 (by decide) rfl rfl (Nat.le_of_ble_eq_true rfl) (by decide) (s_X11_isRuleOrNone h a0 x1) (fun r22 h23 => ?_)
  refine ao_br (br_if_ne (tgt := 11) dX11_force_5 (by decide)) (fun c30 => ?_) (fun c30 => ?_)
  · refine ao_s (st_bipush dX11_force_8 bp_m2) ?_
    exact ao_ir dX11_force_10 rfl rfl
  · refine ao_s (st_aload_n dX11_force_11 rfl rfl) ?_
    refine ao_getR dX11_force_12 fl_X11_45 rfl e21 (fun b24 => ?_)
    refine ao_chk (fun e25 => ?_)
    refine ao_getI dX11_force_15 fl_X11_135 rfl e25 ?_
    refine ao_letI (fun x26 => ?_)
    refine ao_s (st_istore_n (lv' := [some (.ref a0), some (.int x1), some (.int x26)]) dX11_force_18 rfl (by decide) rfl) ?_
    refine ao_s (st_aload_n dX11_force_19 rfl rfl) ?_
    refine ao_getR dX11_force_20 fl_X11_45 rfl e21 (fun b27 => ?_)
    refine ao_s (st_iload_n dX11_force_23 rfl rfl) ?_
    refine ao_chk (fun e28 => ?_)
    refine ao_putI dX11_force_24 fl_X11_135 rfl rfl rfl rfl e28 ?_
    refine ao_letH (fun h29 => ?_)
    refine ao_s (st_iload_n dX11_force_27 rfl rfl) ?_
    exact ao_ir dX11_force_28 rfl rfl
def f_X11_ruleOf (h : aH) (a0 : Nat) (x1 : Int32) : Option (Option Nat × aH) :=
(if x1 < 0 then
some (none, h)
else
(if (sh a0).1 = 18 then
(if hI h a0 4 ≤ x1 then
some (none, h)
else
((hR h a0 3).bind fun b22 =>
(if (sh b22).1 = 4 then
(if aIn x1 (sh b22).2 then (hR h b22 x1.toNatClampNeg).bind fun b24 =>
some (some b24, h)
else none)
else none)))
else none))
set_option maxHeartbeats 2000000 in
theorem s_X11_ruleOf (h : aH) (a0 : Nat) (x1 : Int32) : SO eQ 2 kX11_ruleOf [.ref a0, .int x1] h (f_X11_ruleOf h a0 x1) := by
  refine so_of (lv0 := [some (.ref a0), some (.int x1)]) pn_X11 (Nat.le_of_ble_eq_true rfl) rfl ?_
  unfold f_X11_ruleOf
  refine ao_s (st_iload_n dX11_ruleOf_0 rfl rfl) ?_
  refine ao_br (br_if_lt (tgt := 21) dX11_ruleOf_1 (by decide)) (fun c26 => ?_) (fun c26 => ?_)
  · refine ao_s (st_null dX11_ruleOf_21) ?_
    exact ao_ar dX11_ruleOf_22 rfl
  · refine ao_s (st_iload_n dX11_ruleOf_4 rfl rfl) ?_
    refine ao_s (st_aload_n dX11_ruleOf_5 rfl rfl) ?_
    refine ao_chk (fun e21 => ?_)
    refine ao_getI dX11_ruleOf_6 fl_X11_38 rfl e21 ?_
    refine ao_br (br_icmp_ge (tgt := 21) dX11_ruleOf_9 (by decide)) (fun c25 => ?_) (fun c25 => ?_)
    · refine ao_s (st_null dX11_ruleOf_21) ?_
      exact ao_ar dX11_ruleOf_22 rfl
    · refine ao_s (st_aload_n dX11_ruleOf_12 rfl rfl) ?_
      refine ao_getR dX11_ruleOf_13 fl_X11_34 rfl e21 (fun b22 => ?_)
      refine ao_s (st_iload_n dX11_ruleOf_16 rfl rfl) ?_
      refine ao_chk (fun e23 => ?_)
      refine ao_aald4 dX11_ruleOf_17 e23 (fun b24 => ?_)
      refine ao_s (st_goto 22 dX11_ruleOf_18 (by decide)) ?_
      exact ao_ar (x := some b24) dX11_ruleOf_22 rfl
def f_X11_ruleInForce (h : aH) (a0 : Nat) : Option (Option Nat × aH) :=
(if (sh a0).1 = 18 then
((hR h a0 5).bind fun b22 =>
(if (sh b22).1 = 17 then
(aBind (f_X11_ruleOf h a0 (hI h b22 6)) fun r24 h25 =>
some (r24, h25))
else none))
else none)
set_option maxHeartbeats 2000000 in
theorem s_X11_ruleInForce (h : aH) (a0 : Nat) : SO eQ 3 kX11_ruleInForce [.ref a0] h (f_X11_ruleInForce h a0) := by
  refine so_of (lv0 := [some (.ref a0)]) pn_X11 (Nat.le_of_ble_eq_true rfl) rfl ?_
  unfold f_X11_ruleInForce
  refine ao_s (st_aload_n dX11_ruleInForce_0 rfl rfl) ?_
  refine ao_s (st_aload_n dX11_ruleInForce_1 rfl rfl) ?_
  refine ao_chk (fun e21 => ?_)
  refine ao_getR dX11_ruleInForce_2 fl_X11_45 rfl e21 (fun b22 => ?_)
  refine ao_chk (fun e23 => ?_)
  refine ao_getI dX11_ruleInForce_5 fl_X11_135 rfl e23 ?_
  refine ao_cVq (Kc := kX11_ruleOf) (As := [.int (hI h b22 6)]) (st := []) dX11_ruleInForce_8 ml_X11_138 mv_X11_ruleOf rfl e21 (by decide) rfl rfl (Nat.le_of_ble_eq_true rfl) (by decide) (s_X11_ruleOf h a0 (hI h b22 6)) (fun r24 h25 => ?_)
  exact ao_ar dX11_ruleInForce_11 rfl
def f_X11_east (h : aH) (a0 : Nat) (x1 : Int32) (x2 : Int32) : Option (Int32 × aH) :=
(if (sh a0).1 = 18 then
((hR h a0 5).bind fun b22 =>
(if (sh b22).1 = 17 then
((hR h b22 1).bind fun b24 =>
(if (sh b24).1 = 15 then
(aBind (f_X8_hasEast h b24 x1) fun r26 h27 =>
(if r26 = 0 then
some ((-2), h27)
else
((hR h27 a0 5).bind fun b28 =>
(if (sh b28).1 = 17 then
((hR h27 b28 1).bind fun b30 =>
(if (sh b30).1 = 15 then
(aBind (f_X8_fact h27 b30 0 x1 x2) fun r32 h33 =>
some (r32, h33))
else none))
else none))))
else none))
else none))
else none)
set_option maxHeartbeats 2000000 in
theorem s_X11_east (h : aH) (a0 : Nat) (x1 : Int32) (x2 : Int32) : SO eI 5 kX11_east [.ref a0, .int x1, .int x2] h (f_X11_east h a0 x1 x2) := by
  refine so_of (lv0 := [some (.ref a0), some (.int x1), some (.int x2)]) pn_X11 (Nat.le_of_ble_eq_true rfl) rfl ?_
  unfold f_X11_east
  refine ao_s (st_aload_n dX11_east_0 rfl rfl) ?_
  refine ao_chk (fun e21 => ?_)
  refine ao_getR dX11_east_1 fl_X11_45 rfl e21 (fun b22 => ?_)
  refine ao_chk (fun e23 => ?_)
  refine ao_getR dX11_east_4 fl_X11_119 rfl e23 (fun b24 => ?_)
  refine ao_s (st_iload_n dX11_east_7 rfl rfl) ?_
  refine ao_chk (fun e25 => ?_)
  refine ao_cVi (Kc := kX8_hasEast) (As := [.int x1]) (st := []) dX11_east_8 ml_X11_142 mv_X8_hasEast rfl e25 (by decide) rfl rfl (Nat.le_of_ble_eq_true rfl) (by decide) (s_X8_hasEast h b24 x1) (fun r26 h27 => ?_)
  refine ao_br (br_if_eq (tgt := 30) dX11_east_11 (by decide)) (fun c34 => ?_) (fun c34 => ?_)
  · refine ao_s (st_bipush dX11_east_30 bp_m2) ?_
    exact ao_ir dX11_east_32 rfl rfl
  · refine ao_s (st_aload_n dX11_east_14 rfl rfl) ?_
    refine ao_getR dX11_east_15 fl_X11_45 rfl e21 (fun b28 => ?_)
    refine ao_chk (fun e29 => ?_)
    refine ao_getR dX11_east_18 fl_X11_119 rfl e29 (fun b30 => ?_)
    refine ao_s (st_iconst dX11_east_21 ic_0) ?_
    refine ao_s (st_iload_n dX11_east_22 rfl rfl) ?_
    refine ao_s (st_iload_n dX11_east_23 rfl rfl) ?_
    refine ao_chk (fun e31 => ?_)
    refine ao_cVi (Kc := kX8_fact) (As := [.int 0, .int x1, .int x2]) (st := []) dX11_east_24 ml_X11_145 mv_X8_fact rfl e31 (by decide) rfl rfl (Nat.le_of_ble_eq_true rfl) (by decide) (s_X8_fact h27 b30 0 x1 x2) (fun r32 h33 => ?_)
    refine ao_s (st_goto 32 dX11_east_27 (by decide)) ?_
    exact ao_ir dX11_east_32 rfl rfl
def f_X11_west (h : aH) (a0 : Nat) (x1 : Int32) (x2 : Int32) : Option (Int32 × aH) :=
(if (sh a0).1 = 18 then
((hR h a0 5).bind fun b22 =>
(if (sh b22).1 = 17 then
((hR h b22 1).bind fun b24 =>
(if (sh b24).1 = 15 then
(aBind (f_X8_hasWest h b24 x1) fun r26 h27 =>
(if r26 = 0 then
some ((-2), h27)
else
((hR h27 a0 5).bind fun b28 =>
(if (sh b28).1 = 17 then
((hR h27 b28 1).bind fun b30 =>
(if (sh b30).1 = 15 then
(aBind (f_X8_fact h27 b30 1 x1 x2) fun r32 h33 =>
some (r32, h33))
else none))
else none))))
else none))
else none))
else none)
set_option maxHeartbeats 2000000 in
theorem s_X11_west (h : aH) (a0 : Nat) (x1 : Int32) (x2 : Int32) : SO eI 5 kX11_west [.ref a0, .int x1, .int x2] h (f_X11_west h a0 x1 x2) := by
  refine so_of (lv0 := [some (.ref a0), some (.int x1), some (.int x2)]) pn_X11 (Nat.le_of_ble_eq_true rfl) rfl ?_
  unfold f_X11_west
  refine ao_s (st_aload_n dX11_west_0 rfl rfl) ?_
  refine ao_chk (fun e21 => ?_)
  refine ao_getR dX11_west_1 fl_X11_45 rfl e21 (fun b22 => ?_)
  refine ao_chk (fun e23 => ?_)
  refine ao_getR dX11_west_4 fl_X11_119 rfl e23 (fun b24 => ?_)
  refine ao_s (st_iload_n dX11_west_7 rfl rfl) ?_
  refine ao_chk (fun e25 => ?_)
  refine ao_cVi (Kc := kX8_hasWest) (As := [.int x1]) (st := []) dX11_west_8 ml_X11_149 mv_X8_hasWest rfl e25 (by decide) rfl rfl (Nat.le_of_ble_eq_true rfl) (by decide) (s_X8_hasWest h b24 x1) (fun r26 h27 => ?_)
  refine ao_br (br_if_eq (tgt := 30) dX11_west_11 (by decide)) (fun c34 => ?_) (fun c34 => ?_)
  · refine ao_s (st_bipush dX11_west_30 bp_m2) ?_
    exact ao_ir dX11_west_32 rfl rfl
  · refine ao_s (st_aload_n dX11_west_14 rfl rfl) ?_
    refine ao_getR dX11_west_15 fl_X11_45 rfl e21 (fun b28 => ?_)
    refine ao_chk (fun e29 => ?_)
    refine ao_getR dX11_west_18 fl_X11_119 rfl e29 (fun b30 => ?_)
    refine ao_s (st_iconst dX11_west_21 ic_1) ?_
    refine ao_s (st_iload_n dX11_west_22 rfl rfl) ?_
    refine ao_s (st_iload_n dX11_west_23 rfl rfl) ?_
    refine ao_chk (fun e31 => ?_)
    refine ao_cVi (Kc := kX8_fact) (As := [.int 1, .int x1, .int x2]) (st := []) dX11_west_24 ml_X11_145 mv_X8_fact rfl e31 (by decide) rfl rfl (Nat.le_of_ble_eq_true rfl) (by decide) (s_X8_fact h27 b30 1 x1 x2) (fun r32 h33 => ?_)
    refine ao_s (st_goto 32 dX11_west_27 (by decide)) ?_
    exact ao_ir dX11_west_32 rfl rfl
def f_X11_likes (h : aH) (a0 : Nat) (x1 : Int32) (x2 : Int32) (x3 : Int32) : Option (Int32 × aH) :=
(if (sh a0).1 = 18 then
((hR h a0 5).bind fun b22 =>
(if (sh b22).1 = 17 then
((hR h b22 1).bind fun b24 =>
(if (sh b24).1 = 15 then
(aBind (f_X8_hasEast h b24 x1) fun r26 h27 =>
(if r26 = 0 then
some ((-1), h27)
else
(aBind (f_X8_hasWest h27 b24 x2) fun r28 h29 =>
(if r28 = 0 then
some ((-1), h29)
else
(if x3 = 0 then
(aBind (f_X8_like h29 b24 0 x1 x2) fun r34 h35 =>
some (r34, h35))
else
(if x3 = 1 then
(aBind (f_X8_like h29 b24 1 x1 x2) fun r36 h37 =>
some (r36, h37))
else
(if x3 = 2 then
(aBind (f_X8_trueLike h29 b24 0 x1 x2) fun r38 h39 =>
some (r38, h39))
else
(if x3 = 3 then
(aBind (f_X8_trueLike h29 b24 1 x1 x2) fun r40 h41 =>
some (r40, h41))
else
some ((-1), h29)))))))))
else none))
else none))
else none)
set_option maxHeartbeats 2000000 in
theorem s_X11_likes (h : aH) (a0 : Nat) (x1 : Int32) (x2 : Int32) (x3 : Int32) : SO eI 3 kX11_likes [.ref a0, .int x1, .int x2, .int x3] h (f_X11_likes h a0 x1 x2 x3) := by
  refine so_of (lv0 := [some (.ref a0), some (.int x1), some (.int x2), some (.int x3), none]) pn_X11 (Nat.le_of_ble_eq_true rfl) rfl ?_
  unfold f_X11_likes
  refine ao_s (st_aload_n dX11_likes_0 rfl rfl) ?_
  refine ao_chk (fun e21 => ?_)
  refine ao_getR dX11_likes_1 fl_X11_45 rfl e21 (fun b22 => ?_)
  refine ao_chk (fun e23 => ?_)
  refine ao_getR dX11_likes_4 fl_X11_119 rfl e23 (fun b24 => ?_)
  refine ao_s (st_astore (lv' := [some (.ref a0), some (.int x1), some (.int x2), some (.int x3), some (.ref b24)]) dX11_likes_7 (by decide) rfl) ?_
  refine ao_s (st_aload dX11_likes_9 rfl) ?_
  refine ao_s (st_iload_n dX11_likes_11 rfl rfl) ?_
  refine ao_chk (fun e25 => ?_)
  refine ao_cVi (Kc := kX8_hasEast) (As := [.int x1]) (st := []) dX11_likes_12 ml_X11_142 mv_X8_hasEast rfl e25 (by decide) rfl rfl (Nat.le_of_ble_eq_true rfl) (by decide) (s_X8_hasEast h b24 x1) (fun r26 h27 => ?_)
  refine ao_br (br_if_eq (tgt := 27) dX11_likes_15 (by decide)) (fun c43 => ?_) (fun c43 => ?_)
  · refine ao_s (st_iconst dX11_likes_27 ic_m1) ?_
    exact ao_ir dX11_likes_28 rfl rfl
  · refine ao_s (st_aload dX11_likes_18 rfl) ?_
    refine ao_s (st_iload_n dX11_likes_20 rfl rfl) ?_
    refine ao_cVi (Kc := kX8_hasWest) (As := [.int x2]) (st := []) dX11_likes_21 ml_X11_149 mv_X8_hasWest rfl e25 (by decide) rfl rfl (Nat.le_of_ble_eq_true rfl) (by decide) (s_X8_hasWest h27 b24 x2) (fun r28 h29 => ?_)
    refine ao_br (br_if_ne (tgt := 29) dX11_likes_24 (by decide)) (fun c42 => ?_) (fun c42 => ?_)
    · refine ao_s (st_iconst dX11_likes_27 ic_m1) ?_
      exact ao_ir dX11_likes_28 rfl rfl
    · refine ao_s (st_iload_n dX11_likes_29 rfl rfl) ?_
      refine ao_ite (fun c30 => ?_) (fun c30 => ?_)
      · refine ao_s (st_tabIn (v := 0) (off := 30) (tgt := 60) c30 dX11_likes_30 (by decide) (by decide)) ?_
        refine ao_s (st_aload dX11_likes_60 rfl) ?_
        refine ao_s (st_iconst dX11_likes_62 ic_0) ?_
        refine ao_s (st_iload_n dX11_likes_63 rfl rfl) ?_
        refine ao_s (st_iload_n dX11_likes_64 rfl rfl) ?_
        refine ao_cVi (Kc := kX8_like) (As := [.int 0, .int x1, .int x2]) (st := []) dX11_likes_65 ml_X11_152 mv_X8_like rfl e25 (by decide) rfl rfl (Nat.le_of_ble_eq_true rfl) (by decide) (s_X8_like h29 b24 0 x1 x2) (fun r34 h35 => ?_)
        exact ao_ir dX11_likes_68 rfl rfl
      · refine ao_ite (fun c31 => ?_) (fun c31 => ?_)
        · refine ao_s (st_tabIn (v := 1) (off := 39) (tgt := 69) c31 dX11_likes_30 (by decide) (by decide)) ?_
          refine ao_s (st_aload dX11_likes_69 rfl) ?_
          refine ao_s (st_iconst dX11_likes_71 ic_1) ?_
          refine ao_s (st_iload_n dX11_likes_72 rfl rfl) ?_
          refine ao_s (st_iload_n dX11_likes_73 rfl rfl) ?_
          refine ao_cVi (Kc := kX8_like) (As := [.int 1, .int x1, .int x2]) (st := []) dX11_likes_74 ml_X11_152 mv_X8_like rfl e25 (by decide) rfl rfl (Nat.le_of_ble_eq_true rfl) (by decide) (s_X8_like h29 b24 1 x1 x2) (fun r36 h37 => ?_)
          exact ao_ir dX11_likes_77 rfl rfl
        · refine ao_ite (fun c32 => ?_) (fun c32 => ?_)
          · refine ao_s (st_tabIn (v := 2) (off := 48) (tgt := 78) c32 dX11_likes_30 (by decide) (by decide)) ?_
            refine ao_s (st_aload dX11_likes_78 rfl) ?_
            refine ao_s (st_iconst dX11_likes_80 ic_0) ?_
            refine ao_s (st_iload_n dX11_likes_81 rfl rfl) ?_
            refine ao_s (st_iload_n dX11_likes_82 rfl rfl) ?_
            refine ao_cVi (Kc := kX8_trueLike) (As := [.int 0, .int x1, .int x2]) (st := []) dX11_likes_83 ml_X11_155 mv_X8_trueLike rfl e25 (by decide) rfl rfl (Nat.le_of_ble_eq_true rfl) (by decide) (s_X8_trueLike h29 b24 0 x1 x2) (fun r38 h39 => ?_)
            exact ao_ir dX11_likes_86 rfl rfl
          · refine ao_ite (fun c33 => ?_) (fun c33 => ?_)
            · refine ao_s (st_tabIn (v := 3) (off := 57) (tgt := 87) c33 dX11_likes_30 (by decide) (by decide)) ?_
              refine ao_s (st_aload dX11_likes_87 rfl) ?_
              refine ao_s (st_iconst dX11_likes_89 ic_1) ?_
              refine ao_s (st_iload_n dX11_likes_90 rfl rfl) ?_
              refine ao_s (st_iload_n dX11_likes_91 rfl rfl) ?_
              refine ao_cVi (Kc := kX8_trueLike) (As := [.int 1, .int x1, .int x2]) (st := []) dX11_likes_92 ml_X11_155 mv_X8_trueLike rfl e25 (by decide) rfl rfl (Nat.le_of_ble_eq_true rfl) (by decide) (s_X8_trueLike h29 b24 1 x1 x2) (fun r40 h41 => ?_)
              exact ao_ir dX11_likes_95 rfl rfl
            · refine ao_s (st_tabOut (tgt := 96) dX11_likes_30 (by have q0 := lv_neT c30 (show (0 : Int32).toInt = 0 by decide); have q1 := lv_neT c31 (show (1 : Int32).toInt = 1 by decide); have q2 := lv_neT c32 (show (2 : Int32).toInt = 2 by decide); have q3 := lv_neT c33 (show (3 : Int32).toInt = 3 by decide); omega) (by decide)) ?_
              refine ao_s (st_iconst dX11_likes_96 ic_m1) ?_
              exact ao_ir dX11_likes_97 rfl rfl
