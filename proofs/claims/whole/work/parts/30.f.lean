def b_X12_four_3 (k3 : aH → Nat → Int32 → Int32 → Option (Unit × aH)) (h : aH) (a0 : Nat) (x1 : Int32) (x2 : Int32) : Option (Unit × aH) :=
(if x2 < 0 then
some ((), h)
else
(if (sh a0).1 = 19 then
((hR h a0 0).bind fun b22 =>
(aLet (hI h a0 1) fun x23 =>
(if (sh b22).1 = 1 then
(if aIn x23 (sh b22).2 then
(aLet (pI h b22 x23.toNatClampNeg (vp_nar .byte ((x1 >>> (x2 &&& 31)).toInt8.toInt32))) fun h25 =>
(aLet (pI h25 a0 1 ((hI h25 a0 1) + 1)) fun h26 =>
k3 h26 a0 x1 (x2 + (-8))))
else none)
else none)))
else none))
set_option maxHeartbeats 2000000 in
theorem t_X12_four_3 {k3 : aH → Nat → Int32 → Int32 → Option (Unit × aH)} (hk3 : ∀ (h : aH) (a0 : Nat) (x1 : Int32) (x2 : Int32), AO eV 2 kX12_four 3 [some (.ref a0), some (.int x1), some (.int x2)] [] h (k3 h a0 x1 x2)) (h : aH) (a0 : Nat) (x1 : Int32) (x2 : Int32) : AO eV 2 kX12_four 3 [some (.ref a0), some (.int x1), some (.int x2)] [] h (b_X12_four_3 k3 h a0 x1 x2) := by
  unfold b_X12_four_3
  refine ao_s (st_iload_n dX12_four_3 rfl rfl) ?_
  refine ao_br (br_if_lt (tgt := 36) dX12_four_4 (by decide)) (fun c27 => ?_) (fun c27 => ?_)
  · exact ao_vr dX12_four_36 rfl
  · refine ao_s (st_aload_n dX12_four_7 rfl rfl) ?_
    refine ao_chk (fun e21 => ?_)
    refine ao_getR dX12_four_8 fl_X12_7 rfl e21 (fun b22 => ?_)
    refine ao_s (st_aload_n dX12_four_11 rfl rfl) ?_
    refine ao_getI dX12_four_12 fl_X12_89 rfl e21 ?_
    refine ao_s (st_iload_n dX12_four_15 rfl rfl) ?_
    refine ao_s (st_iload_n dX12_four_16 rfl rfl) ?_
    refine ao_s (st_ishr dX12_four_17) ?_
    refine ao_s (st_i2b dX12_four_18) ?_
    refine ao_let2 (fun x23 => ?_)
    refine ao_chk (fun e24 => ?_)
    refine ao_bast dX12_four_19 e24 ?_
    refine ao_letH (fun h25 => ?_)
    refine ao_s (st_aload_n dX12_four_20 rfl rfl) ?_
    refine ao_s (st_dup dX12_four_21 rfl) ?_
    refine ao_getI dX12_four_22 fl_X12_89 rfl e21 ?_
    refine ao_s (st_iconst dX12_four_25 ic_1) ?_
    refine ao_s (st_iadd dX12_four_26) ?_
    refine ao_putI dX12_four_27 fl_X12_89 rfl rfl rfl rfl e21 ?_
    refine ao_letH (fun h26 => ?_)
    refine ao_s (st_iinc (lv' := [some (.ref a0), some (.int x1), some (.int (x2 + (-8)))]) dX12_four_30 rfl nc_m8 (by decide) rfl) ?_
    refine ao_s (st_goto 3 dX12_four_33 (by decide)) ?_
    exact ao_w (sb_s (sb_s (sb_s sb_0))) (hk3 h26 a0 x1 (x2 + (-8)))
def f_X12_four_3 (n : Nat) : aH → Nat → Int32 → Int32 → Option (Unit × aH) := aIt (fun _ _ _ _ => none) (fun k => b_X12_four_3 k) n
theorem l_X12_four_3 (n : Nat) : ∀ (h : aH) (a0 : Nat) (x1 : Int32) (x2 : Int32), AO eV 2 kX12_four 3 [some (.ref a0), some (.int x1), some (.int x2)] [] h (f_X12_four_3 n h a0 x1 x2) := by
  induction n with
  | zero => intros; exact ao_none
  | succ n ih =>
    intro h a0 x1 x2
    exact t_X12_four_3 ih h a0 x1 x2
def f_X12_four (h : aH) (a0 : Nat) (x1 : Int32) : Option (Unit × aH) :=
f_X12_four_3 2000 h a0 x1 24
set_option maxHeartbeats 2000000 in
theorem s_X12_four (h : aH) (a0 : Nat) (x1 : Int32) : SO eV 2 kX12_four [.ref a0, .int x1] h (f_X12_four h a0 x1) := by
  refine so_of (lv0 := [some (.ref a0), some (.int x1), none]) pn_X12 (Nat.le_of_ble_eq_true rfl) rfl ?_
  unfold f_X12_four
  refine ao_s (st_bipush dX12_four_0 bp_24) ?_
  refine ao_s (st_istore_n (lv' := [some (.ref a0), some (.int x1), some (.int 24)]) dX12_four_2 rfl (by decide) rfl) ?_
  exact ao_w (sb_s (sb_s (sb_s sb_0))) (l_X12_four_3 2000 h a0 x1 24)
def f_X12_feed (h : aH) (a0 : Nat) (x1 : Int32) (x2 : Int32) (x3 : Int32) (x4 : Int32) (x5 : Int32) : Option (Int32 × aH) :=
(if (sh a0).1 = 19 then
(if (hI h a0 1) + 20 ≤ 400 then
(aBind (f_X12_four h a0 x1) fun r22 h23 =>
(aBind (f_X12_four h23 a0 x2) fun r24 h25 =>
(aBind (f_X12_four h25 a0 x3) fun r26 h27 =>
(aBind (f_X12_four h27 a0 x4) fun r28 h29 =>
(aBind (f_X12_four h29 a0 x5) fun r30 h31 =>
some (hI h31 a0 1, h31))))))
else
some ((-1), h))
else none)
set_option maxHeartbeats 2000000 in
theorem s_X12_feed (h : aH) (a0 : Nat) (x1 : Int32) (x2 : Int32) (x3 : Int32) (x4 : Int32) (x5 : Int32) : SO eI 3 kX12_feed [.ref a0, .int x1, .int x2, .int x3, .int x4, .int x5] h (f_X12_feed h a0 x1 x2 x3 x4 x5) := by
  refine so_of (lv0 := [some (.ref a0), some (.int x1), some (.int x2), some (.int x3), some (.int x4), some (.int x5)]) pn_X12 (Nat.le_of_ble_eq_true rfl) rfl ?_
  unfold f_X12_feed
  refine ao_s (st_aload_n dX12_feed_0 rfl rfl) ?_
  refine ao_chk (fun e21 => ?_)
  refine ao_getI dX12_feed_1 fl_X12_89 rfl e21 ?_
  refine ao_s (st_bipush dX12_feed_4 bp_20) ?_
  refine ao_s (st_iadd dX12_feed_6) ?_
  refine ao_s (st_sipush dX12_feed_7 sp_400) ?_
  refine ao_br (br_icmp_le (tgt := 15) dX12_feed_10 (by decide)) (fun c32 => ?_) (fun c32 => ?_)
  · refine ao_s (st_aload_n dX12_feed_15 rfl rfl) ?_
    refine ao_s (st_iload_n dX12_feed_16 rfl rfl) ?_
    refine ao_cVv (Kc := kX12_four) (As := [.int x1]) (st := []) dX12_feed_17 ml_X12_92 mv_X12_four rfl e21 (by decide) rfl rfl (Nat.le_of_ble_eq_true rfl) (by decide) (s_X12_four h a0 x1) (fun r22 h23 => ?_)
    refine ao_s (st_aload_n dX12_feed_20 rfl rfl) ?_
    refine ao_s (st_iload_n dX12_feed_21 rfl rfl) ?_
    refine ao_cVv (Kc := kX12_four) (As := [.int x2]) (st := []) dX12_feed_22 ml_X12_92 mv_X12_four rfl e21 (by decide) rfl rfl (Nat.le_of_ble_eq_true rfl) (by decide) (s_X12_four h23 a0 x2) (fun r24 h25 => ?_)
    refine ao_s (st_aload_n dX12_feed_25 rfl rfl) ?_
    refine ao_s (st_iload_n dX12_feed_26 rfl rfl) ?_
    refine ao_cVv (Kc := kX12_four) (As := [.int x3]) (st := []) dX12_feed_27 ml_X12_92 mv_X12_four rfl e21 (by decide) rfl rfl (Nat.le_of_ble_eq_true rfl) (by decide) (s_X12_four h25 a0 x3) (fun r26 h27 => ?_)
    refine ao_s (st_aload_n dX12_feed_30 rfl rfl) ?_
    refine ao_s (st_iload dX12_feed_31 rfl) ?_
    refine ao_cVv (Kc := kX12_four) (As := [.int x4]) (st := []) dX12_feed_33 ml_X12_92 mv_X12_four rfl e21 (by decide) rfl rfl (Nat.le_of_ble_eq_true rfl) (by decide) (s_X12_four h27 a0 x4) (fun r28 h29 => ?_)
    refine ao_s (st_aload_n dX12_feed_36 rfl rfl) ?_
    refine ao_s (st_iload dX12_feed_37 rfl) ?_
    refine ao_cVv (Kc := kX12_four) (As := [.int x5]) (st := []) dX12_feed_39 ml_X12_92 mv_X12_four rfl e21 (by decide) rfl rfl (Nat.le_of_ble_eq_true rfl) (by decide) (s_X12_four h29 a0 x5) (fun r30 h31 => ?_)
    refine ao_s (st_aload_n dX12_feed_42 rfl rfl) ?_
    refine ao_getI dX12_feed_43 fl_X12_89 rfl e21 ?_
    exact ao_ir dX12_feed_46 rfl rfl
  · refine ao_s (st_iconst dX12_feed_13 ic_m1) ?_
    exact ao_ir dX12_feed_14 rfl rfl
def f_X12_end (h : aH) (a0 : Nat) (x1 : Int32) : Option (Int32 × aH) :=
(if x1 < 0 then
some ((-1), h)
else
(if (sh a0).1 = 19 then
(if x1 ≤ hI h a0 1 then
(aLet (pI h a0 1 x1) fun h22 =>
some (x1, h22))
else
some ((-1), h))
else none))
set_option maxHeartbeats 2000000 in
theorem s_X12_end (h : aH) (a0 : Nat) (x1 : Int32) : SO eI 2 kX12_end [.ref a0, .int x1] h (f_X12_end h a0 x1) := by
  refine so_of (lv0 := [some (.ref a0), some (.int x1)]) pn_X12 (Nat.le_of_ble_eq_true rfl) rfl ?_
  unfold f_X12_end
  refine ao_s (st_iload_n dX12_end_0 rfl rfl) ?_
  refine ao_br (br_if_lt (tgt := 12) dX12_end_1 (by decide)) (fun c24 => ?_) (fun c24 => ?_)
  · refine ao_s (st_iconst dX12_end_12 ic_m1) ?_
    exact ao_ir dX12_end_13 rfl rfl
  · refine ao_s (st_iload_n dX12_end_4 rfl rfl) ?_
    refine ao_s (st_aload_n dX12_end_5 rfl rfl) ?_
    refine ao_chk (fun e21 => ?_)
    refine ao_getI dX12_end_6 fl_X12_89 rfl e21 ?_
    refine ao_br (br_icmp_le (tgt := 14) dX12_end_9 (by decide)) (fun c23 => ?_) (fun c23 => ?_)
    · refine ao_s (st_aload_n dX12_end_14 rfl rfl) ?_
      refine ao_s (st_iload_n dX12_end_15 rfl rfl) ?_
      refine ao_putI dX12_end_16 fl_X12_89 rfl rfl rfl rfl e21 ?_
      refine ao_letH (fun h22 => ?_)
      refine ao_s (st_iload_n dX12_end_19 rfl rfl) ?_
      exact ao_ir dX12_end_20 rfl rfl
    · refine ao_s (st_iconst dX12_end_12 ic_m1) ?_
      exact ao_ir dX12_end_13 rfl rfl
def f_X12_fails (h : aH) (a0 : Nat) (x1 : Int32) (x2 : Int32) : Option (Int32 × aH) :=
(if (sh a0).1 = 19 then
(if hI h a0 9 = 0 then
(aLet (pI h a0 9 ((1 + (8 * x2)) + x1)) fun h22 =>
some (0, h22))
else
some (0, h))
else none)
set_option maxHeartbeats 2000000 in
theorem s_X12_fails (h : aH) (a0 : Nat) (x1 : Int32) (x2 : Int32) : SO eI 2 kX12_fails [.ref a0, .int x1, .int x2] h (f_X12_fails h a0 x1 x2) := by
  refine so_of (lv0 := [some (.ref a0), some (.int x1), some (.int x2)]) pn_X12 (Nat.le_of_ble_eq_true rfl) rfl ?_
  unfold f_X12_fails
  refine ao_s (st_aload_n dX12_fails_0 rfl rfl) ?_
  refine ao_chk (fun e21 => ?_)
  refine ao_getI dX12_fails_1 fl_X12_96 rfl e21 ?_
  refine ao_br (br_if_ne (tgt := 19) dX12_fails_4 (by decide)) (fun c23 => ?_) (fun c23 => ?_)
  · refine ao_s (st_aload_n dX12_fails_7 rfl rfl) ?_
    refine ao_s (st_iconst dX12_fails_8 ic_1) ?_
    refine ao_s (st_bipush dX12_fails_9 bp_8) ?_
    refine ao_s (st_iload_n dX12_fails_11 rfl rfl) ?_
    refine ao_s (st_imul dX12_fails_12) ?_
    refine ao_s (st_iadd dX12_fails_13) ?_
    refine ao_s (st_iload_n dX12_fails_14 rfl rfl) ?_
    refine ao_s (st_iadd dX12_fails_15) ?_
    refine ao_putI dX12_fails_16 fl_X12_96 rfl rfl rfl rfl e21 ?_
    refine ao_letH (fun h22 => ?_)
    refine ao_s (st_iconst dX12_fails_19 ic_0) ?_
    exact ao_ir dX12_fails_20 rfl (by decide)
  · refine ao_s (st_iconst dX12_fails_19 ic_0) ?_
    exact ao_ir dX12_fails_20 rfl (by decide)
def b_X12_see_38 (h : aH) (a0 : Nat) : Option (Int32 × aH) :=
(if (sh a0).1 = 19 then
(if hI h a0 1 ≤ hI h a0 8 then
some ((-1), h)
else
((hR h a0 0).bind fun b22 =>
(aLet (hI h a0 8) fun x23 =>
(if (sh b22).1 = 1 then
(if aIn x23 (sh b22).2 then
some ((hI h b22 x23.toNatClampNeg) &&& 255, h)
else none)
else none))))
else none)
set_option maxHeartbeats 2000000 in
theorem t_X12_see_38 (h : aH) (a0 : Nat) : AO eI 2 kX12_see 38 [some (.ref a0)] [] h (b_X12_see_38 h a0) := by
  unfold b_X12_see_38
  refine ao_s (st_aload_n dX12_see_38 rfl rfl) ?_
  refine ao_chk (fun e21 => ?_)
  refine ao_getI dX12_see_39 fl_X12_99 rfl e21 ?_
  refine ao_s (st_aload_n dX12_see_42 rfl rfl) ?_
  refine ao_getI dX12_see_43 fl_X12_89 rfl e21 ?_
  refine ao_br (br_icmp_ge (tgt := 65) dX12_see_46 (by decide)) (fun c25 => ?_) (fun c25 => ?_)
  · refine ao_s (st_iconst dX12_see_65 ic_m1) ?_
    exact ao_ir dX12_see_66 rfl rfl
  · refine ao_s (st_aload_n dX12_see_49 rfl rfl) ?_
    refine ao_getR dX12_see_50 fl_X12_7 rfl e21 (fun b22 => ?_)
    refine ao_s (st_aload_n dX12_see_53 rfl rfl) ?_
    refine ao_getI dX12_see_54 fl_X12_99 rfl e21 ?_
    refine ao_letI (fun x23 => ?_)
    refine ao_chk (fun e24 => ?_)
    refine ao_bald dX12_see_57 e24 ?_
    refine ao_s (st_sipush dX12_see_58 sp_255) ?_
    refine ao_s (st_iand dX12_see_61) ?_
    refine ao_s (st_goto 66 dX12_see_62 (by decide)) ?_
    exact ao_ir dX12_see_66 rfl rfl
def b_X12_see_0 (k0 : aH → Nat → Option (Int32 × aH)) (h : aH) (a0 : Nat) : Option (Int32 × aH) :=
(if (sh a0).1 = 19 then
(if hI h a0 1 ≤ hI h a0 8 then
b_X12_see_38 h a0
else
((hR h a0 0).bind fun b22 =>
(aLet (hI h a0 8) fun x23 =>
(if (sh b22).1 = 1 then
(if aIn x23 (sh b22).2 then
(if hI h b22 x23.toNatClampNeg = 32 then
(aLet (pI h a0 8 ((hI h a0 8) + 1)) fun h25 =>
k0 h25 a0)
else
b_X12_see_38 h a0)
else none)
else none))))
else none)
set_option maxHeartbeats 2000000 in
theorem t_X12_see_0 {k0 : aH → Nat → Option (Int32 × aH)} (hk0 : ∀ (h : aH) (a0 : Nat), AO eI 2 kX12_see 0 [some (.ref a0)] [] h (k0 h a0)) (h : aH) (a0 : Nat) : AO eI 2 kX12_see 0 [some (.ref a0)] [] h (b_X12_see_0 k0 h a0) := by
  unfold b_X12_see_0
  refine ao_s (st_aload_n dX12_see_0 rfl rfl) ?_
  refine ao_chk (fun e21 => ?_)
  refine ao_getI dX12_see_1 fl_X12_99 rfl e21 ?_
  refine ao_s (st_aload_n dX12_see_4 rfl rfl) ?_
  refine ao_getI dX12_see_5 fl_X12_89 rfl e21 ?_
  refine ao_br (br_icmp_ge (tgt := 38) dX12_see_8 (by decide)) (fun c27 => ?_) (fun c27 => ?_)
  · exact ao_w (sb_s sb_0) (t_X12_see_38 h a0)
  · refine ao_s (st_aload_n dX12_see_11 rfl rfl) ?_
    refine ao_getR dX12_see_12 fl_X12_7 rfl e21 (fun b22 => ?_)
    refine ao_s (st_aload_n dX12_see_15 rfl rfl) ?_
    refine ao_getI dX12_see_16 fl_X12_99 rfl e21 ?_
    refine ao_letI (fun x23 => ?_)
    refine ao_chk (fun e24 => ?_)
    refine ao_bald dX12_see_19 e24 ?_
    refine ao_s (st_bipush dX12_see_20 bp_32) ?_
    refine ao_br (br_icmp_ne (tgt := 38) dX12_see_22 (by decide)) (fun c26 => ?_) (fun c26 => ?_)
    · refine ao_s (st_aload_n dX12_see_25 rfl rfl) ?_
      refine ao_s (st_dup dX12_see_26 rfl) ?_
      refine ao_getI dX12_see_27 fl_X12_99 rfl e21 ?_
      refine ao_s (st_iconst dX12_see_30 ic_1) ?_
      refine ao_s (st_iadd dX12_see_31) ?_
      refine ao_putI dX12_see_32 fl_X12_99 rfl rfl rfl rfl e21 ?_
      refine ao_letH (fun h25 => ?_)
      refine ao_s (st_goto 0 dX12_see_35 (by decide)) ?_
      exact ao_w (sb_s sb_0) (hk0 h25 a0)
    · exact ao_w (sb_s sb_0) (t_X12_see_38 h a0)
def f_X12_see_0 (n : Nat) : aH → Nat → Option (Int32 × aH) := aIt (fun _ _ => none) (fun k => b_X12_see_0 k) n
theorem l_X12_see_0 (n : Nat) : ∀ (h : aH) (a0 : Nat), AO eI 2 kX12_see 0 [some (.ref a0)] [] h (f_X12_see_0 n h a0) := by
  induction n with
  | zero => intros; exact ao_none
  | succ n ih =>
    intro h a0
    exact t_X12_see_0 ih h a0
def f_X12_see (h : aH) (a0 : Nat) : Option (Int32 × aH) :=
f_X12_see_0 2000 h a0
set_option maxHeartbeats 2000000 in
theorem s_X12_see (h : aH) (a0 : Nat) : SO eI 2 kX12_see [.ref a0] h (f_X12_see h a0) := by
  refine so_of (lv0 := [some (.ref a0)]) pn_X12 (Nat.le_of_ble_eq_true rfl) rfl ?_
  unfold f_X12_see
  exact ao_w (sb_s sb_0) (l_X12_see_0 2000 h a0)
def f_X12_isDigit (h : aH) (a0 : Nat) (x1 : Int32) : Option (Int32 × aH) :=
(if (sh a0).1 = 19 then
(if hI h a0 1 ≤ x1 then
some (0, h)
else
((hR h a0 0).bind fun b22 =>
(if (sh b22).1 = 1 then
(if aIn x1 (sh b22).2 then
(if hI h b22 x1.toNatClampNeg < 48 then
some (0, h)
else
((hR h a0 0).bind fun b24 =>
(if (sh b24).1 = 1 then
(if aIn x1 (sh b24).2 then
(if 57 < hI h b24 x1.toNatClampNeg then
some (0, h)
else
some (1, h))
else none)
else none)))
else none)
else none)))
else none)
set_option maxHeartbeats 2000000 in
theorem s_X12_isDigit (h : aH) (a0 : Nat) (x1 : Int32) : SO eI 2 kX12_isDigit [.ref a0, .int x1] h (f_X12_isDigit h a0 x1) := by
  refine so_of (lv0 := [some (.ref a0), some (.int x1)]) pn_X12 (Nat.le_of_ble_eq_true rfl) rfl ?_
  unfold f_X12_isDigit
  refine ao_s (st_iload_n dX12_isDigit_0 rfl rfl) ?_
  refine ao_s (st_aload_n dX12_isDigit_1 rfl rfl) ?_
  refine ao_chk (fun e21 => ?_)
  refine ao_getI dX12_isDigit_2 fl_X12_89 rfl e21 ?_
  refine ao_br (br_icmp_ge (tgt := 34) dX12_isDigit_5 (by decide)) (fun c28 => ?_) (fun c28 => ?_)
  · refine ao_s (st_iconst dX12_isDigit_34 ic_0) ?_
    exact ao_ir dX12_isDigit_35 rfl (by decide)
  · refine ao_s (st_aload_n dX12_isDigit_8 rfl rfl) ?_
    refine ao_getR dX12_isDigit_9 fl_X12_7 rfl e21 (fun b22 => ?_)
    refine ao_s (st_iload_n dX12_isDigit_12 rfl rfl) ?_
    refine ao_chk (fun e23 => ?_)
    refine ao_bald dX12_isDigit_13 e23 ?_
    refine ao_s (st_bipush dX12_isDigit_14 bp_48) ?_
    refine ao_br (br_icmp_lt (tgt := 34) dX12_isDigit_16 (by decide)) (fun c27 => ?_) (fun c27 => ?_)
    · refine ao_s (st_iconst dX12_isDigit_34 ic_0) ?_
      exact ao_ir dX12_isDigit_35 rfl (by decide)
    · refine ao_s (st_aload_n dX12_isDigit_19 rfl rfl) ?_
      refine ao_getR dX12_isDigit_20 fl_X12_7 rfl e21 (fun b24 => ?_)
      refine ao_s (st_iload_n dX12_isDigit_23 rfl rfl) ?_
      refine ao_chk (fun e25 => ?_)
      refine ao_bald dX12_isDigit_24 e25 ?_
      refine ao_s (st_bipush dX12_isDigit_25 bp_57) ?_
      refine ao_br (br_icmp_gt (tgt := 34) dX12_isDigit_27 (by decide)) (fun c26 => ?_) (fun c26 => ?_)
      · refine ao_s (st_iconst dX12_isDigit_34 ic_0) ?_
        exact ao_ir dX12_isDigit_35 rfl (by decide)
      · refine ao_s (st_iconst dX12_isDigit_30 ic_1) ?_
        refine ao_s (st_goto 35 dX12_isDigit_31 (by decide)) ?_
        exact ao_ir dX12_isDigit_35 rfl (by decide)
def f_X12_isLetter (h : aH) (a0 : Nat) (x1 : Int32) : Option (Int32 × aH) :=
(if (sh a0).1 = 19 then
(if hI h a0 1 ≤ x1 then
some (0, h)
else
((hR h a0 0).bind fun b22 =>
(if (sh b22).1 = 1 then
(if aIn x1 (sh b22).2 then
(if hI h b22 x1.toNatClampNeg < 97 then
some (0, h)
else
((hR h a0 0).bind fun b24 =>
(if (sh b24).1 = 1 then
(if aIn x1 (sh b24).2 then
(if 122 < hI h b24 x1.toNatClampNeg then
some (0, h)
else
some (1, h))
else none)
else none)))
else none)
else none)))
else none)
set_option maxHeartbeats 2000000 in
theorem s_X12_isLetter (h : aH) (a0 : Nat) (x1 : Int32) : SO eI 2 kX12_isLetter [.ref a0, .int x1] h (f_X12_isLetter h a0 x1) := by
  refine so_of (lv0 := [some (.ref a0), some (.int x1)]) pn_X12 (Nat.le_of_ble_eq_true rfl) rfl ?_
  unfold f_X12_isLetter
  refine ao_s (st_iload_n dX12_isLetter_0 rfl rfl) ?_
  refine ao_s (st_aload_n dX12_isLetter_1 rfl rfl) ?_
  refine ao_chk (fun e21 => ?_)
  refine ao_getI dX12_isLetter_2 fl_X12_89 rfl e21 ?_
  refine ao_br (br_icmp_ge (tgt := 34) dX12_isLetter_5 (by decide)) (fun c28 => ?_) (fun c28 => ?_)
  · refine ao_s (st_iconst dX12_isLetter_34 ic_0) ?_
    exact ao_ir dX12_isLetter_35 rfl (by decide)
  · refine ao_s (st_aload_n dX12_isLetter_8 rfl rfl) ?_
    refine ao_getR dX12_isLetter_9 fl_X12_7 rfl e21 (fun b22 => ?_)
    refine ao_s (st_iload_n dX12_isLetter_12 rfl rfl) ?_
    refine ao_chk (fun e23 => ?_)
    refine ao_bald dX12_isLetter_13 e23 ?_
    refine ao_s (st_bipush dX12_isLetter_14 bp_97) ?_
    refine ao_br (br_icmp_lt (tgt := 34) dX12_isLetter_16 (by decide)) (fun c27 => ?_) (fun c27 => ?_)
    · refine ao_s (st_iconst dX12_isLetter_34 ic_0) ?_
      exact ao_ir dX12_isLetter_35 rfl (by decide)
    · refine ao_s (st_aload_n dX12_isLetter_19 rfl rfl) ?_
      refine ao_getR dX12_isLetter_20 fl_X12_7 rfl e21 (fun b24 => ?_)
      refine ao_s (st_iload_n dX12_isLetter_23 rfl rfl) ?_
      refine ao_chk (fun e25 => ?_)
      refine ao_bald dX12_isLetter_24 e25 ?_
      refine ao_s (st_bipush dX12_isLetter_25 bp_122) ?_
      refine ao_br (br_icmp_gt (tgt := 34) dX12_isLetter_27 (by decide)) (fun c26 => ?_) (fun c26 => ?_)
      · refine ao_s (st_iconst dX12_isLetter_34 ic_0) ?_
        exact ao_ir dX12_isLetter_35 rfl (by decide)
      · refine ao_s (st_iconst dX12_isLetter_30 ic_1) ?_
        refine ao_s (st_goto 35 dX12_isLetter_31 (by decide)) ?_
        exact ao_ir dX12_isLetter_35 rfl (by decide)
def b_X12_isWord_50 (k10 : aH → Nat → Int64 → Int64 → Int32 → Option (Int32 × aH)) (h : aH) (a0 : Nat) (x1 : Int64) (x3 : Int64) (x5 : Int32) : Option (Int32 × aH) :=
k10 h a0 x1 x3 (x5 + 1)
set_option maxHeartbeats 2000000 in
theorem t_X12_isWord_50 {k10 : aH → Nat → Int64 → Int64 → Int32 → Option (Int32 × aH)} (hk10 : ∀ (h : aH) (a0 : Nat) (x1 : Int64) (x3 : Int64) (x5 : Int32), AO eI 3 kX12_isWord 10 [some (.ref a0), some (.long x1), none, some (.long x3), none, some (.int x5)] [] h (k10 h a0 x1 x3 x5)) (h : aH) (a0 : Nat) (x1 : Int64) (x3 : Int64) (x5 : Int32) : AO eI 3 kX12_isWord 50 [some (.ref a0), some (.long x1), none, some (.long x3), none, some (.int x5)] [] h (b_X12_isWord_50 k10 h a0 x1 x3 x5) := by
  unfold b_X12_isWord_50
  refine ao_s (st_iinc (lv' := [some (.ref a0), some (.long x1), none, some (.long x3), none, some (.int (x5 + 1))]) dX12_isWord_50 rfl nc_1 (by decide) rfl) ?_
  refine ao_s (st_goto 10 dX12_isWord_53 (by decide)) ?_
  exact ao_w (sb_s (sb_s (sb_n (sb_s (sb_n (sb_s sb_0)))))) (hk10 h a0 x1 x3 (x5 + 1))
def b_X12_isWord_10 (k10 : aH → Nat → Int64 → Int64 → Int32 → Option (Int32 × aH)) (h : aH) (a0 : Nat) (x1 : Int64) (x3 : Int64) (x5 : Int32) : Option (Int32 × aH) :=
(if (sh a0).1 = 19 then
(aBind (f_X12_isLetter h a0 ((hI h a0 8) + x5)) fun r22 h23 =>
(if r22 = 0 then
(if x5 ≤ 0 then
some (0, h23)
else
(if 8 ≤ x5 then
some (0, h23)
else
(if lg_cmp x3 x1 = 0 then
some (1, h23)
else
some (0, h23))))
else
(if 8 ≤ x5 then
b_X12_isWord_50 k10 h23 a0 x1 x3 x5
else
((hR h23 a0 0).bind fun b27 =>
(aLet ((hI h23 a0 8) + x5) fun x28 =>
(if (sh b27).1 = 1 then
(if aIn x28 (sh b27).2 then
(aLet ((x3 <<< ((8 : Int32).toInt64 &&& 63)) ||| ((hI h23 b27 x28.toNatClampNeg).toInt64)) fun x30 =>
b_X12_isWord_50 k10 h23 a0 x1 x30 x5)
else none)
else none))))))
else none)
set_option maxHeartbeats 2000000 in
theorem t_X12_isWord_10 {k10 : aH → Nat → Int64 → Int64 → Int32 → Option (Int32 × aH)} (hk10 : ∀ (h : aH) (a0 : Nat) (x1 : Int64) (x3 : Int64) (x5 : Int32), AO eI 3 kX12_isWord 10 [some (.ref a0), some (.long x1), none, some (.long x3), none, some (.int x5)] [] h (k10 h a0 x1 x3 x5)) (h : aH) (a0 : Nat) (x1 : Int64) (x3 : Int64) (x5 : Int32) : AO eI 3 kX12_isWord 10 [some (.ref a0), some (.long x1), none, some (.long x3), none, some (.int x5)] [] h (b_X12_isWord_10 k10 h a0 x1 x3 x5) := by
  unfold b_X12_isWord_10
  refine ao_s (st_aload_n dX12_isWord_10 rfl rfl) ?_
  refine ao_s (st_aload_n dX12_isWord_11 rfl rfl) ?_
  refine ao_chk (fun e21 => ?_)
  refine ao_getI dX12_isWord_12 fl_X12_99 rfl e21 ?_
  refine ao_s (st_iload dX12_isWord_15 rfl) ?_
  refine ao_s (st_iadd dX12_isWord_17) ?_
  refine ao_cVi (Kc := kX12_isLetter) (As := [.int ((hI h a0 8) + x5)]) (st := []) dX12_isWord_18 ml_X12_106 mv_X12_isLetter rfl e21 (by decide) rfl rfl (Nat.le_of_ble_eq_true rfl) (by decide) (s_X12_isLetter h a0 ((hI h a0 8) + x5)) (fun r22 h23 => ?_)
  refine ao_br (br_if_eq (tgt := 56) dX12_isWord_21 (by decide)) (fun c32 => ?_) (fun c32 => ?_)
  · refine ao_s (st_iload dX12_isWord_56 rfl) ?_
    refine ao_br (br_if_le (tgt := 78) dX12_isWord_58 (by decide)) (fun c26 => ?_) (fun c26 => ?_)
    · refine ao_s (st_iconst dX12_isWord_78 ic_0) ?_
      exact ao_ir dX12_isWord_79 rfl (by decide)
    · refine ao_s (st_iload dX12_isWord_61 rfl) ?_
      refine ao_s (st_bipush dX12_isWord_63 bp_8) ?_
      refine ao_br (br_icmp_ge (tgt := 78) dX12_isWord_65 (by decide)) (fun c25 => ?_) (fun c25 => ?_)
      · refine ao_s (st_iconst dX12_isWord_78 ic_0) ?_
        exact ao_ir dX12_isWord_79 rfl (by decide)
      · refine ao_s (st_lload_n dX12_isWord_68 rfl rfl) ?_
        refine ao_s (st_lload_n dX12_isWord_69 rfl rfl) ?_
        refine ao_s (st_lcmp dX12_isWord_70) ?_
        refine ao_br (br_if_ne (tgt := 78) dX12_isWord_71 (by decide)) (fun c24 => ?_) (fun c24 => ?_)
        · refine ao_s (st_iconst dX12_isWord_74 ic_1) ?_
          refine ao_s (st_goto 79 dX12_isWord_75 (by decide)) ?_
          exact ao_ir dX12_isWord_79 rfl (by decide)
        · refine ao_s (st_iconst dX12_isWord_78 ic_0) ?_
          exact ao_ir dX12_isWord_79 rfl (by decide)
  · refine ao_s (st_iload dX12_isWord_24 rfl) ?_
    refine ao_s (st_bipush dX12_isWord_26 bp_8) ?_
    refine ao_br (br_icmp_ge (tgt := 50) dX12_isWord_28 (by decide)) (fun c31 => ?_) (fun c31 => ?_)
    · exact ao_w (sb_s (sb_s (sb_n (sb_s (sb_n (sb_s sb_0)))))) (t_X12_isWord_50 hk10 h23 a0 x1 x3 x5)
    · refine ao_s (st_lload_n dX12_isWord_31 rfl rfl) ?_
      refine ao_s (st_bipush dX12_isWord_32 bp_8) ?_
      refine ao_s (st_lshl dX12_isWord_34) ?_
      refine ao_s (st_aload_n dX12_isWord_35 rfl rfl) ?_
      refine ao_getR dX12_isWord_36 fl_X12_7 rfl e21 (fun b27 => ?_)
      refine ao_s (st_aload_n dX12_isWord_39 rfl rfl) ?_
      refine ao_getI dX12_isWord_40 fl_X12_99 rfl e21 ?_
      refine ao_s (st_iload dX12_isWord_43 rfl) ?_
      refine ao_s (st_iadd dX12_isWord_45) ?_
      refine ao_letI (fun x28 => ?_)
      refine ao_chk (fun e29 => ?_)
      refine ao_bald dX12_isWord_46 e29 ?_
      refine ao_s (st_i2l dX12_isWord_47) ?_
      refine ao_s (st_lor dX12_isWord_48) ?_
      refine ao_letL (fun x30 => ?_)
      refine ao_s (st_lstore_n (lv' := [some (.ref a0), some (.long x1), none, some (.long x30), none, some (.int x5)]) dX12_isWord_49 rfl (by decide) rfl) ?_
      exact ao_w (sb_s (sb_s (sb_n (sb_s (sb_n (sb_s sb_0)))))) (t_X12_isWord_50 hk10 h23 a0 x1 x30 x5)
def f_X12_isWord_10 (n : Nat) : aH → Nat → Int64 → Int64 → Int32 → Option (Int32 × aH) := aIt (fun _ _ _ _ _ => none) (fun k => b_X12_isWord_10 k) n
theorem l_X12_isWord_10 (n : Nat) : ∀ (h : aH) (a0 : Nat) (x1 : Int64) (x3 : Int64) (x5 : Int32), AO eI 3 kX12_isWord 10 [some (.ref a0), some (.long x1), none, some (.long x3), none, some (.int x5)] [] h (f_X12_isWord_10 n h a0 x1 x3 x5) := by
  induction n with
  | zero => intros; exact ao_none
  | succ n ih =>
    intro h a0 x1 x3 x5
    exact t_X12_isWord_10 ih h a0 x1 x3 x5
def f_X12_isWord (h : aH) (a0 : Nat) (x1 : Int64) : Option (Int32 × aH) :=
(if (sh a0).1 = 19 then
(aBind (f_X12_see h a0) fun r22 h23 =>
f_X12_isWord_10 2000 h23 a0 x1 0 0)
else none)
set_option maxHeartbeats 2000000 in
theorem s_X12_isWord (h : aH) (a0 : Nat) (x1 : Int64) : SO eI 3 kX12_isWord [.ref a0, .long x1] h (f_X12_isWord h a0 x1) := by
  refine so_of (lv0 := [some (.ref a0), some (.long x1), none, none, none, none]) pn_X12 (Nat.le_of_ble_eq_true rfl) rfl ?_
  unfold f_X12_isWord
  refine ao_s (st_aload_n dX12_isWord_0 rfl rfl) ?_
  refine ao_chk (fun e21 => ?_)
  refine ao_cVi (Kc := kX12_see) (As := []) (st := []) dX12_isWord_1 ml_X12_102 mv_X12_see rfl e21 (by decide) rfl rfl (Nat.le_of_ble_eq_true rfl) (by decide) (s_X12_see h a0) (fun r22 h23 => ?_)
  refine ao_s (st_pop dX12_isWord_4 rfl) ?_
  refine ao_s (st_lconst dX12_isWord_5 lc_0) ?_
  refine ao_s (st_lstore_n (lv' := [some (.ref a0), some (.long x1), none, some (.long 0), none, none]) dX12_isWord_6 rfl (by decide) rfl) ?_
  refine ao_s (st_iconst dX12_isWord_7 ic_0) ?_
  refine ao_s (st_istore (lv' := [some (.ref a0), some (.long x1), none, some (.long 0), none, some (.int 0)]) dX12_isWord_8 (by decide) rfl) ?_
  exact ao_w (sb_s (sb_s (sb_n (sb_s (sb_n (sb_s sb_0)))))) (l_X12_isWord_10 2000 h23 a0 x1 0 0)
def b_X12_passWord_0 (k0 : aH → Nat → Option (Unit × aH)) (h : aH) (a0 : Nat) : Option (Unit × aH) :=
(if (sh a0).1 = 19 then
(aBind (f_X12_isLetter h a0 (hI h a0 8)) fun r22 h23 =>
(if r22 = 0 then
some ((), h23)
else
(aLet (pI h23 a0 8 ((hI h23 a0 8) + 1)) fun h24 =>
k0 h24 a0)))
else none)
set_option maxHeartbeats 2000000 in
theorem t_X12_passWord_0 {k0 : aH → Nat → Option (Unit × aH)} (hk0 : ∀ (h : aH) (a0 : Nat), AO eV 3 kX12_passWord 0 [some (.ref a0)] [] h (k0 h a0)) (h : aH) (a0 : Nat) : AO eV 3 kX12_passWord 0 [some (.ref a0)] [] h (b_X12_passWord_0 k0 h a0) := by
  unfold b_X12_passWord_0
  refine ao_s (st_aload_n dX12_passWord_0 rfl rfl) ?_
  refine ao_s (st_aload_n dX12_passWord_1 rfl rfl) ?_
  refine ao_chk (fun e21 => ?_)
  refine ao_getI dX12_passWord_2 fl_X12_99 rfl e21 ?_
  refine ao_cVi (Kc := kX12_isLetter) (As := [.int (hI h a0 8)]) (st := []) dX12_passWord_5 ml_X12_106 mv_X12_isLetter rfl e21 (by decide) rfl rfl (Nat.le_of_ble_eq_true rfl) (by decide) (s_X12_isLetter h a0 (hI h a0 8)) (fun r22 h23 => ?_)
  refine ao_br (br_if_eq (tgt := 24) dX12_passWord_8 (by decide)) (fun c25 => ?_) (fun c25 => ?_)
  · exact ao_vr dX12_passWord_24 rfl
  · refine ao_s (st_aload_n dX12_passWord_11 rfl rfl) ?_
    refine ao_s (st_dup dX12_passWord_12 rfl) ?_
    refine ao_getI dX12_passWord_13 fl_X12_99 rfl e21 ?_
    refine ao_s (st_iconst dX12_passWord_16 ic_1) ?_
    refine ao_s (st_iadd dX12_passWord_17) ?_
    refine ao_putI dX12_passWord_18 fl_X12_99 rfl rfl rfl rfl e21 ?_
    refine ao_letH (fun h24 => ?_)
    refine ao_s (st_goto 0 dX12_passWord_21 (by decide)) ?_
    exact ao_w (sb_s sb_0) (hk0 h24 a0)
def f_X12_passWord_0 (n : Nat) : aH → Nat → Option (Unit × aH) := aIt (fun _ _ => none) (fun k => b_X12_passWord_0 k) n
theorem l_X12_passWord_0 (n : Nat) : ∀ (h : aH) (a0 : Nat), AO eV 3 kX12_passWord 0 [some (.ref a0)] [] h (f_X12_passWord_0 n h a0) := by
  induction n with
  | zero => intros; exact ao_none
  | succ n ih =>
    intro h a0
    exact t_X12_passWord_0 ih h a0
def f_X12_passWord (h : aH) (a0 : Nat) : Option (Unit × aH) :=
f_X12_passWord_0 2000 h a0
set_option maxHeartbeats 2000000 in
theorem s_X12_passWord (h : aH) (a0 : Nat) : SO eV 3 kX12_passWord [.ref a0] h (f_X12_passWord h a0) := by
  refine so_of (lv0 := [some (.ref a0)]) pn_X12 (Nat.le_of_ble_eq_true rfl) rfl ?_
  unfold f_X12_passWord
  exact ao_w (sb_s sb_0) (l_X12_passWord_0 2000 h a0)
def f_X12_takesWord (h : aH) (a0 : Nat) (x1 : Int64) : Option (Int32 × aH) :=
(if (sh a0).1 = 19 then
(aBind (f_X12_isWord h a0 x1) fun r22 h23 =>
(if r22 = 0 then
some (0, h23)
else
(aBind (f_X12_passWord h23 a0) fun r24 h25 =>
some (1, h25))))
else none)
set_option maxHeartbeats 2000000 in
theorem s_X12_takesWord (h : aH) (a0 : Nat) (x1 : Int64) : SO eI 4 kX12_takesWord [.ref a0, .long x1] h (f_X12_takesWord h a0 x1) := by
  refine so_of (lv0 := [some (.ref a0), some (.long x1), none]) pn_X12 (Nat.le_of_ble_eq_true rfl) rfl ?_
  unfold f_X12_takesWord
  refine ao_s (st_aload_n dX12_takesWord_0 rfl rfl) ?_
  refine ao_s (st_lload_n dX12_takesWord_1 rfl rfl) ?_
  refine ao_chk (fun e21 => ?_)
  refine ao_cVi (Kc := kX12_isWord) (As := [.long x1]) (st := []) dX12_takesWord_2 ml_X12_110 mv_X12_isWord rfl e21 (by decide) rfl rfl (Nat.le_of_ble_eq_true rfl) (by decide) (s_X12_isWord h a0 x1) (fun r22 h23 => ?_)
  refine ao_br (br_if_ne (tgt := 10) dX12_takesWord_5 (by decide)) (fun c26 => ?_) (fun c26 => ?_)
  · refine ao_s (st_iconst dX12_takesWord_8 ic_0) ?_
    exact ao_ir dX12_takesWord_9 rfl (by decide)
  · refine ao_s (st_aload_n dX12_takesWord_10 rfl rfl) ?_
    refine ao_cVv (Kc := kX12_passWord) (As := []) (st := []) dX12_takesWord_11 ml_X12_114 mv_X12_passWord rfl e21 (by decide) rfl rfl (Nat.le_of_ble_eq_true rfl) (by decide) (s_X12_passWord h23 a0) (fun r24 h25 => ?_)
    refine ao_s (st_iconst dX12_takesWord_14 ic_1) ?_
    exact ao_ir dX12_takesWord_15 rfl (by decide)
