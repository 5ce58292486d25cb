def f_X9_byteAt (h : aH) (a0 : Nat) (x1 : Int32) : Option (Int32 × aH) :=
(if x1 < 0 then
some ((-1), h)
else
(if (sh a0).1 = 16 then
(if hI h a0 1 ≤ x1 then
some ((-1), h)
else
((hR h a0 0).bind fun b22 =>
(if (sh b22).1 = 1 then
(if aIn x1 (sh b22).2 then
some ((hI h b22 x1.toNatClampNeg) &&& 255, h)
else none)
else none)))
else none))
set_option maxHeartbeats 2000000 in
theorem s_X9_byteAt (h : aH) (a0 : Nat) (x1 : Int32) : SO eI 2 kX9_byteAt [.ref a0, .int x1] h (f_X9_byteAt h a0 x1) := by
  refine so_of (lv0 := [some (.ref a0), some (.int x1)]) pn_X9 (Nat.le_of_ble_eq_true rfl) rfl ?_
  unfold f_X9_byteAt
  refine ao_s (st_iload_n dX9_byteAt_0 rfl rfl) ?_
  refine ao_br (br_if_lt (tgt := 25) dX9_byteAt_1 (by decide)) (fun c25 => ?_) (fun c25 => ?_)
  · refine ao_s (st_iconst dX9_byteAt_25 ic_m1) ?_
    exact ao_ir dX9_byteAt_26 rfl rfl
  · refine ao_s (st_iload_n dX9_byteAt_4 rfl rfl) ?_
    refine ao_s (st_aload_n dX9_byteAt_5 rfl rfl) ?_
    refine ao_chk (fun e21 => ?_)
    refine ao_getI dX9_byteAt_6 fl_X9_15 rfl e21 ?_
    refine ao_br (br_icmp_ge (tgt := 25) dX9_byteAt_9 (by decide)) (fun c24 => ?_) (fun c24 => ?_)
    · refine ao_s (st_iconst dX9_byteAt_25 ic_m1) ?_
      exact ao_ir dX9_byteAt_26 rfl rfl
    · refine ao_s (st_aload_n dX9_byteAt_12 rfl rfl) ?_
      refine ao_getR dX9_byteAt_13 fl_X9_9 rfl e21 (fun b22 => ?_)
      refine ao_s (st_iload_n dX9_byteAt_16 rfl rfl) ?_
      refine ao_chk (fun e23 => ?_)
      refine ao_bald dX9_byteAt_17 e23 ?_
      refine ao_s (st_sipush dX9_byteAt_18 sp_255) ?_
      refine ao_s (st_iand dX9_byteAt_21) ?_
      refine ao_s (st_goto 26 dX9_byteAt_22 (by decide)) ?_
      exact ao_ir dX9_byteAt_26 rfl rfl
def f_X9_isDigit (h : aH) (a0 : Nat) (x1 : Int32) : Option (Int32 × aH) :=
(if x1 < 48 then
some (0, h)
else
(if 57 < x1 then
some (0, h)
else
some (1, h)))
set_option maxHeartbeats 2000000 in
theorem s_X9_isDigit (h : aH) (a0 : Nat) (x1 : Int32) : SO eI 2 kX9_isDigit [.ref a0, .int x1] h (f_X9_isDigit h a0 x1) := by
  refine so_of (lv0 := [some (.ref a0), some (.int x1)]) pn_X9 (Nat.le_of_ble_eq_true rfl) rfl ?_
  unfold f_X9_isDigit
  refine ao_s (st_iload_n dX9_isDigit_0 rfl rfl) ?_
  refine ao_s (st_bipush dX9_isDigit_1 bp_48) ?_
  refine ao_br (br_icmp_lt (tgt := 16) dX9_isDigit_3 (by decide)) (fun c22 => ?_) (fun c22 => ?_)
  · refine ao_s (st_iconst dX9_isDigit_16 ic_0) ?_
    exact ao_ir dX9_isDigit_17 rfl (by decide)
  · refine ao_s (st_iload_n dX9_isDigit_6 rfl rfl) ?_
    refine ao_s (st_bipush dX9_isDigit_7 bp_57) ?_
    refine ao_br (br_icmp_gt (tgt := 16) dX9_isDigit_9 (by decide)) (fun c21 => ?_) (fun c21 => ?_)
    · refine ao_s (st_iconst dX9_isDigit_16 ic_0) ?_
      exact ao_ir dX9_isDigit_17 rfl (by decide)
    · refine ao_s (st_iconst dX9_isDigit_12 ic_1) ?_
      refine ao_s (st_goto 17 dX9_isDigit_13 (by decide)) ?_
      exact ao_ir dX9_isDigit_17 rfl (by decide)
def b_X9_seek_0 (k0 : aH → Nat → Option (Int32 × aH)) (h : aH) (a0 : Nat) : Option (Int32 × aH) :=
(if (sh a0).1 = 16 then
(if hI h a0 1 ≤ hI h a0 2 then
some (hI h a0 2, h)
else
((hR h a0 0).bind fun b22 =>
(aLet (hI h a0 2) fun x23 =>
(if (sh b22).1 = 1 then
(if aIn x23 (sh b22).2 then
(if hI h b22 x23.toNatClampNeg = 32 then
(aLet (pI h a0 2 ((hI h a0 2) + 1)) fun h25 =>
k0 h25 a0)
else
some (hI h a0 2, h))
else none)
else none))))
else none)
set_option maxHeartbeats 2000000 in
theorem t_X9_seek_0 {k0 : aH → Nat → Option (Int32 × aH)} (hk0 : ∀ (h : aH) (a0 : Nat), AO eI 2 kX9_seek 0 [some (.ref a0)] [] h (k0 h a0)) (h : aH) (a0 : Nat) : AO eI 2 kX9_seek 0 [some (.ref a0)] [] h (b_X9_seek_0 k0 h a0) := by
  unfold b_X9_seek_0
  refine ao_s (st_aload_n dX9_seek_0 rfl rfl) ?_
  refine ao_chk (fun e21 => ?_)
  refine ao_getI dX9_seek_1 fl_X9_19 rfl e21 ?_
  refine ao_s (st_aload_n dX9_seek_4 rfl rfl) ?_
  refine ao_getI dX9_seek_5 fl_X9_15 rfl e21 ?_
  refine ao_br (br_icmp_ge (tgt := 38) dX9_seek_8 (by decide)) (fun c27 => ?_) (fun c27 => ?_)
  · refine ao_s (st_aload_n dX9_seek_38 rfl rfl) ?_
    refine ao_getI dX9_seek_39 fl_X9_19 rfl e21 ?_
    exact ao_ir dX9_seek_42 rfl rfl
  · refine ao_s (st_aload_n dX9_seek_11 rfl rfl) ?_
    refine ao_getR dX9_seek_12 fl_X9_9 rfl e21 (fun b22 => ?_)
    refine ao_s (st_aload_n dX9_seek_15 rfl rfl) ?_
    refine ao_getI dX9_seek_16 fl_X9_19 rfl e21 ?_
    refine ao_letI (fun x23 => ?_)
    refine ao_chk (fun e24 => ?_)
    refine ao_bald dX9_seek_19 e24 ?_
    refine ao_s (st_bipush dX9_seek_20 bp_32) ?_
    refine ao_br (br_icmp_ne (tgt := 38) dX9_seek_22 (by decide)) (fun c26 => ?_) (fun c26 => ?_)
    · refine ao_s (st_aload_n dX9_seek_25 rfl rfl) ?_
      refine ao_s (st_dup dX9_seek_26 rfl) ?_
      refine ao_getI dX9_seek_27 fl_X9_19 rfl e21 ?_
      refine ao_s (st_iconst dX9_seek_30 ic_1) ?_
      refine ao_s (st_iadd dX9_seek_31) ?_
      refine ao_putI dX9_seek_32 fl_X9_19 rfl rfl rfl rfl e21 ?_
      refine ao_letH (fun h25 => ?_)
      refine ao_s (st_goto 0 dX9_seek_35 (by decide)) ?_
      exact ao_w (sb_s sb_0) (hk0 h25 a0)
    · refine ao_s (st_aload_n dX9_seek_38 rfl rfl) ?_
      refine ao_getI dX9_seek_39 fl_X9_19 rfl e21 ?_
      exact ao_ir dX9_seek_42 rfl rfl
def f_X9_seek_0 (n : Nat) : aH → Nat → Option (Int32 × aH) := aIt (fun _ _ => none) (fun k => b_X9_seek_0 k) n
theorem l_X9_seek_0 (n : Nat) : ∀ (h : aH) (a0 : Nat), AO eI 2 kX9_seek 0 [some (.ref a0)] [] h (f_X9_seek_0 n h a0) := by
  induction n with
  | zero => intros; exact ao_none
  | succ n ih =>
    intro h a0
    exact t_X9_seek_0 ih h a0
def f_X9_seek (h : aH) (a0 : Nat) : Option (Int32 × aH) :=
f_X9_seek_0 2000 h a0
set_option maxHeartbeats 2000000 in
theorem s_X9_seek (h : aH) (a0 : Nat) : SO eI 2 kX9_seek [.ref a0] h (f_X9_seek h a0) := by
  refine so_of (lv0 := [some (.ref a0)]) pn_X9 (Nat.le_of_ble_eq_true rfl) rfl ?_
  unfold f_X9_seek
  exact ao_w (sb_s sb_0) (l_X9_seek_0 2000 h a0)
def b_X9_takeNumber_60 (k7 : aH → Nat → Int32 → Int32 → Int32 → Option (Int32 × aH)) (h : aH) (a0 : Nat) (x1 : Int32) (x2 : Int32) (x3 : Int32) : Option (Int32 × aH) :=
(if (sh a0).1 = 16 then
(aLet (pI h a0 2 ((hI h a0 2) + 1)) fun h22 =>
k7 h22 a0 x1 x2 x3)
else none)
set_option maxHeartbeats 2000000 in
theorem t_X9_takeNumber_60 {k7 : aH → Nat → Int32 → Int32 → Int32 → Option (Int32 × aH)} (hk7 : ∀ (h : aH) (a0 : Nat) (x1 : Int32) (x2 : Int32) (x3 : Int32), AO eI 3 kX9_takeNumber 7 [some (.ref a0), some (.int x1), some (.int x2), some (.int x3)] [] h (k7 h a0 x1 x2 x3)) (h : aH) (a0 : Nat) (x1 : Int32) (x2 : Int32) (x3 : Int32) : AO eI 3 kX9_takeNumber 60 [some (.ref a0), some (.int x1), some (.int x2), some (.int x3)] [] h (b_X9_takeNumber_60 k7 h a0 x1 x2 x3) := by
  unfold b_X9_takeNumber_60
  refine ao_s (st_aload_n dX9_takeNumber_60 rfl rfl) ?_
  refine ao_s (st_dup dX9_takeNumber_61 rfl) ?_
  refine ao_chk (fun e21 => ?_)
  refine ao_getI dX9_takeNumber_62 fl_X9_19 rfl e21 ?_
  refine ao_s (st_iconst dX9_takeNumber_65 ic_1) ?_
  refine ao_s (st_iadd dX9_takeNumber_66) ?_
  refine ao_putI dX9_takeNumber_67 fl_X9_19 rfl rfl rfl rfl e21 ?_
  refine ao_letH (fun h22 => ?_)
  refine ao_s (st_goto 7 dX9_takeNumber_70 (by decide)) ?_
  exact ao_w (sb_s (sb_s (sb_s (sb_s sb_0)))) (hk7 h22 a0 x1 x2 x3)
def b_X9_takeNumber_111 (h : aH) (a0 : Nat) (x3 : Int32) : Option (Int32 × aH) :=
(if (sh a0).1 = 16 then
(if hI h a0 3 = 0 then
some (x3, h)
else
some (0, h))
else none)
set_option maxHeartbeats 2000000 in
theorem t_X9_takeNumber_111 (h : aH) (a0 : Nat) (x3 : Int32) : AO eI 3 kX9_takeNumber 111 [some (.ref a0), none, none, some (.int x3)] [] h (b_X9_takeNumber_111 h a0 x3) := by
  unfold b_X9_takeNumber_111
  refine ao_s (st_aload_n dX9_takeNumber_111 rfl rfl) ?_
  refine ao_chk (fun e21 => ?_)
  refine ao_getI dX9_takeNumber_112 fl_X9_22 rfl e21 ?_
  refine ao_br (br_if_ne (tgt := 122) dX9_takeNumber_115 (by decide)) (fun c22 => ?_) (fun c22 => ?_)
  · refine ao_s (st_iload_n dX9_takeNumber_118 rfl rfl) ?_
    refine ao_s (st_goto 123 dX9_takeNumber_119 (by decide)) ?_
    exact ao_ir dX9_takeNumber_123 rfl rfl
  · refine ao_s (st_iconst dX9_takeNumber_122 ic_0) ?_
    exact ao_ir dX9_takeNumber_123 rfl rfl
def b_X9_takeNumber_105 (h : aH) (a0 : Nat) (x2 : Int32) (x3 : Int32) : Option (Int32 × aH) :=
(if (sh a0).1 = 16 then
(aBind (f_X9_blame h a0 x2 1) fun r22 h23 =>
b_X9_takeNumber_111 h23 a0 x3)
else none)
set_option maxHeartbeats 2000000 in
theorem t_X9_takeNumber_105 (h : aH) (a0 : Nat) (x2 : Int32) (x3 : Int32) : AO eI 3 kX9_takeNumber 105 [some (.ref a0), none, some (.int x2), some (.int x3)] [] h (b_X9_takeNumber_105 h a0 x2 x3) := by
  unfold b_X9_takeNumber_105
  refine ao_s (st_aload_n dX9_takeNumber_105 rfl rfl) ?_
  refine ao_s (st_iload_n dX9_takeNumber_106 rfl rfl) ?_
  refine ao_s (st_iconst dX9_takeNumber_107 ic_1) ?_
  refine ao_chk (fun e21 => ?_)
  refine ao_cVv (Kc := kX9_blame) (As := [.int x2, .int 1]) (st := []) dX9_takeNumber_108 ml_X9_40 mv_X9_blame rfl e21 (by decide) rfl rfl (Nat.le_of_ble_eq_true rfl) (by decide) (s_X9_blame h a0 x2 1) (fun r22 h23 => ?_)
  exact ao_w (sb_s (sb_n (sb_n (sb_s sb_0)))) (t_X9_takeNumber_111 h23 a0 x3)
def b_X9_takeNumber_73 (h : aH) (a0 : Nat) (x1 : Int32) (x2 : Int32) (x3 : Int32) : Option (Int32 × aH) :=
(if (sh a0).1 = 16 then
(if hI h a0 2 = x2 then
(aBind (f_X9_blame h a0 x2 0) fun r22 h23 =>
b_X9_takeNumber_111 h23 a0 x3)
else
(if 5 < (hI h a0 2) - x2 then
b_X9_takeNumber_105 h a0 x2 x3
else
(if x3 ≤ x1 then
b_X9_takeNumber_111 h a0 x3
else
b_X9_takeNumber_105 h a0 x2 x3)))
else none)
set_option maxHeartbeats 2000000 in
theorem t_X9_takeNumber_73 (h : aH) (a0 : Nat) (x1 : Int32) (x2 : Int32) (x3 : Int32) : AO eI 3 kX9_takeNumber 73 [some (.ref a0), some (.int x1), some (.int x2), some (.int x3)] [] h (b_X9_takeNumber_73 h a0 x1 x2 x3) := by
  unfold b_X9_takeNumber_73
  refine ao_s (st_aload_n dX9_takeNumber_73 rfl rfl) ?_
  refine ao_chk (fun e21 => ?_)
  refine ao_getI dX9_takeNumber_74 fl_X9_19 rfl e21 ?_
  refine ao_s (st_iload_n dX9_takeNumber_77 rfl rfl) ?_
  refine ao_br (br_icmp_ne (tgt := 90) dX9_takeNumber_78 (by decide)) (fun c26 => ?_) (fun c26 => ?_)
  · refine ao_s (st_aload_n dX9_takeNumber_81 rfl rfl) ?_
    refine ao_s (st_iload_n dX9_takeNumber_82 rfl rfl) ?_
    refine ao_s (st_iconst dX9_takeNumber_83 ic_0) ?_
    refine ao_cVv (Kc := kX9_blame) (As := [.int x2, .int 0]) (st := []) dX9_takeNumber_84 ml_X9_40 mv_X9_blame rfl e21 (by decide) rfl rfl (Nat.le_of_ble_eq_true rfl) (by decide) (s_X9_blame h a0 x2 0) (fun r22 h23 => ?_)
    refine ao_s (st_goto 111 dX9_takeNumber_87 (by decide)) ?_
    exact ao_w (sb_s (sb_n (sb_n (sb_s sb_0)))) (t_X9_takeNumber_111 h23 a0 x3)
  · refine ao_s (st_aload_n dX9_takeNumber_90 rfl rfl) ?_
    refine ao_getI dX9_takeNumber_91 fl_X9_19 rfl e21 ?_
    refine ao_s (st_iload_n dX9_takeNumber_94 rfl rfl) ?_
    refine ao_s (st_isub dX9_takeNumber_95) ?_
    refine ao_s (st_iconst dX9_takeNumber_96 ic_5) ?_
    refine ao_br (br_icmp_gt (tgt := 105) dX9_takeNumber_97 (by decide)) (fun c25 => ?_) (fun c25 => ?_)
    · exact ao_w (sb_s (sb_n (sb_s (sb_s sb_0)))) (t_X9_takeNumber_105 h a0 x2 x3)
    · refine ao_s (st_iload_n dX9_takeNumber_100 rfl rfl) ?_
      refine ao_s (st_iload_n dX9_takeNumber_101 rfl rfl) ?_
      refine ao_br (br_icmp_le (tgt := 111) dX9_takeNumber_102 (by decide)) (fun c24 => ?_) (fun c24 => ?_)
      · exact ao_w (sb_s (sb_n (sb_n (sb_s sb_0)))) (t_X9_takeNumber_111 h a0 x3)
      · exact ao_w (sb_s (sb_n (sb_s (sb_s sb_0)))) (t_X9_takeNumber_105 h a0 x2 x3)
def b_X9_takeNumber_7 (k7 : aH → Nat → Int32 → Int32 → Int32 → Option (Int32 × aH)) (h : aH) (a0 : Nat) (x1 : Int32) (x2 : Int32) (x3 : Int32) : Option (Int32 × aH) :=
(if (sh a0).1 = 16 then
(if hI h a0 1 ≤ hI h a0 2 then
b_X9_takeNumber_73 h a0 x1 x2 x3
else
(aBind (f_X9_byteAt h a0 (hI h a0 2)) fun r22 h23 =>
(aBind (f_X9_isDigit h23 a0 r22) fun r24 h25 =>
(if r24 = 0 then
b_X9_takeNumber_73 h25 a0 x1 x2 x3
else
(if 5 ≤ (hI h25 a0 2) - x2 then
b_X9_takeNumber_60 k7 h25 a0 x1 x2 x3
else
(aBind (f_X9_byteAt h25 a0 (hI h25 a0 2)) fun r26 h27 =>
(aLet (((x3 * 10) + r26) - 48) fun x28 =>
b_X9_takeNumber_60 k7 h27 a0 x1 x2 x28)))))))
else none)
set_option maxHeartbeats 2000000 in
theorem t_X9_takeNumber_7 {k7 : aH → Nat → Int32 → Int32 → Int32 → Option (Int32 × aH)} (hk7 : ∀ (h : aH) (a0 : Nat) (x1 : Int32) (x2 : Int32) (x3 : Int32), AO eI 3 kX9_takeNumber 7 [some (.ref a0), some (.int x1), some (.int x2), some (.int x3)] [] h (k7 h a0 x1 x2 x3)) (h : aH) (a0 : Nat) (x1 : Int32) (x2 : Int32) (x3 : Int32) : AO eI 3 kX9_takeNumber 7 [some (.ref a0), some (.int x1), some (.int x2), some (.int x3)] [] h (b_X9_takeNumber_7 k7 h a0 x1 x2 x3) := by
  unfold b_X9_takeNumber_7
  refine ao_s (st_aload_n dX9_takeNumber_7 rfl rfl) ?_
  refine ao_chk (fun e21 => ?_)
  refine ao_getI dX9_takeNumber_8 fl_X9_19 rfl e21 ?_
  refine ao_s (st_aload_n dX9_takeNumber_11 rfl rfl) ?_
  refine ao_getI dX9_takeNumber_12 fl_X9_15 rfl e21 ?_
  refine ao_br (br_icmp_ge (tgt := 73) dX9_takeNumber_15 (by decide)) (fun c31 => ?_) (fun c31 => ?_)
  · exact ao_w (sb_s (sb_s (sb_s (sb_s sb_0)))) (t_X9_takeNumber_73 h a0 x1 x2 x3)
  · refine ao_s (st_aload_n dX9_takeNumber_18 rfl rfl) ?_
    refine ao_s (st_aload_n dX9_takeNumber_19 rfl rfl) ?_
    refine ao_s (st_aload_n dX9_takeNumber_20 rfl rfl) ?_
    refine ao_getI dX9_takeNumber_21 fl_X9_19 rfl e21 ?_
    refine ao_cVi (Kc := kX9_byteAt) (As := [.int (hI h a0 2)]) (st := [.ref a0]) dX9_takeNumber_24 ml_X9_29 mv_X9_byteAt rfl e21 (by decide) rfl rfl (Nat.le_of_ble_eq_true rfl) (by decide) (s_X9_byteAt h a0 (hI h a0 2)) (fun r22 h23 => ?_)
    refine ao_cVi (Kc := kX9_isDigit) (As := [.int r22]) (st := []) dX9_takeNumber_27 ml_X9_36 mv_X9_isDigit rfl e21 (by decide) rfl rfl (Nat.le_of_ble_eq_true rfl) (by decide) (s_X9_isDigit h23 a0 r22) (fun r24 h25 => ?_)
    refine ao_br (br_if_eq (tgt := 73) dX9_takeNumber_30 (by decide)) (fun c30 => ?_) (fun c30 => ?_)
    · exact ao_w (sb_s (sb_s (sb_s (sb_s sb_0)))) (t_X9_takeNumber_73 h25 a0 x1 x2 x3)
    · refine ao_s (st_aload_n dX9_takeNumber_33 rfl rfl) ?_
      refine ao_getI dX9_takeNumber_34 fl_X9_19 rfl e21 ?_
      refine ao_s (st_iload_n dX9_takeNumber_37 rfl rfl) ?_
      refine ao_s (st_isub dX9_takeNumber_38) ?_
      refine ao_s (st_iconst dX9_takeNumber_39 ic_5) ?_
      refine ao_br (br_icmp_ge (tgt := 60) dX9_takeNumber_40 (by decide)) (fun c29 => ?_) (fun c29 => ?_)
      · exact ao_w (sb_s (sb_s (sb_s (sb_s sb_0)))) (t_X9_takeNumber_60 hk7 h25 a0 x1 x2 x3)
      · refine ao_s (st_iload_n dX9_takeNumber_43 rfl rfl) ?_
        refine ao_s (st_bipush dX9_takeNumber_44 bp_10) ?_
        refine ao_s (st_imul dX9_takeNumber_46) ?_
        refine ao_s (st_aload_n dX9_takeNumber_47 rfl rfl) ?_
        refine ao_s (st_aload_n dX9_takeNumber_48 rfl rfl) ?_
        refine ao_getI dX9_takeNumber_49 fl_X9_19 rfl e21 ?_
        refine ao_cVi (Kc := kX9_byteAt) (As := [.int (hI h25 a0 2)]) (st := [.int (x3 * 10)]) dX9_takeNumber_52 ml_X9_29 mv_X9_byteAt rfl e21 (by decide) rfl rfl (Nat.le_of_ble_eq_true rfl) (by decide) (s_X9_byteAt h25 a0 (hI h25 a0 2)) (fun r26 h27 => ?_)
        refine ao_s (st_iadd dX9_takeNumber_55) ?_
        refine ao_s (st_bipush dX9_takeNumber_56 bp_48) ?_
        refine ao_s (st_isub dX9_takeNumber_58) ?_
        refine ao_letI (fun x28 => ?_)
        refine ao_s (st_istore_n (lv' := [some (.ref a0), some (.int x1), some (.int x2), some (.int x28)]) dX9_takeNumber_59 rfl (by decide) rfl) ?_
        exact ao_w (sb_s (sb_s (sb_s (sb_s sb_0)))) (t_X9_takeNumber_60 hk7 h27 a0 x1 x2 x28)
def f_X9_takeNumber_7 (n : Nat) : aH → Nat → Int32 → Int32 → Int32 → Option (Int32 × aH) := aIt (fun _ _ _ _ _ => none) (fun k => b_X9_takeNumber_7 k) n
theorem l_X9_takeNumber_7 (n : Nat) : ∀ (h : aH) (a0 : Nat) (x1 : Int32) (x2 : Int32) (x3 : Int32), AO eI 3 kX9_takeNumber 7 [some (.ref a0), some (.int x1), some (.int x2), some (.int x3)] [] h (f_X9_takeNumber_7 n h a0 x1 x2 x3) := by
  induction n with
  | zero => intros; exact ao_none
  | succ n ih =>
    intro h a0 x1 x2 x3
    exact t_X9_takeNumber_7 ih h a0 x1 x2 x3
def f_X9_takeNumber (h : aH) (a0 : Nat) (x1 : Int32) : Option (Int32 × aH) :=
(if (sh a0).1 = 16 then
(aBind (f_X9_seek h a0) fun r22 h23 =>
f_X9_takeNumber_7 2000 h23 a0 x1 r22 0)
else none)
set_option maxHeartbeats 2000000 in
theorem s_X9_takeNumber (h : aH) (a0 : Nat) (x1 : Int32) : SO eI 3 kX9_takeNumber [.ref a0, .int x1] h (f_X9_takeNumber h a0 x1) := by
  refine so_of (lv0 := [some (.ref a0), some (.int x1), none, none]) pn_X9 (Nat.le_of_ble_eq_true rfl) rfl ?_
  unfold f_X9_takeNumber
  refine ao_s (st_aload_n dX9_takeNumber_0 rfl rfl) ?_
  refine ao_chk (fun e21 => ?_)
  refine ao_cVi (Kc := kX9_seek) (As := []) (st := []) dX9_takeNumber_1 ml_X9_25 mv_X9_seek rfl e21 (by decide) rfl rfl (Nat.le_of_ble_eq_true rfl) (by decide) (s_X9_seek h a0) (fun r22 h23 => ?_)
  refine ao_s (st_istore_n (lv' := [some (.ref a0), some (.int x1), some (.int r22), none]) dX9_takeNumber_4 rfl (by decide) rfl) ?_
  refine ao_s (st_iconst dX9_takeNumber_5 ic_0) ?_
  refine ao_s (st_istore_n (lv' := [some (.ref a0), some (.int x1), some (.int r22), some (.int 0)]) dX9_takeNumber_6 rfl (by decide) rfl) ?_
  exact ao_w (sb_s (sb_s (sb_s (sb_s sb_0)))) (l_X9_takeNumber_7 2000 h23 a0 x1 r22 0)
def f_X2_readLikes (h : aH) (a0 : Nat) (a1 : Nat) (a2 : Nat) : Option (Unit × aH) :=
(if (sh a0).1 = 9 then
((hR h a0 0).bind fun b22 =>
(if (sh a1).1 = 15 then
(if (sh b22).1 = 16 then
(aBind (f_X9_takeNumber h b22 ((hI h a1 3) - 1)) fun r25 h26 =>
((hR h26 a0 0).bind fun b27 =>
(if (sh b27).1 = 16 then
(aBind (f_X9_takeNumber h26 b27 ((hI h26 a1 4) - 1)) fun r29 h30 =>
((hR h30 a0 0).bind fun b31 =>
(if (sh b31).1 = 16 then
(aBind (f_X9_takeNumber h30 b31 20) fun r33 h34 =>
((hR h34 a0 0).bind fun b35 =>
(if (sh b35).1 = 16 then
(aBind (f_X9_takeNumber h34 b35 20) fun r37 h38 =>
((hR h38 a0 0).bind fun b39 =>
(if (sh b39).1 = 16 then
(if hI h38 b39 3 = 0 then
(aBind (f_X8_cell h38 0 r25 r29) fun r41 h42 =>
(if (sh a2).1 = 0 then
(if aIn r41 (sh a2).2 then
(aLet (pI h42 a2 r41.toNatClampNeg r33) fun h44 =>
(aBind (f_X8_cell h44 1 r25 r29) fun r45 h46 =>
(if aIn r45 (sh a2).2 then
(aLet (pI h46 a2 r45.toNatClampNeg r37) fun h47 =>
some ((), h47))
else none)))
else none)
else none))
else
some ((), h38))
else none)))
else none)))
else none)))
else none)))
else none)
else none))
else none)
set_option maxHeartbeats 2000000 in
theorem s_X2_readLikes (h : aH) (a0 : Nat) (a1 : Nat) (a2 : Nat) : SO eV 4 kX2_readLikes [.ref a0, .ref a1, .ref a2] h (f_X2_readLikes h a0 a1 a2) := by
  refine so_of (lv0 := [some (.ref a0), some (.ref a1), some (.ref a2), none, none, none, none]) pn_X2 (Nat.le_of_ble_eq_true rfl) rfl ?_
  unfold f_X2_readLikes
  refine ao_s (st_aload_n dX2_readLikes_0 rfl rfl) ?_
  refine ao_chk (fun e21 => ?_)
  refine ao_getR dX2_readLikes_1 fl_X2_9 rfl e21 (fun b22 => ?_)
  refine ao_s (st_aload_n dX2_readLikes_4 rfl rfl) ?_
  refine ao_chk (fun e23 => ?_)
  refine ao_getI dX2_readLikes_5 fl_X2_71 rfl e23 ?_
  refine ao_s (st_iconst dX2_readLikes_8 ic_1) ?_
  refine ao_s (st_isub dX2_readLikes_9) ?_
  refine ao_chk (fun e24 => ?_)
  refine ao_cVi (Kc := kX9_takeNumber) (As := [.int ((hI h a1 3) - 1)]) (st := []) dX2_readLikes_10 ml_X2_77 mv_X9_takeNumber rfl e24 (by decide) rfl rfl (Nat.le_of_ble_eq_true rfl) (by decide) (s_X9_takeNumber h b22 ((hI h a1 3) - 1)) (fun r25 h26 => ?_)
  refine ao_s (st_istore_n (lv' := [some (.ref a0), some (.ref a1), some (.ref a2), some (.int r25), none, none, none]) dX2_readLikes_13 rfl (by decide) rfl) ?_
  refine ao_s (st_aload_n dX2_readLikes_14 rfl rfl) ?_
  refine ao_getR dX2_readLikes_15 fl_X2_9 rfl e21 (fun b27 => ?_)
  refine ao_s (st_aload_n dX2_readLikes_18 rfl rfl) ?_
  refine ao_getI dX2_readLikes_19 fl_X2_74 rfl e23 ?_
  refine ao_s (st_iconst dX2_readLikes_22 ic_1) ?_
  refine ao_s (st_isub dX2_readLikes_23) ?_
  refine ao_chk (fun e28 => ?_)
  refine ao_cVi (Kc := kX9_takeNumber) (As := [.int ((hI h26 a1 4) - 1)]) (st := []) dX2_readLikes_24 ml_X2_77 mv_X9_takeNumber rfl e28 (by decide) rfl rfl (Nat.le_of_ble_eq_true rfl) (by decide) (s_X9_takeNumber h26 b27 ((hI h26 a1 4) - 1)) (fun r29 h30 => ?_)
  refine ao_s (st_istore (lv' := [some (.ref a0), some (.ref a1), some (.ref a2), some (.int r25), some (.int r29), none, none]) dX2_readLikes_27 (by decide) rfl) ?_
  refine ao_s (st_aload_n dX2_readLikes_29 rfl rfl) ?_
  refine ao_getR dX2_readLikes_30 fl_X2_9 rfl e21 (fun b31 => ?_)
  refine ao_s (st_bipush dX2_readLikes_33 bp_20) ?_
  refine ao_chk (fun e32 => ?_)
  refine ao_cVi (Kc := kX9_takeNumber) (As := [.int 20]) (st := []) dX2_readLikes_35 ml_X2_77 mv_X9_takeNumber rfl e32 (by decide) rfl rfl (Nat.le_of_ble_eq_true rfl) (by decide) (s_X9_takeNumber h30 b31 20) (fun r33 h34 => ?_)
  refine ao_s (st_istore (lv' := [some (.ref a0), some (.ref a1), some (.ref a2), some (.int r25), some (.int r29), some (.int r33), none]) dX2_readLikes_38 (by decide) rfl) ?_
  refine ao_s (st_aload_n dX2_readLikes_40 rfl rfl) ?_
  refine ao_getR dX2_readLikes_41 fl_X2_9 rfl e21 (fun b35 => ?_)
  refine ao_s (st_bipush dX2_readLikes_44 bp_20) ?_
  refine ao_chk (fun e36 => ?_)
  refine ao_cVi (Kc := kX9_takeNumber) (As := [.int 20]) (st := []) dX2_readLikes_46 ml_X2_77 mv_X9_takeNumber rfl e36 (by decide) rfl rfl (Nat.le_of_ble_eq_true rfl) (by decide) (s_X9_takeNumber h34 b35 20) (fun r37 h38 => ?_)
  refine ao_s (st_istore (lv' := [some (.ref a0), some (.ref a1), some (.ref a2), some (.int r25), some (.int r29), some (.int r33), some (.int r37)]) dX2_readLikes_49 (by decide) rfl) ?_
  refine ao_s (st_aload_n dX2_readLikes_51 rfl rfl) ?_
  refine ao_getR dX2_readLikes_52 fl_X2_9 rfl e21 (fun b39 => ?_)
  refine ao_chk (fun e40 => ?_)
  refine ao_getI dX2_readLikes_55 fl_X2_29 rfl e40 ?_
  refine ao_br (br_if_ne (tgt := 83) dX2_readLikes_58 (by decide)) (fun c48 => ?_) (fun c48 => ?_)
  · refine ao_s (st_aload_n dX2_readLikes_61 rfl rfl) ?_
    refine ao_s (st_iconst dX2_readLikes_62 ic_0) ?_
    refine ao_s (st_iload_n dX2_readLikes_63 rfl rfl) ?_
    refine ao_s (st_iload dX2_readLikes_64 rfl) ?_
    refine ao_cSi (Kc := kX8_cell) (As := [.int 0, .int r25, .int r29]) (st := [.ref a2]) dX2_readLikes_66 ml_X2_109 ms_X8_cell rfl rfl (Nat.le_of_ble_eq_true rfl) (by decide) (s_X8_cell h38 0 r25 r29) (fun r41 h42 => ?_)
    refine ao_s (st_iload dX2_readLikes_69 rfl) ?_
    refine ao_chk (fun e43 => ?_)
    refine ao_iast dX2_readLikes_71 e43 ?_
    refine ao_letH (fun h44 => ?_)
    refine ao_s (st_aload_n dX2_readLikes_72 rfl rfl) ?_
    refine ao_s (st_iconst dX2_readLikes_73 ic_1) ?_
    refine ao_s (st_iload_n dX2_readLikes_74 rfl rfl) ?_
    refine ao_s (st_iload dX2_readLikes_75 rfl) ?_
    refine ao_cSi (Kc := kX8_cell) (As := [.int 1, .int r25, .int r29]) (st := [.ref a2]) dX2_readLikes_77 ml_X2_109 ms_X8_cell rfl rfl (Nat.le_of_ble_eq_true rfl) (by decide) (s_X8_cell h44 1 r25 r29) (fun r45 h46 => ?_)
    refine ao_s (st_iload dX2_readLikes_80 rfl) ?_
    refine ao_iast dX2_readLikes_82 e43 ?_
    refine ao_letH (fun h47 => ?_)
    exact ao_vr dX2_readLikes_83 rfl
  · exact ao_vr dX2_readLikes_83 rfl
def f_X8_addEast (h : aH) (a0 : Nat) (x1 : Int32) : Option (Unit × aH) :=
(if (sh a0).1 = 15 then
(if 4 ≤ hI h a0 3 then
some ((), h)
else
((hR h a0 7).bind fun b22 =>
(aLet (hI h a0 3) fun x23 =>
(if (sh b22).1 = 0 then
(if aIn x23 (sh b22).2 then
(aLet (pI h b22 x23.toNatClampNeg x1) fun h25 =>
(aLet (pI h25 a0 3 ((hI h25 a0 3) + 1)) fun h26 =>
some ((), h26)))
else none)
else none))))
else none)
set_option maxHeartbeats 2000000 in
theorem s_X8_addEast (h : aH) (a0 : Nat) (x1 : Int32) : SO eV 2 kX8_addEast [.ref a0, .int x1] h (f_X8_addEast h a0 x1) := by
  refine so_of (lv0 := [some (.ref a0), some (.int x1)]) pn_X8 (Nat.le_of_ble_eq_true rfl) rfl ?_
  unfold f_X8_addEast
  refine ao_s (st_aload_n dX8_addEast_0 rfl rfl) ?_
  refine ao_chk (fun e21 => ?_)
  refine ao_getI dX8_addEast_1 fl_X8_22 rfl e21 ?_
  refine ao_s (st_iconst dX8_addEast_4 ic_4) ?_
  refine ao_br (br_icmp_ge (tgt := 28) dX8_addEast_5 (by decide)) (fun c27 => ?_) (fun c27 => ?_)
  · exact ao_vr dX8_addEast_28 rfl
  · refine ao_s (st_aload_n dX8_addEast_8 rfl rfl) ?_
    refine ao_getR dX8_addEast_9 fl_X8_35 rfl e21 (fun b22 => ?_)
    refine ao_s (st_aload_n dX8_addEast_12 rfl rfl) ?_
    refine ao_getI dX8_addEast_13 fl_X8_22 rfl e21 ?_
    refine ao_s (st_iload_n dX8_addEast_16 rfl rfl) ?_
    refine ao_let2 (fun x23 => ?_)
    refine ao_chk (fun e24 => ?_)
    refine ao_iast dX8_addEast_17 e24 ?_
    refine ao_letH (fun h25 => ?_)
    refine ao_s (st_aload_n dX8_addEast_18 rfl rfl) ?_
    refine ao_s (st_dup dX8_addEast_19 rfl) ?_
    refine ao_getI dX8_addEast_20 fl_X8_22 rfl e21 ?_
    refine ao_s (st_iconst dX8_addEast_23 ic_1) ?_
    refine ao_s (st_iadd dX8_addEast_24) ?_
    refine ao_putI dX8_addEast_25 fl_X8_22 rfl rfl rfl rfl e21 ?_
    refine ao_letH (fun h26 => ?_)
    exact ao_vr dX8_addEast_28 rfl
def f_X8_addWest (h : aH) (a0 : Nat) (x1 : Int32) : Option (Unit × aH) :=
(if (sh a0).1 = 15 then
(if 4 ≤ hI h a0 4 then
some ((), h)
else
((hR h a0 7).bind fun b22 =>
(aLet (4 + (hI h a0 4)) fun x23 =>
(if (sh b22).1 = 0 then
(if aIn x23 (sh b22).2 then
(aLet (pI h b22 x23.toNatClampNeg x1) fun h25 =>
(aLet (pI h25 a0 4 ((hI h25 a0 4) + 1)) fun h26 =>
some ((), h26)))
else none)
else none))))
else none)
set_option maxHeartbeats 2000000 in
theorem s_X8_addWest (h : aH) (a0 : Nat) (x1 : Int32) : SO eV 2 kX8_addWest [.ref a0, .int x1] h (f_X8_addWest h a0 x1) := by
  refine so_of (lv0 := [some (.ref a0), some (.int x1)]) pn_X8 (Nat.le_of_ble_eq_true rfl) rfl ?_
  unfold f_X8_addWest
  refine ao_s (st_aload_n dX8_addWest_0 rfl rfl) ?_
  refine ao_chk (fun e21 => ?_)
  refine ao_getI dX8_addWest_1 fl_X8_25 rfl e21 ?_
  refine ao_s (st_iconst dX8_addWest_4 ic_4) ?_
  refine ao_br (br_icmp_ge (tgt := 30) dX8_addWest_5 (by decide)) (fun c27 => ?_) (fun c27 => ?_)
  · exact ao_vr dX8_addWest_30 rfl
  · refine ao_s (st_aload_n dX8_addWest_8 rfl rfl) ?_
    refine ao_getR dX8_addWest_9 fl_X8_35 rfl e21 (fun b22 => ?_)
    refine ao_s (st_iconst dX8_addWest_12 ic_4) ?_
    refine ao_s (st_aload_n dX8_addWest_13 rfl rfl) ?_
    refine ao_getI dX8_addWest_14 fl_X8_25 rfl e21 ?_
    refine ao_s (st_iadd dX8_addWest_17) ?_
    refine ao_s (st_iload_n dX8_addWest_18 rfl rfl) ?_
    refine ao_let2 (fun x23 => ?_)
    refine ao_chk (fun e24 => ?_)
    refine ao_iast dX8_addWest_19 e24 ?_
    refine ao_letH (fun h25 => ?_)
    refine ao_s (st_aload_n dX8_addWest_20 rfl rfl) ?_
    refine ao_s (st_dup dX8_addWest_21 rfl) ?_
    refine ao_getI dX8_addWest_22 fl_X8_25 rfl e21 ?_
    refine ao_s (st_iconst dX8_addWest_25 ic_1) ?_
    refine ao_s (st_iadd dX8_addWest_26) ?_
    refine ao_putI dX8_addWest_27 fl_X8_25 rfl rfl rfl rfl e21 ?_
    refine ao_letH (fun h26 => ?_)
    exact ao_vr dX8_addWest_30 rfl
def f_X2_readNumbers (h : aH) (a0 : Nat) (a1 : Nat) (x2 : Int32) : Option (Unit × aH) :=
(if x2 = 0 then
(if (sh a0).1 = 9 then
((hR h a0 0).bind fun b27 =>
(if (sh b27).1 = 16 then
(aBind (f_X9_takeNumber h b27 99) fun r29 h30 =>
(if (sh a1).1 = 15 then
(aLet (pI h30 a1 1 r29) fun h32 =>
((hR h32 a0 0).bind fun b33 =>
(if (sh b33).1 = 16 then
(aBind (f_X9_takeNumber h32 b33 20) fun r35 h36 =>
(aLet (pI h36 a1 2 r35) fun h37 =>
some ((), h37)))
else none)))
else none))
else none))
else none)
else
(if x2 = 1 then
(if (sh a0).1 = 9 then
((hR h a0 0).bind fun b39 =>
(if (sh b39).1 = 16 then
(aBind (f_X9_takeNumber h b39 999) fun r41 h42 =>
(if (sh a1).1 = 15 then
(aBind (f_X8_addEast h42 a1 r41) fun r44 h45 =>
some ((), h45))
else none))
else none))
else none)
else
(if x2 = 2 then
(if (sh a0).1 = 9 then
((hR h a0 0).bind fun b47 =>
(if (sh b47).1 = 16 then
(aBind (f_X9_takeNumber h b47 999) fun r49 h50 =>
(if (sh a1).1 = 15 then
(aBind (f_X8_addWest h50 a1 r49) fun r52 h53 =>
some ((), h53))
else none))
else none))
else none)
else
(if x2 = 3 then
(if (sh a1).1 = 15 then
((hR h a1 11).bind fun b55 =>
(if (sh a0).1 = 9 then
(aBind (f_X2_readLikes h a0 a1 b55) fun r57 h58 =>
some ((), h58))
else none))
else none)
else
(if x2 = 4 then
(if (sh a1).1 = 15 then
((hR h a1 12).bind fun b60 =>
(if (sh a0).1 = 9 then
(aBind (f_X2_readLikes h a0 a1 b60) fun r62 h63 =>
some ((), h63))
else none))
else none)
else
(if (sh a1).1 = 15 then
(if (sh a0).1 = 9 then
((hR h a0 0).bind fun b66 =>
(if (sh b66).1 = 16 then
(aBind (f_X9_takeNumber h b66 60) fun r68 h69 =>
(aLet (pL h69 a1 6 ((hL h a1 6) ||| (1 <<< (r68.toInt64 &&& 63)))) fun h70 =>
some ((), h70)))
else none))
else none)
else none))))))
set_option maxHeartbeats 2000000 in
theorem s_X2_readNumbers (h : aH) (a0 : Nat) (a1 : Nat) (x2 : Int32) : SO eV 5 kX2_readNumbers [.ref a0, .ref a1, .int x2] h (f_X2_readNumbers h a0 a1 x2) := by
  refine so_of (lv0 := [some (.ref a0), some (.ref a1), some (.int x2)]) pn_X2 (Nat.le_of_ble_eq_true rfl) rfl ?_
  unfold f_X2_readNumbers
  refine ao_s (st_iload_n dX2_readNumbers_0 rfl rfl) ?_
  refine ao_ite (fun c21 => ?_) (fun c21 => ?_)
  · refine ao_s (st_tabIn (v := 0) (off := 35) (tgt := 36) c21 dX2_readNumbers_1 (by decide) (by decide)) ?_
    refine ao_s (st_aload_n dX2_readNumbers_36 rfl rfl) ?_
    refine ao_s (st_aload_n dX2_readNumbers_37 rfl rfl) ?_
    refine ao_chk (fun e26 => ?_)
    refine ao_getR dX2_readNumbers_38 fl_X2_9 rfl e26 (fun b27 => ?_)
    refine ao_s (st_bipush dX2_readNumbers_41 bp_99) ?_
    refine ao_chk (fun e28 => ?_)
    refine ao_cVi (Kc := kX9_takeNumber) (As := [.int 99]) (st := [.ref a1]) dX2_readNumbers_43 ml_X2_77 mv_X9_takeNumber rfl e28 (by decide) rfl rfl (Nat.le_of_ble_eq_true rfl) (by decide) (s_X9_takeNumber h b27 99) (fun r29 h30 => ?_)
    refine ao_chk (fun e31 => ?_)
    refine ao_putI dX2_readNumbers_46 fl_X2_81 rfl rfl rfl rfl e31 ?_
    refine ao_letH (fun h32 => ?_)
    refine ao_s (st_aload_n dX2_readNumbers_49 rfl rfl) ?_
    refine ao_s (st_aload_n dX2_readNumbers_50 rfl rfl) ?_
    refine ao_getR dX2_readNumbers_51 fl_X2_9 rfl e26 (fun b33 => ?_)
    refine ao_s (st_bipush dX2_readNumbers_54 bp_20) ?_
    refine ao_chk (fun e34 => ?_)
    refine ao_cVi (Kc := kX9_takeNumber) (As := [.int 20]) (st := [.ref a1]) dX2_readNumbers_56 ml_X2_77 mv_X9_takeNumber rfl e34 (by decide) rfl rfl (Nat.le_of_ble_eq_true rfl) (by decide) (s_X9_takeNumber h32 b33 20) (fun r35 h36 => ?_)
    refine ao_putI dX2_readNumbers_59 fl_X2_84 rfl rfl rfl rfl e31 ?_
    refine ao_letH (fun h37 => ?_)
    refine ao_s (st_goto 143 dX2_readNumbers_62 (by decide)) ?_
    exact ao_vr dX2_readNumbers_143 rfl
  · refine ao_ite (fun c22 => ?_) (fun c22 => ?_)
    · refine ao_s (st_tabIn (v := 1) (off := 64) (tgt := 65) c22 dX2_readNumbers_1 (by decide) (by decide)) ?_
      refine ao_s (st_aload_n dX2_readNumbers_65 rfl rfl) ?_
      refine ao_s (st_aload_n dX2_readNumbers_66 rfl rfl) ?_
      refine ao_chk (fun e38 => ?_)
      refine ao_getR dX2_readNumbers_67 fl_X2_9 rfl e38 (fun b39 => ?_)
      refine ao_s (st_sipush dX2_readNumbers_70 sp_999) ?_
      refine ao_chk (fun e40 => ?_)
      refine ao_cVi (Kc := kX9_takeNumber) (As := [.int 999]) (st := [.ref a1]) dX2_readNumbers_73 ml_X2_77 mv_X9_takeNumber rfl e40 (by decide) rfl rfl (Nat.le_of_ble_eq_true rfl) (by decide) (s_X9_takeNumber h b39 999) (fun r41 h42 => ?_)
      refine ao_chk (fun e43 => ?_)
      refine ao_cVv (Kc := kX8_addEast) (As := [.int r41]) (st := []) dX2_readNumbers_76 ml_X2_87 mv_X8_addEast rfl e43 (by decide) rfl rfl (Nat.le_of_ble_eq_true rfl) (by decide) (s_X8_addEast h42 a1 r41) (fun r44 h45 => ?_)
      refine ao_s (st_goto 143 dX2_readNumbers_79 (by decide)) ?_
      exact ao_vr dX2_readNumbers_143 rfl
    · refine ao_ite (fun c23 => ?_) (fun c23 => ?_)
      · refine ao_s (st_tabIn (v := 2) (off := 81) (tgt := 82) c23 dX2_readNumbers_1 (by decide) (by decide)) ?_
        refine ao_s (st_aload_n dX2_readNumbers_82 rfl rfl) ?_
        refine ao_s (st_aload_n dX2_readNumbers_83 rfl rfl) ?_
        refine ao_chk (fun e46 => ?_)
        refine ao_getR dX2_readNumbers_84 fl_X2_9 rfl e46 (fun b47 => ?_)
        refine ao_s (st_sipush dX2_readNumbers_87 sp_999) ?_
        refine ao_chk (fun e48 => ?_)
        refine ao_cVi (Kc := kX9_takeNumber) (As := [.int 999]) (st := [.ref a1]) dX2_readNumbers_90 ml_X2_77 mv_X9_takeNumber rfl e48 (by decide) rfl rfl (Nat.le_of_ble_eq_true rfl) (by decide) (s_X9_takeNumber h b47 999) (fun r49 h50 => ?_)
        refine ao_chk (fun e51 => ?_)
        refine ao_cVv (Kc := kX8_addWest) (As := [.int r49]) (st := []) dX2_readNumbers_93 ml_X2_91 mv_X8_addWest rfl e51 (by decide) rfl rfl (Nat.le_of_ble_eq_true rfl) (by decide) (s_X8_addWest h50 a1 r49) (fun r52 h53 => ?_)
        refine ao_s (st_goto 143 dX2_readNumbers_96 (by decide)) ?_
        exact ao_vr dX2_readNumbers_143 rfl
      · refine ao_ite (fun c24 => ?_) (fun c24 => ?_)
        · refine ao_s (st_tabIn (v := 3) (off := 98) (tgt := 99) c24 dX2_readNumbers_1 (by decide) (by decide)) ?_
          refine ao_s (st_aload_n dX2_readNumbers_99 rfl rfl) ?_
          refine ao_s (st_aload_n dX2_readNumbers_100 rfl rfl) ?_
          refine ao_s (st_aload_n dX2_readNumbers_101 rfl rfl) ?_
          refine ao_chk (fun e54 => ?_)
          refine ao_getR dX2_readNumbers_102 fl_X2_94 rfl e54 (fun b55 => ?_)
          refine ao_chk (fun e56 => ?_)
          refine ao_cVv (Kc := kX2_readLikes) (As := [.ref a1, .ref b55]) (st := []) dX2_readNumbers_105 ml_X2_98 mv_X2_readLikes rfl e56 (by decide) rfl rfl (Nat.le_of_ble_eq_true rfl) (by decide) (s_X2_readLikes h a0 a1 b55) (fun r57 h58 => ?_)
          refine ao_s (st_goto 143 dX2_readNumbers_108 (by decide)) ?_
          exact ao_vr dX2_readNumbers_143 rfl
        · refine ao_ite (fun c25 => ?_) (fun c25 => ?_)
          · refine ao_s (st_tabIn (v := 4) (off := 110) (tgt := 111) c25 dX2_readNumbers_1 (by decide) (by decide)) ?_
            refine ao_s (st_aload_n dX2_readNumbers_111 rfl rfl) ?_
            refine ao_s (st_aload_n dX2_readNumbers_112 rfl rfl) ?_
            refine ao_s (st_aload_n dX2_readNumbers_113 rfl rfl) ?_
            refine ao_chk (fun e59 => ?_)
            refine ao_getR dX2_readNumbers_114 fl_X2_102 rfl e59 (fun b60 => ?_)
            refine ao_chk (fun e61 => ?_)
            refine ao_cVv (Kc := kX2_readLikes) (As := [.ref a1, .ref b60]) (st := []) dX2_readNumbers_117 ml_X2_98 mv_X2_readLikes rfl e61 (by decide) rfl rfl (Nat.le_of_ble_eq_true rfl) (by decide) (s_X2_readLikes h a0 a1 b60) (fun r62 h63 => ?_)
            refine ao_s (st_goto 143 dX2_readNumbers_120 (by decide)) ?_
            exact ao_vr dX2_readNumbers_143 rfl
          · refine ao_s (st_tabOut (tgt := 123) dX2_readNumbers_1 (by have q0 := lv_neT c21 (show (0 : Int32).toInt = 0 by decide); have q1 := lv_neT c22 (show (1 : Int32).toInt = 1 by decide); have q2 := lv_neT c23 (show (2 : Int32).toInt = 2 by decide); have q3 := lv_neT c24 (show (3 : Int32).toInt = 3 by decide); have q4 := lv_neT c25 (show (4 : Int32).toInt = 4 by decide); omega) (by decide)) ?_
            refine ao_s (st_aload_n dX2_readNumbers_123 rfl rfl) ?_
            refine ao_s (st_dup dX2_readNumbers_124 rfl) ?_
            refine ao_chk (fun e64 => ?_)
            refine ao_getL dX2_readNumbers_125 fl_X2_105 rfl e64 ?_
            refine ao_s (st_lconst dX2_readNumbers_128 lc_1) ?_
            refine ao_s (st_aload_n dX2_readNumbers_129 rfl rfl) ?_
            refine ao_chk (fun e65 => ?_)
            refine ao_getR dX2_readNumbers_130 fl_X2_9 rfl e65 (fun b66 => ?_)
            refine ao_s (st_bipush dX2_readNumbers_133 bp_60) ?_
            refine ao_chk (fun e67 => ?_)
            refine ao_cVi (Kc := kX9_takeNumber) (As := [.int 60]) (st := [.long 1, .long (hL h a1 6), .ref a1]) dX2_readNumbers_135 ml_X2_77 mv_X9_takeNumber rfl e67 (by decide) rfl rfl (Nat.le_of_ble_eq_true rfl) (by decide) (s_X9_takeNumber h b66 60) (fun r68 h69 => ?_)
            refine ao_s (st_lshl dX2_readNumbers_138) ?_
            refine ao_s (st_lor dX2_readNumbers_139) ?_
            refine ao_putL dX2_readNumbers_140 fl_X2_105 rfl rfl rfl rfl e64 ?_
            refine ao_letH (fun h70 => ?_)
            exact ao_vr dX2_readNumbers_143 rfl
def f_X9_isLetter (h : aH) (a0 : Nat) (x1 : Int32) : Option (Int32 × aH) :=
(if x1 < 97 then
some (0, h)
else
(if 122 < x1 then
some (0, h)
else
some (1, h)))
set_option maxHeartbeats 2000000 in
theorem s_X9_isLetter (h : aH) (a0 : Nat) (x1 : Int32) : SO eI 2 kX9_isLetter [.ref a0, .int x1] h (f_X9_isLetter h a0 x1) := by
  refine so_of (lv0 := [some (.ref a0), some (.int x1)]) pn_X9 (Nat.le_of_ble_eq_true rfl) rfl ?_
  unfold f_X9_isLetter
  refine ao_s (st_iload_n dX9_isLetter_0 rfl rfl) ?_
  refine ao_s (st_bipush dX9_isLetter_1 bp_97) ?_
  refine ao_br (br_icmp_lt (tgt := 16) dX9_isLetter_3 (by decide)) (fun c22 => ?_) (fun c22 => ?_)
  · refine ao_s (st_iconst dX9_isLetter_16 ic_0) ?_
    exact ao_ir dX9_isLetter_17 rfl (by decide)
  · refine ao_s (st_iload_n dX9_isLetter_6 rfl rfl) ?_
    refine ao_s (st_bipush dX9_isLetter_7 bp_122) ?_
    refine ao_br (br_icmp_gt (tgt := 16) dX9_isLetter_9 (by decide)) (fun c21 => ?_) (fun c21 => ?_)
    · refine ao_s (st_iconst dX9_isLetter_16 ic_0) ?_
      exact ao_ir dX9_isLetter_17 rfl (by decide)
    · refine ao_s (st_iconst dX9_isLetter_12 ic_1) ?_
      refine ao_s (st_goto 17 dX9_isLetter_13 (by decide)) ?_
      exact ao_ir dX9_isLetter_17 rfl (by decide)
