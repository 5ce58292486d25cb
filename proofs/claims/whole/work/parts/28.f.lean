def f_X11_doorValue (h : aH) (a0 : Nat) (x1 : Int32) (x2 : Int32) (x3 : Int32) (x4 : Int32) : Option (Int32 × aH) :=
(if (sh a0).1 = 18 then
((hR h a0 5).bind fun b22 =>
(if (sh b22).1 = 17 then
((hR h b22 1).bind fun b24 =>
(if x3 = 1 then
(if x4 = 0 then
(if (sh b24).1 = 15 then
some (hI h b24 2, h)
else none)
else
(if (sh b24).1 = 15 then
some ((hI h b24 2) / 2, h)
else none))
else
(if x4 = 1 then
(if (sh b24).1 = 15 then
some (((hI h b24 1) / 2) - 10, h)
else none)
else
(if (sh b24).1 = 15 then
(aBind (f_X8_partnerOf h b24 0 x2) fun r30 h31 =>
(if 0 ≤ r30 then
(aBind (f_X8_like h31 b24 x1 x2 r30) fun r32 h33 =>
((hR h33 b24 10).bind fun b34 =>
(if (sh b34).1 = 0 then
(if aIn x2 (sh b34).2 then
some (r32 - (hI h33 b34 x2.toNatClampNeg), h33)
else none)
else none)))
else
some (0, h31)))
else none))))
else none))
else none)
set_option maxHeartbeats 2000000 in
theorem s_X11_doorValue (h : aH) (a0 : Nat) (x1 : Int32) (x2 : Int32) (x3 : Int32) (x4 : Int32) : SO eI 3 kX11_doorValue [.ref a0, .int x1, .int x2, .int x3, .int x4] h (f_X11_doorValue h a0 x1 x2 x3 x4) := by
  refine so_of (lv0 := [some (.ref a0), some (.int x1), some (.int x2), some (.int x3), some (.int x4), none, none]) pn_X11 (Nat.le_of_ble_eq_true rfl) rfl ?_
  unfold f_X11_doorValue
  refine ao_s (st_aload_n dX11_doorValue_0 rfl rfl) ?_
  refine ao_chk (fun e21 => ?_)
  refine ao_getR dX11_doorValue_1 fl_X11_45 rfl e21 (fun b22 => ?_)
  refine ao_chk (fun e23 => ?_)
  refine ao_getR dX11_doorValue_4 fl_X11_119 rfl e23 (fun b24 => ?_)
  refine ao_s (st_astore (lv' := [some (.ref a0), some (.int x1), some (.int x2), some (.int x3), some (.int x4), some (.ref b24), none]) dX11_doorValue_7 (by decide) rfl) ?_
  refine ao_s (st_iload_n dX11_doorValue_9 rfl rfl) ?_
  refine ao_s (st_iconst dX11_doorValue_10 ic_1) ?_
  refine ao_br (br_icmp_ne (tgt := 35) dX11_doorValue_11 (by decide)) (fun c38 => ?_) (fun c38 => ?_)
  · refine ao_s (st_iload dX11_doorValue_14 rfl) ?_
    refine ao_br (br_if_ne (tgt := 27) dX11_doorValue_16 (by decide)) (fun c27 => ?_) (fun c27 => ?_)
    · refine ao_s (st_aload dX11_doorValue_19 rfl) ?_
      refine ao_chk (fun e25 => ?_)
      refine ao_getI dX11_doorValue_21 fl_X11_161 rfl e25 ?_
      refine ao_s (st_goto 34 dX11_doorValue_24 (by decide)) ?_
      exact ao_ir dX11_doorValue_34 rfl rfl
    · refine ao_s (st_aload dX11_doorValue_27 rfl) ?_
      refine ao_chk (fun e26 => ?_)
      refine ao_getI dX11_doorValue_29 fl_X11_161 rfl e26 ?_
      refine ao_s (st_iconst dX11_doorValue_32 ic_2) ?_
      refine ao_s (st_idiv dX11_doorValue_33 (by decide)) ?_
      exact ao_ir dX11_doorValue_34 rfl rfl
  · refine ao_s (st_iload dX11_doorValue_35 rfl) ?_
    refine ao_s (st_iconst dX11_doorValue_37 ic_1) ?_
    refine ao_br (br_icmp_ne (tgt := 52) dX11_doorValue_38 (by decide)) (fun c37 => ?_) (fun c37 => ?_)
    · refine ao_s (st_aload dX11_doorValue_41 rfl) ?_
      refine ao_chk (fun e28 => ?_)
      refine ao_getI dX11_doorValue_43 fl_X11_158 rfl e28 ?_
      refine ao_s (st_iconst dX11_doorValue_46 ic_2) ?_
      refine ao_s (st_idiv dX11_doorValue_47 (by decide)) ?_
      refine ao_s (st_bipush dX11_doorValue_48 bp_10) ?_
      refine ao_s (st_isub dX11_doorValue_50) ?_
      exact ao_ir dX11_doorValue_51 rfl rfl
    · refine ao_s (st_aload dX11_doorValue_52 rfl) ?_
      refine ao_s (st_iconst dX11_doorValue_54 ic_0) ?_
      refine ao_s (st_iload_n dX11_doorValue_55 rfl rfl) ?_
      refine ao_chk (fun e29 => ?_)
      refine ao_cVi (Kc := kX8_partnerOf) (As := [.int 0, .int x2]) (st := []) dX11_doorValue_56 ml_X11_229 mv_X8_partnerOf rfl e29 (by decide) rfl rfl (Nat.le_of_ble_eq_true rfl) (by decide) (s_X8_partnerOf h b24 0 x2) (fun r30 h31 => ?_)
      refine ao_s (st_istore (lv' := [some (.ref a0), some (.int x1), some (.int x2), some (.int x3), some (.int x4), some (.ref b24), some (.int r30)]) dX11_doorValue_59 (by decide) rfl) ?_
      refine ao_s (st_iload dX11_doorValue_61 rfl) ?_
      refine ao_br (br_if_ge (tgt := 70) dX11_doorValue_63 (by decide)) (fun c36 => ?_) (fun c36 => ?_)
      · refine ao_s (st_aload dX11_doorValue_70 rfl) ?_
        refine ao_s (st_iload_n dX11_doorValue_72 rfl rfl) ?_
        refine ao_s (st_iload_n dX11_doorValue_73 rfl rfl) ?_
        refine ao_s (st_iload dX11_doorValue_74 rfl) ?_
        refine ao_cVi (Kc := kX8_like) (As := [.int x1, .int x2, .int r30]) (st := []) dX11_doorValue_76 ml_X11_152 mv_X8_like rfl e29 (by decide) rfl rfl (Nat.le_of_ble_eq_true rfl) (by decide) (s_X8_like h31 b24 x1 x2 r30) (fun r32 h33 => ?_)
        refine ao_s (st_aload dX11_doorValue_79 rfl) ?_
        refine ao_getR dX11_doorValue_81 fl_X11_276 rfl e29 (fun b34 => ?_)
        refine ao_s (st_iload_n dX11_doorValue_84 rfl rfl) ?_
        refine ao_chk (fun e35 => ?_)
        refine ao_iald dX11_doorValue_85 e35 ?_
        refine ao_s (st_isub dX11_doorValue_86) ?_
        exact ao_ir dX11_doorValue_87 rfl rfl
      · refine ao_s (st_iconst dX11_doorValue_66 ic_0) ?_
        refine ao_s (st_goto 87 dX11_doorValue_67 (by decide)) ?_
        exact ao_ir dX11_doorValue_87 rfl rfl
def f_X11_neitherWouldChange (h : aH) (a0 : Nat) (x1 : Int32) (x2 : Int32) (x3 : Int32) : Option (Int32 × aH) :=
(if (sh a0).1 = 18 then
(aBind (f_X11_doorValue h a0 0 x1 (1 - x2) x3) fun r22 h23 =>
(aBind (f_X11_doorValue h23 a0 0 x1 x2 x3) fun r24 h25 =>
(if r24 < r22 then
some (0, h25)
else
(aBind (f_X11_doorValue h25 a0 1 x1 (1 - x3) x2) fun r26 h27 =>
(aBind (f_X11_doorValue h27 a0 1 x1 x3 x2) fun r28 h29 =>
(if r28 < r26 then
some (0, h29)
else
some (1, h29)))))))
else none)
set_option maxHeartbeats 2000000 in
theorem s_X11_neitherWouldChange (h : aH) (a0 : Nat) (x1 : Int32) (x2 : Int32) (x3 : Int32) : SO eI 4 kX11_neitherWouldChange [.ref a0, .int x1, .int x2, .int x3] h (f_X11_neitherWouldChange h a0 x1 x2 x3) := by
  refine so_of (lv0 := [some (.ref a0), some (.int x1), some (.int x2), some (.int x3)]) pn_X11 (Nat.le_of_ble_eq_true rfl) rfl ?_
  unfold f_X11_neitherWouldChange
  refine ao_s (st_aload_n dX11_neitherWouldChange_0 rfl rfl) ?_
  refine ao_s (st_iconst dX11_neitherWouldChange_1 ic_0) ?_
  refine ao_s (st_iload_n dX11_neitherWouldChange_2 rfl rfl) ?_
  refine ao_s (st_iconst dX11_neitherWouldChange_3 ic_1) ?_
  refine ao_s (st_iload_n dX11_neitherWouldChange_4 rfl rfl) ?_
  refine ao_s (st_isub dX11_neitherWouldChange_5) ?_
  refine ao_s (st_iload_n dX11_neitherWouldChange_6 rfl rfl) ?_
  refine ao_chk (fun e21 => ?_)
  refine ao_cVi (Kc := kX11_doorValue) (As := [.int 0, .int x1, .int (1 - x2), .int x3]) (st := []) dX11_neitherWouldChange_7 ml_X11_272 mv_X11_doorValue rfl e21 (by decide) rfl rfl (Nat.le_of_ble_eq_true rfl) (by decide) (s_X11_doorValue h a0 0 x1 (1 - x2) x3) (fun r22 h23 => ?_)
  refine ao_s (st_aload_n dX11_neitherWouldChange_10 rfl rfl) ?_
  refine ao_s (st_iconst dX11_neitherWouldChange_11 ic_0) ?_
  refine ao_s (st_iload_n dX11_neitherWouldChange_12 rfl rfl) ?_
  refine ao_s (st_iload_n dX11_neitherWouldChange_13 rfl rfl) ?_
  refine ao_s (st_iload_n dX11_neitherWouldChange_14 rfl rfl) ?_
  refine ao_cVi (Kc := kX11_doorValue) (As := [.int 0, .int x1, .int x2, .int x3]) (st := [.int r22]) dX11_neitherWouldChange_15 ml_X11_272 mv_X11_doorValue rfl e21 (by decide) rfl rfl (Nat.le_of_ble_eq_true rfl) (by decide) (s_X11_doorValue h23 a0 0 x1 x2 x3) (fun r24 h25 => ?_)
  refine ao_br (br_icmp_gt (tgt := 46) dX11_neitherWouldChange_18 (by decide)) (fun c31 => ?_) (fun c31 => ?_)
  · refine ao_s (st_iconst dX11_neitherWouldChange_46 ic_0) ?_
    exact ao_ir dX11_neitherWouldChange_47 rfl (by decide)
  · refine ao_s (st_aload_n dX11_neitherWouldChange_21 rfl rfl) ?_
    refine ao_s (st_iconst dX11_neitherWouldChange_22 ic_1) ?_
    refine ao_s (st_iload_n dX11_neitherWouldChange_23 rfl rfl) ?_
    refine ao_s (st_iconst dX11_neitherWouldChange_24 ic_1) ?_
    refine ao_s (st_iload_n dX11_neitherWouldChange_25 rfl rfl) ?_
    refine ao_s (st_isub dX11_neitherWouldChange_26) ?_
    refine ao_s (st_iload_n dX11_neitherWouldChange_27 rfl rfl) ?_
    refine ao_cVi (Kc := kX11_doorValue) (As := [.int 1, .int x1, .int (1 - x3), .int x2]) (st := []) dX11_neitherWouldChange_28 ml_X11_272 mv_X11_doorValue rfl e21 (by decide) rfl rfl (Nat.le_of_ble_eq_true rfl) (by decide) (s_X11_doorValue h25 a0 1 x1 (1 - x3) x2) (fun r26 h27 => ?_)
    refine ao_s (st_aload_n dX11_neitherWouldChange_31 rfl rfl) ?_
    refine ao_s (st_iconst dX11_neitherWouldChange_32 ic_1) ?_
    refine ao_s (st_iload_n dX11_neitherWouldChange_33 rfl rfl) ?_
    refine ao_s (st_iload_n dX11_neitherWouldChange_34 rfl rfl) ?_
    refine ao_s (st_iload_n dX11_neitherWouldChange_35 rfl rfl) ?_
    refine ao_cVi (Kc := kX11_doorValue) (As := [.int 1, .int x1, .int x3, .int x2]) (st := [.int r26]) dX11_neitherWouldChange_36 ml_X11_272 mv_X11_doorValue rfl e21 (by decide) rfl rfl (Nat.le_of_ble_eq_true rfl) (by decide) (s_X11_doorValue h27 a0 1 x1 x3 x2) (fun r28 h29 => ?_)
    refine ao_br (br_icmp_gt (tgt := 46) dX11_neitherWouldChange_39 (by decide)) (fun c30 => ?_) (fun c30 => ?_)
    · refine ao_s (st_iconst dX11_neitherWouldChange_46 ic_0) ?_
      exact ao_ir dX11_neitherWouldChange_47 rfl (by decide)
    · refine ao_s (st_iconst dX11_neitherWouldChange_42 ic_1) ?_
      refine ao_s (st_goto 47 dX11_neitherWouldChange_43 (by decide)) ?_
      exact ao_ir dX11_neitherWouldChange_47 rfl (by decide)
def b_X11_doors_62 (k34 : aH → Nat → Int32 → Int32 → Int32 → Int32 → Int32 → Option (Int32 × aH)) (h : aH) (a0 : Nat) (x1 : Int32) (x2 : Int32) (x3 : Int32) (x4 : Int32) (x5 : Int32) : Option (Int32 × aH) :=
k34 h a0 x1 x2 x3 x4 (x5 + (-1))
set_option maxHeartbeats 2000000 in
theorem t_X11_doors_62 {k34 : aH → Nat → Int32 → Int32 → Int32 → Int32 → Int32 → Option (Int32 × aH)} (hk34 : ∀ (h : aH) (a0 : Nat) (x1 : Int32) (x2 : Int32) (x3 : Int32) (x4 : Int32) (x5 : Int32), AO eI 5 kX11_doors 34 [some (.ref a0), some (.int x1), some (.int x2), some (.int x3), some (.int x4), some (.int x5)] [] h (k34 h a0 x1 x2 x3 x4 x5)) (h : aH) (a0 : Nat) (x1 : Int32) (x2 : Int32) (x3 : Int32) (x4 : Int32) (x5 : Int32) : AO eI 5 kX11_doors 62 [some (.ref a0), some (.int x1), some (.int x2), some (.int x3), some (.int x4), some (.int x5)] [] h (b_X11_doors_62 k34 h a0 x1 x2 x3 x4 x5) := by
  unfold b_X11_doors_62
  refine ao_s (st_iinc (lv' := [some (.ref a0), some (.int x1), some (.int x2), some (.int x3), some (.int x4), some (.int (x5 + (-1)))]) dX11_doors_62 rfl nc_m1 (by decide) rfl) ?_
  refine ao_s (st_goto 34 dX11_doors_65 (by decide)) ?_
  exact ao_w (sb_s (sb_s (sb_s (sb_s (sb_s (sb_s sb_0)))))) (hk34 h a0 x1 x2 x3 x4 (x5 + (-1)))
def b_X11_doors_34 (k34 : aH → Nat → Int32 → Int32 → Int32 → Int32 → Int32 → Option (Int32 × aH)) (h : aH) (a0 : Nat) (x1 : Int32) (x2 : Int32) (x3 : Int32) (x4 : Int32) (x5 : Int32) : Option (Int32 × aH) :=
(if x5 < 0 then
(if x2 = 0 then
some (x3, h)
else
some (x4, h))
else
(if (sh a0).1 = 18 then
(aBind (f_X11_neitherWouldChange h a0 x1 (x5 >>> (1 &&& 31)) (x5 &&& 1)) fun r23 h24 =>
(if r23 = 0 then
b_X11_doors_62 k34 h24 a0 x1 x2 x3 x4 x5
else
b_X11_doors_62 k34 h24 a0 x1 x2 (x3 + 1) x5 x5))
else none))
set_option maxHeartbeats 2000000 in
theorem t_X11_doors_34 {k34 : aH → Nat → Int32 → Int32 → Int32 → Int32 → Int32 → Option (Int32 × aH)} (hk34 : ∀ (h : aH) (a0 : Nat) (x1 : Int32) (x2 : Int32) (x3 : Int32) (x4 : Int32) (x5 : Int32), AO eI 5 kX11_doors 34 [some (.ref a0), some (.int x1), some (.int x2), some (.int x3), some (.int x4), some (.int x5)] [] h (k34 h a0 x1 x2 x3 x4 x5)) (h : aH) (a0 : Nat) (x1 : Int32) (x2 : Int32) (x3 : Int32) (x4 : Int32) (x5 : Int32) : AO eI 5 kX11_doors 34 [some (.ref a0), some (.int x1), some (.int x2), some (.int x3), some (.int x4), some (.int x5)] [] h (b_X11_doors_34 k34 h a0 x1 x2 x3 x4 x5) := by
  unfold b_X11_doors_34
  refine ao_s (st_iload dX11_doors_34 rfl) ?_
  refine ao_br (br_if_lt (tgt := 68) dX11_doors_36 (by decide)) (fun c26 => ?_) (fun c26 => ?_)
  · refine ao_s (st_iload_n dX11_doors_68 rfl rfl) ?_
    refine ao_br (br_if_ne (tgt := 76) dX11_doors_69 (by decide)) (fun c21 => ?_) (fun c21 => ?_)
    · refine ao_s (st_iload_n dX11_doors_72 rfl rfl) ?_
      refine ao_s (st_goto 78 dX11_doors_73 (by decide)) ?_
      exact ao_ir dX11_doors_78 rfl rfl
    · refine ao_s (st_iload dX11_doors_76 rfl) ?_
      exact ao_ir dX11_doors_78 rfl rfl
  · refine ao_s (st_aload_n dX11_doors_39 rfl rfl) ?_
    refine ao_s (st_iload_n dX11_doors_40 rfl rfl) ?_
    refine ao_s (st_iload dX11_doors_41 rfl) ?_
    refine ao_s (st_iconst dX11_doors_43 ic_1) ?_
    refine ao_s (st_ishr dX11_doors_44) ?_
    refine ao_s (st_iload dX11_doors_45 rfl) ?_
    refine ao_s (st_iconst dX11_doors_47 ic_1) ?_
    refine ao_s (st_iand dX11_doors_48) ?_
    refine ao_chk (fun e22 => ?_)
    refine ao_cVi (Kc := kX11_neitherWouldChange) (As := [.int x1, .int (x5 >>> (1 &&& 31)), .int (x5 &&& 1)]) (st := []) dX11_doors_49 ml_X11_268 mv_X11_neitherWouldChange rfl e22 (by decide) rfl rfl (Nat.le_of_ble_eq_true rfl) (by decide) (s_X11_neitherWouldChange h a0 x1 (x5 >>> (1 &&& 31)) (x5 &&& 1)) (fun r23 h24 => ?_)
    refine ao_br (br_if_eq (tgt := 62) dX11_doors_52 (by decide)) (fun c25 => ?_) (fun c25 => ?_)
    · exact ao_w (sb_s (sb_s (sb_s (sb_s (sb_s (sb_s sb_0)))))) (t_X11_doors_62 hk34 h24 a0 x1 x2 x3 x4 x5)
    · refine ao_s (st_iinc (lv' := [some (.ref a0), some (.int x1), some (.int x2), some (.int (x3 + 1)), some (.int x4), some (.int x5)]) dX11_doors_55 rfl nc_1 (by decide) rfl) ?_
      refine ao_s (st_iload dX11_doors_58 rfl) ?_
      refine ao_s (st_istore (lv' := [some (.ref a0), some (.int x1), some (.int x2), some (.int (x3 + 1)), some (.int x5), some (.int x5)]) dX11_doors_60 (by decide) rfl) ?_
      exact ao_w (sb_s (sb_s (sb_s (sb_s (sb_s (sb_s sb_0)))))) (t_X11_doors_62 hk34 h24 a0 x1 x2 (x3 + 1) x5 x5)
def f_X11_doors_34 (n : Nat) : aH → Nat → Int32 → Int32 → Int32 → Int32 → Int32 → Option (Int32 × aH) := aIt (fun _ _ _ _ _ _ _ => none) (fun k => b_X11_doors_34 k) n
theorem l_X11_doors_34 (n : Nat) : ∀ (h : aH) (a0 : Nat) (x1 : Int32) (x2 : Int32) (x3 : Int32) (x4 : Int32) (x5 : Int32), AO eI 5 kX11_doors 34 [some (.ref a0), some (.int x1), some (.int x2), some (.int x3), some (.int x4), some (.int x5)] [] h (f_X11_doors_34 n h a0 x1 x2 x3 x4 x5) := by
  induction n with
  | zero => intros; exact ao_none
  | succ n ih =>
    intro h a0 x1 x2 x3 x4 x5
    exact t_X11_doors_34 ih h a0 x1 x2 x3 x4 x5
def f_X11_doors (h : aH) (a0 : Nat) (x1 : Int32) (x2 : Int32) : Option (Int32 × aH) :=
(if (sh a0).1 = 18 then
((hR h a0 5).bind fun b22 =>
(if (sh b22).1 = 17 then
((hR h b22 1).bind fun b24 =>
(if (sh b24).1 = 15 then
(aBind (f_X8_isJoinedEast h b24 x1) fun r26 h27 =>
(if r26 = 0 then
some ((-1), h27)
else
(if x2 < 0 then
some ((-1), h27)
else
(if x2 ≤ 1 then
f_X11_doors_34 2000 h27 a0 x1 x2 0 (-2) 3
else
some ((-1), h27)))))
else none))
else none))
else none)
set_option maxHeartbeats 2000000 in
theorem s_X11_doors (h : aH) (a0 : Nat) (x1 : Int32) (x2 : Int32) : SO eI 5 kX11_doors [.ref a0, .int x1, .int x2] h (f_X11_doors h a0 x1 x2) := by
  refine so_of (lv0 := [some (.ref a0), some (.int x1), some (.int x2), none, none, none]) pn_X11 (Nat.le_of_ble_eq_true rfl) rfl ?_
  unfold f_X11_doors
  refine ao_s (st_aload_n dX11_doors_0 rfl rfl) ?_
  refine ao_chk (fun e21 => ?_)
  refine ao_getR dX11_doors_1 fl_X11_45 rfl e21 (fun b22 => ?_)
  refine ao_chk (fun e23 => ?_)
  refine ao_getR dX11_doors_4 fl_X11_119 rfl e23 (fun b24 => ?_)
  refine ao_s (st_iload_n dX11_doors_7 rfl rfl) ?_
  refine ao_chk (fun e25 => ?_)
  refine ao_cVi (Kc := kX8_isJoinedEast) (As := [.int x1]) (st := []) dX11_doors_8 ml_X11_213 mv_X8_isJoinedEast rfl e25 (by decide) rfl rfl (Nat.le_of_ble_eq_true rfl) (by decide) (s_X8_isJoinedEast h b24 x1) (fun r26 h27 => ?_)
  refine ao_br (br_if_eq (tgt := 23) dX11_doors_11 (by decide)) (fun c30 => ?_) (fun c30 => ?_)
  · refine ao_s (st_iconst dX11_doors_23 ic_m1) ?_
    exact ao_ir dX11_doors_24 rfl rfl
  · refine ao_s (st_iload_n dX11_doors_14 rfl rfl) ?_
    refine ao_br (br_if_lt (tgt := 23) dX11_doors_15 (by decide)) (fun c29 => ?_) (fun c29 => ?_)
    · refine ao_s (st_iconst dX11_doors_23 ic_m1) ?_
      exact ao_ir dX11_doors_24 rfl rfl
    · refine ao_s (st_iload_n dX11_doors_18 rfl rfl) ?_
      refine ao_s (st_iconst dX11_doors_19 ic_1) ?_
      refine ao_br (br_icmp_le (tgt := 25) dX11_doors_20 (by decide)) (fun c28 => ?_) (fun c28 => ?_)
      · refine ao_s (st_iconst dX11_doors_25 ic_0) ?_
        refine ao_s (st_istore_n (lv' := [some (.ref a0), some (.int x1), some (.int x2), some (.int 0), none, none]) dX11_doors_26 rfl (by decide) rfl) ?_
        refine ao_s (st_bipush dX11_doors_27 bp_m2) ?_
        refine ao_s (st_istore (lv' := [some (.ref a0), some (.int x1), some (.int x2), some (.int 0), some (.int (-2)), none]) dX11_doors_29 (by decide) rfl) ?_
        refine ao_s (st_iconst dX11_doors_31 ic_3) ?_
        refine ao_s (st_istore (lv' := [some (.ref a0), some (.int x1), some (.int x2), some (.int 0), some (.int (-2)), some (.int 3)]) dX11_doors_32 (by decide) rfl) ?_
        exact ao_w (sb_s (sb_s (sb_s (sb_s (sb_s (sb_s sb_0)))))) (l_X11_doors_34 2000 h27 a0 x1 x2 0 (-2) 3)
      · refine ao_s (st_iconst dX11_doors_23 ic_m1) ?_
        exact ao_ir dX11_doors_24 rfl rfl
def f_X11_keep (h : aH) (a0 : Nat) (x1 : Int32) (x2 : Int32) : Option (Int32 × aH) :=
(if (sh a0).1 = 18 then
((hR h a0 5).bind fun b22 =>
(if (sh b22).1 = 17 then
((hR h b22 1).bind fun b24 =>
(if (sh b24).1 = 15 then
(aBind (f_X8_isJoinedEast h b24 x1) fun r26 h27 =>
(if r26 = 0 then
some ((-1), h27)
else
(if x2 < 1 then
some ((-1), h27)
else
(if x2 ≤ 30 then
((hR h27 a0 12).bind fun b28 =>
((hR h27 a0 5).bind fun b29 =>
(if (sh b29).1 = 17 then
((hR h27 b29 1).bind fun b31 =>
(aBind (f_X11_ruleInForce h27 a0) fun r32 h33 =>
(if (sh b28).1 = 8 then
(aBind (f_X1_leastGift h33 b28 b31 r32 x1 x2) fun r35 h36 =>
some (r35, h36))
else none)))
else none)))
else
some ((-1), h27)))))
else none))
else none))
else none)
set_option maxHeartbeats 2000000 in
theorem s_X11_keep (h : aH) (a0 : Nat) (x1 : Int32) (x2 : Int32) : SO eI 9 kX11_keep [.ref a0, .int x1, .int x2] h (f_X11_keep h a0 x1 x2) := by
  refine so_of (lv0 := [some (.ref a0), some (.int x1), some (.int x2)]) pn_X11 (Nat.le_of_ble_eq_true rfl) rfl ?_
  unfold f_X11_keep
  refine ao_s (st_aload_n dX11_keep_0 rfl rfl) ?_
  refine ao_chk (fun e21 => ?_)
  refine ao_getR dX11_keep_1 fl_X11_45 rfl e21 (fun b22 => ?_)
  refine ao_chk (fun e23 => ?_)
  refine ao_getR dX11_keep_4 fl_X11_119 rfl e23 (fun b24 => ?_)
  refine ao_s (st_iload_n dX11_keep_7 rfl rfl) ?_
  refine ao_chk (fun e25 => ?_)
  refine ao_cVi (Kc := kX8_isJoinedEast) (As := [.int x1]) (st := []) dX11_keep_8 ml_X11_213 mv_X8_isJoinedEast rfl e25 (by decide) rfl rfl (Nat.le_of_ble_eq_true rfl) (by decide) (s_X8_isJoinedEast h b24 x1) (fun r26 h27 => ?_)
  refine ao_br (br_if_eq (tgt := 25) dX11_keep_11 (by decide)) (fun c39 => ?_) (fun c39 => ?_)
  · refine ao_s (st_iconst dX11_keep_25 ic_m1) ?_
    exact ao_ir dX11_keep_26 rfl rfl
  · refine ao_s (st_iload_n dX11_keep_14 rfl rfl) ?_
    refine ao_s (st_iconst dX11_keep_15 ic_1) ?_
    refine ao_br (br_icmp_lt (tgt := 25) dX11_keep_16 (by decide)) (fun c38 => ?_) (fun c38 => ?_)
    · refine ao_s (st_iconst dX11_keep_25 ic_m1) ?_
      exact ao_ir dX11_keep_26 rfl rfl
    · refine ao_s (st_iload_n dX11_keep_19 rfl rfl) ?_
      refine ao_s (st_bipush dX11_keep_20 bp_30) ?_
      refine ao_br (br_icmp_le (tgt := 27) dX11_keep_22 (by decide)) (fun c37 => ?_) (fun c37 => ?_)
      · refine ao_s (st_aload_n dX11_keep_27 rfl rfl) ?_
        refine ao_getR dX11_keep_28 fl_X11_82 rfl e21 (fun b28 => ?_)
        refine ao_s (st_aload_n dX11_keep_31 rfl rfl) ?_
        refine ao_getR dX11_keep_32 fl_X11_45 rfl e21 (fun b29 => ?_)
        refine ao_chk (fun e30 => ?_)
        refine ao_getR dX11_keep_35 fl_X11_119 rfl e30 (fun b31 => ?_)
        refine ao_s (st_aload_n dX11_keep_38 rfl rfl) ?_
        refine ao_cVq (Kc := kX11_ruleInForce) (As := []) (st := [.ref b31, .ref b28]) dX11_keep_39 ml_X11_198 mv_X11_ruleInForce rfl e21 (by decide) rfl rfl (Nat.le_of_ble_eq_true rfl) (by decide) (s_X11_ruleInForce h27 a0) (fun r32 h33 => ?_)
        refine ao_s (st_iload_n dX11_keep_42 rfl rfl) ?_
        refine ao_s (st_iload_n dX11_keep_43 rfl rfl) ?_
        refine ao_chk (fun e34 => ?_)
        refine ao_cVi (Kc := kX1_leastGift) (As := [.ref b31, va_rf r32, .int x1, .int x2]) (st := []) dX11_keep_44 ml_X11_279 mv_X1_leastGift rfl e34 (by decide) rfl rfl (Nat.le_of_ble_eq_true rfl) (by decide) (s_X1_leastGift h33 b28 b31 r32 x1 x2) (fun r35 h36 => ?_)
        exact ao_ir dX11_keep_47 rfl rfl
      · refine ao_s (st_iconst dX11_keep_25 ic_m1) ?_
        exact ao_ir dX11_keep_26 rfl rfl
def b_X11_note_53 (h : aH) (a0 : Nat) (x1 : Int32) (x2 : Int32) (x3 : Int32) (s0 : Int32) : Option (Int32 × aH) :=
(if s0 = 0 then
some ((-2), h)
else
(if x1 < 0 then
some ((-2), h)
else
(if 30 < x1 then
some ((-2), h)
else
(if (sh a0).1 = 18 then
((hR h a0 5).bind fun b22 =>
(if (sh b22).1 = 17 then
(if hI h b22 5 < 10 then
((hR h a0 5).bind fun b24 =>
(if (sh b24).1 = 17 then
(aBind (f_X10_addNote h b24 x1 x2 x3) fun r26 h27 =>
((hR h27 a0 5).bind fun b28 =>
(if (sh b28).1 = 17 then
some (hI h27 b28 5, h27)
else none)))
else none))
else
some ((-2), h))
else none))
else none))))
set_option maxHeartbeats 2000000 in
theorem t_X11_note_53 (h : aH) (a0 : Nat) (x1 : Int32) (x2 : Int32) (x3 : Int32) (s0 : Int32) : AO eI 3 kX11_note 53 [some (.ref a0), some (.int x1), some (.int x2), some (.int x3), none] [.int s0] h (b_X11_note_53 h a0 x1 x2 x3 s0) := by
  unfold b_X11_note_53
  refine ao_s (st_istore (lv' := [some (.ref a0), some (.int x1), some (.int x2), some (.int x3), some (.int s0)]) dX11_note_53 (by decide) rfl) ?_
  refine ao_s (st_iload dX11_note_55 rfl) ?_
  refine ao_br (br_if_eq (tgt := 82) dX11_note_57 (by decide)) (fun c33 => ?_) (fun c33 => ?_)
  · refine ao_s (st_bipush dX11_note_82 bp_m2) ?_
    exact ao_ir dX11_note_84 rfl rfl
  · refine ao_s (st_iload_n dX11_note_60 rfl rfl) ?_
    refine ao_br (br_if_lt (tgt := 82) dX11_note_61 (by decide)) (fun c32 => ?_) (fun c32 => ?_)
    · refine ao_s (st_bipush dX11_note_82 bp_m2) ?_
      exact ao_ir dX11_note_84 rfl rfl
    · refine ao_s (st_iload_n dX11_note_64 rfl rfl) ?_
      refine ao_s (st_bipush dX11_note_65 bp_30) ?_
      refine ao_br (br_icmp_gt (tgt := 82) dX11_note_67 (by decide)) (fun c31 => ?_) (fun c31 => ?_)
      · refine ao_s (st_bipush dX11_note_82 bp_m2) ?_
        exact ao_ir dX11_note_84 rfl rfl
      · refine ao_s (st_aload_n dX11_note_70 rfl rfl) ?_
        refine ao_chk (fun e21 => ?_)
        refine ao_getR dX11_note_71 fl_X11_45 rfl e21 (fun b22 => ?_)
        refine ao_chk (fun e23 => ?_)
        refine ao_getI dX11_note_74 fl_X11_122 rfl e23 ?_
        refine ao_s (st_bipush dX11_note_77 bp_10) ?_
        refine ao_br (br_icmp_lt (tgt := 85) dX11_note_79 (by decide)) (fun c30 => ?_) (fun c30 => ?_)
        · refine ao_s (st_aload_n dX11_note_85 rfl rfl) ?_
          refine ao_getR dX11_note_86 fl_X11_45 rfl e21 (fun b24 => ?_)
          refine ao_s (st_iload_n dX11_note_89 rfl rfl) ?_
          refine ao_s (st_iload_n dX11_note_90 rfl rfl) ?_
          refine ao_s (st_iload_n dX11_note_91 rfl rfl) ?_
          refine ao_chk (fun e25 => ?_)
          refine ao_cVv (Kc := kX10_addNote) (As := [.int x1, .int x2, .int x3]) (st := []) dX11_note_92 ml_X11_282 mv_X10_addNote rfl e25 (by decide) rfl rfl (Nat.le_of_ble_eq_true rfl) (by decide) (s_X10_addNote h b24 x1 x2 x3) (fun r26 h27 => ?_)
          refine ao_s (st_aload_n dX11_note_95 rfl rfl) ?_
          refine ao_getR dX11_note_96 fl_X11_45 rfl e21 (fun b28 => ?_)
          refine ao_chk (fun e29 => ?_)
          refine ao_getI dX11_note_99 fl_X11_122 rfl e29 ?_
          exact ao_ir dX11_note_102 rfl rfl
        · refine ao_s (st_bipush dX11_note_82 bp_m2) ?_
          exact ao_ir dX11_note_84 rfl rfl
def b_X11_note_48 (h : aH) (a0 : Nat) (x1 : Int32) (x2 : Int32) (x3 : Int32) : Option (Int32 × aH) :=
b_X11_note_53 h a0 x1 x2 x3 1
set_option maxHeartbeats 2000000 in
theorem t_X11_note_48 (h : aH) (a0 : Nat) (x1 : Int32) (x2 : Int32) (x3 : Int32) : AO eI 3 kX11_note 48 [some (.ref a0), some (.int x1), some (.int x2), some (.int x3), none] [] h (b_X11_note_48 h a0 x1 x2 x3) := by
  unfold b_X11_note_48
  refine ao_s (st_iconst dX11_note_48 ic_1) ?_
  refine ao_s (st_goto 53 dX11_note_49 (by decide)) ?_
  exact ao_w (sb_s (sb_s (sb_s (sb_s (sb_n sb_0))))) (t_X11_note_53 h a0 x1 x2 x3 1)
def b_X11_note_52 (h : aH) (a0 : Nat) (x1 : Int32) (x2 : Int32) (x3 : Int32) : Option (Int32 × aH) :=
b_X11_note_53 h a0 x1 x2 x3 0
set_option maxHeartbeats 2000000 in
theorem t_X11_note_52 (h : aH) (a0 : Nat) (x1 : Int32) (x2 : Int32) (x3 : Int32) : AO eI 3 kX11_note 52 [some (.ref a0), some (.int x1), some (.int x2), some (.int x3), none] [] h (b_X11_note_52 h a0 x1 x2 x3) := by
  unfold b_X11_note_52
  refine ao_s (st_iconst dX11_note_52 ic_0) ?_
  exact ao_w (sb_s (sb_s (sb_s (sb_s (sb_n sb_0))))) (t_X11_note_53 h a0 x1 x2 x3 0)
def f_X11_note (h : aH) (a0 : Nat) (x1 : Int32) (x2 : Int32) (x3 : Int32) : Option (Int32 × aH) :=
(if x1 = (-1) then
(if (sh a0).1 = 18 then
((hR h a0 5).bind fun b22 =>
(if (sh b22).1 = 17 then
(aLet (pI h b22 5 0) fun h24 =>
some (0, h24))
else none))
else none)
else
(if (sh a0).1 = 18 then
((hR h a0 5).bind fun b26 =>
(if (sh b26).1 = 17 then
((hR h b26 1).bind fun b28 =>
(if (sh b28).1 = 15 then
(aBind (f_X8_hasEast h b28 x2) fun r30 h31 =>
(if r30 = 0 then
b_X11_note_52 h31 a0 x1 x2 x3
else
(if x3 = (-1) then
b_X11_note_48 h31 a0 x1 x2 x3
else
((hR h31 a0 5).bind fun b32 =>
(if (sh b32).1 = 17 then
((hR h31 b32 1).bind fun b34 =>
(if (sh b34).1 = 15 then
(aBind (f_X8_hasWest h31 b34 x3) fun r36 h37 =>
(if r36 = 0 then
b_X11_note_52 h37 a0 x1 x2 x3
else
b_X11_note_48 h37 a0 x1 x2 x3))
else none))
else none)))))
else none))
else none))
else none))
set_option maxHeartbeats 2000000 in
theorem s_X11_note (h : aH) (a0 : Nat) (x1 : Int32) (x2 : Int32) (x3 : Int32) : SO eI 3 kX11_note [.ref a0, .int x1, .int x2, .int x3] h (f_X11_note h a0 x1 x2 x3) := by
  refine so_of (lv0 := [some (.ref a0), some (.int x1), some (.int x2), some (.int x3), none]) pn_X11 (Nat.le_of_ble_eq_true rfl) rfl ?_
  unfold f_X11_note
  refine ao_s (st_iload_n dX11_note_0 rfl rfl) ?_
  refine ao_s (st_iconst dX11_note_1 ic_m1) ?_
  refine ao_br (br_icmp_ne (tgt := 15) dX11_note_2 (by decide)) (fun c41 => ?_) (fun c41 => ?_)
  · refine ao_s (st_aload_n dX11_note_5 rfl rfl) ?_
    refine ao_chk (fun e21 => ?_)
    refine ao_getR dX11_note_6 fl_X11_45 rfl e21 (fun b22 => ?_)
    refine ao_s (st_iconst dX11_note_9 ic_0) ?_
    refine ao_chk (fun e23 => ?_)
    refine ao_putI dX11_note_10 fl_X11_122 rfl rfl rfl rfl e23 ?_
    refine ao_letH (fun h24 => ?_)
    refine ao_s (st_iconst dX11_note_13 ic_0) ?_
    exact ao_ir dX11_note_14 rfl rfl
  · refine ao_s (st_aload_n dX11_note_15 rfl rfl) ?_
    refine ao_chk (fun e25 => ?_)
    refine ao_getR dX11_note_16 fl_X11_45 rfl e25 (fun b26 => ?_)
    refine ao_chk (fun e27 => ?_)
    refine ao_getR dX11_note_19 fl_X11_119 rfl e27 (fun b28 => ?_)
    refine ao_s (st_iload_n dX11_note_22 rfl rfl) ?_
    refine ao_chk (fun e29 => ?_)
    refine ao_cVi (Kc := kX8_hasEast) (As := [.int x2]) (st := []) dX11_note_23 ml_X11_142 mv_X8_hasEast rfl e29 (by decide) rfl rfl (Nat.le_of_ble_eq_true rfl) (by decide) (s_X8_hasEast h b28 x2) (fun r30 h31 => ?_)
    refine ao_br (br_if_eq (tgt := 52) dX11_note_26 (by decide)) (fun c40 => ?_) (fun c40 => ?_)
    · exact ao_w (sb_s (sb_s (sb_s (sb_s (sb_n sb_0))))) (t_X11_note_52 h31 a0 x1 x2 x3)
    · refine ao_s (st_iload_n dX11_note_29 rfl rfl) ?_
      refine ao_s (st_iconst dX11_note_30 ic_m1) ?_
      refine ao_br (br_icmp_eq (tgt := 48) dX11_note_31 (by decide)) (fun c39 => ?_) (fun c39 => ?_)
      · exact ao_w (sb_s (sb_s (sb_s (sb_s (sb_n sb_0))))) (t_X11_note_48 h31 a0 x1 x2 x3)
      · refine ao_s (st_aload_n dX11_note_34 rfl rfl) ?_
        refine ao_getR dX11_note_35 fl_X11_45 rfl e25 (fun b32 => ?_)
        refine ao_chk (fun e33 => ?_)
        refine ao_getR dX11_note_38 fl_X11_119 rfl e33 (fun b34 => ?_)
        refine ao_s (st_iload_n dX11_note_41 rfl rfl) ?_
        refine ao_chk (fun e35 => ?_)
        refine ao_cVi (Kc := kX8_hasWest) (As := [.int x3]) (st := []) dX11_note_42 ml_X11_149 mv_X8_hasWest rfl e35 (by decide) rfl rfl (Nat.le_of_ble_eq_true rfl) (by decide) (s_X8_hasWest h31 b34 x3) (fun r36 h37 => ?_)
        refine ao_br (br_if_eq (tgt := 52) dX11_note_45 (by decide)) (fun c38 => ?_) (fun c38 => ?_)
        · exact ao_w (sb_s (sb_s (sb_s (sb_s (sb_n sb_0))))) (t_X11_note_52 h37 a0 x1 x2 x3)
        · exact ao_w (sb_s (sb_s (sb_s (sb_s (sb_n sb_0))))) (t_X11_note_48 h37 a0 x1 x2 x3)
def b_X11_ruled_70 (k38 : aH → Nat → Int32 → Int32 → Int32 → Int32 → Option (Int32 × aH)) (h : aH) (a0 : Nat) (x1 : Int32) (x2 : Int32) (x3 : Int32) (x4 : Int32) : Option (Int32 × aH) :=
k38 h a0 x1 x2 x3 (x4 + (-1))
set_option maxHeartbeats 2000000 in
theorem t_X11_ruled_70 {k38 : aH → Nat → Int32 → Int32 → Int32 → Int32 → Option (Int32 × aH)} (hk38 : ∀ (h : aH) (a0 : Nat) (x1 : Int32) (x2 : Int32) (x3 : Int32) (x4 : Int32), AO eI 9 kX11_ruled 38 [some (.ref a0), some (.int x1), some (.int x2), some (.int x3), some (.int x4)] [] h (k38 h a0 x1 x2 x3 x4)) (h : aH) (a0 : Nat) (x1 : Int32) (x2 : Int32) (x3 : Int32) (x4 : Int32) : AO eI 9 kX11_ruled 70 [some (.ref a0), some (.int x1), some (.int x2), some (.int x3), some (.int x4)] [] h (b_X11_ruled_70 k38 h a0 x1 x2 x3 x4) := by
  unfold b_X11_ruled_70
  refine ao_s (st_iinc (lv' := [some (.ref a0), some (.int x1), some (.int x2), some (.int x3), some (.int (x4 + (-1)))]) dX11_ruled_70 rfl nc_m1 (by decide) rfl) ?_
  refine ao_s (st_goto 38 dX11_ruled_73 (by decide)) ?_
  exact ao_w (sb_s (sb_s (sb_s (sb_s (sb_s sb_0))))) (hk38 h a0 x1 x2 x3 (x4 + (-1)))
def b_X11_ruled_38 (k38 : aH → Nat → Int32 → Int32 → Int32 → Int32 → Option (Int32 × aH)) (h : aH) (a0 : Nat) (x1 : Int32) (x2 : Int32) (x3 : Int32) (x4 : Int32) : Option (Int32 × aH) :=
(if x4 < (-1) then
(if x1 = 0 then
some (x2, h)
else
some (x3, h))
else
(if (sh a0).1 = 18 then
((hR h a0 14).bind fun b23 =>
((hR h a0 5).bind fun b24 =>
(aBind (f_X11_ruleOf h a0 x4) fun r25 h26 =>
(if (sh b23).1 = 11 then
(aBind (f_X4_fits h26 b23 b24 r25) fun r28 h29 =>
(if r28 = 0 then
b_X11_ruled_70 k38 h29 a0 x1 x2 x3 x4
else
b_X11_ruled_70 k38 h29 a0 x1 (x2 + 1) x4 x4))
else none))))
else none))
set_option maxHeartbeats 2000000 in
theorem t_X11_ruled_38 {k38 : aH → Nat → Int32 → Int32 → Int32 → Int32 → Option (Int32 × aH)} (hk38 : ∀ (h : aH) (a0 : Nat) (x1 : Int32) (x2 : Int32) (x3 : Int32) (x4 : Int32), AO eI 9 kX11_ruled 38 [some (.ref a0), some (.int x1), some (.int x2), some (.int x3), some (.int x4)] [] h (k38 h a0 x1 x2 x3 x4)) (h : aH) (a0 : Nat) (x1 : Int32) (x2 : Int32) (x3 : Int32) (x4 : Int32) : AO eI 9 kX11_ruled 38 [some (.ref a0), some (.int x1), some (.int x2), some (.int x3), some (.int x4)] [] h (b_X11_ruled_38 k38 h a0 x1 x2 x3 x4) := by
  unfold b_X11_ruled_38
  refine ao_s (st_iload dX11_ruled_38 rfl) ?_
  refine ao_s (st_iconst dX11_ruled_40 ic_m1) ?_
  refine ao_br (br_icmp_lt (tgt := 76) dX11_ruled_41 (by decide)) (fun c31 => ?_) (fun c31 => ?_)
  · refine ao_s (st_iload_n dX11_ruled_76 rfl rfl) ?_
    refine ao_br (br_if_ne (tgt := 84) dX11_ruled_77 (by decide)) (fun c21 => ?_) (fun c21 => ?_)
    · refine ao_s (st_iload_n dX11_ruled_80 rfl rfl) ?_
      refine ao_s (st_goto 85 dX11_ruled_81 (by decide)) ?_
      exact ao_ir dX11_ruled_85 rfl rfl
    · refine ao_s (st_iload_n dX11_ruled_84 rfl rfl) ?_
      exact ao_ir dX11_ruled_85 rfl rfl
  · refine ao_s (st_aload_n dX11_ruled_44 rfl rfl) ?_
    refine ao_chk (fun e22 => ?_)
    refine ao_getR dX11_ruled_45 fl_X11_96 rfl e22 (fun b23 => ?_)
    refine ao_s (st_aload_n dX11_ruled_48 rfl rfl) ?_
    refine ao_getR dX11_ruled_49 fl_X11_45 rfl e22 (fun b24 => ?_)
    refine ao_s (st_aload_n dX11_ruled_52 rfl rfl) ?_
    refine ao_s (st_iload dX11_ruled_53 rfl) ?_
    refine ao_cVq (Kc := kX11_ruleOf) (As := [.int x4]) (st := [.ref b24, .ref b23]) dX11_ruled_55 ml_X11_138 mv_X11_ruleOf rfl e22 (by decide) rfl rfl (Nat.le_of_ble_eq_true rfl) (by decide) (s_X11_ruleOf h a0 x4) (fun r25 h26 => ?_)
    refine ao_chk (fun e27 => ?_)
    refine ao_cVi (Kc := kX4_fits) (As := [.ref b24, va_rf r25]) (st := []) dX11_ruled_58 ml_X11_286 mv_X4_fits rfl e27 (by decide) rfl rfl (Nat.le_of_ble_eq_true rfl) (by decide) (s_X4_fits h26 b23 b24 r25) (fun r28 h29 => ?_)
    refine ao_br (br_if_eq (tgt := 70) dX11_ruled_61 (by decide)) (fun c30 => ?_) (fun c30 => ?_)
    · exact ao_w (sb_s (sb_s (sb_s (sb_s (sb_s sb_0))))) (t_X11_ruled_70 hk38 h29 a0 x1 x2 x3 x4)
    · refine ao_s (st_iinc (lv' := [some (.ref a0), some (.int x1), some (.int (x2 + 1)), some (.int x3), some (.int x4)]) dX11_ruled_64 rfl nc_1 (by decide) rfl) ?_
      refine ao_s (st_iload dX11_ruled_67 rfl) ?_
      refine ao_s (st_istore_n (lv' := [some (.ref a0), some (.int x1), some (.int (x2 + 1)), some (.int x4), some (.int x4)]) dX11_ruled_69 rfl (by decide) rfl) ?_
      exact ao_w (sb_s (sb_s (sb_s (sb_s (sb_s sb_0))))) (t_X11_ruled_70 hk38 h29 a0 x1 (x2 + 1) x4 x4)
def f_X11_ruled_38 (n : Nat) : aH → Nat → Int32 → Int32 → Int32 → Int32 → Option (Int32 × aH) := aIt (fun _ _ _ _ _ _ => none) (fun k => b_X11_ruled_38 k) n
theorem l_X11_ruled_38 (n : Nat) : ∀ (h : aH) (a0 : Nat) (x1 : Int32) (x2 : Int32) (x3 : Int32) (x4 : Int32), AO eI 9 kX11_ruled 38 [some (.ref a0), some (.int x1), some (.int x2), some (.int x3), some (.int x4)] [] h (f_X11_ruled_38 n h a0 x1 x2 x3 x4) := by
  induction n with
  | zero => intros; exact ao_none
  | succ n ih =>
    intro h a0 x1 x2 x3 x4
    exact t_X11_ruled_38 ih h a0 x1 x2 x3 x4
def f_X11_ruled (h : aH) (a0 : Nat) (x1 : Int32) : Option (Int32 × aH) :=
(if (sh a0).1 = 18 then
((hR h a0 5).bind fun b22 =>
(if (sh b22).1 = 17 then
((hR h b22 1).bind fun b24 =>
(if (sh b24).1 = 15 then
(if hI h b24 0 = 0 then
some ((-3), h)
else
(if x1 < 0 then
some ((-3), h)
else
(if x1 ≤ 1 then
(aLet ((hI h a0 4) - 1) fun x26 =>
f_X11_ruled_38 2000 h a0 x1 0 (-2) x26)
else
some ((-3), h))))
else none))
else none))
else none)
set_option maxHeartbeats 2000000 in
theorem s_X11_ruled (h : aH) (a0 : Nat) (x1 : Int32) : SO eI 9 kX11_ruled [.ref a0, .int x1] h (f_X11_ruled h a0 x1) := by
  refine so_of (lv0 := [some (.ref a0), some (.int x1), none, none, none]) pn_X11 (Nat.le_of_ble_eq_true rfl) rfl ?_
  unfold f_X11_ruled
  refine ao_s (st_aload_n dX11_ruled_0 rfl rfl) ?_
  refine ao_chk (fun e21 => ?_)
  refine ao_getR dX11_ruled_1 fl_X11_45 rfl e21 (fun b22 => ?_)
  refine ao_chk (fun e23 => ?_)
  refine ao_getR dX11_ruled_4 fl_X11_119 rfl e23 (fun b24 => ?_)
  refine ao_chk (fun e25 => ?_)
  refine ao_getI dX11_ruled_7 fl_X11_191 rfl e25 ?_
  refine ao_br (br_if_eq (tgt := 22) dX11_ruled_10 (by decide)) (fun c29 => ?_) (fun c29 => ?_)
  · refine ao_s (st_bipush dX11_ruled_22 bp_m3) ?_
    exact ao_ir dX11_ruled_24 rfl rfl
  · refine ao_s (st_iload_n dX11_ruled_13 rfl rfl) ?_
    refine ao_br (br_if_lt (tgt := 22) dX11_ruled_14 (by decide)) (fun c28 => ?_) (fun c28 => ?_)
    · refine ao_s (st_bipush dX11_ruled_22 bp_m3) ?_
      exact ao_ir dX11_ruled_24 rfl rfl
    · refine ao_s (st_iload_n dX11_ruled_17 rfl rfl) ?_
      refine ao_s (st_iconst dX11_ruled_18 ic_1) ?_
      refine ao_br (br_icmp_le (tgt := 25) dX11_ruled_19 (by decide)) (fun c27 => ?_) (fun c27 => ?_)
      · refine ao_s (st_iconst dX11_ruled_25 ic_0) ?_
        refine ao_s (st_istore_n (lv' := [some (.ref a0), some (.int x1), some (.int 0), none, none]) dX11_ruled_26 rfl (by decide) rfl) ?_
        refine ao_s (st_bipush dX11_ruled_27 bp_m2) ?_
        refine ao_s (st_istore_n (lv' := [some (.ref a0), some (.int x1), some (.int 0), some (.int (-2)), none]) dX11_ruled_29 rfl (by decide) rfl) ?_
        refine ao_s (st_aload_n dX11_ruled_30 rfl rfl) ?_
        refine ao_getI dX11_ruled_31 fl_X11_38 rfl e21 ?_
        refine ao_s (st_iconst dX11_ruled_34 ic_1) ?_
        refine ao_s (st_isub dX11_ruled_35) ?_
        refine ao_letI (fun x26 => ?_)
        refine ao_s (st_istore (lv' := [some (.ref a0), some (.int x1), some (.int 0), some (.int (-2)), some (.int x26)]) dX11_ruled_36 (by decide) rfl) ?_
        exact ao_w (sb_s (sb_s (sb_s (sb_s (sb_s sb_0))))) (l_X11_ruled_38 2000 h a0 x1 0 (-2) x26)
      · refine ao_s (st_bipush dX11_ruled_22 bp_m3) ?_
        exact ao_ir dX11_ruled_24 rfl rfl
