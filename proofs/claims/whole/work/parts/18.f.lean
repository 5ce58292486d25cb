def f_X9_rewind (h : aH) (a0 : Nat) : Option (Unit × aH) :=
(if (sh a0).1 = 16 then
(aLet (pI h a0 2 0) fun h22 =>
(aLet (pI h22 a0 3 0) fun h23 =>
some ((), h23)))
else none)
set_option maxHeartbeats 2000000 in
theorem s_X9_rewind (h : aH) (a0 : Nat) : SO eV 2 kX9_rewind [.ref a0] h (f_X9_rewind h a0) := by
  refine so_of (lv0 := [some (.ref a0)]) pn_X9 (Nat.le_of_ble_eq_true rfl) rfl ?_
  unfold f_X9_rewind
  refine ao_s (st_aload_n dX9_rewind_0 rfl rfl) ?_
  refine ao_s (st_iconst dX9_rewind_1 ic_0) ?_
  refine ao_chk (fun e21 => ?_)
  refine ao_putI dX9_rewind_2 fl_X9_19 rfl rfl rfl rfl e21 ?_
  refine ao_letH (fun h22 => ?_)
  refine ao_s (st_aload_n dX9_rewind_5 rfl rfl) ?_
  refine ao_s (st_iconst dX9_rewind_6 ic_0) ?_
  refine ao_putI dX9_rewind_7 fl_X9_22 rfl rfl rfl rfl e21 ?_
  refine ao_letH (fun h23 => ?_)
  exact ao_vr dX9_rewind_10 rfl
def f_X9_takeSign (h : aH) (a0 : Nat) (x1 : Int32) : Option (Int32 × aH) :=
(if (sh a0).1 = 16 then
(aBind (f_X9_next h a0) fun r22 h23 =>
(if r22 = x1 then
(aLet (pI h23 a0 2 ((hI h23 a0 2) + 1)) fun h24 =>
some (1, h24))
else
some (0, h23)))
else none)
set_option maxHeartbeats 2000000 in
theorem s_X9_takeSign (h : aH) (a0 : Nat) (x1 : Int32) : SO eI 4 kX9_takeSign [.ref a0, .int x1] h (f_X9_takeSign h a0 x1) := by
  refine so_of (lv0 := [some (.ref a0), some (.int x1)]) pn_X9 (Nat.le_of_ble_eq_true rfl) rfl ?_
  unfold f_X9_takeSign
  refine ao_s (st_aload_n dX9_takeSign_0 rfl rfl) ?_
  refine ao_chk (fun e21 => ?_)
  refine ao_cVi (Kc := kX9_next) (As := []) (st := []) dX9_takeSign_1 ml_X9_33 mv_X9_next rfl e21 (by decide) rfl rfl (Nat.le_of_ble_eq_true rfl) (by decide) (s_X9_next h a0) (fun r22 h23 => ?_)
  refine ao_s (st_iload_n dX9_takeSign_4 rfl rfl) ?_
  refine ao_br (br_icmp_eq (tgt := 10) dX9_takeSign_5 (by decide)) (fun c25 => ?_) (fun c25 => ?_)
  · refine ao_s (st_aload_n dX9_takeSign_10 rfl rfl) ?_
    refine ao_s (st_dup dX9_takeSign_11 rfl) ?_
    refine ao_getI dX9_takeSign_12 fl_X9_19 rfl e21 ?_
    refine ao_s (st_iconst dX9_takeSign_15 ic_1) ?_
    refine ao_s (st_iadd dX9_takeSign_16) ?_
    refine ao_putI dX9_takeSign_17 fl_X9_19 rfl rfl rfl rfl e21 ?_
    refine ao_letH (fun h24 => ?_)
    refine ao_s (st_iconst dX9_takeSign_20 ic_1) ?_
    exact ao_ir dX9_takeSign_21 rfl (by decide)
  · refine ao_s (st_iconst dX9_takeSign_8 ic_0) ?_
    exact ao_ir dX9_takeSign_9 rfl (by decide)
def b_X2_readInto_58 (k15 : aH → Nat → Nat → Int32 → Int32 → Option (Int32 × aH)) (h : aH) (a0 : Nat) (a1 : Nat) (x3 : Int32) (s0 : Int32) : Option (Int32 × aH) :=
k15 h a0 a1 s0 (x3 + 1)
set_option maxHeartbeats 2000000 in
theorem t_X2_readInto_58 {k15 : aH → Nat → Nat → Int32 → Int32 → Option (Int32 × aH)} (hk15 : ∀ (h : aH) (a0 : Nat) (a1 : Nat) (x2 : Int32) (x3 : Int32), AO eI 8 kX2_readInto 15 [some (.ref a0), some (.ref a1), some (.int x2), some (.int x3)] [] h (k15 h a0 a1 x2 x3)) (h : aH) (a0 : Nat) (a1 : Nat) (x3 : Int32) (s0 : Int32) : AO eI 8 kX2_readInto 58 [some (.ref a0), some (.ref a1), none, some (.int x3)] [.int s0] h (b_X2_readInto_58 k15 h a0 a1 x3 s0) := by
  unfold b_X2_readInto_58
  refine ao_s (st_istore_n (lv' := [some (.ref a0), some (.ref a1), some (.int s0), some (.int x3)]) dX2_readInto_58 rfl (by decide) rfl) ?_
  refine ao_s (st_iinc (lv' := [some (.ref a0), some (.ref a1), some (.int s0), some (.int (x3 + 1))]) dX2_readInto_59 rfl nc_1 (by decide) rfl) ?_
  refine ao_s (st_goto 15 dX2_readInto_62 (by decide)) ?_
  exact ao_w (sb_s (sb_s (sb_s (sb_s sb_0)))) (hk15 h a0 a1 s0 (x3 + 1))
def b_X2_readInto_57 (k15 : aH → Nat → Nat → Int32 → Int32 → Option (Int32 × aH)) (h : aH) (a0 : Nat) (a1 : Nat) (x3 : Int32) : Option (Int32 × aH) :=
b_X2_readInto_58 k15 h a0 a1 x3 0
set_option maxHeartbeats 2000000 in
theorem t_X2_readInto_57 {k15 : aH → Nat → Nat → Int32 → Int32 → Option (Int32 × aH)} (hk15 : ∀ (h : aH) (a0 : Nat) (a1 : Nat) (x2 : Int32) (x3 : Int32), AO eI 8 kX2_readInto 15 [some (.ref a0), some (.ref a1), some (.int x2), some (.int x3)] [] h (k15 h a0 a1 x2 x3)) (h : aH) (a0 : Nat) (a1 : Nat) (x3 : Int32) : AO eI 8 kX2_readInto 57 [some (.ref a0), some (.ref a1), none, some (.int x3)] [] h (b_X2_readInto_57 k15 h a0 a1 x3) := by
  unfold b_X2_readInto_57
  refine ao_s (st_iconst dX2_readInto_57 ic_0) ?_
  exact ao_w (sb_s (sb_s (sb_n (sb_s sb_0)))) (t_X2_readInto_58 hk15 h a0 a1 x3 0)
def b_X2_readInto_91 (h : aH) (a0 : Nat) (a1 : Nat) : Option (Int32 × aH) :=
(if (sh a1).1 = 15 then
(aLet (pI h a1 0 1) fun h22 =>
(aBind (f_X8_fillUntoldTruth h22 a1) fun r23 h24 =>
(if (sh a0).1 = 9 then
((hR h24 a0 0).bind fun b26 =>
(if (sh b26).1 = 16 then
some (hI h24 b26 3, h24)
else none))
else none)))
else none)
set_option maxHeartbeats 2000000 in
theorem t_X2_readInto_91 (h : aH) (a0 : Nat) (a1 : Nat) : AO eI 8 kX2_readInto 91 [some (.ref a0), some (.ref a1), none, none] [] h (b_X2_readInto_91 h a0 a1) := by
  unfold b_X2_readInto_91
  refine ao_s (st_aload_n dX2_readInto_91 rfl rfl) ?_
  refine ao_s (st_iconst dX2_readInto_92 ic_1) ?_
  refine ao_chk (fun e21 => ?_)
  refine ao_putI dX2_readInto_93 fl_X2_48 rfl rfl (by decide) (by decide) e21 ?_
  refine ao_letH (fun h22 => ?_)
  refine ao_s (st_aload_n dX2_readInto_96 rfl rfl) ?_
  refine ao_cVv (Kc := kX8_fillUntoldTruth) (As := []) (st := []) dX2_readInto_97 ml_X2_52 mv_X8_fillUntoldTruth rfl e21 (by decide) rfl rfl (Nat.le_of_ble_eq_true rfl) (by decide) (s_X8_fillUntoldTruth h22 a1) (fun r23 h24 => ?_)
  refine ao_s (st_aload_n dX2_readInto_100 rfl rfl) ?_
  refine ao_chk (fun e25 => ?_)
  refine ao_getR dX2_readInto_101 fl_X2_9 rfl e25 (fun b26 => ?_)
  refine ao_chk (fun e27 => ?_)
  refine ao_getI dX2_readInto_104 fl_X2_29 rfl e27 ?_
  exact ao_ir dX2_readInto_107 rfl rfl
def b_X2_readInto_65 (h : aH) (a0 : Nat) (a1 : Nat) : Option (Int32 × aH) :=
(if (sh a0).1 = 9 then
((hR h a0 0).bind fun b22 =>
(if (sh b22).1 = 16 then
(aBind (f_X9_next h b22) fun r24 h25 =>
(if r24 = (-1) then
b_X2_readInto_91 h25 a0 a1
else
((hR h25 a0 0).bind fun b26 =>
((hR h25 a0 0).bind fun b27 =>
(if (sh b27).1 = 16 then
(if (sh b26).1 = 16 then
(aBind (f_X9_blame h25 b26 (hI h25 b27 2) 0) fun r30 h31 =>
b_X2_readInto_91 h31 a0 a1)
else none)
else none)))))
else none))
else none)
set_option maxHeartbeats 2000000 in
theorem t_X2_readInto_65 (h : aH) (a0 : Nat) (a1 : Nat) : AO eI 8 kX2_readInto 65 [some (.ref a0), some (.ref a1), none, none] [] h (b_X2_readInto_65 h a0 a1) := by
  unfold b_X2_readInto_65
  refine ao_s (st_aload_n dX2_readInto_65 rfl rfl) ?_
  refine ao_chk (fun e21 => ?_)
  refine ao_getR dX2_readInto_66 fl_X2_9 rfl e21 (fun b22 => ?_)
  refine ao_chk (fun e23 => ?_)
  refine ao_cVi (Kc := kX9_next) (As := []) (st := []) dX2_readInto_69 ml_X2_37 mv_X9_next rfl e23 (by decide) rfl rfl (Nat.le_of_ble_eq_true rfl) (by decide) (s_X9_next h b22) (fun r24 h25 => ?_)
  refine ao_s (st_iconst dX2_readInto_72 ic_m1) ?_
  refine ao_br (br_icmp_eq (tgt := 91) dX2_readInto_73 (by decide)) (fun c32 => ?_) (fun c32 => ?_)
  · exact ao_w (sb_s (sb_s (sb_n (sb_n sb_0)))) (t_X2_readInto_91 h25 a0 a1)
  · refine ao_s (st_aload_n dX2_readInto_76 rfl rfl) ?_
    refine ao_getR dX2_readInto_77 fl_X2_9 rfl e21 (fun b26 => ?_)
    refine ao_s (st_aload_n dX2_readInto_80 rfl rfl) ?_
    refine ao_getR dX2_readInto_81 fl_X2_9 rfl e21 (fun b27 => ?_)
    refine ao_chk (fun e28 => ?_)
    refine ao_getI dX2_readInto_84 fl_X2_41 rfl e28 ?_
    refine ao_s (st_iconst dX2_readInto_87 ic_0) ?_
    refine ao_chk (fun e29 => ?_)
    refine ao_cVv (Kc := kX9_blame) (As := [.int (hI h25 b27 2), .int 0]) (st := []) dX2_readInto_88 ml_X2_44 mv_X9_blame rfl e29 (by decide) rfl rfl (Nat.le_of_ble_eq_true rfl) (by decide) (s_X9_blame h25 b26 (hI h25 b27 2) 0) (fun r30 h31 => ?_)
    exact ao_w (sb_s (sb_s (sb_n (sb_n sb_0)))) (t_X2_readInto_91 h31 a0 a1)
def b_X2_readInto_15 (k15 : aH → Nat → Nat → Int32 → Int32 → Option (Int32 × aH)) (h : aH) (a0 : Nat) (a1 : Nat) (x2 : Int32) (x3 : Int32) : Option (Int32 × aH) :=
(if x2 = 0 then
b_X2_readInto_65 h a0 a1
else
(if 40 < x3 then
b_X2_readInto_65 h a0 a1
else
(if (sh a0).1 = 9 then
(aBind (f_X2_readClause h a0 a1 x3) fun r22 h23 =>
((hR h23 a0 0).bind fun b24 =>
(if (sh b24).1 = 16 then
(if hI h23 b24 3 = 0 then
((hR h23 a0 0).bind fun b26 =>
(if (sh b26).1 = 16 then
(aBind (f_X9_takeSign h23 b26 59) fun r28 h29 =>
(if r28 = 0 then
b_X2_readInto_57 k15 h29 a0 a1 x3
else
b_X2_readInto_58 k15 h29 a0 a1 x3 1))
else none))
else
b_X2_readInto_57 k15 h23 a0 a1 x3)
else none)))
else none)))
set_option maxHeartbeats 2000000 in
theorem t_X2_readInto_15 {k15 : aH → Nat → Nat → Int32 → Int32 → Option (Int32 × aH)} (hk15 : ∀ (h : aH) (a0 : Nat) (a1 : Nat) (x2 : Int32) (x3 : Int32), AO eI 8 kX2_readInto 15 [some (.ref a0), some (.ref a1), some (.int x2), some (.int x3)] [] h (k15 h a0 a1 x2 x3)) (h : aH) (a0 : Nat) (a1 : Nat) (x2 : Int32) (x3 : Int32) : AO eI 8 kX2_readInto 15 [some (.ref a0), some (.ref a1), some (.int x2), some (.int x3)] [] h (b_X2_readInto_15 k15 h a0 a1 x2 x3) := by
  unfold b_X2_readInto_15
  refine ao_s (st_iload_n dX2_readInto_15 rfl rfl) ?_
  refine ao_br (br_if_eq (tgt := 65) dX2_readInto_16 (by decide)) (fun c33 => ?_) (fun c33 => ?_)
  · exact ao_w (sb_s (sb_s (sb_n (sb_n sb_0)))) (t_X2_readInto_65 h a0 a1)
  · refine ao_s (st_iload_n dX2_readInto_19 rfl rfl) ?_
    refine ao_s (st_bipush dX2_readInto_20 bp_40) ?_
    refine ao_br (br_icmp_gt (tgt := 65) dX2_readInto_22 (by decide)) (fun c32 => ?_) (fun c32 => ?_)
    · exact ao_w (sb_s (sb_s (sb_n (sb_n sb_0)))) (t_X2_readInto_65 h a0 a1)
    · refine ao_s (st_aload_n dX2_readInto_25 rfl rfl) ?_
      refine ao_s (st_aload_n dX2_readInto_26 rfl rfl) ?_
      refine ao_s (st_iload_n dX2_readInto_27 rfl rfl) ?_
      refine ao_chk (fun e21 => ?_)
      refine ao_cVv (Kc := kX2_readClause) (As := [.ref a1, .int x3]) (st := []) dX2_readInto_28 ml_X2_25 mv_X2_readClause rfl e21 (by decide) rfl rfl (Nat.le_of_ble_eq_true rfl) (by decide) (s_X2_readClause h a0 a1 x3) (fun r22 h23 => ?_)
      refine ao_s (st_aload_n dX2_readInto_31 rfl rfl) ?_
      refine ao_getR dX2_readInto_32 fl_X2_9 rfl e21 (fun b24 => ?_)
      refine ao_chk (fun e25 => ?_)
      refine ao_getI dX2_readInto_35 fl_X2_29 rfl e25 ?_
      refine ao_br (br_if_ne (tgt := 57) dX2_readInto_38 (by decide)) (fun c31 => ?_) (fun c31 => ?_)
      · refine ao_s (st_aload_n dX2_readInto_41 rfl rfl) ?_
        refine ao_getR dX2_readInto_42 fl_X2_9 rfl e21 (fun b26 => ?_)
        refine ao_s (st_bipush dX2_readInto_45 bp_59) ?_
        refine ao_chk (fun e27 => ?_)
        refine ao_cVi (Kc := kX9_takeSign) (As := [.int 59]) (st := []) dX2_readInto_47 ml_X2_33 mv_X9_takeSign rfl e27 (by decide) rfl rfl (Nat.le_of_ble_eq_true rfl) (by decide) (s_X9_takeSign h23 b26 59) (fun r28 h29 => ?_)
        refine ao_br (br_if_eq (tgt := 57) dX2_readInto_50 (by decide)) (fun c30 => ?_) (fun c30 => ?_)
        · exact ao_w (sb_s (sb_s (sb_n (sb_s sb_0)))) (t_X2_readInto_57 hk15 h29 a0 a1 x3)
        · refine ao_s (st_iconst dX2_readInto_53 ic_1) ?_
          refine ao_s (st_goto 58 dX2_readInto_54 (by decide)) ?_
          exact ao_w (sb_s (sb_s (sb_n (sb_s sb_0)))) (t_X2_readInto_58 hk15 h29 a0 a1 x3 1)
      · exact ao_w (sb_s (sb_s (sb_n (sb_s sb_0)))) (t_X2_readInto_57 hk15 h23 a0 a1 x3)
def f_X2_readInto_15 (n : Nat) : aH → Nat → Nat → Int32 → Int32 → Option (Int32 × aH) := aIt (fun _ _ _ _ _ => none) (fun k => b_X2_readInto_15 k) n
theorem l_X2_readInto_15 (n : Nat) : ∀ (h : aH) (a0 : Nat) (a1 : Nat) (x2 : Int32) (x3 : Int32), AO eI 8 kX2_readInto 15 [some (.ref a0), some (.ref a1), some (.int x2), some (.int x3)] [] h (f_X2_readInto_15 n h a0 a1 x2 x3) := by
  induction n with
  | zero => intros; exact ao_none
  | succ n ih =>
    intro h a0 a1 x2 x3
    exact t_X2_readInto_15 ih h a0 a1 x2 x3
def f_X2_readInto (h : aH) (a0 : Nat) (a1 : Nat) : Option (Int32 × aH) :=
(if (sh a1).1 = 15 then
(aBind (f_X8_clear h a1) fun r22 h23 =>
(if (sh a0).1 = 9 then
((hR h23 a0 0).bind fun b25 =>
(if (sh b25).1 = 16 then
(aBind (f_X9_rewind h23 b25) fun r27 h28 =>
f_X2_readInto_15 2000 h28 a0 a1 1 0)
else none))
else none))
else none)
set_option maxHeartbeats 2000000 in
theorem s_X2_readInto (h : aH) (a0 : Nat) (a1 : Nat) : SO eI 8 kX2_readInto [.ref a0, .ref a1] h (f_X2_readInto h a0 a1) := by
  refine so_of (lv0 := [some (.ref a0), some (.ref a1), none, none]) pn_X2 (Nat.le_of_ble_eq_true rfl) rfl ?_
  unfold f_X2_readInto
  refine ao_s (st_aload_n dX2_readInto_0 rfl rfl) ?_
  refine ao_chk (fun e21 => ?_)
  refine ao_cVv (Kc := kX8_clear) (As := []) (st := []) dX2_readInto_1 ml_X2_15 mv_X8_clear rfl e21 (by decide) rfl rfl (Nat.le_of_ble_eq_true rfl) (by decide) (s_X8_clear h a1) (fun r22 h23 => ?_)
  refine ao_s (st_aload_n dX2_readInto_4 rfl rfl) ?_
  refine ao_chk (fun e24 => ?_)
  refine ao_getR dX2_readInto_5 fl_X2_9 rfl e24 (fun b25 => ?_)
  refine ao_chk (fun e26 => ?_)
  refine ao_cVv (Kc := kX9_rewind) (As := []) (st := []) dX2_readInto_8 ml_X2_20 mv_X9_rewind rfl e26 (by decide) rfl rfl (Nat.le_of_ble_eq_true rfl) (by decide) (s_X9_rewind h23 b25) (fun r27 h28 => ?_)
  refine ao_s (st_iconst dX2_readInto_11 ic_1) ?_
  refine ao_s (st_istore_n (lv' := [some (.ref a0), some (.ref a1), some (.int 1), none]) dX2_readInto_12 rfl (by decide) rfl) ?_
  refine ao_s (st_iconst dX2_readInto_13 ic_0) ?_
  refine ao_s (st_istore_n (lv' := [some (.ref a0), some (.ref a1), some (.int 1), some (.int 0)]) dX2_readInto_14 rfl (by decide) rfl) ?_
  exact ao_w (sb_s (sb_s (sb_s (sb_s sb_0)))) (l_X2_readInto_15 2000 h28 a0 a1 1 0)
def b_X10_fairsToNotes_4 (k4 : aH → Nat → Int32 → Int32 → Option (Int32 × aH)) (h : aH) (a0 : Nat) (x1 : Int32) (x2 : Int32) : Option (Int32 × aH) :=
(if (sh a0).1 = 17 then
(if hI h a0 5 ≤ x2 then
some (x1, h)
else
((hR h a0 2).bind fun b22 =>
(if (sh b22).1 = 0 then
(if aIn x2 (sh b22).2 then
(aLet ((hI h b22 x2.toNatClampNeg) + 1) fun x24 =>
(aLet ((if x1 < x24 then x24 else x1)) fun x25 =>
k4 h a0 x25 (x2 + 1)))
else none)
else none)))
else none)
set_option maxHeartbeats 2000000 in
theorem t_X10_fairsToNotes_4 {k4 : aH → Nat → Int32 → Int32 → Option (Int32 × aH)} (hk4 : ∀ (h : aH) (a0 : Nat) (x1 : Int32) (x2 : Int32), AO eI 2 kX10_fairsToNotes 4 [some (.ref a0), some (.int x1), some (.int x2)] [] h (k4 h a0 x1 x2)) (h : aH) (a0 : Nat) (x1 : Int32) (x2 : Int32) : AO eI 2 kX10_fairsToNotes 4 [some (.ref a0), some (.int x1), some (.int x2)] [] h (b_X10_fairsToNotes_4 k4 h a0 x1 x2) := by
  unfold b_X10_fairsToNotes_4
  refine ao_s (st_iload_n dX10_fairsToNotes_4 rfl rfl) ?_
  refine ao_s (st_aload_n dX10_fairsToNotes_5 rfl rfl) ?_
  refine ao_chk (fun e21 => ?_)
  refine ao_getI dX10_fairsToNotes_6 fl_X10_31 rfl e21 ?_
  refine ao_br (br_icmp_ge (tgt := 31) dX10_fairsToNotes_9 (by decide)) (fun c26 => ?_) (fun c26 => ?_)
  · refine ao_s (st_iload_n dX10_fairsToNotes_31 rfl rfl) ?_
    exact ao_ir dX10_fairsToNotes_32 rfl rfl
  · refine ao_s (st_iload_n dX10_fairsToNotes_12 rfl rfl) ?_
    refine ao_s (st_aload_n dX10_fairsToNotes_13 rfl rfl) ?_
    refine ao_getR dX10_fairsToNotes_14 fl_X10_21 rfl e21 (fun b22 => ?_)
    refine ao_s (st_iload_n dX10_fairsToNotes_17 rfl rfl) ?_
    refine ao_chk (fun e23 => ?_)
    refine ao_iald dX10_fairsToNotes_18 e23 ?_
    refine ao_s (st_iconst dX10_fairsToNotes_19 ic_1) ?_
    refine ao_s (st_iadd dX10_fairsToNotes_20) ?_
    refine ao_letI (fun x24 => ?_)
    refine ao_mmax dX10_fairsToNotes_21 ml_X10_55 (Nat.le_of_ble_eq_true rfl) (by decide) ?_
    refine ao_letI (fun x25 => ?_)
    refine ao_s (st_istore_n (lv' := [some (.ref a0), some (.int x25), some (.int x2)]) dX10_fairsToNotes_24 rfl (by decide) rfl) ?_
    refine ao_s (st_iinc (lv' := [some (.ref a0), some (.int x25), some (.int (x2 + 1))]) dX10_fairsToNotes_25 rfl nc_1 (by decide) rfl) ?_
    refine ao_s (st_goto 4 dX10_fairsToNotes_28 (by decide)) ?_
    exact ao_w (sb_s (sb_s (sb_s sb_0))) (hk4 h a0 x25 (x2 + 1))
def f_X10_fairsToNotes_4 (n : Nat) : aH → Nat → Int32 → Int32 → Option (Int32 × aH) := aIt (fun _ _ _ _ => none) (fun k => b_X10_fairsToNotes_4 k) n
theorem l_X10_fairsToNotes_4 (n : Nat) : ∀ (h : aH) (a0 : Nat) (x1 : Int32) (x2 : Int32), AO eI 2 kX10_fairsToNotes 4 [some (.ref a0), some (.int x1), some (.int x2)] [] h (f_X10_fairsToNotes_4 n h a0 x1 x2) := by
  induction n with
  | zero => intros; exact ao_none
  | succ n ih =>
    intro h a0 x1 x2
    exact t_X10_fairsToNotes_4 ih h a0 x1 x2
def f_X10_fairsToNotes (h : aH) (a0 : Nat) : Option (Int32 × aH) :=
f_X10_fairsToNotes_4 2000 h a0 0 0
set_option maxHeartbeats 2000000 in
theorem s_X10_fairsToNotes (h : aH) (a0 : Nat) : SO eI 2 kX10_fairsToNotes [.ref a0] h (f_X10_fairsToNotes h a0) := by
  refine so_of (lv0 := [some (.ref a0), none, none]) pn_X10 (Nat.le_of_ble_eq_true rfl) rfl ?_
  unfold f_X10_fairsToNotes
  refine ao_s (st_iconst dX10_fairsToNotes_0 ic_0) ?_
  refine ao_s (st_istore_n (lv' := [some (.ref a0), some (.int 0), none]) dX10_fairsToNotes_1 rfl (by decide) rfl) ?_
  refine ao_s (st_iconst dX10_fairsToNotes_2 ic_0) ?_
  refine ao_s (st_istore_n (lv' := [some (.ref a0), some (.int 0), some (.int 0)]) dX10_fairsToNotes_3 rfl (by decide) rfl) ?_
  exact ao_w (sb_s (sb_s (sb_s sb_0))) (l_X10_fairsToNotes_4 2000 h a0 0 0)
def b_X10_notesAreSo_42 (k2 : aH → Nat → Nat → Int32 → Int32 → Option (Int32 × aH)) (h : aH) (a0 : Nat) (a1 : Nat) (x2 : Int32) (x3 : Int32) : Option (Int32 × aH) :=
k2 h a0 a1 x2 (x3 + 1)
set_option maxHeartbeats 2000000 in
theorem t_X10_notesAreSo_42 {k2 : aH → Nat → Nat → Int32 → Int32 → Option (Int32 × aH)} (hk2 : ∀ (h : aH) (a0 : Nat) (a1 : Nat) (x2 : Int32) (x3 : Int32), AO eI 3 kX10_notesAreSo 2 [some (.ref a0), some (.ref a1), some (.int x2), some (.int x3)] [] h (k2 h a0 a1 x2 x3)) (h : aH) (a0 : Nat) (a1 : Nat) (x2 : Int32) (x3 : Int32) : AO eI 3 kX10_notesAreSo 42 [some (.ref a0), some (.ref a1), some (.int x2), some (.int x3)] [] h (b_X10_notesAreSo_42 k2 h a0 a1 x2 x3) := by
  unfold b_X10_notesAreSo_42
  refine ao_s (st_iinc (lv' := [some (.ref a0), some (.ref a1), some (.int x2), some (.int (x3 + 1))]) dX10_notesAreSo_42 rfl nc_1 (by decide) rfl) ?_
  refine ao_s (st_goto 2 dX10_notesAreSo_45 (by decide)) ?_
  exact ao_w (sb_s (sb_s (sb_s (sb_s sb_0)))) (hk2 h a0 a1 x2 (x3 + 1))
def b_X10_notesAreSo_2 (k2 : aH → Nat → Nat → Int32 → Int32 → Option (Int32 × aH)) (h : aH) (a0 : Nat) (a1 : Nat) (x2 : Int32) (x3 : Int32) : Option (Int32 × aH) :=
(if (sh a0).1 = 17 then
(if hI h a0 5 ≤ x3 then
some (1, h)
else
((hR h a0 2).bind fun b22 =>
(if (sh b22).1 = 0 then
(if aIn x3 (sh b22).2 then
(if hI h b22 x3.toNatClampNeg = x2 then
((hR h a0 3).bind fun b24 =>
(if (sh b24).1 = 0 then
(if aIn x3 (sh b24).2 then
(if (sh a1).1 = 15 then
(aBind (f_X8_partnerOf h a1 0 (hI h b24 x3.toNatClampNeg)) fun r27 h28 =>
((hR h28 a0 4).bind fun b29 =>
(if (sh b29).1 = 0 then
(if aIn x3 (sh b29).2 then
(if r27 = hI h28 b29 x3.toNatClampNeg then
b_X10_notesAreSo_42 k2 h28 a0 a1 x2 x3
else
some (0, h28))
else none)
else none)))
else none)
else none)
else none))
else
b_X10_notesAreSo_42 k2 h a0 a1 x2 x3)
else none)
else none)))
else none)
set_option maxHeartbeats 2000000 in
theorem t_X10_notesAreSo_2 {k2 : aH → Nat → Nat → Int32 → Int32 → Option (Int32 × aH)} (hk2 : ∀ (h : aH) (a0 : Nat) (a1 : Nat) (x2 : Int32) (x3 : Int32), AO eI 3 kX10_notesAreSo 2 [some (.ref a0), some (.ref a1), some (.int x2), some (.int x3)] [] h (k2 h a0 a1 x2 x3)) (h : aH) (a0 : Nat) (a1 : Nat) (x2 : Int32) (x3 : Int32) : AO eI 3 kX10_notesAreSo 2 [some (.ref a0), some (.ref a1), some (.int x2), some (.int x3)] [] h (b_X10_notesAreSo_2 k2 h a0 a1 x2 x3) := by
  unfold b_X10_notesAreSo_2
  refine ao_s (st_iload_n dX10_notesAreSo_2 rfl rfl) ?_
  refine ao_s (st_aload_n dX10_notesAreSo_3 rfl rfl) ?_
  refine ao_chk (fun e21 => ?_)
  refine ao_getI dX10_notesAreSo_4 fl_X10_31 rfl e21 ?_
  refine ao_br (br_icmp_ge (tgt := 48) dX10_notesAreSo_7 (by decide)) (fun c33 => ?_) (fun c33 => ?_)
  · refine ao_s (st_iconst dX10_notesAreSo_48 ic_1) ?_
    exact ao_ir dX10_notesAreSo_49 rfl (by decide)
  · refine ao_s (st_aload_n dX10_notesAreSo_10 rfl rfl) ?_
    refine ao_getR dX10_notesAreSo_11 fl_X10_21 rfl e21 (fun b22 => ?_)
    refine ao_s (st_iload_n dX10_notesAreSo_14 rfl rfl) ?_
    refine ao_chk (fun e23 => ?_)
    refine ao_iald dX10_notesAreSo_15 e23 ?_
    refine ao_s (st_iload_n dX10_notesAreSo_16 rfl rfl) ?_
    refine ao_br (br_icmp_ne (tgt := 42) dX10_notesAreSo_17 (by decide)) (fun c32 => ?_) (fun c32 => ?_)
    · refine ao_s (st_aload_n dX10_notesAreSo_20 rfl rfl) ?_
      refine ao_s (st_iconst dX10_notesAreSo_21 ic_0) ?_
      refine ao_s (st_aload_n dX10_notesAreSo_22 rfl rfl) ?_
      refine ao_getR dX10_notesAreSo_23 fl_X10_25 rfl e21 (fun b24 => ?_)
      refine ao_s (st_iload_n dX10_notesAreSo_26 rfl rfl) ?_
      refine ao_chk (fun e25 => ?_)
      refine ao_iald dX10_notesAreSo_27 e25 ?_
      refine ao_chk (fun e26 => ?_)
      refine ao_cVi (Kc := kX8_partnerOf) (As := [.int 0, .int (hI h b24 x3.toNatClampNeg)]) (st := []) dX10_notesAreSo_28 ml_X10_61 mv_X8_partnerOf rfl e26 (by decide) rfl rfl (Nat.le_of_ble_eq_true rfl) (by decide) (s_X8_partnerOf h a1 0 (hI h b24 x3.toNatClampNeg)) (fun r27 h28 => ?_)
      refine ao_s (st_aload_n dX10_notesAreSo_31 rfl rfl) ?_
      refine ao_getR dX10_notesAreSo_32 fl_X10_28 rfl e21 (fun b29 => ?_)
      refine ao_s (st_iload_n dX10_notesAreSo_35 rfl rfl) ?_
      refine ao_chk (fun e30 => ?_)
      refine ao_iald dX10_notesAreSo_36 e30 ?_
      refine ao_br (br_icmp_eq (tgt := 42) dX10_notesAreSo_37 (by decide)) (fun c31 => ?_) (fun c31 => ?_)
      · exact ao_w (sb_s (sb_s (sb_s (sb_s sb_0)))) (t_X10_notesAreSo_42 hk2 h28 a0 a1 x2 x3)
      · refine ao_s (st_iconst dX10_notesAreSo_40 ic_0) ?_
        exact ao_ir dX10_notesAreSo_41 rfl (by decide)
    · exact ao_w (sb_s (sb_s (sb_s (sb_s sb_0)))) (t_X10_notesAreSo_42 hk2 h a0 a1 x2 x3)
def f_X10_notesAreSo_2 (n : Nat) : aH → Nat → Nat → Int32 → Int32 → Option (Int32 × aH) := aIt (fun _ _ _ _ _ => none) (fun k => b_X10_notesAreSo_2 k) n
theorem l_X10_notesAreSo_2 (n : Nat) : ∀ (h : aH) (a0 : Nat) (a1 : Nat) (x2 : Int32) (x3 : Int32), AO eI 3 kX10_notesAreSo 2 [some (.ref a0), some (.ref a1), some (.int x2), some (.int x3)] [] h (f_X10_notesAreSo_2 n h a0 a1 x2 x3) := by
  induction n with
  | zero => intros; exact ao_none
  | succ n ih =>
    intro h a0 a1 x2 x3
    exact t_X10_notesAreSo_2 ih h a0 a1 x2 x3
def f_X10_notesAreSo (h : aH) (a0 : Nat) (a1 : Nat) (x2 : Int32) : Option (Int32 × aH) :=
f_X10_notesAreSo_2 2000 h a0 a1 x2 0
set_option maxHeartbeats 2000000 in
theorem s_X10_notesAreSo (h : aH) (a0 : Nat) (a1 : Nat) (x2 : Int32) : SO eI 3 kX10_notesAreSo [.ref a0, .ref a1, .int x2] h (f_X10_notesAreSo h a0 a1 x2) := by
  refine so_of (lv0 := [some (.ref a0), some (.ref a1), some (.int x2), none]) pn_X10 (Nat.le_of_ble_eq_true rfl) rfl ?_
  unfold f_X10_notesAreSo
  refine ao_s (st_iconst dX10_notesAreSo_0 ic_0) ?_
  refine ao_s (st_istore_n (lv' := [some (.ref a0), some (.ref a1), some (.int x2), some (.int 0)]) dX10_notesAreSo_1 rfl (by decide) rfl) ?_
  exact ao_w (sb_s (sb_s (sb_s (sb_s sb_0)))) (l_X10_notesAreSo_2 2000 h a0 a1 x2 0)
def b_X4_fitsFromHere_8 (k8 : aH → Nat → Nat → Option Nat → Int32 → Int32 → Option (Int32 × aH)) (h : aH) (a0 : Nat) (a1 : Nat) (a2 : Option Nat) (x3 : Int32) (x4 : Int32) : Option (Int32 × aH) :=
(if x3 ≤ x4 then
some (1, h)
else
(if (sh a0).1 = 11 then
((hR h a0 0).bind fun b22 =>
((hR h a0 1).bind fun b23 =>
((hR h a0 1).bind fun b24 =>
(if (sh b24).1 = 15 then
(aBind (f_X8_isLate h b24) fun r26 h27 =>
(if (sh b22).1 = 7 then
(aBind (f_X0_pass h27 b22 b23 a2 r26) fun r29 h30 =>
((hR h30 a0 1).bind fun b31 =>
(if (sh a1).1 = 17 then
(aBind (f_X10_notesAreSo h30 a1 b31 x4) fun r33 h34 =>
(if r33 = 0 then
some (0, h34)
else
k8 h34 a0 a1 a2 x3 (x4 + 1)))
else none)))
else none))
else none))))
else none))
set_option maxHeartbeats 2000000 in
theorem t_X4_fitsFromHere_8 {k8 : aH → Nat → Nat → Option Nat → Int32 → Int32 → Option (Int32 × aH)} (hk8 : ∀ (h : aH) (a0 : Nat) (a1 : Nat) (a2 : Option Nat) (x3 : Int32) (x4 : Int32), AO eI 7 kX4_fitsFromHere 8 [some (.ref a0), some (.ref a1), some (va_rf a2), some (.int x3), some (.int x4)] [] h (k8 h a0 a1 a2 x3 x4)) (h : aH) (a0 : Nat) (a1 : Nat) (a2 : Option Nat) (x3 : Int32) (x4 : Int32) : AO eI 7 kX4_fitsFromHere 8 [some (.ref a0), some (.ref a1), some (va_rf a2), some (.int x3), some (.int x4)] [] h (b_X4_fitsFromHere_8 k8 h a0 a1 a2 x3 x4) := by
  unfold b_X4_fitsFromHere_8
  refine ao_s (st_iload dX4_fitsFromHere_8 rfl) ?_
  refine ao_s (st_iload_n dX4_fitsFromHere_10 rfl rfl) ?_
  refine ao_br (br_icmp_ge (tgt := 55) dX4_fitsFromHere_11 (by decide)) (fun c36 => ?_) (fun c36 => ?_)
  · refine ao_s (st_iconst dX4_fitsFromHere_55 ic_1) ?_
    exact ao_ir dX4_fitsFromHere_56 rfl (by decide)
  · refine ao_s (st_aload_n dX4_fitsFromHere_14 rfl rfl) ?_
    refine ao_chk (fun e21 => ?_)
    refine ao_getR dX4_fitsFromHere_15 fl_X4_41 rfl e21 (fun b22 => ?_)
    refine ao_s (st_aload_n dX4_fitsFromHere_18 rfl rfl) ?_
    refine ao_getR dX4_fitsFromHere_19 fl_X4_14 rfl e21 (fun b23 => ?_)
    refine ao_s (st_aload_nQ dX4_fitsFromHere_22 rfl rfl) ?_
    refine ao_s (st_aload_n dX4_fitsFromHere_23 rfl rfl) ?_
    refine ao_getR dX4_fitsFromHere_24 fl_X4_14 rfl e21 (fun b24 => ?_)
    refine ao_chk (fun e25 => ?_)
    refine ao_cVi (Kc := kX8_isLate) (As := []) (st := [va_rf a2, .ref b23, .ref b22]) dX4_fitsFromHere_27 ml_X4_62 mv_X8_isLate rfl e25 (by decide) rfl rfl (by simp [aEn, aEnt, aCatN, aCatR, aCatQ, aCatL]) (by decide) (s_X8_isLate h b24) (fun r26 h27 => ?_)
    refine ao_chk (fun e28 => ?_)
    refine ao_cVi (Kc := kX0_pass) (As := [.ref b23, va_rf a2, .int r26]) (st := []) dX4_fitsFromHere_30 ml_X4_66 mv_X0_pass rfl e28 (by decide) rfl rfl (Nat.le_of_ble_eq_true rfl) (by decide) (s_X0_pass h27 b22 b23 a2 r26) (fun r29 h30 => ?_)
    refine ao_s (st_pop dX4_fitsFromHere_33 rfl) ?_
    refine ao_s (st_aload_n dX4_fitsFromHere_34 rfl rfl) ?_
    refine ao_s (st_aload_n dX4_fitsFromHere_35 rfl rfl) ?_
    refine ao_getR dX4_fitsFromHere_36 fl_X4_14 rfl e21 (fun b31 => ?_)
    refine ao_s (st_iload dX4_fitsFromHere_39 rfl) ?_
    refine ao_chk (fun e32 => ?_)
    refine ao_cVi (Kc := kX10_notesAreSo) (As := [.ref b31, .int x4]) (st := []) dX4_fitsFromHere_41 ml_X4_72 mv_X10_notesAreSo rfl e32 (by decide) rfl rfl (Nat.le_of_ble_eq_true rfl) (by decide) (s_X10_notesAreSo h30 a1 b31 x4) (fun r33 h34 => ?_)
    refine ao_br (br_if_ne (tgt := 49) dX4_fitsFromHere_44 (by decide)) (fun c35 => ?_) (fun c35 => ?_)
    · refine ao_s (st_iconst dX4_fitsFromHere_47 ic_0) ?_
      exact ao_ir dX4_fitsFromHere_48 rfl (by decide)
    · refine ao_s (st_iinc (lv' := [some (.ref a0), some (.ref a1), some (va_rf a2), some (.int x3), some (.int (x4 + 1))]) dX4_fitsFromHere_49 rfl nc_1 (by decide) rfl) ?_
      refine ao_s (st_goto 8 dX4_fitsFromHere_52 (by decide)) ?_
      exact ao_w (sb_s (sb_s (sb_s (sb_s (sb_s sb_0))))) (hk8 h34 a0 a1 a2 x3 (x4 + 1))
def f_X4_fitsFromHere_8 (n : Nat) : aH → Nat → Nat → Option Nat → Int32 → Int32 → Option (Int32 × aH) := aIt (fun _ _ _ _ _ _ => none) (fun k => b_X4_fitsFromHere_8 k) n
theorem l_X4_fitsFromHere_8 (n : Nat) : ∀ (h : aH) (a0 : Nat) (a1 : Nat) (a2 : Option Nat) (x3 : Int32) (x4 : Int32), AO eI 7 kX4_fitsFromHere 8 [some (.ref a0), some (.ref a1), some (va_rf a2), some (.int x3), some (.int x4)] [] h (f_X4_fitsFromHere_8 n h a0 a1 a2 x3 x4) := by
  induction n with
  | zero => intros; exact ao_none
  | succ n ih =>
    intro h a0 a1 a2 x3 x4
    exact t_X4_fitsFromHere_8 ih h a0 a1 a2 x3 x4
def f_X4_fitsFromHere (h : aH) (a0 : Nat) (a1 : Nat) (a2 : Option Nat) : Option (Int32 × aH) :=
(if (sh a1).1 = 17 then
(aBind (f_X10_fairsToNotes h a1) fun r22 h23 =>
f_X4_fitsFromHere_8 2000 h23 a0 a1 a2 r22 0)
else none)
set_option maxHeartbeats 2000000 in
theorem s_X4_fitsFromHere (h : aH) (a0 : Nat) (a1 : Nat) (a2 : Option Nat) : SO eI 7 kX4_fitsFromHere [.ref a0, .ref a1, va_rf a2] h (f_X4_fitsFromHere h a0 a1 a2) := by
  refine so_of (lv0 := [some (.ref a0), some (.ref a1), some (va_rf a2), none, none]) pn_X4 (by simp [aEn, aEnt, aCatN, aCatR, aCatQ, aCatL]) (by simp [aEn, aEnt, aCatN, aCatR, aCatQ, aCatL]) ?_
  unfold f_X4_fitsFromHere
  refine ao_s (st_aload_n dX4_fitsFromHere_0 rfl rfl) ?_
  refine ao_chk (fun e21 => ?_)
  refine ao_cVi (Kc := kX10_fairsToNotes) (As := []) (st := []) dX4_fitsFromHere_1 ml_X4_58 mv_X10_fairsToNotes rfl e21 (by decide) rfl rfl (Nat.le_of_ble_eq_true rfl) (by decide) (s_X10_fairsToNotes h a1) (fun r22 h23 => ?_)
  refine ao_s (st_istore_n (lv' := [some (.ref a0), some (.ref a1), some (va_rf a2), some (.int r22), none]) dX4_fitsFromHere_4 rfl (by decide) (by cases a2 <;> rfl)) ?_
  refine ao_s (st_iconst dX4_fitsFromHere_5 ic_0) ?_
  refine ao_s (st_istore (lv' := [some (.ref a0), some (.ref a1), some (va_rf a2), some (.int r22), some (.int 0)]) dX4_fitsFromHere_6 (by decide) rfl) ?_
  exact ao_w (sb_s (sb_s (sb_s (sb_s (sb_s sb_0))))) (l_X4_fitsFromHere_8 2000 h23 a0 a1 a2 r22 0)
def f_X4_fits (h : aH) (a0 : Nat) (a1 : Nat) (a2 : Option Nat) : Option (Int32 × aH) :=
(if (sh a0).1 = 11 then
((hR h a0 1).bind fun b22 =>
(if (sh a1).1 = 17 then
((hR h a1 0).bind fun b24 =>
(if (sh b22).1 = 15 then
(aBind (f_X8_copyFrom h b22 b24) fun r26 h27 =>
(aBind (f_X4_fitsFromHere h27 a0 a1 a2) fun r28 h29 =>
(if r28 = 0 ∨ r28 = 1 then some (r28, h29) else none)))
else none))
else none))
else none)
set_option maxHeartbeats 2000000 in
theorem s_X4_fits (h : aH) (a0 : Nat) (a1 : Nat) (a2 : Option Nat) : SO eI 8 kX4_fits [.ref a0, .ref a1, va_rf a2] h (f_X4_fits h a0 a1 a2) := by
  refine so_of (lv0 := [some (.ref a0), some (.ref a1), some (va_rf a2)]) pn_X4 (by simp [aEn, aEnt, aCatN, aCatR, aCatQ, aCatL]) (by simp [aEn, aEnt, aCatN, aCatR, aCatQ, aCatL]) ?_
  unfold f_X4_fits
  refine ao_s (st_aload_n dX4_fits_0 rfl rfl) ?_
  refine ao_chk (fun e21 => ?_)
  refine ao_getR dX4_fits_1 fl_X4_14 rfl e21 (fun b22 => ?_)
  refine ao_s (st_aload_n dX4_fits_4 rfl rfl) ?_
  refine ao_chk (fun e23 => ?_)
  refine ao_getR dX4_fits_5 fl_X4_45 rfl e23 (fun b24 => ?_)
  refine ao_chk (fun e25 => ?_)
  refine ao_cVv (Kc := kX8_copyFrom) (As := [.ref b24]) (st := []) dX4_fits_8 ml_X4_50 mv_X8_copyFrom rfl e25 (by decide) rfl rfl (Nat.le_of_ble_eq_true rfl) (by decide) (s_X8_copyFrom h b22 b24) (fun r26 h27 => ?_)
  refine ao_s (st_aload_n dX4_fits_11 rfl rfl) ?_
  refine ao_s (st_aload_n dX4_fits_12 rfl rfl) ?_
  refine ao_s (st_aload_nQ dX4_fits_13 rfl rfl) ?_
  refine ao_cVi (Kc := kX4_fitsFromHere) (As := [.ref a1, va_rf a2]) (st := []) dX4_fits_14 ml_X4_54 mv_X4_fitsFromHere rfl e21 (by decide) rfl rfl (Nat.le_of_ble_eq_true rfl) (by decide) (s_X4_fitsFromHere h27 a0 a1 a2) (fun r28 h29 => ?_)
  refine ao_chk (fun c30 => ?_)
  exact ao_ir dX4_fits_17 rfl (nz c30).1
