def f_X12_value (h : aH) (a0 : Nat) : Option (Int32 × aH) :=
(if (sh a0).1 = 19 then
(aBind (f_X12_see h a0) fun r22 h23 =>
(aLet (hI h23 a0 8) fun x24 =>
(aBind (f_X12_isDigit h23 a0 (hI h23 a0 8)) fun r25 h26 =>
(if r25 = 0 then
(aBind (f_X12_wordHere h26 a0) fun r27 h28 =>
(if 0 ≤ r27 then
(aBind (f_X12_makes h28 a0 x24) fun r29 h30 =>
(if r29 = 0 then
some (0, h30)
else
(aBind (f_X12_passWord h30 a0) fun r31 h32 =>
(aBind (f_X12_puts h32 a0 1 r27) fun r33 h34 =>
some (1, h34)))))
else
(aBind (f_X12_fails h28 a0 0 x24) fun r36 h37 =>
(if r36 = 0 ∨ r36 = 1 then some (r36, h37) else none))))
else
(aBind (f_X12_numberHere h26 a0 0 99999) fun r40 h41 =>
(if r40 = 0 then
some (0, h41)
else
(aBind (f_X12_makes h41 a0 x24) fun r42 h43 =>
(if r42 = 0 then
some (0, h43)
else
(aBind (f_X12_puts h43 a0 0 (hI h43 a0 10)) fun r44 h45 =>
some (1, h45))))))))))
else none)
set_option maxHeartbeats 2000000 in
theorem s_X12_value (h : aH) (a0 : Nat) : SO eI 5 kX12_value [.ref a0] h (f_X12_value h a0) := by
  refine so_of (lv0 := [some (.ref a0), none, none]) pn_X12 (Nat.le_of_ble_eq_true rfl) rfl ?_
  unfold f_X12_value
  refine ao_s (st_aload_n dX12_value_0 rfl rfl) ?_
  refine ao_chk (fun e21 => ?_)
  refine ao_cVi (Kc := kX12_see) (As := []) (st := []) dX12_value_1 ml_X12_102 mv_X12_see rfl e21 (by decide) rfl rfl (Nat.le_of_ble_eq_true rfl) (by decide) (s_X12_see h a0) (fun r22 h23 => ?_)
  refine ao_s (st_pop dX12_value_4 rfl) ?_
  refine ao_s (st_aload_n dX12_value_5 rfl rfl) ?_
  refine ao_getI dX12_value_6 fl_X12_99 rfl e21 ?_
  refine ao_letI (fun x24 => ?_)
  refine ao_s (st_istore_n (lv' := [some (.ref a0), some (.int x24), none]) dX12_value_9 rfl (by decide) rfl) ?_
  refine ao_s (st_aload_n dX12_value_10 rfl rfl) ?_
  refine ao_s (st_aload_n dX12_value_11 rfl rfl) ?_
  refine ao_getI dX12_value_12 fl_X12_99 rfl e21 ?_
  refine ao_cVi (Kc := kX12_isDigit) (As := [.int (hI h23 a0 8)]) (st := []) dX12_value_15 ml_X12_117 mv_X12_isDigit rfl e21 (by decide) rfl rfl (Nat.le_of_ble_eq_true rfl) (by decide) (s_X12_isDigit h23 a0 (hI h23 a0 8)) (fun r25 h26 => ?_)
  refine ao_br (br_if_eq (tgt := 52) dX12_value_18 (by decide)) (fun c48 => ?_) (fun c48 => ?_)
  · refine ao_s (st_aload_n dX12_value_52 rfl rfl) ?_
    refine ao_cVi (Kc := kX12_wordHere) (As := []) (st := []) dX12_value_53 ml_X12_180 mv_X12_wordHere rfl e21 (by decide) rfl rfl (Nat.le_of_ble_eq_true rfl) (by decide) (s_X12_wordHere h26 a0) (fun r27 h28 => ?_)
    refine ao_s (st_istore_n (lv' := [some (.ref a0), some (.int x24), some (.int r27)]) dX12_value_56 rfl (by decide) rfl) ?_
    refine ao_s (st_iload_n dX12_value_57 rfl rfl) ?_
    refine ao_br (br_if_ge (tgt := 68) dX12_value_58 (by decide)) (fun c39 => ?_) (fun c39 => ?_)
    · refine ao_s (st_aload_n dX12_value_68 rfl rfl) ?_
      refine ao_s (st_iload_n dX12_value_69 rfl rfl) ?_
      refine ao_cVi (Kc := kX12_makes) (As := [.int x24]) (st := []) dX12_value_70 ml_X12_177 mv_X12_makes rfl e21 (by decide) rfl rfl (Nat.le_of_ble_eq_true rfl) (by decide) (s_X12_makes h28 a0 x24) (fun r29 h30 => ?_)
      refine ao_br (br_if_ne (tgt := 78) dX12_value_73 (by decide)) (fun c35 => ?_) (fun c35 => ?_)
      · refine ao_s (st_iconst dX12_value_76 ic_0) ?_
        exact ao_ir dX12_value_77 rfl (by decide)
      · refine ao_s (st_aload_n dX12_value_78 rfl rfl) ?_
        refine ao_cVv (Kc := kX12_passWord) (As := []) (st := []) dX12_value_79 ml_X12_114 mv_X12_passWord rfl e21 (by decide) rfl rfl (Nat.le_of_ble_eq_true rfl) (by decide) (s_X12_passWord h30 a0) (fun r31 h32 => ?_)
        refine ao_s (st_aload_n dX12_value_82 rfl rfl) ?_
        refine ao_s (st_iconst dX12_value_83 ic_1) ?_
        refine ao_s (st_iload_n dX12_value_84 rfl rfl) ?_
        refine ao_cVv (Kc := kX12_puts) (As := [.int 1, .int r27]) (st := []) dX12_value_85 ml_X12_169 mv_X12_puts rfl e21 (by decide) rfl rfl (Nat.le_of_ble_eq_true rfl) (by decide) (s_X12_puts h32 a0 1 r27) (fun r33 h34 => ?_)
        refine ao_s (st_iconst dX12_value_88 ic_1) ?_
        exact ao_ir dX12_value_89 rfl (by decide)
    · refine ao_s (st_aload_n dX12_value_61 rfl rfl) ?_
      refine ao_s (st_iconst dX12_value_62 ic_0) ?_
      refine ao_s (st_iload_n dX12_value_63 rfl rfl) ?_
      refine ao_cVi (Kc := kX12_fails) (As := [.int 0, .int x24]) (st := []) dX12_value_64 ml_X12_120 mv_X12_fails rfl e21 (by decide) rfl rfl (Nat.le_of_ble_eq_true rfl) (by decide) (s_X12_fails h28 a0 0 x24) (fun r36 h37 => ?_)
      refine ao_chk (fun c38 => ?_)
      exact ao_ir dX12_value_67 rfl (nz c38).1
  · refine ao_s (st_aload_n dX12_value_21 rfl rfl) ?_
    refine ao_s (st_iconst dX12_value_22 ic_0) ?_
    refine ao_s (st_ldc dX12_value_23 ci_X12_173) ?_
    refine ao_cVi (Kc := kX12_numberHere) (As := [.int 0, .int 99999]) (st := []) dX12_value_25 ml_X12_174 mv_X12_numberHere rfl e21 (by decide) rfl rfl (Nat.le_of_ble_eq_true rfl) (by decide) (s_X12_numberHere h26 a0 0 99999) (fun r40 h41 => ?_)
    refine ao_br (br_if_eq (tgt := 39) dX12_value_28 (by decide)) (fun c47 => ?_) (fun c47 => ?_)
    · refine ao_s (st_iconst dX12_value_39 ic_0) ?_
      exact ao_ir dX12_value_40 rfl (by decide)
    · refine ao_s (st_aload_n dX12_value_31 rfl rfl) ?_
      refine ao_s (st_iload_n dX12_value_32 rfl rfl) ?_
      refine ao_cVi (Kc := kX12_makes) (As := [.int x24]) (st := []) dX12_value_33 ml_X12_177 mv_X12_makes rfl e21 (by decide) rfl rfl (Nat.le_of_ble_eq_true rfl) (by decide) (s_X12_makes h41 a0 x24) (fun r42 h43 => ?_)
      refine ao_br (br_if_ne (tgt := 41) dX12_value_36 (by decide)) (fun c46 => ?_) (fun c46 => ?_)
      · refine ao_s (st_iconst dX12_value_39 ic_0) ?_
        exact ao_ir dX12_value_40 rfl (by decide)
      · refine ao_s (st_aload_n dX12_value_41 rfl rfl) ?_
        refine ao_s (st_iconst dX12_value_42 ic_0) ?_
        refine ao_s (st_aload_n dX12_value_43 rfl rfl) ?_
        refine ao_getI dX12_value_44 fl_X12_124 rfl e21 ?_
        refine ao_cVv (Kc := kX12_puts) (As := [.int 0, .int (hI h43 a0 10)]) (st := []) dX12_value_47 ml_X12_169 mv_X12_puts rfl e21 (by decide) rfl rfl (Nat.le_of_ble_eq_true rfl) (by decide) (s_X12_puts h43 a0 0 (hI h43 a0 10)) (fun r44 h45 => ?_)
        refine ao_s (st_iconst dX12_value_50 ic_1) ?_
        exact ao_ir dX12_value_51 rfl (by decide)
def b_X12_term_74 (k9 : aH → Nat → Option (Int32 × aH)) (h : aH) (a0 : Nat) (s0 : Int32) : Option (Int32 × aH) :=
(if (sh a0).1 = 19 then
(aLet (pI h a0 8 ((hI h a0 8) + 1)) fun h22 =>
(aBind (f_X12_value h22 a0) fun r23 h24 =>
(if r23 = 0 then
some (0, h24)
else
(aBind (f_X12_puts h24 a0 s0 0) fun r25 h26 =>
k9 h26 a0))))
else none)
set_option maxHeartbeats 2000000 in
theorem t_X12_term_74 {k9 : aH → Nat → Option (Int32 × aH)} (hk9 : ∀ (h : aH) (a0 : Nat), AO eI 6 kX12_term 9 [some (.ref a0), none] [] h (k9 h a0)) (h : aH) (a0 : Nat) (s0 : Int32) : AO eI 6 kX12_term 74 [some (.ref a0), none] [.int s0] h (b_X12_term_74 k9 h a0 s0) := by
  unfold b_X12_term_74
  refine ao_s (st_istore_n (lv' := [some (.ref a0), some (.int s0)]) dX12_term_74 rfl (by decide) rfl) ?_
  refine ao_s (st_aload_n dX12_term_75 rfl rfl) ?_
  refine ao_s (st_dup dX12_term_76 rfl) ?_
  refine ao_chk (fun e21 => ?_)
  refine ao_getI dX12_term_77 fl_X12_99 rfl e21 ?_
  refine ao_s (st_iconst dX12_term_80 ic_1) ?_
  refine ao_s (st_iadd dX12_term_81) ?_
  refine ao_putI dX12_term_82 fl_X12_99 rfl rfl rfl rfl e21 ?_
  refine ao_letH (fun h22 => ?_)
  refine ao_s (st_aload_n dX12_term_85 rfl rfl) ?_
  refine ao_cVi (Kc := kX12_value) (As := []) (st := []) dX12_term_86 ml_X12_183 mv_X12_value rfl e21 (by decide) rfl rfl (Nat.le_of_ble_eq_true rfl) (by decide) (s_X12_value h22 a0) (fun r23 h24 => ?_)
  refine ao_br (br_if_ne (tgt := 94) dX12_term_89 (by decide)) (fun c27 => ?_) (fun c27 => ?_)
  · refine ao_s (st_iconst dX12_term_92 ic_0) ?_
    exact ao_ir dX12_term_93 rfl (by decide)
  · refine ao_s (st_aload_n dX12_term_94 rfl rfl) ?_
    refine ao_s (st_iload_n dX12_term_95 rfl rfl) ?_
    refine ao_s (st_iconst dX12_term_96 ic_0) ?_
    refine ao_cVv (Kc := kX12_puts) (As := [.int s0, .int 0]) (st := []) dX12_term_97 ml_X12_169 mv_X12_puts rfl e21 (by decide) rfl rfl (Nat.le_of_ble_eq_true rfl) (by decide) (s_X12_puts h24 a0 s0 0) (fun r25 h26 => ?_)
    refine ao_s (st_goto 9 dX12_term_100 (by decide)) ?_
    exact ao_w (sb_s (sb_n sb_0)) (hk9 h26 a0)
def b_X12_term_36 (k9 : aH → Nat → Option (Int32 × aH)) (h : aH) (a0 : Nat) : Option (Int32 × aH) :=
(if (sh a0).1 = 19 then
((hR h a0 0).bind fun b22 =>
(aLet (hI h a0 8) fun x23 =>
(if (sh b22).1 = 1 then
(if aIn x23 (sh b22).2 then
(if hI h b22 x23.toNatClampNeg = 42 then
b_X12_term_74 k9 h a0 4
else
((hR h a0 0).bind fun b25 =>
(aLet (hI h a0 8) fun x26 =>
(if (sh b25).1 = 1 then
(if aIn x26 (sh b25).2 then
(if hI h b25 x26.toNatClampNeg = 47 then
b_X12_term_74 k9 h a0 5
else
b_X12_term_74 k9 h a0 14)
else none)
else none))))
else none)
else none)))
else none)
set_option maxHeartbeats 2000000 in
theorem t_X12_term_36 {k9 : aH → Nat → Option (Int32 × aH)} (hk9 : ∀ (h : aH) (a0 : Nat), AO eI 6 kX12_term 9 [some (.ref a0), none] [] h (k9 h a0)) (h : aH) (a0 : Nat) : AO eI 6 kX12_term 36 [some (.ref a0), none] [] h (b_X12_term_36 k9 h a0) := by
  unfold b_X12_term_36
  refine ao_s (st_aload_n dX12_term_36 rfl rfl) ?_
  refine ao_chk (fun e21 => ?_)
  refine ao_getR dX12_term_37 fl_X12_7 rfl e21 (fun b22 => ?_)
  refine ao_s (st_aload_n dX12_term_40 rfl rfl) ?_
  refine ao_getI dX12_term_41 fl_X12_99 rfl e21 ?_
  refine ao_letI (fun x23 => ?_)
  refine ao_chk (fun e24 => ?_)
  refine ao_bald dX12_term_44 e24 ?_
  refine ao_s (st_bipush dX12_term_45 bp_42) ?_
  refine ao_br (br_icmp_ne (tgt := 54) dX12_term_47 (by decide)) (fun c29 => ?_) (fun c29 => ?_)
  · refine ao_s (st_iconst dX12_term_50 ic_4) ?_
    refine ao_s (st_goto 74 dX12_term_51 (by decide)) ?_
    exact ao_w (sb_s (sb_n sb_0)) (t_X12_term_74 hk9 h a0 4)
  · refine ao_s (st_aload_n dX12_term_54 rfl rfl) ?_
    refine ao_getR dX12_term_55 fl_X12_7 rfl e21 (fun b25 => ?_)
    refine ao_s (st_aload_n dX12_term_58 rfl rfl) ?_
    refine ao_getI dX12_term_59 fl_X12_99 rfl e21 ?_
    refine ao_letI (fun x26 => ?_)
    refine ao_chk (fun e27 => ?_)
    refine ao_bald dX12_term_62 e27 ?_
    refine ao_s (st_bipush dX12_term_63 bp_47) ?_
    refine ao_br (br_icmp_ne (tgt := 72) dX12_term_65 (by decide)) (fun c28 => ?_) (fun c28 => ?_)
    · refine ao_s (st_iconst dX12_term_68 ic_5) ?_
      refine ao_s (st_goto 74 dX12_term_69 (by decide)) ?_
      exact ao_w (sb_s (sb_n sb_0)) (t_X12_term_74 hk9 h a0 5)
    · refine ao_s (st_bipush dX12_term_72 bp_14) ?_
      exact ao_w (sb_s (sb_n sb_0)) (t_X12_term_74 hk9 h a0 14)
def b_X12_term_9 (k9 : aH → Nat → Option (Int32 × aH)) (h : aH) (a0 : Nat) : Option (Int32 × aH) :=
(if (sh a0).1 = 19 then
(aBind (f_X12_see h a0) fun r22 h23 =>
(if r22 = 42 then
b_X12_term_36 k9 h23 a0
else
(aBind (f_X12_see h23 a0) fun r24 h25 =>
(if r24 = 47 then
b_X12_term_36 k9 h25 a0
else
(aBind (f_X12_see h25 a0) fun r26 h27 =>
(if r26 = 37 then
b_X12_term_36 k9 h27 a0
else
some (1, h27)))))))
else none)
set_option maxHeartbeats 2000000 in
theorem t_X12_term_9 {k9 : aH → Nat → Option (Int32 × aH)} (hk9 : ∀ (h : aH) (a0 : Nat), AO eI 6 kX12_term 9 [some (.ref a0), none] [] h (k9 h a0)) (h : aH) (a0 : Nat) : AO eI 6 kX12_term 9 [some (.ref a0), none] [] h (b_X12_term_9 k9 h a0) := by
  unfold b_X12_term_9
  refine ao_s (st_aload_n dX12_term_9 rfl rfl) ?_
  refine ao_chk (fun e21 => ?_)
  refine ao_cVi (Kc := kX12_see) (As := []) (st := []) dX12_term_10 ml_X12_102 mv_X12_see rfl e21 (by decide) rfl rfl (Nat.le_of_ble_eq_true rfl) (by decide) (s_X12_see h a0) (fun r22 h23 => ?_)
  refine ao_s (st_bipush dX12_term_13 bp_42) ?_
  refine ao_br (br_icmp_eq (tgt := 36) dX12_term_15 (by decide)) (fun c30 => ?_) (fun c30 => ?_)
  · exact ao_w (sb_s (sb_n sb_0)) (t_X12_term_36 hk9 h23 a0)
  · refine ao_s (st_aload_n dX12_term_18 rfl rfl) ?_
    refine ao_cVi (Kc := kX12_see) (As := []) (st := []) dX12_term_19 ml_X12_102 mv_X12_see rfl e21 (by decide) rfl rfl (Nat.le_of_ble_eq_true rfl) (by decide) (s_X12_see h23 a0) (fun r24 h25 => ?_)
    refine ao_s (st_bipush dX12_term_22 bp_47) ?_
    refine ao_br (br_icmp_eq (tgt := 36) dX12_term_24 (by decide)) (fun c29 => ?_) (fun c29 => ?_)
    · exact ao_w (sb_s (sb_n sb_0)) (t_X12_term_36 hk9 h25 a0)
    · refine ao_s (st_aload_n dX12_term_27 rfl rfl) ?_
      refine ao_cVi (Kc := kX12_see) (As := []) (st := []) dX12_term_28 ml_X12_102 mv_X12_see rfl e21 (by decide) rfl rfl (Nat.le_of_ble_eq_true rfl) (by decide) (s_X12_see h25 a0) (fun r26 h27 => ?_)
      refine ao_s (st_bipush dX12_term_31 bp_37) ?_
      refine ao_br (br_icmp_ne (tgt := 103) dX12_term_33 (by decide)) (fun c28 => ?_) (fun c28 => ?_)
      · exact ao_w (sb_s (sb_n sb_0)) (t_X12_term_36 hk9 h27 a0)
      · refine ao_s (st_iconst dX12_term_103 ic_1) ?_
        exact ao_ir dX12_term_104 rfl (by decide)
def f_X12_term_9 (n : Nat) : aH → Nat → Option (Int32 × aH) := aIt (fun _ _ => none) (fun k => b_X12_term_9 k) n
theorem l_X12_term_9 (n : Nat) : ∀ (h : aH) (a0 : Nat), AO eI 6 kX12_term 9 [some (.ref a0), none] [] h (f_X12_term_9 n h a0) := by
  induction n with
  | zero => intros; exact ao_none
  | succ n ih =>
    intro h a0
    exact t_X12_term_9 ih h a0
def f_X12_term (h : aH) (a0 : Nat) : Option (Int32 × aH) :=
(if (sh a0).1 = 19 then
(aBind (f_X12_value h a0) fun r22 h23 =>
(if r22 = 0 then
some (0, h23)
else
f_X12_term_9 2000 h23 a0))
else none)
set_option maxHeartbeats 2000000 in
theorem s_X12_term (h : aH) (a0 : Nat) : SO eI 6 kX12_term [.ref a0] h (f_X12_term h a0) := by
  refine so_of (lv0 := [some (.ref a0), none]) pn_X12 (Nat.le_of_ble_eq_true rfl) rfl ?_
  unfold f_X12_term
  refine ao_s (st_aload_n dX12_term_0 rfl rfl) ?_
  refine ao_chk (fun e21 => ?_)
  refine ao_cVi (Kc := kX12_value) (As := []) (st := []) dX12_term_1 ml_X12_183 mv_X12_value rfl e21 (by decide) rfl rfl (Nat.le_of_ble_eq_true rfl) (by decide) (s_X12_value h a0) (fun r22 h23 => ?_)
  refine ao_br (br_if_ne (tgt := 9) dX12_term_4 (by decide)) (fun c24 => ?_) (fun c24 => ?_)
  · refine ao_s (st_iconst dX12_term_7 ic_0) ?_
    exact ao_ir dX12_term_8 rfl (by decide)
  · exact ao_w (sb_s (sb_n sb_0)) (l_X12_term_9 2000 h23 a0)
def b_X12_sum_46 (k9 : aH → Nat → Option (Int32 × aH)) (h : aH) (a0 : Nat) (s0 : Int32) : Option (Int32 × aH) :=
(if (sh a0).1 = 19 then
(aLet (pI h a0 8 ((hI h a0 8) + 1)) fun h22 =>
(aBind (f_X12_term h22 a0) fun r23 h24 =>
(if r23 = 0 then
some (0, h24)
else
(aBind (f_X12_puts h24 a0 s0 0) fun r25 h26 =>
k9 h26 a0))))
else none)
set_option maxHeartbeats 2000000 in
theorem t_X12_sum_46 {k9 : aH → Nat → Option (Int32 × aH)} (hk9 : ∀ (h : aH) (a0 : Nat), AO eI 7 kX12_sum 9 [some (.ref a0), none] [] h (k9 h a0)) (h : aH) (a0 : Nat) (s0 : Int32) : AO eI 7 kX12_sum 46 [some (.ref a0), none] [.int s0] h (b_X12_sum_46 k9 h a0 s0) := by
  unfold b_X12_sum_46
  refine ao_s (st_istore_n (lv' := [some (.ref a0), some (.int s0)]) dX12_sum_46 rfl (by decide) rfl) ?_
  refine ao_s (st_aload_n dX12_sum_47 rfl rfl) ?_
  refine ao_s (st_dup dX12_sum_48 rfl) ?_
  refine ao_chk (fun e21 => ?_)
  refine ao_getI dX12_sum_49 fl_X12_99 rfl e21 ?_
  refine ao_s (st_iconst dX12_sum_52 ic_1) ?_
  refine ao_s (st_iadd dX12_sum_53) ?_
  refine ao_putI dX12_sum_54 fl_X12_99 rfl rfl rfl rfl e21 ?_
  refine ao_letH (fun h22 => ?_)
  refine ao_s (st_aload_n dX12_sum_57 rfl rfl) ?_
  refine ao_cVi (Kc := kX12_term) (As := []) (st := []) dX12_sum_58 ml_X12_187 mv_X12_term rfl e21 (by decide) rfl rfl (Nat.le_of_ble_eq_true rfl) (by decide) (s_X12_term h22 a0) (fun r23 h24 => ?_)
  refine ao_br (br_if_ne (tgt := 66) dX12_sum_61 (by decide)) (fun c27 => ?_) (fun c27 => ?_)
  · refine ao_s (st_iconst dX12_sum_64 ic_0) ?_
    exact ao_ir dX12_sum_65 rfl (by decide)
  · refine ao_s (st_aload_n dX12_sum_66 rfl rfl) ?_
    refine ao_s (st_iload_n dX12_sum_67 rfl rfl) ?_
    refine ao_s (st_iconst dX12_sum_68 ic_0) ?_
    refine ao_cVv (Kc := kX12_puts) (As := [.int s0, .int 0]) (st := []) dX12_sum_69 ml_X12_169 mv_X12_puts rfl e21 (by decide) rfl rfl (Nat.le_of_ble_eq_true rfl) (by decide) (s_X12_puts h24 a0 s0 0) (fun r25 h26 => ?_)
    refine ao_s (st_goto 9 dX12_sum_72 (by decide)) ?_
    exact ao_w (sb_s (sb_n sb_0)) (hk9 h26 a0)
def b_X12_sum_27 (k9 : aH → Nat → Option (Int32 × aH)) (h : aH) (a0 : Nat) : Option (Int32 × aH) :=
(if (sh a0).1 = 19 then
((hR h a0 0).bind fun b22 =>
(aLet (hI h a0 8) fun x23 =>
(if (sh b22).1 = 1 then
(if aIn x23 (sh b22).2 then
(if hI h b22 x23.toNatClampNeg = 43 then
b_X12_sum_46 k9 h a0 2
else
b_X12_sum_46 k9 h a0 3)
else none)
else none)))
else none)
set_option maxHeartbeats 2000000 in
theorem t_X12_sum_27 {k9 : aH → Nat → Option (Int32 × aH)} (hk9 : ∀ (h : aH) (a0 : Nat), AO eI 7 kX12_sum 9 [some (.ref a0), none] [] h (k9 h a0)) (h : aH) (a0 : Nat) : AO eI 7 kX12_sum 27 [some (.ref a0), none] [] h (b_X12_sum_27 k9 h a0) := by
  unfold b_X12_sum_27
  refine ao_s (st_aload_n dX12_sum_27 rfl rfl) ?_
  refine ao_chk (fun e21 => ?_)
  refine ao_getR dX12_sum_28 fl_X12_7 rfl e21 (fun b22 => ?_)
  refine ao_s (st_aload_n dX12_sum_31 rfl rfl) ?_
  refine ao_getI dX12_sum_32 fl_X12_99 rfl e21 ?_
  refine ao_letI (fun x23 => ?_)
  refine ao_chk (fun e24 => ?_)
  refine ao_bald dX12_sum_35 e24 ?_
  refine ao_s (st_bipush dX12_sum_36 bp_43) ?_
  refine ao_br (br_icmp_ne (tgt := 45) dX12_sum_38 (by decide)) (fun c25 => ?_) (fun c25 => ?_)
  · refine ao_s (st_iconst dX12_sum_41 ic_2) ?_
    refine ao_s (st_goto 46 dX12_sum_42 (by decide)) ?_
    exact ao_w (sb_s (sb_n sb_0)) (t_X12_sum_46 hk9 h a0 2)
  · refine ao_s (st_iconst dX12_sum_45 ic_3) ?_
    exact ao_w (sb_s (sb_n sb_0)) (t_X12_sum_46 hk9 h a0 3)
def b_X12_sum_9 (k9 : aH → Nat → Option (Int32 × aH)) (h : aH) (a0 : Nat) : Option (Int32 × aH) :=
(if (sh a0).1 = 19 then
(aBind (f_X12_see h a0) fun r22 h23 =>
(if r22 = 43 then
b_X12_sum_27 k9 h23 a0
else
(aBind (f_X12_see h23 a0) fun r24 h25 =>
(if r24 = 45 then
b_X12_sum_27 k9 h25 a0
else
some (1, h25)))))
else none)
set_option maxHeartbeats 2000000 in
theorem t_X12_sum_9 {k9 : aH → Nat → Option (Int32 × aH)} (hk9 : ∀ (h : aH) (a0 : Nat), AO eI 7 kX12_sum 9 [some (.ref a0), none] [] h (k9 h a0)) (h : aH) (a0 : Nat) : AO eI 7 kX12_sum 9 [some (.ref a0), none] [] h (b_X12_sum_9 k9 h a0) := by
  unfold b_X12_sum_9
  refine ao_s (st_aload_n dX12_sum_9 rfl rfl) ?_
  refine ao_chk (fun e21 => ?_)
  refine ao_cVi (Kc := kX12_see) (As := []) (st := []) dX12_sum_10 ml_X12_102 mv_X12_see rfl e21 (by decide) rfl rfl (Nat.le_of_ble_eq_true rfl) (by decide) (s_X12_see h a0) (fun r22 h23 => ?_)
  refine ao_s (st_bipush dX12_sum_13 bp_43) ?_
  refine ao_br (br_icmp_eq (tgt := 27) dX12_sum_15 (by decide)) (fun c27 => ?_) (fun c27 => ?_)
  · exact ao_w (sb_s (sb_n sb_0)) (t_X12_sum_27 hk9 h23 a0)
  · refine ao_s (st_aload_n dX12_sum_18 rfl rfl) ?_
    refine ao_cVi (Kc := kX12_see) (As := []) (st := []) dX12_sum_19 ml_X12_102 mv_X12_see rfl e21 (by decide) rfl rfl (Nat.le_of_ble_eq_true rfl) (by decide) (s_X12_see h23 a0) (fun r24 h25 => ?_)
    refine ao_s (st_bipush dX12_sum_22 bp_45) ?_
    refine ao_br (br_icmp_ne (tgt := 75) dX12_sum_24 (by decide)) (fun c26 => ?_) (fun c26 => ?_)
    · exact ao_w (sb_s (sb_n sb_0)) (t_X12_sum_27 hk9 h25 a0)
    · refine ao_s (st_iconst dX12_sum_75 ic_1) ?_
      exact ao_ir dX12_sum_76 rfl (by decide)
def f_X12_sum_9 (n : Nat) : aH → Nat → Option (Int32 × aH) := aIt (fun _ _ => none) (fun k => b_X12_sum_9 k) n
theorem l_X12_sum_9 (n : Nat) : ∀ (h : aH) (a0 : Nat), AO eI 7 kX12_sum 9 [some (.ref a0), none] [] h (f_X12_sum_9 n h a0) := by
  induction n with
  | zero => intros; exact ao_none
  | succ n ih =>
    intro h a0
    exact t_X12_sum_9 ih h a0
def f_X12_sum (h : aH) (a0 : Nat) : Option (Int32 × aH) :=
(if (sh a0).1 = 19 then
(aBind (f_X12_term h a0) fun r22 h23 =>
(if r22 = 0 then
some (0, h23)
else
f_X12_sum_9 2000 h23 a0))
else none)
set_option maxHeartbeats 2000000 in
theorem s_X12_sum (h : aH) (a0 : Nat) : SO eI 7 kX12_sum [.ref a0] h (f_X12_sum h a0) := by
  refine so_of (lv0 := [some (.ref a0), none]) pn_X12 (Nat.le_of_ble_eq_true rfl) rfl ?_
  unfold f_X12_sum
  refine ao_s (st_aload_n dX12_sum_0 rfl rfl) ?_
  refine ao_chk (fun e21 => ?_)
  refine ao_cVi (Kc := kX12_term) (As := []) (st := []) dX12_sum_1 ml_X12_187 mv_X12_term rfl e21 (by decide) rfl rfl (Nat.le_of_ble_eq_true rfl) (by decide) (s_X12_term h a0) (fun r22 h23 => ?_)
  refine ao_br (br_if_ne (tgt := 9) dX12_sum_4 (by decide)) (fun c24 => ?_) (fun c24 => ?_)
  · refine ao_s (st_iconst dX12_sum_7 ic_0) ?_
    exact ao_ir dX12_sum_8 rfl (by decide)
  · exact ao_w (sb_s (sb_n sb_0)) (l_X12_sum_9 2000 h23 a0)
def b_X12_compare_152 (h : aH) (a0 : Nat) (s0 : Int32) : Option (Int32 × aH) :=
(if (sh a0).1 = 19 then
(aBind (f_X12_sum h a0) fun r22 h23 =>
(if r22 = 0 then
some (0, h23)
else
(aBind (f_X12_puts h23 a0 (6 + s0) 0) fun r24 h25 =>
some (1, h25))))
else none)
set_option maxHeartbeats 2000000 in
theorem t_X12_compare_152 (h : aH) (a0 : Nat) (s0 : Int32) : AO eI 8 kX12_compare 152 [some (.ref a0), none, none, none, none] [.int s0] h (b_X12_compare_152 h a0 s0) := by
  unfold b_X12_compare_152
  refine ao_s (st_istore (lv' := [some (.ref a0), none, none, none, some (.int s0)]) dX12_compare_152 (by decide) rfl) ?_
  refine ao_s (st_aload_n dX12_compare_154 rfl rfl) ?_
  refine ao_chk (fun e21 => ?_)
  refine ao_cVi (Kc := kX12_sum) (As := []) (st := []) dX12_compare_155 ml_X12_190 mv_X12_sum rfl e21 (by decide) rfl rfl (Nat.le_of_ble_eq_true rfl) (by decide) (s_X12_sum h a0) (fun r22 h23 => ?_)
  refine ao_br (br_if_ne (tgt := 163) dX12_compare_158 (by decide)) (fun c26 => ?_) (fun c26 => ?_)
  · refine ao_s (st_iconst dX12_compare_161 ic_0) ?_
    exact ao_ir dX12_compare_162 rfl (by decide)
  · refine ao_s (st_aload_n dX12_compare_163 rfl rfl) ?_
    refine ao_s (st_bipush dX12_compare_164 bp_6) ?_
    refine ao_s (st_iload dX12_compare_166 rfl) ?_
    refine ao_s (st_iadd dX12_compare_168) ?_
    refine ao_s (st_iconst dX12_compare_169 ic_0) ?_
    refine ao_cVv (Kc := kX12_puts) (As := [.int (6 + s0), .int 0]) (st := []) dX12_compare_170 ml_X12_169 mv_X12_puts rfl e21 (by decide) rfl rfl (Nat.le_of_ble_eq_true rfl) (by decide) (s_X12_puts h23 a0 (6 + s0) 0) (fun r24 h25 => ?_)
    refine ao_s (st_iconst dX12_compare_173 ic_1) ?_
    exact ao_ir dX12_compare_174 rfl (by decide)
def b_X12_compare_105 (h : aH) (a0 : Nat) (x1 : Int32) (x2 : Int32) (x3 : Int32) : Option (Int32 × aH) :=
(if (sh a0).1 = 19 then
(aBind (f_X12_makes h a0 x2) fun r22 h23 =>
(if r22 = 0 then
some (0, h23)
else
(if x1 = 60 then
(if x3 = 0 then
b_X12_compare_152 h23 a0 0
else
b_X12_compare_152 h23 a0 1)
else
(if x1 = 61 then
b_X12_compare_152 h23 a0 2
else
(if x3 = 0 then
b_X12_compare_152 h23 a0 4
else
b_X12_compare_152 h23 a0 3)))))
else none)
set_option maxHeartbeats 2000000 in
theorem t_X12_compare_105 (h : aH) (a0 : Nat) (x1 : Int32) (x2 : Int32) (x3 : Int32) : AO eI 8 kX12_compare 105 [some (.ref a0), some (.int x1), some (.int x2), some (.int x3), none] [] h (b_X12_compare_105 h a0 x1 x2 x3) := by
  unfold b_X12_compare_105
  refine ao_s (st_aload_n dX12_compare_105 rfl rfl) ?_
  refine ao_s (st_iload_n dX12_compare_106 rfl rfl) ?_
  refine ao_chk (fun e21 => ?_)
  refine ao_cVi (Kc := kX12_makes) (As := [.int x2]) (st := []) dX12_compare_107 ml_X12_177 mv_X12_makes rfl e21 (by decide) rfl rfl (Nat.le_of_ble_eq_true rfl) (by decide) (s_X12_makes h a0 x2) (fun r22 h23 => ?_)
  refine ao_br (br_if_ne (tgt := 115) dX12_compare_110 (by decide)) (fun c28 => ?_) (fun c28 => ?_)
  · refine ao_s (st_iconst dX12_compare_113 ic_0) ?_
    exact ao_ir dX12_compare_114 rfl (by decide)
  · refine ao_s (st_iload_n dX12_compare_115 rfl rfl) ?_
    refine ao_s (st_bipush dX12_compare_116 bp_60) ?_
    refine ao_br (br_icmp_ne (tgt := 133) dX12_compare_118 (by decide)) (fun c27 => ?_) (fun c27 => ?_)
    · refine ao_s (st_iload_n dX12_compare_121 rfl rfl) ?_
      refine ao_br (br_if_eq (tgt := 129) dX12_compare_122 (by decide)) (fun c24 => ?_) (fun c24 => ?_)
      · refine ao_s (st_iconst dX12_compare_129 ic_0) ?_
        refine ao_s (st_goto 152 dX12_compare_130 (by decide)) ?_
        exact ao_w (sb_s (sb_n (sb_n (sb_n (sb_n sb_0))))) (t_X12_compare_152 h23 a0 0)
      · refine ao_s (st_iconst dX12_compare_125 ic_1) ?_
        refine ao_s (st_goto 152 dX12_compare_126 (by decide)) ?_
        exact ao_w (sb_s (sb_n (sb_n (sb_n (sb_n sb_0))))) (t_X12_compare_152 h23 a0 1)
    · refine ao_s (st_iload_n dX12_compare_133 rfl rfl) ?_
      refine ao_s (st_bipush dX12_compare_134 bp_61) ?_
      refine ao_br (br_icmp_ne (tgt := 143) dX12_compare_136 (by decide)) (fun c26 => ?_) (fun c26 => ?_)
      · refine ao_s (st_iconst dX12_compare_139 ic_2) ?_
        refine ao_s (st_goto 152 dX12_compare_140 (by decide)) ?_
        exact ao_w (sb_s (sb_n (sb_n (sb_n (sb_n sb_0))))) (t_X12_compare_152 h23 a0 2)
      · refine ao_s (st_iload_n dX12_compare_143 rfl rfl) ?_
        refine ao_br (br_if_eq (tgt := 151) dX12_compare_144 (by decide)) (fun c25 => ?_) (fun c25 => ?_)
        · refine ao_s (st_iconst dX12_compare_151 ic_4) ?_
          exact ao_w (sb_s (sb_n (sb_n (sb_n (sb_n sb_0))))) (t_X12_compare_152 h23 a0 4)
        · refine ao_s (st_iconst dX12_compare_147 ic_3) ?_
          refine ao_s (st_goto 152 dX12_compare_148 (by decide)) ?_
          exact ao_w (sb_s (sb_n (sb_n (sb_n (sb_n sb_0))))) (t_X12_compare_152 h23 a0 3)
def b_X12_compare_90 (h : aH) (a0 : Nat) (x1 : Int32) (x2 : Int32) (s0 : Int32) : Option (Int32 × aH) :=
(if s0 = 0 then
b_X12_compare_105 h a0 x1 x2 s0
else
(if (sh a0).1 = 19 then
(aLet (pI h a0 8 ((hI h a0 8) + 1)) fun h22 =>
b_X12_compare_105 h22 a0 x1 x2 s0)
else none))
set_option maxHeartbeats 2000000 in
theorem t_X12_compare_90 (h : aH) (a0 : Nat) (x1 : Int32) (x2 : Int32) (s0 : Int32) : AO eI 8 kX12_compare 90 [some (.ref a0), some (.int x1), some (.int x2), none, none] [.int s0] h (b_X12_compare_90 h a0 x1 x2 s0) := by
  unfold b_X12_compare_90
  refine ao_s (st_istore_n (lv' := [some (.ref a0), some (.int x1), some (.int x2), some (.int s0), none]) dX12_compare_90 rfl (by decide) rfl) ?_
  refine ao_s (st_iload_n dX12_compare_91 rfl rfl) ?_
  refine ao_br (br_if_eq (tgt := 105) dX12_compare_92 (by decide)) (fun c23 => ?_) (fun c23 => ?_)
  · exact ao_w (sb_s (sb_s (sb_s (sb_s (sb_n sb_0))))) (t_X12_compare_105 h a0 x1 x2 s0)
  · refine ao_s (st_aload_n dX12_compare_95 rfl rfl) ?_
    refine ao_s (st_dup dX12_compare_96 rfl) ?_
    refine ao_chk (fun e21 => ?_)
    refine ao_getI dX12_compare_97 fl_X12_99 rfl e21 ?_
    refine ao_s (st_iconst dX12_compare_100 ic_1) ?_
    refine ao_s (st_iadd dX12_compare_101) ?_
    refine ao_putI dX12_compare_102 fl_X12_99 rfl rfl rfl rfl e21 ?_
    refine ao_letH (fun h22 => ?_)
    exact ao_w (sb_s (sb_s (sb_s (sb_s (sb_n sb_0))))) (t_X12_compare_105 h22 a0 x1 x2 s0)
def b_X12_compare_89 (h : aH) (a0 : Nat) (x1 : Int32) (x2 : Int32) : Option (Int32 × aH) :=
b_X12_compare_90 h a0 x1 x2 0
set_option maxHeartbeats 2000000 in
theorem t_X12_compare_89 (h : aH) (a0 : Nat) (x1 : Int32) (x2 : Int32) : AO eI 8 kX12_compare 89 [some (.ref a0), some (.int x1), some (.int x2), none, none] [] h (b_X12_compare_89 h a0 x1 x2) := by
  unfold b_X12_compare_89
  refine ao_s (st_iconst dX12_compare_89 ic_0) ?_
  exact ao_w (sb_s (sb_s (sb_s (sb_n (sb_n sb_0))))) (t_X12_compare_90 h a0 x1 x2 0)
def b_X12_compare_44 (h : aH) (a0 : Nat) (x1 : Int32) (x2 : Int32) : Option (Int32 × aH) :=
(if (sh a0).1 = 19 then
(aLet (pI h a0 8 ((hI h a0 8) + 1)) fun h22 =>
(if x1 = 61 then
b_X12_compare_89 h22 a0 x1 x2
else
(if hI h22 a0 1 ≤ hI h22 a0 8 then
b_X12_compare_89 h22 a0 x1 x2
else
((hR h22 a0 0).bind fun b23 =>
(aLet (hI h22 a0 8) fun x24 =>
(if (sh b23).1 = 1 then
(if aIn x24 (sh b23).2 then
(if hI h22 b23 x24.toNatClampNeg = 61 then
b_X12_compare_90 h22 a0 x1 x2 1
else
b_X12_compare_89 h22 a0 x1 x2)
else none)
else none))))))
else none)
set_option maxHeartbeats 2000000 in
theorem t_X12_compare_44 (h : aH) (a0 : Nat) (x1 : Int32) (x2 : Int32) : AO eI 8 kX12_compare 44 [some (.ref a0), some (.int x1), some (.int x2), none, none] [] h (b_X12_compare_44 h a0 x1 x2) := by
  unfold b_X12_compare_44
  refine ao_s (st_aload_n dX12_compare_44 rfl rfl) ?_
  refine ao_s (st_dup dX12_compare_45 rfl) ?_
  refine ao_chk (fun e21 => ?_)
  refine ao_getI dX12_compare_46 fl_X12_99 rfl e21 ?_
  refine ao_s (st_iconst dX12_compare_49 ic_1) ?_
  refine ao_s (st_iadd dX12_compare_50) ?_
  refine ao_putI dX12_compare_51 fl_X12_99 rfl rfl rfl rfl e21 ?_
  refine ao_letH (fun h22 => ?_)
  refine ao_s (st_iload_n dX12_compare_54 rfl rfl) ?_
  refine ao_s (st_bipush dX12_compare_55 bp_61) ?_
  refine ao_br (br_icmp_eq (tgt := 89) dX12_compare_57 (by decide)) (fun c28 => ?_) (fun c28 => ?_)
  · exact ao_w (sb_s (sb_s (sb_s (sb_n (sb_n sb_0))))) (t_X12_compare_89 h22 a0 x1 x2)
  · refine ao_s (st_aload_n dX12_compare_60 rfl rfl) ?_
    refine ao_getI dX12_compare_61 fl_X12_99 rfl e21 ?_
    refine ao_s (st_aload_n dX12_compare_64 rfl rfl) ?_
    refine ao_getI dX12_compare_65 fl_X12_89 rfl e21 ?_
    refine ao_br (br_icmp_ge (tgt := 89) dX12_compare_68 (by decide)) (fun c27 => ?_) (fun c27 => ?_)
    · exact ao_w (sb_s (sb_s (sb_s (sb_n (sb_n sb_0))))) (t_X12_compare_89 h22 a0 x1 x2)
    · refine ao_s (st_aload_n dX12_compare_71 rfl rfl) ?_
      refine ao_getR dX12_compare_72 fl_X12_7 rfl e21 (fun b23 => ?_)
      refine ao_s (st_aload_n dX12_compare_75 rfl rfl) ?_
      refine ao_getI dX12_compare_76 fl_X12_99 rfl e21 ?_
      refine ao_letI (fun x24 => ?_)
      refine ao_chk (fun e25 => ?_)
      refine ao_bald dX12_compare_79 e25 ?_
      refine ao_s (st_bipush dX12_compare_80 bp_61) ?_
      refine ao_br (br_icmp_ne (tgt := 89) dX12_compare_82 (by decide)) (fun c26 => ?_) (fun c26 => ?_)
      · refine ao_s (st_iconst dX12_compare_85 ic_1) ?_
        refine ao_s (st_goto 90 dX12_compare_86 (by decide)) ?_
        exact ao_w (sb_s (sb_s (sb_s (sb_n (sb_n sb_0))))) (t_X12_compare_90 h22 a0 x1 x2 1)
      · exact ao_w (sb_s (sb_s (sb_s (sb_n (sb_n sb_0))))) (t_X12_compare_89 h22 a0 x1 x2)
def f_X12_compare (h : aH) (a0 : Nat) : Option (Int32 × aH) :=
(if (sh a0).1 = 19 then
(aBind (f_X12_sum h a0) fun r22 h23 =>
(if r22 = 0 then
some (0, h23)
else
(aBind (f_X12_see h23 a0) fun r24 h25 =>
(aLet (hI h25 a0 8) fun x26 =>
(if r24 = 60 then
b_X12_compare_44 h25 a0 r24 x26
else
(if r24 = 61 then
b_X12_compare_44 h25 a0 r24 x26
else
(if r24 = 62 then
b_X12_compare_44 h25 a0 r24 x26
else
(aBind (f_X12_fails h25 a0 0 x26) fun r27 h28 =>
(if r27 = 0 ∨ r27 = 1 then some (r27, h28) else none)))))))))
else none)
set_option maxHeartbeats 2000000 in
theorem s_X12_compare (h : aH) (a0 : Nat) : SO eI 8 kX12_compare [.ref a0] h (f_X12_compare h a0) := by
  refine so_of (lv0 := [some (.ref a0), none, none, none, none]) pn_X12 (Nat.le_of_ble_eq_true rfl) rfl ?_
  unfold f_X12_compare
  refine ao_s (st_aload_n dX12_compare_0 rfl rfl) ?_
  refine ao_chk (fun e21 => ?_)
  refine ao_cVi (Kc := kX12_sum) (As := []) (st := []) dX12_compare_1 ml_X12_190 mv_X12_sum rfl e21 (by decide) rfl rfl (Nat.le_of_ble_eq_true rfl) (by decide) (s_X12_sum h a0) (fun r22 h23 => ?_)
  refine ao_br (br_if_ne (tgt := 9) dX12_compare_4 (by decide)) (fun c33 => ?_) (fun c33 => ?_)
  · refine ao_s (st_iconst dX12_compare_7 ic_0) ?_
    exact ao_ir dX12_compare_8 rfl (by decide)
  · refine ao_s (st_aload_n dX12_compare_9 rfl rfl) ?_
    refine ao_cVi (Kc := kX12_see) (As := []) (st := []) dX12_compare_10 ml_X12_102 mv_X12_see rfl e21 (by decide) rfl rfl (Nat.le_of_ble_eq_true rfl) (by decide) (s_X12_see h23 a0) (fun r24 h25 => ?_)
    refine ao_s (st_istore_n (lv' := [some (.ref a0), some (.int r24), none, none, none]) dX12_compare_13 rfl (by decide) rfl) ?_
    refine ao_s (st_aload_n dX12_compare_14 rfl rfl) ?_
    refine ao_getI dX12_compare_15 fl_X12_99 rfl e21 ?_
    refine ao_letI (fun x26 => ?_)
    refine ao_s (st_istore_n (lv' := [some (.ref a0), some (.int r24), some (.int x26), none, none]) dX12_compare_18 rfl (by decide) rfl) ?_
    refine ao_s (st_iload_n dX12_compare_19 rfl rfl) ?_
    refine ao_s (st_bipush dX12_compare_20 bp_60) ?_
    refine ao_br (br_icmp_eq (tgt := 44) dX12_compare_22 (by decide)) (fun c32 => ?_) (fun c32 => ?_)
    · exact ao_w (sb_s (sb_s (sb_s (sb_n (sb_n sb_0))))) (t_X12_compare_44 h25 a0 r24 x26)
    · refine ao_s (st_iload_n dX12_compare_25 rfl rfl) ?_
      refine ao_s (st_bipush dX12_compare_26 bp_61) ?_
      refine ao_br (br_icmp_eq (tgt := 44) dX12_compare_28 (by decide)) (fun c31 => ?_) (fun c31 => ?_)
      · exact ao_w (sb_s (sb_s (sb_s (sb_n (sb_n sb_0))))) (t_X12_compare_44 h25 a0 r24 x26)
      · refine ao_s (st_iload_n dX12_compare_31 rfl rfl) ?_
        refine ao_s (st_bipush dX12_compare_32 bp_62) ?_
        refine ao_br (br_icmp_eq (tgt := 44) dX12_compare_34 (by decide)) (fun c30 => ?_) (fun c30 => ?_)
        · exact ao_w (sb_s (sb_s (sb_s (sb_n (sb_n sb_0))))) (t_X12_compare_44 h25 a0 r24 x26)
        · refine ao_s (st_aload_n dX12_compare_37 rfl rfl) ?_
          refine ao_s (st_iconst dX12_compare_38 ic_0) ?_
          refine ao_s (st_iload_n dX12_compare_39 rfl rfl) ?_
          refine ao_cVi (Kc := kX12_fails) (As := [.int 0, .int x26]) (st := []) dX12_compare_40 ml_X12_120 mv_X12_fails rfl e21 (by decide) rfl rfl (Nat.le_of_ble_eq_true rfl) (by decide) (s_X12_fails h25 a0 0 x26) (fun r27 h28 => ?_)
          refine ao_chk (fun c29 => ?_)
          exact ao_ir dX12_compare_43 rfl (nz c29).1
