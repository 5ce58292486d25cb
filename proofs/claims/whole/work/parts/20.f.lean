def b_X4_chooseLook_57 (k14 : aH → Nat → Int32 → Int32 → Option (Unit × aH)) (h : aH) (a0 : Nat) (x1 : Int32) (x2 : Int32) : Option (Unit × aH) :=
k14 h a0 x1 (x2 + 1)
set_option maxHeartbeats 2000000 in
theorem t_X4_chooseLook_57 {k14 : aH → Nat → Int32 → Int32 → Option (Unit × aH)} (hk14 : ∀ (h : aH) (a0 : Nat) (x1 : Int32) (x2 : Int32), AO eV 3 kX4_chooseLook 14 [some (.ref a0), some (.int x1), some (.int x2), none] [] h (k14 h a0 x1 x2)) (h : aH) (a0 : Nat) (x1 : Int32) (x2 : Int32) : AO eV 3 kX4_chooseLook 57 [some (.ref a0), some (.int x1), some (.int x2), none] [] h (b_X4_chooseLook_57 k14 h a0 x1 x2) := by
  unfold b_X4_chooseLook_57
  refine ao_s (st_iinc (lv' := [some (.ref a0), some (.int x1), some (.int (x2 + 1)), none]) dX4_chooseLook_57 rfl nc_1 (by decide) rfl) ?_
  refine ao_s (st_goto 14 dX4_chooseLook_60 (by decide)) ?_
  exact ao_w (sb_s (sb_s (sb_s (sb_n sb_0)))) (hk14 h a0 x1 (x2 + 1))
def b_X4_chooseLook_47 (k14 : aH → Nat → Int32 → Int32 → Option (Unit × aH)) (h : aH) (a0 : Nat) (x1 : Int32) (x2 : Int32) (x3 : Int32) : Option (Unit × aH) :=
(if (sh a0).1 = 11 then
(aLet (pI h a0 7 x2) fun h22 =>
(aLet (pI h22 a0 8 x3) fun h23 =>
b_X4_chooseLook_57 k14 h23 a0 x1 x2))
else none)
set_option maxHeartbeats 2000000 in
theorem t_X4_chooseLook_47 {k14 : aH → Nat → Int32 → Int32 → Option (Unit × aH)} (hk14 : ∀ (h : aH) (a0 : Nat) (x1 : Int32) (x2 : Int32), AO eV 3 kX4_chooseLook 14 [some (.ref a0), some (.int x1), some (.int x2), none] [] h (k14 h a0 x1 x2)) (h : aH) (a0 : Nat) (x1 : Int32) (x2 : Int32) (x3 : Int32) : AO eV 3 kX4_chooseLook 47 [some (.ref a0), some (.int x1), some (.int x2), some (.int x3)] [] h (b_X4_chooseLook_47 k14 h a0 x1 x2 x3) := by
  unfold b_X4_chooseLook_47
  refine ao_s (st_aload_n dX4_chooseLook_47 rfl rfl) ?_
  refine ao_s (st_iload_n dX4_chooseLook_48 rfl rfl) ?_
  refine ao_chk (fun e21 => ?_)
  refine ao_putI dX4_chooseLook_49 fl_X4_35 rfl rfl rfl rfl e21 ?_
  refine ao_letH (fun h22 => ?_)
  refine ao_s (st_aload_n dX4_chooseLook_52 rfl rfl) ?_
  refine ao_s (st_iload_n dX4_chooseLook_53 rfl rfl) ?_
  refine ao_putI dX4_chooseLook_54 fl_X4_38 rfl rfl rfl rfl e21 ?_
  refine ao_letH (fun h23 => ?_)
  exact ao_w (sb_s (sb_s (sb_s (sb_n sb_0)))) (t_X4_chooseLook_57 hk14 h23 a0 x1 x2)
def b_X4_chooseLook_14 (k14 : aH → Nat → Int32 → Int32 → Option (Unit × aH)) (h : aH) (a0 : Nat) (x1 : Int32) (x2 : Int32) : Option (Unit × aH) :=
(if x1 ≤ x2 then
some ((), h)
else
(if (sh a0).1 = 11 then
(if hI h a0 3 ≤ 0 then
some ((), h)
else
(aBind (f_X4_mostAlikeBy h a0 x2) fun r22 h23 =>
(if hI h23 a0 7 < 0 then
b_X4_chooseLook_47 k14 h23 a0 x1 x2 r22
else
(if hI h23 a0 8 ≤ r22 then
b_X4_chooseLook_57 k14 h23 a0 x1 x2
else
b_X4_chooseLook_47 k14 h23 a0 x1 x2 r22))))
else none))
set_option maxHeartbeats 2000000 in
theorem t_X4_chooseLook_14 {k14 : aH → Nat → Int32 → Int32 → Option (Unit × aH)} (hk14 : ∀ (h : aH) (a0 : Nat) (x1 : Int32) (x2 : Int32), AO eV 3 kX4_chooseLook 14 [some (.ref a0), some (.int x1), some (.int x2), none] [] h (k14 h a0 x1 x2)) (h : aH) (a0 : Nat) (x1 : Int32) (x2 : Int32) : AO eV 3 kX4_chooseLook 14 [some (.ref a0), some (.int x1), some (.int x2), none] [] h (b_X4_chooseLook_14 k14 h a0 x1 x2) := by
  unfold b_X4_chooseLook_14
  refine ao_s (st_iload_n dX4_chooseLook_14 rfl rfl) ?_
  refine ao_s (st_iload_n dX4_chooseLook_15 rfl rfl) ?_
  refine ao_br (br_icmp_ge (tgt := 63) dX4_chooseLook_16 (by decide)) (fun c27 => ?_) (fun c27 => ?_)
  · exact ao_vr dX4_chooseLook_63 rfl
  · refine ao_s (st_aload_n dX4_chooseLook_19 rfl rfl) ?_
    refine ao_chk (fun e21 => ?_)
    refine ao_getI dX4_chooseLook_20 fl_X4_22 rfl e21 ?_
    refine ao_br (br_if_le (tgt := 63) dX4_chooseLook_23 (by decide)) (fun c26 => ?_) (fun c26 => ?_)
    · exact ao_vr dX4_chooseLook_63 rfl
    · refine ao_s (st_aload_n dX4_chooseLook_26 rfl rfl) ?_
      refine ao_s (st_iload_n dX4_chooseLook_27 rfl rfl) ?_
      refine ao_cVi (Kc := kX4_mostAlikeBy) (As := [.int x2]) (st := []) dX4_chooseLook_28 ml_X4_91 mv_X4_mostAlikeBy rfl e21 (by decide) rfl rfl (Nat.le_of_ble_eq_true rfl) (by decide) (s_X4_mostAlikeBy h a0 x2) (fun r22 h23 => ?_)
      refine ao_s (st_istore_n (lv' := [some (.ref a0), some (.int x1), some (.int x2), some (.int r22)]) dX4_chooseLook_31 rfl (by decide) rfl) ?_
      refine ao_s (st_aload_n dX4_chooseLook_32 rfl rfl) ?_
      refine ao_getI dX4_chooseLook_33 fl_X4_35 rfl e21 ?_
      refine ao_br (br_if_lt (tgt := 47) dX4_chooseLook_36 (by decide)) (fun c25 => ?_) (fun c25 => ?_)
      · exact ao_w (sb_s (sb_s (sb_s (sb_s sb_0)))) (t_X4_chooseLook_47 hk14 h23 a0 x1 x2 r22)
      · refine ao_s (st_iload_n dX4_chooseLook_39 rfl rfl) ?_
        refine ao_s (st_aload_n dX4_chooseLook_40 rfl rfl) ?_
        refine ao_getI dX4_chooseLook_41 fl_X4_38 rfl e21 ?_
        refine ao_br (br_icmp_ge (tgt := 57) dX4_chooseLook_44 (by decide)) (fun c24 => ?_) (fun c24 => ?_)
        · exact ao_w (sb_s (sb_s (sb_s (sb_n sb_0)))) (t_X4_chooseLook_57 hk14 h23 a0 x1 x2)
        · exact ao_w (sb_s (sb_s (sb_s (sb_s sb_0)))) (t_X4_chooseLook_47 hk14 h23 a0 x1 x2 r22)
def f_X4_chooseLook_14 (n : Nat) : aH → Nat → Int32 → Int32 → Option (Unit × aH) := aIt (fun _ _ _ _ => none) (fun k => b_X4_chooseLook_14 k) n
theorem l_X4_chooseLook_14 (n : Nat) : ∀ (h : aH) (a0 : Nat) (x1 : Int32) (x2 : Int32), AO eV 3 kX4_chooseLook 14 [some (.ref a0), some (.int x1), some (.int x2), none] [] h (f_X4_chooseLook_14 n h a0 x1 x2) := by
  induction n with
  | zero => intros; exact ao_none
  | succ n ih =>
    intro h a0 x1 x2
    exact t_X4_chooseLook_14 ih h a0 x1 x2
def f_X4_chooseLook (h : aH) (a0 : Nat) (x1 : Int32) : Option (Unit × aH) :=
(if (sh a0).1 = 11 then
(aLet (pI h a0 7 (-2)) fun h22 =>
(aLet (pI h22 a0 8 (-2)) fun h23 =>
f_X4_chooseLook_14 2000 h23 a0 x1 0))
else none)
set_option maxHeartbeats 2000000 in
theorem s_X4_chooseLook (h : aH) (a0 : Nat) (x1 : Int32) : SO eV 3 kX4_chooseLook [.ref a0, .int x1] h (f_X4_chooseLook h a0 x1) := by
  refine so_of (lv0 := [some (.ref a0), some (.int x1), none, none]) pn_X4 (Nat.le_of_ble_eq_true rfl) rfl ?_
  unfold f_X4_chooseLook
  refine ao_s (st_aload_n dX4_chooseLook_0 rfl rfl) ?_
  refine ao_s (st_bipush dX4_chooseLook_1 bp_m2) ?_
  refine ao_chk (fun e21 => ?_)
  refine ao_putI dX4_chooseLook_3 fl_X4_35 rfl rfl rfl rfl e21 ?_
  refine ao_letH (fun h22 => ?_)
  refine ao_s (st_aload_n dX4_chooseLook_6 rfl rfl) ?_
  refine ao_s (st_bipush dX4_chooseLook_7 bp_m2) ?_
  refine ao_putI dX4_chooseLook_9 fl_X4_38 rfl rfl rfl rfl e21 ?_
  refine ao_letH (fun h23 => ?_)
  refine ao_s (st_iconst dX4_chooseLook_12 ic_0) ?_
  refine ao_s (st_istore_n (lv' := [some (.ref a0), some (.int x1), some (.int 0), none]) dX4_chooseLook_13 rfl (by decide) rfl) ?_
  exact ao_w (sb_s (sb_s (sb_s (sb_n sb_0)))) (l_X4_chooseLook_14 2000 h23 a0 x1 0)
def f_X5_clear (h : aH) (a0 : Nat) : Option (Unit × aH) :=
(if (sh a0).1 = 12 then
(aLet (pI h a0 4 0) fun h22 =>
(aLet (pI h22 a0 5 0) fun h23 =>
some ((), h23)))
else none)
set_option maxHeartbeats 2000000 in
theorem s_X5_clear (h : aH) (a0 : Nat) : SO eV 2 kX5_clear [.ref a0] h (f_X5_clear h a0) := by
  refine so_of (lv0 := [some (.ref a0)]) pn_X5 (Nat.le_of_ble_eq_true rfl) rfl ?_
  unfold f_X5_clear
  refine ao_s (st_aload_n dX5_clear_0 rfl rfl) ?_
  refine ao_s (st_iconst dX5_clear_1 ic_0) ?_
  refine ao_chk (fun e21 => ?_)
  refine ao_putI dX5_clear_2 fl_X5_22 rfl rfl rfl rfl e21 ?_
  refine ao_letH (fun h22 => ?_)
  refine ao_s (st_aload_n dX5_clear_5 rfl rfl) ?_
  refine ao_s (st_iconst dX5_clear_6 ic_0) ?_
  refine ao_putI dX5_clear_7 fl_X5_26 rfl rfl rfl rfl e21 ?_
  refine ao_letH (fun h23 => ?_)
  exact ao_vr dX5_clear_10 rfl
def f_X5_emit (h : aH) (a0 : Nat) (x1 : Int32) (x2 : Int32) : Option (Unit × aH) :=
(if (sh a0).1 = 12 then
(if 256 ≤ hI h a0 4 then
some ((), h)
else
((hR h a0 0).bind fun b22 =>
(aLet (hI h a0 4) fun x23 =>
(if (sh b22).1 = 0 then
(if aIn x23 (sh b22).2 then
(aLet (pI h b22 x23.toNatClampNeg (x1 ||| (x2 <<< (4 &&& 31)))) fun h25 =>
(aLet (pI h25 a0 4 ((hI h25 a0 4) + 1)) fun h26 =>
some ((), h26)))
else none)
else none))))
else none)
set_option maxHeartbeats 2000000 in
theorem s_X5_emit (h : aH) (a0 : Nat) (x1 : Int32) (x2 : Int32) : SO eV 2 kX5_emit [.ref a0, .int x1, .int x2] h (f_X5_emit h a0 x1 x2) := by
  refine so_of (lv0 := [some (.ref a0), some (.int x1), some (.int x2)]) pn_X5 (Nat.le_of_ble_eq_true rfl) rfl ?_
  unfold f_X5_emit
  refine ao_s (st_aload_n dX5_emit_0 rfl rfl) ?_
  refine ao_chk (fun e21 => ?_)
  refine ao_getI dX5_emit_1 fl_X5_22 rfl e21 ?_
  refine ao_s (st_sipush dX5_emit_4 sp_256) ?_
  refine ao_br (br_icmp_ge (tgt := 34) dX5_emit_7 (by decide)) (fun c27 => ?_) (fun c27 => ?_)
  · exact ao_vr dX5_emit_34 rfl
  · refine ao_s (st_aload_n dX5_emit_10 rfl rfl) ?_
    refine ao_getR dX5_emit_11 fl_X5_9 rfl e21 (fun b22 => ?_)
    refine ao_s (st_aload_n dX5_emit_14 rfl rfl) ?_
    refine ao_getI dX5_emit_15 fl_X5_22 rfl e21 ?_
    refine ao_s (st_iload_n dX5_emit_18 rfl rfl) ?_
    refine ao_s (st_iload_n dX5_emit_19 rfl rfl) ?_
    refine ao_s (st_iconst dX5_emit_20 ic_4) ?_
    refine ao_s (st_ishl dX5_emit_21) ?_
    refine ao_s (st_ior dX5_emit_22) ?_
    refine ao_let2 (fun x23 => ?_)
    refine ao_chk (fun e24 => ?_)
    refine ao_iast dX5_emit_23 e24 ?_
    refine ao_letH (fun h25 => ?_)
    refine ao_s (st_aload_n dX5_emit_24 rfl rfl) ?_
    refine ao_s (st_dup dX5_emit_25 rfl) ?_
    refine ao_getI dX5_emit_26 fl_X5_22 rfl e21 ?_
    refine ao_s (st_iconst dX5_emit_29 ic_1) ?_
    refine ao_s (st_iadd dX5_emit_30) ?_
    refine ao_putI dX5_emit_31 fl_X5_22 rfl rfl rfl rfl e21 ?_
    refine ao_letH (fun h26 => ?_)
    exact ao_vr dX5_emit_34 rfl
def f_X5_addClause (h : aH) (a0 : Nat) (x1 : Int32) (x2 : Int32) : Option (Unit × aH) :=
(if (sh a0).1 = 12 then
(if 12 ≤ hI h a0 5 then
some ((), h)
else
((hR h a0 1).bind fun b22 =>
(aLet (hI h a0 5) fun x23 =>
(if (sh b22).1 = 0 then
(if aIn x23 (sh b22).2 then
(aLet (pI h b22 x23.toNatClampNeg x1) fun h25 =>
((hR h25 a0 2).bind fun b26 =>
(aLet (hI h25 a0 5) fun x27 =>
(if (sh b26).1 = 0 then
(if aIn x27 (sh b26).2 then
(aLet (pI h25 b26 x27.toNatClampNeg x2) fun h29 =>
((hR h29 a0 3).bind fun b30 =>
(aLet (hI h29 a0 5) fun x31 =>
(if (sh b30).1 = 0 then
(if aIn x31 (sh b30).2 then
(aLet (pI h29 b30 x31.toNatClampNeg (hI h29 a0 4)) fun h33 =>
(aLet (pI h33 a0 5 ((hI h33 a0 5) + 1)) fun h34 =>
some ((), h34)))
else none)
else none))))
else none)
else none))))
else none)
else none))))
else none)
set_option maxHeartbeats 2000000 in
theorem s_X5_addClause (h : aH) (a0 : Nat) (x1 : Int32) (x2 : Int32) : SO eV 2 kX5_addClause [.ref a0, .int x1, .int x2] h (f_X5_addClause h a0 x1 x2) := by
  refine so_of (lv0 := [some (.ref a0), some (.int x1), some (.int x2)]) pn_X5 (Nat.le_of_ble_eq_true rfl) rfl ?_
  unfold f_X5_addClause
  refine ao_s (st_aload_n dX5_addClause_0 rfl rfl) ?_
  refine ao_chk (fun e21 => ?_)
  refine ao_getI dX5_addClause_1 fl_X5_26 rfl e21 ?_
  refine ao_s (st_bipush dX5_addClause_4 bp_12) ?_
  refine ao_br (br_icmp_ge (tgt := 52) dX5_addClause_6 (by decide)) (fun c35 => ?_) (fun c35 => ?_)
  · exact ao_vr dX5_addClause_52 rfl
  · refine ao_s (st_aload_n dX5_addClause_9 rfl rfl) ?_
    refine ao_getR dX5_addClause_10 fl_X5_13 rfl e21 (fun b22 => ?_)
    refine ao_s (st_aload_n dX5_addClause_13 rfl rfl) ?_
    refine ao_getI dX5_addClause_14 fl_X5_26 rfl e21 ?_
    refine ao_s (st_iload_n dX5_addClause_17 rfl rfl) ?_
    refine ao_let2 (fun x23 => ?_)
    refine ao_chk (fun e24 => ?_)
    refine ao_iast dX5_addClause_18 e24 ?_
    refine ao_letH (fun h25 => ?_)
    refine ao_s (st_aload_n dX5_addClause_19 rfl rfl) ?_
    refine ao_getR dX5_addClause_20 fl_X5_16 rfl e21 (fun b26 => ?_)
    refine ao_s (st_aload_n dX5_addClause_23 rfl rfl) ?_
    refine ao_getI dX5_addClause_24 fl_X5_26 rfl e21 ?_
    refine ao_s (st_iload_n dX5_addClause_27 rfl rfl) ?_
    refine ao_let2 (fun x27 => ?_)
    refine ao_chk (fun e28 => ?_)
    refine ao_iast dX5_addClause_28 e28 ?_
    refine ao_letH (fun h29 => ?_)
    refine ao_s (st_aload_n dX5_addClause_29 rfl rfl) ?_
    refine ao_getR dX5_addClause_30 fl_X5_19 rfl e21 (fun b30 => ?_)
    refine ao_s (st_aload_n dX5_addClause_33 rfl rfl) ?_
    refine ao_getI dX5_addClause_34 fl_X5_26 rfl e21 ?_
    refine ao_s (st_aload_n dX5_addClause_37 rfl rfl) ?_
    refine ao_getI dX5_addClause_38 fl_X5_22 rfl e21 ?_
    refine ao_let2 (fun x31 => ?_)
    refine ao_chk (fun e32 => ?_)
    refine ao_iast dX5_addClause_41 e32 ?_
    refine ao_letH (fun h33 => ?_)
    refine ao_s (st_aload_n dX5_addClause_42 rfl rfl) ?_
    refine ao_s (st_dup dX5_addClause_43 rfl) ?_
    refine ao_getI dX5_addClause_44 fl_X5_26 rfl e21 ?_
    refine ao_s (st_iconst dX5_addClause_47 ic_1) ?_
    refine ao_s (st_iadd dX5_addClause_48) ?_
    refine ao_putI dX5_addClause_49 fl_X5_26 rfl rfl rfl rfl e21 ?_
    refine ao_letH (fun h34 => ?_)
    exact ao_vr dX5_addClause_52 rfl
def f_X6_isNextWord (h : aH) (a0 : Nat) (a1 : Nat) : Option (Int32 × aH) :=
(if (sh a0).1 = 13 then
((hR h a0 0).bind fun b22 =>
(if (sh b22).1 = 16 then
(if hI h b22 3 = 0 then
((hR h a0 0).bind fun b24 =>
(if (sh b24).1 = 16 then
(aBind (f_X9_takeWord h b24 a1) fun r26 h27 =>
(if r26 = (-1) then
some (0, h27)
else
some (1, h27)))
else none))
else
some (0, h))
else none))
else none)
set_option maxHeartbeats 2000000 in
theorem s_X6_isNextWord (h : aH) (a0 : Nat) (a1 : Nat) : SO eI 7 kX6_isNextWord [.ref a0, .ref a1] h (f_X6_isNextWord h a0 a1) := by
  refine so_of (lv0 := [some (.ref a0), some (.ref a1)]) pn_X6 (Nat.le_of_ble_eq_true rfl) rfl ?_
  unfold f_X6_isNextWord
  refine ao_s (st_aload_n dX6_isNextWord_0 rfl rfl) ?_
  refine ao_chk (fun e21 => ?_)
  refine ao_getR dX6_isNextWord_1 fl_X6_22 rfl e21 (fun b22 => ?_)
  refine ao_chk (fun e23 => ?_)
  refine ao_getI dX6_isNextWord_4 fl_X6_38 rfl e23 ?_
  refine ao_br (br_if_ne (tgt := 26) dX6_isNextWord_7 (by decide)) (fun c29 => ?_) (fun c29 => ?_)
  · refine ao_s (st_aload_n dX6_isNextWord_10 rfl rfl) ?_
    refine ao_getR dX6_isNextWord_11 fl_X6_22 rfl e21 (fun b24 => ?_)
    refine ao_s (st_aload_n dX6_isNextWord_14 rfl rfl) ?_
    refine ao_chk (fun e25 => ?_)
    refine ao_cVi (Kc := kX9_takeWord) (As := [.ref a1]) (st := []) dX6_isNextWord_15 ml_X6_61 mv_X9_takeWord rfl e25 (by decide) rfl rfl (Nat.le_of_ble_eq_true rfl) (by decide) (s_X9_takeWord h b24 a1) (fun r26 h27 => ?_)
    refine ao_s (st_iconst dX6_isNextWord_18 ic_m1) ?_
    refine ao_br (br_icmp_eq (tgt := 26) dX6_isNextWord_19 (by decide)) (fun c28 => ?_) (fun c28 => ?_)
    · refine ao_s (st_iconst dX6_isNextWord_26 ic_0) ?_
      exact ao_ir dX6_isNextWord_27 rfl (by decide)
    · refine ao_s (st_iconst dX6_isNextWord_22 ic_1) ?_
      refine ao_s (st_goto 27 dX6_isNextWord_23 (by decide)) ?_
      exact ao_ir dX6_isNextWord_27 rfl (by decide)
  · refine ao_s (st_iconst dX6_isNextWord_26 ic_0) ?_
    exact ao_ir dX6_isNextWord_27 rfl (by decide)
def b_X6_countValue_18 (h : aH) (a0 : Nat) : Option (Unit × aH) :=
(if (sh a0).1 = 13 then
(aLet (pI h a0 2 ((hI h a0 2) + 1)) fun h22 =>
some ((), h22))
else none)
set_option maxHeartbeats 2000000 in
theorem t_X6_countValue_18 (h : aH) (a0 : Nat) : AO eV 3 kX6_countValue 18 [some (.ref a0), none] [] h (b_X6_countValue_18 h a0) := by
  unfold b_X6_countValue_18
  refine ao_s (st_aload_n dX6_countValue_18 rfl rfl) ?_
  refine ao_s (st_dup dX6_countValue_19 rfl) ?_
  refine ao_chk (fun e21 => ?_)
  refine ao_getI dX6_countValue_20 fl_X6_18 rfl e21 ?_
  refine ao_s (st_iconst dX6_countValue_23 ic_1) ?_
  refine ao_s (st_iadd dX6_countValue_24) ?_
  refine ao_putI dX6_countValue_25 fl_X6_18 rfl rfl rfl rfl e21 ?_
  refine ao_letH (fun h22 => ?_)
  exact ao_vr dX6_countValue_28 rfl
def f_X6_countValue (h : aH) (a0 : Nat) (x1 : Int32) : Option (Unit × aH) :=
(if (sh a0).1 = 13 then
(if hI h a0 2 < 60 then
b_X6_countValue_18 h a0
else
((hR h a0 0).bind fun b22 =>
(if (sh b22).1 = 16 then
(aBind (f_X9_blame h b22 x1 3) fun r24 h25 =>
b_X6_countValue_18 h25 a0)
else none)))
else none)
set_option maxHeartbeats 2000000 in
theorem s_X6_countValue (h : aH) (a0 : Nat) (x1 : Int32) : SO eV 3 kX6_countValue [.ref a0, .int x1] h (f_X6_countValue h a0 x1) := by
  refine so_of (lv0 := [some (.ref a0), some (.int x1)]) pn_X6 (Nat.le_of_ble_eq_true rfl) rfl ?_
  unfold f_X6_countValue
  refine ao_s (st_aload_n dX6_countValue_0 rfl rfl) ?_
  refine ao_chk (fun e21 => ?_)
  refine ao_getI dX6_countValue_1 fl_X6_18 rfl e21 ?_
  refine ao_s (st_bipush dX6_countValue_4 bp_60) ?_
  refine ao_br (br_icmp_lt (tgt := 18) dX6_countValue_6 (by decide)) (fun c26 => ?_) (fun c26 => ?_)
  · exact ao_w (sb_s (sb_n sb_0)) (t_X6_countValue_18 h a0)
  · refine ao_s (st_aload_n dX6_countValue_9 rfl rfl) ?_
    refine ao_getR dX6_countValue_10 fl_X6_22 rfl e21 (fun b22 => ?_)
    refine ao_s (st_iload_n dX6_countValue_13 rfl rfl) ?_
    refine ao_s (st_iconst dX6_countValue_14 ic_3) ?_
    refine ao_chk (fun e23 => ?_)
    refine ao_cVv (Kc := kX9_blame) (As := [.int x1, .int 3]) (st := []) dX6_countValue_15 ml_X6_52 mv_X9_blame rfl e23 (by decide) rfl rfl (Nat.le_of_ble_eq_true rfl) (by decide) (s_X9_blame h b22 x1 3) (fun r24 h25 => ?_)
    exact ao_w (sb_s (sb_n sb_0)) (t_X6_countValue_18 h25 a0)
def f_X9_isDigitHere (h : aH) (a0 : Nat) : Option (Int32 × aH) :=
(if (sh a0).1 = 16 then
(aBind (f_X9_byteAt h a0 (hI h a0 2)) fun r22 h23 =>
(aBind (f_X9_isDigit h23 a0 r22) fun r24 h25 =>
(if r24 = 0 ∨ r24 = 1 then some (r24, h25) else none)))
else none)
set_option maxHeartbeats 2000000 in
theorem s_X9_isDigitHere (h : aH) (a0 : Nat) : SO eI 3 kX9_isDigitHere [.ref a0] h (f_X9_isDigitHere h a0) := by
  refine so_of (lv0 := [some (.ref a0)]) pn_X9 (Nat.le_of_ble_eq_true rfl) rfl ?_
  unfold f_X9_isDigitHere
  refine ao_s (st_aload_n dX9_isDigitHere_0 rfl rfl) ?_
  refine ao_s (st_aload_n dX9_isDigitHere_1 rfl rfl) ?_
  refine ao_s (st_aload_n dX9_isDigitHere_2 rfl rfl) ?_
  refine ao_chk (fun e21 => ?_)
  refine ao_getI dX9_isDigitHere_3 fl_X9_19 rfl e21 ?_
  refine ao_cVi (Kc := kX9_byteAt) (As := [.int (hI h a0 2)]) (st := [.ref a0]) dX9_isDigitHere_6 ml_X9_29 mv_X9_byteAt rfl e21 (by decide) rfl rfl (Nat.le_of_ble_eq_true rfl) (by decide) (s_X9_byteAt h a0 (hI h a0 2)) (fun r22 h23 => ?_)
  refine ao_cVi (Kc := kX9_isDigit) (As := [.int r22]) (st := []) dX9_isDigitHere_9 ml_X9_36 mv_X9_isDigit rfl e21 (by decide) rfl rfl (Nat.le_of_ble_eq_true rfl) (by decide) (s_X9_isDigit h23 a0 r22) (fun r24 h25 => ?_)
  refine ao_chk (fun c26 => ?_)
  exact ao_ir dX9_isDigitHere_12 rfl (nz c26).1
def b_X6_readValue_83 (h : aH) (a0 : Nat) (x1 : Int32) : Option (Unit × aH) :=
(if (sh a0).1 = 13 then
(aBind (f_X6_countValue h a0 x1) fun r22 h23 =>
some ((), h23))
else none)
set_option maxHeartbeats 2000000 in
theorem t_X6_readValue_83 (h : aH) (a0 : Nat) (x1 : Int32) : AO eV 7 kX6_readValue 83 [some (.ref a0), some (.int x1), none] [] h (b_X6_readValue_83 h a0 x1) := by
  unfold b_X6_readValue_83
  refine ao_s (st_aload_n dX6_readValue_83 rfl rfl) ?_
  refine ao_s (st_iload_n dX6_readValue_84 rfl rfl) ?_
  refine ao_chk (fun e21 => ?_)
  refine ao_cVv (Kc := kX6_countValue) (As := [.int x1]) (st := []) dX6_readValue_85 ml_X6_107 mv_X6_countValue rfl e21 (by decide) rfl rfl (Nat.le_of_ble_eq_true rfl) (by decide) (s_X6_countValue h a0 x1) (fun r22 h23 => ?_)
  exact ao_vr dX6_readValue_88 rfl
def f_X6_readValue (h : aH) (a0 : Nat) : Option (Unit × aH) :=
(if (sh a0).1 = 13 then
((hR h a0 0).bind fun b22 =>
(if (sh b22).1 = 16 then
(if hI h b22 3 = 0 then
((hR h a0 0).bind fun b24 =>
(if (sh b24).1 = 16 then
(aBind (f_X9_seek h b24) fun r26 h27 =>
((hR h27 a0 0).bind fun b28 =>
(if (sh b28).1 = 16 then
(aBind (f_X9_isDigitHere h27 b28) fun r30 h31 =>
(if r30 = 0 then
((hR h31 a0 0).bind fun b32 =>
(if (sh b32).1 = 16 then
(aBind (f_X9_takeWord h31 b32 1001) fun r34 h35 =>
(if r34 = (-1) then
((hR h35 a0 0).bind fun b36 =>
(if (sh b36).1 = 16 then
(aBind (f_X9_blame h35 b36 r26 0) fun r38 h39 =>
some ((), h39))
else none))
else
((hR h35 a0 1).bind fun b40 =>
(if (sh b40).1 = 12 then
(aBind (f_X5_emit h35 b40 1 r34) fun r42 h43 =>
b_X6_readValue_83 h43 a0 r26)
else none))))
else none))
else
((hR h31 a0 1).bind fun b45 =>
((hR h31 a0 0).bind fun b46 =>
(if (sh b46).1 = 16 then
(aBind (f_X9_takeNumber h31 b46 99999) fun r48 h49 =>
(if (sh b45).1 = 12 then
(aBind (f_X5_emit h49 b45 0 r48) fun r51 h52 =>
b_X6_readValue_83 h52 a0 r26)
else none))
else none)))))
else none)))
else none))
else
some ((), h))
else none))
else none)
set_option maxHeartbeats 2000000 in
theorem s_X6_readValue (h : aH) (a0 : Nat) : SO eV 7 kX6_readValue [.ref a0] h (f_X6_readValue h a0) := by
  refine so_of (lv0 := [some (.ref a0), none, none]) pn_X6 (Nat.le_of_ble_eq_true rfl) rfl ?_
  unfold f_X6_readValue
  refine ao_s (st_aload_n dX6_readValue_0 rfl rfl) ?_
  refine ao_chk (fun e21 => ?_)
  refine ao_getR dX6_readValue_1 fl_X6_22 rfl e21 (fun b22 => ?_)
  refine ao_chk (fun e23 => ?_)
  refine ao_getI dX6_readValue_4 fl_X6_38 rfl e23 ?_
  refine ao_br (br_if_eq (tgt := 11) dX6_readValue_7 (by decide)) (fun c54 => ?_) (fun c54 => ?_)
  · refine ao_s (st_aload_n dX6_readValue_11 rfl rfl) ?_
    refine ao_getR dX6_readValue_12 fl_X6_22 rfl e21 (fun b24 => ?_)
    refine ao_chk (fun e25 => ?_)
    refine ao_cVi (Kc := kX9_seek) (As := []) (st := []) dX6_readValue_15 ml_X6_56 mv_X9_seek rfl e25 (by decide) rfl rfl (Nat.le_of_ble_eq_true rfl) (by decide) (s_X9_seek h b24) (fun r26 h27 => ?_)
    refine ao_s (st_istore_n (lv' := [some (.ref a0), some (.int r26), none]) dX6_readValue_18 rfl (by decide) rfl) ?_
    refine ao_s (st_aload_n dX6_readValue_19 rfl rfl) ?_
    refine ao_getR dX6_readValue_20 fl_X6_22 rfl e21 (fun b28 => ?_)
    refine ao_chk (fun e29 => ?_)
    refine ao_cVi (Kc := kX9_isDigitHere) (As := []) (st := []) dX6_readValue_23 ml_X6_116 mv_X9_isDigitHere rfl e29 (by decide) rfl rfl (Nat.le_of_ble_eq_true rfl) (by decide) (s_X9_isDigitHere h27 b28) (fun r30 h31 => ?_)
    refine ao_br (br_if_eq (tgt := 49) dX6_readValue_26 (by decide)) (fun c53 => ?_) (fun c53 => ?_)
    · refine ao_s (st_aload_n dX6_readValue_49 rfl rfl) ?_
      refine ao_getR dX6_readValue_50 fl_X6_22 rfl e21 (fun b32 => ?_)
      refine ao_s (st_ldcS (i := 1) dX6_readValue_53 (by decide) rfl rfl) ?_
      refine ao_chk (fun e33 => ?_)
      refine ao_cVi (Kc := kX9_takeWord) (As := [.ref 1001]) (st := []) dX6_readValue_55 ml_X6_61 mv_X9_takeWord rfl e33 (by decide) rfl rfl (Nat.le_of_ble_eq_true rfl) (by decide) (s_X9_takeWord h31 b32 1001) (fun r34 h35 => ?_)
      refine ao_s (st_istore_n (lv' := [some (.ref a0), some (.int r26), some (.int r34)]) dX6_readValue_58 rfl (by decide) rfl) ?_
      refine ao_s (st_iload_n dX6_readValue_59 rfl rfl) ?_
      refine ao_s (st_iconst dX6_readValue_60 ic_m1) ?_
      refine ao_br (br_icmp_ne (tgt := 74) dX6_readValue_61 (by decide)) (fun c44 => ?_) (fun c44 => ?_)
      · refine ao_s (st_aload_n dX6_readValue_64 rfl rfl) ?_
        refine ao_getR dX6_readValue_65 fl_X6_22 rfl e21 (fun b36 => ?_)
        refine ao_s (st_iload_n dX6_readValue_68 rfl rfl) ?_
        refine ao_s (st_iconst dX6_readValue_69 ic_0) ?_
        refine ao_chk (fun e37 => ?_)
        refine ao_cVv (Kc := kX9_blame) (As := [.int r26, .int 0]) (st := []) dX6_readValue_70 ml_X6_52 mv_X9_blame rfl e37 (by decide) rfl rfl (Nat.le_of_ble_eq_true rfl) (by decide) (s_X9_blame h35 b36 r26 0) (fun r38 h39 => ?_)
        exact ao_vr dX6_readValue_73 rfl
      · refine ao_s (st_aload_n dX6_readValue_74 rfl rfl) ?_
        refine ao_getR dX6_readValue_75 fl_X6_12 rfl e21 (fun b40 => ?_)
        refine ao_s (st_iconst dX6_readValue_78 ic_1) ?_
        refine ao_s (st_iload_n dX6_readValue_79 rfl rfl) ?_
        refine ao_chk (fun e41 => ?_)
        refine ao_cVv (Kc := kX5_emit) (As := [.int 1, .int r34]) (st := []) dX6_readValue_80 ml_X6_88 mv_X5_emit rfl e41 (by decide) rfl rfl (Nat.le_of_ble_eq_true rfl) (by decide) (s_X5_emit h35 b40 1 r34) (fun r42 h43 => ?_)
        exact ao_w (sb_s (sb_s (sb_n sb_0))) (t_X6_readValue_83 h43 a0 r26)
    · refine ao_s (st_aload_n dX6_readValue_29 rfl rfl) ?_
      refine ao_getR dX6_readValue_30 fl_X6_12 rfl e21 (fun b45 => ?_)
      refine ao_s (st_iconst dX6_readValue_33 ic_0) ?_
      refine ao_s (st_aload_n dX6_readValue_34 rfl rfl) ?_
      refine ao_getR dX6_readValue_35 fl_X6_22 rfl e21 (fun b46 => ?_)
      refine ao_s (st_ldc dX6_readValue_38 ci_X6_120) ?_
      refine ao_chk (fun e47 => ?_)
      refine ao_cVi (Kc := kX9_takeNumber) (As := [.int 99999]) (st := [.int 0, .ref b45]) dX6_readValue_40 ml_X6_121 mv_X9_takeNumber rfl e47 (by decide) rfl rfl (Nat.le_of_ble_eq_true rfl) (by decide) (s_X9_takeNumber h31 b46 99999) (fun r48 h49 => ?_)
      refine ao_chk (fun e50 => ?_)
      refine ao_cVv (Kc := kX5_emit) (As := [.int 0, .int r48]) (st := []) dX6_readValue_43 ml_X6_88 mv_X5_emit rfl e50 (by decide) rfl rfl (Nat.le_of_ble_eq_true rfl) (by decide) (s_X5_emit h49 b45 0 r48) (fun r51 h52 => ?_)
      refine ao_s (st_goto 83 dX6_readValue_46 (by decide)) ?_
      exact ao_w (sb_s (sb_s (sb_n sb_0))) (t_X6_readValue_83 h52 a0 r26)
  · exact ao_vr dX6_readValue_10 rfl
def b_X6_takeOperator_96 (h : aH) (a0 : Nat) (x1 : Int32) : Option (Int32 × aH) :=
(if (sh a0).1 = 13 then
((hR h a0 0).bind fun b22 =>
(if (sh b22).1 = 16 then
(aLet (pI h b22 2 ((hI h b22 2) + 1)) fun h24 =>
some (x1, h24))
else none))
else none)
set_option maxHeartbeats 2000000 in
theorem t_X6_takeOperator_96 (h : aH) (a0 : Nat) (x1 : Int32) : AO eI 4 kX6_takeOperator 96 [some (.ref a0), some (.int x1)] [] h (b_X6_takeOperator_96 h a0 x1) := by
  unfold b_X6_takeOperator_96
  refine ao_s (st_aload_n dX6_takeOperator_96 rfl rfl) ?_
  refine ao_chk (fun e21 => ?_)
  refine ao_getR dX6_takeOperator_97 fl_X6_22 rfl e21 (fun b22 => ?_)
  refine ao_s (st_dup dX6_takeOperator_100 rfl) ?_
  refine ao_chk (fun e23 => ?_)
  refine ao_getI dX6_takeOperator_101 fl_X6_49 rfl e23 ?_
  refine ao_s (st_iconst dX6_takeOperator_104 ic_1) ?_
  refine ao_s (st_iadd dX6_takeOperator_105) ?_
  refine ao_putI dX6_takeOperator_106 fl_X6_49 rfl rfl rfl rfl e23 ?_
  refine ao_letH (fun h24 => ?_)
  refine ao_s (st_iload_n dX6_takeOperator_109 rfl rfl) ?_
  exact ao_ir dX6_takeOperator_110 rfl rfl
def f_X6_takeOperator (h : aH) (a0 : Nat) : Option (Int32 × aH) :=
(if (sh a0).1 = 13 then
((hR h a0 0).bind fun b22 =>
(if (sh b22).1 = 16 then
(aBind (f_X9_next h b22) fun r24 h25 =>
(if r24 = 37 then
b_X6_takeOperator_96 h25 a0 6
else
(if r24 = 38 then
some ((-1), h25)
else
(if r24 = 39 then
some ((-1), h25)
else
(if r24 = 40 then
some ((-1), h25)
else
(if r24 = 41 then
some ((-1), h25)
else
(if r24 = 42 then
b_X6_takeOperator_96 h25 a0 4
else
(if r24 = 43 then
b_X6_takeOperator_96 h25 a0 2
else
(if r24 = 44 then
some ((-1), h25)
else
(if r24 = 45 then
b_X6_takeOperator_96 h25 a0 3
else
(if r24 = 46 then
some ((-1), h25)
else
(if r24 = 47 then
b_X6_takeOperator_96 h25 a0 5
else
some ((-1), h25)))))))))))))
else none))
else none)
set_option maxHeartbeats 2000000 in
theorem s_X6_takeOperator (h : aH) (a0 : Nat) : SO eI 4 kX6_takeOperator [.ref a0] h (f_X6_takeOperator h a0) := by
  refine so_of (lv0 := [some (.ref a0), none]) pn_X6 (Nat.le_of_ble_eq_true rfl) rfl ?_
  unfold f_X6_takeOperator
  refine ao_s (st_iconst dX6_takeOperator_0 ic_m1) ?_
  refine ao_s (st_istore_n (lv' := [some (.ref a0), some (.int (-1))]) dX6_takeOperator_1 rfl (by decide) rfl) ?_
  refine ao_s (st_aload_n dX6_takeOperator_2 rfl rfl) ?_
  refine ao_chk (fun e21 => ?_)
  refine ao_getR dX6_takeOperator_3 fl_X6_22 rfl e21 (fun b22 => ?_)
  refine ao_chk (fun e23 => ?_)
  refine ao_cVi (Kc := kX9_next) (As := []) (st := []) dX6_takeOperator_6 ml_X6_45 mv_X9_next rfl e23 (by decide) rfl rfl (Nat.le_of_ble_eq_true rfl) (by decide) (s_X9_next h b22) (fun r24 h25 => ?_)
  refine ao_ite (fun c26 => ?_) (fun c26 => ?_)
  · refine ao_s (st_tabIn (v := 37) (off := 79) (tgt := 88) c26 dX6_takeOperator_9 (by decide) (by decide)) ?_
    refine ao_s (st_bipush dX6_takeOperator_88 bp_6) ?_
    refine ao_s (st_istore_n (lv' := [some (.ref a0), some (.int 6)]) dX6_takeOperator_90 rfl (by decide) rfl) ?_
    refine ao_s (st_goto 96 dX6_takeOperator_91 (by decide)) ?_
    exact ao_w (sb_s (sb_s sb_0)) (t_X6_takeOperator_96 h25 a0 6)
  · refine ao_ite (fun c27 => ?_) (fun c27 => ?_)
    · refine ao_s (st_tabIn (v := 38) (off := 85) (tgt := 94) c27 dX6_takeOperator_9 (by decide) (by decide)) ?_
      refine ao_s (st_iconst dX6_takeOperator_94 ic_m1) ?_
      exact ao_ir dX6_takeOperator_95 rfl rfl
    · refine ao_ite (fun c28 => ?_) (fun c28 => ?_)
      · refine ao_s (st_tabIn (v := 39) (off := 85) (tgt := 94) c28 dX6_takeOperator_9 (by decide) (by decide)) ?_
        refine ao_s (st_iconst dX6_takeOperator_94 ic_m1) ?_
        exact ao_ir dX6_takeOperator_95 rfl rfl
      · refine ao_ite (fun c29 => ?_) (fun c29 => ?_)
        · refine ao_s (st_tabIn (v := 40) (off := 85) (tgt := 94) c29 dX6_takeOperator_9 (by decide) (by decide)) ?_
          refine ao_s (st_iconst dX6_takeOperator_94 ic_m1) ?_
          exact ao_ir dX6_takeOperator_95 rfl rfl
        · refine ao_ite (fun c30 => ?_) (fun c30 => ?_)
          · refine ao_s (st_tabIn (v := 41) (off := 85) (tgt := 94) c30 dX6_takeOperator_9 (by decide) (by decide)) ?_
            refine ao_s (st_iconst dX6_takeOperator_94 ic_m1) ?_
            exact ao_ir dX6_takeOperator_95 rfl rfl
          · refine ao_ite (fun c31 => ?_) (fun c31 => ?_)
            · refine ao_s (st_tabIn (v := 42) (off := 69) (tgt := 78) c31 dX6_takeOperator_9 (by decide) (by decide)) ?_
              refine ao_s (st_iconst dX6_takeOperator_78 ic_4) ?_
              refine ao_s (st_istore_n (lv' := [some (.ref a0), some (.int 4)]) dX6_takeOperator_79 rfl (by decide) rfl) ?_
              refine ao_s (st_goto 96 dX6_takeOperator_80 (by decide)) ?_
              exact ao_w (sb_s (sb_s sb_0)) (t_X6_takeOperator_96 h25 a0 4)
            · refine ao_ite (fun c32 => ?_) (fun c32 => ?_)
              · refine ao_s (st_tabIn (v := 43) (off := 59) (tgt := 68) c32 dX6_takeOperator_9 (by decide) (by decide)) ?_
                refine ao_s (st_iconst dX6_takeOperator_68 ic_2) ?_
                refine ao_s (st_istore_n (lv' := [some (.ref a0), some (.int 2)]) dX6_takeOperator_69 rfl (by decide) rfl) ?_
                refine ao_s (st_goto 96 dX6_takeOperator_70 (by decide)) ?_
                exact ao_w (sb_s (sb_s sb_0)) (t_X6_takeOperator_96 h25 a0 2)
              · refine ao_ite (fun c33 => ?_) (fun c33 => ?_)
                · refine ao_s (st_tabIn (v := 44) (off := 85) (tgt := 94) c33 dX6_takeOperator_9 (by decide) (by decide)) ?_
                  refine ao_s (st_iconst dX6_takeOperator_94 ic_m1) ?_
                  exact ao_ir dX6_takeOperator_95 rfl rfl
                · refine ao_ite (fun c34 => ?_) (fun c34 => ?_)
                  · refine ao_s (st_tabIn (v := 45) (off := 64) (tgt := 73) c34 dX6_takeOperator_9 (by decide) (by decide)) ?_
                    refine ao_s (st_iconst dX6_takeOperator_73 ic_3) ?_
                    refine ao_s (st_istore_n (lv' := [some (.ref a0), some (.int 3)]) dX6_takeOperator_74 rfl (by decide) rfl) ?_
                    refine ao_s (st_goto 96 dX6_takeOperator_75 (by decide)) ?_
                    exact ao_w (sb_s (sb_s sb_0)) (t_X6_takeOperator_96 h25 a0 3)
                  · refine ao_ite (fun c35 => ?_) (fun c35 => ?_)
                    · refine ao_s (st_tabIn (v := 46) (off := 85) (tgt := 94) c35 dX6_takeOperator_9 (by decide) (by decide)) ?_
                      refine ao_s (st_iconst dX6_takeOperator_94 ic_m1) ?_
                      exact ao_ir dX6_takeOperator_95 rfl rfl
                    · refine ao_ite (fun c36 => ?_) (fun c36 => ?_)
                      · refine ao_s (st_tabIn (v := 47) (off := 74) (tgt := 83) c36 dX6_takeOperator_9 (by decide) (by decide)) ?_
                        refine ao_s (st_iconst dX6_takeOperator_83 ic_5) ?_
                        refine ao_s (st_istore_n (lv' := [some (.ref a0), some (.int 5)]) dX6_takeOperator_84 rfl (by decide) rfl) ?_
                        refine ao_s (st_goto 96 dX6_takeOperator_85 (by decide)) ?_
                        exact ao_w (sb_s (sb_s sb_0)) (t_X6_takeOperator_96 h25 a0 5)
                      · refine ao_s (st_tabOut (tgt := 94) dX6_takeOperator_9 (by have q0 := lv_neT c26 (show (37 : Int32).toInt = 37 by decide); have q1 := lv_neT c27 (show (38 : Int32).toInt = 38 by decide); have q2 := lv_neT c28 (show (39 : Int32).toInt = 39 by decide); have q3 := lv_neT c29 (show (40 : Int32).toInt = 40 by decide); have q4 := lv_neT c30 (show (41 : Int32).toInt = 41 by decide); have q5 := lv_neT c31 (show (42 : Int32).toInt = 42 by decide); have q6 := lv_neT c32 (show (43 : Int32).toInt = 43 by decide); have q7 := lv_neT c33 (show (44 : Int32).toInt = 44 by decide); have q8 := lv_neT c34 (show (45 : Int32).toInt = 45 by decide); have q9 := lv_neT c35 (show (46 : Int32).toInt = 46 by decide); have q10 := lv_neT c36 (show (47 : Int32).toInt = 47 by decide); omega) (by decide)) ?_
                        refine ao_s (st_iconst dX6_takeOperator_94 ic_m1) ?_
                        exact ao_ir dX6_takeOperator_95 rfl rfl
