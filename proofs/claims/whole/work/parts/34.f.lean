def f_X12_rule (h : aH) (a0 : Nat) : Option (Int32 × aH) :=
(if (sh a0).1 = 19 then
(if hI h a0 2 = 6 then
some ((-1), h)
else
(aLet (pI h a0 11 (hI h a0 2)) fun h22 =>
((hR h22 a0 6).bind fun b23 =>
(aLet (hI h22 a0 11) fun x24 =>
(if (sh b23).1 = 0 then
(if aIn x24 (sh b23).2 then
(aLet (pI h22 b23 x24.toNatClampNeg 0) fun h26 =>
(aBind (f_X12_readsAll h26 a0) fun r27 h28 =>
(if r27 = 0 then
some ((-2) - (hI h28 a0 9), h28)
else
(aLet (pI h28 a0 2 ((hI h28 a0 2) + 1)) fun h29 =>
some ((hI h29 a0 2) - 1, h29)))))
else none)
else none)))))
else none)
set_option maxHeartbeats 2000000 in
theorem s_X12_rule (h : aH) (a0 : Nat) : SO eI 14 kX12_rule [.ref a0] h (f_X12_rule h a0) := by
  refine so_of (lv0 := [some (.ref a0)]) pn_X12 (Nat.le_of_ble_eq_true rfl) rfl ?_
  unfold f_X12_rule
  refine ao_s (st_aload_n dX12_rule_0 rfl rfl) ?_
  refine ao_chk (fun e21 => ?_)
  refine ao_getI dX12_rule_1 fl_X12_270 rfl e21 ?_
  refine ao_s (st_bipush dX12_rule_4 bp_6) ?_
  refine ao_br (br_icmp_ne (tgt := 11) dX12_rule_6 (by decide)) (fun c31 => ?_) (fun c31 => ?_)
  · refine ao_s (st_iconst dX12_rule_9 ic_m1) ?_
    exact ao_ir dX12_rule_10 rfl rfl
  · refine ao_s (st_aload_n dX12_rule_11 rfl rfl) ?_
    refine ao_s (st_aload_n dX12_rule_12 rfl rfl) ?_
    refine ao_getI dX12_rule_13 fl_X12_270 rfl e21 ?_
    refine ao_putI dX12_rule_16 fl_X12_153 rfl rfl rfl rfl e21 ?_
    refine ao_letH (fun h22 => ?_)
    refine ao_s (st_aload_n dX12_rule_19 rfl rfl) ?_
    refine ao_getR dX12_rule_20 fl_X12_23 rfl e21 (fun b23 => ?_)
    refine ao_s (st_aload_n dX12_rule_23 rfl rfl) ?_
    refine ao_getI dX12_rule_24 fl_X12_153 rfl e21 ?_
    refine ao_s (st_iconst dX12_rule_27 ic_0) ?_
    refine ao_let2 (fun x24 => ?_)
    refine ao_chk (fun e25 => ?_)
    refine ao_iast dX12_rule_28 e25 ?_
    refine ao_letH (fun h26 => ?_)
    refine ao_s (st_aload_n dX12_rule_29 rfl rfl) ?_
    refine ao_cVi (As := []) (st := []) dX12_rule_30 ml_X12_273 mv_X12_readsAll rfl e21 (by decide) rfl rfl (Nat.le_of_ble_eq_true rfl) (by decide) (s_X12_readsAll h26 a0) (fun r27 h28 => ?_)
    refine ao_br (br_if_ne (tgt := 44) dX12_rule_33 (by decide)) (fun c30 => ?_) (fun c30 => ?_)
    · refine ao_s (st_bipush dX12_rule_36 bp_m2) ?_
      refine ao_s (st_aload_n dX12_rule_38 rfl rfl) ?_
      refine ao_getI dX12_rule_39 fl_X12_96 rfl e21 ?_
      refine ao_s (st_isub dX12_rule_42) ?_
      exact ao_ir dX12_rule_43 rfl rfl
    · refine ao_s (st_aload_n dX12_rule_44 rfl rfl) ?_
      refine ao_s (st_dup dX12_rule_45 rfl) ?_
      refine ao_getI dX12_rule_46 fl_X12_270 rfl e21 ?_
      refine ao_s (st_iconst dX12_rule_49 ic_1) ?_
      refine ao_s (st_iadd dX12_rule_50) ?_
      refine ao_putI dX12_rule_51 fl_X12_270 rfl rfl rfl rfl e21 ?_
      refine ao_letH (fun h29 => ?_)
      refine ao_s (st_aload_n dX12_rule_54 rfl rfl) ?_
      refine ao_getI dX12_rule_55 fl_X12_270 rfl e21 ?_
      refine ao_s (st_iconst dX12_rule_58 ic_1) ?_
      refine ao_s (st_isub dX12_rule_59) ?_
      exact ao_ir dX12_rule_60 rfl rfl
def b_X12_begins_106 (k106 : aH → Nat → Int32 → Option (Unit × aH)) (h : aH) (a0 : Nat) (x1 : Int32) : Option (Unit × aH) :=
(if 3 ≤ x1 then
some ((), h)
else
(if (sh a0).1 = 19 then
((hR h a0 20).bind fun b22 =>
((hR h a0 20).bind fun b23 =>
(aLet (150 + x1) fun x24 =>
(if (sh b23).1 = 0 then
(if aIn x24 (sh b23).2 then
(aLet (75 + x1) fun x26 =>
(if (sh b22).1 = 0 then
(if aIn x26 (sh b22).2 then
(aLet (pI h b22 x26.toNatClampNeg (hI h b23 x24.toNatClampNeg)) fun h28 =>
k106 h28 a0 (x1 + 1))
else none)
else none))
else none)
else none))))
else none))
set_option maxHeartbeats 2000000 in
theorem t_X12_begins_106 {k106 : aH → Nat → Int32 → Option (Unit × aH)} (hk106 : ∀ (h : aH) (a0 : Nat) (x1 : Int32) {z2 : Option Value}, AO eV 2 kX12_begins 106 [some (.ref a0), some (.int x1), z2] [] h (k106 h a0 x1)) (h : aH) (a0 : Nat) (x1 : Int32) {z2 : Option Value} : AO eV 2 kX12_begins 106 [some (.ref a0), some (.int x1), z2] [] h (b_X12_begins_106 k106 h a0 x1) := by
  unfold b_X12_begins_106
  refine ao_s (st_iload_n dX12_begins_106 rfl rfl) ?_
  refine ao_s (st_iconst dX12_begins_107 ic_3) ?_
  refine ao_br (br_icmp_ge (tgt := 136) dX12_begins_108 (by decide)) (fun c29 => ?_) (fun c29 => ?_)
  · exact ao_vr dX12_begins_136 rfl
  · refine ao_s (st_aload_n dX12_begins_111 rfl rfl) ?_
    refine ao_chk (fun e21 => ?_)
    refine ao_getR dX12_begins_112 fl_X12_39 rfl e21 (fun b22 => ?_)
    refine ao_s (st_bipush dX12_begins_115 bp_75) ?_
    refine ao_s (st_iload_n dX12_begins_117 rfl rfl) ?_
    refine ao_s (st_iadd dX12_begins_118) ?_
    refine ao_s (st_aload_n dX12_begins_119 rfl rfl) ?_
    refine ao_getR dX12_begins_120 fl_X12_39 rfl e21 (fun b23 => ?_)
    refine ao_s (st_sipush dX12_begins_123 sp_150) ?_
    refine ao_s (st_iload_n dX12_begins_126 rfl rfl) ?_
    refine ao_s (st_iadd dX12_begins_127) ?_
    refine ao_letI (fun x24 => ?_)
    refine ao_chk (fun e25 => ?_)
    refine ao_iald dX12_begins_128 e25 ?_
    refine ao_let2 (fun x26 => ?_)
    refine ao_chk (fun e27 => ?_)
    refine ao_iast dX12_begins_129 e27 ?_
    refine ao_letH (fun h28 => ?_)
    refine ao_s (st_iinc (lv' := [some (.ref a0), some (.int (x1 + 1)), z2]) dX12_begins_130 rfl nc_1 (by decide) rfl) ?_
    refine ao_s (st_goto 106 dX12_begins_133 (by decide)) ?_
    exact hk106 h28 a0 (x1 + 1)
def f_X12_begins_106 (n : Nat) : aH → Nat → Int32 → Option (Unit × aH) := aIt (fun _ _ _ => none) (fun k => b_X12_begins_106 k) n
theorem l_X12_begins_106 (n : Nat) : ∀ (h : aH) (a0 : Nat) (x1 : Int32) {z2 : Option Value}, AO eV 2 kX12_begins 106 [some (.ref a0), some (.int x1), z2] [] h (f_X12_begins_106 n h a0 x1) := by
  induction n with
  | zero => intros; exact ao_none
  | succ n ih =>
    intro h a0 x1 z2
    exact t_X12_begins_106 ih h a0 x1
def b_X12_begins_74 (k74 : aH → Nat → Int32 → Option (Unit × aH)) (h : aH) (a0 : Nat) (x1 : Int32) : Option (Unit × aH) :=
(if 32 ≤ x1 then
f_X12_begins_106 2000 h a0 0
else
(if (sh a0).1 = 19 then
((hR h a0 20).bind fun b22 =>
((hR h a0 20).bind fun b23 =>
(aLet (110 + x1) fun x24 =>
(if (sh b23).1 = 0 then
(if aIn x24 (sh b23).2 then
(aLet (43 + x1) fun x26 =>
(if (sh b22).1 = 0 then
(if aIn x26 (sh b22).2 then
(aLet (pI h b22 x26.toNatClampNeg (hI h b23 x24.toNatClampNeg)) fun h28 =>
k74 h28 a0 (x1 + 1))
else none)
else none))
else none)
else none))))
else none))
set_option maxHeartbeats 2000000 in
theorem t_X12_begins_74 {k74 : aH → Nat → Int32 → Option (Unit × aH)} (hk74 : ∀ (h : aH) (a0 : Nat) (x1 : Int32) {z2 : Option Value}, AO eV 2 kX12_begins 74 [some (.ref a0), some (.int x1), z2] [] h (k74 h a0 x1)) (h : aH) (a0 : Nat) (x1 : Int32) {z2 : Option Value} : AO eV 2 kX12_begins 74 [some (.ref a0), some (.int x1), z2] [] h (b_X12_begins_74 k74 h a0 x1) := by
  unfold b_X12_begins_74
  refine ao_s (st_iload_n dX12_begins_74 rfl rfl) ?_
  refine ao_s (st_bipush dX12_begins_75 bp_32) ?_
  refine ao_br (br_icmp_ge (tgt := 104) dX12_begins_77 (by decide)) (fun c29 => ?_) (fun c29 => ?_)
  · refine ao_s (st_iconst dX12_begins_104 ic_0) ?_
    refine ao_s (st_istore_n (lv' := [some (.ref a0), some (.int 0), z2]) dX12_begins_105 rfl (by decide) rfl) ?_
    exact l_X12_begins_106 2000 h a0 0
  · refine ao_s (st_aload_n dX12_begins_80 rfl rfl) ?_
    refine ao_chk (fun e21 => ?_)
    refine ao_getR dX12_begins_81 fl_X12_39 rfl e21 (fun b22 => ?_)
    refine ao_s (st_bipush dX12_begins_84 bp_43) ?_
    refine ao_s (st_iload_n dX12_begins_86 rfl rfl) ?_
    refine ao_s (st_iadd dX12_begins_87) ?_
    refine ao_s (st_aload_n dX12_begins_88 rfl rfl) ?_
    refine ao_getR dX12_begins_89 fl_X12_39 rfl e21 (fun b23 => ?_)
    refine ao_s (st_bipush dX12_begins_92 bp_110) ?_
    refine ao_s (st_iload_n dX12_begins_94 rfl rfl) ?_
    refine ao_s (st_iadd dX12_begins_95) ?_
    refine ao_letI (fun x24 => ?_)
    refine ao_chk (fun e25 => ?_)
    refine ao_iald dX12_begins_96 e25 ?_
    refine ao_let2 (fun x26 => ?_)
    refine ao_chk (fun e27 => ?_)
    refine ao_iast dX12_begins_97 e27 ?_
    refine ao_letH (fun h28 => ?_)
    refine ao_s (st_iinc (lv' := [some (.ref a0), some (.int (x1 + 1)), z2]) dX12_begins_98 rfl nc_1 (by decide) rfl) ?_
    refine ao_s (st_goto 74 dX12_begins_101 (by decide)) ?_
    exact hk74 h28 a0 (x1 + 1)
def f_X12_begins_74 (n : Nat) : aH → Nat → Int32 → Option (Unit × aH) := aIt (fun _ _ _ => none) (fun k => b_X12_begins_74 k) n
theorem l_X12_begins_74 (n : Nat) : ∀ (h : aH) (a0 : Nat) (x1 : Int32) {z2 : Option Value}, AO eV 2 kX12_begins 74 [some (.ref a0), some (.int x1), z2] [] h (f_X12_begins_74 n h a0 x1) := by
  induction n with
  | zero => intros; exact ao_none
  | succ n ih =>
    intro h a0 x1 z2
    exact t_X12_begins_74 ih h a0 x1
def b_X12_begins_10 (k10 : aH → Nat → Int32 → Option (Unit × aH)) (h : aH) (a0 : Nat) (x1 : Int32) : Option (Unit × aH) :=
(if 8 ≤ x1 then
f_X12_begins_74 2000 h a0 0
else
(aLet (11 + (4 * x1)) fun x21 =>
(if (sh a0).1 = 19 then
((hR h a0 20).bind fun b23 =>
((hR h a0 20).bind fun b24 =>
(aLet (142 + x1) fun x25 =>
(if (sh b24).1 = 0 then
(if aIn x25 (sh b24).2 then
(if (sh b23).1 = 0 then
(if aIn x21 (sh b23).2 then
(aLet (pI h b23 x21.toNatClampNeg (hI h b24 x25.toNatClampNeg)) fun h28 =>
((hR h28 a0 20).bind fun b29 =>
(aLet (x21 + 1) fun x30 =>
(if (sh b29).1 = 0 then
(if aIn x30 (sh b29).2 then
(aLet (pI h28 b29 x30.toNatClampNeg (-1)) fun h32 =>
((hR h32 a0 20).bind fun b33 =>
(aLet (x21 + 2) fun x34 =>
(if (sh b33).1 = 0 then
(if aIn x34 (sh b33).2 then
(aLet (pI h32 b33 x34.toNatClampNeg 0) fun h36 =>
((hR h36 a0 20).bind fun b37 =>
(aLet (x21 + 3) fun x38 =>
(if (sh b37).1 = 0 then
(if aIn x38 (sh b37).2 then
(aLet (pI h36 b37 x38.toNatClampNeg 0) fun h40 =>
k10 h40 a0 (x1 + 1))
else none)
else none))))
else none)
else none))))
else none)
else none))))
else none)
else none)
else none)
else none))))
else none)))
set_option maxHeartbeats 2000000 in
theorem t_X12_begins_10 {k10 : aH → Nat → Int32 → Option (Unit × aH)} (hk10 : ∀ (h : aH) (a0 : Nat) (x1 : Int32) {z2 : Option Value}, AO eV 2 kX12_begins 10 [some (.ref a0), some (.int x1), z2] [] h (k10 h a0 x1)) (h : aH) (a0 : Nat) (x1 : Int32) {z2 : Option Value} : AO eV 2 kX12_begins 10 [some (.ref a0), some (.int x1), z2] [] h (b_X12_begins_10 k10 h a0 x1) := by
  unfold b_X12_begins_10
  refine ao_s (st_iload_n dX12_begins_10 rfl rfl) ?_
  refine ao_s (st_bipush dX12_begins_11 bp_8) ?_
  refine ao_br (br_icmp_ge (tgt := 72) dX12_begins_13 (by decide)) (fun c41 => ?_) (fun c41 => ?_)
  · refine ao_s (st_iconst dX12_begins_72 ic_0) ?_
    refine ao_s (st_istore_n (lv' := [some (.ref a0), some (.int 0), z2]) dX12_begins_73 rfl (by decide) rfl) ?_
    exact l_X12_begins_74 2000 h a0 0
  · refine ao_s (st_bipush dX12_begins_16 bp_11) ?_
    refine ao_s (st_iconst dX12_begins_18 ic_4) ?_
    refine ao_s (st_iload_n dX12_begins_19 rfl rfl) ?_
    refine ao_s (st_imul dX12_begins_20) ?_
    refine ao_s (st_iadd dX12_begins_21) ?_
    refine ao_letI (fun x21 => ?_)
    refine ao_s (st_istore_n (lv' := [some (.ref a0), some (.int x1), some (.int x21)]) dX12_begins_22 rfl (by decide) rfl) ?_
    refine ao_s (st_aload_n dX12_begins_23 rfl rfl) ?_
    refine ao_chk (fun e22 => ?_)
    refine ao_getR dX12_begins_24 fl_X12_39 rfl e22 (fun b23 => ?_)
    refine ao_s (st_iload_n dX12_begins_27 rfl rfl) ?_
    refine ao_s (st_aload_n dX12_begins_28 rfl rfl) ?_
    refine ao_getR dX12_begins_29 fl_X12_39 rfl e22 (fun b24 => ?_)
    refine ao_s (st_sipush dX12_begins_32 sp_142) ?_
    refine ao_s (st_iload_n dX12_begins_35 rfl rfl) ?_
    refine ao_s (st_iadd dX12_begins_36) ?_
    refine ao_letI (fun x25 => ?_)
    refine ao_chk (fun e26 => ?_)
    refine ao_iald dX12_begins_37 e26 ?_
    refine ao_chk (fun e27 => ?_)
    refine ao_iast dX12_begins_38 e27 ?_
    refine ao_letH (fun h28 => ?_)
    refine ao_s (st_aload_n dX12_begins_39 rfl rfl) ?_
    refine ao_getR dX12_begins_40 fl_X12_39 rfl e22 (fun b29 => ?_)
    refine ao_s (st_iload_n dX12_begins_43 rfl rfl) ?_
    refine ao_s (st_iconst dX12_begins_44 ic_1) ?_
    refine ao_s (st_iadd dX12_begins_45) ?_
    refine ao_s (st_iconst dX12_begins_46 ic_m1) ?_
    refine ao_let2 (fun x30 => ?_)
    refine ao_chk (fun e31 => ?_)
    refine ao_iast dX12_begins_47 e31 ?_
    refine ao_letH (fun h32 => ?_)
    refine ao_s (st_aload_n dX12_begins_48 rfl rfl) ?_
    refine ao_getR dX12_begins_49 fl_X12_39 rfl e22 (fun b33 => ?_)
    refine ao_s (st_iload_n dX12_begins_52 rfl rfl) ?_
    refine ao_s (st_iconst dX12_begins_53 ic_2) ?_
    refine ao_s (st_iadd dX12_begins_54) ?_
    refine ao_s (st_iconst dX12_begins_55 ic_0) ?_
    refine ao_let2 (fun x34 => ?_)
    refine ao_chk (fun e35 => ?_)
    refine ao_iast dX12_begins_56 e35 ?_
    refine ao_letH (fun h36 => ?_)
    refine ao_s (st_aload_n dX12_begins_57 rfl rfl) ?_
    refine ao_getR dX12_begins_58 fl_X12_39 rfl e22 (fun b37 => ?_)
    refine ao_s (st_iload_n dX12_begins_61 rfl rfl) ?_
    refine ao_s (st_iconst dX12_begins_62 ic_3) ?_
    refine ao_s (st_iadd dX12_begins_63) ?_
    refine ao_s (st_iconst dX12_begins_64 ic_0) ?_
    refine ao_let2 (fun x38 => ?_)
    refine ao_chk (fun e39 => ?_)
    refine ao_iast dX12_begins_65 e39 ?_
    refine ao_letH (fun h40 => ?_)
    refine ao_s (st_iinc (lv' := [some (.ref a0), some (.int (x1 + 1)), some (.int x21)]) dX12_begins_66 rfl nc_1 (by decide) rfl) ?_
    refine ao_s (st_goto 10 dX12_begins_69 (by decide)) ?_
    exact hk10 h40 a0 (x1 + 1)
def f_X12_begins_10 (n : Nat) : aH → Nat → Int32 → Option (Unit × aH) := aIt (fun _ _ _ => none) (fun k => b_X12_begins_10 k) n
theorem l_X12_begins_10 (n : Nat) : ∀ (h : aH) (a0 : Nat) (x1 : Int32) {z2 : Option Value}, AO eV 2 kX12_begins 10 [some (.ref a0), some (.int x1), z2] [] h (f_X12_begins_10 n h a0 x1) := by
  induction n with
  | zero => intros; exact ao_none
  | succ n ih =>
    intro h a0 x1 z2
    exact t_X12_begins_10 ih h a0 x1
def f_X12_begins (h : aH) (a0 : Nat) : Option (Unit × aH) :=
(if (sh a0).1 = 19 then
((hR h a0 20).bind fun b22 =>
(if (sh b22).1 = 0 then
(if aIn 10 (sh b22).2 then
(aLet (pI h b22 (10 : Int32).toNatClampNeg 0) fun h24 =>
f_X12_begins_10 2000 h24 a0 0)
else none)
else none))
else none)
set_option maxHeartbeats 2000000 in
theorem s_X12_begins (h : aH) (a0 : Nat) : SO eV 2 kX12_begins [.ref a0] h (f_X12_begins h a0) := by
  refine so_of (lv0 := [some (.ref a0), none, none]) pn_X12 (Nat.le_of_ble_eq_true rfl) rfl ?_
  unfold f_X12_begins
  refine ao_s (st_aload_n dX12_begins_0 rfl rfl) ?_
  refine ao_chk (fun e21 => ?_)
  refine ao_getR dX12_begins_1 fl_X12_39 rfl e21 (fun b22 => ?_)
  refine ao_s (st_bipush dX12_begins_4 bp_10) ?_
  refine ao_s (st_iconst dX12_begins_6 ic_0) ?_
  refine ao_chk (fun e23 => ?_)
  refine ao_iast dX12_begins_7 e23 ?_
  refine ao_letH (fun h24 => ?_)
  refine ao_s (st_iconst dX12_begins_8 ic_0) ?_
  refine ao_s (st_istore_n (lv' := [some (.ref a0), some (.int 0), none]) dX12_begins_9 rfl (by decide) rfl) ?_
  exact l_X12_begins_10 2000 h24 a0 0
def b_X12_isle_74 (k45 : aH → Nat → Int32 → Option (Int32 × aH)) (h : aH) (a0 : Nat) (x1 : Int32) (s0 : Int32) (s1 : Int32) (s2 : Nat) : Option (Int32 × aH) :=
(if (sh s2).1 = 0 then
(if aIn s1 (sh s2).2 then
(aLet (pI h s2 s1.toNatClampNeg s0) fun h22 =>
k45 h22 a0 (x1 + 1))
else none)
else none)
set_option maxHeartbeats 2000000 in
theorem t_X12_isle_74 {k45 : aH → Nat → Int32 → Option (Int32 × aH)} (hk45 : ∀ (h : aH) (a0 : Nat) (x1 : Int32), AO eI 14 kX12_isle 45 [some (.ref a0), some (.int x1)] [] h (k45 h a0 x1)) (h : aH) (a0 : Nat) (x1 : Int32) (s0 : Int32) (s1 : Int32) (s2 : Nat) : AO eI 14 kX12_isle 74 [some (.ref a0), some (.int x1)] [.int s0, .int s1, .ref s2] h (b_X12_isle_74 k45 h a0 x1 s0 s1 s2) := by
  unfold b_X12_isle_74
  refine ao_chk (fun e21 => ?_)
  refine ao_iast dX12_isle_74 e21 ?_
  refine ao_letH (fun h22 => ?_)
  refine ao_s (st_iinc (lv' := [some (.ref a0), some (.int (x1 + 1))]) dX12_isle_75 rfl nc_1 (by decide) rfl) ?_
  refine ao_s (st_goto 45 dX12_isle_78 (by decide)) ?_
  exact hk45 h22 a0 (x1 + 1)
def b_X12_isle_119 (k83 : aH → Nat → Int32 → Option (Int32 × aH)) (h : aH) (a0 : Nat) (x1 : Int32) : Option (Int32 × aH) :=
k83 h a0 (x1 + 1)
set_option maxHeartbeats 2000000 in
theorem t_X12_isle_119 {k83 : aH → Nat → Int32 → Option (Int32 × aH)} (hk83 : ∀ (h : aH) (a0 : Nat) (x1 : Int32), AO eI 14 kX12_isle 83 [some (.ref a0), some (.int x1)] [] h (k83 h a0 x1)) (h : aH) (a0 : Nat) (x1 : Int32) : AO eI 14 kX12_isle 119 [some (.ref a0), some (.int x1)] [] h (b_X12_isle_119 k83 h a0 x1) := by
  unfold b_X12_isle_119
  refine ao_s (st_iinc (lv' := [some (.ref a0), some (.int (x1 + 1))]) dX12_isle_119 rfl nc_1 (by decide) rfl) ?_
  refine ao_s (st_goto 83 dX12_isle_122 (by decide)) ?_
  exact hk83 h a0 (x1 + 1)
def b_X12_isle_83 (k83 : aH → Nat → Int32 → Option (Int32 × aH)) (h : aH) (a0 : Nat) (x1 : Int32) : Option (Int32 × aH) :=
(if 32 ≤ x1 then
(if (sh a0).1 = 19 then
(aBind (f_X12_begins h a0) fun r22 h23 =>
(aLet (pI h23 a0 29 0) fun h24 =>
((hR h24 a0 20).bind fun b25 =>
(if (sh b25).1 = 0 then
(if aIn 3 (sh b25).2 then
some (hI h24 b25 (3 : Int32).toNatClampNeg, h24)
else none)
else none))))
else none)
else
(if (sh a0).1 = 19 then
((hR h a0 20).bind fun b28 =>
(aLet (78 + x1) fun x29 =>
(if (sh b28).1 = 0 then
(if aIn x29 (sh b28).2 then
(if 0 ≤ hI h b28 x29.toNatClampNeg then
b_X12_isle_119 k83 h a0 x1
else
((hR h a0 20).bind fun b31 =>
((hR h a0 20).bind fun b32 =>
(aLet (110 + x1) fun x33 =>
(if (sh b32).1 = 0 then
(if aIn x33 (sh b32).2 then
(aLet (78 + x1) fun x35 =>
(if (sh b31).1 = 0 then
(if aIn x35 (sh b31).2 then
(aLet (pI h b31 x35.toNatClampNeg (hI h b32 x33.toNatClampNeg)) fun h37 =>
b_X12_isle_119 k83 h37 a0 x1)
else none)
else none))
else none)
else none)))))
else none)
else none)))
else none))
set_option maxHeartbeats 2000000 in
theorem t_X12_isle_83 {k83 : aH → Nat → Int32 → Option (Int32 × aH)} (hk83 : ∀ (h : aH) (a0 : Nat) (x1 : Int32), AO eI 14 kX12_isle 83 [some (.ref a0), some (.int x1)] [] h (k83 h a0 x1)) (h : aH) (a0 : Nat) (x1 : Int32) : AO eI 14 kX12_isle 83 [some (.ref a0), some (.int x1)] [] h (b_X12_isle_83 k83 h a0 x1) := by
  unfold b_X12_isle_83
  refine ao_s (st_iload_n dX12_isle_83 rfl rfl) ?_
  refine ao_s (st_bipush dX12_isle_84 bp_32) ?_
  refine ao_br (br_icmp_ge (tgt := 125) dX12_isle_86 (by decide)) (fun c39 => ?_) (fun c39 => ?_)
  · refine ao_s (st_aload_n dX12_isle_125 rfl rfl) ?_
    refine ao_chk (fun e21 => ?_)
    refine ao_cVv (As := []) (st := []) dX12_isle_126 ml_X12_276 mv_X12_begins rfl e21 (by decide) rfl rfl (Nat.le_of_ble_eq_true rfl) (by decide) (s_X12_begins h a0) (fun r22 h23 => ?_)
    refine ao_s (st_aload_n dX12_isle_129 rfl rfl) ?_
    refine ao_s (st_iconst dX12_isle_130 ic_0) ?_
    refine ao_putI dX12_isle_131 fl_X12_279 rfl rfl rfl rfl e21 ?_
    refine ao_letH (fun h24 => ?_)
    refine ao_s (st_aload_n dX12_isle_134 rfl rfl) ?_
    refine ao_getR dX12_isle_135 fl_X12_39 rfl e21 (fun b25 => ?_)
    refine ao_s (st_iconst dX12_isle_138 ic_3) ?_
    refine ao_chk (fun e26 => ?_)
    refine ao_iald dX12_isle_139 e26 ?_
    exact ao_ir dX12_isle_140 rfl rfl
  · refine ao_s (st_aload_n dX12_isle_89 rfl rfl) ?_
    refine ao_chk (fun e27 => ?_)
    refine ao_getR dX12_isle_90 fl_X12_39 rfl e27 (fun b28 => ?_)
    refine ao_s (st_bipush dX12_isle_93 bp_78) ?_
    refine ao_s (st_iload_n dX12_isle_95 rfl rfl) ?_
    refine ao_s (st_iadd dX12_isle_96) ?_
    refine ao_letI (fun x29 => ?_)
    refine ao_chk (fun e30 => ?_)
    refine ao_iald dX12_isle_97 e30 ?_
    refine ao_br (br_if_ge (tgt := 119) dX12_isle_98 (by decide)) (fun c38 => ?_) (fun c38 => ?_)
    · exact t_X12_isle_119 hk83 h a0 x1
    · refine ao_s (st_aload_n dX12_isle_101 rfl rfl) ?_
      refine ao_getR dX12_isle_102 fl_X12_39 rfl e27 (fun b31 => ?_)
      refine ao_s (st_bipush dX12_isle_105 bp_78) ?_
      refine ao_s (st_iload_n dX12_isle_107 rfl rfl) ?_
      refine ao_s (st_iadd dX12_isle_108) ?_
      refine ao_s (st_aload_n dX12_isle_109 rfl rfl) ?_
      refine ao_getR dX12_isle_110 fl_X12_39 rfl e27 (fun b32 => ?_)
      refine ao_s (st_bipush dX12_isle_113 bp_110) ?_
      refine ao_s (st_iload_n dX12_isle_115 rfl rfl) ?_
      refine ao_s (st_iadd dX12_isle_116) ?_
      refine ao_letI (fun x33 => ?_)
      refine ao_chk (fun e34 => ?_)
      refine ao_iald dX12_isle_117 e34 ?_
      refine ao_let2 (fun x35 => ?_)
      refine ao_chk (fun e36 => ?_)
      refine ao_iast dX12_isle_118 e36 ?_
      refine ao_letH (fun h37 => ?_)
      exact t_X12_isle_119 hk83 h37 a0 x1
def f_X12_isle_83 (n : Nat) : aH → Nat → Int32 → Option (Int32 × aH) := aIt (fun _ _ _ => none) (fun k => b_X12_isle_83 k) n
theorem l_X12_isle_83 (n : Nat) : ∀ (h : aH) (a0 : Nat) (x1 : Int32), AO eI 14 kX12_isle 83 [some (.ref a0), some (.int x1)] [] h (f_X12_isle_83 n h a0 x1) := by
  induction n with
  | zero => intros; exact ao_none
  | succ n ih =>
    intro h a0 x1
    exact t_X12_isle_83 ih h a0 x1
def b_X12_isle_45 (k45 : aH → Nat → Int32 → Option (Int32 × aH)) (h : aH) (a0 : Nat) (x1 : Int32) : Option (Int32 × aH) :=
(if 184 ≤ x1 then
f_X12_isle_83 2000 h a0 0
else
(if (sh a0).1 = 19 then
((hR h a0 20).bind fun b22 =>
(if 153 ≤ x1 then
b_X12_isle_74 k45 h a0 x1 0 x1 b22
else
((hR h a0 7).bind fun b23 =>
(if (sh b23).1 = 0 then
(if aIn x1 (sh b23).2 then
b_X12_isle_74 k45 h a0 x1 (hI h b23 x1.toNatClampNeg) x1 b22
else none)
else none))))
else none))
set_option maxHeartbeats 2000000 in
theorem t_X12_isle_45 {k45 : aH → Nat → Int32 → Option (Int32 × aH)} (hk45 : ∀ (h : aH) (a0 : Nat) (x1 : Int32), AO eI 14 kX12_isle 45 [some (.ref a0), some (.int x1)] [] h (k45 h a0 x1)) (h : aH) (a0 : Nat) (x1 : Int32) : AO eI 14 kX12_isle 45 [some (.ref a0), some (.int x1)] [] h (b_X12_isle_45 k45 h a0 x1) := by
  unfold b_X12_isle_45
  refine ao_s (st_iload_n dX12_isle_45 rfl rfl) ?_
  refine ao_s (st_sipush dX12_isle_46 sp_184) ?_
  refine ao_br (br_icmp_ge (tgt := 81) dX12_isle_49 (by decide)) (fun c26 => ?_) (fun c26 => ?_)
  · refine ao_s (st_iconst dX12_isle_81 ic_0) ?_
    refine ao_s (st_istore_n (lv' := [some (.ref a0), some (.int 0)]) dX12_isle_82 rfl (by decide) rfl) ?_
    exact l_X12_isle_83 2000 h a0 0
  · refine ao_s (st_aload_n dX12_isle_52 rfl rfl) ?_
    refine ao_chk (fun e21 => ?_)
    refine ao_getR dX12_isle_53 fl_X12_39 rfl e21 (fun b22 => ?_)
    refine ao_s (st_iload_n dX12_isle_56 rfl rfl) ?_
    refine ao_s (st_iload_n dX12_isle_57 rfl rfl) ?_
    refine ao_s (st_sipush dX12_isle_58 sp_153) ?_
    refine ao_br (br_icmp_ge (tgt := 73) dX12_isle_61 (by decide)) (fun c25 => ?_) (fun c25 => ?_)
    · refine ao_s (st_iconst dX12_isle_73 ic_0) ?_
      exact t_X12_isle_74 hk45 h a0 x1 0 x1 b22
    · refine ao_s (st_aload_n dX12_isle_64 rfl rfl) ?_
      refine ao_getR dX12_isle_65 fl_X12_26 rfl e21 (fun b23 => ?_)
      refine ao_s (st_iload_n dX12_isle_68 rfl rfl) ?_
      refine ao_chk (fun e24 => ?_)
      refine ao_iald dX12_isle_69 e24 ?_
      refine ao_s (st_goto 74 dX12_isle_70 (by decide)) ?_
      exact t_X12_isle_74 hk45 h a0 x1 (hI h b23 x1.toNatClampNeg) x1 b22
def f_X12_isle_45 (n : Nat) : aH → Nat → Int32 → Option (Int32 × aH) := aIt (fun _ _ _ => none) (fun k => b_X12_isle_45 k) n
theorem l_X12_isle_45 (n : Nat) : ∀ (h : aH) (a0 : Nat) (x1 : Int32), AO eI 14 kX12_isle 45 [some (.ref a0), some (.int x1)] [] h (f_X12_isle_45 n h a0 x1) := by
  induction n with
  | zero => intros; exact ao_none
  | succ n ih =>
    intro h a0 x1
    exact t_X12_isle_45 ih h a0 x1
def b_X12_isle_8 (k8 : aH → Nat → Int32 → Option (Int32 × aH)) (h : aH) (a0 : Nat) (x1 : Int32) : Option (Int32 × aH) :=
(if 153 ≤ x1 then
(if (sh a0).1 = 19 then
(aBind (f_X12_readsAll h a0) fun r22 h23 =>
(if r22 = 0 then
some ((-2) - (hI h23 a0 9), h23)
else
f_X12_isle_45 2000 h23 a0 0))
else none)
else
(if (sh a0).1 = 19 then
((hR h a0 7).bind fun b26 =>
(if (sh b26).1 = 0 then
(if aIn x1 (sh b26).2 then
(aLet (pI h b26 x1.toNatClampNeg 0) fun h28 =>
k8 h28 a0 (x1 + 1))
else none)
else none))
else none))
set_option maxHeartbeats 2000000 in
theorem t_X12_isle_8 {k8 : aH → Nat → Int32 → Option (Int32 × aH)} (hk8 : ∀ (h : aH) (a0 : Nat) (x1 : Int32), AO eI 14 kX12_isle 8 [some (.ref a0), some (.int x1)] [] h (k8 h a0 x1)) (h : aH) (a0 : Nat) (x1 : Int32) : AO eI 14 kX12_isle 8 [some (.ref a0), some (.int x1)] [] h (b_X12_isle_8 k8 h a0 x1) := by
  unfold b_X12_isle_8
  refine ao_s (st_iload_n dX12_isle_8 rfl rfl) ?_
  refine ao_s (st_sipush dX12_isle_9 sp_153) ?_
  refine ao_br (br_icmp_ge (tgt := 28) dX12_isle_12 (by decide)) (fun c29 => ?_) (fun c29 => ?_)
  · refine ao_s (st_aload_n dX12_isle_28 rfl rfl) ?_
    refine ao_chk (fun e21 => ?_)
    refine ao_cVi (As := []) (st := []) dX12_isle_29 ml_X12_273 mv_X12_readsAll rfl e21 (by decide) rfl rfl (Nat.le_of_ble_eq_true rfl) (by decide) (s_X12_readsAll h a0) (fun r22 h23 => ?_)
    refine ao_br (br_if_ne (tgt := 43) dX12_isle_32 (by decide)) (fun c24 => ?_) (fun c24 => ?_)
    · refine ao_s (st_bipush dX12_isle_35 bp_m2) ?_
      refine ao_s (st_aload_n dX12_isle_37 rfl rfl) ?_
      refine ao_getI dX12_isle_38 fl_X12_96 rfl e21 ?_
      refine ao_s (st_isub dX12_isle_41) ?_
      exact ao_ir dX12_isle_42 rfl rfl
    · refine ao_s (st_iconst dX12_isle_43 ic_0) ?_
      refine ao_s (st_istore_n (lv' := [some (.ref a0), some (.int 0)]) dX12_isle_44 rfl (by decide) rfl) ?_
      exact l_X12_isle_45 2000 h23 a0 0
  · refine ao_s (st_aload_n dX12_isle_15 rfl rfl) ?_
    refine ao_chk (fun e25 => ?_)
    refine ao_getR dX12_isle_16 fl_X12_26 rfl e25 (fun b26 => ?_)
    refine ao_s (st_iload_n dX12_isle_19 rfl rfl) ?_
    refine ao_s (st_iconst dX12_isle_20 ic_0) ?_
    refine ao_chk (fun e27 => ?_)
    refine ao_iast dX12_isle_21 e27 ?_
    refine ao_letH (fun h28 => ?_)
    refine ao_s (st_iinc (lv' := [some (.ref a0), some (.int (x1 + 1))]) dX12_isle_22 rfl nc_1 (by decide) rfl) ?_
    refine ao_s (st_goto 8 dX12_isle_25 (by decide)) ?_
    exact hk8 h28 a0 (x1 + 1)
def f_X12_isle_8 (n : Nat) : aH → Nat → Int32 → Option (Int32 × aH) := aIt (fun _ _ _ => none) (fun k => b_X12_isle_8 k) n
theorem l_X12_isle_8 (n : Nat) : ∀ (h : aH) (a0 : Nat) (x1 : Int32), AO eI 14 kX12_isle 8 [some (.ref a0), some (.int x1)] [] h (f_X12_isle_8 n h a0 x1) := by
  induction n with
  | zero => intros; exact ao_none
  | succ n ih =>
    intro h a0 x1
    exact t_X12_isle_8 ih h a0 x1
def f_X12_isle (h : aH) (a0 : Nat) : Option (Int32 × aH) :=
(if (sh a0).1 = 19 then
(aLet (pI h a0 11 6) fun h22 =>
f_X12_isle_8 2000 h22 a0 0)
else none)
set_option maxHeartbeats 2000000 in
theorem s_X12_isle (h : aH) (a0 : Nat) : SO eI 14 kX12_isle [.ref a0] h (f_X12_isle h a0) := by
  refine so_of (lv0 := [some (.ref a0), none]) pn_X12 (Nat.le_of_ble_eq_true rfl) rfl ?_
  unfold f_X12_isle
  refine ao_s (st_aload_n dX12_isle_0 rfl rfl) ?_
  refine ao_s (st_bipush dX12_isle_1 bp_6) ?_
  refine ao_chk (fun e21 => ?_)
  refine ao_putI dX12_isle_3 fl_X12_153 rfl rfl rfl rfl e21 ?_
  refine ao_letH (fun h22 => ?_)
  refine ao_s (st_iconst dX12_isle_6 ic_0) ?_
  refine ao_s (st_istore_n (lv' := [some (.ref a0), some (.int 0)]) dX12_isle_7 rfl (by decide) rfl) ?_
  exact l_X12_isle_8 2000 h22 a0 0
def f_X12_isRule (h : aH) (a0 : Nat) (x1 : Int32) : Option (Int32 × aH) :=
(if x1 < 0 then
some (0, h)
else
(if (sh a0).1 = 19 then
(if hI h a0 2 ≤ x1 then
some (0, h)
else
some (1, h))
else none))
set_option maxHeartbeats 2000000 in
theorem s_X12_isRule (h : aH) (a0 : Nat) (x1 : Int32) : SO eI 2 kX12_isRule [.ref a0, .int x1] h (f_X12_isRule h a0 x1) := by
  refine so_of (lv0 := [some (.ref a0), some (.int x1)]) pn_X12 (Nat.le_of_ble_eq_true rfl) rfl ?_
  unfold f_X12_isRule
  refine ao_s (st_iload_n dX12_isRule_0 rfl rfl) ?_
  refine ao_br (br_if_lt (tgt := 16) dX12_isRule_1 (by decide)) (fun c23 => ?_) (fun c23 => ?_)
  · refine ao_s (st_iconst dX12_isRule_16 ic_0) ?_
    exact ao_ir dX12_isRule_17 rfl (by decide)
  · refine ao_s (st_iload_n dX12_isRule_4 rfl rfl) ?_
    refine ao_s (st_aload_n dX12_isRule_5 rfl rfl) ?_
    refine ao_chk (fun e21 => ?_)
    refine ao_getI dX12_isRule_6 fl_X12_270 rfl e21 ?_
    refine ao_br (br_icmp_ge (tgt := 16) dX12_isRule_9 (by decide)) (fun c22 => ?_) (fun c22 => ?_)
    · refine ao_s (st_iconst dX12_isRule_16 ic_0) ?_
      exact ao_ir dX12_isRule_17 rfl (by decide)
    · refine ao_s (st_iconst dX12_isRule_12 ic_1) ?_
      refine ao_s (st_goto 17 dX12_isRule_13 (by decide)) ?_
      exact ao_ir dX12_isRule_17 rfl (by decide)
def f_X12_push (h : aH) (a0 : Nat) (x1 : Int64) : Option (Unit × aH) :=
(if (sh a0).1 = 19 then
((hR h a0 17).bind fun b22 =>
(aLet (hI h a0 18) fun x23 =>
(if (sh b22).1 = 3 then
(if aIn x23 (sh b22).2 then
(aLet (pL h b22 x23.toNatClampNeg x1) fun h25 =>
(aLet (pI h25 a0 18 ((hI h25 a0 18) + 1)) fun h26 =>
some ((), h26)))
else none)
else none)))
else none)
set_option maxHeartbeats 2000000 in
theorem s_X12_push (h : aH) (a0 : Nat) (x1 : Int64) : SO eV 2 kX12_push [.ref a0, .long x1] h (f_X12_push h a0 x1) := by
  refine so_of (lv0 := [some (.ref a0), some (.long x1), none]) pn_X12 (Nat.le_of_ble_eq_true rfl) rfl ?_
  unfold f_X12_push
  refine ao_s (st_aload_n dX12_push_0 rfl rfl) ?_
  refine ao_chk (fun e21 => ?_)
  refine ao_getR dX12_push_1 fl_X12_32 rfl e21 (fun b22 => ?_)
  refine ao_s (st_aload_n dX12_push_4 rfl rfl) ?_
  refine ao_getI dX12_push_5 fl_X12_282 rfl e21 ?_
  refine ao_s (st_lload_n dX12_push_8 rfl rfl) ?_
  refine ao_let2 (fun x23 => ?_)
  refine ao_chk (fun e24 => ?_)
  refine ao_last dX12_push_9 e24 ?_
  refine ao_letH (fun h25 => ?_)
  refine ao_s (st_aload_n dX12_push_10 rfl rfl) ?_
  refine ao_s (st_dup dX12_push_11 rfl) ?_
  refine ao_getI dX12_push_12 fl_X12_282 rfl e21 ?_
  refine ao_s (st_iconst dX12_push_15 ic_1) ?_
  refine ao_s (st_iadd dX12_push_16) ?_
  refine ao_putI dX12_push_17 fl_X12_282 rfl rfl rfl rfl e21 ?_
  refine ao_letH (fun h26 => ?_)
  exact ao_vr dX12_push_20 rfl
def f_X12_pop (h : aH) (a0 : Nat) : Option (Int64 × aH) :=
(if (sh a0).1 = 19 then
(aLet (pI h a0 18 ((hI h a0 18) - 1)) fun h22 =>
((hR h22 a0 17).bind fun b23 =>
(aLet (hI h22 a0 18) fun x24 =>
(if (sh b23).1 = 3 then
(if aIn x24 (sh b23).2 then
some (hL h22 b23 x24.toNatClampNeg, h22)
else none)
else none))))
else none)
set_option maxHeartbeats 2000000 in
theorem s_X12_pop (h : aH) (a0 : Nat) : SO eL 2 kX12_pop [.ref a0] h (f_X12_pop h a0) := by
  refine so_of (lv0 := [some (.ref a0)]) pn_X12 (Nat.le_of_ble_eq_true rfl) rfl ?_
  unfold f_X12_pop
  refine ao_s (st_aload_n dX12_pop_0 rfl rfl) ?_
  refine ao_s (st_dup dX12_pop_1 rfl) ?_
  refine ao_chk (fun e21 => ?_)
  refine ao_getI dX12_pop_2 fl_X12_282 rfl e21 ?_
  refine ao_s (st_iconst dX12_pop_5 ic_1) ?_
  refine ao_s (st_isub dX12_pop_6) ?_
  refine ao_putI dX12_pop_7 fl_X12_282 rfl rfl rfl rfl e21 ?_
  refine ao_letH (fun h22 => ?_)
  refine ao_s (st_aload_n dX12_pop_10 rfl rfl) ?_
  refine ao_getR dX12_pop_11 fl_X12_32 rfl e21 (fun b23 => ?_)
  refine ao_s (st_aload_n dX12_pop_14 rfl rfl) ?_
  refine ao_getI dX12_pop_15 fl_X12_282 rfl e21 ?_
  refine ao_letI (fun x24 => ?_)
  refine ao_chk (fun e25 => ?_)
  refine ao_lald dX12_pop_18 e25 ?_
  exact ao_lr dX12_pop_19 rfl
