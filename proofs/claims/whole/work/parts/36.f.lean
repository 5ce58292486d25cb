def b_X12_isle_74 (k45 : aH → Nat → Int32 → Option (Int32 × aH)) (h : aH) (a0 : Nat) (x1 : Int32) (s0 : Int32) (s1 : Int32) (s2 : Nat) : Option (Int32 × aH) :=
(if (sh s2).1 = 0 then
(if aIn s1 (sh s2).2 then
(aLet (pI h s2 s1.toNatClampNeg s0) fun h22 =>
k45 h22 a0 (x1 + 1))
else none)
else none)
set_option maxHeartbeats 2000000 in
theorem t_X12_isle_74 {k45 : aH → Nat → Int32 → Option (Int32 × aH)} (hk45 : ∀ (h : aH) (a0 : Nat) (x1 : Int32), AO eI 14 kX12_isle 45 [some (.ref a0), some (.int x1)] [] h (k45 h a0 x1)) (h : aH) (a0 : Nat) (x1 : Int32) (s0 : Int32) (s1 : Int32) (s2 : Nat) : AO eI 14 kX12_isle 74 [some (.ref a0), some (.int x1)] [.int s0, .int s1, .ref s2] h (b_X12_isle_74 k45 h a0 x1 s0 s1 s2) := by
  unfold b_X12_isle_74
  refine ao_chk (fun e21 => ?_)
  refine ao_iast dX12_isle_74 e21 ?_
  refine ao_letH (fun h22 => ?_)
  refine ao_s (st_iinc (lv' := [some (.ref a0), some (.int (x1 + 1))]) dX12_isle_75 rfl nc_1 (by decide) rfl) ?_
  refine ao_s (st_goto 45 dX12_isle_78 (by decide)) ?_
  exact ao_w (sb_s (sb_s sb_0)) (hk45 h22 a0 (x1 + 1))
def b_X12_isle_119 (k83 : aH → Nat → Int32 → Option (Int32 × aH)) (h : aH) (a0 : Nat) (x1 : Int32) : Option (Int32 × aH) :=
k83 h a0 (x1 + 1)
set_option maxHeartbeats 2000000 in
theorem t_X12_isle_119 {k83 : aH → Nat → Int32 → Option (Int32 × aH)} (hk83 : ∀ (h : aH) (a0 : Nat) (x1 : Int32), AO eI 14 kX12_isle 83 [some (.ref a0), some (.int x1)] [] h (k83 h a0 x1)) (h : aH) (a0 : Nat) (x1 : Int32) : AO eI 14 kX12_isle 119 [some (.ref a0), some (.int x1)] [] h (b_X12_isle_119 k83 h a0 x1) := by
  unfold b_X12_isle_119
  refine ao_s (st_iinc (lv' := [some (.ref a0), some (.int (x1 + 1))]) dX12_isle_119 rfl nc_1 (by decide) rfl) ?_
  refine ao_s (st_goto 83 dX12_isle_122 (by decide)) ?_
  exact ao_w (sb_s (sb_s sb_0)) (hk83 h a0 (x1 + 1))
def b_X12_isle_83 (k83 : aH → Nat → Int32 → Option (Int32 × aH)) (h : aH) (a0 : Nat) (x1 : Int32) : Option (Int32 × aH) :=
(if 32 ≤ x1 then
(if (sh a0).1 = 19 then
(aBind (f_X12_begins h a0) fun r22 h23 =>
(aLet (pI h23 a0 29 0) fun h24 =>
((hR h24 a0 20).bind fun b25 =>
(if (sh b25).1 = 0 then
(if aIn 3 (sh b25).2 then
some (hI h24 b25 (3 : Int32).toNatClampNeg, h24)
else none)
else none))))
else none)
else
(if (sh a0).1 = 19 then
((hR h a0 20).bind fun b28 =>
(aLet (78 + x1) fun x29 =>
(if (sh b28).1 = 0 then
(if aIn x29 (sh b28).2 then
(if 0 ≤ hI h b28 x29.toNatClampNeg then
b_X12_isle_119 k83 h a0 x1
else
((hR h a0 20).bind fun b31 =>
((hR h a0 20).bind fun b32 =>
(aLet (110 + x1) fun x33 =>
(if (sh b32).1 = 0 then
(if aIn x33 (sh b32).2 then
(aLet (78 + x1) fun x35 =>
(if (sh b31).1 = 0 then
(if aIn x35 (sh b31).2 then
(aLet (pI h b31 x35.toNatClampNeg (hI h b32 x33.toNatClampNeg)) fun h37 =>
b_X12_isle_119 k83 h37 a0 x1)
else none)
else none))
else none)
else none)))))
else none)
else none)))
else none))
set_option maxHeartbeats 2000000 in
theorem t_X12_isle_83 {k83 : aH → Nat → Int32 → Option (Int32 × aH)} (hk83 : ∀ (h : aH) (a0 : Nat) (x1 : Int32), AO eI 14 kX12_isle 83 [some (.ref a0), some (.int x1)] [] h (k83 h a0 x1)) (h : aH) (a0 : Nat) (x1 : Int32) : AO eI 14 kX12_isle 83 [some (.ref a0), some (.int x1)] [] h (b_X12_isle_83 k83 h a0 x1) := by
  unfold b_X12_isle_83
  refine ao_s (st_iload_n dX12_isle_83 rfl rfl) ?_
  refine ao_s (st_bipush dX12_isle_84 bp_32) ?_
  refine ao_br (br_icmp_ge (tgt := 125) dX12_isle_86 (by decide)) (fun c39 => ?_) (fun c39 => ?_)
  · refine ao_s (st_aload_n dX12_isle_125 rfl rfl) ?_
    refine ao_chk (fun e21 => ?_)
    refine ao_cVv (Kc := kX12_begins) (As := []) (st := []) dX12_isle_126 ml_X12_276 mv_X12_begins rfl e21 (by decide) rfl rfl (Nat.le_of_ble_eq_true rfl) (by decide) (s_X12_begins h a0) (fun r22 h23 => ?_)
    refine ao_s (st_aload_n dX12_isle_129 rfl rfl) ?_
    refine ao_s (st_iconst dX12_isle_130 ic_0) ?_
    refine ao_putI dX12_isle_131 fl_X12_279 rfl rfl rfl rfl e21 ?_
    refine ao_letH (fun h24 => ?_)
    refine ao_s (st_aload_n dX12_isle_134 rfl rfl) ?_
    refine ao_getR dX12_isle_135 fl_X12_39 rfl e21 (fun b25 => ?_)
    refine ao_s (st_iconst dX12_isle_138 ic_3) ?_
    refine ao_chk (fun e26 => ?_)
    refine ao_iald dX12_isle_139 e26 ?_
    exact ao_ir dX12_isle_140 rfl rfl
  · refine ao_s (st_aload_n dX12_isle_89 rfl rfl) ?_
    refine ao_chk (fun e27 => ?_)
    refine ao_getR dX12_isle_90 fl_X12_39 rfl e27 (fun b28 => ?_)
    refine ao_s (st_bipush dX12_isle_93 bp_78) ?_
    refine ao_s (st_iload_n dX12_isle_95 rfl rfl) ?_
    refine ao_s (st_iadd dX12_isle_96) ?_
    refine ao_letI (fun x29 => ?_)
    refine ao_chk (fun e30 => ?_)
    refine ao_iald dX12_isle_97 e30 ?_
    refine ao_br (br_if_ge (tgt := 119) dX12_isle_98 (by decide)) (fun c38 => ?_) (fun c38 => ?_)
    · exact ao_w (sb_s (sb_s sb_0)) (t_X12_isle_119 hk83 h a0 x1)
    · refine ao_s (st_aload_n dX12_isle_101 rfl rfl) ?_
      refine ao_getR dX12_isle_102 fl_X12_39 rfl e27 (fun b31 => ?_)
      refine ao_s (st_bipush dX12_isle_105 bp_78) ?_
      refine ao_s (st_iload_n dX12_isle_107 rfl rfl) ?_
      refine ao_s (st_iadd dX12_isle_108) ?_
      refine ao_s (st_aload_n dX12_isle_109 rfl rfl) ?_
      refine ao_getR dX12_isle_110 fl_X12_39 rfl e27 (fun b32 => ?_)
      refine ao_s (st_bipush dX12_isle_113 bp_110) ?_
      refine ao_s (st_iload_n dX12_isle_115 rfl rfl) ?_
      refine ao_s (st_iadd dX12_isle_116) ?_
      refine ao_letI (fun x33 => ?_)
      refine ao_chk (fun e34 => ?_)
      refine ao_iald dX12_isle_117 e34 ?_
      refine ao_let2 (fun x35 => ?_)
      refine ao_chk (fun e36 => ?_)
      refine ao_iast dX12_isle_118 e36 ?_
      refine ao_letH (fun h37 => ?_)
      exact ao_w (sb_s (sb_s sb_0)) (t_X12_isle_119 hk83 h37 a0 x1)
def f_X12_isle_83 (n : Nat) : aH → Nat → Int32 → Option (Int32 × aH) := aIt (fun _ _ _ => none) (fun k => b_X12_isle_83 k) n
theorem l_X12_isle_83 (n : Nat) : ∀ (h : aH) (a0 : Nat) (x1 : Int32), AO eI 14 kX12_isle 83 [some (.ref a0), some (.int x1)] [] h (f_X12_isle_83 n h a0 x1) := by
  induction n with
  | zero => intros; exact ao_none
  | succ n ih =>
    intro h a0 x1
    exact t_X12_isle_83 ih h a0 x1
def b_X12_isle_45 (k45 : aH → Nat → Int32 → Option (Int32 × aH)) (h : aH) (a0 : Nat) (x1 : Int32) : Option (Int32 × aH) :=
(if 184 ≤ x1 then
f_X12_isle_83 2000 h a0 0
else
(if (sh a0).1 = 19 then
((hR h a0 20).bind fun b22 =>
(if 153 ≤ x1 then
b_X12_isle_74 k45 h a0 x1 0 x1 b22
else
((hR h a0 7).bind fun b23 =>
(if (sh b23).1 = 0 then
(if aIn x1 (sh b23).2 then
b_X12_isle_74 k45 h a0 x1 (hI h b23 x1.toNatClampNeg) x1 b22
else none)
else none))))
else none))
set_option maxHeartbeats 2000000 in
theorem t_X12_isle_45 {k45 : aH → Nat → Int32 → Option (Int32 × aH)} (hk45 : ∀ (h : aH) (a0 : Nat) (x1 : Int32), AO eI 14 kX12_isle 45 [some (.ref a0), some (.int x1)] [] h (k45 h a0 x1)) (h : aH) (a0 : Nat) (x1 : Int32) : AO eI 14 kX12_isle 45 [some (.ref a0), some (.int x1)] [] h (b_X12_isle_45 k45 h a0 x1) := by
  unfold b_X12_isle_45
  refine ao_s (st_iload_n dX12_isle_45 rfl rfl) ?_
  refine ao_s (st_sipush dX12_isle_46 sp_184) ?_
  refine ao_br (br_icmp_ge (tgt := 81) dX12_isle_49 (by decide)) (fun c26 => ?_) (fun c26 => ?_)
  · refine ao_s (st_iconst dX12_isle_81 ic_0) ?_
    refine ao_s (st_istore_n (lv' := [some (.ref a0), some (.int 0)]) dX12_isle_82 rfl (by decide) rfl) ?_
    exact ao_w (sb_s (sb_s sb_0)) (l_X12_isle_83 2000 h a0 0)
  · refine ao_s (st_aload_n dX12_isle_52 rfl rfl) ?_
    refine ao_chk (fun e21 => ?_)
    refine ao_getR dX12_isle_53 fl_X12_39 rfl e21 (fun b22 => ?_)
    refine ao_s (st_iload_n dX12_isle_56 rfl rfl) ?_
    refine ao_s (st_iload_n dX12_isle_57 rfl rfl) ?_
    refine ao_s (st_sipush dX12_isle_58 sp_153) ?_
    refine ao_br (br_icmp_ge (tgt := 73) dX12_isle_61 (by decide)) (fun c25 => ?_) (fun c25 => ?_)
    · refine ao_s (st_iconst dX12_isle_73 ic_0) ?_
      exact ao_w (sb_s (sb_s sb_0)) (t_X12_isle_74 hk45 h a0 x1 0 x1 b22)
    · refine ao_s (st_aload_n dX12_isle_64 rfl rfl) ?_
      refine ao_getR dX12_isle_65 fl_X12_26 rfl e21 (fun b23 => ?_)
      refine ao_s (st_iload_n dX12_isle_68 rfl rfl) ?_
      refine ao_chk (fun e24 => ?_)
      refine ao_iald dX12_isle_69 e24 ?_
      refine ao_s (st_goto 74 dX12_isle_70 (by decide)) ?_
      exact ao_w (sb_s (sb_s sb_0)) (t_X12_isle_74 hk45 h a0 x1 (hI h b23 x1.toNatClampNeg) x1 b22)
def f_X12_isle_45 (n : Nat) : aH → Nat → Int32 → Option (Int32 × aH) := aIt (fun _ _ _ => none) (fun k => b_X12_isle_45 k) n
theorem l_X12_isle_45 (n : Nat) : ∀ (h : aH) (a0 : Nat) (x1 : Int32), AO eI 14 kX12_isle 45 [some (.ref a0), some (.int x1)] [] h (f_X12_isle_45 n h a0 x1) := by
  induction n with
  | zero => intros; exact ao_none
  | succ n ih =>
    intro h a0 x1
    exact t_X12_isle_45 ih h a0 x1
def b_X12_isle_8 (k8 : aH → Nat → Int32 → Option (Int32 × aH)) (h : aH) (a0 : Nat) (x1 : Int32) : Option (Int32 × aH) :=
(if 153 ≤ x1 then
(if (sh a0).1 = 19 then
(aBind (f_X12_readsAll h a0) fun r22 h23 =>
(if r22 = 0 then
some ((-2) - (hI h23 a0 9), h23)
else
f_X12_isle_45 2000 h23 a0 0))
else none)
else
(if (sh a0).1 = 19 then
((hR h a0 7).bind fun b26 =>
(if (sh b26).1 = 0 then
(if aIn x1 (sh b26).2 then
(aLet (pI h b26 x1.toNatClampNeg 0) fun h28 =>
k8 h28 a0 (x1 + 1))
else none)
else none))
else none))
set_option maxHeartbeats 2000000 in
theorem t_X12_isle_8 {k8 : aH → Nat → Int32 → Option (Int32 × aH)} (hk8 : ∀ (h : aH) (a0 : Nat) (x1 : Int32), AO eI 14 kX12_isle 8 [some (.ref a0), some (.int x1)] [] h (k8 h a0 x1)) (h : aH) (a0 : Nat) (x1 : Int32) : AO eI 14 kX12_isle 8 [some (.ref a0), some (.int x1)] [] h (b_X12_isle_8 k8 h a0 x1) := by
  unfold b_X12_isle_8
  refine ao_s (st_iload_n dX12_isle_8 rfl rfl) ?_
  refine ao_s (st_sipush dX12_isle_9 sp_153) ?_
  refine ao_br (br_icmp_ge (tgt := 28) dX12_isle_12 (by decide)) (fun c29 => ?_) (fun c29 => ?_)
  · refine ao_s (st_aload_n dX12_isle_28 rfl rfl) ?_
    refine ao_chk (fun e21 => ?_)
    refine ao_cVi (Kc := kX12_readsAll) (As := []) (st := []) dX12_isle_29 ml_X12_273 mv_X12_readsAll rfl e21 (by decide) rfl rfl (Nat.le_of_ble_eq_true rfl) (by decide) (s_X12_readsAll h a0) (fun r22 h23 => ?_)
    refine ao_br (br_if_ne (tgt := 43) dX12_isle_32 (by decide)) (fun c24 => ?_) (fun c24 => ?_)
    · refine ao_s (st_bipush dX12_isle_35 bp_m2) ?_
      refine ao_s (st_aload_n dX12_isle_37 rfl rfl) ?_
      refine ao_getI dX12_isle_38 fl_X12_96 rfl e21 ?_
      refine ao_s (st_isub dX12_isle_41) ?_
      exact ao_ir dX12_isle_42 rfl rfl
    · refine ao_s (st_iconst dX12_isle_43 ic_0) ?_
      refine ao_s (st_istore_n (lv' := [some (.ref a0), some (.int 0)]) dX12_isle_44 rfl (by decide) rfl) ?_
      exact ao_w (sb_s (sb_s sb_0)) (l_X12_isle_45 2000 h23 a0 0)
  · refine ao_s (st_aload_n dX12_isle_15 rfl rfl) ?_
    refine ao_chk (fun e25 => ?_)
    refine ao_getR dX12_isle_16 fl_X12_26 rfl e25 (fun b26 => ?_)
    refine ao_s (st_iload_n dX12_isle_19 rfl rfl) ?_
    refine ao_s (st_iconst dX12_isle_20 ic_0) ?_
    refine ao_chk (fun e27 => ?_)
    refine ao_iast dX12_isle_21 e27 ?_
    refine ao_letH (fun h28 => ?_)
    refine ao_s (st_iinc (lv' := [some (.ref a0), some (.int (x1 + 1))]) dX12_isle_22 rfl nc_1 (by decide) rfl) ?_
    refine ao_s (st_goto 8 dX12_isle_25 (by decide)) ?_
    exact ao_w (sb_s (sb_s sb_0)) (hk8 h28 a0 (x1 + 1))
def f_X12_isle_8 (n : Nat) : aH → Nat → Int32 → Option (Int32 × aH) := aIt (fun _ _ _ => none) (fun k => b_X12_isle_8 k) n
theorem l_X12_isle_8 (n : Nat) : ∀ (h : aH) (a0 : Nat) (x1 : Int32), AO eI 14 kX12_isle 8 [some (.ref a0), some (.int x1)] [] h (f_X12_isle_8 n h a0 x1) := by
  induction n with
  | zero => intros; exact ao_none
  | succ n ih =>
    intro h a0 x1
    exact t_X12_isle_8 ih h a0 x1
def f_X12_isle (h : aH) (a0 : Nat) : Option (Int32 × aH) :=
(if (sh a0).1 = 19 then
(aLet (pI h a0 11 6) fun h22 =>
f_X12_isle_8 2000 h22 a0 0)
else none)
set_option maxHeartbeats 2000000 in
theorem s_X12_isle (h : aH) (a0 : Nat) : SO eI 14 kX12_isle [.ref a0] h (f_X12_isle h a0) := by
  refine so_of (lv0 := [some (.ref a0), none]) pn_X12 (Nat.le_of_ble_eq_true rfl) rfl ?_
  unfold f_X12_isle
  refine ao_s (st_aload_n dX12_isle_0 rfl rfl) ?_
  refine ao_s (st_bipush dX12_isle_1 bp_6) ?_
  refine ao_chk (fun e21 => ?_)
  refine ao_putI dX12_isle_3 fl_X12_153 rfl rfl rfl rfl e21 ?_
  refine ao_letH (fun h22 => ?_)
  refine ao_s (st_iconst dX12_isle_6 ic_0) ?_
  refine ao_s (st_istore_n (lv' := [some (.ref a0), some (.int 0)]) dX12_isle_7 rfl (by decide) rfl) ?_
  exact ao_w (sb_s (sb_s sb_0)) (l_X12_isle_8 2000 h22 a0 0)
def f_X12_isRule (h : aH) (a0 : Nat) (x1 : Int32) : Option (Int32 × aH) :=
(if x1 < 0 then
some (0, h)
else
(if (sh a0).1 = 19 then
(if hI h a0 2 ≤ x1 then
some (0, h)
else
some (1, h))
else none))
set_option maxHeartbeats 2000000 in
theorem s_X12_isRule (h : aH) (a0 : Nat) (x1 : Int32) : SO eI 2 kX12_isRule [.ref a0, .int x1] h (f_X12_isRule h a0 x1) := by
  refine so_of (lv0 := [some (.ref a0), some (.int x1)]) pn_X12 (Nat.le_of_ble_eq_true rfl) rfl ?_
  unfold f_X12_isRule
  refine ao_s (st_iload_n dX12_isRule_0 rfl rfl) ?_
  refine ao_br (br_if_lt (tgt := 16) dX12_isRule_1 (by decide)) (fun c23 => ?_) (fun c23 => ?_)
  · refine ao_s (st_iconst dX12_isRule_16 ic_0) ?_
    exact ao_ir dX12_isRule_17 rfl (by decide)
  · refine ao_s (st_iload_n dX12_isRule_4 rfl rfl) ?_
    refine ao_s (st_aload_n dX12_isRule_5 rfl rfl) ?_
    refine ao_chk (fun e21 => ?_)
    refine ao_getI dX12_isRule_6 fl_X12_270 rfl e21 ?_
    refine ao_br (br_icmp_ge (tgt := 16) dX12_isRule_9 (by decide)) (fun c22 => ?_) (fun c22 => ?_)
    · refine ao_s (st_iconst dX12_isRule_16 ic_0) ?_
      exact ao_ir dX12_isRule_17 rfl (by decide)
    · refine ao_s (st_iconst dX12_isRule_12 ic_1) ?_
      refine ao_s (st_goto 17 dX12_isRule_13 (by decide)) ?_
      exact ao_ir dX12_isRule_17 rfl (by decide)
def f_X12_push (h : aH) (a0 : Nat) (x1 : Int64) : Option (Unit × aH) :=
(if (sh a0).1 = 19 then
((hR h a0 17).bind fun b22 =>
(aLet (hI h a0 18) fun x23 =>
(if (sh b22).1 = 3 then
(if aIn x23 (sh b22).2 then
(aLet (pL h b22 x23.toNatClampNeg x1) fun h25 =>
(aLet (pI h25 a0 18 ((hI h25 a0 18) + 1)) fun h26 =>
some ((), h26)))
else none)
else none)))
else none)
set_option maxHeartbeats 2000000 in
theorem s_X12_push (h : aH) (a0 : Nat) (x1 : Int64) : SO eV 2 kX12_push [.ref a0, .long x1] h (f_X12_push h a0 x1) := by
  refine so_of (lv0 := [some (.ref a0), some (.long x1), none]) pn_X12 (Nat.le_of_ble_eq_true rfl) rfl ?_
  unfold f_X12_push
  refine ao_s (st_aload_n dX12_push_0 rfl rfl) ?_
  refine ao_chk (fun e21 => ?_)
  refine ao_getR dX12_push_1 fl_X12_32 rfl e21 (fun b22 => ?_)
  refine ao_s (st_aload_n dX12_push_4 rfl rfl) ?_
  refine ao_getI dX12_push_5 fl_X12_282 rfl e21 ?_
  refine ao_s (st_lload_n dX12_push_8 rfl rfl) ?_
  refine ao_let2 (fun x23 => ?_)
  refine ao_chk (fun e24 => ?_)
  refine ao_last dX12_push_9 e24 ?_
  refine ao_letH (fun h25 => ?_)
  refine ao_s (st_aload_n dX12_push_10 rfl rfl) ?_
  refine ao_s (st_dup dX12_push_11 rfl) ?_
  refine ao_getI dX12_push_12 fl_X12_282 rfl e21 ?_
  refine ao_s (st_iconst dX12_push_15 ic_1) ?_
  refine ao_s (st_iadd dX12_push_16) ?_
  refine ao_putI dX12_push_17 fl_X12_282 rfl rfl rfl rfl e21 ?_
  refine ao_letH (fun h26 => ?_)
  exact ao_vr dX12_push_20 rfl
def f_X12_pop (h : aH) (a0 : Nat) : Option (Int64 × aH) :=
(if (sh a0).1 = 19 then
(aLet (pI h a0 18 ((hI h a0 18) - 1)) fun h22 =>
((hR h22 a0 17).bind fun b23 =>
(aLet (hI h22 a0 18) fun x24 =>
(if (sh b23).1 = 3 then
(if aIn x24 (sh b23).2 then
some (hL h22 b23 x24.toNatClampNeg, h22)
else none)
else none))))
else none)
set_option maxHeartbeats 2000000 in
theorem s_X12_pop (h : aH) (a0 : Nat) : SO eL 2 kX12_pop [.ref a0] h (f_X12_pop h a0) := by
  refine so_of (lv0 := [some (.ref a0)]) pn_X12 (Nat.le_of_ble_eq_true rfl) rfl ?_
  unfold f_X12_pop
  refine ao_s (st_aload_n dX12_pop_0 rfl rfl) ?_
  refine ao_s (st_dup dX12_pop_1 rfl) ?_
  refine ao_chk (fun e21 => ?_)
  refine ao_getI dX12_pop_2 fl_X12_282 rfl e21 ?_
  refine ao_s (st_iconst dX12_pop_5 ic_1) ?_
  refine ao_s (st_isub dX12_pop_6) ?_
  refine ao_putI dX12_pop_7 fl_X12_282 rfl rfl rfl rfl e21 ?_
  refine ao_letH (fun h22 => ?_)
  refine ao_s (st_aload_n dX12_pop_10 rfl rfl) ?_
  refine ao_getR dX12_pop_11 fl_X12_32 rfl e21 (fun b23 => ?_)
  refine ao_s (st_aload_n dX12_pop_14 rfl rfl) ?_
  refine ao_getI dX12_pop_15 fl_X12_282 rfl e21 ?_
  refine ao_letI (fun x24 => ?_)
  refine ao_chk (fun e25 => ?_)
  refine ao_lald dX12_pop_18 e25 ?_
  exact ao_lr dX12_pop_19 rfl
def f_X12_one (h : aH) (x0 : Int32) (x1 : Int64) (x3 : Int64) : Option (Int64 × aH) :=
(if x0 = 2 then
some (x1 + x3, h)
else
(if x0 = 3 then
some (x1 - x3, h)
else
(if x0 = 4 then
some (x1 * x3, h)
else
(if x0 = 5 then
(if lg_cmp x3 0 = 0 then
some (0, h)
else
(if x3 = 0 then none else
some (x1 / x3, h)))
else
(if x0 = 6 then
(if 0 ≤ lg_cmp x1 x3 then
some (0, h)
else
some (1, h))
else
(if x0 = 7 then
(if 0 < lg_cmp x1 x3 then
some (0, h)
else
some (1, h))
else
(if x0 = 8 then
(if lg_cmp x1 x3 = 0 then
some (1, h)
else
some (0, h))
else
(if x0 = 9 then
(if lg_cmp x1 x3 < 0 then
some (0, h)
else
some (1, h))
else
(if x0 = 10 then
(if lg_cmp x1 x3 ≤ 0 then
some (0, h)
else
some (1, h))
else
(if x0 = 11 then
some (x1 ||| x3, h)
else
(if x0 = 12 then
some (x1 &&& x3, h)
else
(if x0 = 13 then
some (x1 ||| x3, h)
else
(if x0 = 14 then
(if lg_cmp x3 0 = 0 then
some (0, h)
else
(if x3 = 0 then none else
some (x1 - x1 / x3 * x3, h)))
else
some (x1 ||| x3, h))))))))))))))
set_option maxHeartbeats 2000000 in
theorem s_X12_one (h : aH) (x0 : Int32) (x1 : Int64) (x3 : Int64) : SO eL 2 kX12_one [.int x0, .long x1, .long x3] h (f_X12_one h x0 x1 x3) := by
  refine so_of (lv0 := [some (.int x0), some (.long x1), none, some (.long x3), none]) pn_X12 (Nat.le_of_ble_eq_true rfl) rfl ?_
  unfold f_X12_one
  refine ao_s (st_iload_n dX12_one_0 rfl rfl) ?_
  refine ao_ite (fun c21 => ?_) (fun c21 => ?_)
  · refine ao_s (st_tabIn (v := 2) (off := 67) (tgt := 68) c21 dX12_one_1 (by decide) (by decide)) ?_
    refine ao_s (st_lload_n dX12_one_68 rfl rfl) ?_
    refine ao_s (st_lload_n dX12_one_69 rfl rfl) ?_
    refine ao_s (st_ladd dX12_one_70) ?_
    exact ao_lr dX12_one_71 rfl
  · refine ao_ite (fun c22 => ?_) (fun c22 => ?_)
    · refine ao_s (st_tabIn (v := 3) (off := 71) (tgt := 72) c22 dX12_one_1 (by decide) (by decide)) ?_
      refine ao_s (st_lload_n dX12_one_72 rfl rfl) ?_
      refine ao_s (st_lload_n dX12_one_73 rfl rfl) ?_
      refine ao_s (st_lsub dX12_one_74) ?_
      exact ao_lr dX12_one_75 rfl
    · refine ao_ite (fun c23 => ?_) (fun c23 => ?_)
      · refine ao_s (st_tabIn (v := 4) (off := 75) (tgt := 76) c23 dX12_one_1 (by decide) (by decide)) ?_
        refine ao_s (st_lload_n dX12_one_76 rfl rfl) ?_
        refine ao_s (st_lload_n dX12_one_77 rfl rfl) ?_
        refine ao_s (st_lmul dX12_one_78) ?_
        exact ao_lr dX12_one_79 rfl
      · refine ao_ite (fun c24 => ?_) (fun c24 => ?_)
        · refine ao_s (st_tabIn (v := 5) (off := 79) (tgt := 80) c24 dX12_one_1 (by decide) (by decide)) ?_
          refine ao_s (st_lload_n dX12_one_80 rfl rfl) ?_
          refine ao_s (st_lconst dX12_one_81 lc_0) ?_
          refine ao_s (st_lcmp dX12_one_82) ?_
          refine ao_br (br_if_ne (tgt := 90) dX12_one_83 (by decide)) (fun c35 => ?_) (fun c35 => ?_)
          · refine ao_s (st_lconst dX12_one_86 lc_0) ?_
            refine ao_s (st_goto 93 dX12_one_87 (by decide)) ?_
            exact ao_lr dX12_one_93 rfl
          · refine ao_s (st_lload_n dX12_one_90 rfl rfl) ?_
            refine ao_s (st_lload_n dX12_one_91 rfl rfl) ?_
            refine ao_ite (fun _ => ao_none) (fun c34 => ?_)
            refine ao_s (st_ldiv dX12_one_92 c34) ?_
            exact ao_lr dX12_one_93 rfl
        · refine ao_ite (fun c25 => ?_) (fun c25 => ?_)
          · refine ao_s (st_tabIn (v := 6) (off := 107) (tgt := 108) c25 dX12_one_1 (by decide) (by decide)) ?_
            refine ao_s (st_lload_n dX12_one_108 rfl rfl) ?_
            refine ao_s (st_lload_n dX12_one_109 rfl rfl) ?_
            refine ao_s (st_lcmp dX12_one_110) ?_
            refine ao_br (br_if_ge (tgt := 118) dX12_one_111 (by decide)) (fun c36 => ?_) (fun c36 => ?_)
            · refine ao_s (st_lconst dX12_one_118 lc_0) ?_
              exact ao_lr dX12_one_119 rfl
            · refine ao_s (st_lconst dX12_one_114 lc_1) ?_
              refine ao_s (st_goto 119 dX12_one_115 (by decide)) ?_
              exact ao_lr dX12_one_119 rfl
          · refine ao_ite (fun c26 => ?_) (fun c26 => ?_)
            · refine ao_s (st_tabIn (v := 7) (off := 119) (tgt := 120) c26 dX12_one_1 (by decide) (by decide)) ?_
              refine ao_s (st_lload_n dX12_one_120 rfl rfl) ?_
              refine ao_s (st_lload_n dX12_one_121 rfl rfl) ?_
              refine ao_s (st_lcmp dX12_one_122) ?_
              refine ao_br (br_if_gt (tgt := 130) dX12_one_123 (by decide)) (fun c37 => ?_) (fun c37 => ?_)
              · refine ao_s (st_lconst dX12_one_130 lc_0) ?_
                exact ao_lr dX12_one_131 rfl
              · refine ao_s (st_lconst dX12_one_126 lc_1) ?_
                refine ao_s (st_goto 131 dX12_one_127 (by decide)) ?_
                exact ao_lr dX12_one_131 rfl
            · refine ao_ite (fun c27 => ?_) (fun c27 => ?_)
              · refine ao_s (st_tabIn (v := 8) (off := 131) (tgt := 132) c27 dX12_one_1 (by decide) (by decide)) ?_
                refine ao_s (st_lload_n dX12_one_132 rfl rfl) ?_
                refine ao_s (st_lload_n dX12_one_133 rfl rfl) ?_
                refine ao_s (st_lcmp dX12_one_134) ?_
                refine ao_br (br_if_ne (tgt := 142) dX12_one_135 (by decide)) (fun c38 => ?_) (fun c38 => ?_)
                · refine ao_s (st_lconst dX12_one_138 lc_1) ?_
                  refine ao_s (st_goto 143 dX12_one_139 (by decide)) ?_
                  exact ao_lr dX12_one_143 rfl
                · refine ao_s (st_lconst dX12_one_142 lc_0) ?_
                  exact ao_lr dX12_one_143 rfl
              · refine ao_ite (fun c28 => ?_) (fun c28 => ?_)
                · refine ao_s (st_tabIn (v := 9) (off := 143) (tgt := 144) c28 dX12_one_1 (by decide) (by decide)) ?_
                  refine ao_s (st_lload_n dX12_one_144 rfl rfl) ?_
                  refine ao_s (st_lload_n dX12_one_145 rfl rfl) ?_
                  refine ao_s (st_lcmp dX12_one_146) ?_
                  refine ao_br (br_if_lt (tgt := 154) dX12_one_147 (by decide)) (fun c39 => ?_) (fun c39 => ?_)
                  · refine ao_s (st_lconst dX12_one_154 lc_0) ?_
                    exact ao_lr dX12_one_155 rfl
                  · refine ao_s (st_lconst dX12_one_150 lc_1) ?_
                    refine ao_s (st_goto 155 dX12_one_151 (by decide)) ?_
                    exact ao_lr dX12_one_155 rfl
                · refine ao_ite (fun c29 => ?_) (fun c29 => ?_)
                  · refine ao_s (st_tabIn (v := 10) (off := 155) (tgt := 156) c29 dX12_one_1 (by decide) (by decide)) ?_
                    refine ao_s (st_lload_n dX12_one_156 rfl rfl) ?_
                    refine ao_s (st_lload_n dX12_one_157 rfl rfl) ?_
                    refine ao_s (st_lcmp dX12_one_158) ?_
                    refine ao_br (br_if_le (tgt := 166) dX12_one_159 (by decide)) (fun c40 => ?_) (fun c40 => ?_)
                    · refine ao_s (st_lconst dX12_one_166 lc_0) ?_
                      exact ao_lr dX12_one_167 rfl
                    · refine ao_s (st_lconst dX12_one_162 lc_1) ?_
                      refine ao_s (st_goto 167 dX12_one_163 (by decide)) ?_
                      exact ao_lr dX12_one_167 rfl
                  · refine ao_ite (fun c30 => ?_) (fun c30 => ?_)
                    · refine ao_s (st_tabIn (v := 11) (off := 171) (tgt := 172) c30 dX12_one_1 (by decide) (by decide)) ?_
                      refine ao_s (st_lload_n dX12_one_172 rfl rfl) ?_
                      refine ao_s (st_lload_n dX12_one_173 rfl rfl) ?_
                      refine ao_s (st_lor dX12_one_174) ?_
                      exact ao_lr dX12_one_175 rfl
                    · refine ao_ite (fun c31 => ?_) (fun c31 => ?_)
                      · refine ao_s (st_tabIn (v := 12) (off := 167) (tgt := 168) c31 dX12_one_1 (by decide) (by decide)) ?_
                        refine ao_s (st_lload_n dX12_one_168 rfl rfl) ?_
                        refine ao_s (st_lload_n dX12_one_169 rfl rfl) ?_
                        refine ao_s (st_land dX12_one_170) ?_
                        exact ao_lr dX12_one_171 rfl
                      · refine ao_ite (fun c32 => ?_) (fun c32 => ?_)
                        · refine ao_s (st_tabIn (v := 13) (off := 171) (tgt := 172) c32 dX12_one_1 (by decide) (by decide)) ?_
                          refine ao_s (st_lload_n dX12_one_172 rfl rfl) ?_
                          refine ao_s (st_lload_n dX12_one_173 rfl rfl) ?_
                          refine ao_s (st_lor dX12_one_174) ?_
                          exact ao_lr dX12_one_175 rfl
                        · refine ao_ite (fun c33 => ?_) (fun c33 => ?_)
                          · refine ao_s (st_tabIn (v := 14) (off := 93) (tgt := 94) c33 dX12_one_1 (by decide) (by decide)) ?_
                            refine ao_s (st_lload_n dX12_one_94 rfl rfl) ?_
                            refine ao_s (st_lconst dX12_one_95 lc_0) ?_
                            refine ao_s (st_lcmp dX12_one_96) ?_
                            refine ao_br (br_if_ne (tgt := 104) dX12_one_97 (by decide)) (fun c42 => ?_) (fun c42 => ?_)
                            · refine ao_s (st_lconst dX12_one_100 lc_0) ?_
                              refine ao_s (st_goto 107 dX12_one_101 (by decide)) ?_
                              exact ao_lr dX12_one_107 rfl
                            · refine ao_s (st_lload_n dX12_one_104 rfl rfl) ?_
                              refine ao_s (st_lload_n dX12_one_105 rfl rfl) ?_
                              refine ao_ite (fun _ => ao_none) (fun c41 => ?_)
                              refine ao_s (st_lrem dX12_one_106 c41) ?_
                              exact ao_lr dX12_one_107 rfl
                          · refine ao_s (st_tabOut (tgt := 172) dX12_one_1 (by have q0 := lv_neT c21 (show (2 : Int32).toInt = 2 by decide); have q1 := lv_neT c22 (show (3 : Int32).toInt = 3 by decide); have q2 := lv_neT c23 (show (4 : Int32).toInt = 4 by decide); have q3 := lv_neT c24 (show (5 : Int32).toInt = 5 by decide); have q4 := lv_neT c25 (show (6 : Int32).toInt = 6 by decide); have q5 := lv_neT c26 (show (7 : Int32).toInt = 7 by decide); have q6 := lv_neT c27 (show (8 : Int32).toInt = 8 by decide); have q7 := lv_neT c28 (show (9 : Int32).toInt = 9 by decide); have q8 := lv_neT c29 (show (10 : Int32).toInt = 10 by decide); have q9 := lv_neT c30 (show (11 : Int32).toInt = 11 by decide); have q10 := lv_neT c31 (show (12 : Int32).toInt = 12 by decide); have q11 := lv_neT c32 (show (13 : Int32).toInt = 13 by decide); have q12 := lv_neT c33 (show (14 : Int32).toInt = 14 by decide); omega) (by decide)) ?_
                            refine ao_s (st_lload_n dX12_one_172 rfl rfl) ?_
                            refine ao_s (st_lload_n dX12_one_173 rfl rfl) ?_
                            refine ao_s (st_lor dX12_one_174) ?_
                            exact ao_lr dX12_one_175 rfl
def b_X12_reckons_129 (k8 : aH → Nat → Int32 → Int32 → Int32 → Option (Int64 × aH)) (h : aH) (a0 : Nat) (x1 : Int32) (x3 : Int32) (x4 : Int32) : Option (Int64 × aH) :=
k8 h a0 x1 x3 (x4 + 1)
set_option maxHeartbeats 2000000 in
theorem t_X12_reckons_129 {k8 : aH → Nat → Int32 → Int32 → Int32 → Option (Int64 × aH)} (hk8 : ∀ (h : aH) (a0 : Nat) (x1 : Int32) (x3 : Int32) (x4 : Int32), AO eL 3 kX12_reckons 8 [some (.ref a0), some (.int x1), none, some (.int x3), some (.int x4), none, none, none, none, none, none] [] h (k8 h a0 x1 x3 x4)) (h : aH) (a0 : Nat) (x1 : Int32) (x3 : Int32) (x4 : Int32) : AO eL 3 kX12_reckons 129 [some (.ref a0), some (.int x1), none, some (.int x3), some (.int x4), none, none, none, none, none, none] [] h (b_X12_reckons_129 k8 h a0 x1 x3 x4) := by
  unfold b_X12_reckons_129
  refine ao_s (st_iinc (lv' := [some (.ref a0), some (.int x1), none, some (.int x3), some (.int (x4 + 1)), none, none, none, none, none, none]) dX12_reckons_129 rfl nc_1 (by decide) rfl) ?_
  refine ao_s (st_goto 8 dX12_reckons_132 (by decide)) ?_
  exact ao_w (sb_s (sb_s (sb_n (sb_s (sb_s (sb_n (sb_n (sb_n (sb_n (sb_n (sb_n sb_0))))))))))) (hk8 h a0 x1 x3 (x4 + 1))
def b_X12_reckons_8 (k8 : aH → Nat → Int32 → Int32 → Int32 → Option (Int64 × aH)) (h : aH) (a0 : Nat) (x1 : Int32) (x3 : Int32) (x4 : Int32) : Option (Int64 × aH) :=
(if x3 ≤ x4 then
(if (sh a0).1 = 19 then
(aBind (f_X12_pop h a0) fun r22 h23 =>
some (r22, h23))
else none)
else
(if (sh a0).1 = 19 then
((hR h a0 3).bind fun b25 =>
(aLet ((400 * x1) + x4) fun x26 =>
(if (sh b25).1 = 0 then
(if aIn x26 (sh b25).2 then
(aLet ((hI h b25 x26.toNatClampNeg) &&& 15) fun x28 =>
((hR h a0 3).bind fun b29 =>
(aLet ((400 * x1) + x4) fun x30 =>
(if (sh b29).1 = 0 then
(if aIn x30 (sh b29).2 then
(aLet ((hI h b29 x30.toNatClampNeg) >>> (4 &&& 31)) fun x32 =>
(if x28 = 0 then
(aBind (f_X12_push h a0 x32.toInt64) fun r33 h34 =>
b_X12_reckons_129 k8 h34 a0 x1 x3 x4)
else
(if x28 = 1 then
((hR h a0 19).bind fun b35 =>
(if (sh b35).1 = 3 then
(if aIn x32 (sh b35).2 then
(aBind (f_X12_push h a0 (hL h b35 x32.toNatClampNeg)) fun r37 h38 =>
b_X12_reckons_129 k8 h38 a0 x1 x3 x4)
else none)
else none))
else
(if x28 = 11 then
(aBind (f_X12_pop h a0) fun r39 h40 =>
(aBind (f_X12_push h40 a0 (1 - r39)) fun r41 h42 =>
b_X12_reckons_129 k8 h42 a0 x1 x3 x4))
else
(aBind (f_X12_pop h a0) fun r43 h44 =>
(aBind (f_X12_pop h44 a0) fun r45 h46 =>
(aBind (f_X12_one h46 x28 r45 r43) fun r47 h48 =>
(aBind (f_X12_push h48 a0 r47) fun r49 h50 =>
b_X12_reckons_129 k8 h50 a0 x1 x3 x4))))))))
else none)
else none))))
else none)
else none)))
else none))
set_option maxHeartbeats 2000000 in
theorem t_X12_reckons_8 {k8 : aH → Nat → Int32 → Int32 → Int32 → Option (Int64 × aH)} (hk8 : ∀ (h : aH) (a0 : Nat) (x1 : Int32) (x3 : Int32) (x4 : Int32), AO eL 3 kX12_reckons 8 [some (.ref a0), some (.int x1), none, some (.int x3), some (.int x4), none, none, none, none, none, none] [] h (k8 h a0 x1 x3 x4)) (h : aH) (a0 : Nat) (x1 : Int32) (x3 : Int32) (x4 : Int32) : AO eL 3 kX12_reckons 8 [some (.ref a0), some (.int x1), none, some (.int x3), some (.int x4), none, none, none, none, none, none] [] h (b_X12_reckons_8 k8 h a0 x1 x3 x4) := by
  unfold b_X12_reckons_8
  refine ao_s (st_iload dX12_reckons_8 rfl) ?_
  refine ao_s (st_iload_n dX12_reckons_10 rfl rfl) ?_
  refine ao_br (br_icmp_ge (tgt := 135) dX12_reckons_11 (by decide)) (fun c54 => ?_) (fun c54 => ?_)
  · refine ao_s (st_aload_n dX12_reckons_135 rfl rfl) ?_
    refine ao_chk (fun e21 => ?_)
    refine ao_cVl (Kc := kX12_pop) (As := []) (st := []) dX12_reckons_136 ml_X12_289 mv_X12_pop rfl e21 (by decide) rfl rfl (Nat.le_of_ble_eq_true rfl) (by decide) (s_X12_pop h a0) (fun r22 h23 => ?_)
    exact ao_lr dX12_reckons_139 rfl
  · refine ao_s (st_aload_n dX12_reckons_14 rfl rfl) ?_
    refine ao_chk (fun e24 => ?_)
    refine ao_getR dX12_reckons_15 fl_X12_13 rfl e24 (fun b25 => ?_)
    refine ao_s (st_sipush dX12_reckons_18 sp_400) ?_
    refine ao_s (st_iload_n dX12_reckons_21 rfl rfl) ?_
    refine ao_s (st_imul dX12_reckons_22) ?_
    refine ao_s (st_iload dX12_reckons_23 rfl) ?_
    refine ao_s (st_iadd dX12_reckons_25) ?_
    refine ao_letI (fun x26 => ?_)
    refine ao_chk (fun e27 => ?_)
    refine ao_iald dX12_reckons_26 e27 ?_
    refine ao_s (st_bipush dX12_reckons_27 bp_15) ?_
    refine ao_s (st_iand dX12_reckons_29) ?_
    refine ao_letI (fun x28 => ?_)
    refine ao_s (st_istore (lv' := [some (.ref a0), some (.int x1), none, some (.int x3), some (.int x4), some (.int x28), none, none, none, none, none]) dX12_reckons_30 (by decide) rfl) ?_
    refine ao_s (st_aload_n dX12_reckons_32 rfl rfl) ?_
    refine ao_getR dX12_reckons_33 fl_X12_13 rfl e24 (fun b29 => ?_)
    refine ao_s (st_sipush dX12_reckons_36 sp_400) ?_
    refine ao_s (st_iload_n dX12_reckons_39 rfl rfl) ?_
    refine ao_s (st_imul dX12_reckons_40) ?_
    refine ao_s (st_iload dX12_reckons_41 rfl) ?_
    refine ao_s (st_iadd dX12_reckons_43) ?_
    refine ao_letI (fun x30 => ?_)
    refine ao_chk (fun e31 => ?_)
    refine ao_iald dX12_reckons_44 e31 ?_
    refine ao_s (st_iconst dX12_reckons_45 ic_4) ?_
    refine ao_s (st_ishr dX12_reckons_46) ?_
    refine ao_letI (fun x32 => ?_)
    refine ao_s (st_istore (lv' := [some (.ref a0), some (.int x1), none, some (.int x3), some (.int x4), some (.int x28), some (.int x32), none, none, none, none]) dX12_reckons_47 (by decide) rfl) ?_
    refine ao_s (st_iload dX12_reckons_49 rfl) ?_
    refine ao_br (br_if_ne (tgt := 64) dX12_reckons_51 (by decide)) (fun c53 => ?_) (fun c53 => ?_)
    · refine ao_s (st_aload_n dX12_reckons_54 rfl rfl) ?_
      refine ao_s (st_iload dX12_reckons_55 rfl) ?_
      refine ao_s (st_i2l dX12_reckons_57) ?_
      refine ao_cVv (Kc := kX12_push) (As := [.long x32.toInt64]) (st := []) dX12_reckons_58 ml_X12_285 mv_X12_push rfl e24 (by decide) rfl rfl (Nat.le_of_ble_eq_true rfl) (by decide) (s_X12_push h a0 x32.toInt64) (fun r33 h34 => ?_)
      refine ao_s (st_goto 129 dX12_reckons_61 (by decide)) ?_
      exact ao_w (sb_s (sb_s (sb_n (sb_s (sb_s (sb_n (sb_n (sb_n (sb_n (sb_n (sb_n sb_0))))))))))) (t_X12_reckons_129 hk8 h34 a0 x1 x3 x4)
    · refine ao_s (st_iload dX12_reckons_64 rfl) ?_
      refine ao_s (st_iconst dX12_reckons_66 ic_1) ?_
      refine ao_br (br_icmp_ne (tgt := 84) dX12_reckons_67 (by decide)) (fun c52 => ?_) (fun c52 => ?_)
      · refine ao_s (st_aload_n dX12_reckons_70 rfl rfl) ?_
        refine ao_s (st_aload_n dX12_reckons_71 rfl rfl) ?_
        refine ao_getR dX12_reckons_72 fl_X12_36 rfl e24 (fun b35 => ?_)
        refine ao_s (st_iload dX12_reckons_75 rfl) ?_
        refine ao_chk (fun e36 => ?_)
        refine ao_lald dX12_reckons_77 e36 ?_
        refine ao_cVv (Kc := kX12_push) (As := [.long (hL h b35 x32.toNatClampNeg)]) (st := []) dX12_reckons_78 ml_X12_285 mv_X12_push rfl e24 (by decide) rfl rfl (Nat.le_of_ble_eq_true rfl) (by decide) (s_X12_push h a0 (hL h b35 x32.toNatClampNeg)) (fun r37 h38 => ?_)
        refine ao_s (st_goto 129 dX12_reckons_81 (by decide)) ?_
        exact ao_w (sb_s (sb_s (sb_n (sb_s (sb_s (sb_n (sb_n (sb_n (sb_n (sb_n (sb_n sb_0))))))))))) (t_X12_reckons_129 hk8 h38 a0 x1 x3 x4)
      · refine ao_s (st_iload dX12_reckons_84 rfl) ?_
        refine ao_s (st_bipush dX12_reckons_86 bp_11) ?_
        refine ao_br (br_icmp_ne (tgt := 104) dX12_reckons_88 (by decide)) (fun c51 => ?_) (fun c51 => ?_)
        · refine ao_s (st_aload_n dX12_reckons_91 rfl rfl) ?_
          refine ao_s (st_lconst dX12_reckons_92 lc_1) ?_
          refine ao_s (st_aload_n dX12_reckons_93 rfl rfl) ?_
          refine ao_cVl (Kc := kX12_pop) (As := []) (st := [.long 1, .ref a0]) dX12_reckons_94 ml_X12_289 mv_X12_pop rfl e24 (by decide) rfl rfl (Nat.le_of_ble_eq_true rfl) (by decide) (s_X12_pop h a0) (fun r39 h40 => ?_)
          refine ao_s (st_lsub dX12_reckons_97) ?_
          refine ao_cVv (Kc := kX12_push) (As := [.long (1 - r39)]) (st := []) dX12_reckons_98 ml_X12_285 mv_X12_push rfl e24 (by decide) rfl rfl (Nat.le_of_ble_eq_true rfl) (by decide) (s_X12_push h40 a0 (1 - r39)) (fun r41 h42 => ?_)
          refine ao_s (st_goto 129 dX12_reckons_101 (by decide)) ?_
          exact ao_w (sb_s (sb_s (sb_n (sb_s (sb_s (sb_n (sb_n (sb_n (sb_n (sb_n (sb_n sb_0))))))))))) (t_X12_reckons_129 hk8 h42 a0 x1 x3 x4)
        · refine ao_s (st_aload_n dX12_reckons_104 rfl rfl) ?_
          refine ao_cVl (Kc := kX12_pop) (As := []) (st := []) dX12_reckons_105 ml_X12_289 mv_X12_pop rfl e24 (by decide) rfl rfl (Nat.le_of_ble_eq_true rfl) (by decide) (s_X12_pop h a0) (fun r43 h44 => ?_)
          refine ao_s (st_lstore (lv' := [some (.ref a0), some (.int x1), none, some (.int x3), some (.int x4), some (.int x28), some (.int x32), some (.long r43), none, none, none]) dX12_reckons_108 (by decide) rfl) ?_
          refine ao_s (st_aload_n dX12_reckons_110 rfl rfl) ?_
          refine ao_cVl (Kc := kX12_pop) (As := []) (st := []) dX12_reckons_111 ml_X12_289 mv_X12_pop rfl e24 (by decide) rfl rfl (Nat.le_of_ble_eq_true rfl) (by decide) (s_X12_pop h44 a0) (fun r45 h46 => ?_)
          refine ao_s (st_lstore (lv' := [some (.ref a0), some (.int x1), none, some (.int x3), some (.int x4), some (.int x28), some (.int x32), some (.long r43), none, some (.long r45), none]) dX12_reckons_114 (by decide) rfl) ?_
          refine ao_s (st_aload_n dX12_reckons_116 rfl rfl) ?_
          refine ao_s (st_iload dX12_reckons_117 rfl) ?_
          refine ao_s (st_lload dX12_reckons_119 rfl) ?_
          refine ao_s (st_lload dX12_reckons_121 rfl) ?_
          refine ao_cSl (Kc := kX12_one) (As := [.int x28, .long r45, .long r43]) (st := [.ref a0]) dX12_reckons_123 ml_X12_293 ms_X12_one rfl rfl (Nat.le_of_ble_eq_true rfl) (by decide) (s_X12_one h46 x28 r45 r43) (fun r47 h48 => ?_)
          refine ao_cVv (Kc := kX12_push) (As := [.long r47]) (st := []) dX12_reckons_126 ml_X12_285 mv_X12_push rfl e24 (by decide) rfl rfl (Nat.le_of_ble_eq_true rfl) (by decide) (s_X12_push h48 a0 r47) (fun r49 h50 => ?_)
          exact ao_w (sb_s (sb_s (sb_n (sb_s (sb_s (sb_n (sb_n (sb_n (sb_n (sb_n (sb_n sb_0))))))))))) (t_X12_reckons_129 hk8 h50 a0 x1 x3 x4)
def f_X12_reckons_8 (n : Nat) : aH → Nat → Int32 → Int32 → Int32 → Option (Int64 × aH) := aIt (fun _ _ _ _ _ => none) (fun k => b_X12_reckons_8 k) n
theorem l_X12_reckons_8 (n : Nat) : ∀ (h : aH) (a0 : Nat) (x1 : Int32) (x3 : Int32) (x4 : Int32), AO eL 3 kX12_reckons 8 [some (.ref a0), some (.int x1), none, some (.int x3), some (.int x4), none, none, none, none, none, none] [] h (f_X12_reckons_8 n h a0 x1 x3 x4) := by
  induction n with
  | zero => intros; exact ao_none
  | succ n ih =>
    intro h a0 x1 x3 x4
    exact t_X12_reckons_8 ih h a0 x1 x3 x4
def f_X12_reckons (h : aH) (a0 : Nat) (x1 : Int32) (x2 : Int32) (x3 : Int32) : Option (Int64 × aH) :=
(if (sh a0).1 = 19 then
(aLet (pI h a0 18 0) fun h22 =>
f_X12_reckons_8 2000 h22 a0 x1 x3 x2)
else none)
set_option maxHeartbeats 2000000 in
theorem s_X12_reckons (h : aH) (a0 : Nat) (x1 : Int32) (x2 : Int32) (x3 : Int32) : SO eL 3 kX12_reckons [.ref a0, .int x1, .int x2, .int x3] h (f_X12_reckons h a0 x1 x2 x3) := by
  refine so_of (lv0 := [some (.ref a0), some (.int x1), some (.int x2), some (.int x3), none, none, none, none, none, none, none]) pn_X12 (Nat.le_of_ble_eq_true rfl) rfl ?_
  unfold f_X12_reckons
  refine ao_s (st_aload_n dX12_reckons_0 rfl rfl) ?_
  refine ao_s (st_iconst dX12_reckons_1 ic_0) ?_
  refine ao_chk (fun e21 => ?_)
  refine ao_putI dX12_reckons_2 fl_X12_282 rfl rfl rfl rfl e21 ?_
  refine ao_letH (fun h22 => ?_)
  refine ao_s (st_iload_n dX12_reckons_5 rfl rfl) ?_
  refine ao_s (st_istore (lv' := [some (.ref a0), some (.int x1), some (.int x2), some (.int x3), some (.int x2), none, none, none, none, none, none]) dX12_reckons_6 (by decide) rfl) ?_
  exact ao_w (sb_s (sb_s (sb_n (sb_s (sb_s (sb_n (sb_n (sb_n (sb_n (sb_n (sb_n sb_0))))))))))) (l_X12_reckons_8 2000 h22 a0 x1 x3 x2)
