def b_X12_fact_72 (k2 : aH → Nat → Int32 → Option (Int32 × aH)) (h : aH) (a0 : Nat) (x1 : Int32) : Option (Int32 × aH) :=
k2 h a0 x1
set_option maxHeartbeats 2000000 in
theorem t_X12_fact_72 {k2 : aH → Nat → Int32 → Option (Int32 × aH)} (hk2 : ∀ (h : aH) (a0 : Nat) (x1 : Int32), AO eI 9 kX12_fact 2 [some (.ref a0), some (.int x1), none] [] h (k2 h a0 x1)) (h : aH) (a0 : Nat) (x1 : Int32) : AO eI 9 kX12_fact 72 [some (.ref a0), some (.int x1), none] [] h (b_X12_fact_72 k2 h a0 x1) := by
  unfold b_X12_fact_72
  refine ao_s (st_goto 2 dX12_fact_72 (by decide)) ?_
  exact ao_w (sb_s (sb_s (sb_n sb_0))) (hk2 h a0 x1)
def b_X12_fact_2 (k2 : aH → Nat → Int32 → Option (Int32 × aH)) (h : aH) (a0 : Nat) (x1 : Int32) : Option (Int32 × aH) :=
(if x1 = 0 then
(if (sh a0).1 = 19 then
(aBind (f_X12_compare h a0) fun r22 h23 =>
(if r22 = 0 ∨ r22 = 1 then some (r22, h23) else none))
else none)
else
(if (sh a0).1 = 19 then
(aBind (f_X12_see h a0) fun r26 h27 =>
(aBind (f_X12_isWord h27 a0 7237492) fun r28 h29 =>
(if r28 = 0 then
(if r26 = 91 then
(aBind (f_X12_opens h29 a0 91) fun r30 h31 =>
(if r30 = 0 then
some (0, h31)
else
(aLet (pI h31 a0 8 ((hI h31 a0 8) + 1)) fun h32 =>
b_X12_fact_72 k2 h32 a0 1)))
else
b_X12_fact_72 k2 h29 a0 0)
else
(aBind (f_X12_opens h29 a0 11) fun r35 h36 =>
(if r35 = 0 then
some (0, h36)
else
(aBind (f_X12_passWord h36 a0) fun r37 h38 =>
b_X12_fact_72 k2 h38 a0 1))))))
else none))
set_option maxHeartbeats 2000000 in
theorem t_X12_fact_2 {k2 : aH → Nat → Int32 → Option (Int32 × aH)} (hk2 : ∀ (h : aH) (a0 : Nat) (x1 : Int32), AO eI 9 kX12_fact 2 [some (.ref a0), some (.int x1), none] [] h (k2 h a0 x1)) (h : aH) (a0 : Nat) (x1 : Int32) : AO eI 9 kX12_fact 2 [some (.ref a0), some (.int x1), none] [] h (b_X12_fact_2 k2 h a0 x1) := by
  unfold b_X12_fact_2
  refine ao_s (st_iload_n dX12_fact_2 rfl rfl) ?_
  refine ao_br (br_if_eq (tgt := 75) dX12_fact_3 (by decide)) (fun c41 => ?_) (fun c41 => ?_)
  · refine ao_s (st_aload_n dX12_fact_75 rfl rfl) ?_
    refine ao_chk (fun e21 => ?_)
    refine ao_cVi (Kc := kX12_compare) (As := []) (st := []) dX12_fact_76 ml_X12_198 mv_X12_compare rfl e21 (by decide) rfl rfl (Nat.le_of_ble_eq_true rfl) (by decide) (s_X12_compare h a0) (fun r22 h23 => ?_)
    refine ao_chk (fun c24 => ?_)
    exact ao_ir dX12_fact_79 rfl (nz c24).1
  · refine ao_s (st_iconst dX12_fact_6 ic_0) ?_
    refine ao_s (st_istore_n (lv' := [some (.ref a0), some (.int 0), none]) dX12_fact_7 rfl (by decide) rfl) ?_
    refine ao_s (st_aload_n dX12_fact_8 rfl rfl) ?_
    refine ao_chk (fun e25 => ?_)
    refine ao_cVi (Kc := kX12_see) (As := []) (st := []) dX12_fact_9 ml_X12_102 mv_X12_see rfl e25 (by decide) rfl rfl (Nat.le_of_ble_eq_true rfl) (by decide) (s_X12_see h a0) (fun r26 h27 => ?_)
    refine ao_s (st_istore_n (lv' := [some (.ref a0), some (.int 0), some (.int r26)]) dX12_fact_12 rfl (by decide) rfl) ?_
    refine ao_s (st_aload_n dX12_fact_13 rfl rfl) ?_
    refine ao_s (st_ldc2 dX12_fact_14 cl_X12_193) ?_
    refine ao_cVi (Kc := kX12_isWord) (As := [.long 7237492]) (st := []) dX12_fact_17 ml_X12_110 mv_X12_isWord rfl e25 (by decide) rfl rfl (Nat.le_of_ble_eq_true rfl) (by decide) (s_X12_isWord h27 a0 7237492) (fun r28 h29 => ?_)
    refine ao_br (br_if_eq (tgt := 43) dX12_fact_20 (by decide)) (fun c40 => ?_) (fun c40 => ?_)
    · refine ao_s (st_iload_n dX12_fact_43 rfl rfl) ?_
      refine ao_s (st_bipush dX12_fact_44 bp_91) ?_
      refine ao_br (br_icmp_ne (tgt := 72) dX12_fact_46 (by decide)) (fun c34 => ?_) (fun c34 => ?_)
      · refine ao_s (st_aload_n dX12_fact_49 rfl rfl) ?_
        refine ao_s (st_bipush dX12_fact_50 bp_91) ?_
        refine ao_cVi (Kc := kX12_opens) (As := [.int 91]) (st := []) dX12_fact_52 ml_X12_195 mv_X12_opens rfl e25 (by decide) rfl rfl (Nat.le_of_ble_eq_true rfl) (by decide) (s_X12_opens h29 a0 91) (fun r30 h31 => ?_)
        refine ao_br (br_if_ne (tgt := 60) dX12_fact_55 (by decide)) (fun c33 => ?_) (fun c33 => ?_)
        · refine ao_s (st_iconst dX12_fact_58 ic_0) ?_
          exact ao_ir dX12_fact_59 rfl (by decide)
        · refine ao_s (st_aload_n dX12_fact_60 rfl rfl) ?_
          refine ao_s (st_dup dX12_fact_61 rfl) ?_
          refine ao_getI dX12_fact_62 fl_X12_99 rfl e25 ?_
          refine ao_s (st_iconst dX12_fact_65 ic_1) ?_
          refine ao_s (st_iadd dX12_fact_66) ?_
          refine ao_putI dX12_fact_67 fl_X12_99 rfl rfl rfl rfl e25 ?_
          refine ao_letH (fun h32 => ?_)
          refine ao_s (st_iconst dX12_fact_70 ic_1) ?_
          refine ao_s (st_istore_n (lv' := [some (.ref a0), some (.int 1), some (.int r26)]) dX12_fact_71 rfl (by decide) rfl) ?_
          exact ao_w (sb_s (sb_s (sb_n sb_0))) (t_X12_fact_72 hk2 h32 a0 1)
      · exact ao_w (sb_s (sb_s (sb_n sb_0))) (t_X12_fact_72 hk2 h29 a0 0)
    · refine ao_s (st_aload_n dX12_fact_23 rfl rfl) ?_
      refine ao_s (st_bipush dX12_fact_24 bp_11) ?_
      refine ao_cVi (Kc := kX12_opens) (As := [.int 11]) (st := []) dX12_fact_26 ml_X12_195 mv_X12_opens rfl e25 (by decide) rfl rfl (Nat.le_of_ble_eq_true rfl) (by decide) (s_X12_opens h29 a0 11) (fun r35 h36 => ?_)
      refine ao_br (br_if_ne (tgt := 34) dX12_fact_29 (by decide)) (fun c39 => ?_) (fun c39 => ?_)
      · refine ao_s (st_iconst dX12_fact_32 ic_0) ?_
        exact ao_ir dX12_fact_33 rfl (by decide)
      · refine ao_s (st_aload_n dX12_fact_34 rfl rfl) ?_
        refine ao_cVv (Kc := kX12_passWord) (As := []) (st := []) dX12_fact_35 ml_X12_114 mv_X12_passWord rfl e25 (by decide) rfl rfl (Nat.le_of_ble_eq_true rfl) (by decide) (s_X12_passWord h36 a0) (fun r37 h38 => ?_)
        refine ao_s (st_iconst dX12_fact_38 ic_1) ?_
        refine ao_s (st_istore_n (lv' := [some (.ref a0), some (.int 1), some (.int r26)]) dX12_fact_39 rfl (by decide) rfl) ?_
        refine ao_s (st_goto 72 dX12_fact_40 (by decide)) ?_
        exact ao_w (sb_s (sb_s (sb_n sb_0))) (t_X12_fact_72 hk2 h38 a0 1)
def f_X12_fact_2 (n : Nat) : aH → Nat → Int32 → Option (Int32 × aH) := aIt (fun _ _ _ => none) (fun k => b_X12_fact_2 k) n
theorem l_X12_fact_2 (n : Nat) : ∀ (h : aH) (a0 : Nat) (x1 : Int32), AO eI 9 kX12_fact 2 [some (.ref a0), some (.int x1), none] [] h (f_X12_fact_2 n h a0 x1) := by
  induction n with
  | zero => intros; exact ao_none
  | succ n ih =>
    intro h a0 x1
    exact t_X12_fact_2 ih h a0 x1
def f_X12_fact (h : aH) (a0 : Nat) : Option (Int32 × aH) :=
f_X12_fact_2 2000 h a0 1
set_option maxHeartbeats 2000000 in
theorem s_X12_fact (h : aH) (a0 : Nat) : SO eI 9 kX12_fact [.ref a0] h (f_X12_fact h a0) := by
  refine so_of (lv0 := [some (.ref a0), none, none]) pn_X12 (Nat.le_of_ble_eq_true rfl) rfl ?_
  unfold f_X12_fact
  refine ao_s (st_iconst dX12_fact_0 ic_1) ?_
  refine ao_s (st_istore_n (lv' := [some (.ref a0), some (.int 1), none]) dX12_fact_1 rfl (by decide) rfl) ?_
  exact ao_w (sb_s (sb_s (sb_n sb_0))) (l_X12_fact_2 2000 h a0 1)
def b_X12_isInside_2 (k2 : aH → Nat → Int32 → Option (Int32 × aH)) (h : aH) (a0 : Nat) (x1 : Int32) : Option (Int32 × aH) :=
(if (sh a0).1 = 19 then
(if hI h a0 16 ≤ x1 then
some (0, h)
else
((hR h a0 15).bind fun b22 =>
(if (sh b22).1 = 0 then
(if aIn x1 (sh b22).2 then
(if hI h b22 x1.toNatClampNeg = 91 then
some (1, h)
else
k2 h a0 (x1 + 1))
else none)
else none)))
else none)
set_option maxHeartbeats 2000000 in
theorem t_X12_isInside_2 {k2 : aH → Nat → Int32 → Option (Int32 × aH)} (hk2 : ∀ (h : aH) (a0 : Nat) (x1 : Int32), AO eI 2 kX12_isInside 2 [some (.ref a0), some (.int x1)] [] h (k2 h a0 x1)) (h : aH) (a0 : Nat) (x1 : Int32) : AO eI 2 kX12_isInside 2 [some (.ref a0), some (.int x1)] [] h (b_X12_isInside_2 k2 h a0 x1) := by
  unfold b_X12_isInside_2
  refine ao_s (st_iload_n dX12_isInside_2 rfl rfl) ?_
  refine ao_s (st_aload_n dX12_isInside_3 rfl rfl) ?_
  refine ao_chk (fun e21 => ?_)
  refine ao_getI dX12_isInside_4 fl_X12_162 rfl e21 ?_
  refine ao_br (br_icmp_ge (tgt := 29) dX12_isInside_7 (by decide)) (fun c25 => ?_) (fun c25 => ?_)
  · refine ao_s (st_iconst dX12_isInside_29 ic_0) ?_
    exact ao_ir dX12_isInside_30 rfl (by decide)
  · refine ao_s (st_aload_n dX12_isInside_10 rfl rfl) ?_
    refine ao_getR dX12_isInside_11 fl_X12_29 rfl e21 (fun b22 => ?_)
    refine ao_s (st_iload_n dX12_isInside_14 rfl rfl) ?_
    refine ao_chk (fun e23 => ?_)
    refine ao_iald dX12_isInside_15 e23 ?_
    refine ao_s (st_bipush dX12_isInside_16 bp_91) ?_
    refine ao_br (br_icmp_ne (tgt := 23) dX12_isInside_18 (by decide)) (fun c24 => ?_) (fun c24 => ?_)
    · refine ao_s (st_iconst dX12_isInside_21 ic_1) ?_
      exact ao_ir dX12_isInside_22 rfl (by decide)
    · refine ao_s (st_iinc (lv' := [some (.ref a0), some (.int (x1 + 1))]) dX12_isInside_23 rfl nc_1 (by decide) rfl) ?_
      refine ao_s (st_goto 2 dX12_isInside_26 (by decide)) ?_
      exact ao_w (sb_s (sb_s sb_0)) (hk2 h a0 (x1 + 1))
def f_X12_isInside_2 (n : Nat) : aH → Nat → Int32 → Option (Int32 × aH) := aIt (fun _ _ _ => none) (fun k => b_X12_isInside_2 k) n
theorem l_X12_isInside_2 (n : Nat) : ∀ (h : aH) (a0 : Nat) (x1 : Int32), AO eI 2 kX12_isInside 2 [some (.ref a0), some (.int x1)] [] h (f_X12_isInside_2 n h a0 x1) := by
  induction n with
  | zero => intros; exact ao_none
  | succ n ih =>
    intro h a0 x1
    exact t_X12_isInside_2 ih h a0 x1
def f_X12_isInside (h : aH) (a0 : Nat) : Option (Int32 × aH) :=
f_X12_isInside_2 2000 h a0 0
set_option maxHeartbeats 2000000 in
theorem s_X12_isInside (h : aH) (a0 : Nat) : SO eI 2 kX12_isInside [.ref a0] h (f_X12_isInside h a0) := by
  refine so_of (lv0 := [some (.ref a0), none]) pn_X12 (Nat.le_of_ble_eq_true rfl) rfl ?_
  unfold f_X12_isInside
  refine ao_s (st_iconst dX12_isInside_0 ic_0) ?_
  refine ao_s (st_istore_n (lv' := [some (.ref a0), some (.int 0)]) dX12_isInside_1 rfl (by decide) rfl) ?_
  exact ao_w (sb_s (sb_s sb_0)) (l_X12_isInside_2 2000 h a0 0)
def b_X12_closes_5 (k5 : aH → Nat → Option (Unit × aH)) (h : aH) (a0 : Nat) : Option (Unit × aH) :=
(if (sh a0).1 = 19 then
(aBind (f_X12_see h a0) fun r22 h23 =>
(if r22 = 93 then
(aBind (f_X12_isInside h23 a0) fun r24 h25 =>
(if r24 = 0 then
some ((), h25)
else
(aBind (f_X12_settles h25 a0 1) fun r26 h27 =>
(aLet (pI h27 a0 16 ((hI h27 a0 16) - 1)) fun h28 =>
(aLet (pI h28 a0 13 ((hI h28 a0 13) - 1)) fun h29 =>
(aLet (pI h29 a0 8 ((hI h29 a0 8) + 1)) fun h30 =>
(aBind (f_X12_settles h30 a0 3) fun r31 h32 =>
k5 h32 a0)))))))
else
some ((), h23)))
else none)
set_option maxHeartbeats 2000000 in
theorem t_X12_closes_5 {k5 : aH → Nat → Option (Unit × aH)} (hk5 : ∀ (h : aH) (a0 : Nat), AO eV 4 kX12_closes 5 [some (.ref a0)] [] h (k5 h a0)) (h : aH) (a0 : Nat) : AO eV 4 kX12_closes 5 [some (.ref a0)] [] h (b_X12_closes_5 k5 h a0) := by
  unfold b_X12_closes_5
  refine ao_s (st_aload_n dX12_closes_5 rfl rfl) ?_
  refine ao_chk (fun e21 => ?_)
  refine ao_cVi (Kc := kX12_see) (As := []) (st := []) dX12_closes_6 ml_X12_102 mv_X12_see rfl e21 (by decide) rfl rfl (Nat.le_of_ble_eq_true rfl) (by decide) (s_X12_see h a0) (fun r22 h23 => ?_)
  refine ao_s (st_bipush dX12_closes_9 bp_93) ?_
  refine ao_br (br_icmp_ne (tgt := 64) dX12_closes_11 (by decide)) (fun c34 => ?_) (fun c34 => ?_)
  · refine ao_s (st_aload_n dX12_closes_14 rfl rfl) ?_
    refine ao_cVi (Kc := kX12_isInside) (As := []) (st := []) dX12_closes_15 ml_X12_204 mv_X12_isInside rfl e21 (by decide) rfl rfl (Nat.le_of_ble_eq_true rfl) (by decide) (s_X12_isInside h23 a0) (fun r24 h25 => ?_)
    refine ao_br (br_if_eq (tgt := 64) dX12_closes_18 (by decide)) (fun c33 => ?_) (fun c33 => ?_)
    · exact ao_vr dX12_closes_64 rfl
    · refine ao_s (st_aload_n dX12_closes_21 rfl rfl) ?_
      refine ao_s (st_iconst dX12_closes_22 ic_1) ?_
      refine ao_cVv (Kc := kX12_settles) (As := [.int 1]) (st := []) dX12_closes_23 ml_X12_201 mv_X12_settles rfl e21 (by decide) rfl rfl (Nat.le_of_ble_eq_true rfl) (by decide) (s_X12_settles h25 a0 1) (fun r26 h27 => ?_)
      refine ao_s (st_aload_n dX12_closes_26 rfl rfl) ?_
      refine ao_s (st_dup dX12_closes_27 rfl) ?_
      refine ao_getI dX12_closes_28 fl_X12_162 rfl e21 ?_
      refine ao_s (st_iconst dX12_closes_31 ic_1) ?_
      refine ao_s (st_isub dX12_closes_32) ?_
      refine ao_putI dX12_closes_33 fl_X12_162 rfl rfl rfl rfl e21 ?_
      refine ao_letH (fun h28 => ?_)
      refine ao_s (st_aload_n dX12_closes_36 rfl rfl) ?_
      refine ao_s (st_dup dX12_closes_37 rfl) ?_
      refine ao_getI dX12_closes_38 fl_X12_159 rfl e21 ?_
      refine ao_s (st_iconst dX12_closes_41 ic_1) ?_
      refine ao_s (st_isub dX12_closes_42) ?_
      refine ao_putI dX12_closes_43 fl_X12_159 rfl rfl rfl rfl e21 ?_
      refine ao_letH (fun h29 => ?_)
      refine ao_s (st_aload_n dX12_closes_46 rfl rfl) ?_
      refine ao_s (st_dup dX12_closes_47 rfl) ?_
      refine ao_getI dX12_closes_48 fl_X12_99 rfl e21 ?_
      refine ao_s (st_iconst dX12_closes_51 ic_1) ?_
      refine ao_s (st_iadd dX12_closes_52) ?_
      refine ao_putI dX12_closes_53 fl_X12_99 rfl rfl rfl rfl e21 ?_
      refine ao_letH (fun h30 => ?_)
      refine ao_s (st_aload_n dX12_closes_56 rfl rfl) ?_
      refine ao_s (st_iconst dX12_closes_57 ic_3) ?_
      refine ao_cVv (Kc := kX12_settles) (As := [.int 3]) (st := []) dX12_closes_58 ml_X12_201 mv_X12_settles rfl e21 (by decide) rfl rfl (Nat.le_of_ble_eq_true rfl) (by decide) (s_X12_settles h30 a0 3) (fun r31 h32 => ?_)
      refine ao_s (st_goto 5 dX12_closes_61 (by decide)) ?_
      exact ao_w (sb_s sb_0) (hk5 h32 a0)
  · exact ao_vr dX12_closes_64 rfl
def f_X12_closes_5 (n : Nat) : aH → Nat → Option (Unit × aH) := aIt (fun _ _ => none) (fun k => b_X12_closes_5 k) n
theorem l_X12_closes_5 (n : Nat) : ∀ (h : aH) (a0 : Nat), AO eV 4 kX12_closes 5 [some (.ref a0)] [] h (f_X12_closes_5 n h a0) := by
  induction n with
  | zero => intros; exact ao_none
  | succ n ih =>
    intro h a0
    exact t_X12_closes_5 ih h a0
def f_X12_closes (h : aH) (a0 : Nat) : Option (Unit × aH) :=
(if (sh a0).1 = 19 then
(aBind (f_X12_settles h a0 3) fun r22 h23 =>
f_X12_closes_5 2000 h23 a0)
else none)
set_option maxHeartbeats 2000000 in
theorem s_X12_closes (h : aH) (a0 : Nat) : SO eV 4 kX12_closes [.ref a0] h (f_X12_closes h a0) := by
  refine so_of (lv0 := [some (.ref a0)]) pn_X12 (Nat.le_of_ble_eq_true rfl) rfl ?_
  unfold f_X12_closes
  refine ao_s (st_aload_n dX12_closes_0 rfl rfl) ?_
  refine ao_s (st_iconst dX12_closes_1 ic_3) ?_
  refine ao_chk (fun e21 => ?_)
  refine ao_cVv (Kc := kX12_settles) (As := [.int 3]) (st := []) dX12_closes_2 ml_X12_201 mv_X12_settles rfl e21 (by decide) rfl rfl (Nat.le_of_ble_eq_true rfl) (by decide) (s_X12_settles h a0 3) (fun r22 h23 => ?_)
  exact ao_w (sb_s sb_0) (l_X12_closes_5 2000 h23 a0)
def b_X12_tested_76 (k12 : aH → Nat → Int32 → Option (Int32 × aH)) (h : aH) (a0 : Nat) (x1 : Int32) (s0 : Int32) : Option (Int32 × aH) :=
(if (sh a0).1 = 19 then
(aBind (f_X12_passWord h a0) fun r22 h23 =>
(aBind (f_X12_strength h23 s0) fun r24 h25 =>
(aBind (f_X12_settles h25 a0 r24) fun r26 h27 =>
((hR h27 a0 15).bind fun b28 =>
(aLet (hI h27 a0 16) fun x29 =>
(if (sh b28).1 = 0 then
(if aIn x29 (sh b28).2 then
(aLet (pI h27 b28 x29.toNatClampNeg s0) fun h31 =>
(aLet (pI h31 a0 16 ((hI h31 a0 16) + 1)) fun h32 =>
k12 h32 a0 x1))
else none)
else none))))))
else none)
set_option maxHeartbeats 2000000 in
theorem t_X12_tested_76 {k12 : aH → Nat → Int32 → Option (Int32 × aH)} (hk12 : ∀ (h : aH) (a0 : Nat) (x1 : Int32), AO eI 10 kX12_tested 12 [some (.ref a0), some (.int x1), none] [] h (k12 h a0 x1)) (h : aH) (a0 : Nat) (x1 : Int32) (s0 : Int32) : AO eI 10 kX12_tested 76 [some (.ref a0), some (.int x1), none] [.int s0] h (b_X12_tested_76 k12 h a0 x1 s0) := by
  unfold b_X12_tested_76
  refine ao_s (st_istore_n (lv' := [some (.ref a0), some (.int x1), some (.int s0)]) dX12_tested_76 rfl (by decide) rfl) ?_
  refine ao_s (st_aload_n dX12_tested_77 rfl rfl) ?_
  refine ao_chk (fun e21 => ?_)
  refine ao_cVv (Kc := kX12_passWord) (As := []) (st := []) dX12_tested_78 ml_X12_114 mv_X12_passWord rfl e21 (by decide) rfl rfl (Nat.le_of_ble_eq_true rfl) (by decide) (s_X12_passWord h a0) (fun r22 h23 => ?_)
  refine ao_s (st_aload_n dX12_tested_81 rfl rfl) ?_
  refine ao_s (st_iload_n dX12_tested_82 rfl rfl) ?_
  refine ao_cSi (Kc := kX12_strength) (As := [.int s0]) (st := [.ref a0]) dX12_tested_83 ml_X12_165 ms_X12_strength rfl rfl (Nat.le_of_ble_eq_true rfl) (by decide) (s_X12_strength h23 s0) (fun r24 h25 => ?_)
  refine ao_cVv (Kc := kX12_settles) (As := [.int r24]) (st := []) dX12_tested_86 ml_X12_201 mv_X12_settles rfl e21 (by decide) rfl rfl (Nat.le_of_ble_eq_true rfl) (by decide) (s_X12_settles h25 a0 r24) (fun r26 h27 => ?_)
  refine ao_s (st_aload_n dX12_tested_89 rfl rfl) ?_
  refine ao_getR dX12_tested_90 fl_X12_29 rfl e21 (fun b28 => ?_)
  refine ao_s (st_aload_n dX12_tested_93 rfl rfl) ?_
  refine ao_getI dX12_tested_94 fl_X12_162 rfl e21 ?_
  refine ao_s (st_iload_n dX12_tested_97 rfl rfl) ?_
  refine ao_let2 (fun x29 => ?_)
  refine ao_chk (fun e30 => ?_)
  refine ao_iast dX12_tested_98 e30 ?_
  refine ao_letH (fun h31 => ?_)
  refine ao_s (st_aload_n dX12_tested_99 rfl rfl) ?_
  refine ao_s (st_dup dX12_tested_100 rfl) ?_
  refine ao_getI dX12_tested_101 fl_X12_162 rfl e21 ?_
  refine ao_s (st_iconst dX12_tested_104 ic_1) ?_
  refine ao_s (st_iadd dX12_tested_105) ?_
  refine ao_putI dX12_tested_106 fl_X12_162 rfl rfl rfl rfl e21 ?_
  refine ao_letH (fun h32 => ?_)
  refine ao_s (st_goto 12 dX12_tested_109 (by decide)) ?_
  exact ao_w (sb_s (sb_s (sb_n sb_0))) (hk12 h32 a0 x1)
def b_X12_tested_54 (k12 : aH → Nat → Int32 → Option (Int32 × aH)) (h : aH) (a0 : Nat) (s0 : Int32) : Option (Int32 × aH) :=
(if s0 = 0 then
k12 h a0 s0
else
(if (sh a0).1 = 19 then
(aBind (f_X12_isWord h a0 6385252) fun r22 h23 =>
(if r22 = 0 then
b_X12_tested_76 k12 h23 a0 s0 13
else
b_X12_tested_76 k12 h23 a0 s0 12))
else none))
set_option maxHeartbeats 2000000 in
theorem t_X12_tested_54 {k12 : aH → Nat → Int32 → Option (Int32 × aH)} (hk12 : ∀ (h : aH) (a0 : Nat) (x1 : Int32), AO eI 10 kX12_tested 12 [some (.ref a0), some (.int x1), none] [] h (k12 h a0 x1)) (h : aH) (a0 : Nat) (s0 : Int32) : AO eI 10 kX12_tested 54 [some (.ref a0), none, none] [.int s0] h (b_X12_tested_54 k12 h a0 s0) := by
  unfold b_X12_tested_54
  refine ao_s (st_istore_n (lv' := [some (.ref a0), some (.int s0), none]) dX12_tested_54 rfl (by decide) rfl) ?_
  refine ao_s (st_iload_n dX12_tested_55 rfl rfl) ?_
  refine ao_br (br_if_eq (tgt := 12) dX12_tested_56 (by decide)) (fun c25 => ?_) (fun c25 => ?_)
  · exact ao_w (sb_s (sb_s (sb_n sb_0))) (hk12 h a0 s0)
  · refine ao_s (st_aload_n dX12_tested_59 rfl rfl) ?_
    refine ao_s (st_ldc2 dX12_tested_60 cl_X12_213) ?_
    refine ao_chk (fun e21 => ?_)
    refine ao_cVi (Kc := kX12_isWord) (As := [.long 6385252]) (st := []) dX12_tested_63 ml_X12_110 mv_X12_isWord rfl e21 (by decide) rfl rfl (Nat.le_of_ble_eq_true rfl) (by decide) (s_X12_isWord h a0 6385252) (fun r22 h23 => ?_)
    refine ao_br (br_if_eq (tgt := 74) dX12_tested_66 (by decide)) (fun c24 => ?_) (fun c24 => ?_)
    · refine ao_s (st_bipush dX12_tested_74 bp_13) ?_
      exact ao_w (sb_s (sb_s (sb_n sb_0))) (t_X12_tested_76 hk12 h23 a0 s0 13)
    · refine ao_s (st_bipush dX12_tested_69 bp_12) ?_
      refine ao_s (st_goto 76 dX12_tested_71 (by decide)) ?_
      exact ao_w (sb_s (sb_s (sb_n sb_0))) (t_X12_tested_76 hk12 h23 a0 s0 12)
def b_X12_tested_49 (k12 : aH → Nat → Int32 → Option (Int32 × aH)) (h : aH) (a0 : Nat) : Option (Int32 × aH) :=
b_X12_tested_54 k12 h a0 1
set_option maxHeartbeats 2000000 in
theorem t_X12_tested_49 {k12 : aH → Nat → Int32 → Option (Int32 × aH)} (hk12 : ∀ (h : aH) (a0 : Nat) (x1 : Int32), AO eI 10 kX12_tested 12 [some (.ref a0), some (.int x1), none] [] h (k12 h a0 x1)) (h : aH) (a0 : Nat) : AO eI 10 kX12_tested 49 [some (.ref a0), none, none] [] h (b_X12_tested_49 k12 h a0) := by
  unfold b_X12_tested_49
  refine ao_s (st_iconst dX12_tested_49 ic_1) ?_
  refine ao_s (st_goto 54 dX12_tested_50 (by decide)) ?_
  exact ao_w (sb_s (sb_n (sb_n sb_0))) (t_X12_tested_54 hk12 h a0 1)
def b_X12_tested_12 (k12 : aH → Nat → Int32 → Option (Int32 × aH)) (h : aH) (a0 : Nat) (x1 : Int32) : Option (Int32 × aH) :=
(if x1 = 0 then
(if (sh a0).1 = 19 then
(aBind (f_X12_isInside h a0) fun r22 h23 =>
(if r22 = 0 then
(aBind (f_X12_settles h23 a0 1) fun r24 h25 =>
some (1, h25))
else
(aBind (f_X12_see h23 a0) fun r26 h27 =>
(aBind (f_X12_fails h27 a0 0 (hI h27 a0 8)) fun r28 h29 =>
(if r28 = 0 ∨ r28 = 1 then some (r28, h29) else none)))))
else none)
else
(if (sh a0).1 = 19 then
(aBind (f_X12_fact h a0) fun r33 h34 =>
(if r33 = 0 then
some (0, h34)
else
(aBind (f_X12_closes h34 a0) fun r35 h36 =>
(aBind (f_X12_isWord h36 a0 6385252) fun r37 h38 =>
(if r37 = 0 then
(aBind (f_X12_isWord h38 a0 28530) fun r39 h40 =>
(if r39 = 0 then
b_X12_tested_54 k12 h40 a0 0
else
b_X12_tested_49 k12 h40 a0))
else
b_X12_tested_49 k12 h38 a0)))))
else none))
set_option maxHeartbeats 2000000 in
theorem t_X12_tested_12 {k12 : aH → Nat → Int32 → Option (Int32 × aH)} (hk12 : ∀ (h : aH) (a0 : Nat) (x1 : Int32), AO eI 10 kX12_tested 12 [some (.ref a0), some (.int x1), none] [] h (k12 h a0 x1)) (h : aH) (a0 : Nat) (x1 : Int32) : AO eI 10 kX12_tested 12 [some (.ref a0), some (.int x1), none] [] h (b_X12_tested_12 k12 h a0 x1) := by
  unfold b_X12_tested_12
  refine ao_s (st_iload_n dX12_tested_12 rfl rfl) ?_
  refine ao_br (br_if_eq (tgt := 112) dX12_tested_13 (by decide)) (fun c44 => ?_) (fun c44 => ?_)
  · refine ao_s (st_aload_n dX12_tested_112 rfl rfl) ?_
    refine ao_chk (fun e21 => ?_)
    refine ao_cVi (Kc := kX12_isInside) (As := []) (st := []) dX12_tested_113 ml_X12_204 mv_X12_isInside rfl e21 (by decide) rfl rfl (Nat.le_of_ble_eq_true rfl) (by decide) (s_X12_isInside h a0) (fun r22 h23 => ?_)
    refine ao_br (br_if_eq (tgt := 134) dX12_tested_116 (by decide)) (fun c31 => ?_) (fun c31 => ?_)
    · refine ao_s (st_aload_n dX12_tested_134 rfl rfl) ?_
      refine ao_s (st_iconst dX12_tested_135 ic_1) ?_
      refine ao_cVv (Kc := kX12_settles) (As := [.int 1]) (st := []) dX12_tested_136 ml_X12_201 mv_X12_settles rfl e21 (by decide) rfl rfl (Nat.le_of_ble_eq_true rfl) (by decide) (s_X12_settles h23 a0 1) (fun r24 h25 => ?_)
      refine ao_s (st_iconst dX12_tested_139 ic_1) ?_
      exact ao_ir dX12_tested_140 rfl (by decide)
    · refine ao_s (st_aload_n dX12_tested_119 rfl rfl) ?_
      refine ao_cVi (Kc := kX12_see) (As := []) (st := []) dX12_tested_120 ml_X12_102 mv_X12_see rfl e21 (by decide) rfl rfl (Nat.le_of_ble_eq_true rfl) (by decide) (s_X12_see h23 a0) (fun r26 h27 => ?_)
      refine ao_s (st_pop dX12_tested_123 rfl) ?_
      refine ao_s (st_aload_n dX12_tested_124 rfl rfl) ?_
      refine ao_s (st_iconst dX12_tested_125 ic_0) ?_
      refine ao_s (st_aload_n dX12_tested_126 rfl rfl) ?_
      refine ao_getI dX12_tested_127 fl_X12_99 rfl e21 ?_
      refine ao_cVi (Kc := kX12_fails) (As := [.int 0, .int (hI h27 a0 8)]) (st := []) dX12_tested_130 ml_X12_120 mv_X12_fails rfl e21 (by decide) rfl rfl (Nat.le_of_ble_eq_true rfl) (by decide) (s_X12_fails h27 a0 0 (hI h27 a0 8)) (fun r28 h29 => ?_)
      refine ao_chk (fun c30 => ?_)
      exact ao_ir dX12_tested_133 rfl (nz c30).1
  · refine ao_s (st_aload_n dX12_tested_16 rfl rfl) ?_
    refine ao_chk (fun e32 => ?_)
    refine ao_cVi (Kc := kX12_fact) (As := []) (st := []) dX12_tested_17 ml_X12_207 mv_X12_fact rfl e32 (by decide) rfl rfl (Nat.le_of_ble_eq_true rfl) (by decide) (s_X12_fact h a0) (fun r33 h34 => ?_)
    refine ao_br (br_if_ne (tgt := 25) dX12_tested_20 (by decide)) (fun c43 => ?_) (fun c43 => ?_)
    · refine ao_s (st_iconst dX12_tested_23 ic_0) ?_
      exact ao_ir dX12_tested_24 rfl (by decide)
    · refine ao_s (st_aload_n dX12_tested_25 rfl rfl) ?_
      refine ao_cVv (Kc := kX12_closes) (As := []) (st := []) dX12_tested_26 ml_X12_210 mv_X12_closes rfl e32 (by decide) rfl rfl (Nat.le_of_ble_eq_true rfl) (by decide) (s_X12_closes h34 a0) (fun r35 h36 => ?_)
      refine ao_s (st_aload_n dX12_tested_29 rfl rfl) ?_
      refine ao_s (st_ldc2 dX12_tested_30 cl_X12_213) ?_
      refine ao_cVi (Kc := kX12_isWord) (As := [.long 6385252]) (st := []) dX12_tested_33 ml_X12_110 mv_X12_isWord rfl e32 (by decide) rfl rfl (Nat.le_of_ble_eq_true rfl) (by decide) (s_X12_isWord h36 a0 6385252) (fun r37 h38 => ?_)
      refine ao_br (br_if_ne (tgt := 49) dX12_tested_36 (by decide)) (fun c42 => ?_) (fun c42 => ?_)
      · refine ao_s (st_aload_n dX12_tested_39 rfl rfl) ?_
        refine ao_s (st_ldc2 dX12_tested_40 cl_X12_215) ?_
        refine ao_cVi (Kc := kX12_isWord) (As := [.long 28530]) (st := []) dX12_tested_43 ml_X12_110 mv_X12_isWord rfl e32 (by decide) rfl rfl (Nat.le_of_ble_eq_true rfl) (by decide) (s_X12_isWord h38 a0 28530) (fun r39 h40 => ?_)
        refine ao_br (br_if_eq (tgt := 53) dX12_tested_46 (by decide)) (fun c41 => ?_) (fun c41 => ?_)
        · refine ao_s (st_iconst dX12_tested_53 ic_0) ?_
          exact ao_w (sb_s (sb_n (sb_n sb_0))) (t_X12_tested_54 hk12 h40 a0 0)
        · exact ao_w (sb_s (sb_n (sb_n sb_0))) (t_X12_tested_49 hk12 h40 a0)
      · exact ao_w (sb_s (sb_n (sb_n sb_0))) (t_X12_tested_49 hk12 h38 a0)
def f_X12_tested_12 (n : Nat) : aH → Nat → Int32 → Option (Int32 × aH) := aIt (fun _ _ _ => none) (fun k => b_X12_tested_12 k) n
theorem l_X12_tested_12 (n : Nat) : ∀ (h : aH) (a0 : Nat) (x1 : Int32), AO eI 10 kX12_tested 12 [some (.ref a0), some (.int x1), none] [] h (f_X12_tested_12 n h a0 x1) := by
  induction n with
  | zero => intros; exact ao_none
  | succ n ih =>
    intro h a0 x1
    exact t_X12_tested_12 ih h a0 x1
def f_X12_tested (h : aH) (a0 : Nat) : Option (Int32 × aH) :=
(if (sh a0).1 = 19 then
(aLet (pI h a0 16 0) fun h22 =>
(aLet (pI h22 a0 13 0) fun h23 =>
f_X12_tested_12 2000 h23 a0 1))
else none)
set_option maxHeartbeats 2000000 in
theorem s_X12_tested (h : aH) (a0 : Nat) : SO eI 10 kX12_tested [.ref a0] h (f_X12_tested h a0) := by
  refine so_of (lv0 := [some (.ref a0), none, none]) pn_X12 (Nat.le_of_ble_eq_true rfl) rfl ?_
  unfold f_X12_tested
  refine ao_s (st_aload_n dX12_tested_0 rfl rfl) ?_
  refine ao_s (st_iconst dX12_tested_1 ic_0) ?_
  refine ao_chk (fun e21 => ?_)
  refine ao_putI dX12_tested_2 fl_X12_162 rfl rfl rfl rfl e21 ?_
  refine ao_letH (fun h22 => ?_)
  refine ao_s (st_aload_n dX12_tested_5 rfl rfl) ?_
  refine ao_s (st_iconst dX12_tested_6 ic_0) ?_
  refine ao_putI dX12_tested_7 fl_X12_159 rfl rfl rfl rfl e21 ?_
  refine ao_letH (fun h23 => ?_)
  refine ao_s (st_iconst dX12_tested_10 ic_1) ?_
  refine ao_s (st_istore_n (lv' := [some (.ref a0), some (.int 1), none]) dX12_tested_11 rfl (by decide) rfl) ?_
  exact ao_w (sb_s (sb_s (sb_n sb_0))) (l_X12_tested_12 2000 h23 a0 1)
def b_X12_isStayHere_110 (h : aH) (a0 : Nat) (x1 : Int32) : Option (Int32 × aH) :=
(if (sh a0).1 = 19 then
((hR h a0 5).bind fun b22 =>
((hR h a0 4).bind fun b23 =>
(aLet (hI h a0 11) fun x24 =>
(if (sh b23).1 = 0 then
(if aIn x24 (sh b23).2 then
(aLet (x1 + 3) fun x26 =>
(if (sh b22).1 = 0 then
(if aIn x26 (sh b22).2 then
(aLet (pI h b22 x26.toNatClampNeg (hI h b23 x24.toNatClampNeg)) fun h28 =>
((hR h28 a0 6).bind fun b29 =>
(aLet (hI h28 a0 11) fun x30 =>
(if (sh b29).1 = 0 then
(if aIn x30 (sh b29).2 then
(if aIn x30 (sh b29).2 then
(aLet (pI h28 b29 x30.toNatClampNeg ((hI h28 b29 x30.toNatClampNeg) + 1)) fun h32 =>
some (1, h32))
else none)
else none)
else none))))
else none)
else none))
else none)
else none))))
else none)
set_option maxHeartbeats 2000000 in
theorem t_X12_isStayHere_110 (h : aH) (a0 : Nat) (x1 : Int32) : AO eI 11 kX12_isStayHere 110 [some (.ref a0), some (.int x1)] [] h (b_X12_isStayHere_110 h a0 x1) := by
  unfold b_X12_isStayHere_110
  refine ao_s (st_aload_n dX12_isStayHere_110 rfl rfl) ?_
  refine ao_chk (fun e21 => ?_)
  refine ao_getR dX12_isStayHere_111 fl_X12_20 rfl e21 (fun b22 => ?_)
  refine ao_s (st_iload_n dX12_isStayHere_114 rfl rfl) ?_
  refine ao_s (st_iconst dX12_isStayHere_115 ic_3) ?_
  refine ao_s (st_iadd dX12_isStayHere_116) ?_
  refine ao_s (st_aload_n dX12_isStayHere_117 rfl rfl) ?_
  refine ao_getR dX12_isStayHere_118 fl_X12_17 rfl e21 (fun b23 => ?_)
  refine ao_s (st_aload_n dX12_isStayHere_121 rfl rfl) ?_
  refine ao_getI dX12_isStayHere_122 fl_X12_153 rfl e21 ?_
  refine ao_letI (fun x24 => ?_)
  refine ao_chk (fun e25 => ?_)
  refine ao_iald dX12_isStayHere_125 e25 ?_
  refine ao_let2 (fun x26 => ?_)
  refine ao_chk (fun e27 => ?_)
  refine ao_iast dX12_isStayHere_126 e27 ?_
  refine ao_letH (fun h28 => ?_)
  refine ao_s (st_aload_n dX12_isStayHere_127 rfl rfl) ?_
  refine ao_getR dX12_isStayHere_128 fl_X12_23 rfl e21 (fun b29 => ?_)
  refine ao_s (st_aload_n dX12_isStayHere_131 rfl rfl) ?_
  refine ao_getI dX12_isStayHere_132 fl_X12_153 rfl e21 ?_
  refine ao_letI (fun x30 => ?_)
  refine ao_s (st_dup2 dX12_isStayHere_135 rfl rfl) ?_
  refine ao_chk (fun e31 => ?_)
  refine ao_iald dX12_isStayHere_136 e31 ?_
  refine ao_s (st_iconst dX12_isStayHere_137 ic_1) ?_
  refine ao_s (st_iadd dX12_isStayHere_138) ?_
  refine ao_iast dX12_isStayHere_139 e31 ?_
  refine ao_letH (fun h32 => ?_)
  refine ao_s (st_iconst dX12_isStayHere_140 ic_1) ?_
  exact ao_ir dX12_isStayHere_141 rfl (by decide)
def f_X12_isStayHere (h : aH) (a0 : Nat) : Option (Int32 × aH) :=
(if (sh a0).1 = 19 then
(aBind (f_X12_passWord h a0) fun r22 h23 =>
((hR h23 a0 6).bind fun b24 =>
(aLet (hI h23 a0 11) fun x25 =>
(if (sh b24).1 = 0 then
(if aIn x25 (sh b24).2 then
(aLet ((48 * (hI h23 a0 11)) + (4 * (hI h23 b24 x25.toNatClampNeg))) fun x27 =>
((hR h23 a0 5).bind fun b28 =>
((hR h23 a0 4).bind fun b29 =>
(aLet (hI h23 a0 11) fun x30 =>
(if (sh b29).1 = 0 then
(if aIn x30 (sh b29).2 then
(if (sh b28).1 = 0 then
(if aIn x27 (sh b28).2 then
(aLet (pI h23 b28 x27.toNatClampNeg (hI h23 b29 x30.toNatClampNeg)) fun h33 =>
(aBind (f_X12_sum h33 a0) fun r34 h35 =>
(if r34 = 0 then
some (0, h35)
else
((hR h35 a0 5).bind fun b36 =>
((hR h35 a0 4).bind fun b37 =>
(aLet (hI h35 a0 11) fun x38 =>
(if (sh b37).1 = 0 then
(if aIn x38 (sh b37).2 then
(aLet (x27 + 1) fun x40 =>
(if (sh b36).1 = 0 then
(if aIn x40 (sh b36).2 then
(aLet (pI h35 b36 x40.toNatClampNeg (hI h35 b37 x38.toNatClampNeg)) fun h42 =>
((hR h42 a0 5).bind fun b43 =>
(aLet (x27 + 2) fun x44 =>
(if (sh b43).1 = 0 then
(if aIn x44 (sh b43).2 then
(aLet (pI h42 b43 x44.toNatClampNeg (-1)) fun h46 =>
(aBind (f_X12_takesWord h46 a0 26982) fun r47 h48 =>
(if r47 = 0 then
b_X12_isStayHere_110 h48 a0 x27
else
((hR h48 a0 5).bind fun b49 =>
((hR h48 a0 4).bind fun b50 =>
(aLet (hI h48 a0 11) fun x51 =>
(if (sh b50).1 = 0 then
(if aIn x51 (sh b50).2 then
(aLet (x27 + 2) fun x53 =>
(if (sh b49).1 = 0 then
(if aIn x53 (sh b49).2 then
(aLet (pI h48 b49 x53.toNatClampNeg (hI h48 b50 x51.toNatClampNeg)) fun h55 =>
(aBind (f_X12_tested h55 a0) fun r56 h57 =>
(if r56 = 0 then
some (0, h57)
else
b_X12_isStayHere_110 h57 a0 x27)))
else none)
else none))
else none)
else none)))))))
else none)
else none))))
else none)
else none))
else none)
else none)))))))
else none)
else none)
else none)
else none)))))
else none)
else none))))
else none)
set_option maxHeartbeats 2000000 in
theorem s_X12_isStayHere (h : aH) (a0 : Nat) : SO eI 11 kX12_isStayHere [.ref a0] h (f_X12_isStayHere h a0) := by
  refine so_of (lv0 := [some (.ref a0), none]) pn_X12 (Nat.le_of_ble_eq_true rfl) rfl ?_
  unfold f_X12_isStayHere
  refine ao_s (st_aload_n dX12_isStayHere_0 rfl rfl) ?_
  refine ao_chk (fun e21 => ?_)
  refine ao_cVv (Kc := kX12_passWord) (As := []) (st := []) dX12_isStayHere_1 ml_X12_114 mv_X12_passWord rfl e21 (by decide) rfl rfl (Nat.le_of_ble_eq_true rfl) (by decide) (s_X12_passWord h a0) (fun r22 h23 => ?_)
  refine ao_s (st_bipush dX12_isStayHere_4 bp_48) ?_
  refine ao_s (st_aload_n dX12_isStayHere_6 rfl rfl) ?_
  refine ao_getI dX12_isStayHere_7 fl_X12_153 rfl e21 ?_
  refine ao_s (st_imul dX12_isStayHere_10) ?_
  refine ao_s (st_iconst dX12_isStayHere_11 ic_4) ?_
  refine ao_s (st_aload_n dX12_isStayHere_12 rfl rfl) ?_
  refine ao_getR dX12_isStayHere_13 fl_X12_23 rfl e21 (fun b24 => ?_)
  refine ao_s (st_aload_n dX12_isStayHere_16 rfl rfl) ?_
  refine ao_getI dX12_isStayHere_17 fl_X12_153 rfl e21 ?_
  refine ao_letI (fun x25 => ?_)
  refine ao_chk (fun e26 => ?_)
  refine ao_iald dX12_isStayHere_20 e26 ?_
  refine ao_s (st_imul dX12_isStayHere_21) ?_
  refine ao_s (st_iadd dX12_isStayHere_22) ?_
  refine ao_letI (fun x27 => ?_)
  refine ao_s (st_istore_n (lv' := [some (.ref a0), some (.int x27)]) dX12_isStayHere_23 rfl (by decide) rfl) ?_
  refine ao_s (st_aload_n dX12_isStayHere_24 rfl rfl) ?_
  refine ao_getR dX12_isStayHere_25 fl_X12_20 rfl e21 (fun b28 => ?_)
  refine ao_s (st_iload_n dX12_isStayHere_28 rfl rfl) ?_
  refine ao_s (st_aload_n dX12_isStayHere_29 rfl rfl) ?_
  refine ao_getR dX12_isStayHere_30 fl_X12_17 rfl e21 (fun b29 => ?_)
  refine ao_s (st_aload_n dX12_isStayHere_33 rfl rfl) ?_
  refine ao_getI dX12_isStayHere_34 fl_X12_153 rfl e21 ?_
  refine ao_letI (fun x30 => ?_)
  refine ao_chk (fun e31 => ?_)
  refine ao_iald dX12_isStayHere_37 e31 ?_
  refine ao_chk (fun e32 => ?_)
  refine ao_iast dX12_isStayHere_38 e32 ?_
  refine ao_letH (fun h33 => ?_)
  refine ao_s (st_aload_n dX12_isStayHere_39 rfl rfl) ?_
  refine ao_cVi (Kc := kX12_sum) (As := []) (st := []) dX12_isStayHere_40 ml_X12_190 mv_X12_sum rfl e21 (by decide) rfl rfl (Nat.le_of_ble_eq_true rfl) (by decide) (s_X12_sum h33 a0) (fun r34 h35 => ?_)
  refine ao_br (br_if_ne (tgt := 48) dX12_isStayHere_43 (by decide)) (fun c60 => ?_) (fun c60 => ?_)
  · refine ao_s (st_iconst dX12_isStayHere_46 ic_0) ?_
    exact ao_ir dX12_isStayHere_47 rfl (by decide)
  · refine ao_s (st_aload_n dX12_isStayHere_48 rfl rfl) ?_
    refine ao_getR dX12_isStayHere_49 fl_X12_20 rfl e21 (fun b36 => ?_)
    refine ao_s (st_iload_n dX12_isStayHere_52 rfl rfl) ?_
    refine ao_s (st_iconst dX12_isStayHere_53 ic_1) ?_
    refine ao_s (st_iadd dX12_isStayHere_54) ?_
    refine ao_s (st_aload_n dX12_isStayHere_55 rfl rfl) ?_
    refine ao_getR dX12_isStayHere_56 fl_X12_17 rfl e21 (fun b37 => ?_)
    refine ao_s (st_aload_n dX12_isStayHere_59 rfl rfl) ?_
    refine ao_getI dX12_isStayHere_60 fl_X12_153 rfl e21 ?_
    refine ao_letI (fun x38 => ?_)
    refine ao_chk (fun e39 => ?_)
    refine ao_iald dX12_isStayHere_63 e39 ?_
    refine ao_let2 (fun x40 => ?_)
    refine ao_chk (fun e41 => ?_)
    refine ao_iast dX12_isStayHere_64 e41 ?_
    refine ao_letH (fun h42 => ?_)
    refine ao_s (st_aload_n dX12_isStayHere_65 rfl rfl) ?_
    refine ao_getR dX12_isStayHere_66 fl_X12_20 rfl e21 (fun b43 => ?_)
    refine ao_s (st_iload_n dX12_isStayHere_69 rfl rfl) ?_
    refine ao_s (st_iconst dX12_isStayHere_70 ic_2) ?_
    refine ao_s (st_iadd dX12_isStayHere_71) ?_
    refine ao_s (st_iconst dX12_isStayHere_72 ic_m1) ?_
    refine ao_let2 (fun x44 => ?_)
    refine ao_chk (fun e45 => ?_)
    refine ao_iast dX12_isStayHere_73 e45 ?_
    refine ao_letH (fun h46 => ?_)
    refine ao_s (st_aload_n dX12_isStayHere_74 rfl rfl) ?_
    refine ao_s (st_ldc2 dX12_isStayHere_75 cl_X12_217) ?_
    refine ao_cVi (Kc := kX12_takesWord) (As := [.long 26982]) (st := []) dX12_isStayHere_78 ml_X12_219 mv_X12_takesWord rfl e21 (by decide) rfl rfl (Nat.le_of_ble_eq_true rfl) (by decide) (s_X12_takesWord h46 a0 26982) (fun r47 h48 => ?_)
    refine ao_br (br_if_eq (tgt := 110) dX12_isStayHere_81 (by decide)) (fun c59 => ?_) (fun c59 => ?_)
    · exact ao_w (sb_s (sb_s sb_0)) (t_X12_isStayHere_110 h48 a0 x27)
    · refine ao_s (st_aload_n dX12_isStayHere_84 rfl rfl) ?_
      refine ao_getR dX12_isStayHere_85 fl_X12_20 rfl e21 (fun b49 => ?_)
      refine ao_s (st_iload_n dX12_isStayHere_88 rfl rfl) ?_
      refine ao_s (st_iconst dX12_isStayHere_89 ic_2) ?_
      refine ao_s (st_iadd dX12_isStayHere_90) ?_
      refine ao_s (st_aload_n dX12_isStayHere_91 rfl rfl) ?_
      refine ao_getR dX12_isStayHere_92 fl_X12_17 rfl e21 (fun b50 => ?_)
      refine ao_s (st_aload_n dX12_isStayHere_95 rfl rfl) ?_
      refine ao_getI dX12_isStayHere_96 fl_X12_153 rfl e21 ?_
      refine ao_letI (fun x51 => ?_)
      refine ao_chk (fun e52 => ?_)
      refine ao_iald dX12_isStayHere_99 e52 ?_
      refine ao_let2 (fun x53 => ?_)
      refine ao_chk (fun e54 => ?_)
      refine ao_iast dX12_isStayHere_100 e54 ?_
      refine ao_letH (fun h55 => ?_)
      refine ao_s (st_aload_n dX12_isStayHere_101 rfl rfl) ?_
      refine ao_cVi (Kc := kX12_tested) (As := []) (st := []) dX12_isStayHere_102 ml_X12_222 mv_X12_tested rfl e21 (by decide) rfl rfl (Nat.le_of_ble_eq_true rfl) (by decide) (s_X12_tested h55 a0) (fun r56 h57 => ?_)
      refine ao_br (br_if_ne (tgt := 110) dX12_isStayHere_105 (by decide)) (fun c58 => ?_) (fun c58 => ?_)
      · refine ao_s (st_iconst dX12_isStayHere_108 ic_0) ?_
        exact ao_ir dX12_isStayHere_109 rfl (by decide)
      · exact ao_w (sb_s (sb_s sb_0)) (t_X12_isStayHere_110 h57 a0 x27)
def f_X12_cellHere (h : aH) (a0 : Nat) (x1 : Int32) (x2 : Int32) (x3 : Int32) : Option (Int32 × aH) :=
(if (sh a0).1 = 19 then
(aBind (f_X12_numberHere h a0 x2 x3) fun r22 h23 =>
(if r22 = 0 then
some (0, h23)
else
((hR h23 a0 7).bind fun b24 =>
(if (sh b24).1 = 0 then
(if aIn x1 (sh b24).2 then
(aLet (pI h23 b24 x1.toNatClampNeg (hI h23 a0 10)) fun h26 =>
some (1, h26))
else none)
else none))))
else none)
set_option maxHeartbeats 2000000 in
theorem s_X12_cellHere (h : aH) (a0 : Nat) (x1 : Int32) (x2 : Int32) (x3 : Int32) : SO eI 4 kX12_cellHere [.ref a0, .int x1, .int x2, .int x3] h (f_X12_cellHere h a0 x1 x2 x3) := by
  refine so_of (lv0 := [some (.ref a0), some (.int x1), some (.int x2), some (.int x3)]) pn_X12 (Nat.le_of_ble_eq_true rfl) rfl ?_
  unfold f_X12_cellHere
  refine ao_s (st_aload_n dX12_cellHere_0 rfl rfl) ?_
  refine ao_s (st_iload_n dX12_cellHere_1 rfl rfl) ?_
  refine ao_s (st_iload_n dX12_cellHere_2 rfl rfl) ?_
  refine ao_chk (fun e21 => ?_)
  refine ao_cVi (Kc := kX12_numberHere) (As := [.int x2, .int x3]) (st := []) dX12_cellHere_3 ml_X12_174 mv_X12_numberHere rfl e21 (by decide) rfl rfl (Nat.le_of_ble_eq_true rfl) (by decide) (s_X12_numberHere h a0 x2 x3) (fun r22 h23 => ?_)
  refine ao_br (br_if_ne (tgt := 11) dX12_cellHere_6 (by decide)) (fun c27 => ?_) (fun c27 => ?_)
  · refine ao_s (st_iconst dX12_cellHere_9 ic_0) ?_
    exact ao_ir dX12_cellHere_10 rfl (by decide)
  · refine ao_s (st_aload_n dX12_cellHere_11 rfl rfl) ?_
    refine ao_getR dX12_cellHere_12 fl_X12_26 rfl e21 (fun b24 => ?_)
    refine ao_s (st_iload_n dX12_cellHere_15 rfl rfl) ?_
    refine ao_s (st_aload_n dX12_cellHere_16 rfl rfl) ?_
    refine ao_getI dX12_cellHere_17 fl_X12_124 rfl e21 ?_
    refine ao_chk (fun e25 => ?_)
    refine ao_iast dX12_cellHere_20 e25 ?_
    refine ao_letH (fun h26 => ?_)
    refine ao_s (st_iconst dX12_cellHere_21 ic_1) ?_
    exact ao_ir dX12_cellHere_22 rfl (by decide)
