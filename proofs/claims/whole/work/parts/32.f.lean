def b_X12_tested_76 (k12 : aH → Nat → Int32 → Option (Int32 × aH)) (h : aH) (a0 : Nat) (x1 : Int32) (s0 : Int32) : Option (Int32 × aH) :=
(if (sh a0).1 = 19 then
(aBind (f_X12_passWord h a0) fun r22 h23 =>
(aBind (f_X12_strength h23 s0) fun r24 h25 =>
(aBind (f_X12_settles h25 a0 r24) fun r26 h27 =>
((hR h27 a0 15).bind fun b28 =>
(aLet (hI h27 a0 16) fun x29 =>
(if (sh b28).1 = 0 then
(if aIn x29 (sh b28).2 then
(aLet (pI h27 b28 x29.toNatClampNeg s0) fun h31 =>
(aLet (pI h31 a0 16 ((hI h31 a0 16) + 1)) fun h32 =>
k12 h32 a0 x1))
else none)
else none))))))
else none)
set_option maxHeartbeats 2000000 in
theorem t_X12_tested_76 {k12 : aH → Nat → Int32 → Option (Int32 × aH)} (hk12 : ∀ (h : aH) (a0 : Nat) (x1 : Int32) {z2 : Option Value}, AO eI 10 kX12_tested 12 [some (.ref a0), some (.int x1), z2] [] h (k12 h a0 x1)) (h : aH) (a0 : Nat) (x1 : Int32) (s0 : Int32) {z2 : Option Value} : AO eI 10 kX12_tested 76 [some (.ref a0), some (.int x1), z2] [.int s0] h (b_X12_tested_76 k12 h a0 x1 s0) := by
  unfold b_X12_tested_76
  refine ao_s (st_istore_n (lv' := [some (.ref a0), some (.int x1), some (.int s0)]) dX12_tested_76 rfl (by decide) rfl) ?_
  refine ao_s (st_aload_n dX12_tested_77 rfl rfl) ?_
  refine ao_chk (fun e21 => ?_)
  refine ao_cVv (As := []) (st := []) dX12_tested_78 ml_X12_114 mv_X12_passWord rfl e21 (by decide) rfl rfl (Nat.le_of_ble_eq_true rfl) (by decide) (s_X12_passWord h a0) (fun r22 h23 => ?_)
  refine ao_s (st_aload_n dX12_tested_81 rfl rfl) ?_
  refine ao_s (st_iload_n dX12_tested_82 rfl rfl) ?_
  refine ao_cSi (As := [.int s0]) (st := [.ref a0]) dX12_tested_83 ml_X12_165 ms_X12_strength rfl rfl (Nat.le_of_ble_eq_true rfl) (by decide) (s_X12_strength h23 s0) (fun r24 h25 => ?_)
  refine ao_cVv (As := [.int r24]) (st := []) dX12_tested_86 ml_X12_201 mv_X12_settles rfl e21 (by decide) rfl rfl (Nat.le_of_ble_eq_true rfl) (by decide) (s_X12_settles h25 a0 r24) (fun r26 h27 => ?_)
  refine ao_s (st_aload_n dX12_tested_89 rfl rfl) ?_
  refine ao_getR dX12_tested_90 fl_X12_29 rfl e21 (fun b28 => ?_)
  refine ao_s (st_aload_n dX12_tested_93 rfl rfl) ?_
  refine ao_getI dX12_tested_94 fl_X12_162 rfl e21 ?_
  refine ao_s (st_iload_n dX12_tested_97 rfl rfl) ?_
  refine ao_let2 (fun x29 => ?_)
  refine ao_chk (fun e30 => ?_)
  refine ao_iast dX12_tested_98 e30 ?_
  refine ao_letH (fun h31 => ?_)
  refine ao_s (st_aload_n dX12_tested_99 rfl rfl) ?_
  refine ao_s (st_dup dX12_tested_100 rfl) ?_
  refine ao_getI dX12_tested_101 fl_X12_162 rfl e21 ?_
  refine ao_s (st_iconst dX12_tested_104 ic_1) ?_
  refine ao_s (st_iadd dX12_tested_105) ?_
  refine ao_putI dX12_tested_106 fl_X12_162 rfl rfl rfl rfl e21 ?_
  refine ao_letH (fun h32 => ?_)
  refine ao_s (st_goto 12 dX12_tested_109 (by decide)) ?_
  exact hk12 h32 a0 x1
def b_X12_tested_54 (k12 : aH → Nat → Int32 → Option (Int32 × aH)) (h : aH) (a0 : Nat) (s0 : Int32) : Option (Int32 × aH) :=
(if s0 = 0 then
k12 h a0 s0
else
(if (sh a0).1 = 19 then
(aBind (f_X12_isWord h a0 6385252) fun r22 h23 =>
(if r22 = 0 then
b_X12_tested_76 k12 h23 a0 s0 13
else
b_X12_tested_76 k12 h23 a0 s0 12))
else none))
set_option maxHeartbeats 2000000 in
theorem t_X12_tested_54 {k12 : aH → Nat → Int32 → Option (Int32 × aH)} (hk12 : ∀ (h : aH) (a0 : Nat) (x1 : Int32) {z2 : Option Value}, AO eI 10 kX12_tested 12 [some (.ref a0), some (.int x1), z2] [] h (k12 h a0 x1)) (h : aH) (a0 : Nat) (s0 : Int32) {z1 : Option Value} {z2 : Option Value} : AO eI 10 kX12_tested 54 [some (.ref a0), z1, z2] [.int s0] h (b_X12_tested_54 k12 h a0 s0) := by
  unfold b_X12_tested_54
  refine ao_s (st_istore_n (lv' := [some (.ref a0), some (.int s0), z2]) dX12_tested_54 rfl (by decide) rfl) ?_
  refine ao_s (st_iload_n dX12_tested_55 rfl rfl) ?_
  refine ao_br (br_if_eq (tgt := 12) dX12_tested_56 (by decide)) (fun c25 => ?_) (fun c25 => ?_)
  · exact hk12 h a0 s0
  · refine ao_s (st_aload_n dX12_tested_59 rfl rfl) ?_
    refine ao_s (st_ldc2 dX12_tested_60 cl_X12_213) ?_
    refine ao_chk (fun e21 => ?_)
    refine ao_cVi (As := [.long 6385252]) (st := []) dX12_tested_63 ml_X12_110 mv_X12_isWord rfl e21 (by decide) rfl rfl (Nat.le_of_ble_eq_true rfl) (by decide) (s_X12_isWord h a0 6385252) (fun r22 h23 => ?_)
    refine ao_br (br_if_eq (tgt := 74) dX12_tested_66 (by decide)) (fun c24 => ?_) (fun c24 => ?_)
    · refine ao_s (st_bipush dX12_tested_74 bp_13) ?_
      exact t_X12_tested_76 hk12 h23 a0 s0 13
    · refine ao_s (st_bipush dX12_tested_69 bp_12) ?_
      refine ao_s (st_goto 76 dX12_tested_71 (by decide)) ?_
      exact t_X12_tested_76 hk12 h23 a0 s0 12
def b_X12_tested_49 (k12 : aH → Nat → Int32 → Option (Int32 × aH)) (h : aH) (a0 : Nat) : Option (Int32 × aH) :=
b_X12_tested_54 k12 h a0 1
set_option maxHeartbeats 2000000 in
theorem t_X12_tested_49 {k12 : aH → Nat → Int32 → Option (Int32 × aH)} (hk12 : ∀ (h : aH) (a0 : Nat) (x1 : Int32) {z2 : Option Value}, AO eI 10 kX12_tested 12 [some (.ref a0), some (.int x1), z2] [] h (k12 h a0 x1)) (h : aH) (a0 : Nat) {z1 : Option Value} {z2 : Option Value} : AO eI 10 kX12_tested 49 [some (.ref a0), z1, z2] [] h (b_X12_tested_49 k12 h a0) := by
  unfold b_X12_tested_49
  refine ao_s (st_iconst dX12_tested_49 ic_1) ?_
  refine ao_s (st_goto 54 dX12_tested_50 (by decide)) ?_
  exact t_X12_tested_54 hk12 h a0 1
def b_X12_tested_12 (k12 : aH → Nat → Int32 → Option (Int32 × aH)) (h : aH) (a0 : Nat) (x1 : Int32) : Option (Int32 × aH) :=
(if x1 = 0 then
(if (sh a0).1 = 19 then
(aBind (f_X12_isInside h a0) fun r22 h23 =>
(if r22 = 0 then
(aBind (f_X12_settles h23 a0 1) fun r24 h25 =>
some (1, h25))
else
(aBind (f_X12_see h23 a0) fun r26 h27 =>
(aBind (f_X12_fails h27 a0 0 (hI h27 a0 8)) fun r28 h29 =>
(if r28 = 0 ∨ r28 = 1 then some (r28, h29) else none)))))
else none)
else
(if (sh a0).1 = 19 then
(aBind (f_X12_fact h a0) fun r33 h34 =>
(if r33 = 0 then
some (0, h34)
else
(aBind (f_X12_closes h34 a0) fun r35 h36 =>
(aBind (f_X12_isWord h36 a0 6385252) fun r37 h38 =>
(if r37 = 0 then
(aBind (f_X12_isWord h38 a0 28530) fun r39 h40 =>
(if r39 = 0 then
b_X12_tested_54 k12 h40 a0 0
else
b_X12_tested_49 k12 h40 a0))
else
b_X12_tested_49 k12 h38 a0)))))
else none))
set_option maxHeartbeats 2000000 in
theorem t_X12_tested_12 {k12 : aH → Nat → Int32 → Option (Int32 × aH)} (hk12 : ∀ (h : aH) (a0 : Nat) (x1 : Int32) {z2 : Option Value}, AO eI 10 kX12_tested 12 [some (.ref a0), some (.int x1), z2] [] h (k12 h a0 x1)) (h : aH) (a0 : Nat) (x1 : Int32) {z2 : Option Value} : AO eI 10 kX12_tested 12 [some (.ref a0), some (.int x1), z2] [] h (b_X12_tested_12 k12 h a0 x1) := by
  unfold b_X12_tested_12
  refine ao_s (st_iload_n dX12_tested_12 rfl rfl) ?_
  refine ao_br (br_if_eq (tgt := 112) dX12_tested_13 (by decide)) (fun c44 => ?_) (fun c44 => ?_)
  · refine ao_s (st_aload_n dX12_tested_112 rfl rfl) ?_
    refine ao_chk (fun e21 => ?_)
    refine ao_cVi (As := []) (st := []) dX12_tested_113 ml_X12_204 mv_X12_isInside rfl e21 (by decide) rfl rfl (Nat.le_of_ble_eq_true rfl) (by decide) (s_X12_isInside h a0) (fun r22 h23 => ?_)
    refine ao_br (br_if_eq (tgt := 134) dX12_tested_116 (by decide)) (fun c31 => ?_) (fun c31 => ?_)
    · refine ao_s (st_aload_n dX12_tested_134 rfl rfl) ?_
      refine ao_s (st_iconst dX12_tested_135 ic_1) ?_
      refine ao_cVv (As := [.int 1]) (st := []) dX12_tested_136 ml_X12_201 mv_X12_settles rfl e21 (by decide) rfl rfl (Nat.le_of_ble_eq_true rfl) (by decide) (s_X12_settles h23 a0 1) (fun r24 h25 => ?_)
      refine ao_s (st_iconst dX12_tested_139 ic_1) ?_
      exact ao_ir dX12_tested_140 rfl (by decide)
    · refine ao_s (st_aload_n dX12_tested_119 rfl rfl) ?_
      refine ao_cVi (As := []) (st := []) dX12_tested_120 ml_X12_102 mv_X12_see rfl e21 (by decide) rfl rfl (Nat.le_of_ble_eq_true rfl) (by decide) (s_X12_see h23 a0) (fun r26 h27 => ?_)
      refine ao_s (st_pop dX12_tested_123 rfl) ?_
      refine ao_s (st_aload_n dX12_tested_124 rfl rfl) ?_
      refine ao_s (st_iconst dX12_tested_125 ic_0) ?_
      refine ao_s (st_aload_n dX12_tested_126 rfl rfl) ?_
      refine ao_getI dX12_tested_127 fl_X12_99 rfl e21 ?_
      refine ao_cVi (As := [.int 0, .int (hI h27 a0 8)]) (st := []) dX12_tested_130 ml_X12_120 mv_X12_fails rfl e21 (by decide) rfl rfl (Nat.le_of_ble_eq_true rfl) (by decide) (s_X12_fails h27 a0 0 (hI h27 a0 8)) (fun r28 h29 => ?_)
      refine ao_chk (fun c30 => ?_)
      exact ao_ir dX12_tested_133 rfl (nz c30).1
  · refine ao_s (st_aload_n dX12_tested_16 rfl rfl) ?_
    refine ao_chk (fun e32 => ?_)
    refine ao_cVi (As := []) (st := []) dX12_tested_17 ml_X12_207 mv_X12_fact rfl e32 (by decide) rfl rfl (Nat.le_of_ble_eq_true rfl) (by decide) (s_X12_fact h a0) (fun r33 h34 => ?_)
    refine ao_br (br_if_ne (tgt := 25) dX12_tested_20 (by decide)) (fun c43 => ?_) (fun c43 => ?_)
    · refine ao_s (st_iconst dX12_tested_23 ic_0) ?_
      exact ao_ir dX12_tested_24 rfl (by decide)
    · refine ao_s (st_aload_n dX12_tested_25 rfl rfl) ?_
      refine ao_cVv (As := []) (st := []) dX12_tested_26 ml_X12_210 mv_X12_closes rfl e32 (by decide) rfl rfl (Nat.le_of_ble_eq_true rfl) (by decide) (s_X12_closes h34 a0) (fun r35 h36 => ?_)
      refine ao_s (st_aload_n dX12_tested_29 rfl rfl) ?_
      refine ao_s (st_ldc2 dX12_tested_30 cl_X12_213) ?_
      refine ao_cVi (As := [.long 6385252]) (st := []) dX12_tested_33 ml_X12_110 mv_X12_isWord rfl e32 (by decide) rfl rfl (Nat.le_of_ble_eq_true rfl) (by decide) (s_X12_isWord h36 a0 6385252) (fun r37 h38 => ?_)
      refine ao_br (br_if_ne (tgt := 49) dX12_tested_36 (by decide)) (fun c42 => ?_) (fun c42 => ?_)
      · refine ao_s (st_aload_n dX12_tested_39 rfl rfl) ?_
        refine ao_s (st_ldc2 dX12_tested_40 cl_X12_215) ?_
        refine ao_cVi (As := [.long 28530]) (st := []) dX12_tested_43 ml_X12_110 mv_X12_isWord rfl e32 (by decide) rfl rfl (Nat.le_of_ble_eq_true rfl) (by decide) (s_X12_isWord h38 a0 28530) (fun r39 h40 => ?_)
        refine ao_br (br_if_eq (tgt := 53) dX12_tested_46 (by decide)) (fun c41 => ?_) (fun c41 => ?_)
        · refine ao_s (st_iconst dX12_tested_53 ic_0) ?_
          exact t_X12_tested_54 hk12 h40 a0 0
        · exact t_X12_tested_49 hk12 h40 a0
      · exact t_X12_tested_49 hk12 h38 a0
def f_X12_tested_12 (n : Nat) : aH → Nat → Int32 → Option (Int32 × aH) := aIt (fun _ _ _ => none) (fun k => b_X12_tested_12 k) n
theorem l_X12_tested_12 (n : Nat) : ∀ (h : aH) (a0 : Nat) (x1 : Int32) {z2 : Option Value}, AO eI 10 kX12_tested 12 [some (.ref a0), some (.int x1), z2] [] h (f_X12_tested_12 n h a0 x1) := by
  induction n with
  | zero => intros; exact ao_none
  | succ n ih =>
    intro h a0 x1 z2
    exact t_X12_tested_12 ih h a0 x1
def f_X12_tested (h : aH) (a0 : Nat) : Option (Int32 × aH) :=
(if (sh a0).1 = 19 then
(aLet (pI h a0 16 0) fun h22 =>
(aLet (pI h22 a0 13 0) fun h23 =>
f_X12_tested_12 2000 h23 a0 1))
else none)
set_option maxHeartbeats 2000000 in
theorem s_X12_tested (h : aH) (a0 : Nat) : SO eI 10 kX12_tested [.ref a0] h (f_X12_tested h a0) := by
  refine so_of (lv0 := [some (.ref a0), none, none]) pn_X12 (Nat.le_of_ble_eq_true rfl) rfl ?_
  unfold f_X12_tested
  refine ao_s (st_aload_n dX12_tested_0 rfl rfl) ?_
  refine ao_s (st_iconst dX12_tested_1 ic_0) ?_
  refine ao_chk (fun e21 => ?_)
  refine ao_putI dX12_tested_2 fl_X12_162 rfl rfl rfl rfl e21 ?_
  refine ao_letH (fun h22 => ?_)
  refine ao_s (st_aload_n dX12_tested_5 rfl rfl) ?_
  refine ao_s (st_iconst dX12_tested_6 ic_0) ?_
  refine ao_putI dX12_tested_7 fl_X12_159 rfl rfl rfl rfl e21 ?_
  refine ao_letH (fun h23 => ?_)
  refine ao_s (st_iconst dX12_tested_10 ic_1) ?_
  refine ao_s (st_istore_n (lv' := [some (.ref a0), some (.int 1), none]) dX12_tested_11 rfl (by decide) rfl) ?_
  exact l_X12_tested_12 2000 h23 a0 1
def b_X12_isStayHere_110 (h : aH) (a0 : Nat) (x1 : Int32) : Option (Int32 × aH) :=
(if (sh a0).1 = 19 then
((hR h a0 5).bind fun b22 =>
((hR h a0 4).bind fun b23 =>
(aLet (hI h a0 11) fun x24 =>
(if (sh b23).1 = 0 then
(if aIn x24 (sh b23).2 then
(aLet (x1 + 3) fun x26 =>
(if (sh b22).1 = 0 then
(if aIn x26 (sh b22).2 then
(aLet (pI h b22 x26.toNatClampNeg (hI h b23 x24.toNatClampNeg)) fun h28 =>
((hR h28 a0 6).bind fun b29 =>
(aLet (hI h28 a0 11) fun x30 =>
(if (sh b29).1 = 0 then
(if aIn x30 (sh b29).2 then
(if aIn x30 (sh b29).2 then
(aLet (pI h28 b29 x30.toNatClampNeg ((hI h28 b29 x30.toNatClampNeg) + 1)) fun h32 =>
some (1, h32))
else none)
else none)
else none))))
else none)
else none))
else none)
else none))))
else none)
set_option maxHeartbeats 2000000 in
theorem t_X12_isStayHere_110 (h : aH) (a0 : Nat) (x1 : Int32) : AO eI 11 kX12_isStayHere 110 [some (.ref a0), some (.int x1)] [] h (b_X12_isStayHere_110 h a0 x1) := by
  unfold b_X12_isStayHere_110
  refine ao_s (st_aload_n dX12_isStayHere_110 rfl rfl) ?_
  refine ao_chk (fun e21 => ?_)
  refine ao_getR dX12_isStayHere_111 fl_X12_20 rfl e21 (fun b22 => ?_)
  refine ao_s (st_iload_n dX12_isStayHere_114 rfl rfl) ?_
  refine ao_s (st_iconst dX12_isStayHere_115 ic_3) ?_
  refine ao_s (st_iadd dX12_isStayHere_116) ?_
  refine ao_s (st_aload_n dX12_isStayHere_117 rfl rfl) ?_
  refine ao_getR dX12_isStayHere_118 fl_X12_17 rfl e21 (fun b23 => ?_)
  refine ao_s (st_aload_n dX12_isStayHere_121 rfl rfl) ?_
  refine ao_getI dX12_isStayHere_122 fl_X12_153 rfl e21 ?_
  refine ao_letI (fun x24 => ?_)
  refine ao_chk (fun e25 => ?_)
  refine ao_iald dX12_isStayHere_125 e25 ?_
  refine ao_let2 (fun x26 => ?_)
  refine ao_chk (fun e27 => ?_)
  refine ao_iast dX12_isStayHere_126 e27 ?_
  refine ao_letH (fun h28 => ?_)
  refine ao_s (st_aload_n dX12_isStayHere_127 rfl rfl) ?_
  refine ao_getR dX12_isStayHere_128 fl_X12_23 rfl e21 (fun b29 => ?_)
  refine ao_s (st_aload_n dX12_isStayHere_131 rfl rfl) ?_
  refine ao_getI dX12_isStayHere_132 fl_X12_153 rfl e21 ?_
  refine ao_letI (fun x30 => ?_)
  refine ao_s (st_dup2 dX12_isStayHere_135 rfl rfl) ?_
  refine ao_chk (fun e31 => ?_)
  refine ao_iald dX12_isStayHere_136 e31 ?_
  refine ao_s (st_iconst dX12_isStayHere_137 ic_1) ?_
  refine ao_s (st_iadd dX12_isStayHere_138) ?_
  refine ao_iast dX12_isStayHere_139 e31 ?_
  refine ao_letH (fun h32 => ?_)
  refine ao_s (st_iconst dX12_isStayHere_140 ic_1) ?_
  exact ao_ir dX12_isStayHere_141 rfl (by decide)
def f_X12_isStayHere (h : aH) (a0 : Nat) : Option (Int32 × aH) :=
(if (sh a0).1 = 19 then
(aBind (f_X12_passWord h a0) fun r22 h23 =>
((hR h23 a0 6).bind fun b24 =>
(aLet (hI h23 a0 11) fun x25 =>
(if (sh b24).1 = 0 then
(if aIn x25 (sh b24).2 then
(aLet ((48 * (hI h23 a0 11)) + (4 * (hI h23 b24 x25.toNatClampNeg))) fun x27 =>
((hR h23 a0 5).bind fun b28 =>
((hR h23 a0 4).bind fun b29 =>
(aLet (hI h23 a0 11) fun x30 =>
(if (sh b29).1 = 0 then
(if aIn x30 (sh b29).2 then
(if (sh b28).1 = 0 then
(if aIn x27 (sh b28).2 then
(aLet (pI h23 b28 x27.toNatClampNeg (hI h23 b29 x30.toNatClampNeg)) fun h33 =>
(aBind (f_X12_sum h33 a0) fun r34 h35 =>
(if r34 = 0 then
some (0, h35)
else
((hR h35 a0 5).bind fun b36 =>
((hR h35 a0 4).bind fun b37 =>
(aLet (hI h35 a0 11) fun x38 =>
(if (sh b37).1 = 0 then
(if aIn x38 (sh b37).2 then
(aLet (x27 + 1) fun x40 =>
(if (sh b36).1 = 0 then
(if aIn x40 (sh b36).2 then
(aLet (pI h35 b36 x40.toNatClampNeg (hI h35 b37 x38.toNatClampNeg)) fun h42 =>
((hR h42 a0 5).bind fun b43 =>
(aLet (x27 + 2) fun x44 =>
(if (sh b43).1 = 0 then
(if aIn x44 (sh b43).2 then
(aLet (pI h42 b43 x44.toNatClampNeg (-1)) fun h46 =>
(aBind (f_X12_takesWord h46 a0 26982) fun r47 h48 =>
(if r47 = 0 then
b_X12_isStayHere_110 h48 a0 x27
else
((hR h48 a0 5).bind fun b49 =>
((hR h48 a0 4).bind fun b50 =>
(aLet (hI h48 a0 11) fun x51 =>
(if (sh b50).1 = 0 then
(if aIn x51 (sh b50).2 then
(aLet (x27 + 2) fun x53 =>
(if (sh b49).1 = 0 then
(if aIn x53 (sh b49).2 then
(aLet (pI h48 b49 x53.toNatClampNeg (hI h48 b50 x51.toNatClampNeg)) fun h55 =>
(aBind (f_X12_tested h55 a0) fun r56 h57 =>
(if r56 = 0 then
some (0, h57)
else
b_X12_isStayHere_110 h57 a0 x27)))
else none)
else none))
else none)
else none)))))))
else none)
else none))))
else none)
else none))
else none)
else none)))))))
else none)
else none)
else none)
else none)))))
else none)
else none))))
else none)
set_option maxHeartbeats 2000000 in
theorem s_X12_isStayHere (h : aH) (a0 : Nat) : SO eI 11 kX12_isStayHere [.ref a0] h (f_X12_isStayHere h a0) := by
  refine so_of (lv0 := [some (.ref a0), none]) pn_X12 (Nat.le_of_ble_eq_true rfl) rfl ?_
  unfold f_X12_isStayHere
  refine ao_s (st_aload_n dX12_isStayHere_0 rfl rfl) ?_
  refine ao_chk (fun e21 => ?_)
  refine ao_cVv (As := []) (st := []) dX12_isStayHere_1 ml_X12_114 mv_X12_passWord rfl e21 (by decide) rfl rfl (Nat.le_of_ble_eq_true rfl) (by decide) (s_X12_passWord h a0) (fun r22 h23 => ?_)
  refine ao_s (st_bipush dX12_isStayHere_4 bp_48) ?_
  refine ao_s (st_aload_n dX12_isStayHere_6 rfl rfl) ?_
  refine ao_getI dX12_isStayHere_7 fl_X12_153 rfl e21 ?_
  refine ao_s (st_imul dX12_isStayHere_10) ?_
  refine ao_s (st_iconst dX12_isStayHere_11 ic_4) ?_
  refine ao_s (st_aload_n dX12_isStayHere_12 rfl rfl) ?_
  refine ao_getR dX12_isStayHere_13 fl_X12_23 rfl e21 (fun b24 => ?_)
  refine ao_s (st_aload_n dX12_isStayHere_16 rfl rfl) ?_
  refine ao_getI dX12_isStayHere_17 fl_X12_153 rfl e21 ?_
  refine ao_letI (fun x25 => ?_)
  refine ao_chk (fun e26 => ?_)
  refine ao_iald dX12_isStayHere_20 e26 ?_
  refine ao_s (st_imul dX12_isStayHere_21) ?_
  refine ao_s (st_iadd dX12_isStayHere_22) ?_
  refine ao_letI (fun x27 => ?_)
  refine ao_s (st_istore_n (lv' := [some (.ref a0), some (.int x27)]) dX12_isStayHere_23 rfl (by decide) rfl) ?_
  refine ao_s (st_aload_n dX12_isStayHere_24 rfl rfl) ?_
  refine ao_getR dX12_isStayHere_25 fl_X12_20 rfl e21 (fun b28 => ?_)
  refine ao_s (st_iload_n dX12_isStayHere_28 rfl rfl) ?_
  refine ao_s (st_aload_n dX12_isStayHere_29 rfl rfl) ?_
  refine ao_getR dX12_isStayHere_30 fl_X12_17 rfl e21 (fun b29 => ?_)
  refine ao_s (st_aload_n dX12_isStayHere_33 rfl rfl) ?_
  refine ao_getI dX12_isStayHere_34 fl_X12_153 rfl e21 ?_
  refine ao_letI (fun x30 => ?_)
  refine ao_chk (fun e31 => ?_)
  refine ao_iald dX12_isStayHere_37 e31 ?_
  refine ao_chk (fun e32 => ?_)
  refine ao_iast dX12_isStayHere_38 e32 ?_
  refine ao_letH (fun h33 => ?_)
  refine ao_s (st_aload_n dX12_isStayHere_39 rfl rfl) ?_
  refine ao_cVi (As := []) (st := []) dX12_isStayHere_40 ml_X12_190 mv_X12_sum rfl e21 (by decide) rfl rfl (Nat.le_of_ble_eq_true rfl) (by decide) (s_X12_sum h33 a0) (fun r34 h35 => ?_)
  refine ao_br (br_if_ne (tgt := 48) dX12_isStayHere_43 (by decide)) (fun c60 => ?_) (fun c60 => ?_)
  · refine ao_s (st_iconst dX12_isStayHere_46 ic_0) ?_
    exact ao_ir dX12_isStayHere_47 rfl (by decide)
  · refine ao_s (st_aload_n dX12_isStayHere_48 rfl rfl) ?_
    refine ao_getR dX12_isStayHere_49 fl_X12_20 rfl e21 (fun b36 => ?_)
    refine ao_s (st_iload_n dX12_isStayHere_52 rfl rfl) ?_
    refine ao_s (st_iconst dX12_isStayHere_53 ic_1) ?_
    refine ao_s (st_iadd dX12_isStayHere_54) ?_
    refine ao_s (st_aload_n dX12_isStayHere_55 rfl rfl) ?_
    refine ao_getR dX12_isStayHere_56 fl_X12_17 rfl e21 (fun b37 => ?_)
    refine ao_s (st_aload_n dX12_isStayHere_59 rfl rfl) ?_
    refine ao_getI dX12_isStayHere_60 fl_X12_153 rfl e21 ?_
    refine ao_letI (fun x38 => ?_)
    refine ao_chk (fun e39 => ?_)
    refine ao_iald dX12_isStayHere_63 e39 ?_
    refine ao_let2 (fun x40 => ?_)
    refine ao_chk (fun e41 => ?_)
    refine ao_iast dX12_isStayHere_64 e41 ?_
    refine ao_letH (fun h42 => ?_)
    refine ao_s (st_aload_n dX12_isStayHere_65 rfl rfl) ?_
    refine ao_getR dX12_isStayHere_66 fl_X12_20 rfl e21 (fun b43 => ?_)
    refine ao_s (st_iload_n dX12_isStayHere_69 rfl rfl) ?_
    refine ao_s (st_iconst dX12_isStayHere_70 ic_2) ?_
    refine ao_s (st_iadd dX12_isStayHere_71) ?_
    refine ao_s (st_iconst dX12_isStayHere_72 ic_m1) ?_
    refine ao_let2 (fun x44 => ?_)
    refine ao_chk (fun e45 => ?_)
    refine ao_iast dX12_isStayHere_73 e45 ?_
    refine ao_letH (fun h46 => ?_)
    refine ao_s (st_aload_n dX12_isStayHere_74 rfl rfl) ?_
    refine ao_s (st_ldc2 dX12_isStayHere_75 cl_X12_217) ?_
    refine ao_cVi (As := [.long 26982]) (st := []) dX12_isStayHere_78 ml_X12_219 mv_X12_takesWord rfl e21 (by decide) rfl rfl (Nat.le_of_ble_eq_true rfl) (by decide) (s_X12_takesWord h46 a0 26982) (fun r47 h48 => ?_)
    refine ao_br (br_if_eq (tgt := 110) dX12_isStayHere_81 (by decide)) (fun c59 => ?_) (fun c59 => ?_)
    · exact t_X12_isStayHere_110 h48 a0 x27
    · refine ao_s (st_aload_n dX12_isStayHere_84 rfl rfl) ?_
      refine ao_getR dX12_isStayHere_85 fl_X12_20 rfl e21 (fun b49 => ?_)
      refine ao_s (st_iload_n dX12_isStayHere_88 rfl rfl) ?_
      refine ao_s (st_iconst dX12_isStayHere_89 ic_2) ?_
      refine ao_s (st_iadd dX12_isStayHere_90) ?_
      refine ao_s (st_aload_n dX12_isStayHere_91 rfl rfl) ?_
      refine ao_getR dX12_isStayHere_92 fl_X12_17 rfl e21 (fun b50 => ?_)
      refine ao_s (st_aload_n dX12_isStayHere_95 rfl rfl) ?_
      refine ao_getI dX12_isStayHere_96 fl_X12_153 rfl e21 ?_
      refine ao_letI (fun x51 => ?_)
      refine ao_chk (fun e52 => ?_)
      refine ao_iald dX12_isStayHere_99 e52 ?_
      refine ao_let2 (fun x53 => ?_)
      refine ao_chk (fun e54 => ?_)
      refine ao_iast dX12_isStayHere_100 e54 ?_
      refine ao_letH (fun h55 => ?_)
      refine ao_s (st_aload_n dX12_isStayHere_101 rfl rfl) ?_
      refine ao_cVi (As := []) (st := []) dX12_isStayHere_102 ml_X12_222 mv_X12_tested rfl e21 (by decide) rfl rfl (Nat.le_of_ble_eq_true rfl) (by decide) (s_X12_tested h55 a0) (fun r56 h57 => ?_)
      refine ao_br (br_if_ne (tgt := 110) dX12_isStayHere_105 (by decide)) (fun c58 => ?_) (fun c58 => ?_)
      · refine ao_s (st_iconst dX12_isStayHere_108 ic_0) ?_
        exact ao_ir dX12_isStayHere_109 rfl (by decide)
      · exact t_X12_isStayHere_110 h57 a0 x27
def f_X12_cellHere (h : aH) (a0 : Nat) (x1 : Int32) (x2 : Int32) (x3 : Int32) : Option (Int32 × aH) :=
(if (sh a0).1 = 19 then
(aBind (f_X12_numberHere h a0 x2 x3) fun r22 h23 =>
(if r22 = 0 then
some (0, h23)
else
((hR h23 a0 7).bind fun b24 =>
(if (sh b24).1 = 0 then
(if aIn x1 (sh b24).2 then
(aLet (pI h23 b24 x1.toNatClampNeg (hI h23 a0 10)) fun h26 =>
some (1, h26))
else none)
else none))))
else none)
set_option maxHeartbeats 2000000 in
theorem s_X12_cellHere (h : aH) (a0 : Nat) (x1 : Int32) (x2 : Int32) (x3 : Int32) : SO eI 4 kX12_cellHere [.ref a0, .int x1, .int x2, .int x3] h (f_X12_cellHere h a0 x1 x2 x3) := by
  refine so_of (lv0 := [some (.ref a0), some (.int x1), some (.int x2), some (.int x3)]) pn_X12 (Nat.le_of_ble_eq_true rfl) rfl ?_
  unfold f_X12_cellHere
  refine ao_s (st_aload_n dX12_cellHere_0 rfl rfl) ?_
  refine ao_s (st_iload_n dX12_cellHere_1 rfl rfl) ?_
  refine ao_s (st_iload_n dX12_cellHere_2 rfl rfl) ?_
  refine ao_chk (fun e21 => ?_)
  refine ao_cVi (As := [.int x2, .int x3]) (st := []) dX12_cellHere_3 ml_X12_174 mv_X12_numberHere rfl e21 (by decide) rfl rfl (Nat.le_of_ble_eq_true rfl) (by decide) (s_X12_numberHere h a0 x2 x3) (fun r22 h23 => ?_)
  refine ao_br (br_if_ne (tgt := 11) dX12_cellHere_6 (by decide)) (fun c27 => ?_) (fun c27 => ?_)
  · refine ao_s (st_iconst dX12_cellHere_9 ic_0) ?_
    exact ao_ir dX12_cellHere_10 rfl (by decide)
  · refine ao_s (st_aload_n dX12_cellHere_11 rfl rfl) ?_
    refine ao_getR dX12_cellHere_12 fl_X12_26 rfl e21 (fun b24 => ?_)
    refine ao_s (st_iload_n dX12_cellHere_15 rfl rfl) ?_
    refine ao_s (st_aload_n dX12_cellHere_16 rfl rfl) ?_
    refine ao_getI dX12_cellHere_17 fl_X12_124 rfl e21 ?_
    refine ao_chk (fun e25 => ?_)
    refine ao_iast dX12_cellHere_20 e25 ?_
    refine ao_letH (fun h26 => ?_)
    refine ao_s (st_iconst dX12_cellHere_21 ic_1) ?_
    exact ao_ir dX12_cellHere_22 rfl (by decide)
def b_X12_isIsleHere_53 (k53 : aH → Nat → Int32 → Option (Int32 × aH)) (h : aH) (a0 : Nat) (x2 : Int32) : Option (Int32 × aH) :=
(if 32 ≤ x2 then
some (1, h)
else
(if (sh a0).1 = 19 then
((hR h a0 7).bind fun b22 =>
(aLet (78 + x2) fun x23 =>
(if (sh b22).1 = 0 then
(if aIn x23 (sh b22).2 then
(aLet (pI h b22 x23.toNatClampNeg (-1)) fun h25 =>
k53 h25 a0 (x2 + 1))
else none)
else none)))
else none))
set_option maxHeartbeats 2000000 in
theorem t_X12_isIsleHere_53 {k53 : aH → Nat → Int32 → Option (Int32 × aH)} (hk53 : ∀ (h : aH) (a0 : Nat) (x2 : Int32) {z1 : Option Value}, AO eI 5 kX12_isIsleHere 53 [some (.ref a0), z1, some (.int x2)] [] h (k53 h a0 x2)) (h : aH) (a0 : Nat) (x2 : Int32) {z1 : Option Value} : AO eI 5 kX12_isIsleHere 53 [some (.ref a0), z1, some (.int x2)] [] h (b_X12_isIsleHere_53 k53 h a0 x2) := by
  unfold b_X12_isIsleHere_53
  refine ao_s (st_iload_n dX12_isIsleHere_53 rfl rfl) ?_
  refine ao_s (st_bipush dX12_isIsleHere_54 bp_32) ?_
  refine ao_br (br_icmp_ge (tgt := 75) dX12_isIsleHere_56 (by decide)) (fun c26 => ?_) (fun c26 => ?_)
  · refine ao_s (st_iconst dX12_isIsleHere_75 ic_1) ?_
    exact ao_ir dX12_isIsleHere_76 rfl (by decide)
  · refine ao_s (st_aload_n dX12_isIsleHere_59 rfl rfl) ?_
    refine ao_chk (fun e21 => ?_)
    refine ao_getR dX12_isIsleHere_60 fl_X12_26 rfl e21 (fun b22 => ?_)
    refine ao_s (st_bipush dX12_isIsleHere_63 bp_78) ?_
    refine ao_s (st_iload_n dX12_isIsleHere_65 rfl rfl) ?_
    refine ao_s (st_iadd dX12_isIsleHere_66) ?_
    refine ao_s (st_iconst dX12_isIsleHere_67 ic_m1) ?_
    refine ao_let2 (fun x23 => ?_)
    refine ao_chk (fun e24 => ?_)
    refine ao_iast dX12_isIsleHere_68 e24 ?_
    refine ao_letH (fun h25 => ?_)
    refine ao_s (st_iinc (lv' := [some (.ref a0), z1, some (.int (x2 + 1))]) dX12_isIsleHere_69 rfl nc_1 (by decide) rfl) ?_
    refine ao_s (st_goto 53 dX12_isIsleHere_72 (by decide)) ?_
    exact hk53 h25 a0 (x2 + 1)
def f_X12_isIsleHere_53 (n : Nat) : aH → Nat → Int32 → Option (Int32 × aH) := aIt (fun _ _ _ => none) (fun k => b_X12_isIsleHere_53 k) n
theorem l_X12_isIsleHere_53 (n : Nat) : ∀ (h : aH) (a0 : Nat) (x2 : Int32) {z1 : Option Value}, AO eI 5 kX12_isIsleHere 53 [some (.ref a0), z1, some (.int x2)] [] h (f_X12_isIsleHere_53 n h a0 x2) := by
  induction n with
  | zero => intros; exact ao_none
  | succ n ih =>
    intro h a0 x2 z1
    exact t_X12_isIsleHere_53 ih h a0 x2
def f_X12_isIsleHere (h : aH) (a0 : Nat) (x1 : Int32) : Option (Int32 × aH) :=
(if (sh a0).1 = 19 then
((hR h a0 7).bind fun b22 =>
(if (sh b22).1 = 0 then
(if aIn 0 (sh b22).2 then
(if hI h b22 (0 : Int32).toNatClampNeg ≤ 0 then
(aBind (f_X12_passWord h a0) fun r24 h25 =>
(aBind (f_X12_cellHere h25 a0 1 0 99) fun r26 h27 =>
(if r26 = 0 then
some (0, h27)
else
(aBind (f_X12_cellHere h27 a0 2 0 20) fun r28 h29 =>
(if r28 = 0 then
some (0, h29)
else
((hR h29 a0 7).bind fun b30 =>
(if (sh b30).1 = 0 then
(if aIn 0 (sh b30).2 then
(aLet (pI h29 b30 (0 : Int32).toNatClampNeg 1) fun h32 =>
f_X12_isIsleHere_53 2000 h32 a0 0)
else none)
else none)))))))
else
(aBind (f_X12_fails h a0 4 x1) fun r35 h36 =>
(if r35 = 0 ∨ r35 = 1 then some (r35, h36) else none)))
else none)
else none))
else none)
set_option maxHeartbeats 2000000 in
theorem s_X12_isIsleHere (h : aH) (a0 : Nat) (x1 : Int32) : SO eI 5 kX12_isIsleHere [.ref a0, .int x1] h (f_X12_isIsleHere h a0 x1) := by
  refine so_of (lv0 := [some (.ref a0), some (.int x1), none]) pn_X12 (Nat.le_of_ble_eq_true rfl) rfl ?_
  unfold f_X12_isIsleHere
  refine ao_s (st_aload_n dX12_isIsleHere_0 rfl rfl) ?_
  refine ao_chk (fun e21 => ?_)
  refine ao_getR dX12_isIsleHere_1 fl_X12_26 rfl e21 (fun b22 => ?_)
  refine ao_s (st_iconst dX12_isIsleHere_4 ic_0) ?_
  refine ao_chk (fun e23 => ?_)
  refine ao_iald dX12_isIsleHere_5 e23 ?_
  refine ao_br (br_if_le (tgt := 16) dX12_isIsleHere_6 (by decide)) (fun c38 => ?_) (fun c38 => ?_)
  · refine ao_s (st_aload_n dX12_isIsleHere_16 rfl rfl) ?_
    refine ao_cVv (As := []) (st := []) dX12_isIsleHere_17 ml_X12_114 mv_X12_passWord rfl e21 (by decide) rfl rfl (Nat.le_of_ble_eq_true rfl) (by decide) (s_X12_passWord h a0) (fun r24 h25 => ?_)
    refine ao_s (st_aload_n dX12_isIsleHere_20 rfl rfl) ?_
    refine ao_s (st_iconst dX12_isIsleHere_21 ic_1) ?_
    refine ao_s (st_iconst dX12_isIsleHere_22 ic_0) ?_
    refine ao_s (st_bipush dX12_isIsleHere_23 bp_99) ?_
    refine ao_cVi (As := [.int 1, .int 0, .int 99]) (st := []) dX12_isIsleHere_25 ml_X12_225 mv_X12_cellHere rfl e21 (by decide) rfl rfl (Nat.le_of_ble_eq_true rfl) (by decide) (s_X12_cellHere h25 a0 1 0 99) (fun r26 h27 => ?_)
    refine ao_br (br_if_eq (tgt := 42) dX12_isIsleHere_28 (by decide)) (fun c34 => ?_) (fun c34 => ?_)
    · refine ao_s (st_iconst dX12_isIsleHere_42 ic_0) ?_
      exact ao_ir dX12_isIsleHere_43 rfl (by decide)
    · refine ao_s (st_aload_n dX12_isIsleHere_31 rfl rfl) ?_
      refine ao_s (st_iconst dX12_isIsleHere_32 ic_2) ?_
      refine ao_s (st_iconst dX12_isIsleHere_33 ic_0) ?_
      refine ao_s (st_bipush dX12_isIsleHere_34 bp_20) ?_
      refine ao_cVi (As := [.int 2, .int 0, .int 20]) (st := []) dX12_isIsleHere_36 ml_X12_225 mv_X12_cellHere rfl e21 (by decide) rfl rfl (Nat.le_of_ble_eq_true rfl) (by decide) (s_X12_cellHere h27 a0 2 0 20) (fun r28 h29 => ?_)
      refine ao_br (br_if_ne (tgt := 44) dX12_isIsleHere_39 (by decide)) (fun c33 => ?_) (fun c33 => ?_)
      · refine ao_s (st_iconst dX12_isIsleHere_42 ic_0) ?_
        exact ao_ir dX12_isIsleHere_43 rfl (by decide)
      · refine ao_s (st_aload_n dX12_isIsleHere_44 rfl rfl) ?_
        refine ao_getR dX12_isIsleHere_45 fl_X12_26 rfl e21 (fun b30 => ?_)
        refine ao_s (st_iconst dX12_isIsleHere_48 ic_0) ?_
        refine ao_s (st_iconst dX12_isIsleHere_49 ic_1) ?_
        refine ao_chk (fun e31 => ?_)
        refine ao_iast dX12_isIsleHere_50 e31 ?_
        refine ao_letH (fun h32 => ?_)
        refine ao_s (st_iconst dX12_isIsleHere_51 ic_0) ?_
        refine ao_s (st_istore_n (lv' := [some (.ref a0), some (.int x1), some (.int 0)]) dX12_isIsleHere_52 rfl (by decide) rfl) ?_
        exact l_X12_isIsleHere_53 2000 h32 a0 0
  · refine ao_s (st_aload_n dX12_isIsleHere_9 rfl rfl) ?_
    refine ao_s (st_iconst dX12_isIsleHere_10 ic_4) ?_
    refine ao_s (st_iload_n dX12_isIsleHere_11 rfl rfl) ?_
    refine ao_cVi (As := [.int 4, .int x1]) (st := []) dX12_isIsleHere_12 ml_X12_120 mv_X12_fails rfl e21 (by decide) rfl rfl (Nat.le_of_ble_eq_true rfl) (by decide) (s_X12_fails h a0 4 x1) (fun r35 h36 => ?_)
    refine ao_chk (fun c37 => ?_)
    exact ao_ir dX12_isIsleHere_15 rfl (nz c37).1
def f_X12_isOneHere (h : aH) (a0 : Nat) (x1 : Int32) (x2 : Int32) : Option (Int32 × aH) :=
(if (sh a0).1 = 19 then
((hR h a0 7).bind fun b22 =>
(aLet (3 + x1) fun x23 =>
(if (sh b22).1 = 0 then
(if aIn x23 (sh b22).2 then
(if hI h b22 x23.toNatClampNeg = 4 then
(aBind (f_X12_fails h a0 4 x2) fun r25 h26 =>
(if r25 = 0 ∨ r25 = 1 then some (r25, h26) else none))
else
(aBind (f_X12_passWord h a0) fun r28 h29 =>
((hR h29 a0 7).bind fun b30 =>
(aLet (3 + x1) fun x31 =>
(if (sh b30).1 = 0 then
(if aIn x31 (sh b30).2 then
(aBind (f_X12_cellHere h29 a0 ((142 + (4 * x1)) + (hI h29 b30 x31.toNatClampNeg)) 0 999) fun r33 h34 =>
(if r33 = 0 then
some (0, h34)
else
((hR h34 a0 7).bind fun b35 =>
(aLet (3 + x1) fun x36 =>
(if (sh b35).1 = 0 then
(if aIn x36 (sh b35).2 then
(if aIn x36 (sh b35).2 then
(aLet (pI h34 b35 x36.toNatClampNeg ((hI h34 b35 x36.toNatClampNeg) + 1)) fun h38 =>
some (1, h38))
else none)
else none)
else none)))))
else none)
else none)))))
else none)
else none)))
else none)
set_option maxHeartbeats 2000000 in
theorem s_X12_isOneHere (h : aH) (a0 : Nat) (x1 : Int32) (x2 : Int32) : SO eI 5 kX12_isOneHere [.ref a0, .int x1, .int x2] h (f_X12_isOneHere h a0 x1 x2) := by
  refine so_of (lv0 := [some (.ref a0), some (.int x1), some (.int x2)]) pn_X12 (Nat.le_of_ble_eq_true rfl) rfl ?_
  unfold f_X12_isOneHere
  refine ao_s (st_aload_n dX12_isOneHere_0 rfl rfl) ?_
  refine ao_chk (fun e21 => ?_)
  refine ao_getR dX12_isOneHere_1 fl_X12_26 rfl e21 (fun b22 => ?_)
  refine ao_s (st_iconst dX12_isOneHere_4 ic_3) ?_
  refine ao_s (st_iload_n dX12_isOneHere_5 rfl rfl) ?_
  refine ao_s (st_iadd dX12_isOneHere_6) ?_
  refine ao_letI (fun x23 => ?_)
  refine ao_chk (fun e24 => ?_)
  refine ao_iald dX12_isOneHere_7 e24 ?_
  refine ao_s (st_iconst dX12_isOneHere_8 ic_4) ?_
  refine ao_br (br_icmp_ne (tgt := 19) dX12_isOneHere_9 (by decide)) (fun c40 => ?_) (fun c40 => ?_)
  · refine ao_s (st_aload_n dX12_isOneHere_12 rfl rfl) ?_
    refine ao_s (st_iconst dX12_isOneHere_13 ic_4) ?_
    refine ao_s (st_iload_n dX12_isOneHere_14 rfl rfl) ?_
    refine ao_cVi (As := [.int 4, .int x2]) (st := []) dX12_isOneHere_15 ml_X12_120 mv_X12_fails rfl e21 (by decide) rfl rfl (Nat.le_of_ble_eq_true rfl) (by decide) (s_X12_fails h a0 4 x2) (fun r25 h26 => ?_)
    refine ao_chk (fun c27 => ?_)
    exact ao_ir dX12_isOneHere_18 rfl (nz c27).1
  · refine ao_s (st_aload_n dX12_isOneHere_19 rfl rfl) ?_
    refine ao_cVv (As := []) (st := []) dX12_isOneHere_20 ml_X12_114 mv_X12_passWord rfl e21 (by decide) rfl rfl (Nat.le_of_ble_eq_true rfl) (by decide) (s_X12_passWord h a0) (fun r28 h29 => ?_)
    refine ao_s (st_aload_n dX12_isOneHere_23 rfl rfl) ?_
    refine ao_s (st_sipush dX12_isOneHere_24 sp_142) ?_
    refine ao_s (st_iconst dX12_isOneHere_27 ic_4) ?_
    refine ao_s (st_iload_n dX12_isOneHere_28 rfl rfl) ?_
    refine ao_s (st_imul dX12_isOneHere_29) ?_
    refine ao_s (st_iadd dX12_isOneHere_30) ?_
    refine ao_s (st_aload_n dX12_isOneHere_31 rfl rfl) ?_
    refine ao_getR dX12_isOneHere_32 fl_X12_26 rfl e21 (fun b30 => ?_)
    refine ao_s (st_iconst dX12_isOneHere_35 ic_3) ?_
    refine ao_s (st_iload_n dX12_isOneHere_36 rfl rfl) ?_
    refine ao_s (st_iadd dX12_isOneHere_37) ?_
    refine ao_letI (fun x31 => ?_)
    refine ao_chk (fun e32 => ?_)
    refine ao_iald dX12_isOneHere_38 e32 ?_
    refine ao_s (st_iadd dX12_isOneHere_39) ?_
    refine ao_s (st_iconst dX12_isOneHere_40 ic_0) ?_
    refine ao_s (st_sipush dX12_isOneHere_41 sp_999) ?_
    refine ao_cVi (As := [.int ((142 + (4 * x1)) + (hI h29 b30 x31.toNatClampNeg)), .int 0, .int 999]) (st := []) dX12_isOneHere_44 ml_X12_225 mv_X12_cellHere rfl e21 (by decide) rfl rfl (Nat.le_of_ble_eq_true rfl) (by decide) (s_X12_cellHere h29 a0 ((142 + (4 * x1)) + (hI h29 b30 x31.toNatClampNeg)) 0 999) (fun r33 h34 => ?_)
    refine ao_br (br_if_ne (tgt := 52) dX12_isOneHere_47 (by decide)) (fun c39 => ?_) (fun c39 => ?_)
    · refine ao_s (st_iconst dX12_isOneHere_50 ic_0) ?_
      exact ao_ir dX12_isOneHere_51 rfl (by decide)
    · refine ao_s (st_aload_n dX12_isOneHere_52 rfl rfl) ?_
      refine ao_getR dX12_isOneHere_53 fl_X12_26 rfl e21 (fun b35 => ?_)
      refine ao_s (st_iconst dX12_isOneHere_56 ic_3) ?_
      refine ao_s (st_iload_n dX12_isOneHere_57 rfl rfl) ?_
      refine ao_s (st_iadd dX12_isOneHere_58) ?_
      refine ao_letI (fun x36 => ?_)
      refine ao_s (st_dup2 dX12_isOneHere_59 rfl rfl) ?_
      refine ao_chk (fun e37 => ?_)
      refine ao_iald dX12_isOneHere_60 e37 ?_
      refine ao_s (st_iconst dX12_isOneHere_61 ic_1) ?_
      refine ao_s (st_iadd dX12_isOneHere_62) ?_
      refine ao_iast dX12_isOneHere_63 e37 ?_
      refine ao_letH (fun h38 => ?_)
      refine ao_s (st_iconst dX12_isOneHere_64 ic_1) ?_
      exact ao_ir dX12_isOneHere_65 rfl (by decide)
