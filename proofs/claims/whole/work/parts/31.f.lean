def b_X12_sum_46 (k9 : aH → Nat → Option (Int32 × aH)) (h : aH) (a0 : Nat) (s0 : Int32) : Option (Int32 × aH) :=
(if (sh a0).1 = 19 then
(aLet (pI h a0 8 ((hI h a0 8) + 1)) fun h22 =>
(aBind (f_X12_term h22 a0) fun r23 h24 =>
(if r23 = 0 then
some (0, h24)
else
(aBind (f_X12_puts h24 a0 s0 0) fun r25 h26 =>
k9 h26 a0))))
else none)
set_option maxHeartbeats 2000000 in
theorem t_X12_sum_46 {k9 : aH → Nat → Option (Int32 × aH)} (hk9 : ∀ (h : aH) (a0 : Nat) {z1 : Option Value}, AO eI 7 kX12_sum 9 [some (.ref a0), z1] [] h (k9 h a0)) (h : aH) (a0 : Nat) (s0 : Int32) {z1 : Option Value} : AO eI 7 kX12_sum 46 [some (.ref a0), z1] [.int s0] h (b_X12_sum_46 k9 h a0 s0) := by
  unfold b_X12_sum_46
  refine ao_s (st_istore_n (lv' := [some (.ref a0), some (.int s0)]) dX12_sum_46 rfl (by decide) rfl) ?_
  refine ao_s (st_aload_n dX12_sum_47 rfl rfl) ?_
  refine ao_s (st_dup dX12_sum_48 rfl) ?_
  refine ao_chk (fun e21 => ?_)
  refine ao_getI dX12_sum_49 fl_X12_99 rfl e21 ?_
  refine ao_s (st_iconst dX12_sum_52 ic_1) ?_
  refine ao_s (st_iadd dX12_sum_53) ?_
  refine ao_putI dX12_sum_54 fl_X12_99 rfl rfl rfl rfl e21 ?_
  refine ao_letH (fun h22 => ?_)
  refine ao_s (st_aload_n dX12_sum_57 rfl rfl) ?_
  refine ao_cVi (As := []) (st := []) dX12_sum_58 ml_X12_187 mv_X12_term rfl e21 (by decide) rfl rfl (Nat.le_of_ble_eq_true rfl) (by decide) (s_X12_term h22 a0) (fun r23 h24 => ?_)
  refine ao_br (br_if_ne (tgt := 66) dX12_sum_61 (by decide)) (fun c27 => ?_) (fun c27 => ?_)
  · refine ao_s (st_iconst dX12_sum_64 ic_0) ?_
    exact ao_ir dX12_sum_65 rfl (by decide)
  · refine ao_s (st_aload_n dX12_sum_66 rfl rfl) ?_
    refine ao_s (st_iload_n dX12_sum_67 rfl rfl) ?_
    refine ao_s (st_iconst dX12_sum_68 ic_0) ?_
    refine ao_cVv (As := [.int s0, .int 0]) (st := []) dX12_sum_69 ml_X12_169 mv_X12_puts rfl e21 (by decide) rfl rfl (Nat.le_of_ble_eq_true rfl) (by decide) (s_X12_puts h24 a0 s0 0) (fun r25 h26 => ?_)
    refine ao_s (st_goto 9 dX12_sum_72 (by decide)) ?_
    exact hk9 h26 a0
def b_X12_sum_27 (k9 : aH → Nat → Option (Int32 × aH)) (h : aH) (a0 : Nat) : Option (Int32 × aH) :=
(if (sh a0).1 = 19 then
((hR h a0 0).bind fun b22 =>
(aLet (hI h a0 8) fun x23 =>
(if (sh b22).1 = 1 then
(if aIn x23 (sh b22).2 then
(if hI h b22 x23.toNatClampNeg = 43 then
b_X12_sum_46 k9 h a0 2
else
b_X12_sum_46 k9 h a0 3)
else none)
else none)))
else none)
set_option maxHeartbeats 2000000 in
theorem t_X12_sum_27 {k9 : aH → Nat → Option (Int32 × aH)} (hk9 : ∀ (h : aH) (a0 : Nat) {z1 : Option Value}, AO eI 7 kX12_sum 9 [some (.ref a0), z1] [] h (k9 h a0)) (h : aH) (a0 : Nat) {z1 : Option Value} : AO eI 7 kX12_sum 27 [some (.ref a0), z1] [] h (b_X12_sum_27 k9 h a0) := by
  unfold b_X12_sum_27
  refine ao_s (st_aload_n dX12_sum_27 rfl rfl) ?_
  refine ao_chk (fun e21 => ?_)
  refine ao_getR dX12_sum_28 fl_X12_7 rfl e21 (fun b22 => ?_)
  refine ao_s (st_aload_n dX12_sum_31 rfl rfl) ?_
  refine ao_getI dX12_sum_32 fl_X12_99 rfl e21 ?_
  refine ao_letI (fun x23 => ?_)
  refine ao_chk (fun e24 => ?_)
  refine ao_bald dX12_sum_35 e24 ?_
  refine ao_s (st_bipush dX12_sum_36 bp_43) ?_
  refine ao_br (br_icmp_ne (tgt := 45) dX12_sum_38 (by decide)) (fun c25 => ?_) (fun c25 => ?_)
  · refine ao_s (st_iconst dX12_sum_41 ic_2) ?_
    refine ao_s (st_goto 46 dX12_sum_42 (by decide)) ?_
    exact t_X12_sum_46 hk9 h a0 2
  · refine ao_s (st_iconst dX12_sum_45 ic_3) ?_
    exact t_X12_sum_46 hk9 h a0 3
def b_X12_sum_9 (k9 : aH → Nat → Option (Int32 × aH)) (h : aH) (a0 : Nat) : Option (Int32 × aH) :=
(if (sh a0).1 = 19 then
(aBind (f_X12_see h a0) fun r22 h23 =>
(if r22 = 43 then
b_X12_sum_27 k9 h23 a0
else
(aBind (f_X12_see h23 a0) fun r24 h25 =>
(if r24 = 45 then
b_X12_sum_27 k9 h25 a0
else
some (1, h25)))))
else none)
set_option maxHeartbeats 2000000 in
theorem t_X12_sum_9 {k9 : aH → Nat → Option (Int32 × aH)} (hk9 : ∀ (h : aH) (a0 : Nat) {z1 : Option Value}, AO eI 7 kX12_sum 9 [some (.ref a0), z1] [] h (k9 h a0)) (h : aH) (a0 : Nat) {z1 : Option Value} : AO eI 7 kX12_sum 9 [some (.ref a0), z1] [] h (b_X12_sum_9 k9 h a0) := by
  unfold b_X12_sum_9
  refine ao_s (st_aload_n dX12_sum_9 rfl rfl) ?_
  refine ao_chk (fun e21 => ?_)
  refine ao_cVi (As := []) (st := []) dX12_sum_10 ml_X12_102 mv_X12_see rfl e21 (by decide) rfl rfl (Nat.le_of_ble_eq_true rfl) (by decide) (s_X12_see h a0) (fun r22 h23 => ?_)
  refine ao_s (st_bipush dX12_sum_13 bp_43) ?_
  refine ao_br (br_icmp_eq (tgt := 27) dX12_sum_15 (by decide)) (fun c27 => ?_) (fun c27 => ?_)
  · exact t_X12_sum_27 hk9 h23 a0
  · refine ao_s (st_aload_n dX12_sum_18 rfl rfl) ?_
    refine ao_cVi (As := []) (st := []) dX12_sum_19 ml_X12_102 mv_X12_see rfl e21 (by decide) rfl rfl (Nat.le_of_ble_eq_true rfl) (by decide) (s_X12_see h23 a0) (fun r24 h25 => ?_)
    refine ao_s (st_bipush dX12_sum_22 bp_45) ?_
    refine ao_br (br_icmp_ne (tgt := 75) dX12_sum_24 (by decide)) (fun c26 => ?_) (fun c26 => ?_)
    · exact t_X12_sum_27 hk9 h25 a0
    · refine ao_s (st_iconst dX12_sum_75 ic_1) ?_
      exact ao_ir dX12_sum_76 rfl (by decide)
def f_X12_sum_9 (n : Nat) : aH → Nat → Option (Int32 × aH) := aIt (fun _ _ => none) (fun k => b_X12_sum_9 k) n
theorem l_X12_sum_9 (n : Nat) : ∀ (h : aH) (a0 : Nat) {z1 : Option Value}, AO eI 7 kX12_sum 9 [some (.ref a0), z1] [] h (f_X12_sum_9 n h a0) := by
  induction n with
  | zero => intros; exact ao_none
  | succ n ih =>
    intro h a0 z1
    exact t_X12_sum_9 ih h a0
def f_X12_sum (h : aH) (a0 : Nat) : Option (Int32 × aH) :=
(if (sh a0).1 = 19 then
(aBind (f_X12_term h a0) fun r22 h23 =>
(if r22 = 0 then
some (0, h23)
else
f_X12_sum_9 2000 h23 a0))
else none)
set_option maxHeartbeats 2000000 in
theorem s_X12_sum (h : aH) (a0 : Nat) : SO eI 7 kX12_sum [.ref a0] h (f_X12_sum h a0) := by
  refine so_of (lv0 := [some (.ref a0), none]) pn_X12 (Nat.le_of_ble_eq_true rfl) rfl ?_
  unfold f_X12_sum
  refine ao_s (st_aload_n dX12_sum_0 rfl rfl) ?_
  refine ao_chk (fun e21 => ?_)
  refine ao_cVi (As := []) (st := []) dX12_sum_1 ml_X12_187 mv_X12_term rfl e21 (by decide) rfl rfl (Nat.le_of_ble_eq_true rfl) (by decide) (s_X12_term h a0) (fun r22 h23 => ?_)
  refine ao_br (br_if_ne (tgt := 9) dX12_sum_4 (by decide)) (fun c24 => ?_) (fun c24 => ?_)
  · refine ao_s (st_iconst dX12_sum_7 ic_0) ?_
    exact ao_ir dX12_sum_8 rfl (by decide)
  · exact l_X12_sum_9 2000 h23 a0
def b_X12_compare_152 (h : aH) (a0 : Nat) (s0 : Int32) : Option (Int32 × aH) :=
(if (sh a0).1 = 19 then
(aBind (f_X12_sum h a0) fun r22 h23 =>
(if r22 = 0 then
some (0, h23)
else
(aBind (f_X12_puts h23 a0 (6 + s0) 0) fun r24 h25 =>
some (1, h25))))
else none)
set_option maxHeartbeats 2000000 in
theorem t_X12_compare_152 (h : aH) (a0 : Nat) (s0 : Int32) {z1 : Option Value} {z2 : Option Value} {z3 : Option Value} {z4 : Option Value} : AO eI 8 kX12_compare 152 [some (.ref a0), z1, z2, z3, z4] [.int s0] h (b_X12_compare_152 h a0 s0) := by
  unfold b_X12_compare_152
  refine ao_s (st_istore (lv' := [some (.ref a0), z1, z2, z3, some (.int s0)]) dX12_compare_152 (by decide) rfl) ?_
  refine ao_s (st_aload_n dX12_compare_154 rfl rfl) ?_
  refine ao_chk (fun e21 => ?_)
  refine ao_cVi (As := []) (st := []) dX12_compare_155 ml_X12_190 mv_X12_sum rfl e21 (by decide) rfl rfl (Nat.le_of_ble_eq_true rfl) (by decide) (s_X12_sum h a0) (fun r22 h23 => ?_)
  refine ao_br (br_if_ne (tgt := 163) dX12_compare_158 (by decide)) (fun c26 => ?_) (fun c26 => ?_)
  · refine ao_s (st_iconst dX12_compare_161 ic_0) ?_
    exact ao_ir dX12_compare_162 rfl (by decide)
  · refine ao_s (st_aload_n dX12_compare_163 rfl rfl) ?_
    refine ao_s (st_bipush dX12_compare_164 bp_6) ?_
    refine ao_s (st_iload dX12_compare_166 rfl) ?_
    refine ao_s (st_iadd dX12_compare_168) ?_
    refine ao_s (st_iconst dX12_compare_169 ic_0) ?_
    refine ao_cVv (As := [.int (6 + s0), .int 0]) (st := []) dX12_compare_170 ml_X12_169 mv_X12_puts rfl e21 (by decide) rfl rfl (Nat.le_of_ble_eq_true rfl) (by decide) (s_X12_puts h23 a0 (6 + s0) 0) (fun r24 h25 => ?_)
    refine ao_s (st_iconst dX12_compare_173 ic_1) ?_
    exact ao_ir dX12_compare_174 rfl (by decide)
def b_X12_compare_105 (h : aH) (a0 : Nat) (x1 : Int32) (x2 : Int32) (x3 : Int32) : Option (Int32 × aH) :=
(if (sh a0).1 = 19 then
(aBind (f_X12_makes h a0 x2) fun r22 h23 =>
(if r22 = 0 then
some (0, h23)
else
(if x1 = 60 then
(if x3 = 0 then
b_X12_compare_152 h23 a0 0
else
b_X12_compare_152 h23 a0 1)
else
(if x1 = 61 then
b_X12_compare_152 h23 a0 2
else
(if x3 = 0 then
b_X12_compare_152 h23 a0 4
else
b_X12_compare_152 h23 a0 3)))))
else none)
set_option maxHeartbeats 2000000 in
theorem t_X12_compare_105 (h : aH) (a0 : Nat) (x1 : Int32) (x2 : Int32) (x3 : Int32) {z4 : Option Value} : AO eI 8 kX12_compare 105 [some (.ref a0), some (.int x1), some (.int x2), some (.int x3), z4] [] h (b_X12_compare_105 h a0 x1 x2 x3) := by
  unfold b_X12_compare_105
  refine ao_s (st_aload_n dX12_compare_105 rfl rfl) ?_
  refine ao_s (st_iload_n dX12_compare_106 rfl rfl) ?_
  refine ao_chk (fun e21 => ?_)
  refine ao_cVi (As := [.int x2]) (st := []) dX12_compare_107 ml_X12_177 mv_X12_makes rfl e21 (by decide) rfl rfl (Nat.le_of_ble_eq_true rfl) (by decide) (s_X12_makes h a0 x2) (fun r22 h23 => ?_)
  refine ao_br (br_if_ne (tgt := 115) dX12_compare_110 (by decide)) (fun c28 => ?_) (fun c28 => ?_)
  · refine ao_s (st_iconst dX12_compare_113 ic_0) ?_
    exact ao_ir dX12_compare_114 rfl (by decide)
  · refine ao_s (st_iload_n dX12_compare_115 rfl rfl) ?_
    refine ao_s (st_bipush dX12_compare_116 bp_60) ?_
    refine ao_br (br_icmp_ne (tgt := 133) dX12_compare_118 (by decide)) (fun c27 => ?_) (fun c27 => ?_)
    · refine ao_s (st_iload_n dX12_compare_121 rfl rfl) ?_
      refine ao_br (br_if_eq (tgt := 129) dX12_compare_122 (by decide)) (fun c24 => ?_) (fun c24 => ?_)
      · refine ao_s (st_iconst dX12_compare_129 ic_0) ?_
        refine ao_s (st_goto 152 dX12_compare_130 (by decide)) ?_
        exact t_X12_compare_152 h23 a0 0
      · refine ao_s (st_iconst dX12_compare_125 ic_1) ?_
        refine ao_s (st_goto 152 dX12_compare_126 (by decide)) ?_
        exact t_X12_compare_152 h23 a0 1
    · refine ao_s (st_iload_n dX12_compare_133 rfl rfl) ?_
      refine ao_s (st_bipush dX12_compare_134 bp_61) ?_
      refine ao_br (br_icmp_ne (tgt := 143) dX12_compare_136 (by decide)) (fun c26 => ?_) (fun c26 => ?_)
      · refine ao_s (st_iconst dX12_compare_139 ic_2) ?_
        refine ao_s (st_goto 152 dX12_compare_140 (by decide)) ?_
        exact t_X12_compare_152 h23 a0 2
      · refine ao_s (st_iload_n dX12_compare_143 rfl rfl) ?_
        refine ao_br (br_if_eq (tgt := 151) dX12_compare_144 (by decide)) (fun c25 => ?_) (fun c25 => ?_)
        · refine ao_s (st_iconst dX12_compare_151 ic_4) ?_
          exact t_X12_compare_152 h23 a0 4
        · refine ao_s (st_iconst dX12_compare_147 ic_3) ?_
          refine ao_s (st_goto 152 dX12_compare_148 (by decide)) ?_
          exact t_X12_compare_152 h23 a0 3
def b_X12_compare_90 (h : aH) (a0 : Nat) (x1 : Int32) (x2 : Int32) (s0 : Int32) : Option (Int32 × aH) :=
(if s0 = 0 then
b_X12_compare_105 h a0 x1 x2 s0
else
(if (sh a0).1 = 19 then
(aLet (pI h a0 8 ((hI h a0 8) + 1)) fun h22 =>
b_X12_compare_105 h22 a0 x1 x2 s0)
else none))
set_option maxHeartbeats 2000000 in
theorem t_X12_compare_90 (h : aH) (a0 : Nat) (x1 : Int32) (x2 : Int32) (s0 : Int32) {z3 : Option Value} {z4 : Option Value} : AO eI 8 kX12_compare 90 [some (.ref a0), some (.int x1), some (.int x2), z3, z4] [.int s0] h (b_X12_compare_90 h a0 x1 x2 s0) := by
  unfold b_X12_compare_90
  refine ao_s (st_istore_n (lv' := [some (.ref a0), some (.int x1), some (.int x2), some (.int s0), z4]) dX12_compare_90 rfl (by decide) rfl) ?_
  refine ao_s (st_iload_n dX12_compare_91 rfl rfl) ?_
  refine ao_br (br_if_eq (tgt := 105) dX12_compare_92 (by decide)) (fun c23 => ?_) (fun c23 => ?_)
  · exact t_X12_compare_105 h a0 x1 x2 s0
  · refine ao_s (st_aload_n dX12_compare_95 rfl rfl) ?_
    refine ao_s (st_dup dX12_compare_96 rfl) ?_
    refine ao_chk (fun e21 => ?_)
    refine ao_getI dX12_compare_97 fl_X12_99 rfl e21 ?_
    refine ao_s (st_iconst dX12_compare_100 ic_1) ?_
    refine ao_s (st_iadd dX12_compare_101) ?_
    refine ao_putI dX12_compare_102 fl_X12_99 rfl rfl rfl rfl e21 ?_
    refine ao_letH (fun h22 => ?_)
    exact t_X12_compare_105 h22 a0 x1 x2 s0
def b_X12_compare_89 (h : aH) (a0 : Nat) (x1 : Int32) (x2 : Int32) : Option (Int32 × aH) :=
b_X12_compare_90 h a0 x1 x2 0
set_option maxHeartbeats 2000000 in
theorem t_X12_compare_89 (h : aH) (a0 : Nat) (x1 : Int32) (x2 : Int32) {z3 : Option Value} {z4 : Option Value} : AO eI 8 kX12_compare 89 [some (.ref a0), some (.int x1), some (.int x2), z3, z4] [] h (b_X12_compare_89 h a0 x1 x2) := by
  unfold b_X12_compare_89
  refine ao_s (st_iconst dX12_compare_89 ic_0) ?_
  exact t_X12_compare_90 h a0 x1 x2 0
def b_X12_compare_44 (h : aH) (a0 : Nat) (x1 : Int32) (x2 : Int32) : Option (Int32 × aH) :=
(if (sh a0).1 = 19 then
(aLet (pI h a0 8 ((hI h a0 8) + 1)) fun h22 =>
(if x1 = 61 then
b_X12_compare_89 h22 a0 x1 x2
else
(if hI h22 a0 1 ≤ hI h22 a0 8 then
b_X12_compare_89 h22 a0 x1 x2
else
((hR h22 a0 0).bind fun b23 =>
(aLet (hI h22 a0 8) fun x24 =>
(if (sh b23).1 = 1 then
(if aIn x24 (sh b23).2 then
(if hI h22 b23 x24.toNatClampNeg = 61 then
b_X12_compare_90 h22 a0 x1 x2 1
else
b_X12_compare_89 h22 a0 x1 x2)
else none)
else none))))))
else none)
set_option maxHeartbeats 2000000 in
theorem t_X12_compare_44 (h : aH) (a0 : Nat) (x1 : Int32) (x2 : Int32) {z3 : Option Value} {z4 : Option Value} : AO eI 8 kX12_compare 44 [some (.ref a0), some (.int x1), some (.int x2), z3, z4] [] h (b_X12_compare_44 h a0 x1 x2) := by
  unfold b_X12_compare_44
  refine ao_s (st_aload_n dX12_compare_44 rfl rfl) ?_
  refine ao_s (st_dup dX12_compare_45 rfl) ?_
  refine ao_chk (fun e21 => ?_)
  refine ao_getI dX12_compare_46 fl_X12_99 rfl e21 ?_
  refine ao_s (st_iconst dX12_compare_49 ic_1) ?_
  refine ao_s (st_iadd dX12_compare_50) ?_
  refine ao_putI dX12_compare_51 fl_X12_99 rfl rfl rfl rfl e21 ?_
  refine ao_letH (fun h22 => ?_)
  refine ao_s (st_iload_n dX12_compare_54 rfl rfl) ?_
  refine ao_s (st_bipush dX12_compare_55 bp_61) ?_
  refine ao_br (br_icmp_eq (tgt := 89) dX12_compare_57 (by decide)) (fun c28 => ?_) (fun c28 => ?_)
  · exact t_X12_compare_89 h22 a0 x1 x2
  · refine ao_s (st_aload_n dX12_compare_60 rfl rfl) ?_
    refine ao_getI dX12_compare_61 fl_X12_99 rfl e21 ?_
    refine ao_s (st_aload_n dX12_compare_64 rfl rfl) ?_
    refine ao_getI dX12_compare_65 fl_X12_89 rfl e21 ?_
    refine ao_br (br_icmp_ge (tgt := 89) dX12_compare_68 (by decide)) (fun c27 => ?_) (fun c27 => ?_)
    · exact t_X12_compare_89 h22 a0 x1 x2
    · refine ao_s (st_aload_n dX12_compare_71 rfl rfl) ?_
      refine ao_getR dX12_compare_72 fl_X12_7 rfl e21 (fun b23 => ?_)
      refine ao_s (st_aload_n dX12_compare_75 rfl rfl) ?_
      refine ao_getI dX12_compare_76 fl_X12_99 rfl e21 ?_
      refine ao_letI (fun x24 => ?_)
      refine ao_chk (fun e25 => ?_)
      refine ao_bald dX12_compare_79 e25 ?_
      refine ao_s (st_bipush dX12_compare_80 bp_61) ?_
      refine ao_br (br_icmp_ne (tgt := 89) dX12_compare_82 (by decide)) (fun c26 => ?_) (fun c26 => ?_)
      · refine ao_s (st_iconst dX12_compare_85 ic_1) ?_
        refine ao_s (st_goto 90 dX12_compare_86 (by decide)) ?_
        exact t_X12_compare_90 h22 a0 x1 x2 1
      · exact t_X12_compare_89 h22 a0 x1 x2
def f_X12_compare (h : aH) (a0 : Nat) : Option (Int32 × aH) :=
(if (sh a0).1 = 19 then
(aBind (f_X12_sum h a0) fun r22 h23 =>
(if r22 = 0 then
some (0, h23)
else
(aBind (f_X12_see h23 a0) fun r24 h25 =>
(aLet (hI h25 a0 8) fun x26 =>
(if r24 = 60 then
b_X12_compare_44 h25 a0 r24 x26
else
(if r24 = 61 then
b_X12_compare_44 h25 a0 r24 x26
else
(if r24 = 62 then
b_X12_compare_44 h25 a0 r24 x26
else
(aBind (f_X12_fails h25 a0 0 x26) fun r27 h28 =>
(if r27 = 0 ∨ r27 = 1 then some (r27, h28) else none)))))))))
else none)
set_option maxHeartbeats 2000000 in
theorem s_X12_compare (h : aH) (a0 : Nat) : SO eI 8 kX12_compare [.ref a0] h (f_X12_compare h a0) := by
  refine so_of (lv0 := [some (.ref a0), none, none, none, none]) pn_X12 (Nat.le_of_ble_eq_true rfl) rfl ?_
  unfold f_X12_compare
  refine ao_s (st_aload_n dX12_compare_0 rfl rfl) ?_
  refine ao_chk (fun e21 => ?_)
  refine ao_cVi (As := []) (st := []) dX12_compare_1 ml_X12_190 mv_X12_sum rfl e21 (by decide) rfl rfl (Nat.le_of_ble_eq_true rfl) (by decide) (s_X12_sum h a0) (fun r22 h23 => ?_)
  refine ao_br (br_if_ne (tgt := 9) dX12_compare_4 (by decide)) (fun c33 => ?_) (fun c33 => ?_)
  · refine ao_s (st_iconst dX12_compare_7 ic_0) ?_
    exact ao_ir dX12_compare_8 rfl (by decide)
  · refine ao_s (st_aload_n dX12_compare_9 rfl rfl) ?_
    refine ao_cVi (As := []) (st := []) dX12_compare_10 ml_X12_102 mv_X12_see rfl e21 (by decide) rfl rfl (Nat.le_of_ble_eq_true rfl) (by decide) (s_X12_see h23 a0) (fun r24 h25 => ?_)
    refine ao_s (st_istore_n (lv' := [some (.ref a0), some (.int r24), none, none, none]) dX12_compare_13 rfl (by decide) rfl) ?_
    refine ao_s (st_aload_n dX12_compare_14 rfl rfl) ?_
    refine ao_getI dX12_compare_15 fl_X12_99 rfl e21 ?_
    refine ao_letI (fun x26 => ?_)
    refine ao_s (st_istore_n (lv' := [some (.ref a0), some (.int r24), some (.int x26), none, none]) dX12_compare_18 rfl (by decide) rfl) ?_
    refine ao_s (st_iload_n dX12_compare_19 rfl rfl) ?_
    refine ao_s (st_bipush dX12_compare_20 bp_60) ?_
    refine ao_br (br_icmp_eq (tgt := 44) dX12_compare_22 (by decide)) (fun c32 => ?_) (fun c32 => ?_)
    · exact t_X12_compare_44 h25 a0 r24 x26
    · refine ao_s (st_iload_n dX12_compare_25 rfl rfl) ?_
      refine ao_s (st_bipush dX12_compare_26 bp_61) ?_
      refine ao_br (br_icmp_eq (tgt := 44) dX12_compare_28 (by decide)) (fun c31 => ?_) (fun c31 => ?_)
      · exact t_X12_compare_44 h25 a0 r24 x26
      · refine ao_s (st_iload_n dX12_compare_31 rfl rfl) ?_
        refine ao_s (st_bipush dX12_compare_32 bp_62) ?_
        refine ao_br (br_icmp_eq (tgt := 44) dX12_compare_34 (by decide)) (fun c30 => ?_) (fun c30 => ?_)
        · exact t_X12_compare_44 h25 a0 r24 x26
        · refine ao_s (st_aload_n dX12_compare_37 rfl rfl) ?_
          refine ao_s (st_iconst dX12_compare_38 ic_0) ?_
          refine ao_s (st_iload_n dX12_compare_39 rfl rfl) ?_
          refine ao_cVi (As := [.int 0, .int x26]) (st := []) dX12_compare_40 ml_X12_120 mv_X12_fails rfl e21 (by decide) rfl rfl (Nat.le_of_ble_eq_true rfl) (by decide) (s_X12_fails h25 a0 0 x26) (fun r27 h28 => ?_)
          refine ao_chk (fun c29 => ?_)
          exact ao_ir dX12_compare_43 rfl (nz c29).1
def b_X12_fact_72 (k2 : aH → Nat → Int32 → Option (Int32 × aH)) (h : aH) (a0 : Nat) (x1 : Int32) : Option (Int32 × aH) :=
k2 h a0 x1
set_option maxHeartbeats 2000000 in
theorem t_X12_fact_72 {k2 : aH → Nat → Int32 → Option (Int32 × aH)} (hk2 : ∀ (h : aH) (a0 : Nat) (x1 : Int32) {z2 : Option Value}, AO eI 9 kX12_fact 2 [some (.ref a0), some (.int x1), z2] [] h (k2 h a0 x1)) (h : aH) (a0 : Nat) (x1 : Int32) {z2 : Option Value} : AO eI 9 kX12_fact 72 [some (.ref a0), some (.int x1), z2] [] h (b_X12_fact_72 k2 h a0 x1) := by
  unfold b_X12_fact_72
  refine ao_s (st_goto 2 dX12_fact_72 (by decide)) ?_
  exact hk2 h a0 x1
def b_X12_fact_2 (k2 : aH → Nat → Int32 → Option (Int32 × aH)) (h : aH) (a0 : Nat) (x1 : Int32) : Option (Int32 × aH) :=
(if x1 = 0 then
(if (sh a0).1 = 19 then
(aBind (f_X12_compare h a0) fun r22 h23 =>
(if r22 = 0 ∨ r22 = 1 then some (r22, h23) else none))
else none)
else
(if (sh a0).1 = 19 then
(aBind (f_X12_see h a0) fun r26 h27 =>
(aBind (f_X12_isWord h27 a0 7237492) fun r28 h29 =>
(if r28 = 0 then
(if r26 = 91 then
(aBind (f_X12_opens h29 a0 91) fun r30 h31 =>
(if r30 = 0 then
some (0, h31)
else
(aLet (pI h31 a0 8 ((hI h31 a0 8) + 1)) fun h32 =>
b_X12_fact_72 k2 h32 a0 1)))
else
b_X12_fact_72 k2 h29 a0 0)
else
(aBind (f_X12_opens h29 a0 11) fun r35 h36 =>
(if r35 = 0 then
some (0, h36)
else
(aBind (f_X12_passWord h36 a0) fun r37 h38 =>
b_X12_fact_72 k2 h38 a0 1))))))
else none))
set_option maxHeartbeats 2000000 in
theorem t_X12_fact_2 {k2 : aH → Nat → Int32 → Option (Int32 × aH)} (hk2 : ∀ (h : aH) (a0 : Nat) (x1 : Int32) {z2 : Option Value}, AO eI 9 kX12_fact 2 [some (.ref a0), some (.int x1), z2] [] h (k2 h a0 x1)) (h : aH) (a0 : Nat) (x1 : Int32) {z2 : Option Value} : AO eI 9 kX12_fact 2 [some (.ref a0), some (.int x1), z2] [] h (b_X12_fact_2 k2 h a0 x1) := by
  unfold b_X12_fact_2
  refine ao_s (st_iload_n dX12_fact_2 rfl rfl) ?_
  refine ao_br (br_if_eq (tgt := 75) dX12_fact_3 (by decide)) (fun c41 => ?_) (fun c41 => ?_)
  · refine ao_s (st_aload_n dX12_fact_75 rfl rfl) ?_
    refine ao_chk (fun e21 => ?_)
    refine ao_cVi (As := []) (st := []) dX12_fact_76 ml_X12_198 mv_X12_compare rfl e21 (by decide) rfl rfl (Nat.le_of_ble_eq_true rfl) (by decide) (s_X12_compare h a0) (fun r22 h23 => ?_)
    refine ao_chk (fun c24 => ?_)
    exact ao_ir dX12_fact_79 rfl (nz c24).1
  · refine ao_s (st_iconst dX12_fact_6 ic_0) ?_
    refine ao_s (st_istore_n (lv' := [some (.ref a0), some (.int 0), z2]) dX12_fact_7 rfl (by decide) rfl) ?_
    refine ao_s (st_aload_n dX12_fact_8 rfl rfl) ?_
    refine ao_chk (fun e25 => ?_)
    refine ao_cVi (As := []) (st := []) dX12_fact_9 ml_X12_102 mv_X12_see rfl e25 (by decide) rfl rfl (Nat.le_of_ble_eq_true rfl) (by decide) (s_X12_see h a0) (fun r26 h27 => ?_)
    refine ao_s (st_istore_n (lv' := [some (.ref a0), some (.int 0), some (.int r26)]) dX12_fact_12 rfl (by decide) rfl) ?_
    refine ao_s (st_aload_n dX12_fact_13 rfl rfl) ?_
    refine ao_s (st_ldc2 dX12_fact_14 cl_X12_193) ?_
    refine ao_cVi (As := [.long 7237492]) (st := []) dX12_fact_17 ml_X12_110 mv_X12_isWord rfl e25 (by decide) rfl rfl (Nat.le_of_ble_eq_true rfl) (by decide) (s_X12_isWord h27 a0 7237492) (fun r28 h29 => ?_)
    refine ao_br (br_if_eq (tgt := 43) dX12_fact_20 (by decide)) (fun c40 => ?_) (fun c40 => ?_)
    · refine ao_s (st_iload_n dX12_fact_43 rfl rfl) ?_
      refine ao_s (st_bipush dX12_fact_44 bp_91) ?_
      refine ao_br (br_icmp_ne (tgt := 72) dX12_fact_46 (by decide)) (fun c34 => ?_) (fun c34 => ?_)
      · refine ao_s (st_aload_n dX12_fact_49 rfl rfl) ?_
        refine ao_s (st_bipush dX12_fact_50 bp_91) ?_
        refine ao_cVi (As := [.int 91]) (st := []) dX12_fact_52 ml_X12_195 mv_X12_opens rfl e25 (by decide) rfl rfl (Nat.le_of_ble_eq_true rfl) (by decide) (s_X12_opens h29 a0 91) (fun r30 h31 => ?_)
        refine ao_br (br_if_ne (tgt := 60) dX12_fact_55 (by decide)) (fun c33 => ?_) (fun c33 => ?_)
        · refine ao_s (st_iconst dX12_fact_58 ic_0) ?_
          exact ao_ir dX12_fact_59 rfl (by decide)
        · refine ao_s (st_aload_n dX12_fact_60 rfl rfl) ?_
          refine ao_s (st_dup dX12_fact_61 rfl) ?_
          refine ao_getI dX12_fact_62 fl_X12_99 rfl e25 ?_
          refine ao_s (st_iconst dX12_fact_65 ic_1) ?_
          refine ao_s (st_iadd dX12_fact_66) ?_
          refine ao_putI dX12_fact_67 fl_X12_99 rfl rfl rfl rfl e25 ?_
          refine ao_letH (fun h32 => ?_)
          refine ao_s (st_iconst dX12_fact_70 ic_1) ?_
          refine ao_s (st_istore_n (lv' := [some (.ref a0), some (.int 1), some (.int r26)]) dX12_fact_71 rfl (by decide) rfl) ?_
          exact t_X12_fact_72 hk2 h32 a0 1
      · exact t_X12_fact_72 hk2 h29 a0 0
    · refine ao_s (st_aload_n dX12_fact_23 rfl rfl) ?_
      refine ao_s (st_bipush dX12_fact_24 bp_11) ?_
      refine ao_cVi (As := [.int 11]) (st := []) dX12_fact_26 ml_X12_195 mv_X12_opens rfl e25 (by decide) rfl rfl (Nat.le_of_ble_eq_true rfl) (by decide) (s_X12_opens h29 a0 11) (fun r35 h36 => ?_)
      refine ao_br (br_if_ne (tgt := 34) dX12_fact_29 (by decide)) (fun c39 => ?_) (fun c39 => ?_)
      · refine ao_s (st_iconst dX12_fact_32 ic_0) ?_
        exact ao_ir dX12_fact_33 rfl (by decide)
      · refine ao_s (st_aload_n dX12_fact_34 rfl rfl) ?_
        refine ao_cVv (As := []) (st := []) dX12_fact_35 ml_X12_114 mv_X12_passWord rfl e25 (by decide) rfl rfl (Nat.le_of_ble_eq_true rfl) (by decide) (s_X12_passWord h36 a0) (fun r37 h38 => ?_)
        refine ao_s (st_iconst dX12_fact_38 ic_1) ?_
        refine ao_s (st_istore_n (lv' := [some (.ref a0), some (.int 1), some (.int r26)]) dX12_fact_39 rfl (by decide) rfl) ?_
        refine ao_s (st_goto 72 dX12_fact_40 (by decide)) ?_
        exact t_X12_fact_72 hk2 h38 a0 1
def f_X12_fact_2 (n : Nat) : aH → Nat → Int32 → Option (Int32 × aH) := aIt (fun _ _ _ => none) (fun k => b_X12_fact_2 k) n
theorem l_X12_fact_2 (n : Nat) : ∀ (h : aH) (a0 : Nat) (x1 : Int32) {z2 : Option Value}, AO eI 9 kX12_fact 2 [some (.ref a0), some (.int x1), z2] [] h (f_X12_fact_2 n h a0 x1) := by
  induction n with
  | zero => intros; exact ao_none
  | succ n ih =>
    intro h a0 x1 z2
    exact t_X12_fact_2 ih h a0 x1
def f_X12_fact (h : aH) (a0 : Nat) : Option (Int32 × aH) :=
f_X12_fact_2 2000 h a0 1
set_option maxHeartbeats 2000000 in
theorem s_X12_fact (h : aH) (a0 : Nat) : SO eI 9 kX12_fact [.ref a0] h (f_X12_fact h a0) := by
  refine so_of (lv0 := [some (.ref a0), none, none]) pn_X12 (Nat.le_of_ble_eq_true rfl) rfl ?_
  unfold f_X12_fact
  refine ao_s (st_iconst dX12_fact_0 ic_1) ?_
  refine ao_s (st_istore_n (lv' := [some (.ref a0), some (.int 1), none]) dX12_fact_1 rfl (by decide) rfl) ?_
  exact l_X12_fact_2 2000 h a0 1
def b_X12_isInside_2 (k2 : aH → Nat → Int32 → Option (Int32 × aH)) (h : aH) (a0 : Nat) (x1 : Int32) : Option (Int32 × aH) :=
(if (sh a0).1 = 19 then
(if hI h a0 16 ≤ x1 then
some (0, h)
else
((hR h a0 15).bind fun b22 =>
(if (sh b22).1 = 0 then
(if aIn x1 (sh b22).2 then
(if hI h b22 x1.toNatClampNeg = 91 then
some (1, h)
else
k2 h a0 (x1 + 1))
else none)
else none)))
else none)
set_option maxHeartbeats 2000000 in
theorem t_X12_isInside_2 {k2 : aH → Nat → Int32 → Option (Int32 × aH)} (hk2 : ∀ (h : aH) (a0 : Nat) (x1 : Int32), AO eI 2 kX12_isInside 2 [some (.ref a0), some (.int x1)] [] h (k2 h a0 x1)) (h : aH) (a0 : Nat) (x1 : Int32) : AO eI 2 kX12_isInside 2 [some (.ref a0), some (.int x1)] [] h (b_X12_isInside_2 k2 h a0 x1) := by
  unfold b_X12_isInside_2
  refine ao_s (st_iload_n dX12_isInside_2 rfl rfl) ?_
  refine ao_s (st_aload_n dX12_isInside_3 rfl rfl) ?_
  refine ao_chk (fun e21 => ?_)
  refine ao_getI dX12_isInside_4 fl_X12_162 rfl e21 ?_
  refine ao_br (br_icmp_ge (tgt := 29) dX12_isInside_7 (by decide)) (fun c25 => ?_) (fun c25 => ?_)
  · refine ao_s (st_iconst dX12_isInside_29 ic_0) ?_
    exact ao_ir dX12_isInside_30 rfl (by decide)
  · refine ao_s (st_aload_n dX12_isInside_10 rfl rfl) ?_
    refine ao_getR dX12_isInside_11 fl_X12_29 rfl e21 (fun b22 => ?_)
    refine ao_s (st_iload_n dX12_isInside_14 rfl rfl) ?_
    refine ao_chk (fun e23 => ?_)
    refine ao_iald dX12_isInside_15 e23 ?_
    refine ao_s (st_bipush dX12_isInside_16 bp_91) ?_
    refine ao_br (br_icmp_ne (tgt := 23) dX12_isInside_18 (by decide)) (fun c24 => ?_) (fun c24 => ?_)
    · refine ao_s (st_iconst dX12_isInside_21 ic_1) ?_
      exact ao_ir dX12_isInside_22 rfl (by decide)
    · refine ao_s (st_iinc (lv' := [some (.ref a0), some (.int (x1 + 1))]) dX12_isInside_23 rfl nc_1 (by decide) rfl) ?_
      refine ao_s (st_goto 2 dX12_isInside_26 (by decide)) ?_
      exact hk2 h a0 (x1 + 1)
def f_X12_isInside_2 (n : Nat) : aH → Nat → Int32 → Option (Int32 × aH) := aIt (fun _ _ _ => none) (fun k => b_X12_isInside_2 k) n
theorem l_X12_isInside_2 (n : Nat) : ∀ (h : aH) (a0 : Nat) (x1 : Int32), AO eI 2 kX12_isInside 2 [some (.ref a0), some (.int x1)] [] h (f_X12_isInside_2 n h a0 x1) := by
  induction n with
  | zero => intros; exact ao_none
  | succ n ih =>
    intro h a0 x1
    exact t_X12_isInside_2 ih h a0 x1
def f_X12_isInside (h : aH) (a0 : Nat) : Option (Int32 × aH) :=
f_X12_isInside_2 2000 h a0 0
set_option maxHeartbeats 2000000 in
theorem s_X12_isInside (h : aH) (a0 : Nat) : SO eI 2 kX12_isInside [.ref a0] h (f_X12_isInside h a0) := by
  refine so_of (lv0 := [some (.ref a0), none]) pn_X12 (Nat.le_of_ble_eq_true rfl) rfl ?_
  unfold f_X12_isInside
  refine ao_s (st_iconst dX12_isInside_0 ic_0) ?_
  refine ao_s (st_istore_n (lv' := [some (.ref a0), some (.int 0)]) dX12_isInside_1 rfl (by decide) rfl) ?_
  exact l_X12_isInside_2 2000 h a0 0
def b_X12_closes_5 (k5 : aH → Nat → Option (Unit × aH)) (h : aH) (a0 : Nat) : Option (Unit × aH) :=
(if (sh a0).1 = 19 then
(aBind (f_X12_see h a0) fun r22 h23 =>
(if r22 = 93 then
(aBind (f_X12_isInside h23 a0) fun r24 h25 =>
(if r24 = 0 then
some ((), h25)
else
(aBind (f_X12_settles h25 a0 1) fun r26 h27 =>
(aLet (pI h27 a0 16 ((hI h27 a0 16) - 1)) fun h28 =>
(aLet (pI h28 a0 13 ((hI h28 a0 13) - 1)) fun h29 =>
(aLet (pI h29 a0 8 ((hI h29 a0 8) + 1)) fun h30 =>
(aBind (f_X12_settles h30 a0 3) fun r31 h32 =>
k5 h32 a0)))))))
else
some ((), h23)))
else none)
set_option maxHeartbeats 2000000 in
theorem t_X12_closes_5 {k5 : aH → Nat → Option (Unit × aH)} (hk5 : ∀ (h : aH) (a0 : Nat), AO eV 4 kX12_closes 5 [some (.ref a0)] [] h (k5 h a0)) (h : aH) (a0 : Nat) : AO eV 4 kX12_closes 5 [some (.ref a0)] [] h (b_X12_closes_5 k5 h a0) := by
  unfold b_X12_closes_5
  refine ao_s (st_aload_n dX12_closes_5 rfl rfl) ?_
  refine ao_chk (fun e21 => ?_)
  refine ao_cVi (As := []) (st := []) dX12_closes_6 ml_X12_102 mv_X12_see rfl e21 (by decide) rfl rfl (Nat.le_of_ble_eq_true rfl) (by decide) (s_X12_see h a0) (fun r22 h23 => ?_)
  refine ao_s (st_bipush dX12_closes_9 bp_93) ?_
  refine ao_br (br_icmp_ne (tgt := 64) dX12_closes_11 (by decide)) (fun c34 => ?_) (fun c34 => ?_)
  · refine ao_s (st_aload_n dX12_closes_14 rfl rfl) ?_
    refine ao_cVi (As := []) (st := []) dX12_closes_15 ml_X12_204 mv_X12_isInside rfl e21 (by decide) rfl rfl (Nat.le_of_ble_eq_true rfl) (by decide) (s_X12_isInside h23 a0) (fun r24 h25 => ?_)
    refine ao_br (br_if_eq (tgt := 64) dX12_closes_18 (by decide)) (fun c33 => ?_) (fun c33 => ?_)
    · exact ao_vr dX12_closes_64 rfl
    · refine ao_s (st_aload_n dX12_closes_21 rfl rfl) ?_
      refine ao_s (st_iconst dX12_closes_22 ic_1) ?_
      refine ao_cVv (As := [.int 1]) (st := []) dX12_closes_23 ml_X12_201 mv_X12_settles rfl e21 (by decide) rfl rfl (Nat.le_of_ble_eq_true rfl) (by decide) (s_X12_settles h25 a0 1) (fun r26 h27 => ?_)
      refine ao_s (st_aload_n dX12_closes_26 rfl rfl) ?_
      refine ao_s (st_dup dX12_closes_27 rfl) ?_
      refine ao_getI dX12_closes_28 fl_X12_162 rfl e21 ?_
      refine ao_s (st_iconst dX12_closes_31 ic_1) ?_
      refine ao_s (st_isub dX12_closes_32) ?_
      refine ao_putI dX12_closes_33 fl_X12_162 rfl rfl rfl rfl e21 ?_
      refine ao_letH (fun h28 => ?_)
      refine ao_s (st_aload_n dX12_closes_36 rfl rfl) ?_
      refine ao_s (st_dup dX12_closes_37 rfl) ?_
      refine ao_getI dX12_closes_38 fl_X12_159 rfl e21 ?_
      refine ao_s (st_iconst dX12_closes_41 ic_1) ?_
      refine ao_s (st_isub dX12_closes_42) ?_
      refine ao_putI dX12_closes_43 fl_X12_159 rfl rfl rfl rfl e21 ?_
      refine ao_letH (fun h29 => ?_)
      refine ao_s (st_aload_n dX12_closes_46 rfl rfl) ?_
      refine ao_s (st_dup dX12_closes_47 rfl) ?_
      refine ao_getI dX12_closes_48 fl_X12_99 rfl e21 ?_
      refine ao_s (st_iconst dX12_closes_51 ic_1) ?_
      refine ao_s (st_iadd dX12_closes_52) ?_
      refine ao_putI dX12_closes_53 fl_X12_99 rfl rfl rfl rfl e21 ?_
      refine ao_letH (fun h30 => ?_)
      refine ao_s (st_aload_n dX12_closes_56 rfl rfl) ?_
      refine ao_s (st_iconst dX12_closes_57 ic_3) ?_
      refine ao_cVv (As := [.int 3]) (st := []) dX12_closes_58 ml_X12_201 mv_X12_settles rfl e21 (by decide) rfl rfl (Nat.le_of_ble_eq_true rfl) (by decide) (s_X12_settles h30 a0 3) (fun r31 h32 => ?_)
      refine ao_s (st_goto 5 dX12_closes_61 (by decide)) ?_
      exact hk5 h32 a0
  · exact ao_vr dX12_closes_64 rfl
def f_X12_closes_5 (n : Nat) : aH → Nat → Option (Unit × aH) := aIt (fun _ _ => none) (fun k => b_X12_closes_5 k) n
theorem l_X12_closes_5 (n : Nat) : ∀ (h : aH) (a0 : Nat), AO eV 4 kX12_closes 5 [some (.ref a0)] [] h (f_X12_closes_5 n h a0) := by
  induction n with
  | zero => intros; exact ao_none
  | succ n ih =>
    intro h a0
    exact t_X12_closes_5 ih h a0
def f_X12_closes (h : aH) (a0 : Nat) : Option (Unit × aH) :=
(if (sh a0).1 = 19 then
(aBind (f_X12_settles h a0 3) fun r22 h23 =>
f_X12_closes_5 2000 h23 a0)
else none)
set_option maxHeartbeats 2000000 in
theorem s_X12_closes (h : aH) (a0 : Nat) : SO eV 4 kX12_closes [.ref a0] h (f_X12_closes h a0) := by
  refine so_of (lv0 := [some (.ref a0)]) pn_X12 (Nat.le_of_ble_eq_true rfl) rfl ?_
  unfold f_X12_closes
  refine ao_s (st_aload_n dX12_closes_0 rfl rfl) ?_
  refine ao_s (st_iconst dX12_closes_1 ic_3) ?_
  refine ao_chk (fun e21 => ?_)
  refine ao_cVv (As := [.int 3]) (st := []) dX12_closes_2 ml_X12_201 mv_X12_settles rfl e21 (by decide) rfl rfl (Nat.le_of_ble_eq_true rfl) (by decide) (s_X12_settles h a0 3) (fun r22 h23 => ?_)
  exact l_X12_closes_5 2000 h23 a0
