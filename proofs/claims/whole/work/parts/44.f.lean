def b_X12_settled_103 (k32 : aH → Nat → Int32 → Int32 → Int32 → Int32 → Int32 → Option (Int32 × aH)) (h : aH) (a0 : Nat) (x1 : Int32) (x2 : Int32) (x3 : Int32) (x4 : Int32) (x5 : Int32) : Option (Int32 × aH) :=
k32 h a0 x1 x2 x3 x4 (x5 + 1)
set_option maxHeartbeats 2000000 in
theorem t_X12_settled_103 {k32 : aH → Nat → Int32 → Int32 → Int32 → Int32 → Int32 → Option (Int32 × aH)} (hk32 : ∀ (h : aH) (a0 : Nat) (x1 : Int32) (x2 : Int32) (x3 : Int32) (x4 : Int32) (x5 : Int32), AO eI 8 kX12_settled 32 [some (.ref a0), some (.int x1), some (.int x2), some (.int x3), some (.int x4), some (.int x5)] [] h (k32 h a0 x1 x2 x3 x4 x5)) (h : aH) (a0 : Nat) (x1 : Int32) (x2 : Int32) (x3 : Int32) (x4 : Int32) (x5 : Int32) : AO eI 8 kX12_settled 103 [some (.ref a0), some (.int x1), some (.int x2), some (.int x3), some (.int x4), some (.int x5)] [] h (b_X12_settled_103 k32 h a0 x1 x2 x3 x4 x5) := by
  unfold b_X12_settled_103
  refine ao_s (st_iinc (lv' := [some (.ref a0), some (.int x1), some (.int x2), some (.int x3), some (.int x4), some (.int (x5 + 1))]) dX12_settled_103 rfl nc_1 (by decide) rfl) ?_
  refine ao_s (st_goto 32 dX12_settled_106 (by decide)) ?_
  exact ao_w (sb_s (sb_s (sb_s (sb_s (sb_s (sb_s sb_0)))))) (hk32 h a0 x1 x2 x3 x4 (x5 + 1))
def b_X12_settled_101 (k32 : aH → Nat → Int32 → Int32 → Int32 → Int32 → Int32 → Option (Int32 × aH)) (h : aH) (a0 : Nat) (x1 : Int32) (x2 : Int32) (x3 : Int32) (x5 : Int32) (s0 : Int32) : Option (Int32 × aH) :=
b_X12_settled_103 k32 h a0 x1 x2 x3 s0 x5
set_option maxHeartbeats 2000000 in
theorem t_X12_settled_101 {k32 : aH → Nat → Int32 → Int32 → Int32 → Int32 → Int32 → Option (Int32 × aH)} (hk32 : ∀ (h : aH) (a0 : Nat) (x1 : Int32) (x2 : Int32) (x3 : Int32) (x4 : Int32) (x5 : Int32), AO eI 8 kX12_settled 32 [some (.ref a0), some (.int x1), some (.int x2), some (.int x3), some (.int x4), some (.int x5)] [] h (k32 h a0 x1 x2 x3 x4 x5)) (h : aH) (a0 : Nat) (x1 : Int32) (x2 : Int32) (x3 : Int32) (x5 : Int32) (s0 : Int32) : AO eI 8 kX12_settled 101 [some (.ref a0), some (.int x1), some (.int x2), some (.int x3), none, some (.int x5)] [.int s0] h (b_X12_settled_101 k32 h a0 x1 x2 x3 x5 s0) := by
  unfold b_X12_settled_101
  refine ao_s (st_istore (lv' := [some (.ref a0), some (.int x1), some (.int x2), some (.int x3), some (.int s0), some (.int x5)]) dX12_settled_101 (by decide) rfl) ?_
  exact ao_w (sb_s (sb_s (sb_s (sb_s (sb_s (sb_s sb_0)))))) (t_X12_settled_103 hk32 h a0 x1 x2 x3 s0 x5)
def b_X12_settled_80 (k32 : aH → Nat → Int32 → Int32 → Int32 → Int32 → Int32 → Option (Int32 × aH)) (h : aH) (a0 : Nat) (x1 : Int32) (x2 : Int32) (x3 : Int32) (x4 : Int32) (x5 : Int32) : Option (Int32 × aH) :=
(if (sh a0).1 = 19 then
(aBind (f_X12_likedInRow h a0) fun r22 h23 =>
(if r22 ≤ x4 then
b_X12_settled_101 k32 h23 a0 x1 (x2 + 1) x3 x5 x4
else
(aBind (f_X12_likedInRow h23 a0) fun r24 h25 =>
b_X12_settled_101 k32 h25 a0 x1 (x2 + 1) x3 x5 r24)))
else none)
set_option maxHeartbeats 2000000 in
theorem t_X12_settled_80 {k32 : aH → Nat → Int32 → Int32 → Int32 → Int32 → Int32 → Option (Int32 × aH)} (hk32 : ∀ (h : aH) (a0 : Nat) (x1 : Int32) (x2 : Int32) (x3 : Int32) (x4 : Int32) (x5 : Int32), AO eI 8 kX12_settled 32 [some (.ref a0), some (.int x1), some (.int x2), some (.int x3), some (.int x4), some (.int x5)] [] h (k32 h a0 x1 x2 x3 x4 x5)) (h : aH) (a0 : Nat) (x1 : Int32) (x2 : Int32) (x3 : Int32) (x4 : Int32) (x5 : Int32) : AO eI 8 kX12_settled 80 [some (.ref a0), some (.int x1), some (.int x2), some (.int x3), some (.int x4), some (.int x5)] [] h (b_X12_settled_80 k32 h a0 x1 x2 x3 x4 x5) := by
  unfold b_X12_settled_80
  refine ao_s (st_iinc (lv' := [some (.ref a0), some (.int x1), some (.int (x2 + 1)), some (.int x3), some (.int x4), some (.int x5)]) dX12_settled_80 rfl nc_1 (by decide) rfl) ?_
  refine ao_s (st_aload_n dX12_settled_83 rfl rfl) ?_
  refine ao_chk (fun e21 => ?_)
  refine ao_cVi (Kc := kX12_likedInRow) (As := []) (st := []) dX12_settled_84 ml_X12_414 mv_X12_likedInRow rfl e21 (by decide) rfl rfl (Nat.le_of_ble_eq_true rfl) (by decide) (s_X12_likedInRow h a0) (fun r22 h23 => ?_)
  refine ao_s (st_iload dX12_settled_87 rfl) ?_
  refine ao_br (br_icmp_le (tgt := 99) dX12_settled_89 (by decide)) (fun c26 => ?_) (fun c26 => ?_)
  · refine ao_s (st_iload dX12_settled_99 rfl) ?_
    exact ao_w (sb_s (sb_s (sb_s (sb_s (sb_n (sb_s sb_0)))))) (t_X12_settled_101 hk32 h23 a0 x1 (x2 + 1) x3 x5 x4)
  · refine ao_s (st_aload_n dX12_settled_92 rfl rfl) ?_
    refine ao_cVi (Kc := kX12_likedInRow) (As := []) (st := []) dX12_settled_93 ml_X12_414 mv_X12_likedInRow rfl e21 (by decide) rfl rfl (Nat.le_of_ble_eq_true rfl) (by decide) (s_X12_likedInRow h23 a0) (fun r24 h25 => ?_)
    refine ao_s (st_goto 101 dX12_settled_96 (by decide)) ?_
    exact ao_w (sb_s (sb_s (sb_s (sb_s (sb_n (sb_s sb_0)))))) (t_X12_settled_101 hk32 h25 a0 x1 (x2 + 1) x3 x5 r24)
def b_X12_settled_32 (k32 : aH → Nat → Int32 → Int32 → Int32 → Int32 → Int32 → Option (Int32 × aH)) (h : aH) (a0 : Nat) (x1 : Int32) (x2 : Int32) (x3 : Int32) (x4 : Int32) (x5 : Int32) : Option (Int32 × aH) :=
(if (sh a0).1 = 19 then
((hR h a0 20).bind fun b22 =>
(if (sh b22).1 = 0 then
(if aIn 4 (sh b22).2 then
((hR h a0 20).bind fun b24 =>
(if (sh b24).1 = 0 then
(if aIn 3 (sh b24).2 then
(aBind (f_X12_power h ((hI h b22 (4 : Int32).toNatClampNeg) + 1) (hI h b24 (3 : Int32).toNatClampNeg)) fun r26 h27 =>
(if r26 ≤ x5 then
(if x1 = 0 then
some (x2, h27)
else
(if x1 = 5 then
some (x4, h27)
else
((hR h27 a0 20).bind fun b28 =>
(if (sh b28).1 = 0 then
(if aIn 3 (sh b28).2 then
(if hI h27 b28 (3 : Int32).toNatClampNeg < x1 then
some ((-2), h27)
else
(aBind (f_X12_isFree h27 a0 0 (x1 - 1)) fun r30 h31 =>
(if r30 = 0 then
some ((-2), h31)
else
(aBind (f_X12_isRow h31 a0 x3) fun r32 h33 =>
((hR h33 a0 31).bind fun b34 =>
(aLet (x1 - 1) fun x35 =>
(if (sh b34).1 = 0 then
(if aIn x35 (sh b34).2 then
some (hI h33 b34 x35.toNatClampNeg, h33)
else none)
else none)))))))
else none)
else none))))
else
(aBind (f_X12_isRow h27 a0 x5) fun r41 h42 =>
(if r41 = 0 then
b_X12_settled_103 k32 h42 a0 x1 x2 x3 x4 x5
else
(aBind (f_X12_isSettled h42 a0) fun r43 h44 =>
(if r43 = 0 then
b_X12_settled_103 k32 h44 a0 x1 x2 x3 x4 x5
else
(if x2 = 0 then
b_X12_settled_80 k32 h44 a0 x1 x2 x5 x4 x5
else
b_X12_settled_80 k32 h44 a0 x1 x2 x3 x4 x5)))))))
else none)
else none))
else none)
else none))
else none)
set_option maxHeartbeats 2000000 in
theorem t_X12_settled_32 {k32 : aH → Nat → Int32 → Int32 → Int32 → Int32 → Int32 → Option (Int32 × aH)} (hk32 : ∀ (h : aH) (a0 : Nat) (x1 : Int32) (x2 : Int32) (x3 : Int32) (x4 : Int32) (x5 : Int32), AO eI 8 kX12_settled 32 [some (.ref a0), some (.int x1), some (.int x2), some (.int x3), some (.int x4), some (.int x5)] [] h (k32 h a0 x1 x2 x3 x4 x5)) (h : aH) (a0 : Nat) (x1 : Int32) (x2 : Int32) (x3 : Int32) (x4 : Int32) (x5 : Int32) : AO eI 8 kX12_settled 32 [some (.ref a0), some (.int x1), some (.int x2), some (.int x3), some (.int x4), some (.int x5)] [] h (b_X12_settled_32 k32 h a0 x1 x2 x3 x4 x5) := by
  unfold b_X12_settled_32
  refine ao_s (st_iload dX12_settled_32 rfl) ?_
  refine ao_s (st_aload_n dX12_settled_34 rfl rfl) ?_
  refine ao_chk (fun e21 => ?_)
  refine ao_getR dX12_settled_35 fl_X12_39 rfl e21 (fun b22 => ?_)
  refine ao_s (st_iconst dX12_settled_38 ic_4) ?_
  refine ao_chk (fun e23 => ?_)
  refine ao_iald dX12_settled_39 e23 ?_
  refine ao_s (st_iconst dX12_settled_40 ic_1) ?_
  refine ao_s (st_iadd dX12_settled_41) ?_
  refine ao_s (st_aload_n dX12_settled_42 rfl rfl) ?_
  refine ao_getR dX12_settled_43 fl_X12_39 rfl e21 (fun b24 => ?_)
  refine ao_s (st_iconst dX12_settled_46 ic_3) ?_
  refine ao_chk (fun e25 => ?_)
  refine ao_iald dX12_settled_47 e25 ?_
  refine ao_cSi (Kc := kX12_power) (As := [.int ((hI h b22 (4 : Int32).toNatClampNeg) + 1), .int (hI h b24 (3 : Int32).toNatClampNeg)]) (st := [.int x5]) dX12_settled_48 ml_X12_405 ms_X12_power rfl rfl (Nat.le_of_ble_eq_true rfl) (by decide) (s_X12_power h ((hI h b22 (4 : Int32).toNatClampNeg) + 1) (hI h b24 (3 : Int32).toNatClampNeg)) (fun r26 h27 => ?_)
  refine ao_br (br_icmp_ge (tgt := 109) dX12_settled_51 (by decide)) (fun c48 => ?_) (fun c48 => ?_)
  · refine ao_s (st_iload_n dX12_settled_109 rfl rfl) ?_
    refine ao_br (br_if_ne (tgt := 115) dX12_settled_110 (by decide)) (fun c40 => ?_) (fun c40 => ?_)
    · refine ao_s (st_iload_n dX12_settled_113 rfl rfl) ?_
      exact ao_ir dX12_settled_114 rfl rfl
    · refine ao_s (st_iload_n dX12_settled_115 rfl rfl) ?_
      refine ao_s (st_iconst dX12_settled_116 ic_5) ?_
      refine ao_br (br_icmp_ne (tgt := 123) dX12_settled_117 (by decide)) (fun c39 => ?_) (fun c39 => ?_)
      · refine ao_s (st_iload dX12_settled_120 rfl) ?_
        exact ao_ir dX12_settled_122 rfl rfl
      · refine ao_s (st_iload_n dX12_settled_123 rfl rfl) ?_
        refine ao_s (st_aload_n dX12_settled_124 rfl rfl) ?_
        refine ao_getR dX12_settled_125 fl_X12_39 rfl e21 (fun b28 => ?_)
        refine ao_s (st_iconst dX12_settled_128 ic_3) ?_
        refine ao_chk (fun e29 => ?_)
        refine ao_iald dX12_settled_129 e29 ?_
        refine ao_br (br_icmp_gt (tgt := 144) dX12_settled_130 (by decide)) (fun c38 => ?_) (fun c38 => ?_)
        · refine ao_s (st_bipush dX12_settled_144 bp_m2) ?_
          exact ao_ir dX12_settled_146 rfl rfl
        · refine ao_s (st_aload_n dX12_settled_133 rfl rfl) ?_
          refine ao_s (st_iconst dX12_settled_134 ic_0) ?_
          refine ao_s (st_iload_n dX12_settled_135 rfl rfl) ?_
          refine ao_s (st_iconst dX12_settled_136 ic_1) ?_
          refine ao_s (st_isub dX12_settled_137) ?_
          refine ao_cVi (Kc := kX12_isFree) (As := [.int 0, .int (x1 - 1)]) (st := []) dX12_settled_138 ml_X12_318 mv_X12_isFree rfl e21 (by decide) rfl rfl (Nat.le_of_ble_eq_true rfl) (by decide) (s_X12_isFree h27 a0 0 (x1 - 1)) (fun r30 h31 => ?_)
          refine ao_br (br_if_ne (tgt := 147) dX12_settled_141 (by decide)) (fun c37 => ?_) (fun c37 => ?_)
          · refine ao_s (st_bipush dX12_settled_144 bp_m2) ?_
            exact ao_ir dX12_settled_146 rfl rfl
          · refine ao_s (st_aload_n dX12_settled_147 rfl rfl) ?_
            refine ao_s (st_iload_n dX12_settled_148 rfl rfl) ?_
            refine ao_cVi (Kc := kX12_isRow) (As := [.int x3]) (st := []) dX12_settled_149 ml_X12_408 mv_X12_isRow rfl e21 (by decide) rfl rfl (Nat.le_of_ble_eq_true rfl) (by decide) (s_X12_isRow h31 a0 x3) (fun r32 h33 => ?_)
            refine ao_s (st_pop dX12_settled_152 rfl) ?_
            refine ao_s (st_aload_n dX12_settled_153 rfl rfl) ?_
            refine ao_getR dX12_settled_154 fl_X12_65 rfl e21 (fun b34 => ?_)
            refine ao_s (st_iload_n dX12_settled_157 rfl rfl) ?_
            refine ao_s (st_iconst dX12_settled_158 ic_1) ?_
            refine ao_s (st_isub dX12_settled_159) ?_
            refine ao_letI (fun x35 => ?_)
            refine ao_chk (fun e36 => ?_)
            refine ao_iald dX12_settled_160 e36 ?_
            exact ao_ir dX12_settled_161 rfl rfl
  · refine ao_s (st_aload_n dX12_settled_54 rfl rfl) ?_
    refine ao_s (st_iload dX12_settled_55 rfl) ?_
    refine ao_cVi (Kc := kX12_isRow) (As := [.int x5]) (st := []) dX12_settled_57 ml_X12_408 mv_X12_isRow rfl e21 (by decide) rfl rfl (Nat.le_of_ble_eq_true rfl) (by decide) (s_X12_isRow h27 a0 x5) (fun r41 h42 => ?_)
    refine ao_br (br_if_eq (tgt := 103) dX12_settled_60 (by decide)) (fun c47 => ?_) (fun c47 => ?_)
    · exact ao_w (sb_s (sb_s (sb_s (sb_s (sb_s (sb_s sb_0)))))) (t_X12_settled_103 hk32 h42 a0 x1 x2 x3 x4 x5)
    · refine ao_s (st_aload_n dX12_settled_63 rfl rfl) ?_
      refine ao_cVi (Kc := kX12_isSettled) (As := []) (st := []) dX12_settled_64 ml_X12_411 mv_X12_isSettled rfl e21 (by decide) rfl rfl (Nat.le_of_ble_eq_true rfl) (by decide) (s_X12_isSettled h42 a0) (fun r43 h44 => ?_)
      refine ao_br (br_if_ne (tgt := 73) dX12_settled_67 (by decide)) (fun c46 => ?_) (fun c46 => ?_)
      · refine ao_s (st_goto 103 dX12_settled_70 (by decide)) ?_
        exact ao_w (sb_s (sb_s (sb_s (sb_s (sb_s (sb_s sb_0)))))) (t_X12_settled_103 hk32 h44 a0 x1 x2 x3 x4 x5)
      · refine ao_s (st_iload_n dX12_settled_73 rfl rfl) ?_
        refine ao_br (br_if_ne (tgt := 80) dX12_settled_74 (by decide)) (fun c45 => ?_) (fun c45 => ?_)
        · refine ao_s (st_iload dX12_settled_77 rfl) ?_
          refine ao_s (st_istore_n (lv' := [some (.ref a0), some (.int x1), some (.int x2), some (.int x5), some (.int x4), some (.int x5)]) dX12_settled_79 rfl (by decide) rfl) ?_
          exact ao_w (sb_s (sb_s (sb_s (sb_s (sb_s (sb_s sb_0)))))) (t_X12_settled_80 hk32 h44 a0 x1 x2 x5 x4 x5)
        · exact ao_w (sb_s (sb_s (sb_s (sb_s (sb_s (sb_s sb_0)))))) (t_X12_settled_80 hk32 h44 a0 x1 x2 x3 x4 x5)
def f_X12_settled_32 (n : Nat) : aH → Nat → Int32 → Int32 → Int32 → Int32 → Int32 → Option (Int32 × aH) := aIt (fun _ _ _ _ _ _ _ => none) (fun k => b_X12_settled_32 k) n
theorem l_X12_settled_32 (n : Nat) : ∀ (h : aH) (a0 : Nat) (x1 : Int32) (x2 : Int32) (x3 : Int32) (x4 : Int32) (x5 : Int32), AO eI 8 kX12_settled 32 [some (.ref a0), some (.int x1), some (.int x2), some (.int x3), some (.int x4), some (.int x5)] [] h (f_X12_settled_32 n h a0 x1 x2 x3 x4 x5) := by
  induction n with
  | zero => intros; exact ao_none
  | succ n ih =>
    intro h a0 x1 x2 x3 x4 x5
    exact t_X12_settled_32 ih h a0 x1 x2 x3 x4 x5
def f_X12_settled (h : aH) (a0 : Nat) (x1 : Int32) : Option (Int32 × aH) :=
(if (sh a0).1 = 19 then
(aBind (f_X12_isIsle h a0) fun r22 h23 =>
(if r22 = 0 then
some ((-3), h23)
else
(aBind (f_X12_in h23 x1.toInt64 0 5) fun r24 h25 =>
(if r24 = 0 then
some ((-3), h25)
else
f_X12_settled_32 2000 h25 a0 x1 0 (-1) (-1) 0))))
else none)
set_option maxHeartbeats 2000000 in
theorem s_X12_settled (h : aH) (a0 : Nat) (x1 : Int32) : SO eI 8 kX12_settled [.ref a0, .int x1] h (f_X12_settled h a0 x1) := by
  refine so_of (lv0 := [some (.ref a0), some (.int x1), none, none, none, none]) pn_X12 (Nat.le_of_ble_eq_true rfl) rfl ?_
  unfold f_X12_settled
  refine ao_s (st_aload_n dX12_settled_0 rfl rfl) ?_
  refine ao_chk (fun e21 => ?_)
  refine ao_cVi (Kc := kX12_isIsle) (As := []) (st := []) dX12_settled_1 ml_X12_368 mv_X12_isIsle rfl e21 (by decide) rfl rfl (Nat.le_of_ble_eq_true rfl) (by decide) (s_X12_isIsle h a0) (fun r22 h23 => ?_)
  refine ao_br (br_if_eq (tgt := 19) dX12_settled_4 (by decide)) (fun c27 => ?_) (fun c27 => ?_)
  · refine ao_s (st_bipush dX12_settled_19 bp_m3) ?_
    exact ao_ir dX12_settled_21 rfl rfl
  · refine ao_s (st_iload_n dX12_settled_7 rfl rfl) ?_
    refine ao_s (st_i2l dX12_settled_8) ?_
    refine ao_s (st_lconst dX12_settled_9 lc_0) ?_
    refine ao_s (st_ldc2 dX12_settled_10 cl_X12_403) ?_
    refine ao_cSi (Kc := kX12_in) (As := [.long x1.toInt64, .long 0, .long 5]) (st := []) dX12_settled_13 ml_X12_127 ms_X12_in rfl rfl (Nat.le_of_ble_eq_true rfl) (by decide) (s_X12_in h23 x1.toInt64 0 5) (fun r24 h25 => ?_)
    refine ao_br (br_if_ne (tgt := 22) dX12_settled_16 (by decide)) (fun c26 => ?_) (fun c26 => ?_)
    · refine ao_s (st_bipush dX12_settled_19 bp_m3) ?_
      exact ao_ir dX12_settled_21 rfl rfl
    · refine ao_s (st_iconst dX12_settled_22 ic_0) ?_
      refine ao_s (st_istore_n (lv' := [some (.ref a0), some (.int x1), some (.int 0), none, none, none]) dX12_settled_23 rfl (by decide) rfl) ?_
      refine ao_s (st_iconst dX12_settled_24 ic_m1) ?_
      refine ao_s (st_istore_n (lv' := [some (.ref a0), some (.int x1), some (.int 0), some (.int (-1)), none, none]) dX12_settled_25 rfl (by decide) rfl) ?_
      refine ao_s (st_iconst dX12_settled_26 ic_m1) ?_
      refine ao_s (st_istore (lv' := [some (.ref a0), some (.int x1), some (.int 0), some (.int (-1)), some (.int (-1)), none]) dX12_settled_27 (by decide) rfl) ?_
      refine ao_s (st_iconst dX12_settled_29 ic_0) ?_
      refine ao_s (st_istore (lv' := [some (.ref a0), some (.int x1), some (.int 0), some (.int (-1)), some (.int (-1)), some (.int 0)]) dX12_settled_30 (by decide) rfl) ?_
      exact ao_w (sb_s (sb_s (sb_s (sb_s (sb_s (sb_s sb_0)))))) (l_X12_settled_32 2000 h25 a0 x1 0 (-1) (-1) 0)
def b_X12_likedIn_5 (k5 : aH → Nat → Int32 → Int32 → Int32 → Int32 → Option (Int32 × aH)) (h : aH) (a0 : Nat) (x1 : Int32) (x2 : Int32) (x3 : Int32) (x4 : Int32) : Option (Int32 × aH) :=
(if x2 ≤ x4 then
(if (sh a0).1 = 19 then
(aBind (f_X12_laysBack h a0) fun r22 h23 =>
some (x3, h23))
else none)
else
(if (sh a0).1 = 19 then
(aBind (f_X12_passes h a0) fun r25 h26 =>
(aBind (f_X12_likesTheirs h26 a0 x1) fun r27 h28 =>
(aLet (x3 + r27) fun x29 =>
k5 h28 a0 x1 x2 x29 (x4 + 1))))
else none))
set_option maxHeartbeats 2000000 in
theorem t_X12_likedIn_5 {k5 : aH → Nat → Int32 → Int32 → Int32 → Int32 → Option (Int32 × aH)} (hk5 : ∀ (h : aH) (a0 : Nat) (x1 : Int32) (x2 : Int32) (x3 : Int32) (x4 : Int32), AO eI 8 kX12_likedIn 5 [some (.ref a0), some (.int x1), some (.int x2), some (.int x3), some (.int x4)] [] h (k5 h a0 x1 x2 x3 x4)) (h : aH) (a0 : Nat) (x1 : Int32) (x2 : Int32) (x3 : Int32) (x4 : Int32) : AO eI 8 kX12_likedIn 5 [some (.ref a0), some (.int x1), some (.int x2), some (.int x3), some (.int x4)] [] h (b_X12_likedIn_5 k5 h a0 x1 x2 x3 x4) := by
  unfold b_X12_likedIn_5
  refine ao_s (st_iload dX12_likedIn_5 rfl) ?_
  refine ao_s (st_iload_n dX12_likedIn_7 rfl rfl) ?_
  refine ao_br (br_icmp_ge (tgt := 30) dX12_likedIn_8 (by decide)) (fun c30 => ?_) (fun c30 => ?_)
  · refine ao_s (st_aload_n dX12_likedIn_30 rfl rfl) ?_
    refine ao_chk (fun e21 => ?_)
    refine ao_cVv (Kc := kX12_laysBack) (As := []) (st := []) dX12_likedIn_31 ml_X12_397 mv_X12_laysBack rfl e21 (by decide) rfl rfl (Nat.le_of_ble_eq_true rfl) (by decide) (s_X12_laysBack h a0) (fun r22 h23 => ?_)
    refine ao_s (st_iload_n dX12_likedIn_34 rfl rfl) ?_
    exact ao_ir dX12_likedIn_35 rfl rfl
  · refine ao_s (st_aload_n dX12_likedIn_11 rfl rfl) ?_
    refine ao_chk (fun e24 => ?_)
    refine ao_cVi (Kc := kX12_passes) (As := []) (st := []) dX12_likedIn_12 ml_X12_374 mv_X12_passes rfl e24 (by decide) rfl rfl (Nat.le_of_ble_eq_true rfl) (by decide) (s_X12_passes h a0) (fun r25 h26 => ?_)
    refine ao_s (st_pop dX12_likedIn_15 rfl) ?_
    refine ao_s (st_iload_n dX12_likedIn_16 rfl rfl) ?_
    refine ao_s (st_aload_n dX12_likedIn_17 rfl rfl) ?_
    refine ao_s (st_iload_n dX12_likedIn_18 rfl rfl) ?_
    refine ao_cVi (Kc := kX12_likesTheirs) (As := [.int x1]) (st := [.int x3]) dX12_likedIn_19 ml_X12_394 mv_X12_likesTheirs rfl e24 (by decide) rfl rfl (Nat.le_of_ble_eq_true rfl) (by decide) (s_X12_likesTheirs h26 a0 x1) (fun r27 h28 => ?_)
    refine ao_s (st_iadd dX12_likedIn_22) ?_
    refine ao_letI (fun x29 => ?_)
    refine ao_s (st_istore_n (lv' := [some (.ref a0), some (.int x1), some (.int x2), some (.int x29), some (.int x4)]) dX12_likedIn_23 rfl (by decide) rfl) ?_
    refine ao_s (st_iinc (lv' := [some (.ref a0), some (.int x1), some (.int x2), some (.int x29), some (.int (x4 + 1))]) dX12_likedIn_24 rfl nc_1 (by decide) rfl) ?_
    refine ao_s (st_goto 5 dX12_likedIn_27 (by decide)) ?_
    exact ao_w (sb_s (sb_s (sb_s (sb_s (sb_s sb_0))))) (hk5 h28 a0 x1 x2 x29 (x4 + 1))
def f_X12_likedIn_5 (n : Nat) : aH → Nat → Int32 → Int32 → Int32 → Int32 → Option (Int32 × aH) := aIt (fun _ _ _ _ _ _ => none) (fun k => b_X12_likedIn_5 k) n
theorem l_X12_likedIn_5 (n : Nat) : ∀ (h : aH) (a0 : Nat) (x1 : Int32) (x2 : Int32) (x3 : Int32) (x4 : Int32), AO eI 8 kX12_likedIn 5 [some (.ref a0), some (.int x1), some (.int x2), some (.int x3), some (.int x4)] [] h (f_X12_likedIn_5 n h a0 x1 x2 x3 x4) := by
  induction n with
  | zero => intros; exact ao_none
  | succ n ih =>
    intro h a0 x1 x2 x3 x4
    exact t_X12_likedIn_5 ih h a0 x1 x2 x3 x4
def f_X12_likedIn (h : aH) (a0 : Nat) (x1 : Int32) (x2 : Int32) : Option (Int32 × aH) :=
f_X12_likedIn_5 2000 h a0 x1 x2 0 0
set_option maxHeartbeats 2000000 in
theorem s_X12_likedIn (h : aH) (a0 : Nat) (x1 : Int32) (x2 : Int32) : SO eI 8 kX12_likedIn [.ref a0, .int x1, .int x2] h (f_X12_likedIn h a0 x1 x2) := by
  refine so_of (lv0 := [some (.ref a0), some (.int x1), some (.int x2), none, none]) pn_X12 (Nat.le_of_ble_eq_true rfl) rfl ?_
  unfold f_X12_likedIn
  refine ao_s (st_iconst dX12_likedIn_0 ic_0) ?_
  refine ao_s (st_istore_n (lv' := [some (.ref a0), some (.int x1), some (.int x2), some (.int 0), none]) dX12_likedIn_1 rfl (by decide) rfl) ?_
  refine ao_s (st_iconst dX12_likedIn_2 ic_0) ?_
  refine ao_s (st_istore (lv' := [some (.ref a0), some (.int x1), some (.int x2), some (.int 0), some (.int 0)]) dX12_likedIn_3 (by decide) rfl) ?_
  exact ao_w (sb_s (sb_s (sb_s (sb_s (sb_s sb_0))))) (l_X12_likedIn_5 2000 h a0 x1 x2 0 0)
def b_X12_tries_118 (k60 : aH → Nat → Int32 → Int32 → Int32 → Int32 → Int32 → Int32 → Option (Int32 × aH)) (h : aH) (a0 : Nat) (x1 : Int32) (x2 : Int32) (x3 : Int32) (x4 : Int32) (x5 : Int32) (x6 : Int32) : Option (Int32 × aH) :=
k60 h a0 x1 x2 x3 x4 x5 (x6 + 1)
set_option maxHeartbeats 2000000 in
theorem t_X12_tries_118 {k60 : aH → Nat → Int32 → Int32 → Int32 → Int32 → Int32 → Int32 → Option (Int32 × aH)} (hk60 : ∀ (h : aH) (a0 : Nat) (x1 : Int32) (x2 : Int32) (x3 : Int32) (x4 : Int32) (x5 : Int32) (x6 : Int32), AO eI 9 kX12_tries 60 [some (.ref a0), some (.int x1), some (.int x2), some (.int x3), some (.int x4), some (.int x5), some (.int x6), none] [] h (k60 h a0 x1 x2 x3 x4 x5 x6)) (h : aH) (a0 : Nat) (x1 : Int32) (x2 : Int32) (x3 : Int32) (x4 : Int32) (x5 : Int32) (x6 : Int32) : AO eI 9 kX12_tries 118 [some (.ref a0), some (.int x1), some (.int x2), some (.int x3), some (.int x4), some (.int x5), some (.int x6), none] [] h (b_X12_tries_118 k60 h a0 x1 x2 x3 x4 x5 x6) := by
  unfold b_X12_tries_118
  refine ao_s (st_iinc (lv' := [some (.ref a0), some (.int x1), some (.int x2), some (.int x3), some (.int x4), some (.int x5), some (.int (x6 + 1)), none]) dX12_tries_118 rfl nc_1 (by decide) rfl) ?_
  refine ao_s (st_goto 60 dX12_tries_121 (by decide)) ?_
  exact ao_w (sb_s (sb_s (sb_s (sb_s (sb_s (sb_s (sb_s (sb_n sb_0)))))))) (hk60 h a0 x1 x2 x3 x4 x5 (x6 + 1))
def b_X12_tries_60 (k60 : aH → Nat → Int32 → Int32 → Int32 → Int32 → Int32 → Int32 → Option (Int32 × aH)) (h : aH) (a0 : Nat) (x1 : Int32) (x2 : Int32) (x3 : Int32) (x4 : Int32) (x5 : Int32) (x6 : Int32) : Option (Int32 × aH) :=
(if (sh a0).1 = 19 then
((hR h a0 20).bind fun b22 =>
(if (sh b22).1 = 0 then
(if aIn 4 (sh b22).2 then
(if hI h b22 (4 : Int32).toNatClampNeg ≤ x6 then
(if x3 = 0 then
some (x4, h)
else
some (x5, h))
else
(aBind (f_X12_canJoin h a0 x1 x6) fun r25 h26 =>
(if r25 = 0 then
b_X12_tries_118 k60 h26 a0 x1 x2 x3 x4 x5 x6
else
(aBind (f_X12_joins h26 a0 x1 x6) fun r27 h28 =>
(aBind (f_X12_likedIn h28 a0 x1 x2) fun r29 h30 =>
(if x5 < r29 then
b_X12_tries_118 k60 h30 a0 x1 x2 x3 x6 r29 x6
else
b_X12_tries_118 k60 h30 a0 x1 x2 x3 x4 x5 x6))))))
else none)
else none))
else none)
set_option maxHeartbeats 2000000 in
theorem t_X12_tries_60 {k60 : aH → Nat → Int32 → Int32 → Int32 → Int32 → Int32 → Int32 → Option (Int32 × aH)} (hk60 : ∀ (h : aH) (a0 : Nat) (x1 : Int32) (x2 : Int32) (x3 : Int32) (x4 : Int32) (x5 : Int32) (x6 : Int32), AO eI 9 kX12_tries 60 [some (.ref a0), some (.int x1), some (.int x2), some (.int x3), some (.int x4), some (.int x5), some (.int x6), none] [] h (k60 h a0 x1 x2 x3 x4 x5 x6)) (h : aH) (a0 : Nat) (x1 : Int32) (x2 : Int32) (x3 : Int32) (x4 : Int32) (x5 : Int32) (x6 : Int32) : AO eI 9 kX12_tries 60 [some (.ref a0), some (.int x1), some (.int x2), some (.int x3), some (.int x4), some (.int x5), some (.int x6), none] [] h (b_X12_tries_60 k60 h a0 x1 x2 x3 x4 x5 x6) := by
  unfold b_X12_tries_60
  refine ao_s (st_iload dX12_tries_60 rfl) ?_
  refine ao_s (st_aload_n dX12_tries_62 rfl rfl) ?_
  refine ao_chk (fun e21 => ?_)
  refine ao_getR dX12_tries_63 fl_X12_39 rfl e21 (fun b22 => ?_)
  refine ao_s (st_iconst dX12_tries_66 ic_4) ?_
  refine ao_chk (fun e23 => ?_)
  refine ao_iald dX12_tries_67 e23 ?_
  refine ao_br (br_icmp_ge (tgt := 124) dX12_tries_68 (by decide)) (fun c33 => ?_) (fun c33 => ?_)
  · refine ao_s (st_iload_n dX12_tries_124 rfl rfl) ?_
    refine ao_br (br_if_ne (tgt := 133) dX12_tries_125 (by decide)) (fun c24 => ?_) (fun c24 => ?_)
    · refine ao_s (st_iload dX12_tries_128 rfl) ?_
      refine ao_s (st_goto 135 dX12_tries_130 (by decide)) ?_
      exact ao_ir dX12_tries_135 rfl rfl
    · refine ao_s (st_iload dX12_tries_133 rfl) ?_
      exact ao_ir dX12_tries_135 rfl rfl
  · refine ao_s (st_aload_n dX12_tries_71 rfl rfl) ?_
    refine ao_s (st_iload_n dX12_tries_72 rfl rfl) ?_
    refine ao_s (st_iload dX12_tries_73 rfl) ?_
    refine ao_cVi (Kc := kX12_canJoin) (As := [.int x1, .int x6]) (st := []) dX12_tries_75 ml_X12_380 mv_X12_canJoin rfl e21 (by decide) rfl rfl (Nat.le_of_ble_eq_true rfl) (by decide) (s_X12_canJoin h a0 x1 x6) (fun r25 h26 => ?_)
    refine ao_br (br_if_ne (tgt := 84) dX12_tries_78 (by decide)) (fun c32 => ?_) (fun c32 => ?_)
    · refine ao_s (st_goto 118 dX12_tries_81 (by decide)) ?_
      exact ao_w (sb_s (sb_s (sb_s (sb_s (sb_s (sb_s (sb_s (sb_n sb_0)))))))) (t_X12_tries_118 hk60 h26 a0 x1 x2 x3 x4 x5 x6)
    · refine ao_s (st_aload_n dX12_tries_84 rfl rfl) ?_
      refine ao_s (st_iload_n dX12_tries_85 rfl rfl) ?_
      refine ao_s (st_iload dX12_tries_86 rfl) ?_
      refine ao_cVi (Kc := kX12_joins) (As := [.int x1, .int x6]) (st := []) dX12_tries_88 ml_X12_350 mv_X12_joins rfl e21 (by decide) rfl rfl (Nat.le_of_ble_eq_true rfl) (by decide) (s_X12_joins h26 a0 x1 x6) (fun r27 h28 => ?_)
      refine ao_s (st_pop dX12_tries_91 rfl) ?_
      refine ao_s (st_aload_n dX12_tries_92 rfl rfl) ?_
      refine ao_s (st_iload_n dX12_tries_93 rfl rfl) ?_
      refine ao_s (st_iload_n dX12_tries_94 rfl rfl) ?_
      refine ao_cVi (Kc := kX12_likedIn) (As := [.int x1, .int x2]) (st := []) dX12_tries_95 ml_X12_419 mv_X12_likedIn rfl e21 (by decide) rfl rfl (Nat.le_of_ble_eq_true rfl) (by decide) (s_X12_likedIn h28 a0 x1 x2) (fun r29 h30 => ?_)
      refine ao_s (st_istore (lv' := [some (.ref a0), some (.int x1), some (.int x2), some (.int x3), some (.int x4), some (.int x5), some (.int x6), some (.int r29)]) dX12_tries_98 (by decide) rfl) ?_
      refine ao_s (st_iload dX12_tries_100 rfl) ?_
      refine ao_s (st_iload dX12_tries_102 rfl) ?_
      refine ao_br (br_icmp_gt (tgt := 110) dX12_tries_104 (by decide)) (fun c31 => ?_) (fun c31 => ?_)
      · refine ao_s (st_iload dX12_tries_110 rfl) ?_
        refine ao_s (st_istore (lv' := [some (.ref a0), some (.int x1), some (.int x2), some (.int x3), some (.int x6), some (.int x5), some (.int x6), some (.int r29)]) dX12_tries_112 (by decide) rfl) ?_
        refine ao_s (st_iload dX12_tries_114 rfl) ?_
        refine ao_s (st_istore (lv' := [some (.ref a0), some (.int x1), some (.int x2), some (.int x3), some (.int x6), some (.int r29), some (.int x6), some (.int r29)]) dX12_tries_116 (by decide) rfl) ?_
        exact ao_w (sb_s (sb_s (sb_s (sb_s (sb_s (sb_s (sb_s (sb_n sb_0)))))))) (t_X12_tries_118 hk60 h30 a0 x1 x2 x3 x6 r29 x6)
      · refine ao_s (st_goto 118 dX12_tries_107 (by decide)) ?_
        exact ao_w (sb_s (sb_s (sb_s (sb_s (sb_s (sb_s (sb_s (sb_n sb_0)))))))) (t_X12_tries_118 hk60 h30 a0 x1 x2 x3 x4 x5 x6)
def f_X12_tries_60 (n : Nat) : aH → Nat → Int32 → Int32 → Int32 → Int32 → Int32 → Int32 → Option (Int32 × aH) := aIt (fun _ _ _ _ _ _ _ _ => none) (fun k => b_X12_tries_60 k) n
theorem l_X12_tries_60 (n : Nat) : ∀ (h : aH) (a0 : Nat) (x1 : Int32) (x2 : Int32) (x3 : Int32) (x4 : Int32) (x5 : Int32) (x6 : Int32), AO eI 9 kX12_tries 60 [some (.ref a0), some (.int x1), some (.int x2), some (.int x3), some (.int x4), some (.int x5), some (.int x6), none] [] h (f_X12_tries_60 n h a0 x1 x2 x3 x4 x5 x6) := by
  induction n with
  | zero => intros; exact ao_none
  | succ n ih =>
    intro h a0 x1 x2 x3 x4 x5 x6
    exact t_X12_tries_60 ih h a0 x1 x2 x3 x4 x5 x6
def f_X12_tries (h : aH) (a0 : Nat) (x1 : Int32) (x2 : Int32) (x3 : Int32) : Option (Int32 × aH) :=
(if (sh a0).1 = 19 then
(aBind (f_X12_isEast h a0 x1) fun r22 h23 =>
(if r22 = 0 then
some ((-2), h23)
else
(aBind (f_X12_isFree h23 a0 0 x1) fun r24 h25 =>
(if r24 = 0 then
some ((-2), h25)
else
(aBind (f_X12_in h25 x2.toInt64 1 30) fun r26 h27 =>
(if r26 = 0 then
some ((-2), h27)
else
(aBind (f_X12_in h27 x3.toInt64 0 1) fun r28 h29 =>
(if r28 = 0 then
some ((-2), h29)
else
(aBind (f_X12_keeps h29 a0) fun r30 h31 =>
(aBind (f_X12_likedIn h31 a0 x1 x2) fun r32 h33 =>
f_X12_tries_60 2000 h33 a0 x1 x2 x3 (-1) r32 0))))))))))
else none)
set_option maxHeartbeats 2000000 in
theorem s_X12_tries (h : aH) (a0 : Nat) (x1 : Int32) (x2 : Int32) (x3 : Int32) : SO eI 9 kX12_tries [.ref a0, .int x1, .int x2, .int x3] h (f_X12_tries h a0 x1 x2 x3) := by
  refine so_of (lv0 := [some (.ref a0), some (.int x1), some (.int x2), some (.int x3), none, none, none, none]) pn_X12 (Nat.le_of_ble_eq_true rfl) rfl ?_
  unfold f_X12_tries
  refine ao_s (st_aload_n dX12_tries_0 rfl rfl) ?_
  refine ao_s (st_iload_n dX12_tries_1 rfl rfl) ?_
  refine ao_chk (fun e21 => ?_)
  refine ao_cVi (Kc := kX12_isEast) (As := [.int x1]) (st := []) dX12_tries_2 ml_X12_324 mv_X12_isEast rfl e21 (by decide) rfl rfl (Nat.le_of_ble_eq_true rfl) (by decide) (s_X12_isEast h a0 x1) (fun r22 h23 => ?_)
  refine ao_br (br_if_eq (tgt := 39) dX12_tries_5 (by decide)) (fun c37 => ?_) (fun c37 => ?_)
  · refine ao_s (st_bipush dX12_tries_39 bp_m2) ?_
    exact ao_ir dX12_tries_41 rfl rfl
  · refine ao_s (st_aload_n dX12_tries_8 rfl rfl) ?_
    refine ao_s (st_iconst dX12_tries_9 ic_0) ?_
    refine ao_s (st_iload_n dX12_tries_10 rfl rfl) ?_
    refine ao_cVi (Kc := kX12_isFree) (As := [.int 0, .int x1]) (st := []) dX12_tries_11 ml_X12_318 mv_X12_isFree rfl e21 (by decide) rfl rfl (Nat.le_of_ble_eq_true rfl) (by decide) (s_X12_isFree h23 a0 0 x1) (fun r24 h25 => ?_)
    refine ao_br (br_if_eq (tgt := 39) dX12_tries_14 (by decide)) (fun c36 => ?_) (fun c36 => ?_)
    · refine ao_s (st_bipush dX12_tries_39 bp_m2) ?_
      exact ao_ir dX12_tries_41 rfl rfl
    · refine ao_s (st_iload_n dX12_tries_17 rfl rfl) ?_
      refine ao_s (st_i2l dX12_tries_18) ?_
      refine ao_s (st_lconst dX12_tries_19 lc_1) ?_
      refine ao_s (st_ldc2 dX12_tries_20 cl_X12_417) ?_
      refine ao_cSi (Kc := kX12_in) (As := [.long x2.toInt64, .long 1, .long 30]) (st := []) dX12_tries_23 ml_X12_127 ms_X12_in rfl rfl (Nat.le_of_ble_eq_true rfl) (by decide) (s_X12_in h25 x2.toInt64 1 30) (fun r26 h27 => ?_)
      refine ao_br (br_if_eq (tgt := 39) dX12_tries_26 (by decide)) (fun c35 => ?_) (fun c35 => ?_)
      · refine ao_s (st_bipush dX12_tries_39 bp_m2) ?_
        exact ao_ir dX12_tries_41 rfl rfl
      · refine ao_s (st_iload_n dX12_tries_29 rfl rfl) ?_
        refine ao_s (st_i2l dX12_tries_30) ?_
        refine ao_s (st_lconst dX12_tries_31 lc_0) ?_
        refine ao_s (st_lconst dX12_tries_32 lc_1) ?_
        refine ao_cSi (Kc := kX12_in) (As := [.long x3.toInt64, .long 0, .long 1]) (st := []) dX12_tries_33 ml_X12_127 ms_X12_in rfl rfl (Nat.le_of_ble_eq_true rfl) (by decide) (s_X12_in h27 x3.toInt64 0 1) (fun r28 h29 => ?_)
        refine ao_br (br_if_ne (tgt := 42) dX12_tries_36 (by decide)) (fun c34 => ?_) (fun c34 => ?_)
        · refine ao_s (st_bipush dX12_tries_39 bp_m2) ?_
          exact ao_ir dX12_tries_41 rfl rfl
        · refine ao_s (st_aload_n dX12_tries_42 rfl rfl) ?_
          refine ao_cVv (Kc := kX12_keeps) (As := []) (st := []) dX12_tries_43 ml_X12_391 mv_X12_keeps rfl e21 (by decide) rfl rfl (Nat.le_of_ble_eq_true rfl) (by decide) (s_X12_keeps h29 a0) (fun r30 h31 => ?_)
          refine ao_s (st_iconst dX12_tries_46 ic_m1) ?_
          refine ao_s (st_istore (lv' := [some (.ref a0), some (.int x1), some (.int x2), some (.int x3), some (.int (-1)), none, none, none]) dX12_tries_47 (by decide) rfl) ?_
          refine ao_s (st_aload_n dX12_tries_49 rfl rfl) ?_
          refine ao_s (st_iload_n dX12_tries_50 rfl rfl) ?_
          refine ao_s (st_iload_n dX12_tries_51 rfl rfl) ?_
          refine ao_cVi (Kc := kX12_likedIn) (As := [.int x1, .int x2]) (st := []) dX12_tries_52 ml_X12_419 mv_X12_likedIn rfl e21 (by decide) rfl rfl (Nat.le_of_ble_eq_true rfl) (by decide) (s_X12_likedIn h31 a0 x1 x2) (fun r32 h33 => ?_)
          refine ao_s (st_istore (lv' := [some (.ref a0), some (.int x1), some (.int x2), some (.int x3), some (.int (-1)), some (.int r32), none, none]) dX12_tries_55 (by decide) rfl) ?_
          refine ao_s (st_iconst dX12_tries_57 ic_0) ?_
          refine ao_s (st_istore (lv' := [some (.ref a0), some (.int x1), some (.int x2), some (.int x3), some (.int (-1)), some (.int r32), some (.int 0), none]) dX12_tries_58 (by decide) rfl) ?_
          exact ao_w (sb_s (sb_s (sb_s (sb_s (sb_s (sb_s (sb_s (sb_n sb_0)))))))) (l_X12_tries_60 2000 h33 a0 x1 x2 x3 (-1) r32 0)
