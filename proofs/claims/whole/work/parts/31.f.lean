def b_X12_numberHere_75 (k34 : aH → Nat → Int32 → Int32 → Int32 → Int32 → Option (Int32 × aH)) (h : aH) (a0 : Nat) (x1 : Int32) (x2 : Int32) (x3 : Int32) (x4 : Int32) : Option (Int32 × aH) :=
(if (sh a0).1 = 19 then
(aLet (pI h a0 8 ((hI h a0 8) + 1)) fun h22 =>
k34 h22 a0 x1 x2 x3 x4)
else none)
set_option maxHeartbeats 2000000 in
theorem t_X12_numberHere_75 {k34 : aH → Nat → Int32 → Int32 → Int32 → Int32 → Option (Int32 × aH)} (hk34 : ∀ (h : aH) (a0 : Nat) (x1 : Int32) (x2 : Int32) (x3 : Int32) (x4 : Int32), AO eI 3 kX12_numberHere 34 [some (.ref a0), some (.int x1), some (.int x2), some (.int x3), some (.int x4)] [] h (k34 h a0 x1 x2 x3 x4)) (h : aH) (a0 : Nat) (x1 : Int32) (x2 : Int32) (x3 : Int32) (x4 : Int32) : AO eI 3 kX12_numberHere 75 [some (.ref a0), some (.int x1), some (.int x2), some (.int x3), some (.int x4)] [] h (b_X12_numberHere_75 k34 h a0 x1 x2 x3 x4) := by
  unfold b_X12_numberHere_75
  refine ao_s (st_aload_n dX12_numberHere_75 rfl rfl) ?_
  refine ao_s (st_dup dX12_numberHere_76 rfl) ?_
  refine ao_chk (fun e21 => ?_)
  refine ao_getI dX12_numberHere_77 fl_X12_99 rfl e21 ?_
  refine ao_s (st_iconst dX12_numberHere_80 ic_1) ?_
  refine ao_s (st_iadd dX12_numberHere_81) ?_
  refine ao_putI dX12_numberHere_82 fl_X12_99 rfl rfl rfl rfl e21 ?_
  refine ao_letH (fun h22 => ?_)
  refine ao_s (st_goto 34 dX12_numberHere_85 (by decide)) ?_
  exact ao_w (sb_s (sb_s (sb_s (sb_s (sb_s sb_0))))) (hk34 h22 a0 x1 x2 x3 x4)
def b_X12_numberHere_117 (h : aH) (a0 : Nat) (x3 : Int32) : Option (Int32 × aH) :=
(if (sh a0).1 = 19 then
(aBind (f_X12_fails h a0 1 x3) fun r22 h23 =>
(if r22 = 0 then
some (0, h23)
else
some (1, h23)))
else none)
set_option maxHeartbeats 2000000 in
theorem t_X12_numberHere_117 (h : aH) (a0 : Nat) (x3 : Int32) : AO eI 3 kX12_numberHere 117 [some (.ref a0), none, none, some (.int x3), none] [] h (b_X12_numberHere_117 h a0 x3) := by
  unfold b_X12_numberHere_117
  refine ao_s (st_aload_n dX12_numberHere_117 rfl rfl) ?_
  refine ao_s (st_iconst dX12_numberHere_118 ic_1) ?_
  refine ao_s (st_iload_n dX12_numberHere_119 rfl rfl) ?_
  refine ao_chk (fun e21 => ?_)
  refine ao_cVi (Kc := kX12_fails) (As := [.int 1, .int x3]) (st := []) dX12_numberHere_120 ml_X12_120 mv_X12_fails rfl e21 (by decide) rfl rfl (Nat.le_of_ble_eq_true rfl) (by decide) (s_X12_fails h a0 1 x3) (fun r22 h23 => ?_)
  refine ao_br (br_if_eq (tgt := 130) dX12_numberHere_123 (by decide)) (fun c24 => ?_) (fun c24 => ?_)
  · refine ao_s (st_iconst dX12_numberHere_130 ic_0) ?_
    exact ao_ir dX12_numberHere_131 rfl (by decide)
  · refine ao_s (st_iconst dX12_numberHere_126 ic_1) ?_
    refine ao_s (st_goto 131 dX12_numberHere_127 (by decide)) ?_
    exact ao_ir dX12_numberHere_131 rfl (by decide)
def b_X12_numberHere_34 (k34 : aH → Nat → Int32 → Int32 → Int32 → Int32 → Option (Int32 × aH)) (h : aH) (a0 : Nat) (x1 : Int32) (x2 : Int32) (x3 : Int32) (x4 : Int32) : Option (Int32 × aH) :=
(if (sh a0).1 = 19 then
(aBind (f_X12_isDigit h a0 (hI h a0 8)) fun r22 h23 =>
(if r22 = 0 then
(aLet (pI h23 a0 10 x4) fun h24 =>
(if 5 < (hI h24 a0 8) - x3 then
b_X12_numberHere_117 h24 a0 x3
else
(aBind (f_X12_in h24 x4.toInt64 x1.toInt64 x2.toInt64) fun r25 h26 =>
(if r25 = 0 then
b_X12_numberHere_117 h26 a0 x3
else
some (1, h26)))))
else
(if 5 ≤ (hI h23 a0 8) - x3 then
b_X12_numberHere_75 k34 h23 a0 x1 x2 x3 x4
else
((hR h23 a0 0).bind fun b29 =>
(aLet (hI h23 a0 8) fun x30 =>
(if (sh b29).1 = 1 then
(if aIn x30 (sh b29).2 then
(aLet (((10 * x4) + (hI h23 b29 x30.toNatClampNeg)) - 48) fun x32 =>
b_X12_numberHere_75 k34 h23 a0 x1 x2 x3 x32)
else none)
else none))))))
else none)
set_option maxHeartbeats 2000000 in
theorem t_X12_numberHere_34 {k34 : aH → Nat → Int32 → Int32 → Int32 → Int32 → Option (Int32 × aH)} (hk34 : ∀ (h : aH) (a0 : Nat) (x1 : Int32) (x2 : Int32) (x3 : Int32) (x4 : Int32), AO eI 3 kX12_numberHere 34 [some (.ref a0), some (.int x1), some (.int x2), some (.int x3), some (.int x4)] [] h (k34 h a0 x1 x2 x3 x4)) (h : aH) (a0 : Nat) (x1 : Int32) (x2 : Int32) (x3 : Int32) (x4 : Int32) : AO eI 3 kX12_numberHere 34 [some (.ref a0), some (.int x1), some (.int x2), some (.int x3), some (.int x4)] [] h (b_X12_numberHere_34 k34 h a0 x1 x2 x3 x4) := by
  unfold b_X12_numberHere_34
  refine ao_s (st_aload_n dX12_numberHere_34 rfl rfl) ?_
  refine ao_s (st_aload_n dX12_numberHere_35 rfl rfl) ?_
  refine ao_chk (fun e21 => ?_)
  refine ao_getI dX12_numberHere_36 fl_X12_99 rfl e21 ?_
  refine ao_cVi (Kc := kX12_isDigit) (As := [.int (hI h a0 8)]) (st := []) dX12_numberHere_39 ml_X12_117 mv_X12_isDigit rfl e21 (by decide) rfl rfl (Nat.le_of_ble_eq_true rfl) (by decide) (s_X12_isDigit h a0 (hI h a0 8)) (fun r22 h23 => ?_)
  refine ao_br (br_if_eq (tgt := 88) dX12_numberHere_42 (by decide)) (fun c34 => ?_) (fun c34 => ?_)
  · refine ao_s (st_aload_n dX12_numberHere_88 rfl rfl) ?_
    refine ao_s (st_iload dX12_numberHere_89 rfl) ?_
    refine ao_putI dX12_numberHere_91 fl_X12_124 rfl rfl rfl rfl e21 ?_
    refine ao_letH (fun h24 => ?_)
    refine ao_s (st_aload_n dX12_numberHere_94 rfl rfl) ?_
    refine ao_getI dX12_numberHere_95 fl_X12_99 rfl e21 ?_
    refine ao_s (st_iload_n dX12_numberHere_98 rfl rfl) ?_
    refine ao_s (st_isub dX12_numberHere_99) ?_
    refine ao_s (st_iconst dX12_numberHere_100 ic_5) ?_
    refine ao_br (br_icmp_gt (tgt := 117) dX12_numberHere_101 (by decide)) (fun c28 => ?_) (fun c28 => ?_)
    · exact ao_w (sb_s (sb_n (sb_n (sb_s (sb_n sb_0))))) (t_X12_numberHere_117 h24 a0 x3)
    · refine ao_s (st_iload dX12_numberHere_104 rfl) ?_
      refine ao_s (st_i2l dX12_numberHere_106) ?_
      refine ao_s (st_iload_n dX12_numberHere_107 rfl rfl) ?_
      refine ao_s (st_i2l dX12_numberHere_108) ?_
      refine ao_s (st_iload_n dX12_numberHere_109 rfl rfl) ?_
      refine ao_s (st_i2l dX12_numberHere_110) ?_
      refine ao_cSi (Kc := kX12_in) (As := [.long x4.toInt64, .long x1.toInt64, .long x2.toInt64]) (st := []) dX12_numberHere_111 ml_X12_127 ms_X12_in rfl rfl (Nat.le_of_ble_eq_true rfl) (by decide) (s_X12_in h24 x4.toInt64 x1.toInt64 x2.toInt64) (fun r25 h26 => ?_)
      refine ao_br (br_if_ne (tgt := 126) dX12_numberHere_114 (by decide)) (fun c27 => ?_) (fun c27 => ?_)
      · exact ao_w (sb_s (sb_n (sb_n (sb_s (sb_n sb_0))))) (t_X12_numberHere_117 h26 a0 x3)
      · refine ao_s (st_iconst dX12_numberHere_126 ic_1) ?_
        refine ao_s (st_goto 131 dX12_numberHere_127 (by decide)) ?_
        exact ao_ir dX12_numberHere_131 rfl (by decide)
  · refine ao_s (st_aload_n dX12_numberHere_45 rfl rfl) ?_
    refine ao_getI dX12_numberHere_46 fl_X12_99 rfl e21 ?_
    refine ao_s (st_iload_n dX12_numberHere_49 rfl rfl) ?_
    refine ao_s (st_isub dX12_numberHere_50) ?_
    refine ao_s (st_iconst dX12_numberHere_51 ic_5) ?_
    refine ao_br (br_icmp_ge (tgt := 75) dX12_numberHere_52 (by decide)) (fun c33 => ?_) (fun c33 => ?_)
    · exact ao_w (sb_s (sb_s (sb_s (sb_s (sb_s sb_0))))) (t_X12_numberHere_75 hk34 h23 a0 x1 x2 x3 x4)
    · refine ao_s (st_bipush dX12_numberHere_55 bp_10) ?_
      refine ao_s (st_iload dX12_numberHere_57 rfl) ?_
      refine ao_s (st_imul dX12_numberHere_59) ?_
      refine ao_s (st_aload_n dX12_numberHere_60 rfl rfl) ?_
      refine ao_getR dX12_numberHere_61 fl_X12_7 rfl e21 (fun b29 => ?_)
      refine ao_s (st_aload_n dX12_numberHere_64 rfl rfl) ?_
      refine ao_getI dX12_numberHere_65 fl_X12_99 rfl e21 ?_
      refine ao_letI (fun x30 => ?_)
      refine ao_chk (fun e31 => ?_)
      refine ao_bald dX12_numberHere_68 e31 ?_
      refine ao_s (st_iadd dX12_numberHere_69) ?_
      refine ao_s (st_bipush dX12_numberHere_70 bp_48) ?_
      refine ao_s (st_isub dX12_numberHere_72) ?_
      refine ao_letI (fun x32 => ?_)
      refine ao_s (st_istore (lv' := [some (.ref a0), some (.int x1), some (.int x2), some (.int x3), some (.int x32)]) dX12_numberHere_73 (by decide) rfl) ?_
      exact ao_w (sb_s (sb_s (sb_s (sb_s (sb_s sb_0))))) (t_X12_numberHere_75 hk34 h23 a0 x1 x2 x3 x32)
def f_X12_numberHere_34 (n : Nat) : aH → Nat → Int32 → Int32 → Int32 → Int32 → Option (Int32 × aH) := aIt (fun _ _ _ _ _ _ => none) (fun k => b_X12_numberHere_34 k) n
theorem l_X12_numberHere_34 (n : Nat) : ∀ (h : aH) (a0 : Nat) (x1 : Int32) (x2 : Int32) (x3 : Int32) (x4 : Int32), AO eI 3 kX12_numberHere 34 [some (.ref a0), some (.int x1), some (.int x2), some (.int x3), some (.int x4)] [] h (f_X12_numberHere_34 n h a0 x1 x2 x3 x4) := by
  induction n with
  | zero => intros; exact ao_none
  | succ n ih =>
    intro h a0 x1 x2 x3 x4
    exact t_X12_numberHere_34 ih h a0 x1 x2 x3 x4
def f_X12_numberHere (h : aH) (a0 : Nat) (x1 : Int32) (x2 : Int32) : Option (Int32 × aH) :=
(if (sh a0).1 = 19 then
(aBind (f_X12_see h a0) fun r22 h23 =>
(aBind (f_X12_isDigit h23 a0 (hI h23 a0 8)) fun r24 h25 =>
(if r24 = 0 then
(aBind (f_X12_fails h25 a0 0 (hI h25 a0 8)) fun r26 h27 =>
(if r26 = 0 ∨ r26 = 1 then some (r26, h27) else none))
else
(aLet (hI h25 a0 8) fun x29 =>
f_X12_numberHere_34 2000 h25 a0 x1 x2 x29 0))))
else none)
set_option maxHeartbeats 2000000 in
theorem s_X12_numberHere (h : aH) (a0 : Nat) (x1 : Int32) (x2 : Int32) : SO eI 3 kX12_numberHere [.ref a0, .int x1, .int x2] h (f_X12_numberHere h a0 x1 x2) := by
  refine so_of (lv0 := [some (.ref a0), some (.int x1), some (.int x2), none, none]) pn_X12 (Nat.le_of_ble_eq_true rfl) rfl ?_
  unfold f_X12_numberHere
  refine ao_s (st_aload_n dX12_numberHere_0 rfl rfl) ?_
  refine ao_chk (fun e21 => ?_)
  refine ao_cVi (Kc := kX12_see) (As := []) (st := []) dX12_numberHere_1 ml_X12_102 mv_X12_see rfl e21 (by decide) rfl rfl (Nat.le_of_ble_eq_true rfl) (by decide) (s_X12_see h a0) (fun r22 h23 => ?_)
  refine ao_s (st_pop dX12_numberHere_4 rfl) ?_
  refine ao_s (st_aload_n dX12_numberHere_5 rfl rfl) ?_
  refine ao_s (st_aload_n dX12_numberHere_6 rfl rfl) ?_
  refine ao_getI dX12_numberHere_7 fl_X12_99 rfl e21 ?_
  refine ao_cVi (Kc := kX12_isDigit) (As := [.int (hI h23 a0 8)]) (st := []) dX12_numberHere_10 ml_X12_117 mv_X12_isDigit rfl e21 (by decide) rfl rfl (Nat.le_of_ble_eq_true rfl) (by decide) (s_X12_isDigit h23 a0 (hI h23 a0 8)) (fun r24 h25 => ?_)
  refine ao_br (br_if_ne (tgt := 26) dX12_numberHere_13 (by decide)) (fun c30 => ?_) (fun c30 => ?_)
  · refine ao_s (st_aload_n dX12_numberHere_16 rfl rfl) ?_
    refine ao_s (st_iconst dX12_numberHere_17 ic_0) ?_
    refine ao_s (st_aload_n dX12_numberHere_18 rfl rfl) ?_
    refine ao_getI dX12_numberHere_19 fl_X12_99 rfl e21 ?_
    refine ao_cVi (Kc := kX12_fails) (As := [.int 0, .int (hI h25 a0 8)]) (st := []) dX12_numberHere_22 ml_X12_120 mv_X12_fails rfl e21 (by decide) rfl rfl (Nat.le_of_ble_eq_true rfl) (by decide) (s_X12_fails h25 a0 0 (hI h25 a0 8)) (fun r26 h27 => ?_)
    refine ao_chk (fun c28 => ?_)
    exact ao_ir dX12_numberHere_25 rfl (nz c28).1
  · refine ao_s (st_aload_n dX12_numberHere_26 rfl rfl) ?_
    refine ao_getI dX12_numberHere_27 fl_X12_99 rfl e21 ?_
    refine ao_letI (fun x29 => ?_)
    refine ao_s (st_istore_n (lv' := [some (.ref a0), some (.int x1), some (.int x2), some (.int x29), none]) dX12_numberHere_30 rfl (by decide) rfl) ?_
    refine ao_s (st_iconst dX12_numberHere_31 ic_0) ?_
    refine ao_s (st_istore (lv' := [some (.ref a0), some (.int x1), some (.int x2), some (.int x29), some (.int 0)]) dX12_numberHere_32 (by decide) rfl) ?_
    exact ao_w (sb_s (sb_s (sb_s (sb_s (sb_s sb_0))))) (l_X12_numberHere_34 2000 h25 a0 x1 x2 x29 0)
def f_X12_wordHere (h : aH) (a0 : Nat) : Option (Int32 × aH) :=
(if (sh a0).1 = 19 then
(aBind (f_X12_isWord h a0 1936286821) fun r22 h23 =>
(if r22 = 0 then
(aBind (f_X12_isWord h23 a0 123581014175598) fun r24 h25 =>
(if r24 = 0 then
(aBind (f_X12_isWord h25 a0 478694368626) fun r26 h27 =>
(if r26 = 0 then
(aBind (f_X12_isWord h27 a0 465625113971) fun r28 h29 =>
(if r28 = 0 then
(aBind (f_X12_isWord h29 a0 465625113956) fun r30 h31 =>
(if r30 = 0 then
(aBind (f_X12_isWord h31 a0 521391927923) fun r32 h33 =>
(if r32 = 0 then
(aBind (f_X12_isWord h33 a0 483006772069) fun r34 h35 =>
(if r34 = 0 then
(aBind (f_X12_isWord h35 a0 1734960756) fun r36 h37 =>
(if r36 = 0 then
(aBind (f_X12_isWord h37 a0 1650815860) fun r38 h39 =>
(if r38 = 0 then
(aBind (f_X12_isWord h39 a0 2036687218) fun r40 h41 =>
(if r40 = 0 then
(aBind (f_X12_isWord h41 a0 448311223411) fun r42 h43 =>
(if r42 = 0 then
some ((-1), h43)
else
some (10, h43)))
else
some (9, h41)))
else
some (8, h39)))
else
some (7, h37)))
else
some (6, h35)))
else
some (5, h33)))
else
some (4, h31)))
else
some (3, h29)))
else
some (2, h27)))
else
some (1, h25)))
else
some (0, h23)))
else none)
set_option maxHeartbeats 2000000 in
theorem s_X12_wordHere (h : aH) (a0 : Nat) : SO eI 4 kX12_wordHere [.ref a0] h (f_X12_wordHere h a0) := by
  refine so_of (lv0 := [some (.ref a0)]) pn_X12 (Nat.le_of_ble_eq_true rfl) rfl ?_
  unfold f_X12_wordHere
  refine ao_s (st_aload_n dX12_wordHere_0 rfl rfl) ?_
  refine ao_s (st_ldc2 dX12_wordHere_1 cl_X12_131) ?_
  refine ao_chk (fun e21 => ?_)
  refine ao_cVi (Kc := kX12_isWord) (As := [.long 1936286821]) (st := []) dX12_wordHere_4 ml_X12_110 mv_X12_isWord rfl e21 (by decide) rfl rfl (Nat.le_of_ble_eq_true rfl) (by decide) (s_X12_isWord h a0 1936286821) (fun r22 h23 => ?_)
  refine ao_br (br_if_eq (tgt := 12) dX12_wordHere_7 (by decide)) (fun c54 => ?_) (fun c54 => ?_)
  · refine ao_s (st_aload_n dX12_wordHere_12 rfl rfl) ?_
    refine ao_s (st_ldc2 dX12_wordHere_13 cl_X12_133) ?_
    refine ao_cVi (Kc := kX12_isWord) (As := [.long 123581014175598]) (st := []) dX12_wordHere_16 ml_X12_110 mv_X12_isWord rfl e21 (by decide) rfl rfl (Nat.le_of_ble_eq_true rfl) (by decide) (s_X12_isWord h23 a0 123581014175598) (fun r24 h25 => ?_)
    refine ao_br (br_if_eq (tgt := 24) dX12_wordHere_19 (by decide)) (fun c53 => ?_) (fun c53 => ?_)
    · refine ao_s (st_aload_n dX12_wordHere_24 rfl rfl) ?_
      refine ao_s (st_ldc2 dX12_wordHere_25 cl_X12_135) ?_
      refine ao_cVi (Kc := kX12_isWord) (As := [.long 478694368626]) (st := []) dX12_wordHere_28 ml_X12_110 mv_X12_isWord rfl e21 (by decide) rfl rfl (Nat.le_of_ble_eq_true rfl) (by decide) (s_X12_isWord h25 a0 478694368626) (fun r26 h27 => ?_)
      refine ao_br (br_if_eq (tgt := 36) dX12_wordHere_31 (by decide)) (fun c52 => ?_) (fun c52 => ?_)
      · refine ao_s (st_aload_n dX12_wordHere_36 rfl rfl) ?_
        refine ao_s (st_ldc2 dX12_wordHere_37 cl_X12_137) ?_
        refine ao_cVi (Kc := kX12_isWord) (As := [.long 465625113971]) (st := []) dX12_wordHere_40 ml_X12_110 mv_X12_isWord rfl e21 (by decide) rfl rfl (Nat.le_of_ble_eq_true rfl) (by decide) (s_X12_isWord h27 a0 465625113971) (fun r28 h29 => ?_)
        refine ao_br (br_if_eq (tgt := 48) dX12_wordHere_43 (by decide)) (fun c51 => ?_) (fun c51 => ?_)
        · refine ao_s (st_aload_n dX12_wordHere_48 rfl rfl) ?_
          refine ao_s (st_ldc2 dX12_wordHere_49 cl_X12_139) ?_
          refine ao_cVi (Kc := kX12_isWord) (As := [.long 465625113956]) (st := []) dX12_wordHere_52 ml_X12_110 mv_X12_isWord rfl e21 (by decide) rfl rfl (Nat.le_of_ble_eq_true rfl) (by decide) (s_X12_isWord h29 a0 465625113956) (fun r30 h31 => ?_)
          refine ao_br (br_if_eq (tgt := 60) dX12_wordHere_55 (by decide)) (fun c50 => ?_) (fun c50 => ?_)
          · refine ao_s (st_aload_n dX12_wordHere_60 rfl rfl) ?_
            refine ao_s (st_ldc2 dX12_wordHere_61 cl_X12_141) ?_
            refine ao_cVi (Kc := kX12_isWord) (As := [.long 521391927923]) (st := []) dX12_wordHere_64 ml_X12_110 mv_X12_isWord rfl e21 (by decide) rfl rfl (Nat.le_of_ble_eq_true rfl) (by decide) (s_X12_isWord h31 a0 521391927923) (fun r32 h33 => ?_)
            refine ao_br (br_if_eq (tgt := 72) dX12_wordHere_67 (by decide)) (fun c49 => ?_) (fun c49 => ?_)
            · refine ao_s (st_aload_n dX12_wordHere_72 rfl rfl) ?_
              refine ao_s (st_ldc2 dX12_wordHere_73 cl_X12_143) ?_
              refine ao_cVi (Kc := kX12_isWord) (As := [.long 483006772069]) (st := []) dX12_wordHere_76 ml_X12_110 mv_X12_isWord rfl e21 (by decide) rfl rfl (Nat.le_of_ble_eq_true rfl) (by decide) (s_X12_isWord h33 a0 483006772069) (fun r34 h35 => ?_)
              refine ao_br (br_if_eq (tgt := 85) dX12_wordHere_79 (by decide)) (fun c48 => ?_) (fun c48 => ?_)
              · refine ao_s (st_aload_n dX12_wordHere_85 rfl rfl) ?_
                refine ao_s (st_ldc2 dX12_wordHere_86 cl_X12_145) ?_
                refine ao_cVi (Kc := kX12_isWord) (As := [.long 1734960756]) (st := []) dX12_wordHere_89 ml_X12_110 mv_X12_isWord rfl e21 (by decide) rfl rfl (Nat.le_of_ble_eq_true rfl) (by decide) (s_X12_isWord h35 a0 1734960756) (fun r36 h37 => ?_)
                refine ao_br (br_if_eq (tgt := 98) dX12_wordHere_92 (by decide)) (fun c47 => ?_) (fun c47 => ?_)
                · refine ao_s (st_aload_n dX12_wordHere_98 rfl rfl) ?_
                  refine ao_s (st_ldc2 dX12_wordHere_99 cl_X12_147) ?_
                  refine ao_cVi (Kc := kX12_isWord) (As := [.long 1650815860]) (st := []) dX12_wordHere_102 ml_X12_110 mv_X12_isWord rfl e21 (by decide) rfl rfl (Nat.le_of_ble_eq_true rfl) (by decide) (s_X12_isWord h37 a0 1650815860) (fun r38 h39 => ?_)
                  refine ao_br (br_if_eq (tgt := 111) dX12_wordHere_105 (by decide)) (fun c46 => ?_) (fun c46 => ?_)
                  · refine ao_s (st_aload_n dX12_wordHere_111 rfl rfl) ?_
                    refine ao_s (st_ldc2 dX12_wordHere_112 cl_X12_149) ?_
                    refine ao_cVi (Kc := kX12_isWord) (As := [.long 2036687218]) (st := []) dX12_wordHere_115 ml_X12_110 mv_X12_isWord rfl e21 (by decide) rfl rfl (Nat.le_of_ble_eq_true rfl) (by decide) (s_X12_isWord h39 a0 2036687218) (fun r40 h41 => ?_)
                    refine ao_br (br_if_eq (tgt := 126) dX12_wordHere_118 (by decide)) (fun c45 => ?_) (fun c45 => ?_)
                    · refine ao_s (st_aload_n dX12_wordHere_126 rfl rfl) ?_
                      refine ao_s (st_ldc2 dX12_wordHere_127 cl_X12_151) ?_
                      refine ao_cVi (Kc := kX12_isWord) (As := [.long 448311223411]) (st := []) dX12_wordHere_130 ml_X12_110 mv_X12_isWord rfl e21 (by decide) rfl rfl (Nat.le_of_ble_eq_true rfl) (by decide) (s_X12_isWord h41 a0 448311223411) (fun r42 h43 => ?_)
                      refine ao_br (br_if_eq (tgt := 141) dX12_wordHere_133 (by decide)) (fun c44 => ?_) (fun c44 => ?_)
                      · refine ao_s (st_iconst dX12_wordHere_141 ic_m1) ?_
                        exact ao_ir dX12_wordHere_142 rfl rfl
                      · refine ao_s (st_bipush dX12_wordHere_136 bp_10) ?_
                        refine ao_s (st_goto 142 dX12_wordHere_138 (by decide)) ?_
                        exact ao_ir dX12_wordHere_142 rfl rfl
                    · refine ao_s (st_bipush dX12_wordHere_121 bp_9) ?_
                      refine ao_s (st_goto 142 dX12_wordHere_123 (by decide)) ?_
                      exact ao_ir dX12_wordHere_142 rfl rfl
                  · refine ao_s (st_bipush dX12_wordHere_108 bp_8) ?_
                    exact ao_ir dX12_wordHere_110 rfl rfl
                · refine ao_s (st_bipush dX12_wordHere_95 bp_7) ?_
                  exact ao_ir dX12_wordHere_97 rfl rfl
              · refine ao_s (st_bipush dX12_wordHere_82 bp_6) ?_
                exact ao_ir dX12_wordHere_84 rfl rfl
            · refine ao_s (st_iconst dX12_wordHere_70 ic_5) ?_
              exact ao_ir dX12_wordHere_71 rfl rfl
          · refine ao_s (st_iconst dX12_wordHere_58 ic_4) ?_
            exact ao_ir dX12_wordHere_59 rfl rfl
        · refine ao_s (st_iconst dX12_wordHere_46 ic_3) ?_
          exact ao_ir dX12_wordHere_47 rfl rfl
      · refine ao_s (st_iconst dX12_wordHere_34 ic_2) ?_
        exact ao_ir dX12_wordHere_35 rfl rfl
    · refine ao_s (st_iconst dX12_wordHere_22 ic_1) ?_
      exact ao_ir dX12_wordHere_23 rfl rfl
  · refine ao_s (st_iconst dX12_wordHere_10 ic_0) ?_
    exact ao_ir dX12_wordHere_11 rfl rfl
def f_X12_puts (h : aH) (a0 : Nat) (x1 : Int32) (x2 : Int32) : Option (Unit × aH) :=
(if (sh a0).1 = 19 then
((hR h a0 3).bind fun b22 =>
((hR h a0 4).bind fun b23 =>
(aLet (hI h a0 11) fun x24 =>
(if (sh b23).1 = 0 then
(if aIn x24 (sh b23).2 then
(aLet ((400 * (hI h a0 11)) + (hI h b23 x24.toNatClampNeg)) fun x26 =>
(if (sh b22).1 = 0 then
(if aIn x26 (sh b22).2 then
(aLet (pI h b22 x26.toNatClampNeg (x1 + (16 * x2))) fun h28 =>
((hR h28 a0 4).bind fun b29 =>
(aLet (hI h28 a0 11) fun x30 =>
(if (sh b29).1 = 0 then
(if aIn x30 (sh b29).2 then
(if aIn x30 (sh b29).2 then
(aLet (pI h28 b29 x30.toNatClampNeg ((hI h28 b29 x30.toNatClampNeg) + 1)) fun h32 =>
some ((), h32))
else none)
else none)
else none))))
else none)
else none))
else none)
else none))))
else none)
set_option maxHeartbeats 2000000 in
theorem s_X12_puts (h : aH) (a0 : Nat) (x1 : Int32) (x2 : Int32) : SO eV 2 kX12_puts [.ref a0, .int x1, .int x2] h (f_X12_puts h a0 x1 x2) := by
  refine so_of (lv0 := [some (.ref a0), some (.int x1), some (.int x2)]) pn_X12 (Nat.le_of_ble_eq_true rfl) rfl ?_
  unfold f_X12_puts
  refine ao_s (st_aload_n dX12_puts_0 rfl rfl) ?_
  refine ao_chk (fun e21 => ?_)
  refine ao_getR dX12_puts_1 fl_X12_13 rfl e21 (fun b22 => ?_)
  refine ao_s (st_sipush dX12_puts_4 sp_400) ?_
  refine ao_s (st_aload_n dX12_puts_7 rfl rfl) ?_
  refine ao_getI dX12_puts_8 fl_X12_153 rfl e21 ?_
  refine ao_s (st_imul dX12_puts_11) ?_
  refine ao_s (st_aload_n dX12_puts_12 rfl rfl) ?_
  refine ao_getR dX12_puts_13 fl_X12_17 rfl e21 (fun b23 => ?_)
  refine ao_s (st_aload_n dX12_puts_16 rfl rfl) ?_
  refine ao_getI dX12_puts_17 fl_X12_153 rfl e21 ?_
  refine ao_letI (fun x24 => ?_)
  refine ao_chk (fun e25 => ?_)
  refine ao_iald dX12_puts_20 e25 ?_
  refine ao_s (st_iadd dX12_puts_21) ?_
  refine ao_s (st_iload_n dX12_puts_22 rfl rfl) ?_
  refine ao_s (st_bipush dX12_puts_23 bp_16) ?_
  refine ao_s (st_iload_n dX12_puts_25 rfl rfl) ?_
  refine ao_s (st_imul dX12_puts_26) ?_
  refine ao_s (st_iadd dX12_puts_27) ?_
  refine ao_let2 (fun x26 => ?_)
  refine ao_chk (fun e27 => ?_)
  refine ao_iast dX12_puts_28 e27 ?_
  refine ao_letH (fun h28 => ?_)
  refine ao_s (st_aload_n dX12_puts_29 rfl rfl) ?_
  refine ao_getR dX12_puts_30 fl_X12_17 rfl e21 (fun b29 => ?_)
  refine ao_s (st_aload_n dX12_puts_33 rfl rfl) ?_
  refine ao_getI dX12_puts_34 fl_X12_153 rfl e21 ?_
  refine ao_letI (fun x30 => ?_)
  refine ao_s (st_dup2 dX12_puts_37 rfl rfl) ?_
  refine ao_chk (fun e31 => ?_)
  refine ao_iald dX12_puts_38 e31 ?_
  refine ao_s (st_iconst dX12_puts_39 ic_1) ?_
  refine ao_s (st_iadd dX12_puts_40) ?_
  refine ao_iast dX12_puts_41 e31 ?_
  refine ao_letH (fun h32 => ?_)
  exact ao_vr dX12_puts_42 rfl
def f_X12_makes (h : aH) (a0 : Nat) (x1 : Int32) : Option (Int32 × aH) :=
(if (sh a0).1 = 19 then
(if hI h a0 12 = 60 then
(aBind (f_X12_fails h a0 3 x1) fun r22 h23 =>
(if r22 = 0 ∨ r22 = 1 then some (r22, h23) else none))
else
(aLet (pI h a0 12 ((hI h a0 12) + 1)) fun h25 =>
some (1, h25)))
else none)
set_option maxHeartbeats 2000000 in
theorem s_X12_makes (h : aH) (a0 : Nat) (x1 : Int32) : SO eI 3 kX12_makes [.ref a0, .int x1] h (f_X12_makes h a0 x1) := by
  refine so_of (lv0 := [some (.ref a0), some (.int x1)]) pn_X12 (Nat.le_of_ble_eq_true rfl) rfl ?_
  unfold f_X12_makes
  refine ao_s (st_aload_n dX12_makes_0 rfl rfl) ?_
  refine ao_chk (fun e21 => ?_)
  refine ao_getI dX12_makes_1 fl_X12_156 rfl e21 ?_
  refine ao_s (st_bipush dX12_makes_4 bp_60) ?_
  refine ao_br (br_icmp_ne (tgt := 16) dX12_makes_6 (by decide)) (fun c26 => ?_) (fun c26 => ?_)
  · refine ao_s (st_aload_n dX12_makes_9 rfl rfl) ?_
    refine ao_s (st_iconst dX12_makes_10 ic_3) ?_
    refine ao_s (st_iload_n dX12_makes_11 rfl rfl) ?_
    refine ao_cVi (Kc := kX12_fails) (As := [.int 3, .int x1]) (st := []) dX12_makes_12 ml_X12_120 mv_X12_fails rfl e21 (by decide) rfl rfl (Nat.le_of_ble_eq_true rfl) (by decide) (s_X12_fails h a0 3 x1) (fun r22 h23 => ?_)
    refine ao_chk (fun c24 => ?_)
    exact ao_ir dX12_makes_15 rfl (nz c24).1
  · refine ao_s (st_aload_n dX12_makes_16 rfl rfl) ?_
    refine ao_s (st_dup dX12_makes_17 rfl) ?_
    refine ao_getI dX12_makes_18 fl_X12_156 rfl e21 ?_
    refine ao_s (st_iconst dX12_makes_21 ic_1) ?_
    refine ao_s (st_iadd dX12_makes_22) ?_
    refine ao_putI dX12_makes_23 fl_X12_156 rfl rfl rfl rfl e21 ?_
    refine ao_letH (fun h25 => ?_)
    refine ao_s (st_iconst dX12_makes_26 ic_1) ?_
    exact ao_ir dX12_makes_27 rfl (by decide)
def f_X12_opens (h : aH) (a0 : Nat) (x1 : Int32) : Option (Int32 × aH) :=
(if (sh a0).1 = 19 then
(if hI h a0 13 = 10 then
(aBind (f_X12_fails h a0 2 (hI h a0 8)) fun r22 h23 =>
(if r22 = 0 ∨ r22 = 1 then some (r22, h23) else none))
else
(aLet (pI h a0 13 ((hI h a0 13) + 1)) fun h25 =>
((hR h25 a0 15).bind fun b26 =>
(aLet (hI h25 a0 16) fun x27 =>
(if (sh b26).1 = 0 then
(if aIn x27 (sh b26).2 then
(aLet (pI h25 b26 x27.toNatClampNeg x1) fun h29 =>
(aLet (pI h29 a0 16 ((hI h29 a0 16) + 1)) fun h30 =>
some (1, h30)))
else none)
else none)))))
else none)
set_option maxHeartbeats 2000000 in
theorem s_X12_opens (h : aH) (a0 : Nat) (x1 : Int32) : SO eI 3 kX12_opens [.ref a0, .int x1] h (f_X12_opens h a0 x1) := by
  refine so_of (lv0 := [some (.ref a0), some (.int x1)]) pn_X12 (Nat.le_of_ble_eq_true rfl) rfl ?_
  unfold f_X12_opens
  refine ao_s (st_aload_n dX12_opens_0 rfl rfl) ?_
  refine ao_chk (fun e21 => ?_)
  refine ao_getI dX12_opens_1 fl_X12_159 rfl e21 ?_
  refine ao_s (st_bipush dX12_opens_4 bp_10) ?_
  refine ao_br (br_icmp_ne (tgt := 19) dX12_opens_6 (by decide)) (fun c31 => ?_) (fun c31 => ?_)
  · refine ao_s (st_aload_n dX12_opens_9 rfl rfl) ?_
    refine ao_s (st_iconst dX12_opens_10 ic_2) ?_
    refine ao_s (st_aload_n dX12_opens_11 rfl rfl) ?_
    refine ao_getI dX12_opens_12 fl_X12_99 rfl e21 ?_
    refine ao_cVi (Kc := kX12_fails) (As := [.int 2, .int (hI h a0 8)]) (st := []) dX12_opens_15 ml_X12_120 mv_X12_fails rfl e21 (by decide) rfl rfl (Nat.le_of_ble_eq_true rfl) (by decide) (s_X12_fails h a0 2 (hI h a0 8)) (fun r22 h23 => ?_)
    refine ao_chk (fun c24 => ?_)
    exact ao_ir dX12_opens_18 rfl (nz c24).1
  · refine ao_s (st_aload_n dX12_opens_19 rfl rfl) ?_
    refine ao_s (st_dup dX12_opens_20 rfl) ?_
    refine ao_getI dX12_opens_21 fl_X12_159 rfl e21 ?_
    refine ao_s (st_iconst dX12_opens_24 ic_1) ?_
    refine ao_s (st_iadd dX12_opens_25) ?_
    refine ao_putI dX12_opens_26 fl_X12_159 rfl rfl rfl rfl e21 ?_
    refine ao_letH (fun h25 => ?_)
    refine ao_s (st_aload_n dX12_opens_29 rfl rfl) ?_
    refine ao_getR dX12_opens_30 fl_X12_29 rfl e21 (fun b26 => ?_)
    refine ao_s (st_aload_n dX12_opens_33 rfl rfl) ?_
    refine ao_getI dX12_opens_34 fl_X12_162 rfl e21 ?_
    refine ao_s (st_iload_n dX12_opens_37 rfl rfl) ?_
    refine ao_let2 (fun x27 => ?_)
    refine ao_chk (fun e28 => ?_)
    refine ao_iast dX12_opens_38 e28 ?_
    refine ao_letH (fun h29 => ?_)
    refine ao_s (st_aload_n dX12_opens_39 rfl rfl) ?_
    refine ao_s (st_dup dX12_opens_40 rfl) ?_
    refine ao_getI dX12_opens_41 fl_X12_162 rfl e21 ?_
    refine ao_s (st_iconst dX12_opens_44 ic_1) ?_
    refine ao_s (st_iadd dX12_opens_45) ?_
    refine ao_putI dX12_opens_46 fl_X12_162 rfl rfl rfl rfl e21 ?_
    refine ao_letH (fun h30 => ?_)
    refine ao_s (st_iconst dX12_opens_49 ic_1) ?_
    exact ao_ir dX12_opens_50 rfl (by decide)
def f_X12_strength (h : aH) (x0 : Int32) : Option (Int32 × aH) :=
(if x0 = 13 then
some (1, h)
else
(if x0 = 12 then
some (2, h)
else
(if x0 = 11 then
some (3, h)
else
some (0, h))))
set_option maxHeartbeats 2000000 in
theorem s_X12_strength (h : aH) (x0 : Int32) : SO eI 2 kX12_strength [.int x0] h (f_X12_strength h x0) := by
  refine so_of (lv0 := [some (.int x0)]) pn_X12 (Nat.le_of_ble_eq_true rfl) rfl ?_
  unfold f_X12_strength
  refine ao_s (st_iload_n dX12_strength_0 rfl rfl) ?_
  refine ao_s (st_bipush dX12_strength_1 bp_13) ?_
  refine ao_br (br_icmp_ne (tgt := 10) dX12_strength_3 (by decide)) (fun c23 => ?_) (fun c23 => ?_)
  · refine ao_s (st_iconst dX12_strength_6 ic_1) ?_
    refine ao_s (st_goto 31 dX12_strength_7 (by decide)) ?_
    exact ao_ir dX12_strength_31 rfl rfl
  · refine ao_s (st_iload_n dX12_strength_10 rfl rfl) ?_
    refine ao_s (st_bipush dX12_strength_11 bp_12) ?_
    refine ao_br (br_icmp_ne (tgt := 20) dX12_strength_13 (by decide)) (fun c22 => ?_) (fun c22 => ?_)
    · refine ao_s (st_iconst dX12_strength_16 ic_2) ?_
      refine ao_s (st_goto 31 dX12_strength_17 (by decide)) ?_
      exact ao_ir dX12_strength_31 rfl rfl
    · refine ao_s (st_iload_n dX12_strength_20 rfl rfl) ?_
      refine ao_s (st_bipush dX12_strength_21 bp_11) ?_
      refine ao_br (br_icmp_ne (tgt := 30) dX12_strength_23 (by decide)) (fun c21 => ?_) (fun c21 => ?_)
      · refine ao_s (st_iconst dX12_strength_26 ic_3) ?_
        refine ao_s (st_goto 31 dX12_strength_27 (by decide)) ?_
        exact ao_ir dX12_strength_31 rfl rfl
      · refine ao_s (st_iconst dX12_strength_30 ic_0) ?_
        exact ao_ir dX12_strength_31 rfl rfl
def b_X12_settles_0 (k0 : aH → Nat → Int32 → Option (Unit × aH)) (h : aH) (a0 : Nat) (x1 : Int32) : Option (Unit × aH) :=
(if (sh a0).1 = 19 then
(if hI h a0 16 ≤ 0 then
some ((), h)
else
((hR h a0 15).bind fun b22 =>
(aLet ((hI h a0 16) - 1) fun x23 =>
(if (sh b22).1 = 0 then
(if aIn x23 (sh b22).2 then
(aBind (f_X12_strength h (hI h b22 x23.toNatClampNeg)) fun r25 h26 =>
(if r25 < x1 then
some ((), h26)
else
(aLet (pI h26 a0 16 ((hI h26 a0 16) - 1)) fun h27 =>
((hR h27 a0 15).bind fun b28 =>
(aLet (hI h27 a0 16) fun x29 =>
(if (sh b28).1 = 0 then
(if aIn x29 (sh b28).2 then
(aBind (f_X12_puts h27 a0 (hI h27 b28 x29.toNatClampNeg) 0) fun r31 h32 =>
((hR h32 a0 15).bind fun b33 =>
(aLet (hI h32 a0 16) fun x34 =>
(if (sh b33).1 = 0 then
(if aIn x34 (sh b33).2 then
(if hI h32 b33 x34.toNatClampNeg = 11 then
(aLet (pI h32 a0 13 ((hI h32 a0 13) - 1)) fun h36 =>
k0 h36 a0 x1)
else
k0 h32 a0 x1)
else none)
else none))))
else none)
else none))))))
else none)
else none))))
else none)
set_option maxHeartbeats 2000000 in
theorem t_X12_settles_0 {k0 : aH → Nat → Int32 → Option (Unit × aH)} (hk0 : ∀ (h : aH) (a0 : Nat) (x1 : Int32), AO eV 3 kX12_settles 0 [some (.ref a0), some (.int x1)] [] h (k0 h a0 x1)) (h : aH) (a0 : Nat) (x1 : Int32) : AO eV 3 kX12_settles 0 [some (.ref a0), some (.int x1)] [] h (b_X12_settles_0 k0 h a0 x1) := by
  unfold b_X12_settles_0
  refine ao_s (st_aload_n dX12_settles_0 rfl rfl) ?_
  refine ao_chk (fun e21 => ?_)
  refine ao_getI dX12_settles_1 fl_X12_162 rfl e21 ?_
  refine ao_br (br_if_le (tgt := 76) dX12_settles_4 (by decide)) (fun c39 => ?_) (fun c39 => ?_)
  · exact ao_vr dX12_settles_76 rfl
  · refine ao_s (st_aload_n dX12_settles_7 rfl rfl) ?_
    refine ao_getR dX12_settles_8 fl_X12_29 rfl e21 (fun b22 => ?_)
    refine ao_s (st_aload_n dX12_settles_11 rfl rfl) ?_
    refine ao_getI dX12_settles_12 fl_X12_162 rfl e21 ?_
    refine ao_s (st_iconst dX12_settles_15 ic_1) ?_
    refine ao_s (st_isub dX12_settles_16) ?_
    refine ao_letI (fun x23 => ?_)
    refine ao_chk (fun e24 => ?_)
    refine ao_iald dX12_settles_17 e24 ?_
    refine ao_cSi (Kc := kX12_strength) (As := [.int (hI h b22 x23.toNatClampNeg)]) (st := []) dX12_settles_18 ml_X12_165 ms_X12_strength rfl rfl (Nat.le_of_ble_eq_true rfl) (by decide) (s_X12_strength h (hI h b22 x23.toNatClampNeg)) (fun r25 h26 => ?_)
    refine ao_s (st_iload_n dX12_settles_21 rfl rfl) ?_
    refine ao_br (br_icmp_lt (tgt := 76) dX12_settles_22 (by decide)) (fun c38 => ?_) (fun c38 => ?_)
    · exact ao_vr dX12_settles_76 rfl
    · refine ao_s (st_aload_n dX12_settles_25 rfl rfl) ?_
      refine ao_s (st_dup dX12_settles_26 rfl) ?_
      refine ao_getI dX12_settles_27 fl_X12_162 rfl e21 ?_
      refine ao_s (st_iconst dX12_settles_30 ic_1) ?_
      refine ao_s (st_isub dX12_settles_31) ?_
      refine ao_putI dX12_settles_32 fl_X12_162 rfl rfl rfl rfl e21 ?_
      refine ao_letH (fun h27 => ?_)
      refine ao_s (st_aload_n dX12_settles_35 rfl rfl) ?_
      refine ao_s (st_aload_n dX12_settles_36 rfl rfl) ?_
      refine ao_getR dX12_settles_37 fl_X12_29 rfl e21 (fun b28 => ?_)
      refine ao_s (st_aload_n dX12_settles_40 rfl rfl) ?_
      refine ao_getI dX12_settles_41 fl_X12_162 rfl e21 ?_
      refine ao_letI (fun x29 => ?_)
      refine ao_chk (fun e30 => ?_)
      refine ao_iald dX12_settles_44 e30 ?_
      refine ao_s (st_iconst dX12_settles_45 ic_0) ?_
      refine ao_cVv (Kc := kX12_puts) (As := [.int (hI h27 b28 x29.toNatClampNeg), .int 0]) (st := []) dX12_settles_46 ml_X12_169 mv_X12_puts rfl e21 (by decide) rfl rfl (Nat.le_of_ble_eq_true rfl) (by decide) (s_X12_puts h27 a0 (hI h27 b28 x29.toNatClampNeg) 0) (fun r31 h32 => ?_)
      refine ao_s (st_aload_n dX12_settles_49 rfl rfl) ?_
      refine ao_getR dX12_settles_50 fl_X12_29 rfl e21 (fun b33 => ?_)
      refine ao_s (st_aload_n dX12_settles_53 rfl rfl) ?_
      refine ao_getI dX12_settles_54 fl_X12_162 rfl e21 ?_
      refine ao_letI (fun x34 => ?_)
      refine ao_chk (fun e35 => ?_)
      refine ao_iald dX12_settles_57 e35 ?_
      refine ao_s (st_bipush dX12_settles_58 bp_11) ?_
      refine ao_br (br_icmp_ne (tgt := 0) dX12_settles_60 (by decide)) (fun c37 => ?_) (fun c37 => ?_)
      · refine ao_s (st_aload_n dX12_settles_63 rfl rfl) ?_
        refine ao_s (st_dup dX12_settles_64 rfl) ?_
        refine ao_getI dX12_settles_65 fl_X12_159 rfl e21 ?_
        refine ao_s (st_iconst dX12_settles_68 ic_1) ?_
        refine ao_s (st_isub dX12_settles_69) ?_
        refine ao_putI dX12_settles_70 fl_X12_159 rfl rfl rfl rfl e21 ?_
        refine ao_letH (fun h36 => ?_)
        refine ao_s (st_goto 0 dX12_settles_73 (by decide)) ?_
        exact ao_w (sb_s (sb_s sb_0)) (hk0 h36 a0 x1)
      · exact ao_w (sb_s (sb_s sb_0)) (hk0 h32 a0 x1)
def f_X12_settles_0 (n : Nat) : aH → Nat → Int32 → Option (Unit × aH) := aIt (fun _ _ _ => none) (fun k => b_X12_settles_0 k) n
theorem l_X12_settles_0 (n : Nat) : ∀ (h : aH) (a0 : Nat) (x1 : Int32), AO eV 3 kX12_settles 0 [some (.ref a0), some (.int x1)] [] h (f_X12_settles_0 n h a0 x1) := by
  induction n with
  | zero => intros; exact ao_none
  | succ n ih =>
    intro h a0 x1
    exact t_X12_settles_0 ih h a0 x1
def f_X12_settles (h : aH) (a0 : Nat) (x1 : Int32) : Option (Unit × aH) :=
f_X12_settles_0 2000 h a0 x1
set_option maxHeartbeats 2000000 in
theorem s_X12_settles (h : aH) (a0 : Nat) (x1 : Int32) : SO eV 3 kX12_settles [.ref a0, .int x1] h (f_X12_settles h a0 x1) := by
  refine so_of (lv0 := [some (.ref a0), some (.int x1)]) pn_X12 (Nat.le_of_ble_eq_true rfl) rfl ?_
  unfold f_X12_settles
  exact ao_w (sb_s (sb_s sb_0)) (l_X12_settles_0 2000 h a0 x1)
