def b_X6_readInto_70 (k28 : aH → Nat → Int32 → Int32 → Option (Int32 × aH)) (h : aH) (a0 : Nat) (x3 : Int32) (s0 : Int32) : Option (Int32 × aH) :=
k28 h a0 s0 (x3 + 1)
set_option maxHeartbeats 2000000 in
theorem t_X6_readInto_70 {k28 : aH → Nat → Int32 → Int32 → Option (Int32 × aH)} (hk28 : ∀ (h : aH) (a0 : Nat) (x2 : Int32) (x3 : Int32), AO eI 51 kX6_readInto 28 [some (.ref a0), none, some (.int x2), some (.int x3)] [] h (k28 h a0 x2 x3)) (h : aH) (a0 : Nat) (x3 : Int32) (s0 : Int32) : AO eI 51 kX6_readInto 70 [some (.ref a0), none, none, some (.int x3)] [.int s0] h (b_X6_readInto_70 k28 h a0 x3 s0) := by
  unfold b_X6_readInto_70
  refine ao_s (st_istore_n (lv' := [some (.ref a0), none, some (.int s0), some (.int x3)]) dX6_readInto_70 rfl (by decide) rfl) ?_
  refine ao_s (st_iinc (lv' := [some (.ref a0), none, some (.int s0), some (.int (x3 + 1))]) dX6_readInto_71 rfl nc_1 (by decide) rfl) ?_
  refine ao_s (st_goto 28 dX6_readInto_74 (by decide)) ?_
  exact ao_w (sb_s (sb_n (sb_s (sb_s sb_0)))) (hk28 h a0 s0 (x3 + 1))
def b_X6_readInto_69 (k28 : aH → Nat → Int32 → Int32 → Option (Int32 × aH)) (h : aH) (a0 : Nat) (x3 : Int32) : Option (Int32 × aH) :=
b_X6_readInto_70 k28 h a0 x3 0
set_option maxHeartbeats 2000000 in
theorem t_X6_readInto_69 {k28 : aH → Nat → Int32 → Int32 → Option (Int32 × aH)} (hk28 : ∀ (h : aH) (a0 : Nat) (x2 : Int32) (x3 : Int32), AO eI 51 kX6_readInto 28 [some (.ref a0), none, some (.int x2), some (.int x3)] [] h (k28 h a0 x2 x3)) (h : aH) (a0 : Nat) (x3 : Int32) : AO eI 51 kX6_readInto 69 [some (.ref a0), none, none, some (.int x3)] [] h (b_X6_readInto_69 k28 h a0 x3) := by
  unfold b_X6_readInto_69
  refine ao_s (st_iconst dX6_readInto_69 ic_0) ?_
  exact ao_w (sb_s (sb_n (sb_n (sb_s sb_0)))) (t_X6_readInto_70 hk28 h a0 x3 0)
def b_X6_readInto_77 (h : aH) (a0 : Nat) : Option (Int32 × aH) :=
(if (sh a0).1 = 13 then
((hR h a0 0).bind fun b22 =>
(if (sh b22).1 = 16 then
(aBind (f_X9_next h b22) fun r24 h25 =>
(if r24 = (-1) then
((hR h25 a0 0).bind fun b26 =>
(if (sh b26).1 = 16 then
some (hI h25 b26 3, h25)
else none))
else
((hR h25 a0 0).bind fun b28 =>
((hR h25 a0 0).bind fun b29 =>
(if (sh b29).1 = 16 then
(if (sh b28).1 = 16 then
(aBind (f_X9_blame h25 b28 (hI h25 b29 2) 0) fun r32 h33 =>
((hR h33 a0 0).bind fun b34 =>
(if (sh b34).1 = 16 then
some (hI h33 b34 3, h33)
else none)))
else none)
else none)))))
else none))
else none)
set_option maxHeartbeats 2000000 in
theorem t_X6_readInto_77 (h : aH) (a0 : Nat) : AO eI 51 kX6_readInto 77 [some (.ref a0), none, none, none] [] h (b_X6_readInto_77 h a0) := by
  unfold b_X6_readInto_77
  refine ao_s (st_aload_n dX6_readInto_77 rfl rfl) ?_
  refine ao_chk (fun e21 => ?_)
  refine ao_getR dX6_readInto_78 fl_X6_22 rfl e21 (fun b22 => ?_)
  refine ao_chk (fun e23 => ?_)
  refine ao_cVi (Kc := kX9_next) (As := []) (st := []) dX6_readInto_81 ml_X6_45 mv_X9_next rfl e23 (by decide) rfl rfl (Nat.le_of_ble_eq_true rfl) (by decide) (s_X9_next h b22) (fun r24 h25 => ?_)
  refine ao_s (st_iconst dX6_readInto_84 ic_m1) ?_
  refine ao_br (br_icmp_eq (tgt := 103) dX6_readInto_85 (by decide)) (fun c36 => ?_) (fun c36 => ?_)
  · refine ao_s (st_aload_n dX6_readInto_103 rfl rfl) ?_
    refine ao_getR dX6_readInto_104 fl_X6_22 rfl e21 (fun b26 => ?_)
    refine ao_chk (fun e27 => ?_)
    refine ao_getI dX6_readInto_107 fl_X6_38 rfl e27 ?_
    exact ao_ir dX6_readInto_110 rfl rfl
  · refine ao_s (st_aload_n dX6_readInto_88 rfl rfl) ?_
    refine ao_getR dX6_readInto_89 fl_X6_22 rfl e21 (fun b28 => ?_)
    refine ao_s (st_aload_n dX6_readInto_92 rfl rfl) ?_
    refine ao_getR dX6_readInto_93 fl_X6_22 rfl e21 (fun b29 => ?_)
    refine ao_chk (fun e30 => ?_)
    refine ao_getI dX6_readInto_96 fl_X6_49 rfl e30 ?_
    refine ao_s (st_iconst dX6_readInto_99 ic_0) ?_
    refine ao_chk (fun e31 => ?_)
    refine ao_cVv (Kc := kX9_blame) (As := [.int (hI h25 b29 2), .int 0]) (st := []) dX6_readInto_100 ml_X6_52 mv_X9_blame rfl e31 (by decide) rfl rfl (Nat.le_of_ble_eq_true rfl) (by decide) (s_X9_blame h25 b28 (hI h25 b29 2) 0) (fun r32 h33 => ?_)
    refine ao_s (st_aload_n dX6_readInto_103 rfl rfl) ?_
    refine ao_getR dX6_readInto_104 fl_X6_22 rfl e21 (fun b34 => ?_)
    refine ao_chk (fun e35 => ?_)
    refine ao_getI dX6_readInto_107 fl_X6_38 rfl e35 ?_
    exact ao_ir dX6_readInto_110 rfl rfl
def b_X6_readInto_28 (k28 : aH → Nat → Int32 → Int32 → Option (Int32 × aH)) (h : aH) (a0 : Nat) (x2 : Int32) (x3 : Int32) : Option (Int32 × aH) :=
(if x2 = 0 then
b_X6_readInto_77 h a0
else
(if 12 < x3 then
b_X6_readInto_77 h a0
else
(if (sh a0).1 = 13 then
(aBind (f_X6_readClause h a0 x3) fun r22 h23 =>
((hR h23 a0 0).bind fun b24 =>
(if (sh b24).1 = 16 then
(if hI h23 b24 3 = 0 then
((hR h23 a0 0).bind fun b26 =>
(if (sh b26).1 = 16 then
(aBind (f_X9_takeSign h23 b26 59) fun r28 h29 =>
(if r28 = 0 then
b_X6_readInto_69 k28 h29 a0 x3
else
b_X6_readInto_70 k28 h29 a0 x3 1))
else none))
else
b_X6_readInto_69 k28 h23 a0 x3)
else none)))
else none)))
set_option maxHeartbeats 2000000 in
theorem t_X6_readInto_28 {k28 : aH → Nat → Int32 → Int32 → Option (Int32 × aH)} (hk28 : ∀ (h : aH) (a0 : Nat) (x2 : Int32) (x3 : Int32), AO eI 51 kX6_readInto 28 [some (.ref a0), none, some (.int x2), some (.int x3)] [] h (k28 h a0 x2 x3)) (h : aH) (a0 : Nat) (x2 : Int32) (x3 : Int32) : AO eI 51 kX6_readInto 28 [some (.ref a0), none, some (.int x2), some (.int x3)] [] h (b_X6_readInto_28 k28 h a0 x2 x3) := by
  unfold b_X6_readInto_28
  refine ao_s (st_iload_n dX6_readInto_28 rfl rfl) ?_
  refine ao_br (br_if_eq (tgt := 77) dX6_readInto_29 (by decide)) (fun c33 => ?_) (fun c33 => ?_)
  · exact ao_w (sb_s (sb_n (sb_n (sb_n sb_0)))) (t_X6_readInto_77 h a0)
  · refine ao_s (st_iload_n dX6_readInto_32 rfl rfl) ?_
    refine ao_s (st_bipush dX6_readInto_33 bp_12) ?_
    refine ao_br (br_icmp_gt (tgt := 77) dX6_readInto_35 (by decide)) (fun c32 => ?_) (fun c32 => ?_)
    · exact ao_w (sb_s (sb_n (sb_n (sb_n sb_0)))) (t_X6_readInto_77 h a0)
    · refine ao_s (st_aload_n dX6_readInto_38 rfl rfl) ?_
      refine ao_s (st_iload_n dX6_readInto_39 rfl rfl) ?_
      refine ao_chk (fun e21 => ?_)
      refine ao_cVv (Kc := kX6_readClause) (As := [.int x3]) (st := []) dX6_readInto_40 ml_X6_34 mv_X6_readClause rfl e21 (by decide) rfl rfl (Nat.le_of_ble_eq_true rfl) (by decide) (s_X6_readClause h a0 x3) (fun r22 h23 => ?_)
      refine ao_s (st_aload_n dX6_readInto_43 rfl rfl) ?_
      refine ao_getR dX6_readInto_44 fl_X6_22 rfl e21 (fun b24 => ?_)
      refine ao_chk (fun e25 => ?_)
      refine ao_getI dX6_readInto_47 fl_X6_38 rfl e25 ?_
      refine ao_br (br_if_ne (tgt := 69) dX6_readInto_50 (by decide)) (fun c31 => ?_) (fun c31 => ?_)
      · refine ao_s (st_aload_n dX6_readInto_53 rfl rfl) ?_
        refine ao_getR dX6_readInto_54 fl_X6_22 rfl e21 (fun b26 => ?_)
        refine ao_s (st_bipush dX6_readInto_57 bp_59) ?_
        refine ao_chk (fun e27 => ?_)
        refine ao_cVi (Kc := kX9_takeSign) (As := [.int 59]) (st := []) dX6_readInto_59 ml_X6_41 mv_X9_takeSign rfl e27 (by decide) rfl rfl (Nat.le_of_ble_eq_true rfl) (by decide) (s_X9_takeSign h23 b26 59) (fun r28 h29 => ?_)
        refine ao_br (br_if_eq (tgt := 69) dX6_readInto_62 (by decide)) (fun c30 => ?_) (fun c30 => ?_)
        · exact ao_w (sb_s (sb_n (sb_n (sb_s sb_0)))) (t_X6_readInto_69 hk28 h29 a0 x3)
        · refine ao_s (st_iconst dX6_readInto_65 ic_1) ?_
          refine ao_s (st_goto 70 dX6_readInto_66 (by decide)) ?_
          exact ao_w (sb_s (sb_n (sb_n (sb_s sb_0)))) (t_X6_readInto_70 hk28 h29 a0 x3 1)
      · exact ao_w (sb_s (sb_n (sb_n (sb_s sb_0)))) (t_X6_readInto_69 hk28 h23 a0 x3)
def f_X6_readInto_28 (n : Nat) : aH → Nat → Int32 → Int32 → Option (Int32 × aH) := aIt (fun _ _ _ _ => none) (fun k => b_X6_readInto_28 k) n
theorem l_X6_readInto_28 (n : Nat) : ∀ (h : aH) (a0 : Nat) (x2 : Int32) (x3 : Int32), AO eI 51 kX6_readInto 28 [some (.ref a0), none, some (.int x2), some (.int x3)] [] h (f_X6_readInto_28 n h a0 x2 x3) := by
  induction n with
  | zero => intros; exact ao_none
  | succ n ih =>
    intro h a0 x2 x3
    exact t_X6_readInto_28 ih h a0 x2 x3
def f_X6_readInto (h : aH) (a0 : Nat) (a1 : Nat) : Option (Int32 × aH) :=
(if (sh a0).1 = 13 then
(aLet (pR h a0 1 (some a1)) fun h22 =>
((hR h22 a0 1).bind fun b23 =>
(if (sh b23).1 = 12 then
(aBind (f_X5_clear h22 b23) fun r25 h26 =>
(aLet (pI h26 a0 2 0) fun h27 =>
((hR h27 a0 0).bind fun b28 =>
(if (sh b28).1 = 16 then
(aBind (f_X9_rewind h27 b28) fun r30 h31 =>
f_X6_readInto_28 2000 h31 a0 1 0)
else none))))
else none)))
else none)
set_option maxHeartbeats 2000000 in
theorem s_X6_readInto (h : aH) (a0 : Nat) (a1 : Nat) : SO eI 51 kX6_readInto [.ref a0, .ref a1] h (f_X6_readInto h a0 a1) := by
  refine so_of (lv0 := [some (.ref a0), some (.ref a1), none, none]) pn_X6 (Nat.le_of_ble_eq_true rfl) rfl ?_
  unfold f_X6_readInto
  refine ao_s (st_aload_n dX6_readInto_0 rfl rfl) ?_
  refine ao_s (st_aload_n dX6_readInto_1 rfl rfl) ?_
  refine ao_chk (fun e21 => ?_)
  refine ao_putR dX6_readInto_2 fl_X6_12 rfl rfl e21 ?_
  refine ao_letH (fun h22 => ?_)
  refine ao_s (st_aload_n dX6_readInto_5 rfl rfl) ?_
  refine ao_getR dX6_readInto_6 fl_X6_12 rfl e21 (fun b23 => ?_)
  refine ao_chk (fun e24 => ?_)
  refine ao_cVv (Kc := kX5_clear) (As := []) (st := []) dX6_readInto_9 ml_X6_26 mv_X5_clear rfl e24 (by decide) rfl rfl (Nat.le_of_ble_eq_true rfl) (by decide) (s_X5_clear h22 b23) (fun r25 h26 => ?_)
  refine ao_s (st_aload_n dX6_readInto_12 rfl rfl) ?_
  refine ao_s (st_iconst dX6_readInto_13 ic_0) ?_
  refine ao_putI dX6_readInto_14 fl_X6_18 rfl rfl rfl rfl e21 ?_
  refine ao_letH (fun h27 => ?_)
  refine ao_s (st_aload_n dX6_readInto_17 rfl rfl) ?_
  refine ao_getR dX6_readInto_18 fl_X6_22 rfl e21 (fun b28 => ?_)
  refine ao_chk (fun e29 => ?_)
  refine ao_cVv (Kc := kX9_rewind) (As := []) (st := []) dX6_readInto_21 ml_X6_29 mv_X9_rewind rfl e29 (by decide) rfl rfl (Nat.le_of_ble_eq_true rfl) (by decide) (s_X9_rewind h27 b28) (fun r30 h31 => ?_)
  refine ao_s (st_iconst dX6_readInto_24 ic_1) ?_
  refine ao_s (st_istore_n (lv' := [some (.ref a0), some (.ref a1), some (.int 1), none]) dX6_readInto_25 rfl (by decide) rfl) ?_
  refine ao_s (st_iconst dX6_readInto_26 ic_0) ?_
  refine ao_s (st_istore_n (lv' := [some (.ref a0), some (.ref a1), some (.int 1), some (.int 0)]) dX6_readInto_27 rfl (by decide) rfl) ?_
  exact ao_w (sb_s (sb_n (sb_s (sb_s sb_0)))) (l_X6_readInto_28 2000 h31 a0 1 0)
def b_X7_wouldRather_74 (h : aH) (x6 : Int32) (s0 : Int32) : Option (Int32 × aH) :=
(if x6 = 0 then
some (0, h)
else
(if s0 = 0 then
some (0, h)
else
some (1, h)))
set_option maxHeartbeats 2000000 in
theorem t_X7_wouldRather_74 (h : aH) (x6 : Int32) (s0 : Int32) : AO eI 3 kX7_wouldRather 74 [none, none, none, none, none, none, some (.int x6), none] [.int s0] h (b_X7_wouldRather_74 h x6 s0) := by
  unfold b_X7_wouldRather_74
  refine ao_s (st_istore (lv' := [none, none, none, none, none, none, some (.int x6), some (.int s0)]) dX7_wouldRather_74 (by decide) rfl) ?_
  refine ao_s (st_iload dX7_wouldRather_76 rfl) ?_
  refine ao_br (br_if_eq (tgt := 90) dX7_wouldRather_78 (by decide)) (fun c22 => ?_) (fun c22 => ?_)
  · refine ao_s (st_iconst dX7_wouldRather_90 ic_0) ?_
    exact ao_ir dX7_wouldRather_91 rfl (by decide)
  · refine ao_s (st_iload dX7_wouldRather_81 rfl) ?_
    refine ao_br (br_if_eq (tgt := 90) dX7_wouldRather_83 (by decide)) (fun c21 => ?_) (fun c21 => ?_)
    · refine ao_s (st_iconst dX7_wouldRather_90 ic_0) ?_
      exact ao_ir dX7_wouldRather_91 rfl (by decide)
    · refine ao_s (st_iconst dX7_wouldRather_86 ic_1) ?_
      refine ao_s (st_goto 91 dX7_wouldRather_87 (by decide)) ?_
      exact ao_ir dX7_wouldRather_91 rfl (by decide)
def b_X7_wouldRather_69 (h : aH) (x6 : Int32) : Option (Int32 × aH) :=
b_X7_wouldRather_74 h x6 1
set_option maxHeartbeats 2000000 in
theorem t_X7_wouldRather_69 (h : aH) (x6 : Int32) : AO eI 3 kX7_wouldRather 69 [none, none, none, none, none, none, some (.int x6), none] [] h (b_X7_wouldRather_69 h x6) := by
  unfold b_X7_wouldRather_69
  refine ao_s (st_iconst dX7_wouldRather_69 ic_1) ?_
  refine ao_s (st_goto 74 dX7_wouldRather_70 (by decide)) ?_
  exact ao_w (sb_n (sb_n (sb_n (sb_n (sb_n (sb_n (sb_s (sb_n sb_0)))))))) (t_X7_wouldRather_74 h x6 1)
def b_X7_wouldRather_44 (h : aH) (a1 : Nat) (x2 : Int32) (x3 : Int32) (x5 : Int32) (s0 : Int32) : Option (Int32 × aH) :=
(if x5 < 0 then
b_X7_wouldRather_69 h s0
else
(if (sh a1).1 = 15 then
(aBind (f_X8_like h a1 1 x2 x3) fun r22 h23 =>
(aBind (f_X8_like h23 a1 1 x5 x3) fun r24 h25 =>
(if r22 ≤ r24 then
b_X7_wouldRather_74 h25 s0 0
else
b_X7_wouldRather_69 h25 s0)))
else none))
set_option maxHeartbeats 2000000 in
theorem t_X7_wouldRather_44 (h : aH) (a1 : Nat) (x2 : Int32) (x3 : Int32) (x5 : Int32) (s0 : Int32) : AO eI 3 kX7_wouldRather 44 [none, some (.ref a1), some (.int x2), some (.int x3), none, some (.int x5), none, none] [.int s0] h (b_X7_wouldRather_44 h a1 x2 x3 x5 s0) := by
  unfold b_X7_wouldRather_44
  refine ao_s (st_istore (lv' := [none, some (.ref a1), some (.int x2), some (.int x3), none, some (.int x5), some (.int s0), none]) dX7_wouldRather_44 (by decide) rfl) ?_
  refine ao_s (st_iload dX7_wouldRather_46 rfl) ?_
  refine ao_br (br_if_lt (tgt := 69) dX7_wouldRather_48 (by decide)) (fun c27 => ?_) (fun c27 => ?_)
  · exact ao_w (sb_n (sb_n (sb_n (sb_n (sb_n (sb_n (sb_s (sb_n sb_0)))))))) (t_X7_wouldRather_69 h s0)
  · refine ao_s (st_aload_n dX7_wouldRather_51 rfl rfl) ?_
    refine ao_s (st_iconst dX7_wouldRather_52 ic_1) ?_
    refine ao_s (st_iload_n dX7_wouldRather_53 rfl rfl) ?_
    refine ao_s (st_iload_n dX7_wouldRather_54 rfl rfl) ?_
    refine ao_chk (fun e21 => ?_)
    refine ao_cVi (Kc := kX8_like) (As := [.int 1, .int x2, .int x3]) (st := []) dX7_wouldRather_55 ml_X7_55 mv_X8_like rfl e21 (by decide) rfl rfl (Nat.le_of_ble_eq_true rfl) (by decide) (s_X8_like h a1 1 x2 x3) (fun r22 h23 => ?_)
    refine ao_s (st_aload_n dX7_wouldRather_58 rfl rfl) ?_
    refine ao_s (st_iconst dX7_wouldRather_59 ic_1) ?_
    refine ao_s (st_iload dX7_wouldRather_60 rfl) ?_
    refine ao_s (st_iload_n dX7_wouldRather_62 rfl rfl) ?_
    refine ao_cVi (Kc := kX8_like) (As := [.int 1, .int x5, .int x3]) (st := [.int r22]) dX7_wouldRather_63 ml_X7_55 mv_X8_like rfl e21 (by decide) rfl rfl (Nat.le_of_ble_eq_true rfl) (by decide) (s_X8_like h23 a1 1 x5 x3) (fun r24 h25 => ?_)
    refine ao_br (br_icmp_le (tgt := 73) dX7_wouldRather_66 (by decide)) (fun c26 => ?_) (fun c26 => ?_)
    · refine ao_s (st_iconst dX7_wouldRather_73 ic_0) ?_
      exact ao_w (sb_n (sb_n (sb_n (sb_n (sb_n (sb_n (sb_s (sb_n sb_0)))))))) (t_X7_wouldRather_74 h25 s0 0)
    · exact ao_w (sb_n (sb_n (sb_n (sb_n (sb_n (sb_n (sb_s (sb_n sb_0)))))))) (t_X7_wouldRather_69 h25 s0)
def b_X7_wouldRather_39 (h : aH) (a1 : Nat) (x2 : Int32) (x3 : Int32) (x5 : Int32) : Option (Int32 × aH) :=
b_X7_wouldRather_44 h a1 x2 x3 x5 1
set_option maxHeartbeats 2000000 in
theorem t_X7_wouldRather_39 (h : aH) (a1 : Nat) (x2 : Int32) (x3 : Int32) (x5 : Int32) : AO eI 3 kX7_wouldRather 39 [none, some (.ref a1), some (.int x2), some (.int x3), none, some (.int x5), none, none] [] h (b_X7_wouldRather_39 h a1 x2 x3 x5) := by
  unfold b_X7_wouldRather_39
  refine ao_s (st_iconst dX7_wouldRather_39 ic_1) ?_
  refine ao_s (st_goto 44 dX7_wouldRather_40 (by decide)) ?_
  exact ao_w (sb_n (sb_s (sb_s (sb_s (sb_n (sb_s (sb_n (sb_n sb_0)))))))) (t_X7_wouldRather_44 h a1 x2 x3 x5 1)
def f_X7_wouldRather (h : aH) (a0 : Nat) (a1 : Nat) (x2 : Int32) (x3 : Int32) : Option (Int32 × aH) :=
(if (sh a0).1 = 14 then
((hR h a0 0).bind fun b22 =>
(if (sh b22).1 = 0 then
(if aIn x2 (sh b22).2 then
(aLet (hI h b22 x2.toNatClampNeg) fun x24 =>
((hR h a0 1).bind fun b25 =>
(if (sh b25).1 = 0 then
(if aIn x3 (sh b25).2 then
(aLet (hI h b25 x3.toNatClampNeg) fun x27 =>
(if x24 < 0 then
b_X7_wouldRather_39 h a1 x2 x3 x27
else
(if (sh a1).1 = 15 then
(aBind (f_X8_like h a1 0 x2 x3) fun r29 h30 =>
(aBind (f_X8_like h30 a1 0 x2 x24) fun r31 h32 =>
(if r29 ≤ r31 then
b_X7_wouldRather_44 h32 a1 x2 x3 x27 0
else
b_X7_wouldRather_39 h32 a1 x2 x3 x27)))
else none)))
else none)
else none)))
else none)
else none))
else none)
set_option maxHeartbeats 2000000 in
theorem s_X7_wouldRather (h : aH) (a0 : Nat) (a1 : Nat) (x2 : Int32) (x3 : Int32) : SO eI 3 kX7_wouldRather [.ref a0, .ref a1, .int x2, .int x3] h (f_X7_wouldRather h a0 a1 x2 x3) := by
  refine so_of (lv0 := [some (.ref a0), some (.ref a1), some (.int x2), some (.int x3), none, none, none, none]) pn_X7 (Nat.le_of_ble_eq_true rfl) rfl ?_
  unfold f_X7_wouldRather
  refine ao_s (st_aload_n dX7_wouldRather_0 rfl rfl) ?_
  refine ao_chk (fun e21 => ?_)
  refine ao_getR dX7_wouldRather_1 fl_X7_9 rfl e21 (fun b22 => ?_)
  refine ao_s (st_iload_n dX7_wouldRather_4 rfl rfl) ?_
  refine ao_chk (fun e23 => ?_)
  refine ao_iald dX7_wouldRather_5 e23 ?_
  refine ao_letI (fun x24 => ?_)
  refine ao_s (st_istore (lv' := [some (.ref a0), some (.ref a1), some (.int x2), some (.int x3), some (.int x24), none, none, none]) dX7_wouldRather_6 (by decide) rfl) ?_
  refine ao_s (st_aload_n dX7_wouldRather_8 rfl rfl) ?_
  refine ao_getR dX7_wouldRather_9 fl_X7_15 rfl e21 (fun b25 => ?_)
  refine ao_s (st_iload_n dX7_wouldRather_12 rfl rfl) ?_
  refine ao_chk (fun e26 => ?_)
  refine ao_iald dX7_wouldRather_13 e26 ?_
  refine ao_letI (fun x27 => ?_)
  refine ao_s (st_istore (lv' := [some (.ref a0), some (.ref a1), some (.int x2), some (.int x3), some (.int x24), some (.int x27), none, none]) dX7_wouldRather_14 (by decide) rfl) ?_
  refine ao_s (st_iload dX7_wouldRather_16 rfl) ?_
  refine ao_br (br_if_lt (tgt := 39) dX7_wouldRather_18 (by decide)) (fun c34 => ?_) (fun c34 => ?_)
  · exact ao_w (sb_n (sb_s (sb_s (sb_s (sb_n (sb_s (sb_n (sb_n sb_0)))))))) (t_X7_wouldRather_39 h a1 x2 x3 x27)
  · refine ao_s (st_aload_n dX7_wouldRather_21 rfl rfl) ?_
    refine ao_s (st_iconst dX7_wouldRather_22 ic_0) ?_
    refine ao_s (st_iload_n dX7_wouldRather_23 rfl rfl) ?_
    refine ao_s (st_iload_n dX7_wouldRather_24 rfl rfl) ?_
    refine ao_chk (fun e28 => ?_)
    refine ao_cVi (Kc := kX8_like) (As := [.int 0, .int x2, .int x3]) (st := []) dX7_wouldRather_25 ml_X7_55 mv_X8_like rfl e28 (by decide) rfl rfl (Nat.le_of_ble_eq_true rfl) (by decide) (s_X8_like h a1 0 x2 x3) (fun r29 h30 => ?_)
    refine ao_s (st_aload_n dX7_wouldRather_28 rfl rfl) ?_
    refine ao_s (st_iconst dX7_wouldRather_29 ic_0) ?_
    refine ao_s (st_iload_n dX7_wouldRather_30 rfl rfl) ?_
    refine ao_s (st_iload dX7_wouldRather_31 rfl) ?_
    refine ao_cVi (Kc := kX8_like) (As := [.int 0, .int x2, .int x24]) (st := [.int r29]) dX7_wouldRather_33 ml_X7_55 mv_X8_like rfl e28 (by decide) rfl rfl (Nat.le_of_ble_eq_true rfl) (by decide) (s_X8_like h30 a1 0 x2 x24) (fun r31 h32 => ?_)
    refine ao_br (br_icmp_le (tgt := 43) dX7_wouldRather_36 (by decide)) (fun c33 => ?_) (fun c33 => ?_)
    · refine ao_s (st_iconst dX7_wouldRather_43 ic_0) ?_
      exact ao_w (sb_n (sb_s (sb_s (sb_s (sb_n (sb_s (sb_n (sb_n sb_0)))))))) (t_X7_wouldRather_44 h32 a1 x2 x3 x27 0)
    · exact ao_w (sb_n (sb_s (sb_s (sb_s (sb_n (sb_s (sb_n (sb_n sb_0)))))))) (t_X7_wouldRather_39 h32 a1 x2 x3 x27)
def b_X7_takeIfSettled_46 (k15 : aH → Nat → Nat → Int32 → Int32 → Int32 → Option (Unit × aH)) (h : aH) (a0 : Nat) (a1 : Nat) (x2 : Int32) (x3 : Int32) (x4 : Int32) : Option (Unit × aH) :=
k15 h a0 a1 x2 x3 (x4 + 1)
set_option maxHeartbeats 2000000 in
theorem t_X7_takeIfSettled_46 {k15 : aH → Nat → Nat → Int32 → Int32 → Int32 → Option (Unit × aH)} (hk15 : ∀ (h : aH) (a0 : Nat) (a1 : Nat) (x2 : Int32) (x3 : Int32) (x4 : Int32), AO eV 5 kX7_takeIfSettled 15 [some (.ref a0), some (.ref a1), some (.int x2), some (.int x3), some (.int x4)] [] h (k15 h a0 a1 x2 x3 x4)) (h : aH) (a0 : Nat) (a1 : Nat) (x2 : Int32) (x3 : Int32) (x4 : Int32) : AO eV 5 kX7_takeIfSettled 46 [some (.ref a0), some (.ref a1), some (.int x2), some (.int x3), some (.int x4)] [] h (b_X7_takeIfSettled_46 k15 h a0 a1 x2 x3 x4) := by
  unfold b_X7_takeIfSettled_46
  refine ao_s (st_iinc (lv' := [some (.ref a0), some (.ref a1), some (.int x2), some (.int x3), some (.int (x4 + 1))]) dX7_takeIfSettled_46 rfl nc_1 (by decide) rfl) ?_
  refine ao_s (st_goto 15 dX7_takeIfSettled_49 (by decide)) ?_
  exact ao_w (sb_s (sb_s (sb_s (sb_s (sb_s sb_0))))) (hk15 h a0 a1 x2 x3 (x4 + 1))
def b_X7_takeIfSettled_89 (k4 : aH → Nat → Nat → Int32 → Int32 → Option (Unit × aH)) (h : aH) (a0 : Nat) (a1 : Nat) (x2 : Int32) (x3 : Int32) : Option (Unit × aH) :=
k4 h a0 a1 x2 (x3 + 1)
set_option maxHeartbeats 2000000 in
theorem t_X7_takeIfSettled_89 {k4 : aH → Nat → Nat → Int32 → Int32 → Option (Unit × aH)} (hk4 : ∀ (h : aH) (a0 : Nat) (a1 : Nat) (x2 : Int32) (x3 : Int32), AO eV 5 kX7_takeIfSettled 4 [some (.ref a0), some (.ref a1), some (.int x2), some (.int x3), none] [] h (k4 h a0 a1 x2 x3)) (h : aH) (a0 : Nat) (a1 : Nat) (x2 : Int32) (x3 : Int32) : AO eV 5 kX7_takeIfSettled 89 [some (.ref a0), some (.ref a1), some (.int x2), some (.int x3), none] [] h (b_X7_takeIfSettled_89 k4 h a0 a1 x2 x3) := by
  unfold b_X7_takeIfSettled_89
  refine ao_s (st_iinc (lv' := [some (.ref a0), some (.ref a1), some (.int x2), some (.int (x3 + 1)), none]) dX7_takeIfSettled_89 rfl nc_1 (by decide) rfl) ?_
  refine ao_s (st_goto 4 dX7_takeIfSettled_92 (by decide)) ?_
  exact ao_w (sb_s (sb_s (sb_s (sb_s (sb_n sb_0))))) (hk4 h a0 a1 x2 (x3 + 1))
def b_X7_takeIfSettled_15 (k4 : aH → Nat → Nat → Int32 → Int32 → Option (Unit × aH)) (k15 : aH → Nat → Nat → Int32 → Int32 → Int32 → Option (Unit × aH)) (h : aH) (a0 : Nat) (a1 : Nat) (x2 : Int32) (x3 : Int32) (x4 : Int32) : Option (Unit × aH) :=
(if (sh a1).1 = 15 then
(if hI h a1 4 ≤ x4 then
(if (sh a0).1 = 14 then
((hR h a0 0).bind fun b23 =>
(if (sh b23).1 = 0 then
(if aIn x3 (sh b23).2 then
(if hI h b23 x3.toNatClampNeg < 0 then
b_X7_takeIfSettled_89 k4 h a0 a1 x2 x3
else
((hR h a0 0).bind fun b25 =>
(if (sh b25).1 = 0 then
(if aIn x3 (sh b25).2 then
(aBind (f_X8_like h a1 0 x3 (hI h b25 x3.toNatClampNeg)) fun r27 h28 =>
((hR h28 a0 0).bind fun b29 =>
(if (sh b29).1 = 0 then
(if aIn x3 (sh b29).2 then
(aBind (f_X8_like h28 a1 1 x3 (hI h28 b29 x3.toNatClampNeg)) fun r31 h32 =>
(aLet (x2 + (r27 + r31)) fun x33 =>
b_X7_takeIfSettled_89 k4 h32 a0 a1 x33 x3))
else none)
else none)))
else none)
else none)))
else none)
else none))
else none)
else
(aBind (f_X8_couldJoin h a1 x3 x4) fun r35 h36 =>
(if r35 = 0 then
b_X7_takeIfSettled_46 k15 h36 a0 a1 x2 x3 x4
else
(if (sh a0).1 = 14 then
(aBind (f_X7_wouldRather h36 a0 a1 x3 x4) fun r38 h39 =>
(if r38 = 0 then
b_X7_takeIfSettled_46 k15 h39 a0 a1 x2 x3 x4
else
some ((), h39)))
else none))))
else none)
set_option maxHeartbeats 2000000 in
theorem t_X7_takeIfSettled_15 {k4 : aH → Nat → Nat → Int32 → Int32 → Option (Unit × aH)} (hk4 : ∀ (h : aH) (a0 : Nat) (a1 : Nat) (x2 : Int32) (x3 : Int32), AO eV 5 kX7_takeIfSettled 4 [some (.ref a0), some (.ref a1), some (.int x2), some (.int x3), none] [] h (k4 h a0 a1 x2 x3)) {k15 : aH → Nat → Nat → Int32 → Int32 → Int32 → Option (Unit × aH)} (hk15 : ∀ (h : aH) (a0 : Nat) (a1 : Nat) (x2 : Int32) (x3 : Int32) (x4 : Int32), AO eV 5 kX7_takeIfSettled 15 [some (.ref a0), some (.ref a1), some (.int x2), some (.int x3), some (.int x4)] [] h (k15 h a0 a1 x2 x3 x4)) (h : aH) (a0 : Nat) (a1 : Nat) (x2 : Int32) (x3 : Int32) (x4 : Int32) : AO eV 5 kX7_takeIfSettled 15 [some (.ref a0), some (.ref a1), some (.int x2), some (.int x3), some (.int x4)] [] h (b_X7_takeIfSettled_15 k4 k15 h a0 a1 x2 x3 x4) := by
  unfold b_X7_takeIfSettled_15
  refine ao_s (st_iload dX7_takeIfSettled_15 rfl) ?_
  refine ao_s (st_aload_n dX7_takeIfSettled_17 rfl rfl) ?_
  refine ao_chk (fun e21 => ?_)
  refine ao_getI dX7_takeIfSettled_18 fl_X7_45 rfl e21 ?_
  refine ao_br (br_icmp_ge (tgt := 52) dX7_takeIfSettled_21 (by decide)) (fun c42 => ?_) (fun c42 => ?_)
  · refine ao_s (st_aload_n dX7_takeIfSettled_52 rfl rfl) ?_
    refine ao_chk (fun e22 => ?_)
    refine ao_getR dX7_takeIfSettled_53 fl_X7_9 rfl e22 (fun b23 => ?_)
    refine ao_s (st_iload_n dX7_takeIfSettled_56 rfl rfl) ?_
    refine ao_chk (fun e24 => ?_)
    refine ao_iald dX7_takeIfSettled_57 e24 ?_
    refine ao_br (br_if_lt (tgt := 89) dX7_takeIfSettled_58 (by decide)) (fun c34 => ?_) (fun c34 => ?_)
    · exact ao_w (sb_s (sb_s (sb_s (sb_s (sb_n sb_0))))) (t_X7_takeIfSettled_89 hk4 h a0 a1 x2 x3)
    · refine ao_s (st_iload_n dX7_takeIfSettled_61 rfl rfl) ?_
      refine ao_s (st_aload_n dX7_takeIfSettled_62 rfl rfl) ?_
      refine ao_s (st_iconst dX7_takeIfSettled_63 ic_0) ?_
      refine ao_s (st_iload_n dX7_takeIfSettled_64 rfl rfl) ?_
      refine ao_s (st_aload_n dX7_takeIfSettled_65 rfl rfl) ?_
      refine ao_getR dX7_takeIfSettled_66 fl_X7_9 rfl e22 (fun b25 => ?_)
      refine ao_s (st_iload_n dX7_takeIfSettled_69 rfl rfl) ?_
      refine ao_chk (fun e26 => ?_)
      refine ao_iald dX7_takeIfSettled_70 e26 ?_
      refine ao_cVi (Kc := kX8_like) (As := [.int 0, .int x3, .int (hI h b25 x3.toNatClampNeg)]) (st := [.int x2]) dX7_takeIfSettled_71 ml_X7_55 mv_X8_like rfl e21 (by decide) rfl rfl (Nat.le_of_ble_eq_true rfl) (by decide) (s_X8_like h a1 0 x3 (hI h b25 x3.toNatClampNeg)) (fun r27 h28 => ?_)
      refine ao_s (st_aload_n dX7_takeIfSettled_74 rfl rfl) ?_
      refine ao_s (st_iconst dX7_takeIfSettled_75 ic_1) ?_
      refine ao_s (st_iload_n dX7_takeIfSettled_76 rfl rfl) ?_
      refine ao_s (st_aload_n dX7_takeIfSettled_77 rfl rfl) ?_
      refine ao_getR dX7_takeIfSettled_78 fl_X7_9 rfl e22 (fun b29 => ?_)
      refine ao_s (st_iload_n dX7_takeIfSettled_81 rfl rfl) ?_
      refine ao_chk (fun e30 => ?_)
      refine ao_iald dX7_takeIfSettled_82 e30 ?_
      refine ao_cVi (Kc := kX8_like) (As := [.int 1, .int x3, .int (hI h28 b29 x3.toNatClampNeg)]) (st := [.int r27, .int x2]) dX7_takeIfSettled_83 ml_X7_55 mv_X8_like rfl e21 (by decide) rfl rfl (Nat.le_of_ble_eq_true rfl) (by decide) (s_X8_like h28 a1 1 x3 (hI h28 b29 x3.toNatClampNeg)) (fun r31 h32 => ?_)
      refine ao_s (st_iadd dX7_takeIfSettled_86) ?_
      refine ao_s (st_iadd dX7_takeIfSettled_87) ?_
      refine ao_letI (fun x33 => ?_)
      refine ao_s (st_istore_n (lv' := [some (.ref a0), some (.ref a1), some (.int x33), some (.int x3), some (.int x4)]) dX7_takeIfSettled_88 rfl (by decide) rfl) ?_
      exact ao_w (sb_s (sb_s (sb_s (sb_s (sb_n sb_0))))) (t_X7_takeIfSettled_89 hk4 h32 a0 a1 x33 x3)
  · refine ao_s (st_aload_n dX7_takeIfSettled_24 rfl rfl) ?_
    refine ao_s (st_iload_n dX7_takeIfSettled_25 rfl rfl) ?_
    refine ao_s (st_iload dX7_takeIfSettled_26 rfl) ?_
    refine ao_cVi (Kc := kX8_couldJoin) (As := [.int x3, .int x4]) (st := []) dX7_takeIfSettled_28 ml_X7_48 mv_X8_couldJoin rfl e21 (by decide) rfl rfl (Nat.le_of_ble_eq_true rfl) (by decide) (s_X8_couldJoin h a1 x3 x4) (fun r35 h36 => ?_)
    refine ao_br (br_if_eq (tgt := 46) dX7_takeIfSettled_31 (by decide)) (fun c41 => ?_) (fun c41 => ?_)
    · exact ao_w (sb_s (sb_s (sb_s (sb_s (sb_s sb_0))))) (t_X7_takeIfSettled_46 hk15 h36 a0 a1 x2 x3 x4)
    · refine ao_s (st_aload_n dX7_takeIfSettled_34 rfl rfl) ?_
      refine ao_s (st_aload_n dX7_takeIfSettled_35 rfl rfl) ?_
      refine ao_s (st_iload_n dX7_takeIfSettled_36 rfl rfl) ?_
      refine ao_s (st_iload dX7_takeIfSettled_37 rfl) ?_
      refine ao_chk (fun e37 => ?_)
      refine ao_cVi (Kc := kX7_wouldRather) (As := [.ref a1, .int x3, .int x4]) (st := []) dX7_takeIfSettled_39 ml_X7_51 mv_X7_wouldRather rfl e37 (by decide) rfl rfl (Nat.le_of_ble_eq_true rfl) (by decide) (s_X7_wouldRather h36 a0 a1 x3 x4) (fun r38 h39 => ?_)
      refine ao_br (br_if_eq (tgt := 46) dX7_takeIfSettled_42 (by decide)) (fun c40 => ?_) (fun c40 => ?_)
      · exact ao_w (sb_s (sb_s (sb_s (sb_s (sb_s sb_0))))) (t_X7_takeIfSettled_46 hk15 h39 a0 a1 x2 x3 x4)
      · exact ao_vr dX7_takeIfSettled_45 rfl
def f_X7_takeIfSettled_15 (k4 : aH → Nat → Nat → Int32 → Int32 → Option (Unit × aH)) (n : Nat) : aH → Nat → Nat → Int32 → Int32 → Int32 → Option (Unit × aH) := aIt (fun _ _ _ _ _ _ => none) (fun k => b_X7_takeIfSettled_15 k4 k) n
theorem l_X7_takeIfSettled_15 {k4 : aH → Nat → Nat → Int32 → Int32 → Option (Unit × aH)} (hk4 : ∀ (h : aH) (a0 : Nat) (a1 : Nat) (x2 : Int32) (x3 : Int32), AO eV 5 kX7_takeIfSettled 4 [some (.ref a0), some (.ref a1), some (.int x2), some (.int x3), none] [] h (k4 h a0 a1 x2 x3)) (n : Nat) : ∀ (h : aH) (a0 : Nat) (a1 : Nat) (x2 : Int32) (x3 : Int32) (x4 : Int32), AO eV 5 kX7_takeIfSettled 15 [some (.ref a0), some (.ref a1), some (.int x2), some (.int x3), some (.int x4)] [] h (f_X7_takeIfSettled_15 k4 n h a0 a1 x2 x3 x4) := by
  induction n with
  | zero => intros; exact ao_none
  | succ n ih =>
    intro h a0 a1 x2 x3 x4
    exact t_X7_takeIfSettled_15 hk4 ih h a0 a1 x2 x3 x4
def b_X7_takeIfSettled_116 (h : aH) (a0 : Nat) (x2 : Int32) : Option (Unit × aH) :=
(if (sh a0).1 = 14 then
(aLet (pI h a0 3 ((hI h a0 3) + 1)) fun h22 =>
(aLet (hI h22 a0 4) fun x23 =>
(aLet (pI h22 a0 4 (if x23 < x2 then x2 else x23)) fun h24 =>
some ((), h24))))
else none)
set_option maxHeartbeats 2000000 in
theorem t_X7_takeIfSettled_116 (h : aH) (a0 : Nat) (x2 : Int32) : AO eV 5 kX7_takeIfSettled 116 [some (.ref a0), none, some (.int x2), none, none] [] h (b_X7_takeIfSettled_116 h a0 x2) := by
  unfold b_X7_takeIfSettled_116
  refine ao_s (st_aload_n dX7_takeIfSettled_116 rfl rfl) ?_
  refine ao_s (st_dup dX7_takeIfSettled_117 rfl) ?_
  refine ao_chk (fun e21 => ?_)
  refine ao_getI dX7_takeIfSettled_118 fl_X7_21 rfl e21 ?_
  refine ao_s (st_iconst dX7_takeIfSettled_121 ic_1) ?_
  refine ao_s (st_iadd dX7_takeIfSettled_122) ?_
  refine ao_putI dX7_takeIfSettled_123 fl_X7_21 rfl rfl rfl rfl e21 ?_
  refine ao_letH (fun h22 => ?_)
  refine ao_s (st_aload_n dX7_takeIfSettled_126 rfl rfl) ?_
  refine ao_s (st_aload_n dX7_takeIfSettled_127 rfl rfl) ?_
  refine ao_getI dX7_takeIfSettled_128 fl_X7_25 rfl e21 ?_
  refine ao_s (st_iload_n dX7_takeIfSettled_131 rfl rfl) ?_
  refine ao_let2 (fun x23 => ?_)
  refine ao_mmax dX7_takeIfSettled_132 ml_X7_65 (Nat.le_of_ble_eq_true rfl) (by decide) ?_
  refine ao_putI dX7_takeIfSettled_135 fl_X7_25 rfl rfl rfl rfl e21 ?_
  refine ao_letH (fun h24 => ?_)
  exact ao_vr dX7_takeIfSettled_138 rfl
def b_X7_takeIfSettled_4 (k4 : aH → Nat → Nat → Int32 → Int32 → Option (Unit × aH)) (h : aH) (a0 : Nat) (a1 : Nat) (x2 : Int32) (x3 : Int32) : Option (Unit × aH) :=
(if (sh a1).1 = 15 then
(if hI h a1 3 ≤ x3 then
(if (sh a0).1 = 14 then
(if hI h a0 3 = 0 then
((hR h a0 0).bind fun b23 =>
((hR h a0 2).bind fun b24 =>
(if (sh b23).1 = 0 then
(if (sh b24).1 = 0 then
(if 4 ≤ (sh b23).2 ∧ 4 ≤ (sh b24).2 then
(aLet (wI h b24 (va_cpy (hI h b23) (hI h b24) (0 : Int32).toNatClampNeg (0 : Int32).toNatClampNeg (4 : Int32).toNatClampNeg)) fun h27 =>
b_X7_takeIfSettled_116 h27 a0 x2)
else none)
else none)
else none)))
else
b_X7_takeIfSettled_116 h a0 x2)
else none)
else
f_X7_takeIfSettled_15 k4 2000 h a0 a1 x2 x3 0)
else none)
set_option maxHeartbeats 2000000 in
theorem t_X7_takeIfSettled_4 {k4 : aH → Nat → Nat → Int32 → Int32 → Option (Unit × aH)} (hk4 : ∀ (h : aH) (a0 : Nat) (a1 : Nat) (x2 : Int32) (x3 : Int32), AO eV 5 kX7_takeIfSettled 4 [some (.ref a0), some (.ref a1), some (.int x2), some (.int x3), none] [] h (k4 h a0 a1 x2 x3)) (h : aH) (a0 : Nat) (a1 : Nat) (x2 : Int32) (x3 : Int32) : AO eV 5 kX7_takeIfSettled 4 [some (.ref a0), some (.ref a1), some (.int x2), some (.int x3), none] [] h (b_X7_takeIfSettled_4 k4 h a0 a1 x2 x3) := by
  unfold b_X7_takeIfSettled_4
  refine ao_s (st_iload_n dX7_takeIfSettled_4 rfl rfl) ?_
  refine ao_s (st_aload_n dX7_takeIfSettled_5 rfl rfl) ?_
  refine ao_chk (fun e21 => ?_)
  refine ao_getI dX7_takeIfSettled_6 fl_X7_32 rfl e21 ?_
  refine ao_br (br_icmp_ge (tgt := 95) dX7_takeIfSettled_9 (by decide)) (fun c30 => ?_) (fun c30 => ?_)
  · refine ao_s (st_aload_n dX7_takeIfSettled_95 rfl rfl) ?_
    refine ao_chk (fun e22 => ?_)
    refine ao_getI dX7_takeIfSettled_96 fl_X7_21 rfl e22 ?_
    refine ao_br (br_if_ne (tgt := 116) dX7_takeIfSettled_99 (by decide)) (fun c29 => ?_) (fun c29 => ?_)
    · refine ao_s (st_aload_n dX7_takeIfSettled_102 rfl rfl) ?_
      refine ao_getR dX7_takeIfSettled_103 fl_X7_9 rfl e22 (fun b23 => ?_)
      refine ao_s (st_iconst dX7_takeIfSettled_106 ic_0) ?_
      refine ao_s (st_aload_n dX7_takeIfSettled_107 rfl rfl) ?_
      refine ao_getR dX7_takeIfSettled_108 fl_X7_18 rfl e22 (fun b24 => ?_)
      refine ao_s (st_iconst dX7_takeIfSettled_111 ic_0) ?_
      refine ao_s (st_iconst dX7_takeIfSettled_112 ic_4) ?_
      refine ao_chk (fun e25 => ?_)
      refine ao_chk (fun e26 => ?_)
      refine ao_chk (fun c28 => ?_)
      refine ao_copy dX7_takeIfSettled_113 (wcp ml_X7_59) e25 e26 ⟨by decide, by decide, by decide, (cp_4 _ c28.1), (cp_4 _ c28.2)⟩ (Nat.le_of_ble_eq_true rfl) (by decide) ?_
      refine ao_letH (fun h27 => ?_)
      exact ao_w (sb_s (sb_n (sb_s (sb_n (sb_n sb_0))))) (t_X7_takeIfSettled_116 h27 a0 x2)
    · exact ao_w (sb_s (sb_n (sb_s (sb_n (sb_n sb_0))))) (t_X7_takeIfSettled_116 h a0 x2)
  · refine ao_s (st_iconst dX7_takeIfSettled_12 ic_0) ?_
    refine ao_s (st_istore (lv' := [some (.ref a0), some (.ref a1), some (.int x2), some (.int x3), some (.int 0)]) dX7_takeIfSettled_13 (by decide) rfl) ?_
    exact ao_w (sb_s (sb_s (sb_s (sb_s (sb_s sb_0))))) (l_X7_takeIfSettled_15 hk4 2000 h a0 a1 x2 x3 0)
def f_X7_takeIfSettled_4 (n : Nat) : aH → Nat → Nat → Int32 → Int32 → Option (Unit × aH) := aIt (fun _ _ _ _ _ => none) (fun k => b_X7_takeIfSettled_4 k) n
theorem l_X7_takeIfSettled_4 (n : Nat) : ∀ (h : aH) (a0 : Nat) (a1 : Nat) (x2 : Int32) (x3 : Int32), AO eV 5 kX7_takeIfSettled 4 [some (.ref a0), some (.ref a1), some (.int x2), some (.int x3), none] [] h (f_X7_takeIfSettled_4 n h a0 a1 x2 x3) := by
  induction n with
  | zero => intros; exact ao_none
  | succ n ih =>
    intro h a0 a1 x2 x3
    exact t_X7_takeIfSettled_4 ih h a0 a1 x2 x3
def f_X7_takeIfSettled (h : aH) (a0 : Nat) (a1 : Nat) : Option (Unit × aH) :=
f_X7_takeIfSettled_4 2000 h a0 a1 0 0
set_option maxHeartbeats 2000000 in
theorem s_X7_takeIfSettled (h : aH) (a0 : Nat) (a1 : Nat) : SO eV 5 kX7_takeIfSettled [.ref a0, .ref a1] h (f_X7_takeIfSettled h a0 a1) := by
  refine so_of (lv0 := [some (.ref a0), some (.ref a1), none, none, none]) pn_X7 (Nat.le_of_ble_eq_true rfl) rfl ?_
  unfold f_X7_takeIfSettled
  refine ao_s (st_iconst dX7_takeIfSettled_0 ic_0) ?_
  refine ao_s (st_istore_n (lv' := [some (.ref a0), some (.ref a1), some (.int 0), none, none]) dX7_takeIfSettled_1 rfl (by decide) rfl) ?_
  refine ao_s (st_iconst dX7_takeIfSettled_2 ic_0) ?_
  refine ao_s (st_istore_n (lv' := [some (.ref a0), some (.ref a1), some (.int 0), some (.int 0), none]) dX7_takeIfSettled_3 rfl (by decide) rfl) ?_
  exact ao_w (sb_s (sb_s (sb_s (sb_s (sb_n sb_0))))) (l_X7_takeIfSettled_4 2000 h a0 a1 0 0)
