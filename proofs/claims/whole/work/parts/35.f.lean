def b_X12_clauseHere_49 (h : aH) (a0 : Nat) (x1 : Int32) : Option (Int32 × aH) :=
(if (sh a0).1 = 19 then
(aBind (f_X12_fails h a0 0 x1) fun r22 h23 =>
(if r22 = 0 ∨ r22 = 1 then some (r22, h23) else none))
else none)
set_option maxHeartbeats 2000000 in
theorem t_X12_clauseHere_49 (h : aH) (a0 : Nat) (x1 : Int32) : AO eI 12 kX12_clauseHere 49 [some (.ref a0), some (.int x1), none] [] h (b_X12_clauseHere_49 h a0 x1) := by
  unfold b_X12_clauseHere_49
  refine ao_s (st_aload_n dX12_clauseHere_49 rfl rfl) ?_
  refine ao_s (st_iconst dX12_clauseHere_50 ic_0) ?_
  refine ao_s (st_iload_n dX12_clauseHere_51 rfl rfl) ?_
  refine ao_chk (fun e21 => ?_)
  refine ao_cVi (Kc := kX12_fails) (As := [.int 0, .int x1]) (st := []) dX12_clauseHere_52 ml_X12_120 mv_X12_fails rfl e21 (by decide) rfl rfl (Nat.le_of_ble_eq_true rfl) (by decide) (s_X12_fails h a0 0 x1) (fun r22 h23 => ?_)
  refine ao_chk (fun c24 => ?_)
  exact ao_ir dX12_clauseHere_55 rfl (nz c24).1
def b_X12_clauseHere_71 (h : aH) (a0 : Nat) (x1 : Int32) (x2 : Int32) (s0 : Int32) (s1 : Int32) : Option (Int32 × aH) :=
(if s1 = s0 then
(if (sh a0).1 = 19 then
(aBind (f_X12_fails h a0 4 x1) fun r22 h23 =>
(if r22 = 0 ∨ r22 = 1 then some (r22, h23) else none))
else none)
else
(if (sh a0).1 = 19 then
(aLet (pI h a0 14 ((hI h a0 14) + 1)) fun h26 =>
(if x2 = 0 then
(aBind (f_X12_isStayHere h26 a0) fun r27 h28 =>
(if r27 = 0 ∨ r27 = 1 then some (r27, h28) else none))
else
(aBind (f_X12_isleLineHere h26 a0 x1) fun r30 h31 =>
(if r30 = 0 ∨ r30 = 1 then some (r30, h31) else none))))
else none))
set_option maxHeartbeats 2000000 in
theorem t_X12_clauseHere_71 (h : aH) (a0 : Nat) (x1 : Int32) (x2 : Int32) (s0 : Int32) (s1 : Int32) : AO eI 12 kX12_clauseHere 71 [some (.ref a0), some (.int x1), some (.int x2)] [.int s0, .int s1] h (b_X12_clauseHere_71 h a0 x1 x2 s0 s1) := by
  unfold b_X12_clauseHere_71
  refine ao_br (br_icmp_ne (tgt := 81) dX12_clauseHere_71 (by decide)) (fun c34 => ?_) (fun c34 => ?_)
  · refine ao_s (st_aload_n dX12_clauseHere_74 rfl rfl) ?_
    refine ao_s (st_iconst dX12_clauseHere_75 ic_4) ?_
    refine ao_s (st_iload_n dX12_clauseHere_76 rfl rfl) ?_
    refine ao_chk (fun e21 => ?_)
    refine ao_cVi (Kc := kX12_fails) (As := [.int 4, .int x1]) (st := []) dX12_clauseHere_77 ml_X12_120 mv_X12_fails rfl e21 (by decide) rfl rfl (Nat.le_of_ble_eq_true rfl) (by decide) (s_X12_fails h a0 4 x1) (fun r22 h23 => ?_)
    refine ao_chk (fun c24 => ?_)
    exact ao_ir dX12_clauseHere_80 rfl (nz c24).1
  · refine ao_s (st_aload_n dX12_clauseHere_81 rfl rfl) ?_
    refine ao_s (st_dup dX12_clauseHere_82 rfl) ?_
    refine ao_chk (fun e25 => ?_)
    refine ao_getI dX12_clauseHere_83 fl_X12_258 rfl e25 ?_
    refine ao_s (st_iconst dX12_clauseHere_86 ic_1) ?_
    refine ao_s (st_iadd dX12_clauseHere_87) ?_
    refine ao_putI dX12_clauseHere_88 fl_X12_258 rfl rfl rfl rfl e25 ?_
    refine ao_letH (fun h26 => ?_)
    refine ao_s (st_iload_n dX12_clauseHere_91 rfl rfl) ?_
    refine ao_br (br_if_eq (tgt := 103) dX12_clauseHere_92 (by decide)) (fun c33 => ?_) (fun c33 => ?_)
    · refine ao_s (st_aload_n dX12_clauseHere_103 rfl rfl) ?_
      refine ao_cVi (Kc := kX12_isStayHere) (As := []) (st := []) dX12_clauseHere_104 ml_X12_264 mv_X12_isStayHere rfl e25 (by decide) rfl rfl (Nat.le_of_ble_eq_true rfl) (by decide) (s_X12_isStayHere h26 a0) (fun r27 h28 => ?_)
      refine ao_chk (fun c29 => ?_)
      exact ao_ir dX12_clauseHere_107 rfl (nz c29).1
    · refine ao_s (st_aload_n dX12_clauseHere_95 rfl rfl) ?_
      refine ao_s (st_iload_n dX12_clauseHere_96 rfl rfl) ?_
      refine ao_cVi (Kc := kX12_isleLineHere) (As := [.int x1]) (st := []) dX12_clauseHere_97 ml_X12_261 mv_X12_isleLineHere rfl e25 (by decide) rfl rfl (Nat.le_of_ble_eq_true rfl) (by decide) (s_X12_isleLineHere h26 a0 x1) (fun r30 h31 => ?_)
      refine ao_s (st_goto 107 dX12_clauseHere_100 (by decide)) ?_
      refine ao_chk (fun c32 => ?_)
      exact ao_ir dX12_clauseHere_107 rfl (nz c32).1
def b_X12_clauseHere_56 (h : aH) (a0 : Nat) (x1 : Int32) (x2 : Int32) : Option (Int32 × aH) :=
(if (sh a0).1 = 19 then
(if x2 = 0 then
b_X12_clauseHere_71 h a0 x1 x2 12 (hI h a0 14)
else
b_X12_clauseHere_71 h a0 x1 x2 40 (hI h a0 14))
else none)
set_option maxHeartbeats 2000000 in
theorem t_X12_clauseHere_56 (h : aH) (a0 : Nat) (x1 : Int32) (x2 : Int32) : AO eI 12 kX12_clauseHere 56 [some (.ref a0), some (.int x1), some (.int x2)] [] h (b_X12_clauseHere_56 h a0 x1 x2) := by
  unfold b_X12_clauseHere_56
  refine ao_s (st_aload_n dX12_clauseHere_56 rfl rfl) ?_
  refine ao_chk (fun e21 => ?_)
  refine ao_getI dX12_clauseHere_57 fl_X12_258 rfl e21 ?_
  refine ao_s (st_iload_n dX12_clauseHere_60 rfl rfl) ?_
  refine ao_br (br_if_eq (tgt := 69) dX12_clauseHere_61 (by decide)) (fun c22 => ?_) (fun c22 => ?_)
  · refine ao_s (st_bipush dX12_clauseHere_69 bp_12) ?_
    exact ao_w (sb_s (sb_s (sb_s sb_0))) (t_X12_clauseHere_71 h a0 x1 x2 12 (hI h a0 14))
  · refine ao_s (st_bipush dX12_clauseHere_64 bp_40) ?_
    refine ao_s (st_goto 71 dX12_clauseHere_66 (by decide)) ?_
    exact ao_w (sb_s (sb_s (sb_s sb_0))) (t_X12_clauseHere_71 h a0 x1 x2 40 (hI h a0 14))
def b_X12_clauseHere_24 (h : aH) (a0 : Nat) (x1 : Int32) (s0 : Int32) : Option (Int32 × aH) :=
(if s0 = 0 then
(if (sh a0).1 = 19 then
(aBind (f_X12_isWord h a0 1937006969) fun r22 h23 =>
(if r22 = 0 then
b_X12_clauseHere_49 h23 a0 x1
else
b_X12_clauseHere_56 h23 a0 x1 s0))
else none)
else
(if (sh a0).1 = 19 then
(aBind (f_X12_isIsleWord h a0) fun r26 h27 =>
(if r26 = 0 then
b_X12_clauseHere_49 h27 a0 x1
else
b_X12_clauseHere_56 h27 a0 x1 s0))
else none))
set_option maxHeartbeats 2000000 in
theorem t_X12_clauseHere_24 (h : aH) (a0 : Nat) (x1 : Int32) (s0 : Int32) : AO eI 12 kX12_clauseHere 24 [some (.ref a0), some (.int x1), none] [.int s0] h (b_X12_clauseHere_24 h a0 x1 s0) := by
  unfold b_X12_clauseHere_24
  refine ao_s (st_istore_n (lv' := [some (.ref a0), some (.int x1), some (.int s0)]) dX12_clauseHere_24 rfl (by decide) rfl) ?_
  refine ao_s (st_iload_n dX12_clauseHere_25 rfl rfl) ?_
  refine ao_br (br_if_eq (tgt := 39) dX12_clauseHere_26 (by decide)) (fun c29 => ?_) (fun c29 => ?_)
  · refine ao_s (st_aload_n dX12_clauseHere_39 rfl rfl) ?_
    refine ao_s (st_ldc2 dX12_clauseHere_40 cl_X12_256) ?_
    refine ao_chk (fun e21 => ?_)
    refine ao_cVi (Kc := kX12_isWord) (As := [.long 1937006969]) (st := []) dX12_clauseHere_43 ml_X12_110 mv_X12_isWord rfl e21 (by decide) rfl rfl (Nat.le_of_ble_eq_true rfl) (by decide) (s_X12_isWord h a0 1937006969) (fun r22 h23 => ?_)
    refine ao_br (br_if_ne (tgt := 56) dX12_clauseHere_46 (by decide)) (fun c24 => ?_) (fun c24 => ?_)
    · exact ao_w (sb_s (sb_s (sb_n sb_0))) (t_X12_clauseHere_49 h23 a0 x1)
    · exact ao_w (sb_s (sb_s (sb_s sb_0))) (t_X12_clauseHere_56 h23 a0 x1 s0)
  · refine ao_s (st_aload_n dX12_clauseHere_29 rfl rfl) ?_
    refine ao_chk (fun e25 => ?_)
    refine ao_cVi (Kc := kX12_isIsleWord) (As := []) (st := []) dX12_clauseHere_30 ml_X12_253 mv_X12_isIsleWord rfl e25 (by decide) rfl rfl (Nat.le_of_ble_eq_true rfl) (by decide) (s_X12_isIsleWord h a0) (fun r26 h27 => ?_)
    refine ao_br (br_if_ne (tgt := 56) dX12_clauseHere_33 (by decide)) (fun c28 => ?_) (fun c28 => ?_)
    · refine ao_s (st_goto 49 dX12_clauseHere_36 (by decide)) ?_
      exact ao_w (sb_s (sb_s (sb_n sb_0))) (t_X12_clauseHere_49 h27 a0 x1)
    · exact ao_w (sb_s (sb_s (sb_s sb_0))) (t_X12_clauseHere_56 h27 a0 x1 s0)
def f_X12_clauseHere (h : aH) (a0 : Nat) : Option (Int32 × aH) :=
(if (sh a0).1 = 19 then
(aBind (f_X12_see h a0) fun r22 h23 =>
(aLet (hI h23 a0 8) fun x24 =>
(if hI h23 a0 11 = 6 then
b_X12_clauseHere_24 h23 a0 x24 1
else
b_X12_clauseHere_24 h23 a0 x24 0)))
else none)
set_option maxHeartbeats 2000000 in
theorem s_X12_clauseHere (h : aH) (a0 : Nat) : SO eI 12 kX12_clauseHere [.ref a0] h (f_X12_clauseHere h a0) := by
  refine so_of (lv0 := [some (.ref a0), none, none]) pn_X12 (Nat.le_of_ble_eq_true rfl) rfl ?_
  unfold f_X12_clauseHere
  refine ao_s (st_aload_n dX12_clauseHere_0 rfl rfl) ?_
  refine ao_chk (fun e21 => ?_)
  refine ao_cVi (Kc := kX12_see) (As := []) (st := []) dX12_clauseHere_1 ml_X12_102 mv_X12_see rfl e21 (by decide) rfl rfl (Nat.le_of_ble_eq_true rfl) (by decide) (s_X12_see h a0) (fun r22 h23 => ?_)
  refine ao_s (st_pop dX12_clauseHere_4 rfl) ?_
  refine ao_s (st_aload_n dX12_clauseHere_5 rfl rfl) ?_
  refine ao_getI dX12_clauseHere_6 fl_X12_99 rfl e21 ?_
  refine ao_letI (fun x24 => ?_)
  refine ao_s (st_istore_n (lv' := [some (.ref a0), some (.int x24), none]) dX12_clauseHere_9 rfl (by decide) rfl) ?_
  refine ao_s (st_aload_n dX12_clauseHere_10 rfl rfl) ?_
  refine ao_getI dX12_clauseHere_11 fl_X12_153 rfl e21 ?_
  refine ao_s (st_bipush dX12_clauseHere_14 bp_6) ?_
  refine ao_br (br_icmp_ne (tgt := 23) dX12_clauseHere_16 (by decide)) (fun c25 => ?_) (fun c25 => ?_)
  · refine ao_s (st_iconst dX12_clauseHere_19 ic_1) ?_
    refine ao_s (st_goto 24 dX12_clauseHere_20 (by decide)) ?_
    exact ao_w (sb_s (sb_s (sb_n sb_0))) (t_X12_clauseHere_24 h23 a0 x24 1)
  · refine ao_s (st_iconst dX12_clauseHere_23 ic_0) ?_
    exact ao_w (sb_s (sb_s (sb_n sb_0))) (t_X12_clauseHere_24 h23 a0 x24 0)
def b_X12_readsAll_88 (h : aH) (a0 : Nat) : Option (Int32 × aH) :=
(if (sh a0).1 = 19 then
(aLet (pI h a0 1 0) fun h22 =>
(if hI h22 a0 9 = 0 then
some (1, h22)
else
some (0, h22)))
else none)
set_option maxHeartbeats 2000000 in
theorem t_X12_readsAll_88 (h : aH) (a0 : Nat) : AO eI 13 kX12_readsAll 88 [some (.ref a0), none] [] h (b_X12_readsAll_88 h a0) := by
  unfold b_X12_readsAll_88
  refine ao_s (st_aload_n dX12_readsAll_88 rfl rfl) ?_
  refine ao_s (st_iconst dX12_readsAll_89 ic_0) ?_
  refine ao_chk (fun e21 => ?_)
  refine ao_putI dX12_readsAll_90 fl_X12_89 rfl rfl rfl rfl e21 ?_
  refine ao_letH (fun h22 => ?_)
  refine ao_s (st_aload_n dX12_readsAll_93 rfl rfl) ?_
  refine ao_getI dX12_readsAll_94 fl_X12_96 rfl e21 ?_
  refine ao_br (br_if_ne (tgt := 104) dX12_readsAll_97 (by decide)) (fun c23 => ?_) (fun c23 => ?_)
  · refine ao_s (st_iconst dX12_readsAll_100 ic_1) ?_
    refine ao_s (st_goto 105 dX12_readsAll_101 (by decide)) ?_
    exact ao_ir dX12_readsAll_105 rfl (by decide)
  · refine ao_s (st_iconst dX12_readsAll_104 ic_0) ?_
    exact ao_ir dX12_readsAll_105 rfl (by decide)
def b_X12_readsAll_66 (h : aH) (a0 : Nat) (x1 : Int32) : Option (Int32 × aH) :=
(if x1 = 0 then
b_X12_readsAll_88 h a0
else
(if (sh a0).1 = 19 then
(aBind (f_X12_see h a0) fun r22 h23 =>
(if r22 = (-1) then
b_X12_readsAll_88 h23 a0
else
(aBind (f_X12_fails h23 a0 0 (hI h23 a0 8)) fun r24 h25 =>
b_X12_readsAll_88 h25 a0)))
else none))
set_option maxHeartbeats 2000000 in
theorem t_X12_readsAll_66 (h : aH) (a0 : Nat) (x1 : Int32) : AO eI 13 kX12_readsAll 66 [some (.ref a0), some (.int x1)] [] h (b_X12_readsAll_66 h a0 x1) := by
  unfold b_X12_readsAll_66
  refine ao_s (st_iload_n dX12_readsAll_66 rfl rfl) ?_
  refine ao_br (br_if_eq (tgt := 88) dX12_readsAll_67 (by decide)) (fun c27 => ?_) (fun c27 => ?_)
  · exact ao_w (sb_s (sb_n sb_0)) (t_X12_readsAll_88 h a0)
  · refine ao_s (st_aload_n dX12_readsAll_70 rfl rfl) ?_
    refine ao_chk (fun e21 => ?_)
    refine ao_cVi (Kc := kX12_see) (As := []) (st := []) dX12_readsAll_71 ml_X12_102 mv_X12_see rfl e21 (by decide) rfl rfl (Nat.le_of_ble_eq_true rfl) (by decide) (s_X12_see h a0) (fun r22 h23 => ?_)
    refine ao_s (st_iconst dX12_readsAll_74 ic_m1) ?_
    refine ao_br (br_icmp_eq (tgt := 88) dX12_readsAll_75 (by decide)) (fun c26 => ?_) (fun c26 => ?_)
    · exact ao_w (sb_s (sb_n sb_0)) (t_X12_readsAll_88 h23 a0)
    · refine ao_s (st_aload_n dX12_readsAll_78 rfl rfl) ?_
      refine ao_s (st_iconst dX12_readsAll_79 ic_0) ?_
      refine ao_s (st_aload_n dX12_readsAll_80 rfl rfl) ?_
      refine ao_getI dX12_readsAll_81 fl_X12_99 rfl e21 ?_
      refine ao_cVi (Kc := kX12_fails) (As := [.int 0, .int (hI h23 a0 8)]) (st := []) dX12_readsAll_84 ml_X12_120 mv_X12_fails rfl e21 (by decide) rfl rfl (Nat.le_of_ble_eq_true rfl) (by decide) (s_X12_fails h23 a0 0 (hI h23 a0 8)) (fun r24 h25 => ?_)
      refine ao_s (st_pop dX12_readsAll_87 rfl) ?_
      exact ao_w (sb_s (sb_n sb_0)) (t_X12_readsAll_88 h25 a0)
def b_X12_readsAll_35 (k35 : aH → Nat → Int32 → Option (Int32 × aH)) (h : aH) (a0 : Nat) (x1 : Int32) : Option (Int32 × aH) :=
(if x1 = 0 then
b_X12_readsAll_66 h a0 x1
else
(if (sh a0).1 = 19 then
(aBind (f_X12_see h a0) fun r22 h23 =>
(if r22 = 59 then
(aLet (pI h23 a0 8 ((hI h23 a0 8) + 1)) fun h24 =>
(aBind (f_X12_clauseHere h24 a0) fun r25 h26 =>
k35 h26 a0 r25))
else
b_X12_readsAll_66 h23 a0 x1))
else none))
set_option maxHeartbeats 2000000 in
theorem t_X12_readsAll_35 {k35 : aH → Nat → Int32 → Option (Int32 × aH)} (hk35 : ∀ (h : aH) (a0 : Nat) (x1 : Int32), AO eI 13 kX12_readsAll 35 [some (.ref a0), some (.int x1)] [] h (k35 h a0 x1)) (h : aH) (a0 : Nat) (x1 : Int32) : AO eI 13 kX12_readsAll 35 [some (.ref a0), some (.int x1)] [] h (b_X12_readsAll_35 k35 h a0 x1) := by
  unfold b_X12_readsAll_35
  refine ao_s (st_iload_n dX12_readsAll_35 rfl rfl) ?_
  refine ao_br (br_if_eq (tgt := 66) dX12_readsAll_36 (by decide)) (fun c28 => ?_) (fun c28 => ?_)
  · exact ao_w (sb_s (sb_s sb_0)) (t_X12_readsAll_66 h a0 x1)
  · refine ao_s (st_aload_n dX12_readsAll_39 rfl rfl) ?_
    refine ao_chk (fun e21 => ?_)
    refine ao_cVi (Kc := kX12_see) (As := []) (st := []) dX12_readsAll_40 ml_X12_102 mv_X12_see rfl e21 (by decide) rfl rfl (Nat.le_of_ble_eq_true rfl) (by decide) (s_X12_see h a0) (fun r22 h23 => ?_)
    refine ao_s (st_bipush dX12_readsAll_43 bp_59) ?_
    refine ao_br (br_icmp_ne (tgt := 66) dX12_readsAll_45 (by decide)) (fun c27 => ?_) (fun c27 => ?_)
    · refine ao_s (st_aload_n dX12_readsAll_48 rfl rfl) ?_
      refine ao_s (st_dup dX12_readsAll_49 rfl) ?_
      refine ao_getI dX12_readsAll_50 fl_X12_99 rfl e21 ?_
      refine ao_s (st_iconst dX12_readsAll_53 ic_1) ?_
      refine ao_s (st_iadd dX12_readsAll_54) ?_
      refine ao_putI dX12_readsAll_55 fl_X12_99 rfl rfl rfl rfl e21 ?_
      refine ao_letH (fun h24 => ?_)
      refine ao_s (st_aload_n dX12_readsAll_58 rfl rfl) ?_
      refine ao_cVi (Kc := kX12_clauseHere) (As := []) (st := []) dX12_readsAll_59 ml_X12_267 mv_X12_clauseHere rfl e21 (by decide) rfl rfl (Nat.le_of_ble_eq_true rfl) (by decide) (s_X12_clauseHere h24 a0) (fun r25 h26 => ?_)
      refine ao_s (st_istore_n (lv' := [some (.ref a0), some (.int r25)]) dX12_readsAll_62 rfl (by decide) rfl) ?_
      refine ao_s (st_goto 35 dX12_readsAll_63 (by decide)) ?_
      exact ao_w (sb_s (sb_s sb_0)) (hk35 h26 a0 r25)
    · exact ao_w (sb_s (sb_s sb_0)) (t_X12_readsAll_66 h23 a0 x1)
def f_X12_readsAll_35 (n : Nat) : aH → Nat → Int32 → Option (Int32 × aH) := aIt (fun _ _ _ => none) (fun k => b_X12_readsAll_35 k) n
theorem l_X12_readsAll_35 (n : Nat) : ∀ (h : aH) (a0 : Nat) (x1 : Int32), AO eI 13 kX12_readsAll 35 [some (.ref a0), some (.int x1)] [] h (f_X12_readsAll_35 n h a0 x1) := by
  induction n with
  | zero => intros; exact ao_none
  | succ n ih =>
    intro h a0 x1
    exact t_X12_readsAll_35 ih h a0 x1
def f_X12_readsAll (h : aH) (a0 : Nat) : Option (Int32 × aH) :=
(if (sh a0).1 = 19 then
((hR h a0 4).bind fun b22 =>
(aLet (hI h a0 11) fun x23 =>
(if (sh b22).1 = 0 then
(if aIn x23 (sh b22).2 then
(aLet (pI h b22 x23.toNatClampNeg 0) fun h25 =>
(aLet (pI h25 a0 14 0) fun h26 =>
(aLet (pI h26 a0 8 0) fun h27 =>
(aLet (pI h27 a0 9 0) fun h28 =>
(aLet (pI h28 a0 12 0) fun h29 =>
(aBind (f_X12_clauseHere h29 a0) fun r30 h31 =>
f_X12_readsAll_35 2000 h31 a0 r30))))))
else none)
else none)))
else none)
set_option maxHeartbeats 2000000 in
theorem s_X12_readsAll (h : aH) (a0 : Nat) : SO eI 13 kX12_readsAll [.ref a0] h (f_X12_readsAll h a0) := by
  refine so_of (lv0 := [some (.ref a0), none]) pn_X12 (Nat.le_of_ble_eq_true rfl) rfl ?_
  unfold f_X12_readsAll
  refine ao_s (st_aload_n dX12_readsAll_0 rfl rfl) ?_
  refine ao_chk (fun e21 => ?_)
  refine ao_getR dX12_readsAll_1 fl_X12_17 rfl e21 (fun b22 => ?_)
  refine ao_s (st_aload_n dX12_readsAll_4 rfl rfl) ?_
  refine ao_getI dX12_readsAll_5 fl_X12_153 rfl e21 ?_
  refine ao_s (st_iconst dX12_readsAll_8 ic_0) ?_
  refine ao_let2 (fun x23 => ?_)
  refine ao_chk (fun e24 => ?_)
  refine ao_iast dX12_readsAll_9 e24 ?_
  refine ao_letH (fun h25 => ?_)
  refine ao_s (st_aload_n dX12_readsAll_10 rfl rfl) ?_
  refine ao_s (st_iconst dX12_readsAll_11 ic_0) ?_
  refine ao_putI dX12_readsAll_12 fl_X12_258 rfl rfl rfl rfl e21 ?_
  refine ao_letH (fun h26 => ?_)
  refine ao_s (st_aload_n dX12_readsAll_15 rfl rfl) ?_
  refine ao_s (st_iconst dX12_readsAll_16 ic_0) ?_
  refine ao_putI dX12_readsAll_17 fl_X12_99 rfl rfl rfl rfl e21 ?_
  refine ao_letH (fun h27 => ?_)
  refine ao_s (st_aload_n dX12_readsAll_20 rfl rfl) ?_
  refine ao_s (st_iconst dX12_readsAll_21 ic_0) ?_
  refine ao_putI dX12_readsAll_22 fl_X12_96 rfl rfl rfl rfl e21 ?_
  refine ao_letH (fun h28 => ?_)
  refine ao_s (st_aload_n dX12_readsAll_25 rfl rfl) ?_
  refine ao_s (st_iconst dX12_readsAll_26 ic_0) ?_
  refine ao_putI dX12_readsAll_27 fl_X12_156 rfl rfl rfl rfl e21 ?_
  refine ao_letH (fun h29 => ?_)
  refine ao_s (st_aload_n dX12_readsAll_30 rfl rfl) ?_
  refine ao_cVi (Kc := kX12_clauseHere) (As := []) (st := []) dX12_readsAll_31 ml_X12_267 mv_X12_clauseHere rfl e21 (by decide) rfl rfl (Nat.le_of_ble_eq_true rfl) (by decide) (s_X12_clauseHere h29 a0) (fun r30 h31 => ?_)
  refine ao_s (st_istore_n (lv' := [some (.ref a0), some (.int r30)]) dX12_readsAll_34 rfl (by decide) rfl) ?_
  exact ao_w (sb_s (sb_s sb_0)) (l_X12_readsAll_35 2000 h31 a0 r30)
def f_X12_rule (h : aH) (a0 : Nat) : Option (Int32 × aH) :=
(if (sh a0).1 = 19 then
(if hI h a0 2 = 6 then
some ((-1), h)
else
(aLet (pI h a0 11 (hI h a0 2)) fun h22 =>
((hR h22 a0 6).bind fun b23 =>
(aLet (hI h22 a0 11) fun x24 =>
(if (sh b23).1 = 0 then
(if aIn x24 (sh b23).2 then
(aLet (pI h22 b23 x24.toNatClampNeg 0) fun h26 =>
(aBind (f_X12_readsAll h26 a0) fun r27 h28 =>
(if r27 = 0 then
some ((-2) - (hI h28 a0 9), h28)
else
(aLet (pI h28 a0 2 ((hI h28 a0 2) + 1)) fun h29 =>
some ((hI h29 a0 2) - 1, h29)))))
else none)
else none)))))
else none)
set_option maxHeartbeats 2000000 in
theorem s_X12_rule (h : aH) (a0 : Nat) : SO eI 14 kX12_rule [.ref a0] h (f_X12_rule h a0) := by
  refine so_of (lv0 := [some (.ref a0)]) pn_X12 (Nat.le_of_ble_eq_true rfl) rfl ?_
  unfold f_X12_rule
  refine ao_s (st_aload_n dX12_rule_0 rfl rfl) ?_
  refine ao_chk (fun e21 => ?_)
  refine ao_getI dX12_rule_1 fl_X12_270 rfl e21 ?_
  refine ao_s (st_bipush dX12_rule_4 bp_6) ?_
  refine ao_br (br_icmp_ne (tgt := 11) dX12_rule_6 (by decide)) (fun c31 => ?_) (fun c31 => ?_)
  · refine ao_s (st_iconst dX12_rule_9 ic_m1) ?_
    exact ao_ir dX12_rule_10 rfl rfl
  · refine ao_s (st_aload_n dX12_rule_11 rfl rfl) ?_
    refine ao_s (st_aload_n dX12_rule_12 rfl rfl) ?_
    refine ao_getI dX12_rule_13 fl_X12_270 rfl e21 ?_
    refine ao_putI dX12_rule_16 fl_X12_153 rfl rfl rfl rfl e21 ?_
    refine ao_letH (fun h22 => ?_)
    refine ao_s (st_aload_n dX12_rule_19 rfl rfl) ?_
    refine ao_getR dX12_rule_20 fl_X12_23 rfl e21 (fun b23 => ?_)
    refine ao_s (st_aload_n dX12_rule_23 rfl rfl) ?_
    refine ao_getI dX12_rule_24 fl_X12_153 rfl e21 ?_
    refine ao_s (st_iconst dX12_rule_27 ic_0) ?_
    refine ao_let2 (fun x24 => ?_)
    refine ao_chk (fun e25 => ?_)
    refine ao_iast dX12_rule_28 e25 ?_
    refine ao_letH (fun h26 => ?_)
    refine ao_s (st_aload_n dX12_rule_29 rfl rfl) ?_
    refine ao_cVi (Kc := kX12_readsAll) (As := []) (st := []) dX12_rule_30 ml_X12_273 mv_X12_readsAll rfl e21 (by decide) rfl rfl (Nat.le_of_ble_eq_true rfl) (by decide) (s_X12_readsAll h26 a0) (fun r27 h28 => ?_)
    refine ao_br (br_if_ne (tgt := 44) dX12_rule_33 (by decide)) (fun c30 => ?_) (fun c30 => ?_)
    · refine ao_s (st_bipush dX12_rule_36 bp_m2) ?_
      refine ao_s (st_aload_n dX12_rule_38 rfl rfl) ?_
      refine ao_getI dX12_rule_39 fl_X12_96 rfl e21 ?_
      refine ao_s (st_isub dX12_rule_42) ?_
      exact ao_ir dX12_rule_43 rfl rfl
    · refine ao_s (st_aload_n dX12_rule_44 rfl rfl) ?_
      refine ao_s (st_dup dX12_rule_45 rfl) ?_
      refine ao_getI dX12_rule_46 fl_X12_270 rfl e21 ?_
      refine ao_s (st_iconst dX12_rule_49 ic_1) ?_
      refine ao_s (st_iadd dX12_rule_50) ?_
      refine ao_putI dX12_rule_51 fl_X12_270 rfl rfl rfl rfl e21 ?_
      refine ao_letH (fun h29 => ?_)
      refine ao_s (st_aload_n dX12_rule_54 rfl rfl) ?_
      refine ao_getI dX12_rule_55 fl_X12_270 rfl e21 ?_
      refine ao_s (st_iconst dX12_rule_58 ic_1) ?_
      refine ao_s (st_isub dX12_rule_59) ?_
      exact ao_ir dX12_rule_60 rfl rfl
def b_X12_begins_106 (k106 : aH → Nat → Int32 → Option (Unit × aH)) (h : aH) (a0 : Nat) (x1 : Int32) : Option (Unit × aH) :=
(if 3 ≤ x1 then
some ((), h)
else
(if (sh a0).1 = 19 then
((hR h a0 20).bind fun b22 =>
((hR h a0 20).bind fun b23 =>
(aLet (150 + x1) fun x24 =>
(if (sh b23).1 = 0 then
(if aIn x24 (sh b23).2 then
(aLet (75 + x1) fun x26 =>
(if (sh b22).1 = 0 then
(if aIn x26 (sh b22).2 then
(aLet (pI h b22 x26.toNatClampNeg (hI h b23 x24.toNatClampNeg)) fun h28 =>
k106 h28 a0 (x1 + 1))
else none)
else none))
else none)
else none))))
else none))
set_option maxHeartbeats 2000000 in
theorem t_X12_begins_106 {k106 : aH → Nat → Int32 → Option (Unit × aH)} (hk106 : ∀ (h : aH) (a0 : Nat) (x1 : Int32), AO eV 2 kX12_begins 106 [some (.ref a0), some (.int x1), none] [] h (k106 h a0 x1)) (h : aH) (a0 : Nat) (x1 : Int32) : AO eV 2 kX12_begins 106 [some (.ref a0), some (.int x1), none] [] h (b_X12_begins_106 k106 h a0 x1) := by
  unfold b_X12_begins_106
  refine ao_s (st_iload_n dX12_begins_106 rfl rfl) ?_
  refine ao_s (st_iconst dX12_begins_107 ic_3) ?_
  refine ao_br (br_icmp_ge (tgt := 136) dX12_begins_108 (by decide)) (fun c29 => ?_) (fun c29 => ?_)
  · exact ao_vr dX12_begins_136 rfl
  · refine ao_s (st_aload_n dX12_begins_111 rfl rfl) ?_
    refine ao_chk (fun e21 => ?_)
    refine ao_getR dX12_begins_112 fl_X12_39 rfl e21 (fun b22 => ?_)
    refine ao_s (st_bipush dX12_begins_115 bp_75) ?_
    refine ao_s (st_iload_n dX12_begins_117 rfl rfl) ?_
    refine ao_s (st_iadd dX12_begins_118) ?_
    refine ao_s (st_aload_n dX12_begins_119 rfl rfl) ?_
    refine ao_getR dX12_begins_120 fl_X12_39 rfl e21 (fun b23 => ?_)
    refine ao_s (st_sipush dX12_begins_123 sp_150) ?_
    refine ao_s (st_iload_n dX12_begins_126 rfl rfl) ?_
    refine ao_s (st_iadd dX12_begins_127) ?_
    refine ao_letI (fun x24 => ?_)
    refine ao_chk (fun e25 => ?_)
    refine ao_iald dX12_begins_128 e25 ?_
    refine ao_let2 (fun x26 => ?_)
    refine ao_chk (fun e27 => ?_)
    refine ao_iast dX12_begins_129 e27 ?_
    refine ao_letH (fun h28 => ?_)
    refine ao_s (st_iinc (lv' := [some (.ref a0), some (.int (x1 + 1)), none]) dX12_begins_130 rfl nc_1 (by decide) rfl) ?_
    refine ao_s (st_goto 106 dX12_begins_133 (by decide)) ?_
    exact ao_w (sb_s (sb_s (sb_n sb_0))) (hk106 h28 a0 (x1 + 1))
def f_X12_begins_106 (n : Nat) : aH → Nat → Int32 → Option (Unit × aH) := aIt (fun _ _ _ => none) (fun k => b_X12_begins_106 k) n
theorem l_X12_begins_106 (n : Nat) : ∀ (h : aH) (a0 : Nat) (x1 : Int32), AO eV 2 kX12_begins 106 [some (.ref a0), some (.int x1), none] [] h (f_X12_begins_106 n h a0 x1) := by
  induction n with
  | zero => intros; exact ao_none
  | succ n ih =>
    intro h a0 x1
    exact t_X12_begins_106 ih h a0 x1
def b_X12_begins_74 (k74 : aH → Nat → Int32 → Option (Unit × aH)) (h : aH) (a0 : Nat) (x1 : Int32) : Option (Unit × aH) :=
(if 32 ≤ x1 then
f_X12_begins_106 2000 h a0 0
else
(if (sh a0).1 = 19 then
((hR h a0 20).bind fun b22 =>
((hR h a0 20).bind fun b23 =>
(aLet (110 + x1) fun x24 =>
(if (sh b23).1 = 0 then
(if aIn x24 (sh b23).2 then
(aLet (43 + x1) fun x26 =>
(if (sh b22).1 = 0 then
(if aIn x26 (sh b22).2 then
(aLet (pI h b22 x26.toNatClampNeg (hI h b23 x24.toNatClampNeg)) fun h28 =>
k74 h28 a0 (x1 + 1))
else none)
else none))
else none)
else none))))
else none))
set_option maxHeartbeats 2000000 in
theorem t_X12_begins_74 {k74 : aH → Nat → Int32 → Option (Unit × aH)} (hk74 : ∀ (h : aH) (a0 : Nat) (x1 : Int32), AO eV 2 kX12_begins 74 [some (.ref a0), some (.int x1), none] [] h (k74 h a0 x1)) (h : aH) (a0 : Nat) (x1 : Int32) : AO eV 2 kX12_begins 74 [some (.ref a0), some (.int x1), none] [] h (b_X12_begins_74 k74 h a0 x1) := by
  unfold b_X12_begins_74
  refine ao_s (st_iload_n dX12_begins_74 rfl rfl) ?_
  refine ao_s (st_bipush dX12_begins_75 bp_32) ?_
  refine ao_br (br_icmp_ge (tgt := 104) dX12_begins_77 (by decide)) (fun c29 => ?_) (fun c29 => ?_)
  · refine ao_s (st_iconst dX12_begins_104 ic_0) ?_
    refine ao_s (st_istore_n (lv' := [some (.ref a0), some (.int 0), none]) dX12_begins_105 rfl (by decide) rfl) ?_
    exact ao_w (sb_s (sb_s (sb_n sb_0))) (l_X12_begins_106 2000 h a0 0)
  · refine ao_s (st_aload_n dX12_begins_80 rfl rfl) ?_
    refine ao_chk (fun e21 => ?_)
    refine ao_getR dX12_begins_81 fl_X12_39 rfl e21 (fun b22 => ?_)
    refine ao_s (st_bipush dX12_begins_84 bp_43) ?_
    refine ao_s (st_iload_n dX12_begins_86 rfl rfl) ?_
    refine ao_s (st_iadd dX12_begins_87) ?_
    refine ao_s (st_aload_n dX12_begins_88 rfl rfl) ?_
    refine ao_getR dX12_begins_89 fl_X12_39 rfl e21 (fun b23 => ?_)
    refine ao_s (st_bipush dX12_begins_92 bp_110) ?_
    refine ao_s (st_iload_n dX12_begins_94 rfl rfl) ?_
    refine ao_s (st_iadd dX12_begins_95) ?_
    refine ao_letI (fun x24 => ?_)
    refine ao_chk (fun e25 => ?_)
    refine ao_iald dX12_begins_96 e25 ?_
    refine ao_let2 (fun x26 => ?_)
    refine ao_chk (fun e27 => ?_)
    refine ao_iast dX12_begins_97 e27 ?_
    refine ao_letH (fun h28 => ?_)
    refine ao_s (st_iinc (lv' := [some (.ref a0), some (.int (x1 + 1)), none]) dX12_begins_98 rfl nc_1 (by decide) rfl) ?_
    refine ao_s (st_goto 74 dX12_begins_101 (by decide)) ?_
    exact ao_w (sb_s (sb_s (sb_n sb_0))) (hk74 h28 a0 (x1 + 1))
def f_X12_begins_74 (n : Nat) : aH → Nat → Int32 → Option (Unit × aH) := aIt (fun _ _ _ => none) (fun k => b_X12_begins_74 k) n
theorem l_X12_begins_74 (n : Nat) : ∀ (h : aH) (a0 : Nat) (x1 : Int32), AO eV 2 kX12_begins 74 [some (.ref a0), some (.int x1), none] [] h (f_X12_begins_74 n h a0 x1) := by
  induction n with
  | zero => intros; exact ao_none
  | succ n ih =>
    intro h a0 x1
    exact t_X12_begins_74 ih h a0 x1
def b_X12_begins_10 (k10 : aH → Nat → Int32 → Option (Unit × aH)) (h : aH) (a0 : Nat) (x1 : Int32) : Option (Unit × aH) :=
(if 8 ≤ x1 then
f_X12_begins_74 2000 h a0 0
else
(aLet (11 + (4 * x1)) fun x21 =>
(if (sh a0).1 = 19 then
((hR h a0 20).bind fun b23 =>
((hR h a0 20).bind fun b24 =>
(aLet (142 + x1) fun x25 =>
(if (sh b24).1 = 0 then
(if aIn x25 (sh b24).2 then
(if (sh b23).1 = 0 then
(if aIn x21 (sh b23).2 then
(aLet (pI h b23 x21.toNatClampNeg (hI h b24 x25.toNatClampNeg)) fun h28 =>
((hR h28 a0 20).bind fun b29 =>
(aLet (x21 + 1) fun x30 =>
(if (sh b29).1 = 0 then
(if aIn x30 (sh b29).2 then
(aLet (pI h28 b29 x30.toNatClampNeg (-1)) fun h32 =>
((hR h32 a0 20).bind fun b33 =>
(aLet (x21 + 2) fun x34 =>
(if (sh b33).1 = 0 then
(if aIn x34 (sh b33).2 then
(aLet (pI h32 b33 x34.toNatClampNeg 0) fun h36 =>
((hR h36 a0 20).bind fun b37 =>
(aLet (x21 + 3) fun x38 =>
(if (sh b37).1 = 0 then
(if aIn x38 (sh b37).2 then
(aLet (pI h36 b37 x38.toNatClampNeg 0) fun h40 =>
k10 h40 a0 (x1 + 1))
else none)
else none))))
else none)
else none))))
else none)
else none))))
else none)
else none)
else none)
else none))))
else none)))
set_option maxHeartbeats 2000000 in
theorem t_X12_begins_10 {k10 : aH → Nat → Int32 → Option (Unit × aH)} (hk10 : ∀ (h : aH) (a0 : Nat) (x1 : Int32), AO eV 2 kX12_begins 10 [some (.ref a0), some (.int x1), none] [] h (k10 h a0 x1)) (h : aH) (a0 : Nat) (x1 : Int32) : AO eV 2 kX12_begins 10 [some (.ref a0), some (.int x1), none] [] h (b_X12_begins_10 k10 h a0 x1) := by
  unfold b_X12_begins_10
  refine ao_s (st_iload_n dX12_begins_10 rfl rfl) ?_
  refine ao_s (st_bipush dX12_begins_11 bp_8) ?_
  refine ao_br (br_icmp_ge (tgt := 72) dX12_begins_13 (by decide)) (fun c41 => ?_) (fun c41 => ?_)
  · refine ao_s (st_iconst dX12_begins_72 ic_0) ?_
    refine ao_s (st_istore_n (lv' := [some (.ref a0), some (.int 0), none]) dX12_begins_73 rfl (by decide) rfl) ?_
    exact ao_w (sb_s (sb_s (sb_n sb_0))) (l_X12_begins_74 2000 h a0 0)
  · refine ao_s (st_bipush dX12_begins_16 bp_11) ?_
    refine ao_s (st_iconst dX12_begins_18 ic_4) ?_
    refine ao_s (st_iload_n dX12_begins_19 rfl rfl) ?_
    refine ao_s (st_imul dX12_begins_20) ?_
    refine ao_s (st_iadd dX12_begins_21) ?_
    refine ao_letI (fun x21 => ?_)
    refine ao_s (st_istore_n (lv' := [some (.ref a0), some (.int x1), some (.int x21)]) dX12_begins_22 rfl (by decide) rfl) ?_
    refine ao_s (st_aload_n dX12_begins_23 rfl rfl) ?_
    refine ao_chk (fun e22 => ?_)
    refine ao_getR dX12_begins_24 fl_X12_39 rfl e22 (fun b23 => ?_)
    refine ao_s (st_iload_n dX12_begins_27 rfl rfl) ?_
    refine ao_s (st_aload_n dX12_begins_28 rfl rfl) ?_
    refine ao_getR dX12_begins_29 fl_X12_39 rfl e22 (fun b24 => ?_)
    refine ao_s (st_sipush dX12_begins_32 sp_142) ?_
    refine ao_s (st_iload_n dX12_begins_35 rfl rfl) ?_
    refine ao_s (st_iadd dX12_begins_36) ?_
    refine ao_letI (fun x25 => ?_)
    refine ao_chk (fun e26 => ?_)
    refine ao_iald dX12_begins_37 e26 ?_
    refine ao_chk (fun e27 => ?_)
    refine ao_iast dX12_begins_38 e27 ?_
    refine ao_letH (fun h28 => ?_)
    refine ao_s (st_aload_n dX12_begins_39 rfl rfl) ?_
    refine ao_getR dX12_begins_40 fl_X12_39 rfl e22 (fun b29 => ?_)
    refine ao_s (st_iload_n dX12_begins_43 rfl rfl) ?_
    refine ao_s (st_iconst dX12_begins_44 ic_1) ?_
    refine ao_s (st_iadd dX12_begins_45) ?_
    refine ao_s (st_iconst dX12_begins_46 ic_m1) ?_
    refine ao_let2 (fun x30 => ?_)
    refine ao_chk (fun e31 => ?_)
    refine ao_iast dX12_begins_47 e31 ?_
    refine ao_letH (fun h32 => ?_)
    refine ao_s (st_aload_n dX12_begins_48 rfl rfl) ?_
    refine ao_getR dX12_begins_49 fl_X12_39 rfl e22 (fun b33 => ?_)
    refine ao_s (st_iload_n dX12_begins_52 rfl rfl) ?_
    refine ao_s (st_iconst dX12_begins_53 ic_2) ?_
    refine ao_s (st_iadd dX12_begins_54) ?_
    refine ao_s (st_iconst dX12_begins_55 ic_0) ?_
    refine ao_let2 (fun x34 => ?_)
    refine ao_chk (fun e35 => ?_)
    refine ao_iast dX12_begins_56 e35 ?_
    refine ao_letH (fun h36 => ?_)
    refine ao_s (st_aload_n dX12_begins_57 rfl rfl) ?_
    refine ao_getR dX12_begins_58 fl_X12_39 rfl e22 (fun b37 => ?_)
    refine ao_s (st_iload_n dX12_begins_61 rfl rfl) ?_
    refine ao_s (st_iconst dX12_begins_62 ic_3) ?_
    refine ao_s (st_iadd dX12_begins_63) ?_
    refine ao_s (st_iconst dX12_begins_64 ic_0) ?_
    refine ao_let2 (fun x38 => ?_)
    refine ao_chk (fun e39 => ?_)
    refine ao_iast dX12_begins_65 e39 ?_
    refine ao_letH (fun h40 => ?_)
    refine ao_s (st_iinc (lv' := [some (.ref a0), some (.int (x1 + 1)), some (.int x21)]) dX12_begins_66 rfl nc_1 (by decide) rfl) ?_
    refine ao_s (st_goto 10 dX12_begins_69 (by decide)) ?_
    exact ao_w (sb_s (sb_s (sb_n sb_0))) (hk10 h40 a0 (x1 + 1))
def f_X12_begins_10 (n : Nat) : aH → Nat → Int32 → Option (Unit × aH) := aIt (fun _ _ _ => none) (fun k => b_X12_begins_10 k) n
theorem l_X12_begins_10 (n : Nat) : ∀ (h : aH) (a0 : Nat) (x1 : Int32), AO eV 2 kX12_begins 10 [some (.ref a0), some (.int x1), none] [] h (f_X12_begins_10 n h a0 x1) := by
  induction n with
  | zero => intros; exact ao_none
  | succ n ih =>
    intro h a0 x1
    exact t_X12_begins_10 ih h a0 x1
def f_X12_begins (h : aH) (a0 : Nat) : Option (Unit × aH) :=
(if (sh a0).1 = 19 then
((hR h a0 20).bind fun b22 =>
(if (sh b22).1 = 0 then
(if aIn 10 (sh b22).2 then
(aLet (pI h b22 (10 : Int32).toNatClampNeg 0) fun h24 =>
f_X12_begins_10 2000 h24 a0 0)
else none)
else none))
else none)
set_option maxHeartbeats 2000000 in
theorem s_X12_begins (h : aH) (a0 : Nat) : SO eV 2 kX12_begins [.ref a0] h (f_X12_begins h a0) := by
  refine so_of (lv0 := [some (.ref a0), none, none]) pn_X12 (Nat.le_of_ble_eq_true rfl) rfl ?_
  unfold f_X12_begins
  refine ao_s (st_aload_n dX12_begins_0 rfl rfl) ?_
  refine ao_chk (fun e21 => ?_)
  refine ao_getR dX12_begins_1 fl_X12_39 rfl e21 (fun b22 => ?_)
  refine ao_s (st_bipush dX12_begins_4 bp_10) ?_
  refine ao_s (st_iconst dX12_begins_6 ic_0) ?_
  refine ao_chk (fun e23 => ?_)
  refine ao_iast dX12_begins_7 e23 ?_
  refine ao_letH (fun h24 => ?_)
  refine ao_s (st_iconst dX12_begins_8 ic_0) ?_
  refine ao_s (st_istore_n (lv' := [some (.ref a0), some (.int 0), none]) dX12_begins_9 rfl (by decide) rfl) ?_
  exact ao_w (sb_s (sb_s (sb_n sb_0))) (l_X12_begins_10 2000 h24 a0 0)
