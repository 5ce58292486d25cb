def b_X6_readSum_97 (k8 : aH → Nat → Int32 → Int32 → Option (Unit × aH)) (h : aH) (a0 : Nat) (x1 : Int32) (x2 : Int32) : Option (Unit × aH) :=
k8 h a0 x1 (x2 + 1)
set_option maxHeartbeats 2000000 in
theorem t_X6_readSum_97 {k8 : aH → Nat → Int32 → Int32 → Option (Unit × aH)} (hk8 : ∀ (h : aH) (a0 : Nat) (x1 : Int32) (x2 : Int32), AO eV 8 kX6_readSum 8 [some (.ref a0), some (.int x1), some (.int x2), none, none] [] h (k8 h a0 x1 x2)) (h : aH) (a0 : Nat) (x1 : Int32) (x2 : Int32) : AO eV 8 kX6_readSum 97 [some (.ref a0), some (.int x1), some (.int x2), none, none] [] h (b_X6_readSum_97 k8 h a0 x1 x2) := by
  unfold b_X6_readSum_97
  refine ao_s (st_iinc (lv' := [some (.ref a0), some (.int x1), some (.int (x2 + 1)), none, none]) dX6_readSum_97 rfl nc_1 (by decide) rfl) ?_
  refine ao_s (st_goto 8 dX6_readSum_100 (by decide)) ?_
  exact ao_w (sb_s (sb_s (sb_s (sb_n (sb_n sb_0))))) (hk8 h a0 x1 (x2 + 1))
def b_X6_readSum_74 (k8 : aH → Nat → Int32 → Int32 → Option (Unit × aH)) (h : aH) (a0 : Nat) (x1 : Int32) (x2 : Int32) (x3 : Int32) (x4 : Int32) : Option (Unit × aH) :=
(if (sh a0).1 = 13 then
(aBind (f_X6_readValue h a0) fun r22 h23 =>
(if x4 = 0 then
((hR h23 a0 1).bind fun b24 =>
(if (sh b24).1 = 12 then
(aBind (f_X5_emit h23 b24 x3 0) fun r26 h27 =>
b_X6_readSum_97 k8 h27 a0 x1 x2)
else none))
else
b_X6_readSum_97 k8 h23 a0 x3 x2))
else none)
set_option maxHeartbeats 2000000 in
theorem t_X6_readSum_74 {k8 : aH → Nat → Int32 → Int32 → Option (Unit × aH)} (hk8 : ∀ (h : aH) (a0 : Nat) (x1 : Int32) (x2 : Int32), AO eV 8 kX6_readSum 8 [some (.ref a0), some (.int x1), some (.int x2), none, none] [] h (k8 h a0 x1 x2)) (h : aH) (a0 : Nat) (x1 : Int32) (x2 : Int32) (x3 : Int32) (x4 : Int32) : AO eV 8 kX6_readSum 74 [some (.ref a0), some (.int x1), some (.int x2), some (.int x3), some (.int x4)] [] h (b_X6_readSum_74 k8 h a0 x1 x2 x3 x4) := by
  unfold b_X6_readSum_74
  refine ao_s (st_aload_n dX6_readSum_74 rfl rfl) ?_
  refine ao_chk (fun e21 => ?_)
  refine ao_cVv (Kc := kX6_readValue) (As := []) (st := []) dX6_readSum_75 ml_X6_110 mv_X6_readValue rfl e21 (by decide) rfl rfl (Nat.le_of_ble_eq_true rfl) (by decide) (s_X6_readValue h a0) (fun r22 h23 => ?_)
  refine ao_s (st_iload dX6_readSum_78 rfl) ?_
  refine ao_br (br_if_eq (tgt := 88) dX6_readSum_80 (by decide)) (fun c28 => ?_) (fun c28 => ?_)
  · refine ao_s (st_aload_n dX6_readSum_88 rfl rfl) ?_
    refine ao_getR dX6_readSum_89 fl_X6_12 rfl e21 (fun b24 => ?_)
    refine ao_s (st_iload_n dX6_readSum_92 rfl rfl) ?_
    refine ao_s (st_iconst dX6_readSum_93 ic_0) ?_
    refine ao_chk (fun e25 => ?_)
    refine ao_cVv (Kc := kX5_emit) (As := [.int x3, .int 0]) (st := []) dX6_readSum_94 ml_X6_88 mv_X5_emit rfl e25 (by decide) rfl rfl (Nat.le_of_ble_eq_true rfl) (by decide) (s_X5_emit h23 b24 x3 0) (fun r26 h27 => ?_)
    exact ao_w (sb_s (sb_s (sb_s (sb_n (sb_n sb_0))))) (t_X6_readSum_97 hk8 h27 a0 x1 x2)
  · refine ao_s (st_iload_n dX6_readSum_83 rfl rfl) ?_
    refine ao_s (st_istore_n (lv' := [some (.ref a0), some (.int x3), some (.int x2), some (.int x3), some (.int x4)]) dX6_readSum_84 rfl (by decide) rfl) ?_
    refine ao_s (st_goto 97 dX6_readSum_85 (by decide)) ?_
    exact ao_w (sb_s (sb_s (sb_s (sb_n (sb_n sb_0))))) (t_X6_readSum_97 hk8 h23 a0 x3 x2)
def b_X6_readSum_53 (k8 : aH → Nat → Int32 → Int32 → Option (Unit × aH)) (h : aH) (a0 : Nat) (x1 : Int32) (x2 : Int32) (x3 : Int32) (s0 : Int32) : Option (Unit × aH) :=
(if s0 = 0 then
b_X6_readSum_74 k8 h a0 x1 x2 x3 s0
else
(if x1 = (-1) then
b_X6_readSum_74 k8 h a0 x1 x2 x3 s0
else
(if (sh a0).1 = 13 then
((hR h a0 1).bind fun b22 =>
(if (sh b22).1 = 12 then
(aBind (f_X5_emit h b22 x1 0) fun r24 h25 =>
b_X6_readSum_74 k8 h25 a0 x1 x2 x3 s0)
else none))
else none)))
set_option maxHeartbeats 2000000 in
theorem t_X6_readSum_53 {k8 : aH → Nat → Int32 → Int32 → Option (Unit × aH)} (hk8 : ∀ (h : aH) (a0 : Nat) (x1 : Int32) (x2 : Int32), AO eV 8 kX6_readSum 8 [some (.ref a0), some (.int x1), some (.int x2), none, none] [] h (k8 h a0 x1 x2)) (h : aH) (a0 : Nat) (x1 : Int32) (x2 : Int32) (x3 : Int32) (s0 : Int32) : AO eV 8 kX6_readSum 53 [some (.ref a0), some (.int x1), some (.int x2), some (.int x3), none] [.int s0] h (b_X6_readSum_53 k8 h a0 x1 x2 x3 s0) := by
  unfold b_X6_readSum_53
  refine ao_s (st_istore (lv' := [some (.ref a0), some (.int x1), some (.int x2), some (.int x3), some (.int s0)]) dX6_readSum_53 (by decide) rfl) ?_
  refine ao_s (st_iload dX6_readSum_55 rfl) ?_
  refine ao_br (br_if_eq (tgt := 74) dX6_readSum_57 (by decide)) (fun c27 => ?_) (fun c27 => ?_)
  · exact ao_w (sb_s (sb_s (sb_s (sb_s (sb_s sb_0))))) (t_X6_readSum_74 hk8 h a0 x1 x2 x3 s0)
  · refine ao_s (st_iload_n dX6_readSum_60 rfl rfl) ?_
    refine ao_s (st_iconst dX6_readSum_61 ic_m1) ?_
    refine ao_br (br_icmp_eq (tgt := 74) dX6_readSum_62 (by decide)) (fun c26 => ?_) (fun c26 => ?_)
    · exact ao_w (sb_s (sb_s (sb_s (sb_s (sb_s sb_0))))) (t_X6_readSum_74 hk8 h a0 x1 x2 x3 s0)
    · refine ao_s (st_aload_n dX6_readSum_65 rfl rfl) ?_
      refine ao_chk (fun e21 => ?_)
      refine ao_getR dX6_readSum_66 fl_X6_12 rfl e21 (fun b22 => ?_)
      refine ao_s (st_iload_n dX6_readSum_69 rfl rfl) ?_
      refine ao_s (st_iconst dX6_readSum_70 ic_0) ?_
      refine ao_chk (fun e23 => ?_)
      refine ao_cVv (Kc := kX5_emit) (As := [.int x1, .int 0]) (st := []) dX6_readSum_71 ml_X6_88 mv_X5_emit rfl e23 (by decide) rfl rfl (Nat.le_of_ble_eq_true rfl) (by decide) (s_X5_emit h b22 x1 0) (fun r24 h25 => ?_)
      exact ao_w (sb_s (sb_s (sb_s (sb_s (sb_s sb_0))))) (t_X6_readSum_74 hk8 h25 a0 x1 x2 x3 s0)
def b_X6_readSum_48 (k8 : aH → Nat → Int32 → Int32 → Option (Unit × aH)) (h : aH) (a0 : Nat) (x1 : Int32) (x2 : Int32) (x3 : Int32) : Option (Unit × aH) :=
b_X6_readSum_53 k8 h a0 x1 x2 x3 1
set_option maxHeartbeats 2000000 in
theorem t_X6_readSum_48 {k8 : aH → Nat → Int32 → Int32 → Option (Unit × aH)} (hk8 : ∀ (h : aH) (a0 : Nat) (x1 : Int32) (x2 : Int32), AO eV 8 kX6_readSum 8 [some (.ref a0), some (.int x1), some (.int x2), none, none] [] h (k8 h a0 x1 x2)) (h : aH) (a0 : Nat) (x1 : Int32) (x2 : Int32) (x3 : Int32) : AO eV 8 kX6_readSum 48 [some (.ref a0), some (.int x1), some (.int x2), some (.int x3), none] [] h (b_X6_readSum_48 k8 h a0 x1 x2 x3) := by
  unfold b_X6_readSum_48
  refine ao_s (st_iconst dX6_readSum_48 ic_1) ?_
  refine ao_s (st_goto 53 dX6_readSum_49 (by decide)) ?_
  exact ao_w (sb_s (sb_s (sb_s (sb_s (sb_n sb_0))))) (t_X6_readSum_53 hk8 h a0 x1 x2 x3 1)
def b_X6_readSum_103 (h : aH) (a0 : Nat) (x1 : Int32) : Option (Unit × aH) :=
(if x1 = (-1) then
some ((), h)
else
(if (sh a0).1 = 13 then
((hR h a0 1).bind fun b22 =>
(if (sh b22).1 = 12 then
(aBind (f_X5_emit h b22 x1 0) fun r24 h25 =>
some ((), h25))
else none))
else none))
set_option maxHeartbeats 2000000 in
theorem t_X6_readSum_103 (h : aH) (a0 : Nat) (x1 : Int32) : AO eV 8 kX6_readSum 103 [some (.ref a0), some (.int x1), none, none, none] [] h (b_X6_readSum_103 h a0 x1) := by
  unfold b_X6_readSum_103
  refine ao_s (st_iload_n dX6_readSum_103 rfl rfl) ?_
  refine ao_s (st_iconst dX6_readSum_104 ic_m1) ?_
  refine ao_br (br_icmp_eq (tgt := 117) dX6_readSum_105 (by decide)) (fun c26 => ?_) (fun c26 => ?_)
  · exact ao_vr dX6_readSum_117 rfl
  · refine ao_s (st_aload_n dX6_readSum_108 rfl rfl) ?_
    refine ao_chk (fun e21 => ?_)
    refine ao_getR dX6_readSum_109 fl_X6_12 rfl e21 (fun b22 => ?_)
    refine ao_s (st_iload_n dX6_readSum_112 rfl rfl) ?_
    refine ao_s (st_iconst dX6_readSum_113 ic_0) ?_
    refine ao_chk (fun e23 => ?_)
    refine ao_cVv (Kc := kX5_emit) (As := [.int x1, .int 0]) (st := []) dX6_readSum_114 ml_X6_88 mv_X5_emit rfl e23 (by decide) rfl rfl (Nat.le_of_ble_eq_true rfl) (by decide) (s_X5_emit h b22 x1 0) (fun r24 h25 => ?_)
    exact ao_vr dX6_readSum_117 rfl
def b_X6_readSum_8 (k8 : aH → Nat → Int32 → Int32 → Option (Unit × aH)) (h : aH) (a0 : Nat) (x1 : Int32) (x2 : Int32) : Option (Unit × aH) :=
(if 400 ≤ x2 then
b_X6_readSum_103 h a0 x1
else
(if (sh a0).1 = 13 then
((hR h a0 0).bind fun b22 =>
(if (sh b22).1 = 16 then
(if hI h b22 3 = 0 then
(aBind (f_X6_takeOperator h a0) fun r24 h25 =>
(if r24 = (-1) then
b_X6_readSum_103 h25 a0 x1
else
(if r24 = 2 then
b_X6_readSum_48 k8 h25 a0 x1 x2 r24
else
(if r24 = 3 then
b_X6_readSum_48 k8 h25 a0 x1 x2 r24
else
b_X6_readSum_53 k8 h25 a0 x1 x2 r24 0))))
else
b_X6_readSum_103 h a0 x1)
else none))
else none))
set_option maxHeartbeats 2000000 in
theorem t_X6_readSum_8 {k8 : aH → Nat → Int32 → Int32 → Option (Unit × aH)} (hk8 : ∀ (h : aH) (a0 : Nat) (x1 : Int32) (x2 : Int32), AO eV 8 kX6_readSum 8 [some (.ref a0), some (.int x1), some (.int x2), none, none] [] h (k8 h a0 x1 x2)) (h : aH) (a0 : Nat) (x1 : Int32) (x2 : Int32) : AO eV 8 kX6_readSum 8 [some (.ref a0), some (.int x1), some (.int x2), none, none] [] h (b_X6_readSum_8 k8 h a0 x1 x2) := by
  unfold b_X6_readSum_8
  refine ao_s (st_iload_n dX6_readSum_8 rfl rfl) ?_
  refine ao_s (st_sipush dX6_readSum_9 sp_400) ?_
  refine ao_br (br_icmp_ge (tgt := 103) dX6_readSum_12 (by decide)) (fun c30 => ?_) (fun c30 => ?_)
  · exact ao_w (sb_s (sb_s (sb_n (sb_n (sb_n sb_0))))) (t_X6_readSum_103 h a0 x1)
  · refine ao_s (st_aload_n dX6_readSum_15 rfl rfl) ?_
    refine ao_chk (fun e21 => ?_)
    refine ao_getR dX6_readSum_16 fl_X6_22 rfl e21 (fun b22 => ?_)
    refine ao_chk (fun e23 => ?_)
    refine ao_getI dX6_readSum_19 fl_X6_38 rfl e23 ?_
    refine ao_br (br_if_ne (tgt := 103) dX6_readSum_22 (by decide)) (fun c29 => ?_) (fun c29 => ?_)
    · refine ao_s (st_aload_n dX6_readSum_25 rfl rfl) ?_
      refine ao_cVi (Kc := kX6_takeOperator) (As := []) (st := []) dX6_readSum_26 ml_X6_113 mv_X6_takeOperator rfl e21 (by decide) rfl rfl (Nat.le_of_ble_eq_true rfl) (by decide) (s_X6_takeOperator h a0) (fun r24 h25 => ?_)
      refine ao_s (st_istore_n (lv' := [some (.ref a0), some (.int x1), some (.int x2), some (.int r24), none]) dX6_readSum_29 rfl (by decide) rfl) ?_
      refine ao_s (st_iload_n dX6_readSum_30 rfl rfl) ?_
      refine ao_s (st_iconst dX6_readSum_31 ic_m1) ?_
      refine ao_br (br_icmp_ne (tgt := 38) dX6_readSum_32 (by decide)) (fun c28 => ?_) (fun c28 => ?_)
      · refine ao_s (st_goto 103 dX6_readSum_35 (by decide)) ?_
        exact ao_w (sb_s (sb_s (sb_n (sb_n (sb_n sb_0))))) (t_X6_readSum_103 h25 a0 x1)
      · refine ao_s (st_iload_n dX6_readSum_38 rfl rfl) ?_
        refine ao_s (st_iconst dX6_readSum_39 ic_2) ?_
        refine ao_br (br_icmp_eq (tgt := 48) dX6_readSum_40 (by decide)) (fun c27 => ?_) (fun c27 => ?_)
        · exact ao_w (sb_s (sb_s (sb_s (sb_s (sb_n sb_0))))) (t_X6_readSum_48 hk8 h25 a0 x1 x2 r24)
        · refine ao_s (st_iload_n dX6_readSum_43 rfl rfl) ?_
          refine ao_s (st_iconst dX6_readSum_44 ic_3) ?_
          refine ao_br (br_icmp_ne (tgt := 52) dX6_readSum_45 (by decide)) (fun c26 => ?_) (fun c26 => ?_)
          · exact ao_w (sb_s (sb_s (sb_s (sb_s (sb_n sb_0))))) (t_X6_readSum_48 hk8 h25 a0 x1 x2 r24)
          · refine ao_s (st_iconst dX6_readSum_52 ic_0) ?_
            exact ao_w (sb_s (sb_s (sb_s (sb_s (sb_n sb_0))))) (t_X6_readSum_53 hk8 h25 a0 x1 x2 r24 0)
    · exact ao_w (sb_s (sb_s (sb_n (sb_n (sb_n sb_0))))) (t_X6_readSum_103 h a0 x1)
def f_X6_readSum_8 (n : Nat) : aH → Nat → Int32 → Int32 → Option (Unit × aH) := aIt (fun _ _ _ _ => none) (fun k => b_X6_readSum_8 k) n
theorem l_X6_readSum_8 (n : Nat) : ∀ (h : aH) (a0 : Nat) (x1 : Int32) (x2 : Int32), AO eV 8 kX6_readSum 8 [some (.ref a0), some (.int x1), some (.int x2), none, none] [] h (f_X6_readSum_8 n h a0 x1 x2) := by
  induction n with
  | zero => intros; exact ao_none
  | succ n ih =>
    intro h a0 x1 x2
    exact t_X6_readSum_8 ih h a0 x1 x2
def f_X6_readSum (h : aH) (a0 : Nat) : Option (Unit × aH) :=
(if (sh a0).1 = 13 then
(aBind (f_X6_readValue h a0) fun r22 h23 =>
f_X6_readSum_8 2000 h23 a0 (-1) 0)
else none)
set_option maxHeartbeats 2000000 in
theorem s_X6_readSum (h : aH) (a0 : Nat) : SO eV 8 kX6_readSum [.ref a0] h (f_X6_readSum h a0) := by
  refine so_of (lv0 := [some (.ref a0), none, none, none, none]) pn_X6 (Nat.le_of_ble_eq_true rfl) rfl ?_
  unfold f_X6_readSum
  refine ao_s (st_iconst dX6_readSum_0 ic_m1) ?_
  refine ao_s (st_istore_n (lv' := [some (.ref a0), some (.int (-1)), none, none, none]) dX6_readSum_1 rfl (by decide) rfl) ?_
  refine ao_s (st_aload_n dX6_readSum_2 rfl rfl) ?_
  refine ao_chk (fun e21 => ?_)
  refine ao_cVv (Kc := kX6_readValue) (As := []) (st := []) dX6_readSum_3 ml_X6_110 mv_X6_readValue rfl e21 (by decide) rfl rfl (Nat.le_of_ble_eq_true rfl) (by decide) (s_X6_readValue h a0) (fun r22 h23 => ?_)
  refine ao_s (st_iconst dX6_readSum_6 ic_0) ?_
  refine ao_s (st_istore_n (lv' := [some (.ref a0), some (.int (-1)), some (.int 0), none, none]) dX6_readSum_7 rfl (by decide) rfl) ?_
  exact ao_w (sb_s (sb_s (sb_s (sb_n (sb_n sb_0))))) (l_X6_readSum_8 2000 h23 a0 (-1) 0)
def f_X6_closeBracket (h : aH) (a0 : Nat) : Option (Unit × aH) :=
(if (sh a0).1 = 13 then
((hR h a0 0).bind fun b22 =>
(if (sh b22).1 = 16 then
(if hI h b22 3 = 0 then
((hR h a0 0).bind fun b24 =>
(if (sh b24).1 = 16 then
(aBind (f_X9_takeSign h b24 93) fun r26 h27 =>
(if r26 = 0 then
((hR h27 a0 0).bind fun b28 =>
((hR h27 a0 0).bind fun b29 =>
(if (sh b29).1 = 16 then
(if (sh b28).1 = 16 then
(aBind (f_X9_blame h27 b28 (hI h27 b29 2) 0) fun r32 h33 =>
some ((), h33))
else none)
else none)))
else
some ((), h27)))
else none))
else
some ((), h))
else none))
else none)
set_option maxHeartbeats 2000000 in
theorem s_X6_closeBracket (h : aH) (a0 : Nat) : SO eV 5 kX6_closeBracket [.ref a0] h (f_X6_closeBracket h a0) := by
  refine so_of (lv0 := [some (.ref a0)]) pn_X6 (Nat.le_of_ble_eq_true rfl) rfl ?_
  unfold f_X6_closeBracket
  refine ao_s (st_aload_n dX6_closeBracket_0 rfl rfl) ?_
  refine ao_chk (fun e21 => ?_)
  refine ao_getR dX6_closeBracket_1 fl_X6_22 rfl e21 (fun b22 => ?_)
  refine ao_chk (fun e23 => ?_)
  refine ao_getI dX6_closeBracket_4 fl_X6_38 rfl e23 ?_
  refine ao_br (br_if_ne (tgt := 37) dX6_closeBracket_7 (by decide)) (fun c35 => ?_) (fun c35 => ?_)
  · refine ao_s (st_aload_n dX6_closeBracket_10 rfl rfl) ?_
    refine ao_getR dX6_closeBracket_11 fl_X6_22 rfl e21 (fun b24 => ?_)
    refine ao_s (st_bipush dX6_closeBracket_14 bp_93) ?_
    refine ao_chk (fun e25 => ?_)
    refine ao_cVi (Kc := kX9_takeSign) (As := [.int 93]) (st := []) dX6_closeBracket_16 ml_X6_41 mv_X9_takeSign rfl e25 (by decide) rfl rfl (Nat.le_of_ble_eq_true rfl) (by decide) (s_X9_takeSign h b24 93) (fun r26 h27 => ?_)
    refine ao_br (br_if_ne (tgt := 37) dX6_closeBracket_19 (by decide)) (fun c34 => ?_) (fun c34 => ?_)
    · refine ao_s (st_aload_n dX6_closeBracket_22 rfl rfl) ?_
      refine ao_getR dX6_closeBracket_23 fl_X6_22 rfl e21 (fun b28 => ?_)
      refine ao_s (st_aload_n dX6_closeBracket_26 rfl rfl) ?_
      refine ao_getR dX6_closeBracket_27 fl_X6_22 rfl e21 (fun b29 => ?_)
      refine ao_chk (fun e30 => ?_)
      refine ao_getI dX6_closeBracket_30 fl_X6_49 rfl e30 ?_
      refine ao_s (st_iconst dX6_closeBracket_33 ic_0) ?_
      refine ao_chk (fun e31 => ?_)
      refine ao_cVv (Kc := kX9_blame) (As := [.int (hI h27 b29 2), .int 0]) (st := []) dX6_closeBracket_34 ml_X6_52 mv_X9_blame rfl e31 (by decide) rfl rfl (Nat.le_of_ble_eq_true rfl) (by decide) (s_X9_blame h27 b28 (hI h27 b29 2) 0) (fun r32 h33 => ?_)
      exact ao_vr dX6_closeBracket_37 rfl
    · exact ao_vr dX6_closeBracket_37 rfl
  · exact ao_vr dX6_closeBracket_37 rfl
def f_X9_takeSignAtOnce (h : aH) (a0 : Nat) (x1 : Int32) : Option (Int32 × aH) :=
(if (sh a0).1 = 16 then
(aBind (f_X9_byteAt h a0 (hI h a0 2)) fun r22 h23 =>
(if r22 = x1 then
(aLet (pI h23 a0 2 ((hI h23 a0 2) + 1)) fun h24 =>
some (1, h24))
else
some (0, h23)))
else none)
set_option maxHeartbeats 2000000 in
theorem s_X9_takeSignAtOnce (h : aH) (a0 : Nat) (x1 : Int32) : SO eI 3 kX9_takeSignAtOnce [.ref a0, .int x1] h (f_X9_takeSignAtOnce h a0 x1) := by
  refine so_of (lv0 := [some (.ref a0), some (.int x1)]) pn_X9 (Nat.le_of_ble_eq_true rfl) rfl ?_
  unfold f_X9_takeSignAtOnce
  refine ao_s (st_aload_n dX9_takeSignAtOnce_0 rfl rfl) ?_
  refine ao_s (st_aload_n dX9_takeSignAtOnce_1 rfl rfl) ?_
  refine ao_chk (fun e21 => ?_)
  refine ao_getI dX9_takeSignAtOnce_2 fl_X9_19 rfl e21 ?_
  refine ao_cVi (Kc := kX9_byteAt) (As := [.int (hI h a0 2)]) (st := []) dX9_takeSignAtOnce_5 ml_X9_29 mv_X9_byteAt rfl e21 (by decide) rfl rfl (Nat.le_of_ble_eq_true rfl) (by decide) (s_X9_byteAt h a0 (hI h a0 2)) (fun r22 h23 => ?_)
  refine ao_s (st_iload_n dX9_takeSignAtOnce_8 rfl rfl) ?_
  refine ao_br (br_icmp_eq (tgt := 14) dX9_takeSignAtOnce_9 (by decide)) (fun c25 => ?_) (fun c25 => ?_)
  · refine ao_s (st_aload_n dX9_takeSignAtOnce_14 rfl rfl) ?_
    refine ao_s (st_dup dX9_takeSignAtOnce_15 rfl) ?_
    refine ao_getI dX9_takeSignAtOnce_16 fl_X9_19 rfl e21 ?_
    refine ao_s (st_iconst dX9_takeSignAtOnce_19 ic_1) ?_
    refine ao_s (st_iadd dX9_takeSignAtOnce_20) ?_
    refine ao_putI dX9_takeSignAtOnce_21 fl_X9_19 rfl rfl rfl rfl e21 ?_
    refine ao_letH (fun h24 => ?_)
    refine ao_s (st_iconst dX9_takeSignAtOnce_24 ic_1) ?_
    exact ao_ir dX9_takeSignAtOnce_25 rfl (by decide)
  · refine ao_s (st_iconst dX9_takeSignAtOnce_12 ic_0) ?_
    exact ao_ir dX9_takeSignAtOnce_13 rfl (by decide)
def b_X6_takeComparer_114 (h : aH) (a0 : Nat) (x1 : Int32) (x2 : Int32) : Option (Int32 × aH) :=
(if (sh a0).1 = 13 then
(aBind (f_X6_countValue h a0 x1) fun r22 h23 =>
some (x2, h23))
else none)
set_option maxHeartbeats 2000000 in
theorem t_X6_takeComparer_114 (h : aH) (a0 : Nat) (x1 : Int32) (x2 : Int32) : AO eI 5 kX6_takeComparer 114 [some (.ref a0), some (.int x1), some (.int x2)] [] h (b_X6_takeComparer_114 h a0 x1 x2) := by
  unfold b_X6_takeComparer_114
  refine ao_s (st_aload_n dX6_takeComparer_114 rfl rfl) ?_
  refine ao_s (st_iload_n dX6_takeComparer_115 rfl rfl) ?_
  refine ao_chk (fun e21 => ?_)
  refine ao_cVv (Kc := kX6_countValue) (As := [.int x1]) (st := []) dX6_takeComparer_116 ml_X6_107 mv_X6_countValue rfl e21 (by decide) rfl rfl (Nat.le_of_ble_eq_true rfl) (by decide) (s_X6_countValue h a0 x1) (fun r22 h23 => ?_)
  refine ao_s (st_iload_n dX6_takeComparer_119 rfl rfl) ?_
  exact ao_ir dX6_takeComparer_120 rfl rfl
def b_X6_takeComparer_54 (h : aH) (a0 : Nat) (x1 : Int32) (s0 : Int32) : Option (Int32 × aH) :=
b_X6_takeComparer_114 h a0 x1 s0
set_option maxHeartbeats 2000000 in
theorem t_X6_takeComparer_54 (h : aH) (a0 : Nat) (x1 : Int32) (s0 : Int32) : AO eI 5 kX6_takeComparer 54 [some (.ref a0), some (.int x1), none] [.int s0] h (b_X6_takeComparer_54 h a0 x1 s0) := by
  unfold b_X6_takeComparer_54
  refine ao_s (st_istore_n (lv' := [some (.ref a0), some (.int x1), some (.int s0)]) dX6_takeComparer_54 rfl (by decide) rfl) ?_
  refine ao_s (st_goto 114 dX6_takeComparer_55 (by decide)) ?_
  exact ao_w (sb_s (sb_s (sb_s sb_0))) (t_X6_takeComparer_114 h a0 x1 s0)
def b_X6_takeComparer_89 (h : aH) (a0 : Nat) (x1 : Int32) (s0 : Int32) : Option (Int32 × aH) :=
b_X6_takeComparer_114 h a0 x1 s0
set_option maxHeartbeats 2000000 in
theorem t_X6_takeComparer_89 (h : aH) (a0 : Nat) (x1 : Int32) (s0 : Int32) : AO eI 5 kX6_takeComparer 89 [some (.ref a0), some (.int x1), none] [.int s0] h (b_X6_takeComparer_89 h a0 x1 s0) := by
  unfold b_X6_takeComparer_89
  refine ao_s (st_istore_n (lv' := [some (.ref a0), some (.int x1), some (.int s0)]) dX6_takeComparer_89 rfl (by decide) rfl) ?_
  refine ao_s (st_goto 114 dX6_takeComparer_90 (by decide)) ?_
  exact ao_w (sb_s (sb_s (sb_s sb_0))) (t_X6_takeComparer_114 h a0 x1 s0)
def f_X6_takeComparer (h : aH) (a0 : Nat) : Option (Int32 × aH) :=
(if (sh a0).1 = 13 then
((hR h a0 0).bind fun b22 =>
(if (sh b22).1 = 16 then
(aBind (f_X9_seek h b22) fun r24 h25 =>
((hR h25 a0 0).bind fun b26 =>
(if (sh b26).1 = 16 then
(if hI h25 b26 3 = 0 then
((hR h25 a0 0).bind fun b28 =>
(if (sh b28).1 = 16 then
(aBind (f_X9_takeSign h25 b28 60) fun r30 h31 =>
(if r30 = 0 then
((hR h31 a0 0).bind fun b32 =>
(if (sh b32).1 = 16 then
(aBind (f_X9_takeSign h31 b32 62) fun r34 h35 =>
(if r34 = 0 then
((hR h35 a0 0).bind fun b36 =>
(if (sh b36).1 = 16 then
(aBind (f_X9_takeSign h35 b36 61) fun r38 h39 =>
(if r38 = 0 then
((hR h39 a0 0).bind fun b40 =>
(if (sh b40).1 = 16 then
(aBind (f_X9_blame h39 b40 r24 0) fun r42 h43 =>
b_X6_takeComparer_114 h43 a0 r24 9)
else none))
else
b_X6_takeComparer_114 h39 a0 r24 9))
else none))
else
((hR h35 a0 0).bind fun b45 =>
(if (sh b45).1 = 16 then
(aBind (f_X9_takeSignAtOnce h35 b45 61) fun r47 h48 =>
(if r47 = 0 then
b_X6_takeComparer_89 h48 a0 r24 11
else
b_X6_takeComparer_89 h48 a0 r24 10))
else none))))
else none))
else
((hR h31 a0 0).bind fun b51 =>
(if (sh b51).1 = 16 then
(aBind (f_X9_takeSignAtOnce h31 b51 61) fun r53 h54 =>
(if r53 = 0 then
b_X6_takeComparer_54 h54 a0 r24 7
else
b_X6_takeComparer_54 h54 a0 r24 8))
else none))))
else none))
else
some (9, h25))
else none)))
else none))
else none)
set_option maxHeartbeats 2000000 in
theorem s_X6_takeComparer (h : aH) (a0 : Nat) : SO eI 5 kX6_takeComparer [.ref a0] h (f_X6_takeComparer h a0) := by
  refine so_of (lv0 := [some (.ref a0), none, none]) pn_X6 (Nat.le_of_ble_eq_true rfl) rfl ?_
  unfold f_X6_takeComparer
  refine ao_s (st_aload_n dX6_takeComparer_0 rfl rfl) ?_
  refine ao_chk (fun e21 => ?_)
  refine ao_getR dX6_takeComparer_1 fl_X6_22 rfl e21 (fun b22 => ?_)
  refine ao_chk (fun e23 => ?_)
  refine ao_cVi (Kc := kX9_seek) (As := []) (st := []) dX6_takeComparer_4 ml_X6_56 mv_X9_seek rfl e23 (by decide) rfl rfl (Nat.le_of_ble_eq_true rfl) (by decide) (s_X9_seek h b22) (fun r24 h25 => ?_)
  refine ao_s (st_istore_n (lv' := [some (.ref a0), some (.int r24), none]) dX6_takeComparer_7 rfl (by decide) rfl) ?_
  refine ao_s (st_bipush dX6_takeComparer_8 bp_9) ?_
  refine ao_s (st_istore_n (lv' := [some (.ref a0), some (.int r24), some (.int 9)]) dX6_takeComparer_10 rfl (by decide) rfl) ?_
  refine ao_s (st_aload_n dX6_takeComparer_11 rfl rfl) ?_
  refine ao_getR dX6_takeComparer_12 fl_X6_22 rfl e21 (fun b26 => ?_)
  refine ao_chk (fun e27 => ?_)
  refine ao_getI dX6_takeComparer_15 fl_X6_38 rfl e27 ?_
  refine ao_br (br_if_eq (tgt := 23) dX6_takeComparer_18 (by decide)) (fun c57 => ?_) (fun c57 => ?_)
  · refine ao_s (st_aload_n dX6_takeComparer_23 rfl rfl) ?_
    refine ao_getR dX6_takeComparer_24 fl_X6_22 rfl e21 (fun b28 => ?_)
    refine ao_s (st_bipush dX6_takeComparer_27 bp_60) ?_
    refine ao_chk (fun e29 => ?_)
    refine ao_cVi (Kc := kX9_takeSign) (As := [.int 60]) (st := []) dX6_takeComparer_29 ml_X6_41 mv_X9_takeSign rfl e29 (by decide) rfl rfl (Nat.le_of_ble_eq_true rfl) (by decide) (s_X9_takeSign h25 b28 60) (fun r30 h31 => ?_)
    refine ao_br (br_if_eq (tgt := 58) dX6_takeComparer_32 (by decide)) (fun c56 => ?_) (fun c56 => ?_)
    · refine ao_s (st_aload_n dX6_takeComparer_58 rfl rfl) ?_
      refine ao_getR dX6_takeComparer_59 fl_X6_22 rfl e21 (fun b32 => ?_)
      refine ao_s (st_bipush dX6_takeComparer_62 bp_62) ?_
      refine ao_chk (fun e33 => ?_)
      refine ao_cVi (Kc := kX9_takeSign) (As := [.int 62]) (st := []) dX6_takeComparer_64 ml_X6_41 mv_X9_takeSign rfl e33 (by decide) rfl rfl (Nat.le_of_ble_eq_true rfl) (by decide) (s_X9_takeSign h31 b32 62) (fun r34 h35 => ?_)
      refine ao_br (br_if_eq (tgt := 93) dX6_takeComparer_67 (by decide)) (fun c50 => ?_) (fun c50 => ?_)
      · refine ao_s (st_aload_n dX6_takeComparer_93 rfl rfl) ?_
        refine ao_getR dX6_takeComparer_94 fl_X6_22 rfl e21 (fun b36 => ?_)
        refine ao_s (st_bipush dX6_takeComparer_97 bp_61) ?_
        refine ao_chk (fun e37 => ?_)
        refine ao_cVi (Kc := kX9_takeSign) (As := [.int 61]) (st := []) dX6_takeComparer_99 ml_X6_41 mv_X9_takeSign rfl e37 (by decide) rfl rfl (Nat.le_of_ble_eq_true rfl) (by decide) (s_X9_takeSign h35 b36 61) (fun r38 h39 => ?_)
        refine ao_br (br_if_ne (tgt := 114) dX6_takeComparer_102 (by decide)) (fun c44 => ?_) (fun c44 => ?_)
        · refine ao_s (st_aload_n dX6_takeComparer_105 rfl rfl) ?_
          refine ao_getR dX6_takeComparer_106 fl_X6_22 rfl e21 (fun b40 => ?_)
          refine ao_s (st_iload_n dX6_takeComparer_109 rfl rfl) ?_
          refine ao_s (st_iconst dX6_takeComparer_110 ic_0) ?_
          refine ao_chk (fun e41 => ?_)
          refine ao_cVv (Kc := kX9_blame) (As := [.int r24, .int 0]) (st := []) dX6_takeComparer_111 ml_X6_52 mv_X9_blame rfl e41 (by decide) rfl rfl (Nat.le_of_ble_eq_true rfl) (by decide) (s_X9_blame h39 b40 r24 0) (fun r42 h43 => ?_)
          exact ao_w (sb_s (sb_s (sb_s sb_0))) (t_X6_takeComparer_114 h43 a0 r24 9)
        · exact ao_w (sb_s (sb_s (sb_s sb_0))) (t_X6_takeComparer_114 h39 a0 r24 9)
      · refine ao_s (st_aload_n dX6_takeComparer_70 rfl rfl) ?_
        refine ao_getR dX6_takeComparer_71 fl_X6_22 rfl e21 (fun b45 => ?_)
        refine ao_s (st_bipush dX6_takeComparer_74 bp_61) ?_
        refine ao_chk (fun e46 => ?_)
        refine ao_cVi (Kc := kX9_takeSignAtOnce) (As := [.int 61]) (st := []) dX6_takeComparer_76 ml_X6_104 mv_X9_takeSignAtOnce rfl e46 (by decide) rfl rfl (Nat.le_of_ble_eq_true rfl) (by decide) (s_X9_takeSignAtOnce h35 b45 61) (fun r47 h48 => ?_)
        refine ao_br (br_if_eq (tgt := 87) dX6_takeComparer_79 (by decide)) (fun c49 => ?_) (fun c49 => ?_)
        · refine ao_s (st_bipush dX6_takeComparer_87 bp_11) ?_
          exact ao_w (sb_s (sb_s (sb_n sb_0))) (t_X6_takeComparer_89 h48 a0 r24 11)
        · refine ao_s (st_bipush dX6_takeComparer_82 bp_10) ?_
          refine ao_s (st_goto 89 dX6_takeComparer_84 (by decide)) ?_
          exact ao_w (sb_s (sb_s (sb_n sb_0))) (t_X6_takeComparer_89 h48 a0 r24 10)
    · refine ao_s (st_aload_n dX6_takeComparer_35 rfl rfl) ?_
      refine ao_getR dX6_takeComparer_36 fl_X6_22 rfl e21 (fun b51 => ?_)
      refine ao_s (st_bipush dX6_takeComparer_39 bp_61) ?_
      refine ao_chk (fun e52 => ?_)
      refine ao_cVi (Kc := kX9_takeSignAtOnce) (As := [.int 61]) (st := []) dX6_takeComparer_41 ml_X6_104 mv_X9_takeSignAtOnce rfl e52 (by decide) rfl rfl (Nat.le_of_ble_eq_true rfl) (by decide) (s_X9_takeSignAtOnce h31 b51 61) (fun r53 h54 => ?_)
      refine ao_br (br_if_eq (tgt := 52) dX6_takeComparer_44 (by decide)) (fun c55 => ?_) (fun c55 => ?_)
      · refine ao_s (st_bipush dX6_takeComparer_52 bp_7) ?_
        exact ao_w (sb_s (sb_s (sb_n sb_0))) (t_X6_takeComparer_54 h54 a0 r24 7)
      · refine ao_s (st_bipush dX6_takeComparer_47 bp_8) ?_
        refine ao_s (st_goto 54 dX6_takeComparer_49 (by decide)) ?_
        exact ao_w (sb_s (sb_s (sb_n sb_0))) (t_X6_takeComparer_54 h54 a0 r24 8)
  · refine ao_s (st_iload_n dX6_takeComparer_21 rfl rfl) ?_
    exact ao_ir dX6_takeComparer_22 rfl rfl
