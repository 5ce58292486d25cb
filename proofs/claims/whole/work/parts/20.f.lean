def b_X6_readValue_83 (h : aH) (a0 : Nat) (x1 : Int32) : Option (Unit × aH) :=
(if (sh a0).1 = 13 then
(aBind (f_X6_countValue h a0 x1) fun r22 h23 =>
some ((), h23))
else none)
set_option maxHeartbeats 2000000 in
theorem t_X6_readValue_83 (h : aH) (a0 : Nat) (x1 : Int32) {z2 : Option Value} : AO eV 8 kX6_readValue 83 [some (.ref a0), some (.int x1), z2] [] h (b_X6_readValue_83 h a0 x1) := by
  unfold b_X6_readValue_83
  refine ao_s (st_aload_n dX6_readValue_83 rfl rfl) ?_
  refine ao_s (st_iload_n dX6_readValue_84 rfl rfl) ?_
  refine ao_chk (fun e21 => ?_)
  refine ao_cVv (As := [.int x1]) (st := []) dX6_readValue_85 ml_X6_107 mv_X6_countValue rfl e21 (by decide) rfl rfl (Nat.le_of_ble_eq_true rfl) (by decide) (s_X6_countValue h a0 x1) (fun r22 h23 => ?_)
  exact ao_vr dX6_readValue_88 rfl
def f_X6_readValue (h : aH) (a0 : Nat) : Option (Unit × aH) :=
(if (sh a0).1 = 13 then
((hR h a0 0).bind fun b22 =>
(if (sh b22).1 = 16 then
(if hI h b22 3 = 0 then
((hR h a0 0).bind fun b24 =>
(if (sh b24).1 = 16 then
(aBind (f_X9_seek h b24) fun r26 h27 =>
((hR h27 a0 0).bind fun b28 =>
(if (sh b28).1 = 16 then
(aBind (f_X9_isDigitHere h27 b28) fun r30 h31 =>
(if r30 = 0 then
((hR h31 a0 0).bind fun b32 =>
(if (sh b32).1 = 16 then
(aBind (f_X9_takeWord h31 b32 1001) fun r34 h35 =>
(if r34 = (-1) then
((hR h35 a0 0).bind fun b36 =>
(if (sh b36).1 = 16 then
(aBind (f_X9_blame h35 b36 r26 0) fun r38 h39 =>
some ((), h39))
else none))
else
((hR h35 a0 1).bind fun b40 =>
(if (sh b40).1 = 12 then
(aBind (f_X5_emit h35 b40 1 r34) fun r42 h43 =>
b_X6_readValue_83 h43 a0 r26)
else none))))
else none))
else
((hR h31 a0 1).bind fun b45 =>
((hR h31 a0 0).bind fun b46 =>
(if (sh b46).1 = 16 then
(aBind (f_X9_takeNumber h31 b46 99999) fun r48 h49 =>
(if (sh b45).1 = 12 then
(aBind (f_X5_emit h49 b45 0 r48) fun r51 h52 =>
b_X6_readValue_83 h52 a0 r26)
else none))
else none)))))
else none)))
else none))
else
some ((), h))
else none))
else none)
set_option maxHeartbeats 2000000 in
theorem s_X6_readValue (h : aH) (a0 : Nat) : SO eV 8 kX6_readValue [.ref a0] h (f_X6_readValue h a0) := by
  refine so_of (lv0 := [some (.ref a0), none, none]) pn_X6 (Nat.le_of_ble_eq_true rfl) rfl ?_
  unfold f_X6_readValue
  refine ao_s (st_aload_n dX6_readValue_0 rfl rfl) ?_
  refine ao_chk (fun e21 => ?_)
  refine ao_getR dX6_readValue_1 fl_X6_22 rfl e21 (fun b22 => ?_)
  refine ao_chk (fun e23 => ?_)
  refine ao_getI dX6_readValue_4 fl_X6_38 rfl e23 ?_
  refine ao_br (br_if_eq (tgt := 11) dX6_readValue_7 (by decide)) (fun c54 => ?_) (fun c54 => ?_)
  · refine ao_s (st_aload_n dX6_readValue_11 rfl rfl) ?_
    refine ao_getR dX6_readValue_12 fl_X6_22 rfl e21 (fun b24 => ?_)
    refine ao_chk (fun e25 => ?_)
    refine ao_cVi (As := []) (st := []) dX6_readValue_15 ml_X6_56 mv_X9_seek rfl e25 (by decide) rfl rfl (Nat.le_of_ble_eq_true rfl) (by decide) (s_X9_seek h b24) (fun r26 h27 => ?_)
    refine ao_s (st_istore_n (lv' := [some (.ref a0), some (.int r26), none]) dX6_readValue_18 rfl (by decide) rfl) ?_
    refine ao_s (st_aload_n dX6_readValue_19 rfl rfl) ?_
    refine ao_getR dX6_readValue_20 fl_X6_22 rfl e21 (fun b28 => ?_)
    refine ao_chk (fun e29 => ?_)
    refine ao_cVi (As := []) (st := []) dX6_readValue_23 ml_X6_116 mv_X9_isDigitHere rfl e29 (by decide) rfl rfl (Nat.le_of_ble_eq_true rfl) (by decide) (s_X9_isDigitHere h27 b28) (fun r30 h31 => ?_)
    refine ao_br (br_if_eq (tgt := 49) dX6_readValue_26 (by decide)) (fun c53 => ?_) (fun c53 => ?_)
    · refine ao_s (st_aload_n dX6_readValue_49 rfl rfl) ?_
      refine ao_getR dX6_readValue_50 fl_X6_22 rfl e21 (fun b32 => ?_)
      refine ao_s (st_ldcS (i := 1) dX6_readValue_53 (by decide) rfl rfl) ?_
      refine ao_chk (fun e33 => ?_)
      refine ao_cVi (As := [.ref 1001]) (st := []) dX6_readValue_55 ml_X6_61 mv_X9_takeWord rfl e33 (by decide) rfl rfl (Nat.le_of_ble_eq_true rfl) (by decide) (s_X9_takeWord h31 b32 1001) (fun r34 h35 => ?_)
      refine ao_s (st_istore_n (lv' := [some (.ref a0), some (.int r26), some (.int r34)]) dX6_readValue_58 rfl (by decide) rfl) ?_
      refine ao_s (st_iload_n dX6_readValue_59 rfl rfl) ?_
      refine ao_s (st_iconst dX6_readValue_60 ic_m1) ?_
      refine ao_br (br_icmp_ne (tgt := 74) dX6_readValue_61 (by decide)) (fun c44 => ?_) (fun c44 => ?_)
      · refine ao_s (st_aload_n dX6_readValue_64 rfl rfl) ?_
        refine ao_getR dX6_readValue_65 fl_X6_22 rfl e21 (fun b36 => ?_)
        refine ao_s (st_iload_n dX6_readValue_68 rfl rfl) ?_
        refine ao_s (st_iconst dX6_readValue_69 ic_0) ?_
        refine ao_chk (fun e37 => ?_)
        refine ao_cVv (As := [.int r26, .int 0]) (st := []) dX6_readValue_70 ml_X6_52 mv_X9_blame rfl e37 (by decide) rfl rfl (Nat.le_of_ble_eq_true rfl) (by decide) (s_X9_blame h35 b36 r26 0) (fun r38 h39 => ?_)
        exact ao_vr dX6_readValue_73 rfl
      · refine ao_s (st_aload_n dX6_readValue_74 rfl rfl) ?_
        refine ao_getR dX6_readValue_75 fl_X6_12 rfl e21 (fun b40 => ?_)
        refine ao_s (st_iconst dX6_readValue_78 ic_1) ?_
        refine ao_s (st_iload_n dX6_readValue_79 rfl rfl) ?_
        refine ao_chk (fun e41 => ?_)
        refine ao_cVv (As := [.int 1, .int r34]) (st := []) dX6_readValue_80 ml_X6_88 mv_X5_emit rfl e41 (by decide) rfl rfl (Nat.le_of_ble_eq_true rfl) (by decide) (s_X5_emit h35 b40 1 r34) (fun r42 h43 => ?_)
        exact t_X6_readValue_83 h43 a0 r26
    · refine ao_s (st_aload_n dX6_readValue_29 rfl rfl) ?_
      refine ao_getR dX6_readValue_30 fl_X6_12 rfl e21 (fun b45 => ?_)
      refine ao_s (st_iconst dX6_readValue_33 ic_0) ?_
      refine ao_s (st_aload_n dX6_readValue_34 rfl rfl) ?_
      refine ao_getR dX6_readValue_35 fl_X6_22 rfl e21 (fun b46 => ?_)
      refine ao_s (st_ldc dX6_readValue_38 ci_X6_120) ?_
      refine ao_chk (fun e47 => ?_)
      refine ao_cVi (As := [.int 99999]) (st := [.int 0, .ref b45]) dX6_readValue_40 ml_X6_121 mv_X9_takeNumber rfl e47 (by decide) rfl rfl (Nat.le_of_ble_eq_true rfl) (by decide) (s_X9_takeNumber h31 b46 99999) (fun r48 h49 => ?_)
      refine ao_chk (fun e50 => ?_)
      refine ao_cVv (As := [.int 0, .int r48]) (st := []) dX6_readValue_43 ml_X6_88 mv_X5_emit rfl e50 (by decide) rfl rfl (Nat.le_of_ble_eq_true rfl) (by decide) (s_X5_emit h49 b45 0 r48) (fun r51 h52 => ?_)
      refine ao_s (st_goto 83 dX6_readValue_46 (by decide)) ?_
      exact t_X6_readValue_83 h52 a0 r26
  · exact ao_vr dX6_readValue_10 rfl
def b_X6_takeOperator_96 (h : aH) (a0 : Nat) (x1 : Int32) : Option (Int32 × aH) :=
(if (sh a0).1 = 13 then
((hR h a0 0).bind fun b22 =>
(if (sh b22).1 = 16 then
(aLet (pI h b22 2 ((hI h b22 2) + 1)) fun h24 =>
some (x1, h24))
else none))
else none)
set_option maxHeartbeats 2000000 in
theorem t_X6_takeOperator_96 (h : aH) (a0 : Nat) (x1 : Int32) : AO eI 4 kX6_takeOperator 96 [some (.ref a0), some (.int x1)] [] h (b_X6_takeOperator_96 h a0 x1) := by
  unfold b_X6_takeOperator_96
  refine ao_s (st_aload_n dX6_takeOperator_96 rfl rfl) ?_
  refine ao_chk (fun e21 => ?_)
  refine ao_getR dX6_takeOperator_97 fl_X6_22 rfl e21 (fun b22 => ?_)
  refine ao_s (st_dup dX6_takeOperator_100 rfl) ?_
  refine ao_chk (fun e23 => ?_)
  refine ao_getI dX6_takeOperator_101 fl_X6_49 rfl e23 ?_
  refine ao_s (st_iconst dX6_takeOperator_104 ic_1) ?_
  refine ao_s (st_iadd dX6_takeOperator_105) ?_
  refine ao_putI dX6_takeOperator_106 fl_X6_49 rfl rfl rfl rfl e23 ?_
  refine ao_letH (fun h24 => ?_)
  refine ao_s (st_iload_n dX6_takeOperator_109 rfl rfl) ?_
  exact ao_ir dX6_takeOperator_110 rfl rfl
def f_X6_takeOperator (h : aH) (a0 : Nat) : Option (Int32 × aH) :=
(if (sh a0).1 = 13 then
((hR h a0 0).bind fun b22 =>
(if (sh b22).1 = 16 then
(aBind (f_X9_next h b22) fun r24 h25 =>
(if r24 = 37 then
b_X6_takeOperator_96 h25 a0 6
else
(if r24 = 38 then
some ((-1), h25)
else
(if r24 = 39 then
some ((-1), h25)
else
(if r24 = 40 then
some ((-1), h25)
else
(if r24 = 41 then
some ((-1), h25)
else
(if r24 = 42 then
b_X6_takeOperator_96 h25 a0 4
else
(if r24 = 43 then
b_X6_takeOperator_96 h25 a0 2
else
(if r24 = 44 then
some ((-1), h25)
else
(if r24 = 45 then
b_X6_takeOperator_96 h25 a0 3
else
(if r24 = 46 then
some ((-1), h25)
else
(if r24 = 47 then
b_X6_takeOperator_96 h25 a0 5
else
some ((-1), h25)))))))))))))
else none))
else none)
set_option maxHeartbeats 2000000 in
theorem s_X6_takeOperator (h : aH) (a0 : Nat) : SO eI 4 kX6_takeOperator [.ref a0] h (f_X6_takeOperator h a0) := by
  refine so_of (lv0 := [some (.ref a0), none]) pn_X6 (Nat.le_of_ble_eq_true rfl) rfl ?_
  unfold f_X6_takeOperator
  refine ao_s (st_iconst dX6_takeOperator_0 ic_m1) ?_
  refine ao_s (st_istore_n (lv' := [some (.ref a0), some (.int (-1))]) dX6_takeOperator_1 rfl (by decide) rfl) ?_
  refine ao_s (st_aload_n dX6_takeOperator_2 rfl rfl) ?_
  refine ao_chk (fun e21 => ?_)
  refine ao_getR dX6_takeOperator_3 fl_X6_22 rfl e21 (fun b22 => ?_)
  refine ao_chk (fun e23 => ?_)
  refine ao_cVi (As := []) (st := []) dX6_takeOperator_6 ml_X6_45 mv_X9_next rfl e23 (by decide) rfl rfl (Nat.le_of_ble_eq_true rfl) (by decide) (s_X9_next h b22) (fun r24 h25 => ?_)
  refine ao_ite (fun c26 => ?_) (fun c26 => ?_)
  · refine ao_s (st_tabIn (v := 37) (off := 79) (tgt := 88) c26 dX6_takeOperator_9 (by decide) (by decide)) ?_
    refine ao_s (st_bipush dX6_takeOperator_88 bp_6) ?_
    refine ao_s (st_istore_n (lv' := [some (.ref a0), some (.int 6)]) dX6_takeOperator_90 rfl (by decide) rfl) ?_
    refine ao_s (st_goto 96 dX6_takeOperator_91 (by decide)) ?_
    exact t_X6_takeOperator_96 h25 a0 6
  · refine ao_ite (fun c27 => ?_) (fun c27 => ?_)
    · refine ao_s (st_tabIn (v := 38) (off := 85) (tgt := 94) c27 dX6_takeOperator_9 (by decide) (by decide)) ?_
      refine ao_s (st_iconst dX6_takeOperator_94 ic_m1) ?_
      exact ao_ir dX6_takeOperator_95 rfl rfl
    · refine ao_ite (fun c28 => ?_) (fun c28 => ?_)
      · refine ao_s (st_tabIn (v := 39) (off := 85) (tgt := 94) c28 dX6_takeOperator_9 (by decide) (by decide)) ?_
        refine ao_s (st_iconst dX6_takeOperator_94 ic_m1) ?_
        exact ao_ir dX6_takeOperator_95 rfl rfl
      · refine ao_ite (fun c29 => ?_) (fun c29 => ?_)
        · refine ao_s (st_tabIn (v := 40) (off := 85) (tgt := 94) c29 dX6_takeOperator_9 (by decide) (by decide)) ?_
          refine ao_s (st_iconst dX6_takeOperator_94 ic_m1) ?_
          exact ao_ir dX6_takeOperator_95 rfl rfl
        · refine ao_ite (fun c30 => ?_) (fun c30 => ?_)
          · refine ao_s (st_tabIn (v := 41) (off := 85) (tgt := 94) c30 dX6_takeOperator_9 (by decide) (by decide)) ?_
            refine ao_s (st_iconst dX6_takeOperator_94 ic_m1) ?_
            exact ao_ir dX6_takeOperator_95 rfl rfl
          · refine ao_ite (fun c31 => ?_) (fun c31 => ?_)
            · refine ao_s (st_tabIn (v := 42) (off := 69) (tgt := 78) c31 dX6_takeOperator_9 (by decide) (by decide)) ?_
              refine ao_s (st_iconst dX6_takeOperator_78 ic_4) ?_
              refine ao_s (st_istore_n (lv' := [some (.ref a0), some (.int 4)]) dX6_takeOperator_79 rfl (by decide) rfl) ?_
              refine ao_s (st_goto 96 dX6_takeOperator_80 (by decide)) ?_
              exact t_X6_takeOperator_96 h25 a0 4
            · refine ao_ite (fun c32 => ?_) (fun c32 => ?_)
              · refine ao_s (st_tabIn (v := 43) (off := 59) (tgt := 68) c32 dX6_takeOperator_9 (by decide) (by decide)) ?_
                refine ao_s (st_iconst dX6_takeOperator_68 ic_2) ?_
                refine ao_s (st_istore_n (lv' := [some (.ref a0), some (.int 2)]) dX6_takeOperator_69 rfl (by decide) rfl) ?_
                refine ao_s (st_goto 96 dX6_takeOperator_70 (by decide)) ?_
                exact t_X6_takeOperator_96 h25 a0 2
              · refine ao_ite (fun c33 => ?_) (fun c33 => ?_)
                · refine ao_s (st_tabIn (v := 44) (off := 85) (tgt := 94) c33 dX6_takeOperator_9 (by decide) (by decide)) ?_
                  refine ao_s (st_iconst dX6_takeOperator_94 ic_m1) ?_
                  exact ao_ir dX6_takeOperator_95 rfl rfl
                · refine ao_ite (fun c34 => ?_) (fun c34 => ?_)
                  · refine ao_s (st_tabIn (v := 45) (off := 64) (tgt := 73) c34 dX6_takeOperator_9 (by decide) (by decide)) ?_
                    refine ao_s (st_iconst dX6_takeOperator_73 ic_3) ?_
                    refine ao_s (st_istore_n (lv' := [some (.ref a0), some (.int 3)]) dX6_takeOperator_74 rfl (by decide) rfl) ?_
                    refine ao_s (st_goto 96 dX6_takeOperator_75 (by decide)) ?_
                    exact t_X6_takeOperator_96 h25 a0 3
                  · refine ao_ite (fun c35 => ?_) (fun c35 => ?_)
                    · refine ao_s (st_tabIn (v := 46) (off := 85) (tgt := 94) c35 dX6_takeOperator_9 (by decide) (by decide)) ?_
                      refine ao_s (st_iconst dX6_takeOperator_94 ic_m1) ?_
                      exact ao_ir dX6_takeOperator_95 rfl rfl
                    · refine ao_ite (fun c36 => ?_) (fun c36 => ?_)
                      · refine ao_s (st_tabIn (v := 47) (off := 74) (tgt := 83) c36 dX6_takeOperator_9 (by decide) (by decide)) ?_
                        refine ao_s (st_iconst dX6_takeOperator_83 ic_5) ?_
                        refine ao_s (st_istore_n (lv' := [some (.ref a0), some (.int 5)]) dX6_takeOperator_84 rfl (by decide) rfl) ?_
                        refine ao_s (st_goto 96 dX6_takeOperator_85 (by decide)) ?_
                        exact t_X6_takeOperator_96 h25 a0 5
                      · refine ao_s (st_tabOut (tgt := 94) dX6_takeOperator_9 (by have q0 := lv_neT c26 (show (37 : Int32).toInt = 37 by decide); have q1 := lv_neT c27 (show (38 : Int32).toInt = 38 by decide); have q2 := lv_neT c28 (show (39 : Int32).toInt = 39 by decide); have q3 := lv_neT c29 (show (40 : Int32).toInt = 40 by decide); have q4 := lv_neT c30 (show (41 : Int32).toInt = 41 by decide); have q5 := lv_neT c31 (show (42 : Int32).toInt = 42 by decide); have q6 := lv_neT c32 (show (43 : Int32).toInt = 43 by decide); have q7 := lv_neT c33 (show (44 : Int32).toInt = 44 by decide); have q8 := lv_neT c34 (show (45 : Int32).toInt = 45 by decide); have q9 := lv_neT c35 (show (46 : Int32).toInt = 46 by decide); have q10 := lv_neT c36 (show (47 : Int32).toInt = 47 by decide); omega) (by decide)) ?_
                        refine ao_s (st_iconst dX6_takeOperator_94 ic_m1) ?_
                        exact ao_ir dX6_takeOperator_95 rfl rfl
def b_X6_readSum_97 (k8 : aH → Nat → Int32 → Int32 → Option (Unit × aH)) (h : aH) (a0 : Nat) (x1 : Int32) (x2 : Int32) : Option (Unit × aH) :=
k8 h a0 x1 (x2 + 1)
set_option maxHeartbeats 2000000 in
theorem t_X6_readSum_97 {k8 : aH → Nat → Int32 → Int32 → Option (Unit × aH)} (hk8 : ∀ (h : aH) (a0 : Nat) (x1 : Int32) (x2 : Int32) {z3 : Option Value} {z4 : Option Value}, AO eV 9 kX6_readSum 8 [some (.ref a0), some (.int x1), some (.int x2), z3, z4] [] h (k8 h a0 x1 x2)) (h : aH) (a0 : Nat) (x1 : Int32) (x2 : Int32) {z3 : Option Value} {z4 : Option Value} : AO eV 9 kX6_readSum 97 [some (.ref a0), some (.int x1), some (.int x2), z3, z4] [] h (b_X6_readSum_97 k8 h a0 x1 x2) := by
  unfold b_X6_readSum_97
  refine ao_s (st_iinc (lv' := [some (.ref a0), some (.int x1), some (.int (x2 + 1)), z3, z4]) dX6_readSum_97 rfl nc_1 (by decide) rfl) ?_
  refine ao_s (st_goto 8 dX6_readSum_100 (by decide)) ?_
  exact hk8 h a0 x1 (x2 + 1)
def b_X6_readSum_74 (k8 : aH → Nat → Int32 → Int32 → Option (Unit × aH)) (h : aH) (a0 : Nat) (x1 : Int32) (x2 : Int32) (x3 : Int32) (x4 : Int32) : Option (Unit × aH) :=
(if (sh a0).1 = 13 then
(aBind (f_X6_readValue h a0) fun r22 h23 =>
(if x4 = 0 then
((hR h23 a0 1).bind fun b24 =>
(if (sh b24).1 = 12 then
(aBind (f_X5_emit h23 b24 x3 0) fun r26 h27 =>
b_X6_readSum_97 k8 h27 a0 x1 x2)
else none))
else
b_X6_readSum_97 k8 h23 a0 x3 x2))
else none)
set_option maxHeartbeats 2000000 in
theorem t_X6_readSum_74 {k8 : aH → Nat → Int32 → Int32 → Option (Unit × aH)} (hk8 : ∀ (h : aH) (a0 : Nat) (x1 : Int32) (x2 : Int32) {z3 : Option Value} {z4 : Option Value}, AO eV 9 kX6_readSum 8 [some (.ref a0), some (.int x1), some (.int x2), z3, z4] [] h (k8 h a0 x1 x2)) (h : aH) (a0 : Nat) (x1 : Int32) (x2 : Int32) (x3 : Int32) (x4 : Int32) : AO eV 9 kX6_readSum 74 [some (.ref a0), some (.int x1), some (.int x2), some (.int x3), some (.int x4)] [] h (b_X6_readSum_74 k8 h a0 x1 x2 x3 x4) := by
  unfold b_X6_readSum_74
  refine ao_s (st_aload_n dX6_readSum_74 rfl rfl) ?_
  refine ao_chk (fun e21 => ?_)
  refine ao_cVv (As := []) (st := []) dX6_readSum_75 ml_X6_110 mv_X6_readValue rfl e21 (by decide) rfl rfl (Nat.le_of_ble_eq_true rfl) (by decide) (s_X6_readValue h a0) (fun r22 h23 => ?_)
  refine ao_s (st_iload dX6_readSum_78 rfl) ?_
  refine ao_br (br_if_eq (tgt := 88) dX6_readSum_80 (by decide)) (fun c28 => ?_) (fun c28 => ?_)
  · refine ao_s (st_aload_n dX6_readSum_88 rfl rfl) ?_
    refine ao_getR dX6_readSum_89 fl_X6_12 rfl e21 (fun b24 => ?_)
    refine ao_s (st_iload_n dX6_readSum_92 rfl rfl) ?_
    refine ao_s (st_iconst dX6_readSum_93 ic_0) ?_
    refine ao_chk (fun e25 => ?_)
    refine ao_cVv (As := [.int x3, .int 0]) (st := []) dX6_readSum_94 ml_X6_88 mv_X5_emit rfl e25 (by decide) rfl rfl (Nat.le_of_ble_eq_true rfl) (by decide) (s_X5_emit h23 b24 x3 0) (fun r26 h27 => ?_)
    exact t_X6_readSum_97 hk8 h27 a0 x1 x2
  · refine ao_s (st_iload_n dX6_readSum_83 rfl rfl) ?_
    refine ao_s (st_istore_n (lv' := [some (.ref a0), some (.int x3), some (.int x2), some (.int x3), some (.int x4)]) dX6_readSum_84 rfl (by decide) rfl) ?_
    refine ao_s (st_goto 97 dX6_readSum_85 (by decide)) ?_
    exact t_X6_readSum_97 hk8 h23 a0 x3 x2
def b_X6_readSum_53 (k8 : aH → Nat → Int32 → Int32 → Option (Unit × aH)) (h : aH) (a0 : Nat) (x1 : Int32) (x2 : Int32) (x3 : Int32) (s0 : Int32) : Option (Unit × aH) :=
(if s0 = 0 then
b_X6_readSum_74 k8 h a0 x1 x2 x3 s0
else
(if x1 = (-1) then
b_X6_readSum_74 k8 h a0 x1 x2 x3 s0
else
(if (sh a0).1 = 13 then
((hR h a0 1).bind fun b22 =>
(if (sh b22).1 = 12 then
(aBind (f_X5_emit h b22 x1 0) fun r24 h25 =>
b_X6_readSum_74 k8 h25 a0 x1 x2 x3 s0)
else none))
else none)))
set_option maxHeartbeats 2000000 in
theorem t_X6_readSum_53 {k8 : aH → Nat → Int32 → Int32 → Option (Unit × aH)} (hk8 : ∀ (h : aH) (a0 : Nat) (x1 : Int32) (x2 : Int32) {z3 : Option Value} {z4 : Option Value}, AO eV 9 kX6_readSum 8 [some (.ref a0), some (.int x1), some (.int x2), z3, z4] [] h (k8 h a0 x1 x2)) (h : aH) (a0 : Nat) (x1 : Int32) (x2 : Int32) (x3 : Int32) (s0 : Int32) {z4 : Option Value} : AO eV 9 kX6_readSum 53 [some (.ref a0), some (.int x1), some (.int x2), some (.int x3), z4] [.int s0] h (b_X6_readSum_53 k8 h a0 x1 x2 x3 s0) := by
  unfold b_X6_readSum_53
  refine ao_s (st_istore (lv' := [some (.ref a0), some (.int x1), some (.int x2), some (.int x3), some (.int s0)]) dX6_readSum_53 (by decide) rfl) ?_
  refine ao_s (st_iload dX6_readSum_55 rfl) ?_
  refine ao_br (br_if_eq (tgt := 74) dX6_readSum_57 (by decide)) (fun c27 => ?_) (fun c27 => ?_)
  · exact t_X6_readSum_74 hk8 h a0 x1 x2 x3 s0
  · refine ao_s (st_iload_n dX6_readSum_60 rfl rfl) ?_
    refine ao_s (st_iconst dX6_readSum_61 ic_m1) ?_
    refine ao_br (br_icmp_eq (tgt := 74) dX6_readSum_62 (by decide)) (fun c26 => ?_) (fun c26 => ?_)
    · exact t_X6_readSum_74 hk8 h a0 x1 x2 x3 s0
    · refine ao_s (st_aload_n dX6_readSum_65 rfl rfl) ?_
      refine ao_chk (fun e21 => ?_)
      refine ao_getR dX6_readSum_66 fl_X6_12 rfl e21 (fun b22 => ?_)
      refine ao_s (st_iload_n dX6_readSum_69 rfl rfl) ?_
      refine ao_s (st_iconst dX6_readSum_70 ic_0) ?_
      refine ao_chk (fun e23 => ?_)
      refine ao_cVv (As := [.int x1, .int 0]) (st := []) dX6_readSum_71 ml_X6_88 mv_X5_emit rfl e23 (by decide) rfl rfl (Nat.le_of_ble_eq_true rfl) (by decide) (s_X5_emit h b22 x1 0) (fun r24 h25 => ?_)
      exact t_X6_readSum_74 hk8 h25 a0 x1 x2 x3 s0
def b_X6_readSum_48 (k8 : aH → Nat → Int32 → Int32 → Option (Unit × aH)) (h : aH) (a0 : Nat) (x1 : Int32) (x2 : Int32) (x3 : Int32) : Option (Unit × aH) :=
b_X6_readSum_53 k8 h a0 x1 x2 x3 1
set_option maxHeartbeats 2000000 in
theorem t_X6_readSum_48 {k8 : aH → Nat → Int32 → Int32 → Option (Unit × aH)} (hk8 : ∀ (h : aH) (a0 : Nat) (x1 : Int32) (x2 : Int32) {z3 : Option Value} {z4 : Option Value}, AO eV 9 kX6_readSum 8 [some (.ref a0), some (.int x1), some (.int x2), z3, z4] [] h (k8 h a0 x1 x2)) (h : aH) (a0 : Nat) (x1 : Int32) (x2 : Int32) (x3 : Int32) {z4 : Option Value} : AO eV 9 kX6_readSum 48 [some (.ref a0), some (.int x1), some (.int x2), some (.int x3), z4] [] h (b_X6_readSum_48 k8 h a0 x1 x2 x3) := by
  unfold b_X6_readSum_48
  refine ao_s (st_iconst dX6_readSum_48 ic_1) ?_
  refine ao_s (st_goto 53 dX6_readSum_49 (by decide)) ?_
  exact t_X6_readSum_53 hk8 h a0 x1 x2 x3 1
def b_X6_readSum_103 (h : aH) (a0 : Nat) (x1 : Int32) : Option (Unit × aH) :=
(if x1 = (-1) then
some ((), h)
else
(if (sh a0).1 = 13 then
((hR h a0 1).bind fun b22 =>
(if (sh b22).1 = 12 then
(aBind (f_X5_emit h b22 x1 0) fun r24 h25 =>
some ((), h25))
else none))
else none))
set_option maxHeartbeats 2000000 in
theorem t_X6_readSum_103 (h : aH) (a0 : Nat) (x1 : Int32) {z2 : Option Value} {z3 : Option Value} {z4 : Option Value} : AO eV 9 kX6_readSum 103 [some (.ref a0), some (.int x1), z2, z3, z4] [] h (b_X6_readSum_103 h a0 x1) := by
  unfold b_X6_readSum_103
  refine ao_s (st_iload_n dX6_readSum_103 rfl rfl) ?_
  refine ao_s (st_iconst dX6_readSum_104 ic_m1) ?_
  refine ao_br (br_icmp_eq (tgt := 117) dX6_readSum_105 (by decide)) (fun c26 => ?_) (fun c26 => ?_)
  · exact ao_vr dX6_readSum_117 rfl
  · refine ao_s (st_aload_n dX6_readSum_108 rfl rfl) ?_
    refine ao_chk (fun e21 => ?_)
    refine ao_getR dX6_readSum_109 fl_X6_12 rfl e21 (fun b22 => ?_)
    refine ao_s (st_iload_n dX6_readSum_112 rfl rfl) ?_
    refine ao_s (st_iconst dX6_readSum_113 ic_0) ?_
    refine ao_chk (fun e23 => ?_)
    refine ao_cVv (As := [.int x1, .int 0]) (st := []) dX6_readSum_114 ml_X6_88 mv_X5_emit rfl e23 (by decide) rfl rfl (Nat.le_of_ble_eq_true rfl) (by decide) (s_X5_emit h b22 x1 0) (fun r24 h25 => ?_)
    exact ao_vr dX6_readSum_117 rfl
def b_X6_readSum_8 (k8 : aH → Nat → Int32 → Int32 → Option (Unit × aH)) (h : aH) (a0 : Nat) (x1 : Int32) (x2 : Int32) : Option (Unit × aH) :=
(if 400 ≤ x2 then
b_X6_readSum_103 h a0 x1
else
(if (sh a0).1 = 13 then
((hR h a0 0).bind fun b22 =>
(if (sh b22).1 = 16 then
(if hI h b22 3 = 0 then
(aBind (f_X6_takeOperator h a0) fun r24 h25 =>
(if r24 = (-1) then
b_X6_readSum_103 h25 a0 x1
else
(if r24 = 2 then
b_X6_readSum_48 k8 h25 a0 x1 x2 r24
else
(if r24 = 3 then
b_X6_readSum_48 k8 h25 a0 x1 x2 r24
else
b_X6_readSum_53 k8 h25 a0 x1 x2 r24 0))))
else
b_X6_readSum_103 h a0 x1)
else none))
else none))
set_option maxHeartbeats 2000000 in
theorem t_X6_readSum_8 {k8 : aH → Nat → Int32 → Int32 → Option (Unit × aH)} (hk8 : ∀ (h : aH) (a0 : Nat) (x1 : Int32) (x2 : Int32) {z3 : Option Value} {z4 : Option Value}, AO eV 9 kX6_readSum 8 [some (.ref a0), some (.int x1), some (.int x2), z3, z4] [] h (k8 h a0 x1 x2)) (h : aH) (a0 : Nat) (x1 : Int32) (x2 : Int32) {z3 : Option Value} {z4 : Option Value} : AO eV 9 kX6_readSum 8 [some (.ref a0), some (.int x1), some (.int x2), z3, z4] [] h (b_X6_readSum_8 k8 h a0 x1 x2) := by
  unfold b_X6_readSum_8
  refine ao_s (st_iload_n dX6_readSum_8 rfl rfl) ?_
  refine ao_s (st_sipush dX6_readSum_9 sp_400) ?_
  refine ao_br (br_icmp_ge (tgt := 103) dX6_readSum_12 (by decide)) (fun c30 => ?_) (fun c30 => ?_)
  · exact t_X6_readSum_103 h a0 x1
  · refine ao_s (st_aload_n dX6_readSum_15 rfl rfl) ?_
    refine ao_chk (fun e21 => ?_)
    refine ao_getR dX6_readSum_16 fl_X6_22 rfl e21 (fun b22 => ?_)
    refine ao_chk (fun e23 => ?_)
    refine ao_getI dX6_readSum_19 fl_X6_38 rfl e23 ?_
    refine ao_br (br_if_ne (tgt := 103) dX6_readSum_22 (by decide)) (fun c29 => ?_) (fun c29 => ?_)
    · refine ao_s (st_aload_n dX6_readSum_25 rfl rfl) ?_
      refine ao_cVi (As := []) (st := []) dX6_readSum_26 ml_X6_113 mv_X6_takeOperator rfl e21 (by decide) rfl rfl (Nat.le_of_ble_eq_true rfl) (by decide) (s_X6_takeOperator h a0) (fun r24 h25 => ?_)
      refine ao_s (st_istore_n (lv' := [some (.ref a0), some (.int x1), some (.int x2), some (.int r24), z4]) dX6_readSum_29 rfl (by decide) rfl) ?_
      refine ao_s (st_iload_n dX6_readSum_30 rfl rfl) ?_
      refine ao_s (st_iconst dX6_readSum_31 ic_m1) ?_
      refine ao_br (br_icmp_ne (tgt := 38) dX6_readSum_32 (by decide)) (fun c28 => ?_) (fun c28 => ?_)
      · refine ao_s (st_goto 103 dX6_readSum_35 (by decide)) ?_
        exact t_X6_readSum_103 h25 a0 x1
      · refine ao_s (st_iload_n dX6_readSum_38 rfl rfl) ?_
        refine ao_s (st_iconst dX6_readSum_39 ic_2) ?_
        refine ao_br (br_icmp_eq (tgt := 48) dX6_readSum_40 (by decide)) (fun c27 => ?_) (fun c27 => ?_)
        · exact t_X6_readSum_48 hk8 h25 a0 x1 x2 r24
        · refine ao_s (st_iload_n dX6_readSum_43 rfl rfl) ?_
          refine ao_s (st_iconst dX6_readSum_44 ic_3) ?_
          refine ao_br (br_icmp_ne (tgt := 52) dX6_readSum_45 (by decide)) (fun c26 => ?_) (fun c26 => ?_)
          · exact t_X6_readSum_48 hk8 h25 a0 x1 x2 r24
          · refine ao_s (st_iconst dX6_readSum_52 ic_0) ?_
            exact t_X6_readSum_53 hk8 h25 a0 x1 x2 r24 0
    · exact t_X6_readSum_103 h a0 x1
def f_X6_readSum_8 (n : Nat) : aH → Nat → Int32 → Int32 → Option (Unit × aH) := aIt (fun _ _ _ _ => none) (fun k => b_X6_readSum_8 k) n
theorem l_X6_readSum_8 (n : Nat) : ∀ (h : aH) (a0 : Nat) (x1 : Int32) (x2 : Int32) {z3 : Option Value} {z4 : Option Value}, AO eV 9 kX6_readSum 8 [some (.ref a0), some (.int x1), some (.int x2), z3, z4] [] h (f_X6_readSum_8 n h a0 x1 x2) := by
  induction n with
  | zero => intros; exact ao_none
  | succ n ih =>
    intro h a0 x1 x2 z3 z4
    exact t_X6_readSum_8 ih h a0 x1 x2
def f_X6_readSum (h : aH) (a0 : Nat) : Option (Unit × aH) :=
(if (sh a0).1 = 13 then
(aBind (f_X6_readValue h a0) fun r22 h23 =>
f_X6_readSum_8 2000 h23 a0 (-1) 0)
else none)
set_option maxHeartbeats 2000000 in
theorem s_X6_readSum (h : aH) (a0 : Nat) : SO eV 9 kX6_readSum [.ref a0] h (f_X6_readSum h a0) := by
  refine so_of (lv0 := [some (.ref a0), none, none, none, none]) pn_X6 (Nat.le_of_ble_eq_true rfl) rfl ?_
  unfold f_X6_readSum
  refine ao_s (st_iconst dX6_readSum_0 ic_m1) ?_
  refine ao_s (st_istore_n (lv' := [some (.ref a0), some (.int (-1)), none, none, none]) dX6_readSum_1 rfl (by decide) rfl) ?_
  refine ao_s (st_aload_n dX6_readSum_2 rfl rfl) ?_
  refine ao_chk (fun e21 => ?_)
  refine ao_cVv (As := []) (st := []) dX6_readSum_3 ml_X6_110 mv_X6_readValue rfl e21 (by decide) rfl rfl (Nat.le_of_ble_eq_true rfl) (by decide) (s_X6_readValue h a0) (fun r22 h23 => ?_)
  refine ao_s (st_iconst dX6_readSum_6 ic_0) ?_
  refine ao_s (st_istore_n (lv' := [some (.ref a0), some (.int (-1)), some (.int 0), none, none]) dX6_readSum_7 rfl (by decide) rfl) ?_
  exact l_X6_readSum_8 2000 h23 a0 (-1) 0
def f_X6_closeBracket (h : aH) (a0 : Nat) : Option (Unit × aH) :=
(if (sh a0).1 = 13 then
((hR h a0 0).bind fun b22 =>
(if (sh b22).1 = 16 then
(if hI h b22 3 = 0 then
((hR h a0 0).bind fun b24 =>
(if (sh b24).1 = 16 then
(aBind (f_X9_takeSign h b24 93) fun r26 h27 =>
(if r26 = 0 then
((hR h27 a0 0).bind fun b28 =>
((hR h27 a0 0).bind fun b29 =>
(if (sh b29).1 = 16 then
(if (sh b28).1 = 16 then
(aBind (f_X9_blame h27 b28 (hI h27 b29 2) 0) fun r32 h33 =>
some ((), h33))
else none)
else none)))
else
some ((), h27)))
else none))
else
some ((), h))
else none))
else none)
set_option maxHeartbeats 2000000 in
theorem s_X6_closeBracket (h : aH) (a0 : Nat) : SO eV 5 kX6_closeBracket [.ref a0] h (f_X6_closeBracket h a0) := by
  refine so_of (lv0 := [some (.ref a0)]) pn_X6 (Nat.le_of_ble_eq_true rfl) rfl ?_
  unfold f_X6_closeBracket
  refine ao_s (st_aload_n dX6_closeBracket_0 rfl rfl) ?_
  refine ao_chk (fun e21 => ?_)
  refine ao_getR dX6_closeBracket_1 fl_X6_22 rfl e21 (fun b22 => ?_)
  refine ao_chk (fun e23 => ?_)
  refine ao_getI dX6_closeBracket_4 fl_X6_38 rfl e23 ?_
  refine ao_br (br_if_ne (tgt := 37) dX6_closeBracket_7 (by decide)) (fun c35 => ?_) (fun c35 => ?_)
  · refine ao_s (st_aload_n dX6_closeBracket_10 rfl rfl) ?_
    refine ao_getR dX6_closeBracket_11 fl_X6_22 rfl e21 (fun b24 => ?_)
    refine ao_s (st_bipush dX6_closeBracket_14 bp_93) ?_
    refine ao_chk (fun e25 => ?_)
    refine ao_cVi (As := [.int 93]) (st := []) dX6_closeBracket_16 ml_X6_41 mv_X9_takeSign rfl e25 (by decide) rfl rfl (Nat.le_of_ble_eq_true rfl) (by decide) (s_X9_takeSign h b24 93) (fun r26 h27 => ?_)
    refine ao_br (br_if_ne (tgt := 37) dX6_closeBracket_19 (by decide)) (fun c34 => ?_) (fun c34 => ?_)
    · refine ao_s (st_aload_n dX6_closeBracket_22 rfl rfl) ?_
      refine ao_getR dX6_closeBracket_23 fl_X6_22 rfl e21 (fun b28 => ?_)
      refine ao_s (st_aload_n dX6_closeBracket_26 rfl rfl) ?_
      refine ao_getR dX6_closeBracket_27 fl_X6_22 rfl e21 (fun b29 => ?_)
      refine ao_chk (fun e30 => ?_)
      refine ao_getI dX6_closeBracket_30 fl_X6_49 rfl e30 ?_
      refine ao_s (st_iconst dX6_closeBracket_33 ic_0) ?_
      refine ao_chk (fun e31 => ?_)
      refine ao_cVv (As := [.int (hI h27 b29 2), .int 0]) (st := []) dX6_closeBracket_34 ml_X6_52 mv_X9_blame rfl e31 (by decide) rfl rfl (Nat.le_of_ble_eq_true rfl) (by decide) (s_X9_blame h27 b28 (hI h27 b29 2) 0) (fun r32 h33 => ?_)
      exact ao_vr dX6_closeBracket_37 rfl
    · exact ao_vr dX6_closeBracket_37 rfl
  · exact ao_vr dX6_closeBracket_37 rfl
def f_X9_takeSignAtOnce (h : aH) (a0 : Nat) (x1 : Int32) : Option (Int32 × aH) :=
(if (sh a0).1 = 16 then
(aBind (f_X9_byteAt h a0 (hI h a0 2)) fun r22 h23 =>
(if r22 = x1 then
(aLet (pI h23 a0 2 ((hI h23 a0 2) + 1)) fun h24 =>
some (1, h24))
else
some (0, h23)))
else none)
set_option maxHeartbeats 2000000 in
theorem s_X9_takeSignAtOnce (h : aH) (a0 : Nat) (x1 : Int32) : SO eI 3 kX9_takeSignAtOnce [.ref a0, .int x1] h (f_X9_takeSignAtOnce h a0 x1) := by
  refine so_of (lv0 := [some (.ref a0), some (.int x1)]) pn_X9 (Nat.le_of_ble_eq_true rfl) rfl ?_
  unfold f_X9_takeSignAtOnce
  refine ao_s (st_aload_n dX9_takeSignAtOnce_0 rfl rfl) ?_
  refine ao_s (st_aload_n dX9_takeSignAtOnce_1 rfl rfl) ?_
  refine ao_chk (fun e21 => ?_)
  refine ao_getI dX9_takeSignAtOnce_2 fl_X9_19 rfl e21 ?_
  refine ao_cVi (As := [.int (hI h a0 2)]) (st := []) dX9_takeSignAtOnce_5 ml_X9_29 mv_X9_byteAt rfl e21 (by decide) rfl rfl (Nat.le_of_ble_eq_true rfl) (by decide) (s_X9_byteAt h a0 (hI h a0 2)) (fun r22 h23 => ?_)
  refine ao_s (st_iload_n dX9_takeSignAtOnce_8 rfl rfl) ?_
  refine ao_br (br_icmp_eq (tgt := 14) dX9_takeSignAtOnce_9 (by decide)) (fun c25 => ?_) (fun c25 => ?_)
  · refine ao_s (st_aload_n dX9_takeSignAtOnce_14 rfl rfl) ?_
    refine ao_s (st_dup dX9_takeSignAtOnce_15 rfl) ?_
    refine ao_getI dX9_takeSignAtOnce_16 fl_X9_19 rfl e21 ?_
    refine ao_s (st_iconst dX9_takeSignAtOnce_19 ic_1) ?_
    refine ao_s (st_iadd dX9_takeSignAtOnce_20) ?_
    refine ao_putI dX9_takeSignAtOnce_21 fl_X9_19 rfl rfl rfl rfl e21 ?_
    refine ao_letH (fun h24 => ?_)
    refine ao_s (st_iconst dX9_takeSignAtOnce_24 ic_1) ?_
    exact ao_ir dX9_takeSignAtOnce_25 rfl (by decide)
  · refine ao_s (st_iconst dX9_takeSignAtOnce_12 ic_0) ?_
    exact ao_ir dX9_takeSignAtOnce_13 rfl (by decide)
def b_X6_takeComparer_114 (h : aH) (a0 : Nat) (x1 : Int32) (x2 : Int32) : Option (Int32 × aH) :=
(if (sh a0).1 = 13 then
(aBind (f_X6_countValue h a0 x1) fun r22 h23 =>
some (x2, h23))
else none)
set_option maxHeartbeats 2000000 in
theorem t_X6_takeComparer_114 (h : aH) (a0 : Nat) (x1 : Int32) (x2 : Int32) : AO eI 5 kX6_takeComparer 114 [some (.ref a0), some (.int x1), some (.int x2)] [] h (b_X6_takeComparer_114 h a0 x1 x2) := by
  unfold b_X6_takeComparer_114
  refine ao_s (st_aload_n dX6_takeComparer_114 rfl rfl) ?_
  refine ao_s (st_iload_n dX6_takeComparer_115 rfl rfl) ?_
  refine ao_chk (fun e21 => ?_)
  refine ao_cVv (As := [.int x1]) (st := []) dX6_takeComparer_116 ml_X6_107 mv_X6_countValue rfl e21 (by decide) rfl rfl (Nat.le_of_ble_eq_true rfl) (by decide) (s_X6_countValue h a0 x1) (fun r22 h23 => ?_)
  refine ao_s (st_iload_n dX6_takeComparer_119 rfl rfl) ?_
  exact ao_ir dX6_takeComparer_120 rfl rfl
def b_X6_takeComparer_54 (h : aH) (a0 : Nat) (x1 : Int32) (s0 : Int32) : Option (Int32 × aH) :=
b_X6_takeComparer_114 h a0 x1 s0
set_option maxHeartbeats 2000000 in
theorem t_X6_takeComparer_54 (h : aH) (a0 : Nat) (x1 : Int32) (s0 : Int32) {z2 : Option Value} : AO eI 5 kX6_takeComparer 54 [some (.ref a0), some (.int x1), z2] [.int s0] h (b_X6_takeComparer_54 h a0 x1 s0) := by
  unfold b_X6_takeComparer_54
  refine ao_s (st_istore_n (lv' := [some (.ref a0), some (.int x1), some (.int s0)]) dX6_takeComparer_54 rfl (by decide) rfl) ?_
  refine ao_s (st_goto 114 dX6_takeComparer_55 (by decide)) ?_
  exact t_X6_takeComparer_114 h a0 x1 s0
def b_X6_takeComparer_89 (h : aH) (a0 : Nat) (x1 : Int32) (s0 : Int32) : Option (Int32 × aH) :=
b_X6_takeComparer_114 h a0 x1 s0
set_option maxHeartbeats 2000000 in
theorem t_X6_takeComparer_89 (h : aH) (a0 : Nat) (x1 : Int32) (s0 : Int32) {z2 : Option Value} : AO eI 5 kX6_takeComparer 89 [some (.ref a0), some (.int x1), z2] [.int s0] h (b_X6_takeComparer_89 h a0 x1 s0) := by
  unfold b_X6_takeComparer_89
  refine ao_s (st_istore_n (lv' := [some (.ref a0), some (.int x1), some (.int s0)]) dX6_takeComparer_89 rfl (by decide) rfl) ?_
  refine ao_s (st_goto 114 dX6_takeComparer_90 (by decide)) ?_
  exact t_X6_takeComparer_114 h a0 x1 s0
def f_X6_takeComparer (h : aH) (a0 : Nat) : Option (Int32 × aH) :=
(if (sh a0).1 = 13 then
((hR h a0 0).bind fun b22 =>
(if (sh b22).1 = 16 then
(aBind (f_X9_seek h b22) fun r24 h25 =>
((hR h25 a0 0).bind fun b26 =>
(if (sh b26).1 = 16 then
(if hI h25 b26 3 = 0 then
((hR h25 a0 0).bind fun b28 =>
(if (sh b28).1 = 16 then
(aBind (f_X9_takeSign h25 b28 60) fun r30 h31 =>
(if r30 = 0 then
((hR h31 a0 0).bind fun b32 =>
(if (sh b32).1 = 16 then
(aBind (f_X9_takeSign h31 b32 62) fun r34 h35 =>
(if r34 = 0 then
((hR h35 a0 0).bind fun b36 =>
(if (sh b36).1 = 16 then
(aBind (f_X9_takeSign h35 b36 61) fun r38 h39 =>
(if r38 = 0 then
((hR h39 a0 0).bind fun b40 =>
(if (sh b40).1 = 16 then
(aBind (f_X9_blame h39 b40 r24 0) fun r42 h43 =>
b_X6_takeComparer_114 h43 a0 r24 9)
else none))
else
b_X6_takeComparer_114 h39 a0 r24 9))
else none))
else
((hR h35 a0 0).bind fun b45 =>
(if (sh b45).1 = 16 then
(aBind (f_X9_takeSignAtOnce h35 b45 61) fun r47 h48 =>
(if r47 = 0 then
b_X6_takeComparer_89 h48 a0 r24 11
else
b_X6_takeComparer_89 h48 a0 r24 10))
else none))))
else none))
else
((hR h31 a0 0).bind fun b51 =>
(if (sh b51).1 = 16 then
(aBind (f_X9_takeSignAtOnce h31 b51 61) fun r53 h54 =>
(if r53 = 0 then
b_X6_takeComparer_54 h54 a0 r24 7
else
b_X6_takeComparer_54 h54 a0 r24 8))
else none))))
else none))
else
some (9, h25))
else none)))
else none))
else none)
set_option maxHeartbeats 2000000 in
theorem s_X6_takeComparer (h : aH) (a0 : Nat) : SO eI 5 kX6_takeComparer [.ref a0] h (f_X6_takeComparer h a0) := by
  refine so_of (lv0 := [some (.ref a0), none, none]) pn_X6 (Nat.le_of_ble_eq_true rfl) rfl ?_
  unfold f_X6_takeComparer
  refine ao_s (st_aload_n dX6_takeComparer_0 rfl rfl) ?_
  refine ao_chk (fun e21 => ?_)
  refine ao_getR dX6_takeComparer_1 fl_X6_22 rfl e21 (fun b22 => ?_)
  refine ao_chk (fun e23 => ?_)
  refine ao_cVi (As := []) (st := []) dX6_takeComparer_4 ml_X6_56 mv_X9_seek rfl e23 (by decide) rfl rfl (Nat.le_of_ble_eq_true rfl) (by decide) (s_X9_seek h b22) (fun r24 h25 => ?_)
  refine ao_s (st_istore_n (lv' := [some (.ref a0), some (.int r24), none]) dX6_takeComparer_7 rfl (by decide) rfl) ?_
  refine ao_s (st_bipush dX6_takeComparer_8 bp_9) ?_
  refine ao_s (st_istore_n (lv' := [some (.ref a0), some (.int r24), some (.int 9)]) dX6_takeComparer_10 rfl (by decide) rfl) ?_
  refine ao_s (st_aload_n dX6_takeComparer_11 rfl rfl) ?_
  refine ao_getR dX6_takeComparer_12 fl_X6_22 rfl e21 (fun b26 => ?_)
  refine ao_chk (fun e27 => ?_)
  refine ao_getI dX6_takeComparer_15 fl_X6_38 rfl e27 ?_
  refine ao_br (br_if_eq (tgt := 23) dX6_takeComparer_18 (by decide)) (fun c57 => ?_) (fun c57 => ?_)
  · refine ao_s (st_aload_n dX6_takeComparer_23 rfl rfl) ?_
    refine ao_getR dX6_takeComparer_24 fl_X6_22 rfl e21 (fun b28 => ?_)
    refine ao_s (st_bipush dX6_takeComparer_27 bp_60) ?_
    refine ao_chk (fun e29 => ?_)
    refine ao_cVi (As := [.int 60]) (st := []) dX6_takeComparer_29 ml_X6_41 mv_X9_takeSign rfl e29 (by decide) rfl rfl (Nat.le_of_ble_eq_true rfl) (by decide) (s_X9_takeSign h25 b28 60) (fun r30 h31 => ?_)
    refine ao_br (br_if_eq (tgt := 58) dX6_takeComparer_32 (by decide)) (fun c56 => ?_) (fun c56 => ?_)
    · refine ao_s (st_aload_n dX6_takeComparer_58 rfl rfl) ?_
      refine ao_getR dX6_takeComparer_59 fl_X6_22 rfl e21 (fun b32 => ?_)
      refine ao_s (st_bipush dX6_takeComparer_62 bp_62) ?_
      refine ao_chk (fun e33 => ?_)
      refine ao_cVi (As := [.int 62]) (st := []) dX6_takeComparer_64 ml_X6_41 mv_X9_takeSign rfl e33 (by decide) rfl rfl (Nat.le_of_ble_eq_true rfl) (by decide) (s_X9_takeSign h31 b32 62) (fun r34 h35 => ?_)
      refine ao_br (br_if_eq (tgt := 93) dX6_takeComparer_67 (by decide)) (fun c50 => ?_) (fun c50 => ?_)
      · refine ao_s (st_aload_n dX6_takeComparer_93 rfl rfl) ?_
        refine ao_getR dX6_takeComparer_94 fl_X6_22 rfl e21 (fun b36 => ?_)
        refine ao_s (st_bipush dX6_takeComparer_97 bp_61) ?_
        refine ao_chk (fun e37 => ?_)
        refine ao_cVi (As := [.int 61]) (st := []) dX6_takeComparer_99 ml_X6_41 mv_X9_takeSign rfl e37 (by decide) rfl rfl (Nat.le_of_ble_eq_true rfl) (by decide) (s_X9_takeSign h35 b36 61) (fun r38 h39 => ?_)
        refine ao_br (br_if_ne (tgt := 114) dX6_takeComparer_102 (by decide)) (fun c44 => ?_) (fun c44 => ?_)
        · refine ao_s (st_aload_n dX6_takeComparer_105 rfl rfl) ?_
          refine ao_getR dX6_takeComparer_106 fl_X6_22 rfl e21 (fun b40 => ?_)
          refine ao_s (st_iload_n dX6_takeComparer_109 rfl rfl) ?_
          refine ao_s (st_iconst dX6_takeComparer_110 ic_0) ?_
          refine ao_chk (fun e41 => ?_)
          refine ao_cVv (As := [.int r24, .int 0]) (st := []) dX6_takeComparer_111 ml_X6_52 mv_X9_blame rfl e41 (by decide) rfl rfl (Nat.le_of_ble_eq_true rfl) (by decide) (s_X9_blame h39 b40 r24 0) (fun r42 h43 => ?_)
          exact t_X6_takeComparer_114 h43 a0 r24 9
        · exact t_X6_takeComparer_114 h39 a0 r24 9
      · refine ao_s (st_aload_n dX6_takeComparer_70 rfl rfl) ?_
        refine ao_getR dX6_takeComparer_71 fl_X6_22 rfl e21 (fun b45 => ?_)
        refine ao_s (st_bipush dX6_takeComparer_74 bp_61) ?_
        refine ao_chk (fun e46 => ?_)
        refine ao_cVi (As := [.int 61]) (st := []) dX6_takeComparer_76 ml_X6_104 mv_X9_takeSignAtOnce rfl e46 (by decide) rfl rfl (Nat.le_of_ble_eq_true rfl) (by decide) (s_X9_takeSignAtOnce h35 b45 61) (fun r47 h48 => ?_)
        refine ao_br (br_if_eq (tgt := 87) dX6_takeComparer_79 (by decide)) (fun c49 => ?_) (fun c49 => ?_)
        · refine ao_s (st_bipush dX6_takeComparer_87 bp_11) ?_
          exact t_X6_takeComparer_89 h48 a0 r24 11
        · refine ao_s (st_bipush dX6_takeComparer_82 bp_10) ?_
          refine ao_s (st_goto 89 dX6_takeComparer_84 (by decide)) ?_
          exact t_X6_takeComparer_89 h48 a0 r24 10
    · refine ao_s (st_aload_n dX6_takeComparer_35 rfl rfl) ?_
      refine ao_getR dX6_takeComparer_36 fl_X6_22 rfl e21 (fun b51 => ?_)
      refine ao_s (st_bipush dX6_takeComparer_39 bp_61) ?_
      refine ao_chk (fun e52 => ?_)
      refine ao_cVi (As := [.int 61]) (st := []) dX6_takeComparer_41 ml_X6_104 mv_X9_takeSignAtOnce rfl e52 (by decide) rfl rfl (Nat.le_of_ble_eq_true rfl) (by decide) (s_X9_takeSignAtOnce h31 b51 61) (fun r53 h54 => ?_)
      refine ao_br (br_if_eq (tgt := 52) dX6_takeComparer_44 (by decide)) (fun c55 => ?_) (fun c55 => ?_)
      · refine ao_s (st_bipush dX6_takeComparer_52 bp_7) ?_
        exact t_X6_takeComparer_54 h54 a0 r24 7
      · refine ao_s (st_bipush dX6_takeComparer_47 bp_8) ?_
        refine ao_s (st_goto 54 dX6_takeComparer_49 (by decide)) ?_
        exact t_X6_takeComparer_54 h54 a0 r24 8
  · refine ao_s (st_iload_n dX6_takeComparer_21 rfl rfl) ?_
    exact ao_ir dX6_takeComparer_22 rfl rfl
