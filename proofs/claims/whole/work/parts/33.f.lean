def f_X12_areLikesHere (h : aH) (a0 : Nat) (x1 : Int32) : Option (Int32 × aH) :=
(if (sh a0).1 = 19 then
(aBind (f_X12_passWord h a0) fun r22 h23 =>
((hR h23 a0 7).bind fun b24 =>
(if (sh b24).1 = 0 then
(if aIn 3 (sh b24).2 then
(aBind (f_X12_numberHere h23 a0 0 ((hI h23 b24 (3 : Int32).toNatClampNeg) - 1)) fun r26 h27 =>
(if r26 = 0 then
some (0, h27)
else
(aLet (4 * (hI h27 a0 10)) fun x28 =>
((hR h27 a0 7).bind fun b29 =>
(if (sh b29).1 = 0 then
(if aIn 4 (sh b29).2 then
(aBind (f_X12_numberHere h27 a0 0 ((hI h27 b29 (4 : Int32).toNatClampNeg) - 1)) fun r31 h32 =>
(if r31 = 0 then
some (0, h32)
else
(aLet (x28 + (hI h32 a0 10)) fun x33 =>
(aBind (f_X12_cellHere h32 a0 (x1 + x33) 0 20) fun r34 h35 =>
(if r34 = 0 then
some (0, h35)
else
(aBind (f_X12_cellHere h35 a0 ((x1 + 16) + x33) 0 20) fun r36 h37 =>
(if r36 = 0 then
some (0, h37)
else
some (1, h37))))))))
else none)
else none)))))
else none)
else none)))
else none)
set_option maxHeartbeats 2000000 in
theorem s_X12_areLikesHere (h : aH) (a0 : Nat) (x1 : Int32) : SO eI 5 kX12_areLikesHere [.ref a0, .int x1] h (f_X12_areLikesHere h a0 x1) := by
  refine so_of (lv0 := [some (.ref a0), some (.int x1), none]) pn_X12 (Nat.le_of_ble_eq_true rfl) rfl ?_
  unfold f_X12_areLikesHere
  refine ao_s (st_aload_n dX12_areLikesHere_0 rfl rfl) ?_
  refine ao_chk (fun e21 => ?_)
  refine ao_cVv (As := []) (st := []) dX12_areLikesHere_1 ml_X12_114 mv_X12_passWord rfl e21 (by decide) rfl rfl (Nat.le_of_ble_eq_true rfl) (by decide) (s_X12_passWord h a0) (fun r22 h23 => ?_)
  refine ao_s (st_aload_n dX12_areLikesHere_4 rfl rfl) ?_
  refine ao_s (st_iconst dX12_areLikesHere_5 ic_0) ?_
  refine ao_s (st_aload_n dX12_areLikesHere_6 rfl rfl) ?_
  refine ao_getR dX12_areLikesHere_7 fl_X12_26 rfl e21 (fun b24 => ?_)
  refine ao_s (st_iconst dX12_areLikesHere_10 ic_3) ?_
  refine ao_chk (fun e25 => ?_)
  refine ao_iald dX12_areLikesHere_11 e25 ?_
  refine ao_s (st_iconst dX12_areLikesHere_12 ic_1) ?_
  refine ao_s (st_isub dX12_areLikesHere_13) ?_
  refine ao_cVi (As := [.int 0, .int ((hI h23 b24 (3 : Int32).toNatClampNeg) - 1)]) (st := []) dX12_areLikesHere_14 ml_X12_174 mv_X12_numberHere rfl e21 (by decide) rfl rfl (Nat.le_of_ble_eq_true rfl) (by decide) (s_X12_numberHere h23 a0 0 ((hI h23 b24 (3 : Int32).toNatClampNeg) - 1)) (fun r26 h27 => ?_)
  refine ao_br (br_if_ne (tgt := 22) dX12_areLikesHere_17 (by decide)) (fun c41 => ?_) (fun c41 => ?_)
  · refine ao_s (st_iconst dX12_areLikesHere_20 ic_0) ?_
    exact ao_ir dX12_areLikesHere_21 rfl (by decide)
  · refine ao_s (st_iconst dX12_areLikesHere_22 ic_4) ?_
    refine ao_s (st_aload_n dX12_areLikesHere_23 rfl rfl) ?_
    refine ao_getI dX12_areLikesHere_24 fl_X12_124 rfl e21 ?_
    refine ao_s (st_imul dX12_areLikesHere_27) ?_
    refine ao_letI (fun x28 => ?_)
    refine ao_s (st_istore_n (lv' := [some (.ref a0), some (.int x1), some (.int x28)]) dX12_areLikesHere_28 rfl (by decide) rfl) ?_
    refine ao_s (st_aload_n dX12_areLikesHere_29 rfl rfl) ?_
    refine ao_s (st_iconst dX12_areLikesHere_30 ic_0) ?_
    refine ao_s (st_aload_n dX12_areLikesHere_31 rfl rfl) ?_
    refine ao_getR dX12_areLikesHere_32 fl_X12_26 rfl e21 (fun b29 => ?_)
    refine ao_s (st_iconst dX12_areLikesHere_35 ic_4) ?_
    refine ao_chk (fun e30 => ?_)
    refine ao_iald dX12_areLikesHere_36 e30 ?_
    refine ao_s (st_iconst dX12_areLikesHere_37 ic_1) ?_
    refine ao_s (st_isub dX12_areLikesHere_38) ?_
    refine ao_cVi (As := [.int 0, .int ((hI h27 b29 (4 : Int32).toNatClampNeg) - 1)]) (st := []) dX12_areLikesHere_39 ml_X12_174 mv_X12_numberHere rfl e21 (by decide) rfl rfl (Nat.le_of_ble_eq_true rfl) (by decide) (s_X12_numberHere h27 a0 0 ((hI h27 b29 (4 : Int32).toNatClampNeg) - 1)) (fun r31 h32 => ?_)
    refine ao_br (br_if_ne (tgt := 47) dX12_areLikesHere_42 (by decide)) (fun c40 => ?_) (fun c40 => ?_)
    · refine ao_s (st_iconst dX12_areLikesHere_45 ic_0) ?_
      exact ao_ir dX12_areLikesHere_46 rfl (by decide)
    · refine ao_s (st_iload_n dX12_areLikesHere_47 rfl rfl) ?_
      refine ao_s (st_aload_n dX12_areLikesHere_48 rfl rfl) ?_
      refine ao_getI dX12_areLikesHere_49 fl_X12_124 rfl e21 ?_
      refine ao_s (st_iadd dX12_areLikesHere_52) ?_
      refine ao_letI (fun x33 => ?_)
      refine ao_s (st_istore_n (lv' := [some (.ref a0), some (.int x1), some (.int x33)]) dX12_areLikesHere_53 rfl (by decide) rfl) ?_
      refine ao_s (st_aload_n dX12_areLikesHere_54 rfl rfl) ?_
      refine ao_s (st_iload_n dX12_areLikesHere_55 rfl rfl) ?_
      refine ao_s (st_iload_n dX12_areLikesHere_56 rfl rfl) ?_
      refine ao_s (st_iadd dX12_areLikesHere_57) ?_
      refine ao_s (st_iconst dX12_areLikesHere_58 ic_0) ?_
      refine ao_s (st_bipush dX12_areLikesHere_59 bp_20) ?_
      refine ao_cVi (As := [.int (x1 + x33), .int 0, .int 20]) (st := []) dX12_areLikesHere_61 ml_X12_225 mv_X12_cellHere rfl e21 (by decide) rfl rfl (Nat.le_of_ble_eq_true rfl) (by decide) (s_X12_cellHere h32 a0 (x1 + x33) 0 20) (fun r34 h35 => ?_)
      refine ao_br (br_if_eq (tgt := 87) dX12_areLikesHere_64 (by decide)) (fun c39 => ?_) (fun c39 => ?_)
      · refine ao_s (st_iconst dX12_areLikesHere_87 ic_0) ?_
        exact ao_ir dX12_areLikesHere_88 rfl (by decide)
      · refine ao_s (st_aload_n dX12_areLikesHere_67 rfl rfl) ?_
        refine ao_s (st_iload_n dX12_areLikesHere_68 rfl rfl) ?_
        refine ao_s (st_bipush dX12_areLikesHere_69 bp_16) ?_
        refine ao_s (st_iadd dX12_areLikesHere_71) ?_
        refine ao_s (st_iload_n dX12_areLikesHere_72 rfl rfl) ?_
        refine ao_s (st_iadd dX12_areLikesHere_73) ?_
        refine ao_s (st_iconst dX12_areLikesHere_74 ic_0) ?_
        refine ao_s (st_bipush dX12_areLikesHere_75 bp_20) ?_
        refine ao_cVi (As := [.int ((x1 + 16) + x33), .int 0, .int 20]) (st := []) dX12_areLikesHere_77 ml_X12_225 mv_X12_cellHere rfl e21 (by decide) rfl rfl (Nat.le_of_ble_eq_true rfl) (by decide) (s_X12_cellHere h35 a0 ((x1 + 16) + x33) 0 20) (fun r36 h37 => ?_)
        refine ao_br (br_if_eq (tgt := 87) dX12_areLikesHere_80 (by decide)) (fun c38 => ?_) (fun c38 => ?_)
        · refine ao_s (st_iconst dX12_areLikesHere_87 ic_0) ?_
          exact ao_ir dX12_areLikesHere_88 rfl (by decide)
        · refine ao_s (st_iconst dX12_areLikesHere_83 ic_1) ?_
          refine ao_s (st_goto 88 dX12_areLikesHere_84 (by decide)) ?_
          exact ao_ir dX12_areLikesHere_88 rfl (by decide)
def f_X12_isLateHere (h : aH) (a0 : Nat) : Option (Int32 × aH) :=
(if (sh a0).1 = 19 then
(aBind (f_X12_passWord h a0) fun r22 h23 =>
(aBind (f_X12_numberHere h23 a0 0 60) fun r24 h25 =>
(if r24 = 0 then
some (0, h25)
else
((hR h25 a0 7).bind fun b26 =>
(aLet (150 + ((hI h25 a0 10) / 21)) fun x27 =>
(if (sh b26).1 = 0 then
(if aIn x27 (sh b26).2 then
(if aIn x27 (sh b26).2 then
(aLet (pI h25 b26 x27.toNatClampNeg ((hI h25 b26 x27.toNatClampNeg) ||| (1 <<< (((hI h25 a0 10) - (hI h25 a0 10) / 21 * 21) &&& 31)))) fun h29 =>
some (1, h29))
else none)
else none)
else none))))))
else none)
set_option maxHeartbeats 2000000 in
theorem s_X12_isLateHere (h : aH) (a0 : Nat) : SO eI 4 kX12_isLateHere [.ref a0] h (f_X12_isLateHere h a0) := by
  refine so_of (lv0 := [some (.ref a0)]) pn_X12 (Nat.le_of_ble_eq_true rfl) rfl ?_
  unfold f_X12_isLateHere
  refine ao_s (st_aload_n dX12_isLateHere_0 rfl rfl) ?_
  refine ao_chk (fun e21 => ?_)
  refine ao_cVv (As := []) (st := []) dX12_isLateHere_1 ml_X12_114 mv_X12_passWord rfl e21 (by decide) rfl rfl (Nat.le_of_ble_eq_true rfl) (by decide) (s_X12_passWord h a0) (fun r22 h23 => ?_)
  refine ao_s (st_aload_n dX12_isLateHere_4 rfl rfl) ?_
  refine ao_s (st_iconst dX12_isLateHere_5 ic_0) ?_
  refine ao_s (st_bipush dX12_isLateHere_6 bp_60) ?_
  refine ao_cVi (As := [.int 0, .int 60]) (st := []) dX12_isLateHere_8 ml_X12_174 mv_X12_numberHere rfl e21 (by decide) rfl rfl (Nat.le_of_ble_eq_true rfl) (by decide) (s_X12_numberHere h23 a0 0 60) (fun r24 h25 => ?_)
  refine ao_br (br_if_ne (tgt := 16) dX12_isLateHere_11 (by decide)) (fun c30 => ?_) (fun c30 => ?_)
  · refine ao_s (st_iconst dX12_isLateHere_14 ic_0) ?_
    exact ao_ir dX12_isLateHere_15 rfl (by decide)
  · refine ao_s (st_aload_n dX12_isLateHere_16 rfl rfl) ?_
    refine ao_getR dX12_isLateHere_17 fl_X12_26 rfl e21 (fun b26 => ?_)
    refine ao_s (st_sipush dX12_isLateHere_20 sp_150) ?_
    refine ao_s (st_aload_n dX12_isLateHere_23 rfl rfl) ?_
    refine ao_getI dX12_isLateHere_24 fl_X12_124 rfl e21 ?_
    refine ao_s (st_bipush dX12_isLateHere_27 bp_21) ?_
    refine ao_s (st_idiv dX12_isLateHere_29 (by decide)) ?_
    refine ao_s (st_iadd dX12_isLateHere_30) ?_
    refine ao_letI (fun x27 => ?_)
    refine ao_s (st_dup2 dX12_isLateHere_31 rfl rfl) ?_
    refine ao_chk (fun e28 => ?_)
    refine ao_iald dX12_isLateHere_32 e28 ?_
    refine ao_s (st_iconst dX12_isLateHere_33 ic_1) ?_
    refine ao_s (st_aload_n dX12_isLateHere_34 rfl rfl) ?_
    refine ao_getI dX12_isLateHere_35 fl_X12_124 rfl e21 ?_
    refine ao_s (st_bipush dX12_isLateHere_38 bp_21) ?_
    refine ao_s (st_irem dX12_isLateHere_40 (by decide)) ?_
    refine ao_s (st_ishl dX12_isLateHere_41) ?_
    refine ao_s (st_ior dX12_isLateHere_42) ?_
    refine ao_iast dX12_isLateHere_43 e28 ?_
    refine ao_letH (fun h29 => ?_)
    refine ao_s (st_iconst dX12_isLateHere_44 ic_1) ?_
    exact ao_ir dX12_isLateHere_45 rfl (by decide)
def b_X12_isleLineHere_99 (h : aH) (s0 : Int32) (s1 : Nat) : Option (Int32 × aH) :=
(if (sh s1).1 = 19 then
(aBind (f_X12_areLikesHere h s1 s0) fun r22 h23 =>
(if r22 = 0 ∨ r22 = 1 then some (r22, h23) else none))
else none)
set_option maxHeartbeats 2000000 in
theorem t_X12_isleLineHere_99 (h : aH) (s0 : Int32) (s1 : Nat) {z0 : Option Value} {z1 : Option Value} : AO eI 6 kX12_isleLineHere 99 [z0, z1] [.int s0, .ref s1] h (b_X12_isleLineHere_99 h s0 s1) := by
  unfold b_X12_isleLineHere_99
  refine ao_chk (fun e21 => ?_)
  refine ao_cVi (As := [.int s0]) (st := []) dX12_isleLineHere_99 ml_X12_248 mv_X12_areLikesHere rfl e21 (by decide) rfl rfl (Nat.le_of_ble_eq_true rfl) (by decide) (s_X12_areLikesHere h s1 s0) (fun r22 h23 => ?_)
  refine ao_chk (fun c24 => ?_)
  exact ao_ir dX12_isleLineHere_102 rfl (nz c24).1
def f_X12_isleLineHere (h : aH) (a0 : Nat) (x1 : Int32) : Option (Int32 × aH) :=
(if (sh a0).1 = 19 then
(aBind (f_X12_isWord h a0 1769172069) fun r22 h23 =>
(if r22 = 0 then
((hR h23 a0 7).bind fun b24 =>
(if (sh b24).1 = 0 then
(if aIn 0 (sh b24).2 then
(if hI h23 b24 (0 : Int32).toNatClampNeg = 0 then
(aBind (f_X12_fails h23 a0 4 x1) fun r26 h27 =>
(if r26 = 0 ∨ r26 = 1 then some (r26, h27) else none))
else
(aBind (f_X12_isWord h23 a0 1700885364) fun r29 h30 =>
(if r29 = 0 then
(aBind (f_X12_isWord h30 a0 2003137396) fun r31 h32 =>
(if r31 = 0 then
(aBind (f_X12_isWord h32 a0 1818326117) fun r33 h34 =>
(if r33 = 0 then
(aBind (f_X12_isWord h34 a0 495622385011) fun r35 h36 =>
(if r35 = 0 then
b_X12_isleLineHere_99 h36 78 a0
else
b_X12_isleLineHere_99 h36 110 a0))
else
(aBind (f_X12_isLateHere h34 a0) fun r38 h39 =>
(if r38 = 0 ∨ r38 = 1 then some (r38, h39) else none))))
else
(aBind (f_X12_isOneHere h32 a0 1 x1) fun r42 h43 =>
(if r42 = 0 ∨ r42 = 1 then some (r42, h43) else none))))
else
(aBind (f_X12_isOneHere h30 a0 0 x1) fun r46 h47 =>
(if r46 = 0 ∨ r46 = 1 then some (r46, h47) else none)))))
else none)
else none))
else
(aBind (f_X12_isIsleHere h23 a0 x1) fun r51 h52 =>
(if r51 = 0 ∨ r51 = 1 then some (r51, h52) else none))))
else none)
set_option maxHeartbeats 2000000 in
theorem s_X12_isleLineHere (h : aH) (a0 : Nat) (x1 : Int32) : SO eI 6 kX12_isleLineHere [.ref a0, .int x1] h (f_X12_isleLineHere h a0 x1) := by
  refine so_of (lv0 := [some (.ref a0), some (.int x1)]) pn_X12 (Nat.le_of_ble_eq_true rfl) rfl ?_
  unfold f_X12_isleLineHere
  refine ao_s (st_aload_n dX12_isleLineHere_0 rfl rfl) ?_
  refine ao_s (st_ldc2 dX12_isleLineHere_1 cl_X12_229) ?_
  refine ao_chk (fun e21 => ?_)
  refine ao_cVi (As := [.long 1769172069]) (st := []) dX12_isleLineHere_4 ml_X12_110 mv_X12_isWord rfl e21 (by decide) rfl rfl (Nat.le_of_ble_eq_true rfl) (by decide) (s_X12_isWord h a0 1769172069) (fun r22 h23 => ?_)
  refine ao_br (br_if_eq (tgt := 16) dX12_isleLineHere_7 (by decide)) (fun c54 => ?_) (fun c54 => ?_)
  · refine ao_s (st_aload_n dX12_isleLineHere_16 rfl rfl) ?_
    refine ao_getR dX12_isleLineHere_17 fl_X12_26 rfl e21 (fun b24 => ?_)
    refine ao_s (st_iconst dX12_isleLineHere_20 ic_0) ?_
    refine ao_chk (fun e25 => ?_)
    refine ao_iald dX12_isleLineHere_21 e25 ?_
    refine ao_br (br_if_ne (tgt := 32) dX12_isleLineHere_22 (by decide)) (fun c50 => ?_) (fun c50 => ?_)
    · refine ao_s (st_aload_n dX12_isleLineHere_25 rfl rfl) ?_
      refine ao_s (st_iconst dX12_isleLineHere_26 ic_4) ?_
      refine ao_s (st_iload_n dX12_isleLineHere_27 rfl rfl) ?_
      refine ao_cVi (As := [.int 4, .int x1]) (st := []) dX12_isleLineHere_28 ml_X12_120 mv_X12_fails rfl e21 (by decide) rfl rfl (Nat.le_of_ble_eq_true rfl) (by decide) (s_X12_fails h23 a0 4 x1) (fun r26 h27 => ?_)
      refine ao_chk (fun c28 => ?_)
      exact ao_ir dX12_isleLineHere_31 rfl (nz c28).1
    · refine ao_s (st_aload_n dX12_isleLineHere_32 rfl rfl) ?_
      refine ao_s (st_ldc2 dX12_isleLineHere_33 cl_X12_234) ?_
      refine ao_cVi (As := [.long 1700885364]) (st := []) dX12_isleLineHere_36 ml_X12_110 mv_X12_isWord rfl e21 (by decide) rfl rfl (Nat.le_of_ble_eq_true rfl) (by decide) (s_X12_isWord h23 a0 1700885364) (fun r29 h30 => ?_)
      refine ao_br (br_if_eq (tgt := 49) dX12_isleLineHere_39 (by decide)) (fun c49 => ?_) (fun c49 => ?_)
      · refine ao_s (st_aload_n dX12_isleLineHere_49 rfl rfl) ?_
        refine ao_s (st_ldc2 dX12_isleLineHere_50 cl_X12_239) ?_
        refine ao_cVi (As := [.long 2003137396]) (st := []) dX12_isleLineHere_53 ml_X12_110 mv_X12_isWord rfl e21 (by decide) rfl rfl (Nat.le_of_ble_eq_true rfl) (by decide) (s_X12_isWord h30 a0 2003137396) (fun r31 h32 => ?_)
        refine ao_br (br_if_eq (tgt := 66) dX12_isleLineHere_56 (by decide)) (fun c45 => ?_) (fun c45 => ?_)
        · refine ao_s (st_aload_n dX12_isleLineHere_66 rfl rfl) ?_
          refine ao_s (st_ldc2 dX12_isleLineHere_67 cl_X12_241) ?_
          refine ao_cVi (As := [.long 1818326117]) (st := []) dX12_isleLineHere_70 ml_X12_110 mv_X12_isWord rfl e21 (by decide) rfl rfl (Nat.le_of_ble_eq_true rfl) (by decide) (s_X12_isWord h32 a0 1818326117) (fun r33 h34 => ?_)
          refine ao_br (br_if_eq (tgt := 81) dX12_isleLineHere_73 (by decide)) (fun c41 => ?_) (fun c41 => ?_)
          · refine ao_s (st_aload_n dX12_isleLineHere_81 rfl rfl) ?_
            refine ao_s (st_aload_n dX12_isleLineHere_82 rfl rfl) ?_
            refine ao_s (st_ldc2 dX12_isleLineHere_83 cl_X12_246) ?_
            refine ao_cVi (As := [.long 495622385011]) (st := [.ref a0]) dX12_isleLineHere_86 ml_X12_110 mv_X12_isWord rfl e21 (by decide) rfl rfl (Nat.le_of_ble_eq_true rfl) (by decide) (s_X12_isWord h34 a0 495622385011) (fun r35 h36 => ?_)
            refine ao_br (br_if_eq (tgt := 97) dX12_isleLineHere_89 (by decide)) (fun c37 => ?_) (fun c37 => ?_)
            · refine ao_s (st_bipush dX12_isleLineHere_97 bp_78) ?_
              exact t_X12_isleLineHere_99 h36 78 a0
            · refine ao_s (st_bipush dX12_isleLineHere_92 bp_110) ?_
              refine ao_s (st_goto 99 dX12_isleLineHere_94 (by decide)) ?_
              exact t_X12_isleLineHere_99 h36 110 a0
          · refine ao_s (st_aload_n dX12_isleLineHere_76 rfl rfl) ?_
            refine ao_cVi (As := []) (st := []) dX12_isleLineHere_77 ml_X12_243 mv_X12_isLateHere rfl e21 (by decide) rfl rfl (Nat.le_of_ble_eq_true rfl) (by decide) (s_X12_isLateHere h34 a0) (fun r38 h39 => ?_)
            refine ao_chk (fun c40 => ?_)
            exact ao_ir dX12_isleLineHere_80 rfl (nz c40).1
        · refine ao_s (st_aload_n dX12_isleLineHere_59 rfl rfl) ?_
          refine ao_s (st_iconst dX12_isleLineHere_60 ic_1) ?_
          refine ao_s (st_iload_n dX12_isleLineHere_61 rfl rfl) ?_
          refine ao_cVi (As := [.int 1, .int x1]) (st := []) dX12_isleLineHere_62 ml_X12_236 mv_X12_isOneHere rfl e21 (by decide) rfl rfl (Nat.le_of_ble_eq_true rfl) (by decide) (s_X12_isOneHere h32 a0 1 x1) (fun r42 h43 => ?_)
          refine ao_chk (fun c44 => ?_)
          exact ao_ir dX12_isleLineHere_65 rfl (nz c44).1
      · refine ao_s (st_aload_n dX12_isleLineHere_42 rfl rfl) ?_
        refine ao_s (st_iconst dX12_isleLineHere_43 ic_0) ?_
        refine ao_s (st_iload_n dX12_isleLineHere_44 rfl rfl) ?_
        refine ao_cVi (As := [.int 0, .int x1]) (st := []) dX12_isleLineHere_45 ml_X12_236 mv_X12_isOneHere rfl e21 (by decide) rfl rfl (Nat.le_of_ble_eq_true rfl) (by decide) (s_X12_isOneHere h30 a0 0 x1) (fun r46 h47 => ?_)
        refine ao_chk (fun c48 => ?_)
        exact ao_ir dX12_isleLineHere_48 rfl (nz c48).1
  · refine ao_s (st_aload_n dX12_isleLineHere_10 rfl rfl) ?_
    refine ao_s (st_iload_n dX12_isleLineHere_11 rfl rfl) ?_
    refine ao_cVi (As := [.int x1]) (st := []) dX12_isleLineHere_12 ml_X12_231 mv_X12_isIsleHere rfl e21 (by decide) rfl rfl (Nat.le_of_ble_eq_true rfl) (by decide) (s_X12_isIsleHere h23 a0 x1) (fun r51 h52 => ?_)
    refine ao_chk (fun c53 => ?_)
    exact ao_ir dX12_isleLineHere_15 rfl (nz c53).1
def f_X12_isIsleWord (h : aH) (a0 : Nat) : Option (Int32 × aH) :=
(if (sh a0).1 = 19 then
(aBind (f_X12_isWord h a0 1769172069) fun r22 h23 =>
(if r22 = 0 then
(aBind (f_X12_isWord h23 a0 1700885364) fun r24 h25 =>
(if r24 = 0 then
(aBind (f_X12_isWord h25 a0 2003137396) fun r26 h27 =>
(if r26 = 0 then
(aBind (f_X12_isWord h27 a0 495622385011) fun r28 h29 =>
(if r28 = 0 then
(aBind (f_X12_isWord h29 a0 500136504441) fun r30 h31 =>
(if r30 = 0 then
(aBind (f_X12_isWord h31 a0 1818326117) fun r32 h33 =>
(if r32 = 0 then
some (0, h33)
else
some (1, h33)))
else
some (1, h31)))
else
some (1, h29)))
else
some (1, h27)))
else
some (1, h25)))
else
some (1, h23)))
else none)
set_option maxHeartbeats 2000000 in
theorem s_X12_isIsleWord (h : aH) (a0 : Nat) : SO eI 4 kX12_isIsleWord [.ref a0] h (f_X12_isIsleWord h a0) := by
  refine so_of (lv0 := [some (.ref a0)]) pn_X12 (Nat.le_of_ble_eq_true rfl) rfl ?_
  unfold f_X12_isIsleWord
  refine ao_s (st_aload_n dX12_isIsleWord_0 rfl rfl) ?_
  refine ao_s (st_ldc2 dX12_isIsleWord_1 cl_X12_229) ?_
  refine ao_chk (fun e21 => ?_)
  refine ao_cVi (As := [.long 1769172069]) (st := []) dX12_isIsleWord_4 ml_X12_110 mv_X12_isWord rfl e21 (by decide) rfl rfl (Nat.le_of_ble_eq_true rfl) (by decide) (s_X12_isWord h a0 1769172069) (fun r22 h23 => ?_)
  refine ao_br (br_if_ne (tgt := 60) dX12_isIsleWord_7 (by decide)) (fun c39 => ?_) (fun c39 => ?_)
  · refine ao_s (st_aload_n dX12_isIsleWord_10 rfl rfl) ?_
    refine ao_s (st_ldc2 dX12_isIsleWord_11 cl_X12_234) ?_
    refine ao_cVi (As := [.long 1700885364]) (st := []) dX12_isIsleWord_14 ml_X12_110 mv_X12_isWord rfl e21 (by decide) rfl rfl (Nat.le_of_ble_eq_true rfl) (by decide) (s_X12_isWord h23 a0 1700885364) (fun r24 h25 => ?_)
    refine ao_br (br_if_ne (tgt := 60) dX12_isIsleWord_17 (by decide)) (fun c38 => ?_) (fun c38 => ?_)
    · refine ao_s (st_aload_n dX12_isIsleWord_20 rfl rfl) ?_
      refine ao_s (st_ldc2 dX12_isIsleWord_21 cl_X12_239) ?_
      refine ao_cVi (As := [.long 2003137396]) (st := []) dX12_isIsleWord_24 ml_X12_110 mv_X12_isWord rfl e21 (by decide) rfl rfl (Nat.le_of_ble_eq_true rfl) (by decide) (s_X12_isWord h25 a0 2003137396) (fun r26 h27 => ?_)
      refine ao_br (br_if_ne (tgt := 60) dX12_isIsleWord_27 (by decide)) (fun c37 => ?_) (fun c37 => ?_)
      · refine ao_s (st_aload_n dX12_isIsleWord_30 rfl rfl) ?_
        refine ao_s (st_ldc2 dX12_isIsleWord_31 cl_X12_246) ?_
        refine ao_cVi (As := [.long 495622385011]) (st := []) dX12_isIsleWord_34 ml_X12_110 mv_X12_isWord rfl e21 (by decide) rfl rfl (Nat.le_of_ble_eq_true rfl) (by decide) (s_X12_isWord h27 a0 495622385011) (fun r28 h29 => ?_)
        refine ao_br (br_if_ne (tgt := 60) dX12_isIsleWord_37 (by decide)) (fun c36 => ?_) (fun c36 => ?_)
        · refine ao_s (st_aload_n dX12_isIsleWord_40 rfl rfl) ?_
          refine ao_s (st_ldc2 dX12_isIsleWord_41 cl_X12_251) ?_
          refine ao_cVi (As := [.long 500136504441]) (st := []) dX12_isIsleWord_44 ml_X12_110 mv_X12_isWord rfl e21 (by decide) rfl rfl (Nat.le_of_ble_eq_true rfl) (by decide) (s_X12_isWord h29 a0 500136504441) (fun r30 h31 => ?_)
          refine ao_br (br_if_ne (tgt := 60) dX12_isIsleWord_47 (by decide)) (fun c35 => ?_) (fun c35 => ?_)
          · refine ao_s (st_aload_n dX12_isIsleWord_50 rfl rfl) ?_
            refine ao_s (st_ldc2 dX12_isIsleWord_51 cl_X12_241) ?_
            refine ao_cVi (As := [.long 1818326117]) (st := []) dX12_isIsleWord_54 ml_X12_110 mv_X12_isWord rfl e21 (by decide) rfl rfl (Nat.le_of_ble_eq_true rfl) (by decide) (s_X12_isWord h31 a0 1818326117) (fun r32 h33 => ?_)
            refine ao_br (br_if_eq (tgt := 64) dX12_isIsleWord_57 (by decide)) (fun c34 => ?_) (fun c34 => ?_)
            · refine ao_s (st_iconst dX12_isIsleWord_64 ic_0) ?_
              exact ao_ir dX12_isIsleWord_65 rfl (by decide)
            · refine ao_s (st_iconst dX12_isIsleWord_60 ic_1) ?_
              refine ao_s (st_goto 65 dX12_isIsleWord_61 (by decide)) ?_
              exact ao_ir dX12_isIsleWord_65 rfl (by decide)
          · refine ao_s (st_iconst dX12_isIsleWord_60 ic_1) ?_
            refine ao_s (st_goto 65 dX12_isIsleWord_61 (by decide)) ?_
            exact ao_ir dX12_isIsleWord_65 rfl (by decide)
        · refine ao_s (st_iconst dX12_isIsleWord_60 ic_1) ?_
          refine ao_s (st_goto 65 dX12_isIsleWord_61 (by decide)) ?_
          exact ao_ir dX12_isIsleWord_65 rfl (by decide)
      · refine ao_s (st_iconst dX12_isIsleWord_60 ic_1) ?_
        refine ao_s (st_goto 65 dX12_isIsleWord_61 (by decide)) ?_
        exact ao_ir dX12_isIsleWord_65 rfl (by decide)
    · refine ao_s (st_iconst dX12_isIsleWord_60 ic_1) ?_
      refine ao_s (st_goto 65 dX12_isIsleWord_61 (by decide)) ?_
      exact ao_ir dX12_isIsleWord_65 rfl (by decide)
  · refine ao_s (st_iconst dX12_isIsleWord_60 ic_1) ?_
    refine ao_s (st_goto 65 dX12_isIsleWord_61 (by decide)) ?_
    exact ao_ir dX12_isIsleWord_65 rfl (by decide)
def b_X12_clauseHere_49 (h : aH) (a0 : Nat) (x1 : Int32) : Option (Int32 × aH) :=
(if (sh a0).1 = 19 then
(aBind (f_X12_fails h a0 0 x1) fun r22 h23 =>
(if r22 = 0 ∨ r22 = 1 then some (r22, h23) else none))
else none)
set_option maxHeartbeats 2000000 in
theorem t_X12_clauseHere_49 (h : aH) (a0 : Nat) (x1 : Int32) {z2 : Option Value} : AO eI 12 kX12_clauseHere 49 [some (.ref a0), some (.int x1), z2] [] h (b_X12_clauseHere_49 h a0 x1) := by
  unfold b_X12_clauseHere_49
  refine ao_s (st_aload_n dX12_clauseHere_49 rfl rfl) ?_
  refine ao_s (st_iconst dX12_clauseHere_50 ic_0) ?_
  refine ao_s (st_iload_n dX12_clauseHere_51 rfl rfl) ?_
  refine ao_chk (fun e21 => ?_)
  refine ao_cVi (As := [.int 0, .int x1]) (st := []) dX12_clauseHere_52 ml_X12_120 mv_X12_fails rfl e21 (by decide) rfl rfl (Nat.le_of_ble_eq_true rfl) (by decide) (s_X12_fails h a0 0 x1) (fun r22 h23 => ?_)
  refine ao_chk (fun c24 => ?_)
  exact ao_ir dX12_clauseHere_55 rfl (nz c24).1
def b_X12_clauseHere_71 (h : aH) (a0 : Nat) (x1 : Int32) (x2 : Int32) (s0 : Int32) (s1 : Int32) : Option (Int32 × aH) :=
(if s1 = s0 then
(if (sh a0).1 = 19 then
(aBind (f_X12_fails h a0 4 x1) fun r22 h23 =>
(if r22 = 0 ∨ r22 = 1 then some (r22, h23) else none))
else none)
else
(if (sh a0).1 = 19 then
(aLet (pI h a0 14 ((hI h a0 14) + 1)) fun h26 =>
(if x2 = 0 then
(aBind (f_X12_isStayHere h26 a0) fun r27 h28 =>
(if r27 = 0 ∨ r27 = 1 then some (r27, h28) else none))
else
(aBind (f_X12_isleLineHere h26 a0 x1) fun r30 h31 =>
(if r30 = 0 ∨ r30 = 1 then some (r30, h31) else none))))
else none))
set_option maxHeartbeats 2000000 in
theorem t_X12_clauseHere_71 (h : aH) (a0 : Nat) (x1 : Int32) (x2 : Int32) (s0 : Int32) (s1 : Int32) : AO eI 12 kX12_clauseHere 71 [some (.ref a0), some (.int x1), some (.int x2)] [.int s0, .int s1] h (b_X12_clauseHere_71 h a0 x1 x2 s0 s1) := by
  unfold b_X12_clauseHere_71
  refine ao_br (br_icmp_ne (tgt := 81) dX12_clauseHere_71 (by decide)) (fun c34 => ?_) (fun c34 => ?_)
  · refine ao_s (st_aload_n dX12_clauseHere_74 rfl rfl) ?_
    refine ao_s (st_iconst dX12_clauseHere_75 ic_4) ?_
    refine ao_s (st_iload_n dX12_clauseHere_76 rfl rfl) ?_
    refine ao_chk (fun e21 => ?_)
    refine ao_cVi (As := [.int 4, .int x1]) (st := []) dX12_clauseHere_77 ml_X12_120 mv_X12_fails rfl e21 (by decide) rfl rfl (Nat.le_of_ble_eq_true rfl) (by decide) (s_X12_fails h a0 4 x1) (fun r22 h23 => ?_)
    refine ao_chk (fun c24 => ?_)
    exact ao_ir dX12_clauseHere_80 rfl (nz c24).1
  · refine ao_s (st_aload_n dX12_clauseHere_81 rfl rfl) ?_
    refine ao_s (st_dup dX12_clauseHere_82 rfl) ?_
    refine ao_chk (fun e25 => ?_)
    refine ao_getI dX12_clauseHere_83 fl_X12_258 rfl e25 ?_
    refine ao_s (st_iconst dX12_clauseHere_86 ic_1) ?_
    refine ao_s (st_iadd dX12_clauseHere_87) ?_
    refine ao_putI dX12_clauseHere_88 fl_X12_258 rfl rfl rfl rfl e25 ?_
    refine ao_letH (fun h26 => ?_)
    refine ao_s (st_iload_n dX12_clauseHere_91 rfl rfl) ?_
    refine ao_br (br_if_eq (tgt := 103) dX12_clauseHere_92 (by decide)) (fun c33 => ?_) (fun c33 => ?_)
    · refine ao_s (st_aload_n dX12_clauseHere_103 rfl rfl) ?_
      refine ao_cVi (As := []) (st := []) dX12_clauseHere_104 ml_X12_264 mv_X12_isStayHere rfl e25 (by decide) rfl rfl (Nat.le_of_ble_eq_true rfl) (by decide) (s_X12_isStayHere h26 a0) (fun r27 h28 => ?_)
      refine ao_chk (fun c29 => ?_)
      exact ao_ir dX12_clauseHere_107 rfl (nz c29).1
    · refine ao_s (st_aload_n dX12_clauseHere_95 rfl rfl) ?_
      refine ao_s (st_iload_n dX12_clauseHere_96 rfl rfl) ?_
      refine ao_cVi (As := [.int x1]) (st := []) dX12_clauseHere_97 ml_X12_261 mv_X12_isleLineHere rfl e25 (by decide) rfl rfl (Nat.le_of_ble_eq_true rfl) (by decide) (s_X12_isleLineHere h26 a0 x1) (fun r30 h31 => ?_)
      refine ao_s (st_goto 107 dX12_clauseHere_100 (by decide)) ?_
      refine ao_chk (fun c32 => ?_)
      exact ao_ir dX12_clauseHere_107 rfl (nz c32).1
def b_X12_clauseHere_56 (h : aH) (a0 : Nat) (x1 : Int32) (x2 : Int32) : Option (Int32 × aH) :=
(if (sh a0).1 = 19 then
(if x2 = 0 then
b_X12_clauseHere_71 h a0 x1 x2 12 (hI h a0 14)
else
b_X12_clauseHere_71 h a0 x1 x2 40 (hI h a0 14))
else none)
set_option maxHeartbeats 2000000 in
theorem t_X12_clauseHere_56 (h : aH) (a0 : Nat) (x1 : Int32) (x2 : Int32) : AO eI 12 kX12_clauseHere 56 [some (.ref a0), some (.int x1), some (.int x2)] [] h (b_X12_clauseHere_56 h a0 x1 x2) := by
  unfold b_X12_clauseHere_56
  refine ao_s (st_aload_n dX12_clauseHere_56 rfl rfl) ?_
  refine ao_chk (fun e21 => ?_)
  refine ao_getI dX12_clauseHere_57 fl_X12_258 rfl e21 ?_
  refine ao_s (st_iload_n dX12_clauseHere_60 rfl rfl) ?_
  refine ao_br (br_if_eq (tgt := 69) dX12_clauseHere_61 (by decide)) (fun c22 => ?_) (fun c22 => ?_)
  · refine ao_s (st_bipush dX12_clauseHere_69 bp_12) ?_
    exact t_X12_clauseHere_71 h a0 x1 x2 12 (hI h a0 14)
  · refine ao_s (st_bipush dX12_clauseHere_64 bp_40) ?_
    refine ao_s (st_goto 71 dX12_clauseHere_66 (by decide)) ?_
    exact t_X12_clauseHere_71 h a0 x1 x2 40 (hI h a0 14)
def b_X12_clauseHere_24 (h : aH) (a0 : Nat) (x1 : Int32) (s0 : Int32) : Option (Int32 × aH) :=
(if s0 = 0 then
(if (sh a0).1 = 19 then
(aBind (f_X12_isWord h a0 1937006969) fun r22 h23 =>
(if r22 = 0 then
b_X12_clauseHere_49 h23 a0 x1
else
b_X12_clauseHere_56 h23 a0 x1 s0))
else none)
else
(if (sh a0).1 = 19 then
(aBind (f_X12_isIsleWord h a0) fun r26 h27 =>
(if r26 = 0 then
b_X12_clauseHere_49 h27 a0 x1
else
b_X12_clauseHere_56 h27 a0 x1 s0))
else none))
set_option maxHeartbeats 2000000 in
theorem t_X12_clauseHere_24 (h : aH) (a0 : Nat) (x1 : Int32) (s0 : Int32) {z2 : Option Value} : AO eI 12 kX12_clauseHere 24 [some (.ref a0), some (.int x1), z2] [.int s0] h (b_X12_clauseHere_24 h a0 x1 s0) := by
  unfold b_X12_clauseHere_24
  refine ao_s (st_istore_n (lv' := [some (.ref a0), some (.int x1), some (.int s0)]) dX12_clauseHere_24 rfl (by decide) rfl) ?_
  refine ao_s (st_iload_n dX12_clauseHere_25 rfl rfl) ?_
  refine ao_br (br_if_eq (tgt := 39) dX12_clauseHere_26 (by decide)) (fun c29 => ?_) (fun c29 => ?_)
  · refine ao_s (st_aload_n dX12_clauseHere_39 rfl rfl) ?_
    refine ao_s (st_ldc2 dX12_clauseHere_40 cl_X12_256) ?_
    refine ao_chk (fun e21 => ?_)
    refine ao_cVi (As := [.long 1937006969]) (st := []) dX12_clauseHere_43 ml_X12_110 mv_X12_isWord rfl e21 (by decide) rfl rfl (Nat.le_of_ble_eq_true rfl) (by decide) (s_X12_isWord h a0 1937006969) (fun r22 h23 => ?_)
    refine ao_br (br_if_ne (tgt := 56) dX12_clauseHere_46 (by decide)) (fun c24 => ?_) (fun c24 => ?_)
    · exact t_X12_clauseHere_49 h23 a0 x1
    · exact t_X12_clauseHere_56 h23 a0 x1 s0
  · refine ao_s (st_aload_n dX12_clauseHere_29 rfl rfl) ?_
    refine ao_chk (fun e25 => ?_)
    refine ao_cVi (As := []) (st := []) dX12_clauseHere_30 ml_X12_253 mv_X12_isIsleWord rfl e25 (by decide) rfl rfl (Nat.le_of_ble_eq_true rfl) (by decide) (s_X12_isIsleWord h a0) (fun r26 h27 => ?_)
    refine ao_br (br_if_ne (tgt := 56) dX12_clauseHere_33 (by decide)) (fun c28 => ?_) (fun c28 => ?_)
    · refine ao_s (st_goto 49 dX12_clauseHere_36 (by decide)) ?_
      exact t_X12_clauseHere_49 h27 a0 x1
    · exact t_X12_clauseHere_56 h27 a0 x1 s0
def f_X12_clauseHere (h : aH) (a0 : Nat) : Option (Int32 × aH) :=
(if (sh a0).1 = 19 then
(aBind (f_X12_see h a0) fun r22 h23 =>
(aLet (hI h23 a0 8) fun x24 =>
(if hI h23 a0 11 = 6 then
b_X12_clauseHere_24 h23 a0 x24 1
else
b_X12_clauseHere_24 h23 a0 x24 0)))
else none)
set_option maxHeartbeats 2000000 in
theorem s_X12_clauseHere (h : aH) (a0 : Nat) : SO eI 12 kX12_clauseHere [.ref a0] h (f_X12_clauseHere h a0) := by
  refine so_of (lv0 := [some (.ref a0), none, none]) pn_X12 (Nat.le_of_ble_eq_true rfl) rfl ?_
  unfold f_X12_clauseHere
  refine ao_s (st_aload_n dX12_clauseHere_0 rfl rfl) ?_
  refine ao_chk (fun e21 => ?_)
  refine ao_cVi (As := []) (st := []) dX12_clauseHere_1 ml_X12_102 mv_X12_see rfl e21 (by decide) rfl rfl (Nat.le_of_ble_eq_true rfl) (by decide) (s_X12_see h a0) (fun r22 h23 => ?_)
  refine ao_s (st_pop dX12_clauseHere_4 rfl) ?_
  refine ao_s (st_aload_n dX12_clauseHere_5 rfl rfl) ?_
  refine ao_getI dX12_clauseHere_6 fl_X12_99 rfl e21 ?_
  refine ao_letI (fun x24 => ?_)
  refine ao_s (st_istore_n (lv' := [some (.ref a0), some (.int x24), none]) dX12_clauseHere_9 rfl (by decide) rfl) ?_
  refine ao_s (st_aload_n dX12_clauseHere_10 rfl rfl) ?_
  refine ao_getI dX12_clauseHere_11 fl_X12_153 rfl e21 ?_
  refine ao_s (st_bipush dX12_clauseHere_14 bp_6) ?_
  refine ao_br (br_icmp_ne (tgt := 23) dX12_clauseHere_16 (by decide)) (fun c25 => ?_) (fun c25 => ?_)
  · refine ao_s (st_iconst dX12_clauseHere_19 ic_1) ?_
    refine ao_s (st_goto 24 dX12_clauseHere_20 (by decide)) ?_
    exact t_X12_clauseHere_24 h23 a0 x24 1
  · refine ao_s (st_iconst dX12_clauseHere_23 ic_0) ?_
    exact t_X12_clauseHere_24 h23 a0 x24 0
def b_X12_readsAll_88 (h : aH) (a0 : Nat) : Option (Int32 × aH) :=
(if (sh a0).1 = 19 then
(aLet (pI h a0 1 0) fun h22 =>
(if hI h22 a0 9 = 0 then
some (1, h22)
else
some (0, h22)))
else none)
set_option maxHeartbeats 2000000 in
theorem t_X12_readsAll_88 (h : aH) (a0 : Nat) {z1 : Option Value} : AO eI 13 kX12_readsAll 88 [some (.ref a0), z1] [] h (b_X12_readsAll_88 h a0) := by
  unfold b_X12_readsAll_88
  refine ao_s (st_aload_n dX12_readsAll_88 rfl rfl) ?_
  refine ao_s (st_iconst dX12_readsAll_89 ic_0) ?_
  refine ao_chk (fun e21 => ?_)
  refine ao_putI dX12_readsAll_90 fl_X12_89 rfl rfl rfl rfl e21 ?_
  refine ao_letH (fun h22 => ?_)
  refine ao_s (st_aload_n dX12_readsAll_93 rfl rfl) ?_
  refine ao_getI dX12_readsAll_94 fl_X12_96 rfl e21 ?_
  refine ao_br (br_if_ne (tgt := 104) dX12_readsAll_97 (by decide)) (fun c23 => ?_) (fun c23 => ?_)
  · refine ao_s (st_iconst dX12_readsAll_100 ic_1) ?_
    refine ao_s (st_goto 105 dX12_readsAll_101 (by decide)) ?_
    exact ao_ir dX12_readsAll_105 rfl (by decide)
  · refine ao_s (st_iconst dX12_readsAll_104 ic_0) ?_
    exact ao_ir dX12_readsAll_105 rfl (by decide)
def b_X12_readsAll_66 (h : aH) (a0 : Nat) (x1 : Int32) : Option (Int32 × aH) :=
(if x1 = 0 then
b_X12_readsAll_88 h a0
else
(if (sh a0).1 = 19 then
(aBind (f_X12_see h a0) fun r22 h23 =>
(if r22 = (-1) then
b_X12_readsAll_88 h23 a0
else
(aBind (f_X12_fails h23 a0 0 (hI h23 a0 8)) fun r24 h25 =>
b_X12_readsAll_88 h25 a0)))
else none))
set_option maxHeartbeats 2000000 in
theorem t_X12_readsAll_66 (h : aH) (a0 : Nat) (x1 : Int32) : AO eI 13 kX12_readsAll 66 [some (.ref a0), some (.int x1)] [] h (b_X12_readsAll_66 h a0 x1) := by
  unfold b_X12_readsAll_66
  refine ao_s (st_iload_n dX12_readsAll_66 rfl rfl) ?_
  refine ao_br (br_if_eq (tgt := 88) dX12_readsAll_67 (by decide)) (fun c27 => ?_) (fun c27 => ?_)
  · exact t_X12_readsAll_88 h a0
  · refine ao_s (st_aload_n dX12_readsAll_70 rfl rfl) ?_
    refine ao_chk (fun e21 => ?_)
    refine ao_cVi (As := []) (st := []) dX12_readsAll_71 ml_X12_102 mv_X12_see rfl e21 (by decide) rfl rfl (Nat.le_of_ble_eq_true rfl) (by decide) (s_X12_see h a0) (fun r22 h23 => ?_)
    refine ao_s (st_iconst dX12_readsAll_74 ic_m1) ?_
    refine ao_br (br_icmp_eq (tgt := 88) dX12_readsAll_75 (by decide)) (fun c26 => ?_) (fun c26 => ?_)
    · exact t_X12_readsAll_88 h23 a0
    · refine ao_s (st_aload_n dX12_readsAll_78 rfl rfl) ?_
      refine ao_s (st_iconst dX12_readsAll_79 ic_0) ?_
      refine ao_s (st_aload_n dX12_readsAll_80 rfl rfl) ?_
      refine ao_getI dX12_readsAll_81 fl_X12_99 rfl e21 ?_
      refine ao_cVi (As := [.int 0, .int (hI h23 a0 8)]) (st := []) dX12_readsAll_84 ml_X12_120 mv_X12_fails rfl e21 (by decide) rfl rfl (Nat.le_of_ble_eq_true rfl) (by decide) (s_X12_fails h23 a0 0 (hI h23 a0 8)) (fun r24 h25 => ?_)
      refine ao_s (st_pop dX12_readsAll_87 rfl) ?_
      exact t_X12_readsAll_88 h25 a0
def b_X12_readsAll_35 (k35 : aH → Nat → Int32 → Option (Int32 × aH)) (h : aH) (a0 : Nat) (x1 : Int32) : Option (Int32 × aH) :=
(if x1 = 0 then
b_X12_readsAll_66 h a0 x1
else
(if (sh a0).1 = 19 then
(aBind (f_X12_see h a0) fun r22 h23 =>
(if r22 = 59 then
(aLet (pI h23 a0 8 ((hI h23 a0 8) + 1)) fun h24 =>
(aBind (f_X12_clauseHere h24 a0) fun r25 h26 =>
k35 h26 a0 r25))
else
b_X12_readsAll_66 h23 a0 x1))
else none))
set_option maxHeartbeats 2000000 in
theorem t_X12_readsAll_35 {k35 : aH → Nat → Int32 → Option (Int32 × aH)} (hk35 : ∀ (h : aH) (a0 : Nat) (x1 : Int32), AO eI 13 kX12_readsAll 35 [some (.ref a0), some (.int x1)] [] h (k35 h a0 x1)) (h : aH) (a0 : Nat) (x1 : Int32) : AO eI 13 kX12_readsAll 35 [some (.ref a0), some (.int x1)] [] h (b_X12_readsAll_35 k35 h a0 x1) := by
  unfold b_X12_readsAll_35
  refine ao_s (st_iload_n dX12_readsAll_35 rfl rfl) ?_
  refine ao_br (br_if_eq (tgt := 66) dX12_readsAll_36 (by decide)) (fun c28 => ?_) (fun c28 => ?_)
  · exact t_X12_readsAll_66 h a0 x1
  · refine ao_s (st_aload_n dX12_readsAll_39 rfl rfl) ?_
    refine ao_chk (fun e21 => ?_)
    refine ao_cVi (As := []) (st := []) dX12_readsAll_40 ml_X12_102 mv_X12_see rfl e21 (by decide) rfl rfl (Nat.le_of_ble_eq_true rfl) (by decide) (s_X12_see h a0) (fun r22 h23 => ?_)
    refine ao_s (st_bipush dX12_readsAll_43 bp_59) ?_
    refine ao_br (br_icmp_ne (tgt := 66) dX12_readsAll_45 (by decide)) (fun c27 => ?_) (fun c27 => ?_)
    · refine ao_s (st_aload_n dX12_readsAll_48 rfl rfl) ?_
      refine ao_s (st_dup dX12_readsAll_49 rfl) ?_
      refine ao_getI dX12_readsAll_50 fl_X12_99 rfl e21 ?_
      refine ao_s (st_iconst dX12_readsAll_53 ic_1) ?_
      refine ao_s (st_iadd dX12_readsAll_54) ?_
      refine ao_putI dX12_readsAll_55 fl_X12_99 rfl rfl rfl rfl e21 ?_
      refine ao_letH (fun h24 => ?_)
      refine ao_s (st_aload_n dX12_readsAll_58 rfl rfl) ?_
      refine ao_cVi (As := []) (st := []) dX12_readsAll_59 ml_X12_267 mv_X12_clauseHere rfl e21 (by decide) rfl rfl (Nat.le_of_ble_eq_true rfl) (by decide) (s_X12_clauseHere h24 a0) (fun r25 h26 => ?_)
      refine ao_s (st_istore_n (lv' := [some (.ref a0), some (.int r25)]) dX12_readsAll_62 rfl (by decide) rfl) ?_
      refine ao_s (st_goto 35 dX12_readsAll_63 (by decide)) ?_
      exact hk35 h26 a0 r25
    · exact t_X12_readsAll_66 h23 a0 x1
def f_X12_readsAll_35 (n : Nat) : aH → Nat → Int32 → Option (Int32 × aH) := aIt (fun _ _ _ => none) (fun k => b_X12_readsAll_35 k) n
theorem l_X12_readsAll_35 (n : Nat) : ∀ (h : aH) (a0 : Nat) (x1 : Int32), AO eI 13 kX12_readsAll 35 [some (.ref a0), some (.int x1)] [] h (f_X12_readsAll_35 n h a0 x1) := by
  induction n with
  | zero => intros; exact ao_none
  | succ n ih =>
    intro h a0 x1
    exact t_X12_readsAll_35 ih h a0 x1
def f_X12_readsAll (h : aH) (a0 : Nat) : Option (Int32 × aH) :=
(if (sh a0).1 = 19 then
((hR h a0 4).bind fun b22 =>
(aLet (hI h a0 11) fun x23 =>
(if (sh b22).1 = 0 then
(if aIn x23 (sh b22).2 then
(aLet (pI h b22 x23.toNatClampNeg 0) fun h25 =>
(aLet (pI h25 a0 14 0) fun h26 =>
(aLet (pI h26 a0 8 0) fun h27 =>
(aLet (pI h27 a0 9 0) fun h28 =>
(aLet (pI h28 a0 12 0) fun h29 =>
(aBind (f_X12_clauseHere h29 a0) fun r30 h31 =>
f_X12_readsAll_35 2000 h31 a0 r30))))))
else none)
else none)))
else none)
set_option maxHeartbeats 2000000 in
theorem s_X12_readsAll (h : aH) (a0 : Nat) : SO eI 13 kX12_readsAll [.ref a0] h (f_X12_readsAll h a0) := by
  refine so_of (lv0 := [some (.ref a0), none]) pn_X12 (Nat.le_of_ble_eq_true rfl) rfl ?_
  unfold f_X12_readsAll
  refine ao_s (st_aload_n dX12_readsAll_0 rfl rfl) ?_
  refine ao_chk (fun e21 => ?_)
  refine ao_getR dX12_readsAll_1 fl_X12_17 rfl e21 (fun b22 => ?_)
  refine ao_s (st_aload_n dX12_readsAll_4 rfl rfl) ?_
  refine ao_getI dX12_readsAll_5 fl_X12_153 rfl e21 ?_
  refine ao_s (st_iconst dX12_readsAll_8 ic_0) ?_
  refine ao_let2 (fun x23 => ?_)
  refine ao_chk (fun e24 => ?_)
  refine ao_iast dX12_readsAll_9 e24 ?_
  refine ao_letH (fun h25 => ?_)
  refine ao_s (st_aload_n dX12_readsAll_10 rfl rfl) ?_
  refine ao_s (st_iconst dX12_readsAll_11 ic_0) ?_
  refine ao_putI dX12_readsAll_12 fl_X12_258 rfl rfl rfl rfl e21 ?_
  refine ao_letH (fun h26 => ?_)
  refine ao_s (st_aload_n dX12_readsAll_15 rfl rfl) ?_
  refine ao_s (st_iconst dX12_readsAll_16 ic_0) ?_
  refine ao_putI dX12_readsAll_17 fl_X12_99 rfl rfl rfl rfl e21 ?_
  refine ao_letH (fun h27 => ?_)
  refine ao_s (st_aload_n dX12_readsAll_20 rfl rfl) ?_
  refine ao_s (st_iconst dX12_readsAll_21 ic_0) ?_
  refine ao_putI dX12_readsAll_22 fl_X12_96 rfl rfl rfl rfl e21 ?_
  refine ao_letH (fun h28 => ?_)
  refine ao_s (st_aload_n dX12_readsAll_25 rfl rfl) ?_
  refine ao_s (st_iconst dX12_readsAll_26 ic_0) ?_
  refine ao_putI dX12_readsAll_27 fl_X12_156 rfl rfl rfl rfl e21 ?_
  refine ao_letH (fun h29 => ?_)
  refine ao_s (st_aload_n dX12_readsAll_30 rfl rfl) ?_
  refine ao_cVi (As := []) (st := []) dX12_readsAll_31 ml_X12_267 mv_X12_clauseHere rfl e21 (by decide) rfl rfl (Nat.le_of_ble_eq_true rfl) (by decide) (s_X12_clauseHere h29 a0) (fun r30 h31 => ?_)
  refine ao_s (st_istore_n (lv' := [some (.ref a0), some (.int r30)]) dX12_readsAll_34 rfl (by decide) rfl) ?_
  exact l_X12_readsAll_35 2000 h31 a0 r30
