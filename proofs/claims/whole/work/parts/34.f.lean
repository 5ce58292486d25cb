def b_X12_isIsleHere_53 (k53 : aH → Nat → Int32 → Option (Int32 × aH)) (h : aH) (a0 : Nat) (x2 : Int32) : Option (Int32 × aH) :=
(if 32 ≤ x2 then
some (1, h)
else
(if (sh a0).1 = 19 then
((hR h a0 7).bind fun b22 =>
(aLet (78 + x2) fun x23 =>
(if (sh b22).1 = 0 then
(if aIn x23 (sh b22).2 then
(aLet (pI h b22 x23.toNatClampNeg (-1)) fun h25 =>
k53 h25 a0 (x2 + 1))
else none)
else none)))
else none))
set_option maxHeartbeats 2000000 in
theorem t_X12_isIsleHere_53 {k53 : aH → Nat → Int32 → Option (Int32 × aH)} (hk53 : ∀ (h : aH) (a0 : Nat) (x2 : Int32), AO eI 5 kX12_isIsleHere 53 [some (.ref a0), none, some (.int x2)] [] h (k53 h a0 x2)) (h : aH) (a0 : Nat) (x2 : Int32) : AO eI 5 kX12_isIsleHere 53 [some (.ref a0), none, some (.int x2)] [] h (b_X12_isIsleHere_53 k53 h a0 x2) := by
  unfold b_X12_isIsleHere_53
  refine ao_s (st_iload_n dX12_isIsleHere_53 rfl rfl) ?_
  refine ao_s (st_bipush dX12_isIsleHere_54 bp_32) ?_
  refine ao_br (br_icmp_ge (tgt := 75) dX12_isIsleHere_56 (by decide)) (fun c26 => ?_) (fun c26 => ?_)
  · refine ao_s (st_iconst dX12_isIsleHere_75 ic_1) ?_
    exact ao_ir dX12_isIsleHere_76 rfl (by decide)
  · refine ao_s (st_aload_n dX12_isIsleHere_59 rfl rfl) ?_
    refine ao_chk (fun e21 => ?_)
    refine ao_getR dX12_isIsleHere_60 fl_X12_26 rfl e21 (fun b22 => ?_)
    refine ao_s (st_bipush dX12_isIsleHere_63 bp_78) ?_
    refine ao_s (st_iload_n dX12_isIsleHere_65 rfl rfl) ?_
    refine ao_s (st_iadd dX12_isIsleHere_66) ?_
    refine ao_s (st_iconst dX12_isIsleHere_67 ic_m1) ?_
    refine ao_let2 (fun x23 => ?_)
    refine ao_chk (fun e24 => ?_)
    refine ao_iast dX12_isIsleHere_68 e24 ?_
    refine ao_letH (fun h25 => ?_)
    refine ao_s (st_iinc (lv' := [some (.ref a0), none, some (.int (x2 + 1))]) dX12_isIsleHere_69 rfl nc_1 (by decide) rfl) ?_
    refine ao_s (st_goto 53 dX12_isIsleHere_72 (by decide)) ?_
    exact ao_w (sb_s (sb_n (sb_s sb_0))) (hk53 h25 a0 (x2 + 1))
def f_X12_isIsleHere_53 (n : Nat) : aH → Nat → Int32 → Option (Int32 × aH) := aIt (fun _ _ _ => none) (fun k => b_X12_isIsleHere_53 k) n
theorem l_X12_isIsleHere_53 (n : Nat) : ∀ (h : aH) (a0 : Nat) (x2 : Int32), AO eI 5 kX12_isIsleHere 53 [some (.ref a0), none, some (.int x2)] [] h (f_X12_isIsleHere_53 n h a0 x2) := by
  induction n with
  | zero => intros; exact ao_none
  | succ n ih =>
    intro h a0 x2
    exact t_X12_isIsleHere_53 ih h a0 x2
def f_X12_isIsleHere (h : aH) (a0 : Nat) (x1 : Int32) : Option (Int32 × aH) :=
(if (sh a0).1 = 19 then
((hR h a0 7).bind fun b22 =>
(if (sh b22).1 = 0 then
(if aIn 0 (sh b22).2 then
(if hI h b22 (0 : Int32).toNatClampNeg ≤ 0 then
(aBind (f_X12_passWord h a0) fun r24 h25 =>
(aBind (f_X12_cellHere h25 a0 1 0 99) fun r26 h27 =>
(if r26 = 0 then
some (0, h27)
else
(aBind (f_X12_cellHere h27 a0 2 0 20) fun r28 h29 =>
(if r28 = 0 then
some (0, h29)
else
((hR h29 a0 7).bind fun b30 =>
(if (sh b30).1 = 0 then
(if aIn 0 (sh b30).2 then
(aLet (pI h29 b30 (0 : Int32).toNatClampNeg 1) fun h32 =>
f_X12_isIsleHere_53 2000 h32 a0 0)
else none)
else none)))))))
else
(aBind (f_X12_fails h a0 4 x1) fun r35 h36 =>
(if r35 = 0 ∨ r35 = 1 then some (r35, h36) else none)))
else none)
else none))
else none)
set_option maxHeartbeats 2000000 in
theorem s_X12_isIsleHere (h : aH) (a0 : Nat) (x1 : Int32) : SO eI 5 kX12_isIsleHere [.ref a0, .int x1] h (f_X12_isIsleHere h a0 x1) := by
  refine so_of (lv0 := [some (.ref a0), some (.int x1), none]) pn_X12 (Nat.le_of_ble_eq_true rfl) rfl ?_
  unfold f_X12_isIsleHere
  refine ao_s (st_aload_n dX12_isIsleHere_0 rfl rfl) ?_
  refine ao_chk (fun e21 => ?_)
  refine ao_getR dX12_isIsleHere_1 fl_X12_26 rfl e21 (fun b22 => ?_)
  refine ao_s (st_iconst dX12_isIsleHere_4 ic_0) ?_
  refine ao_chk (fun e23 => ?_)
  refine ao_iald dX12_isIsleHere_5 e23 ?_
  refine ao_br (br_if_le (tgt := 16) dX12_isIsleHere_6 (by decide)) (fun c38 => ?_) (fun c38 => ?_)
  · refine ao_s (st_aload_n dX12_isIsleHere_16 rfl rfl) ?_
    refine ao_cVv (Kc := kX12_passWord) (As := []) (st := []) dX12_isIsleHere_17 ml_X12_114 mv_X12_passWord rfl e21 (by decide) rfl rfl (Nat.le_of_ble_eq_true rfl) (by decide) (s_X12_passWord h a0) (fun r24 h25 => ?_)
    refine ao_s (st_aload_n dX12_isIsleHere_20 rfl rfl) ?_
    refine ao_s (st_iconst dX12_isIsleHere_21 ic_1) ?_
    refine ao_s (st_iconst dX12_isIsleHere_22 ic_0) ?_
    refine ao_s (st_bipush dX12_isIsleHere_23 bp_99) ?_
    refine ao_cVi (Kc := kX12_cellHere) (As := [.int 1, .int 0, .int 99]) (st := []) dX12_isIsleHere_25 ml_X12_225 mv_X12_cellHere rfl e21 (by decide) rfl rfl (Nat.le_of_ble_eq_true rfl) (by decide) (s_X12_cellHere h25 a0 1 0 99) (fun r26 h27 => ?_)
    refine ao_br (br_if_eq (tgt := 42) dX12_isIsleHere_28 (by decide)) (fun c34 => ?_) (fun c34 => ?_)
    · refine ao_s (st_iconst dX12_isIsleHere_42 ic_0) ?_
      exact ao_ir dX12_isIsleHere_43 rfl (by decide)
    · refine ao_s (st_aload_n dX12_isIsleHere_31 rfl rfl) ?_
      refine ao_s (st_iconst dX12_isIsleHere_32 ic_2) ?_
      refine ao_s (st_iconst dX12_isIsleHere_33 ic_0) ?_
      refine ao_s (st_bipush dX12_isIsleHere_34 bp_20) ?_
      refine ao_cVi (Kc := kX12_cellHere) (As := [.int 2, .int 0, .int 20]) (st := []) dX12_isIsleHere_36 ml_X12_225 mv_X12_cellHere rfl e21 (by decide) rfl rfl (Nat.le_of_ble_eq_true rfl) (by decide) (s_X12_cellHere h27 a0 2 0 20) (fun r28 h29 => ?_)
      refine ao_br (br_if_ne (tgt := 44) dX12_isIsleHere_39 (by decide)) (fun c33 => ?_) (fun c33 => ?_)
      · refine ao_s (st_iconst dX12_isIsleHere_42 ic_0) ?_
        exact ao_ir dX12_isIsleHere_43 rfl (by decide)
      · refine ao_s (st_aload_n dX12_isIsleHere_44 rfl rfl) ?_
        refine ao_getR dX12_isIsleHere_45 fl_X12_26 rfl e21 (fun b30 => ?_)
        refine ao_s (st_iconst dX12_isIsleHere_48 ic_0) ?_
        refine ao_s (st_iconst dX12_isIsleHere_49 ic_1) ?_
        refine ao_chk (fun e31 => ?_)
        refine ao_iast dX12_isIsleHere_50 e31 ?_
        refine ao_letH (fun h32 => ?_)
        refine ao_s (st_iconst dX12_isIsleHere_51 ic_0) ?_
        refine ao_s (st_istore_n (lv' := [some (.ref a0), some (.int x1), some (.int 0)]) dX12_isIsleHere_52 rfl (by decide) rfl) ?_
        exact ao_w (sb_s (sb_n (sb_s sb_0))) (l_X12_isIsleHere_53 2000 h32 a0 0)
  · refine ao_s (st_aload_n dX12_isIsleHere_9 rfl rfl) ?_
    refine ao_s (st_iconst dX12_isIsleHere_10 ic_4) ?_
    refine ao_s (st_iload_n dX12_isIsleHere_11 rfl rfl) ?_
    refine ao_cVi (Kc := kX12_fails) (As := [.int 4, .int x1]) (st := []) dX12_isIsleHere_12 ml_X12_120 mv_X12_fails rfl e21 (by decide) rfl rfl (Nat.le_of_ble_eq_true rfl) (by decide) (s_X12_fails h a0 4 x1) (fun r35 h36 => ?_)
    refine ao_chk (fun c37 => ?_)
    exact ao_ir dX12_isIsleHere_15 rfl (nz c37).1
def f_X12_isOneHere (h : aH) (a0 : Nat) (x1 : Int32) (x2 : Int32) : Option (Int32 × aH) :=
(if (sh a0).1 = 19 then
((hR h a0 7).bind fun b22 =>
(aLet (3 + x1) fun x23 =>
(if (sh b22).1 = 0 then
(if aIn x23 (sh b22).2 then
(if hI h b22 x23.toNatClampNeg = 4 then
(aBind (f_X12_fails h a0 4 x2) fun r25 h26 =>
(if r25 = 0 ∨ r25 = 1 then some (r25, h26) else none))
else
(aBind (f_X12_passWord h a0) fun r28 h29 =>
((hR h29 a0 7).bind fun b30 =>
(aLet (3 + x1) fun x31 =>
(if (sh b30).1 = 0 then
(if aIn x31 (sh b30).2 then
(aBind (f_X12_cellHere h29 a0 ((142 + (4 * x1)) + (hI h29 b30 x31.toNatClampNeg)) 0 999) fun r33 h34 =>
(if r33 = 0 then
some (0, h34)
else
((hR h34 a0 7).bind fun b35 =>
(aLet (3 + x1) fun x36 =>
(if (sh b35).1 = 0 then
(if aIn x36 (sh b35).2 then
(if aIn x36 (sh b35).2 then
(aLet (pI h34 b35 x36.toNatClampNeg ((hI h34 b35 x36.toNatClampNeg) + 1)) fun h38 =>
some (1, h38))
else none)
else none)
else none)))))
else none)
else none)))))
else none)
else none)))
else none)
set_option maxHeartbeats 2000000 in
theorem s_X12_isOneHere (h : aH) (a0 : Nat) (x1 : Int32) (x2 : Int32) : SO eI 5 kX12_isOneHere [.ref a0, .int x1, .int x2] h (f_X12_isOneHere h a0 x1 x2) := by
  refine so_of (lv0 := [some (.ref a0), some (.int x1), some (.int x2)]) pn_X12 (Nat.le_of_ble_eq_true rfl) rfl ?_
  unfold f_X12_isOneHere
  refine ao_s (st_aload_n dX12_isOneHere_0 rfl rfl) ?_
  refine ao_chk (fun e21 => ?_)
  refine ao_getR dX12_isOneHere_1 fl_X12_26 rfl e21 (fun b22 => ?_)
  refine ao_s (st_iconst dX12_isOneHere_4 ic_3) ?_
  refine ao_s (st_iload_n dX12_isOneHere_5 rfl rfl) ?_
  refine ao_s (st_iadd dX12_isOneHere_6) ?_
  refine ao_letI (fun x23 => ?_)
  refine ao_chk (fun e24 => ?_)
  refine ao_iald dX12_isOneHere_7 e24 ?_
  refine ao_s (st_iconst dX12_isOneHere_8 ic_4) ?_
  refine ao_br (br_icmp_ne (tgt := 19) dX12_isOneHere_9 (by decide)) (fun c40 => ?_) (fun c40 => ?_)
  · refine ao_s (st_aload_n dX12_isOneHere_12 rfl rfl) ?_
    refine ao_s (st_iconst dX12_isOneHere_13 ic_4) ?_
    refine ao_s (st_iload_n dX12_isOneHere_14 rfl rfl) ?_
    refine ao_cVi (Kc := kX12_fails) (As := [.int 4, .int x2]) (st := []) dX12_isOneHere_15 ml_X12_120 mv_X12_fails rfl e21 (by decide) rfl rfl (Nat.le_of_ble_eq_true rfl) (by decide) (s_X12_fails h a0 4 x2) (fun r25 h26 => ?_)
    refine ao_chk (fun c27 => ?_)
    exact ao_ir dX12_isOneHere_18 rfl (nz c27).1
  · refine ao_s (st_aload_n dX12_isOneHere_19 rfl rfl) ?_
    refine ao_cVv (Kc := kX12_passWord) (As := []) (st := []) dX12_isOneHere_20 ml_X12_114 mv_X12_passWord rfl e21 (by decide) rfl rfl (Nat.le_of_ble_eq_true rfl) (by decide) (s_X12_passWord h a0) (fun r28 h29 => ?_)
    refine ao_s (st_aload_n dX12_isOneHere_23 rfl rfl) ?_
    refine ao_s (st_sipush dX12_isOneHere_24 sp_142) ?_
    refine ao_s (st_iconst dX12_isOneHere_27 ic_4) ?_
    refine ao_s (st_iload_n dX12_isOneHere_28 rfl rfl) ?_
    refine ao_s (st_imul dX12_isOneHere_29) ?_
    refine ao_s (st_iadd dX12_isOneHere_30) ?_
    refine ao_s (st_aload_n dX12_isOneHere_31 rfl rfl) ?_
    refine ao_getR dX12_isOneHere_32 fl_X12_26 rfl e21 (fun b30 => ?_)
    refine ao_s (st_iconst dX12_isOneHere_35 ic_3) ?_
    refine ao_s (st_iload_n dX12_isOneHere_36 rfl rfl) ?_
    refine ao_s (st_iadd dX12_isOneHere_37) ?_
    refine ao_letI (fun x31 => ?_)
    refine ao_chk (fun e32 => ?_)
    refine ao_iald dX12_isOneHere_38 e32 ?_
    refine ao_s (st_iadd dX12_isOneHere_39) ?_
    refine ao_s (st_iconst dX12_isOneHere_40 ic_0) ?_
    refine ao_s (st_sipush dX12_isOneHere_41 sp_999) ?_
    refine ao_cVi (Kc := kX12_cellHere) (As := [.int ((142 + (4 * x1)) + (hI h29 b30 x31.toNatClampNeg)), .int 0, .int 999]) (st := []) dX12_isOneHere_44 ml_X12_225 mv_X12_cellHere rfl e21 (by decide) rfl rfl (Nat.le_of_ble_eq_true rfl) (by decide) (s_X12_cellHere h29 a0 ((142 + (4 * x1)) + (hI h29 b30 x31.toNatClampNeg)) 0 999) (fun r33 h34 => ?_)
    refine ao_br (br_if_ne (tgt := 52) dX12_isOneHere_47 (by decide)) (fun c39 => ?_) (fun c39 => ?_)
    · refine ao_s (st_iconst dX12_isOneHere_50 ic_0) ?_
      exact ao_ir dX12_isOneHere_51 rfl (by decide)
    · refine ao_s (st_aload_n dX12_isOneHere_52 rfl rfl) ?_
      refine ao_getR dX12_isOneHere_53 fl_X12_26 rfl e21 (fun b35 => ?_)
      refine ao_s (st_iconst dX12_isOneHere_56 ic_3) ?_
      refine ao_s (st_iload_n dX12_isOneHere_57 rfl rfl) ?_
      refine ao_s (st_iadd dX12_isOneHere_58) ?_
      refine ao_letI (fun x36 => ?_)
      refine ao_s (st_dup2 dX12_isOneHere_59 rfl rfl) ?_
      refine ao_chk (fun e37 => ?_)
      refine ao_iald dX12_isOneHere_60 e37 ?_
      refine ao_s (st_iconst dX12_isOneHere_61 ic_1) ?_
      refine ao_s (st_iadd dX12_isOneHere_62) ?_
      refine ao_iast dX12_isOneHere_63 e37 ?_
      refine ao_letH (fun h38 => ?_)
      refine ao_s (st_iconst dX12_isOneHere_64 ic_1) ?_
      exact ao_ir dX12_isOneHere_65 rfl (by decide)
def f_X12_areLikesHere (h : aH) (a0 : Nat) (x1 : Int32) : Option (Int32 × aH) :=
(if (sh a0).1 = 19 then
(aBind (f_X12_passWord h a0) fun r22 h23 =>
((hR h23 a0 7).bind fun b24 =>
(if (sh b24).1 = 0 then
(if aIn 3 (sh b24).2 then
(aBind (f_X12_numberHere h23 a0 0 ((hI h23 b24 (3 : Int32).toNatClampNeg) - 1)) fun r26 h27 =>
(if r26 = 0 then
some (0, h27)
else
(aLet (4 * (hI h27 a0 10)) fun x28 =>
((hR h27 a0 7).bind fun b29 =>
(if (sh b29).1 = 0 then
(if aIn 4 (sh b29).2 then
(aBind (f_X12_numberHere h27 a0 0 ((hI h27 b29 (4 : Int32).toNatClampNeg) - 1)) fun r31 h32 =>
(if r31 = 0 then
some (0, h32)
else
(aLet (x28 + (hI h32 a0 10)) fun x33 =>
(aBind (f_X12_cellHere h32 a0 (x1 + x33) 0 20) fun r34 h35 =>
(if r34 = 0 then
some (0, h35)
else
(aBind (f_X12_cellHere h35 a0 ((x1 + 16) + x33) 0 20) fun r36 h37 =>
(if r36 = 0 then
some (0, h37)
else
some (1, h37))))))))
else none)
else none)))))
else none)
else none)))
else none)
set_option maxHeartbeats 2000000 in
theorem s_X12_areLikesHere (h : aH) (a0 : Nat) (x1 : Int32) : SO eI 5 kX12_areLikesHere [.ref a0, .int x1] h (f_X12_areLikesHere h a0 x1) := by
  refine so_of (lv0 := [some (.ref a0), some (.int x1), none]) pn_X12 (Nat.le_of_ble_eq_true rfl) rfl ?_
  unfold f_X12_areLikesHere
  refine ao_s (st_aload_n dX12_areLikesHere_0 rfl rfl) ?_
  refine ao_chk (fun e21 => ?_)
  refine ao_cVv (Kc := kX12_passWord) (As := []) (st := []) dX12_areLikesHere_1 ml_X12_114 mv_X12_passWord rfl e21 (by decide) rfl rfl (Nat.le_of_ble_eq_true rfl) (by decide) (s_X12_passWord h a0) (fun r22 h23 => ?_)
  refine ao_s (st_aload_n dX12_areLikesHere_4 rfl rfl) ?_
  refine ao_s (st_iconst dX12_areLikesHere_5 ic_0) ?_
  refine ao_s (st_aload_n dX12_areLikesHere_6 rfl rfl) ?_
  refine ao_getR dX12_areLikesHere_7 fl_X12_26 rfl e21 (fun b24 => ?_)
  refine ao_s (st_iconst dX12_areLikesHere_10 ic_3) ?_
  refine ao_chk (fun e25 => ?_)
  refine ao_iald dX12_areLikesHere_11 e25 ?_
  refine ao_s (st_iconst dX12_areLikesHere_12 ic_1) ?_
  refine ao_s (st_isub dX12_areLikesHere_13) ?_
  refine ao_cVi (Kc := kX12_numberHere) (As := [.int 0, .int ((hI h23 b24 (3 : Int32).toNatClampNeg) - 1)]) (st := []) dX12_areLikesHere_14 ml_X12_174 mv_X12_numberHere rfl e21 (by decide) rfl rfl (Nat.le_of_ble_eq_true rfl) (by decide) (s_X12_numberHere h23 a0 0 ((hI h23 b24 (3 : Int32).toNatClampNeg) - 1)) (fun r26 h27 => ?_)
  refine ao_br (br_if_ne (tgt := 22) dX12_areLikesHere_17 (by decide)) (fun c41 => ?_) (fun c41 => ?_)
  · refine ao_s (st_iconst dX12_areLikesHere_20 ic_0) ?_
    exact ao_ir dX12_areLikesHere_21 rfl (by decide)
  · refine ao_s (st_iconst dX12_areLikesHere_22 ic_4) ?_
    refine ao_s (st_aload_n dX12_areLikesHere_23 rfl rfl) ?_
    refine ao_getI dX12_areLikesHere_24 fl_X12_124 rfl e21 ?_
    refine ao_s (st_imul dX12_areLikesHere_27) ?_
    refine ao_letI (fun x28 => ?_)
    refine ao_s (st_istore_n (lv' := [some (.ref a0), some (.int x1), some (.int x28)]) dX12_areLikesHere_28 rfl (by decide) rfl) ?_
    refine ao_s (st_aload_n dX12_areLikesHere_29 rfl rfl) ?_
    refine ao_s (st_iconst dX12_areLikesHere_30 ic_0) ?_
    refine ao_s (st_aload_n dX12_areLikesHere_31 rfl rfl) ?_
    refine ao_getR dX12_areLikesHere_32 fl_X12_26 rfl e21 (fun b29 => ?_)
    refine ao_s (st_iconst dX12_areLikesHere_35 ic_4) ?_
    refine ao_chk (fun e30 => ?_)
    refine ao_iald dX12_areLikesHere_36 e30 ?_
    refine ao_s (st_iconst dX12_areLikesHere_37 ic_1) ?_
    refine ao_s (st_isub dX12_areLikesHere_38) ?_
    refine ao_cVi (Kc := kX12_numberHere) (As := [.int 0, .int ((hI h27 b29 (4 : Int32).toNatClampNeg) - 1)]) (st := []) dX12_areLikesHere_39 ml_X12_174 mv_X12_numberHere rfl e21 (by decide) rfl rfl (Nat.le_of_ble_eq_true rfl) (by decide) (s_X12_numberHere h27 a0 0 ((hI h27 b29 (4 : Int32).toNatClampNeg) - 1)) (fun r31 h32 => ?_)
    refine ao_br (br_if_ne (tgt := 47) dX12_areLikesHere_42 (by decide)) (fun c40 => ?_) (fun c40 => ?_)
    · refine ao_s (st_iconst dX12_areLikesHere_45 ic_0) ?_
      exact ao_ir dX12_areLikesHere_46 rfl (by decide)
    · refine ao_s (st_iload_n dX12_areLikesHere_47 rfl rfl) ?_
      refine ao_s (st_aload_n dX12_areLikesHere_48 rfl rfl) ?_
      refine ao_getI dX12_areLikesHere_49 fl_X12_124 rfl e21 ?_
      refine ao_s (st_iadd dX12_areLikesHere_52) ?_
      refine ao_letI (fun x33 => ?_)
      refine ao_s (st_istore_n (lv' := [some (.ref a0), some (.int x1), some (.int x33)]) dX12_areLikesHere_53 rfl (by decide) rfl) ?_
      refine ao_s (st_aload_n dX12_areLikesHere_54 rfl rfl) ?_
      refine ao_s (st_iload_n dX12_areLikesHere_55 rfl rfl) ?_
      refine ao_s (st_iload_n dX12_areLikesHere_56 rfl rfl) ?_
      refine ao_s (st_iadd dX12_areLikesHere_57) ?_
      refine ao_s (st_iconst dX12_areLikesHere_58 ic_0) ?_
      refine ao_s (st_bipush dX12_areLikesHere_59 bp_20) ?_
      refine ao_cVi (Kc := kX12_cellHere) (As := [.int (x1 + x33), .int 0, .int 20]) (st := []) dX12_areLikesHere_61 ml_X12_225 mv_X12_cellHere rfl e21 (by decide) rfl rfl (Nat.le_of_ble_eq_true rfl) (by decide) (s_X12_cellHere h32 a0 (x1 + x33) 0 20) (fun r34 h35 => ?_)
      refine ao_br (br_if_eq (tgt := 87) dX12_areLikesHere_64 (by decide)) (fun c39 => ?_) (fun c39 => ?_)
      · refine ao_s (st_iconst dX12_areLikesHere_87 ic_0) ?_
        exact ao_ir dX12_areLikesHere_88 rfl (by decide)
      · refine ao_s (st_aload_n dX12_areLikesHere_67 rfl rfl) ?_
        refine ao_s (st_iload_n dX12_areLikesHere_68 rfl rfl) ?_
        refine ao_s (st_bipush dX12_areLikesHere_69 bp_16) ?_
        refine ao_s (st_iadd dX12_areLikesHere_71) ?_
        refine ao_s (st_iload_n dX12_areLikesHere_72 rfl rfl) ?_
        refine ao_s (st_iadd dX12_areLikesHere_73) ?_
        refine ao_s (st_iconst dX12_areLikesHere_74 ic_0) ?_
        refine ao_s (st_bipush dX12_areLikesHere_75 bp_20) ?_
        refine ao_cVi (Kc := kX12_cellHere) (As := [.int ((x1 + 16) + x33), .int 0, .int 20]) (st := []) dX12_areLikesHere_77 ml_X12_225 mv_X12_cellHere rfl e21 (by decide) rfl rfl (Nat.le_of_ble_eq_true rfl) (by decide) (s_X12_cellHere h35 a0 ((x1 + 16) + x33) 0 20) (fun r36 h37 => ?_)
        refine ao_br (br_if_eq (tgt := 87) dX12_areLikesHere_80 (by decide)) (fun c38 => ?_) (fun c38 => ?_)
        · refine ao_s (st_iconst dX12_areLikesHere_87 ic_0) ?_
          exact ao_ir dX12_areLikesHere_88 rfl (by decide)
        · refine ao_s (st_iconst dX12_areLikesHere_83 ic_1) ?_
          refine ao_s (st_goto 88 dX12_areLikesHere_84 (by decide)) ?_
          exact ao_ir dX12_areLikesHere_88 rfl (by decide)
def f_X12_isLateHere (h : aH) (a0 : Nat) : Option (Int32 × aH) :=
(if (sh a0).1 = 19 then
(aBind (f_X12_passWord h a0) fun r22 h23 =>
(aBind (f_X12_numberHere h23 a0 0 60) fun r24 h25 =>
(if r24 = 0 then
some (0, h25)
else
((hR h25 a0 7).bind fun b26 =>
(aLet (150 + ((hI h25 a0 10) / 21)) fun x27 =>
(if (sh b26).1 = 0 then
(if aIn x27 (sh b26).2 then
(if aIn x27 (sh b26).2 then
(aLet (pI h25 b26 x27.toNatClampNeg ((hI h25 b26 x27.toNatClampNeg) ||| (1 <<< (((hI h25 a0 10) - (hI h25 a0 10) / 21 * 21) &&& 31)))) fun h29 =>
some (1, h29))
else none)
else none)
else none))))))
else none)
set_option maxHeartbeats 2000000 in
theorem s_X12_isLateHere (h : aH) (a0 : Nat) : SO eI 4 kX12_isLateHere [.ref a0] h (f_X12_isLateHere h a0) := by
  refine so_of (lv0 := [some (.ref a0)]) pn_X12 (Nat.le_of_ble_eq_true rfl) rfl ?_
  unfold f_X12_isLateHere
  refine ao_s (st_aload_n dX12_isLateHere_0 rfl rfl) ?_
  refine ao_chk (fun e21 => ?_)
  refine ao_cVv (Kc := kX12_passWord) (As := []) (st := []) dX12_isLateHere_1 ml_X12_114 mv_X12_passWord rfl e21 (by decide) rfl rfl (Nat.le_of_ble_eq_true rfl) (by decide) (s_X12_passWord h a0) (fun r22 h23 => ?_)
  refine ao_s (st_aload_n dX12_isLateHere_4 rfl rfl) ?_
  refine ao_s (st_iconst dX12_isLateHere_5 ic_0) ?_
  refine ao_s (st_bipush dX12_isLateHere_6 bp_60) ?_
  refine ao_cVi (Kc := kX12_numberHere) (As := [.int 0, .int 60]) (st := []) dX12_isLateHere_8 ml_X12_174 mv_X12_numberHere rfl e21 (by decide) rfl rfl (Nat.le_of_ble_eq_true rfl) (by decide) (s_X12_numberHere h23 a0 0 60) (fun r24 h25 => ?_)
  refine ao_br (br_if_ne (tgt := 16) dX12_isLateHere_11 (by decide)) (fun c30 => ?_) (fun c30 => ?_)
  · refine ao_s (st_iconst dX12_isLateHere_14 ic_0) ?_
    exact ao_ir dX12_isLateHere_15 rfl (by decide)
  · refine ao_s (st_aload_n dX12_isLateHere_16 rfl rfl) ?_
    refine ao_getR dX12_isLateHere_17 fl_X12_26 rfl e21 (fun b26 => ?_)
    refine ao_s (st_sipush dX12_isLateHere_20 sp_150) ?_
    refine ao_s (st_aload_n dX12_isLateHere_23 rfl rfl) ?_
    refine ao_getI dX12_isLateHere_24 fl_X12_124 rfl e21 ?_
    refine ao_s (st_bipush dX12_isLateHere_27 bp_21) ?_
    refine ao_s (st_idiv dX12_isLateHere_29 (by decide)) ?_
    refine ao_s (st_iadd dX12_isLateHere_30) ?_
    refine ao_letI (fun x27 => ?_)
    refine ao_s (st_dup2 dX12_isLateHere_31 rfl rfl) ?_
    refine ao_chk (fun e28 => ?_)
    refine ao_iald dX12_isLateHere_32 e28 ?_
    refine ao_s (st_iconst dX12_isLateHere_33 ic_1) ?_
    refine ao_s (st_aload_n dX12_isLateHere_34 rfl rfl) ?_
    refine ao_getI dX12_isLateHere_35 fl_X12_124 rfl e21 ?_
    refine ao_s (st_bipush dX12_isLateHere_38 bp_21) ?_
    refine ao_s (st_irem dX12_isLateHere_40 (by decide)) ?_
    refine ao_s (st_ishl dX12_isLateHere_41) ?_
    refine ao_s (st_ior dX12_isLateHere_42) ?_
    refine ao_iast dX12_isLateHere_43 e28 ?_
    refine ao_letH (fun h29 => ?_)
    refine ao_s (st_iconst dX12_isLateHere_44 ic_1) ?_
    exact ao_ir dX12_isLateHere_45 rfl (by decide)
def b_X12_isleLineHere_99 (h : aH) (s0 : Int32) (s1 : Nat) : Option (Int32 × aH) :=
(if (sh s1).1 = 19 then
(aBind (f_X12_areLikesHere h s1 s0) fun r22 h23 =>
(if r22 = 0 ∨ r22 = 1 then some (r22, h23) else none))
else none)
set_option maxHeartbeats 2000000 in
theorem t_X12_isleLineHere_99 (h : aH) (s0 : Int32) (s1 : Nat) : AO eI 6 kX12_isleLineHere 99 [none, none] [.int s0, .ref s1] h (b_X12_isleLineHere_99 h s0 s1) := by
  unfold b_X12_isleLineHere_99
  refine ao_chk (fun e21 => ?_)
  refine ao_cVi (Kc := kX12_areLikesHere) (As := [.int s0]) (st := []) dX12_isleLineHere_99 ml_X12_248 mv_X12_areLikesHere rfl e21 (by decide) rfl rfl (Nat.le_of_ble_eq_true rfl) (by decide) (s_X12_areLikesHere h s1 s0) (fun r22 h23 => ?_)
  refine ao_chk (fun c24 => ?_)
  exact ao_ir dX12_isleLineHere_102 rfl (nz c24).1
def f_X12_isleLineHere (h : aH) (a0 : Nat) (x1 : Int32) : Option (Int32 × aH) :=
(if (sh a0).1 = 19 then
(aBind (f_X12_isWord h a0 1769172069) fun r22 h23 =>
(if r22 = 0 then
((hR h23 a0 7).bind fun b24 =>
(if (sh b24).1 = 0 then
(if aIn 0 (sh b24).2 then
(if hI h23 b24 (0 : Int32).toNatClampNeg = 0 then
(aBind (f_X12_fails h23 a0 4 x1) fun r26 h27 =>
(if r26 = 0 ∨ r26 = 1 then some (r26, h27) else none))
else
(aBind (f_X12_isWord h23 a0 1700885364) fun r29 h30 =>
(if r29 = 0 then
(aBind (f_X12_isWord h30 a0 2003137396) fun r31 h32 =>
(if r31 = 0 then
(aBind (f_X12_isWord h32 a0 1818326117) fun r33 h34 =>
(if r33 = 0 then
(aBind (f_X12_isWord h34 a0 495622385011) fun r35 h36 =>
(if r35 = 0 then
b_X12_isleLineHere_99 h36 78 a0
else
b_X12_isleLineHere_99 h36 110 a0))
else
(aBind (f_X12_isLateHere h34 a0) fun r38 h39 =>
(if r38 = 0 ∨ r38 = 1 then some (r38, h39) else none))))
else
(aBind (f_X12_isOneHere h32 a0 1 x1) fun r42 h43 =>
(if r42 = 0 ∨ r42 = 1 then some (r42, h43) else none))))
else
(aBind (f_X12_isOneHere h30 a0 0 x1) fun r46 h47 =>
(if r46 = 0 ∨ r46 = 1 then some (r46, h47) else none)))))
else none)
else none))
else
(aBind (f_X12_isIsleHere h23 a0 x1) fun r51 h52 =>
(if r51 = 0 ∨ r51 = 1 then some (r51, h52) else none))))
else none)
set_option maxHeartbeats 2000000 in
theorem s_X12_isleLineHere (h : aH) (a0 : Nat) (x1 : Int32) : SO eI 6 kX12_isleLineHere [.ref a0, .int x1] h (f_X12_isleLineHere h a0 x1) := by
  refine so_of (lv0 := [some (.ref a0), some (.int x1)]) pn_X12 (Nat.le_of_ble_eq_true rfl) rfl ?_
  unfold f_X12_isleLineHere
  refine ao_s (st_aload_n dX12_isleLineHere_0 rfl rfl) ?_
  refine ao_s (st_ldc2 dX12_isleLineHere_1 cl_X12_229) ?_
  refine ao_chk (fun e21 => ?_)
  refine ao_cVi (Kc := kX12_isWord) (As := [.long 1769172069]) (st := []) dX12_isleLineHere_4 ml_X12_110 mv_X12_isWord rfl e21 (by decide) rfl rfl (Nat.le_of_ble_eq_true rfl) (by decide) (s_X12_isWord h a0 1769172069) (fun r22 h23 => ?_)
  refine ao_br (br_if_eq (tgt := 16) dX12_isleLineHere_7 (by decide)) (fun c54 => ?_) (fun c54 => ?_)
  · refine ao_s (st_aload_n dX12_isleLineHere_16 rfl rfl) ?_
    refine ao_getR dX12_isleLineHere_17 fl_X12_26 rfl e21 (fun b24 => ?_)
    refine ao_s (st_iconst dX12_isleLineHere_20 ic_0) ?_
    refine ao_chk (fun e25 => ?_)
    refine ao_iald dX12_isleLineHere_21 e25 ?_
    refine ao_br (br_if_ne (tgt := 32) dX12_isleLineHere_22 (by decide)) (fun c50 => ?_) (fun c50 => ?_)
    · refine ao_s (st_aload_n dX12_isleLineHere_25 rfl rfl) ?_
      refine ao_s (st_iconst dX12_isleLineHere_26 ic_4) ?_
      refine ao_s (st_iload_n dX12_isleLineHere_27 rfl rfl) ?_
      refine ao_cVi (Kc := kX12_fails) (As := [.int 4, .int x1]) (st := []) dX12_isleLineHere_28 ml_X12_120 mv_X12_fails rfl e21 (by decide) rfl rfl (Nat.le_of_ble_eq_true rfl) (by decide) (s_X12_fails h23 a0 4 x1) (fun r26 h27 => ?_)
      refine ao_chk (fun c28 => ?_)
      exact ao_ir dX12_isleLineHere_31 rfl (nz c28).1
    · refine ao_s (st_aload_n dX12_isleLineHere_32 rfl rfl) ?_
      refine ao_s (st_ldc2 dX12_isleLineHere_33 cl_X12_234) ?_
      refine ao_cVi (Kc := kX12_isWord) (As := [.long 1700885364]) (st := []) dX12_isleLineHere_36 ml_X12_110 mv_X12_isWord rfl e21 (by decide) rfl rfl (Nat.le_of_ble_eq_true rfl) (by decide) (s_X12_isWord h23 a0 1700885364) (fun r29 h30 => ?_)
      refine ao_br (br_if_eq (tgt := 49) dX12_isleLineHere_39 (by decide)) (fun c49 => ?_) (fun c49 => ?_)
      · refine ao_s (st_aload_n dX12_isleLineHere_49 rfl rfl) ?_
        refine ao_s (st_ldc2 dX12_isleLineHere_50 cl_X12_239) ?_
        refine ao_cVi (Kc := kX12_isWord) (As := [.long 2003137396]) (st := []) dX12_isleLineHere_53 ml_X12_110 mv_X12_isWord rfl e21 (by decide) rfl rfl (Nat.le_of_ble_eq_true rfl) (by decide) (s_X12_isWord h30 a0 2003137396) (fun r31 h32 => ?_)
        refine ao_br (br_if_eq (tgt := 66) dX12_isleLineHere_56 (by decide)) (fun c45 => ?_) (fun c45 => ?_)
        · refine ao_s (st_aload_n dX12_isleLineHere_66 rfl rfl) ?_
          refine ao_s (st_ldc2 dX12_isleLineHere_67 cl_X12_241) ?_
          refine ao_cVi (Kc := kX12_isWord) (As := [.long 1818326117]) (st := []) dX12_isleLineHere_70 ml_X12_110 mv_X12_isWord rfl e21 (by decide) rfl rfl (Nat.le_of_ble_eq_true rfl) (by decide) (s_X12_isWord h32 a0 1818326117) (fun r33 h34 => ?_)
          refine ao_br (br_if_eq (tgt := 81) dX12_isleLineHere_73 (by decide)) (fun c41 => ?_) (fun c41 => ?_)
          · refine ao_s (st_aload_n dX12_isleLineHere_81 rfl rfl) ?_
            refine ao_s (st_aload_n dX12_isleLineHere_82 rfl rfl) ?_
            refine ao_s (st_ldc2 dX12_isleLineHere_83 cl_X12_246) ?_
            refine ao_cVi (Kc := kX12_isWord) (As := [.long 495622385011]) (st := [.ref a0]) dX12_isleLineHere_86 ml_X12_110 mv_X12_isWord rfl e21 (by decide) rfl rfl (Nat.le_of_ble_eq_true rfl) (by decide) (s_X12_isWord h34 a0 495622385011) (fun r35 h36 => ?_)
            refine ao_br (br_if_eq (tgt := 97) dX12_isleLineHere_89 (by decide)) (fun c37 => ?_) (fun c37 => ?_)
            · refine ao_s (st_bipush dX12_isleLineHere_97 bp_78) ?_
              exact ao_w (sb_n (sb_n sb_0)) (t_X12_isleLineHere_99 h36 78 a0)
            · refine ao_s (st_bipush dX12_isleLineHere_92 bp_110) ?_
              refine ao_s (st_goto 99 dX12_isleLineHere_94 (by decide)) ?_
              exact ao_w (sb_n (sb_n sb_0)) (t_X12_isleLineHere_99 h36 110 a0)
          · refine ao_s (st_aload_n dX12_isleLineHere_76 rfl rfl) ?_
            refine ao_cVi (Kc := kX12_isLateHere) (As := []) (st := []) dX12_isleLineHere_77 ml_X12_243 mv_X12_isLateHere rfl e21 (by decide) rfl rfl (Nat.le_of_ble_eq_true rfl) (by decide) (s_X12_isLateHere h34 a0) (fun r38 h39 => ?_)
            refine ao_chk (fun c40 => ?_)
            exact ao_ir dX12_isleLineHere_80 rfl (nz c40).1
        · refine ao_s (st_aload_n dX12_isleLineHere_59 rfl rfl) ?_
          refine ao_s (st_iconst dX12_isleLineHere_60 ic_1) ?_
          refine ao_s (st_iload_n dX12_isleLineHere_61 rfl rfl) ?_
          refine ao_cVi (Kc := kX12_isOneHere) (As := [.int 1, .int x1]) (st := []) dX12_isleLineHere_62 ml_X12_236 mv_X12_isOneHere rfl e21 (by decide) rfl rfl (Nat.le_of_ble_eq_true rfl) (by decide) (s_X12_isOneHere h32 a0 1 x1) (fun r42 h43 => ?_)
          refine ao_chk (fun c44 => ?_)
          exact ao_ir dX12_isleLineHere_65 rfl (nz c44).1
      · refine ao_s (st_aload_n dX12_isleLineHere_42 rfl rfl) ?_
        refine ao_s (st_iconst dX12_isleLineHere_43 ic_0) ?_
        refine ao_s (st_iload_n dX12_isleLineHere_44 rfl rfl) ?_
        refine ao_cVi (Kc := kX12_isOneHere) (As := [.int 0, .int x1]) (st := []) dX12_isleLineHere_45 ml_X12_236 mv_X12_isOneHere rfl e21 (by decide) rfl rfl (Nat.le_of_ble_eq_true rfl) (by decide) (s_X12_isOneHere h30 a0 0 x1) (fun r46 h47 => ?_)
        refine ao_chk (fun c48 => ?_)
        exact ao_ir dX12_isleLineHere_48 rfl (nz c48).1
  · refine ao_s (st_aload_n dX12_isleLineHere_10 rfl rfl) ?_
    refine ao_s (st_iload_n dX12_isleLineHere_11 rfl rfl) ?_
    refine ao_cVi (Kc := kX12_isIsleHere) (As := [.int x1]) (st := []) dX12_isleLineHere_12 ml_X12_231 mv_X12_isIsleHere rfl e21 (by decide) rfl rfl (Nat.le_of_ble_eq_true rfl) (by decide) (s_X12_isIsleHere h23 a0 x1) (fun r51 h52 => ?_)
    refine ao_chk (fun c53 => ?_)
    exact ao_ir dX12_isleLineHere_15 rfl (nz c53).1
def f_X12_isIsleWord (h : aH) (a0 : Nat) : Option (Int32 × aH) :=
(if (sh a0).1 = 19 then
(aBind (f_X12_isWord h a0 1769172069) fun r22 h23 =>
(if r22 = 0 then
(aBind (f_X12_isWord h23 a0 1700885364) fun r24 h25 =>
(if r24 = 0 then
(aBind (f_X12_isWord h25 a0 2003137396) fun r26 h27 =>
(if r26 = 0 then
(aBind (f_X12_isWord h27 a0 495622385011) fun r28 h29 =>
(if r28 = 0 then
(aBind (f_X12_isWord h29 a0 500136504441) fun r30 h31 =>
(if r30 = 0 then
(aBind (f_X12_isWord h31 a0 1818326117) fun r32 h33 =>
(if r32 = 0 then
some (0, h33)
else
some (1, h33)))
else
some (1, h31)))
else
some (1, h29)))
else
some (1, h27)))
else
some (1, h25)))
else
some (1, h23)))
else none)
set_option maxHeartbeats 2000000 in
theorem s_X12_isIsleWord (h : aH) (a0 : Nat) : SO eI 4 kX12_isIsleWord [.ref a0] h (f_X12_isIsleWord h a0) := by
  refine so_of (lv0 := [some (.ref a0)]) pn_X12 (Nat.le_of_ble_eq_true rfl) rfl ?_
  unfold f_X12_isIsleWord
  refine ao_s (st_aload_n dX12_isIsleWord_0 rfl rfl) ?_
  refine ao_s (st_ldc2 dX12_isIsleWord_1 cl_X12_229) ?_
  refine ao_chk (fun e21 => ?_)
  refine ao_cVi (Kc := kX12_isWord) (As := [.long 1769172069]) (st := []) dX12_isIsleWord_4 ml_X12_110 mv_X12_isWord rfl e21 (by decide) rfl rfl (Nat.le_of_ble_eq_true rfl) (by decide) (s_X12_isWord h a0 1769172069) (fun r22 h23 => ?_)
  refine ao_br (br_if_ne (tgt := 60) dX12_isIsleWord_7 (by decide)) (fun c39 => ?_) (fun c39 => ?_)
  · refine ao_s (st_aload_n dX12_isIsleWord_10 rfl rfl) ?_
    refine ao_s (st_ldc2 dX12_isIsleWord_11 cl_X12_234) ?_
    refine ao_cVi (Kc := kX12_isWord) (As := [.long 1700885364]) (st := []) dX12_isIsleWord_14 ml_X12_110 mv_X12_isWord rfl e21 (by decide) rfl rfl (Nat.le_of_ble_eq_true rfl) (by decide) (s_X12_isWord h23 a0 1700885364) (fun r24 h25 => ?_)
    refine ao_br (br_if_ne (tgt := 60) dX12_isIsleWord_17 (by decide)) (fun c38 => ?_) (fun c38 => ?_)
    · refine ao_s (st_aload_n dX12_isIsleWord_20 rfl rfl) ?_
      refine ao_s (st_ldc2 dX12_isIsleWord_21 cl_X12_239) ?_
      refine ao_cVi (Kc := kX12_isWord) (As := [.long 2003137396]) (st := []) dX12_isIsleWord_24 ml_X12_110 mv_X12_isWord rfl e21 (by decide) rfl rfl (Nat.le_of_ble_eq_true rfl) (by decide) (s_X12_isWord h25 a0 2003137396) (fun r26 h27 => ?_)
      refine ao_br (br_if_ne (tgt := 60) dX12_isIsleWord_27 (by decide)) (fun c37 => ?_) (fun c37 => ?_)
      · refine ao_s (st_aload_n dX12_isIsleWord_30 rfl rfl) ?_
        refine ao_s (st_ldc2 dX12_isIsleWord_31 cl_X12_246) ?_
        refine ao_cVi (Kc := kX12_isWord) (As := [.long 495622385011]) (st := []) dX12_isIsleWord_34 ml_X12_110 mv_X12_isWord rfl e21 (by decide) rfl rfl (Nat.le_of_ble_eq_true rfl) (by decide) (s_X12_isWord h27 a0 495622385011) (fun r28 h29 => ?_)
        refine ao_br (br_if_ne (tgt := 60) dX12_isIsleWord_37 (by decide)) (fun c36 => ?_) (fun c36 => ?_)
        · refine ao_s (st_aload_n dX12_isIsleWord_40 rfl rfl) ?_
          refine ao_s (st_ldc2 dX12_isIsleWord_41 cl_X12_251) ?_
          refine ao_cVi (Kc := kX12_isWord) (As := [.long 500136504441]) (st := []) dX12_isIsleWord_44 ml_X12_110 mv_X12_isWord rfl e21 (by decide) rfl rfl (Nat.le_of_ble_eq_true rfl) (by decide) (s_X12_isWord h29 a0 500136504441) (fun r30 h31 => ?_)
          refine ao_br (br_if_ne (tgt := 60) dX12_isIsleWord_47 (by decide)) (fun c35 => ?_) (fun c35 => ?_)
          · refine ao_s (st_aload_n dX12_isIsleWord_50 rfl rfl) ?_
            refine ao_s (st_ldc2 dX12_isIsleWord_51 cl_X12_241) ?_
            refine ao_cVi (Kc := kX12_isWord) (As := [.long 1818326117]) (st := []) dX12_isIsleWord_54 ml_X12_110 mv_X12_isWord rfl e21 (by decide) rfl rfl (Nat.le_of_ble_eq_true rfl) (by decide) (s_X12_isWord h31 a0 1818326117) (fun r32 h33 => ?_)
            refine ao_br (br_if_eq (tgt := 64) dX12_isIsleWord_57 (by decide)) (fun c34 => ?_) (fun c34 => ?_)
            · refine ao_s (st_iconst dX12_isIsleWord_64 ic_0) ?_
              exact ao_ir dX12_isIsleWord_65 rfl (by decide)
            · refine ao_s (st_iconst dX12_isIsleWord_60 ic_1) ?_
              refine ao_s (st_goto 65 dX12_isIsleWord_61 (by decide)) ?_
              exact ao_ir dX12_isIsleWord_65 rfl (by decide)
          · refine ao_s (st_iconst dX12_isIsleWord_60 ic_1) ?_
            refine ao_s (st_goto 65 dX12_isIsleWord_61 (by decide)) ?_
            exact ao_ir dX12_isIsleWord_65 rfl (by decide)
        · refine ao_s (st_iconst dX12_isIsleWord_60 ic_1) ?_
          refine ao_s (st_goto 65 dX12_isIsleWord_61 (by decide)) ?_
          exact ao_ir dX12_isIsleWord_65 rfl (by decide)
      · refine ao_s (st_iconst dX12_isIsleWord_60 ic_1) ?_
        refine ao_s (st_goto 65 dX12_isIsleWord_61 (by decide)) ?_
        exact ao_ir dX12_isIsleWord_65 rfl (by decide)
    · refine ao_s (st_iconst dX12_isIsleWord_60 ic_1) ?_
      refine ao_s (st_goto 65 dX12_isIsleWord_61 (by decide)) ?_
      exact ao_ir dX12_isIsleWord_65 rfl (by decide)
  · refine ao_s (st_iconst dX12_isIsleWord_60 ic_1) ?_
    refine ao_s (st_goto 65 dX12_isIsleWord_61 (by decide)) ?_
    exact ao_ir dX12_isIsleWord_65 rfl (by decide)
