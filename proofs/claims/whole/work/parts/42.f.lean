def f_X12_lateYears (h : aH) (a0 : Nat) : Option (Int32 × aH) :=
(if (sh a0).1 = 19 then
((hR h a0 20).bind fun b22 =>
(if (sh b22).1 = 0 then
(if aIn 75 (sh b22).2 then
(aBind (f_X12_bits h (hI h b22 (75 : Int32).toNatClampNeg)) fun r24 h25 =>
((hR h25 a0 20).bind fun b26 =>
(if (sh b26).1 = 0 then
(if aIn 76 (sh b26).2 then
(aBind (f_X12_bits h25 (hI h25 b26 (76 : Int32).toNatClampNeg)) fun r28 h29 =>
((hR h29 a0 20).bind fun b30 =>
(if (sh b30).1 = 0 then
(if aIn 77 (sh b30).2 then
(aBind (f_X12_bits h29 (hI h29 b30 (77 : Int32).toNatClampNeg)) fun r32 h33 =>
some ((r24 + r28) + r32, h33))
else none)
else none)))
else none)
else none)))
else none)
else none))
else none)
set_option maxHeartbeats 2000000 in
theorem s_X12_lateYears (h : aH) (a0 : Nat) : SO eI 3 kX12_lateYears [.ref a0] h (f_X12_lateYears h a0) := by
  refine so_of (lv0 := [some (.ref a0)]) pn_X12 (Nat.le_of_ble_eq_true rfl) rfl ?_
  unfold f_X12_lateYears
  refine ao_s (st_aload_n dX12_lateYears_0 rfl rfl) ?_
  refine ao_chk (fun e21 => ?_)
  refine ao_getR dX12_lateYears_1 fl_X12_39 rfl e21 (fun b22 => ?_)
  refine ao_s (st_bipush dX12_lateYears_4 bp_75) ?_
  refine ao_chk (fun e23 => ?_)
  refine ao_iald dX12_lateYears_6 e23 ?_
  refine ao_cSi (Kc := kX12_bits) (As := [.int (hI h b22 (75 : Int32).toNatClampNeg)]) (st := []) dX12_lateYears_7 ml_X12_383 ms_X12_bits rfl rfl (Nat.le_of_ble_eq_true rfl) (by decide) (s_X12_bits h (hI h b22 (75 : Int32).toNatClampNeg)) (fun r24 h25 => ?_)
  refine ao_s (st_aload_n dX12_lateYears_10 rfl rfl) ?_
  refine ao_getR dX12_lateYears_11 fl_X12_39 rfl e21 (fun b26 => ?_)
  refine ao_s (st_bipush dX12_lateYears_14 bp_76) ?_
  refine ao_chk (fun e27 => ?_)
  refine ao_iald dX12_lateYears_16 e27 ?_
  refine ao_cSi (Kc := kX12_bits) (As := [.int (hI h25 b26 (76 : Int32).toNatClampNeg)]) (st := [.int r24]) dX12_lateYears_17 ml_X12_383 ms_X12_bits rfl rfl (Nat.le_of_ble_eq_true rfl) (by decide) (s_X12_bits h25 (hI h25 b26 (76 : Int32).toNatClampNeg)) (fun r28 h29 => ?_)
  refine ao_s (st_iadd dX12_lateYears_20) ?_
  refine ao_s (st_aload_n dX12_lateYears_21 rfl rfl) ?_
  refine ao_getR dX12_lateYears_22 fl_X12_39 rfl e21 (fun b30 => ?_)
  refine ao_s (st_bipush dX12_lateYears_25 bp_77) ?_
  refine ao_chk (fun e31 => ?_)
  refine ao_iald dX12_lateYears_27 e31 ?_
  refine ao_cSi (Kc := kX12_bits) (As := [.int (hI h29 b30 (77 : Int32).toNatClampNeg)]) (st := [.int (r24 + r28)]) dX12_lateYears_28 ml_X12_383 ms_X12_bits rfl rfl (Nat.le_of_ble_eq_true rfl) (by decide) (s_X12_bits h29 (hI h29 b30 (77 : Int32).toNatClampNeg)) (fun r32 h33 => ?_)
  refine ao_s (st_iadd dX12_lateYears_31) ?_
  exact ao_ir dX12_lateYears_32 rfl rfl
def f_X12_hold (h : aH) (a0 : Nat) : Option (Int32 × aH) :=
(if (sh a0).1 = 19 then
(aBind (f_X12_isIsle h a0) fun r22 h23 =>
(if r22 = 0 then
some ((-1), h23)
else
((hR h23 a0 20).bind fun b24 =>
(if (sh b24).1 = 0 then
(if aIn 10 (sh b24).2 then
(if 60 < hI h23 b24 (10 : Int32).toNatClampNeg then
some ((-1), h23)
else
((hR h23 a0 20).bind fun b26 =>
(if (sh b26).1 = 0 then
(if aIn 10 (sh b26).2 then
(aBind (f_X12_isLate h23 a0 (hI h23 b26 (10 : Int32).toNatClampNeg)) fun r28 h29 =>
(if r28 = 0 then
(aBind (f_X12_keepsAct h29 a0) fun r30 h31 =>
((hR h31 a0 20).bind fun b32 =>
((hR h31 a0 20).bind fun b33 =>
(if (sh b33).1 = 0 then
(if aIn 10 (sh b33).2 then
(aLet (75 + ((hI h31 b33 (10 : Int32).toNatClampNeg) / 21)) fun x35 =>
(if (sh b32).1 = 0 then
(if aIn x35 (sh b32).2 then
((hR h31 a0 20).bind fun b37 =>
(if (sh b37).1 = 0 then
(if aIn 10 (sh b37).2 then
(if aIn x35 (sh b32).2 then
(aLet (pI h31 b32 x35.toNatClampNeg ((hI h31 b32 x35.toNatClampNeg) ||| (1 <<< (((hI h31 b37 (10 : Int32).toNatClampNeg) - (hI h31 b37 (10 : Int32).toNatClampNeg) / 21 * 21) &&& 31)))) fun h39 =>
(aBind (f_X12_lateYears h39 a0) fun r40 h41 =>
some (r40, h41)))
else none)
else none)
else none))
else none)
else none))
else none)
else none))))
else
some ((-1), h29)))
else none)
else none)))
else none)
else none))))
else none)
set_option maxHeartbeats 2000000 in
theorem s_X12_hold (h : aH) (a0 : Nat) : SO eI 4 kX12_hold [.ref a0] h (f_X12_hold h a0) := by
  refine so_of (lv0 := [some (.ref a0)]) pn_X12 (Nat.le_of_ble_eq_true rfl) rfl ?_
  unfold f_X12_hold
  refine ao_s (st_aload_n dX12_hold_0 rfl rfl) ?_
  refine ao_chk (fun e21 => ?_)
  refine ao_cVi (Kc := kX12_isIsle) (As := []) (st := []) dX12_hold_1 ml_X12_368 mv_X12_isIsle rfl e21 (by decide) rfl rfl (Nat.le_of_ble_eq_true rfl) (by decide) (s_X12_isIsle h a0) (fun r22 h23 => ?_)
  refine ao_br (br_if_eq (tgt := 33) dX12_hold_4 (by decide)) (fun c44 => ?_) (fun c44 => ?_)
  · refine ao_s (st_iconst dX12_hold_33 ic_m1) ?_
    exact ao_ir dX12_hold_34 rfl rfl
  · refine ao_s (st_aload_n dX12_hold_7 rfl rfl) ?_
    refine ao_getR dX12_hold_8 fl_X12_39 rfl e21 (fun b24 => ?_)
    refine ao_s (st_bipush dX12_hold_11 bp_10) ?_
    refine ao_chk (fun e25 => ?_)
    refine ao_iald dX12_hold_13 e25 ?_
    refine ao_s (st_bipush dX12_hold_14 bp_60) ?_
    refine ao_br (br_icmp_gt (tgt := 33) dX12_hold_16 (by decide)) (fun c43 => ?_) (fun c43 => ?_)
    · refine ao_s (st_iconst dX12_hold_33 ic_m1) ?_
      exact ao_ir dX12_hold_34 rfl rfl
    · refine ao_s (st_aload_n dX12_hold_19 rfl rfl) ?_
      refine ao_s (st_aload_n dX12_hold_20 rfl rfl) ?_
      refine ao_getR dX12_hold_21 fl_X12_39 rfl e21 (fun b26 => ?_)
      refine ao_s (st_bipush dX12_hold_24 bp_10) ?_
      refine ao_chk (fun e27 => ?_)
      refine ao_iald dX12_hold_26 e27 ?_
      refine ao_cVi (Kc := kX12_isLate) (As := [.int (hI h23 b26 (10 : Int32).toNatClampNeg)]) (st := []) dX12_hold_27 ml_X12_315 mv_X12_isLate rfl e21 (by decide) rfl rfl (Nat.le_of_ble_eq_true rfl) (by decide) (s_X12_isLate h23 a0 (hI h23 b26 (10 : Int32).toNatClampNeg)) (fun r28 h29 => ?_)
      refine ao_br (br_if_eq (tgt := 35) dX12_hold_30 (by decide)) (fun c42 => ?_) (fun c42 => ?_)
      · refine ao_s (st_aload_n dX12_hold_35 rfl rfl) ?_
        refine ao_cVv (Kc := kX12_keepsAct) (As := []) (st := []) dX12_hold_36 ml_X12_371 mv_X12_keepsAct rfl e21 (by decide) rfl rfl (Nat.le_of_ble_eq_true rfl) (by decide) (s_X12_keepsAct h29 a0) (fun r30 h31 => ?_)
        refine ao_s (st_aload_n dX12_hold_39 rfl rfl) ?_
        refine ao_getR dX12_hold_40 fl_X12_39 rfl e21 (fun b32 => ?_)
        refine ao_s (st_bipush dX12_hold_43 bp_75) ?_
        refine ao_s (st_aload_n dX12_hold_45 rfl rfl) ?_
        refine ao_getR dX12_hold_46 fl_X12_39 rfl e21 (fun b33 => ?_)
        refine ao_s (st_bipush dX12_hold_49 bp_10) ?_
        refine ao_chk (fun e34 => ?_)
        refine ao_iald dX12_hold_51 e34 ?_
        refine ao_s (st_bipush dX12_hold_52 bp_21) ?_
        refine ao_s (st_idiv dX12_hold_54 (by decide)) ?_
        refine ao_s (st_iadd dX12_hold_55) ?_
        refine ao_letI (fun x35 => ?_)
        refine ao_s (st_dup2 dX12_hold_56 rfl rfl) ?_
        refine ao_chk (fun e36 => ?_)
        refine ao_iald dX12_hold_57 e36 ?_
        refine ao_s (st_iconst dX12_hold_58 ic_1) ?_
        refine ao_s (st_aload_n dX12_hold_59 rfl rfl) ?_
        refine ao_getR dX12_hold_60 fl_X12_39 rfl e21 (fun b37 => ?_)
        refine ao_s (st_bipush dX12_hold_63 bp_10) ?_
        refine ao_chk (fun e38 => ?_)
        refine ao_iald dX12_hold_65 e38 ?_
        refine ao_s (st_bipush dX12_hold_66 bp_21) ?_
        refine ao_s (st_irem dX12_hold_68 (by decide)) ?_
        refine ao_s (st_ishl dX12_hold_69) ?_
        refine ao_s (st_ior dX12_hold_70) ?_
        refine ao_iast dX12_hold_71 e36 ?_
        refine ao_letH (fun h39 => ?_)
        refine ao_s (st_aload_n dX12_hold_72 rfl rfl) ?_
        refine ao_cVi (Kc := kX12_lateYears) (As := []) (st := []) dX12_hold_73 ml_X12_386 mv_X12_lateYears rfl e21 (by decide) rfl rfl (Nat.le_of_ble_eq_true rfl) (by decide) (s_X12_lateYears h39 a0) (fun r40 h41 => ?_)
        exact ao_ir dX12_hold_76 rfl rfl
      · refine ao_s (st_iconst dX12_hold_33 ic_m1) ?_
        exact ao_ir dX12_hold_34 rfl rfl
def b_X12_keeps_2 (k2 : aH → Nat → Int32 → Option (Unit × aH)) (h : aH) (a0 : Nat) (x1 : Int32) : Option (Unit × aH) :=
(if 68 ≤ x1 then
some ((), h)
else
(if (sh a0).1 = 19 then
((hR h a0 30).bind fun b22 =>
((hR h a0 20).bind fun b23 =>
(aLet (10 + x1) fun x24 =>
(if (sh b23).1 = 0 then
(if aIn x24 (sh b23).2 then
(if (sh b22).1 = 0 then
(if aIn x1 (sh b22).2 then
(aLet (pI h b22 x1.toNatClampNeg (hI h b23 x24.toNatClampNeg)) fun h27 =>
k2 h27 a0 (x1 + 1))
else none)
else none)
else none)
else none))))
else none))
set_option maxHeartbeats 2000000 in
theorem t_X12_keeps_2 {k2 : aH → Nat → Int32 → Option (Unit × aH)} (hk2 : ∀ (h : aH) (a0 : Nat) (x1 : Int32), AO eV 2 kX12_keeps 2 [some (.ref a0), some (.int x1)] [] h (k2 h a0 x1)) (h : aH) (a0 : Nat) (x1 : Int32) : AO eV 2 kX12_keeps 2 [some (.ref a0), some (.int x1)] [] h (b_X12_keeps_2 k2 h a0 x1) := by
  unfold b_X12_keeps_2
  refine ao_s (st_iload_n dX12_keeps_2 rfl rfl) ?_
  refine ao_s (st_bipush dX12_keeps_3 bp_68) ?_
  refine ao_br (br_icmp_ge (tgt := 29) dX12_keeps_5 (by decide)) (fun c28 => ?_) (fun c28 => ?_)
  · exact ao_vr dX12_keeps_29 rfl
  · refine ao_s (st_aload_n dX12_keeps_8 rfl rfl) ?_
    refine ao_chk (fun e21 => ?_)
    refine ao_getR dX12_keeps_9 fl_X12_62 rfl e21 (fun b22 => ?_)
    refine ao_s (st_iload_n dX12_keeps_12 rfl rfl) ?_
    refine ao_s (st_aload_n dX12_keeps_13 rfl rfl) ?_
    refine ao_getR dX12_keeps_14 fl_X12_39 rfl e21 (fun b23 => ?_)
    refine ao_s (st_bipush dX12_keeps_17 bp_10) ?_
    refine ao_s (st_iload_n dX12_keeps_19 rfl rfl) ?_
    refine ao_s (st_iadd dX12_keeps_20) ?_
    refine ao_letI (fun x24 => ?_)
    refine ao_chk (fun e25 => ?_)
    refine ao_iald dX12_keeps_21 e25 ?_
    refine ao_chk (fun e26 => ?_)
    refine ao_iast dX12_keeps_22 e26 ?_
    refine ao_letH (fun h27 => ?_)
    refine ao_s (st_iinc (lv' := [some (.ref a0), some (.int (x1 + 1))]) dX12_keeps_23 rfl nc_1 (by decide) rfl) ?_
    refine ao_s (st_goto 2 dX12_keeps_26 (by decide)) ?_
    exact ao_w (sb_s (sb_s sb_0)) (hk2 h27 a0 (x1 + 1))
def f_X12_keeps_2 (n : Nat) : aH → Nat → Int32 → Option (Unit × aH) := aIt (fun _ _ _ => none) (fun k => b_X12_keeps_2 k) n
theorem l_X12_keeps_2 (n : Nat) : ∀ (h : aH) (a0 : Nat) (x1 : Int32), AO eV 2 kX12_keeps 2 [some (.ref a0), some (.int x1)] [] h (f_X12_keeps_2 n h a0 x1) := by
  induction n with
  | zero => intros; exact ao_none
  | succ n ih =>
    intro h a0 x1
    exact t_X12_keeps_2 ih h a0 x1
def f_X12_keeps (h : aH) (a0 : Nat) : Option (Unit × aH) :=
f_X12_keeps_2 2000 h a0 0
set_option maxHeartbeats 2000000 in
theorem s_X12_keeps (h : aH) (a0 : Nat) : SO eV 2 kX12_keeps [.ref a0] h (f_X12_keeps h a0) := by
  refine so_of (lv0 := [some (.ref a0), none]) pn_X12 (Nat.le_of_ble_eq_true rfl) rfl ?_
  unfold f_X12_keeps
  refine ao_s (st_iconst dX12_keeps_0 ic_0) ?_
  refine ao_s (st_istore_n (lv' := [some (.ref a0), some (.int 0)]) dX12_keeps_1 rfl (by decide) rfl) ?_
  exact ao_w (sb_s (sb_s sb_0)) (l_X12_keeps_2 2000 h a0 0)
def b_X12_laysBack_2 (k2 : aH → Nat → Int32 → Option (Unit × aH)) (h : aH) (a0 : Nat) (x1 : Int32) : Option (Unit × aH) :=
(if 68 ≤ x1 then
some ((), h)
else
(if (sh a0).1 = 19 then
((hR h a0 20).bind fun b22 =>
((hR h a0 30).bind fun b23 =>
(if (sh b23).1 = 0 then
(if aIn x1 (sh b23).2 then
(aLet (10 + x1) fun x25 =>
(if (sh b22).1 = 0 then
(if aIn x25 (sh b22).2 then
(aLet (pI h b22 x25.toNatClampNeg (hI h b23 x1.toNatClampNeg)) fun h27 =>
k2 h27 a0 (x1 + 1))
else none)
else none))
else none)
else none)))
else none))
set_option maxHeartbeats 2000000 in
theorem t_X12_laysBack_2 {k2 : aH → Nat → Int32 → Option (Unit × aH)} (hk2 : ∀ (h : aH) (a0 : Nat) (x1 : Int32), AO eV 2 kX12_laysBack 2 [some (.ref a0), some (.int x1)] [] h (k2 h a0 x1)) (h : aH) (a0 : Nat) (x1 : Int32) : AO eV 2 kX12_laysBack 2 [some (.ref a0), some (.int x1)] [] h (b_X12_laysBack_2 k2 h a0 x1) := by
  unfold b_X12_laysBack_2
  refine ao_s (st_iload_n dX12_laysBack_2 rfl rfl) ?_
  refine ao_s (st_bipush dX12_laysBack_3 bp_68) ?_
  refine ao_br (br_icmp_ge (tgt := 29) dX12_laysBack_5 (by decide)) (fun c28 => ?_) (fun c28 => ?_)
  · exact ao_vr dX12_laysBack_29 rfl
  · refine ao_s (st_aload_n dX12_laysBack_8 rfl rfl) ?_
    refine ao_chk (fun e21 => ?_)
    refine ao_getR dX12_laysBack_9 fl_X12_39 rfl e21 (fun b22 => ?_)
    refine ao_s (st_bipush dX12_laysBack_12 bp_10) ?_
    refine ao_s (st_iload_n dX12_laysBack_14 rfl rfl) ?_
    refine ao_s (st_iadd dX12_laysBack_15) ?_
    refine ao_s (st_aload_n dX12_laysBack_16 rfl rfl) ?_
    refine ao_getR dX12_laysBack_17 fl_X12_62 rfl e21 (fun b23 => ?_)
    refine ao_s (st_iload_n dX12_laysBack_20 rfl rfl) ?_
    refine ao_chk (fun e24 => ?_)
    refine ao_iald dX12_laysBack_21 e24 ?_
    refine ao_let2 (fun x25 => ?_)
    refine ao_chk (fun e26 => ?_)
    refine ao_iast dX12_laysBack_22 e26 ?_
    refine ao_letH (fun h27 => ?_)
    refine ao_s (st_iinc (lv' := [some (.ref a0), some (.int (x1 + 1))]) dX12_laysBack_23 rfl nc_1 (by decide) rfl) ?_
    refine ao_s (st_goto 2 dX12_laysBack_26 (by decide)) ?_
    exact ao_w (sb_s (sb_s sb_0)) (hk2 h27 a0 (x1 + 1))
def f_X12_laysBack_2 (n : Nat) : aH → Nat → Int32 → Option (Unit × aH) := aIt (fun _ _ _ => none) (fun k => b_X12_laysBack_2 k) n
theorem l_X12_laysBack_2 (n : Nat) : ∀ (h : aH) (a0 : Nat) (x1 : Int32), AO eV 2 kX12_laysBack 2 [some (.ref a0), some (.int x1)] [] h (f_X12_laysBack_2 n h a0 x1) := by
  induction n with
  | zero => intros; exact ao_none
  | succ n ih =>
    intro h a0 x1
    exact t_X12_laysBack_2 ih h a0 x1
def f_X12_laysBack (h : aH) (a0 : Nat) : Option (Unit × aH) :=
f_X12_laysBack_2 2000 h a0 0
set_option maxHeartbeats 2000000 in
theorem s_X12_laysBack (h : aH) (a0 : Nat) : SO eV 2 kX12_laysBack [.ref a0] h (f_X12_laysBack h a0) := by
  refine so_of (lv0 := [some (.ref a0), none]) pn_X12 (Nat.le_of_ble_eq_true rfl) rfl ?_
  unfold f_X12_laysBack
  refine ao_s (st_iconst dX12_laysBack_0 ic_0) ?_
  refine ao_s (st_istore_n (lv' := [some (.ref a0), some (.int 0)]) dX12_laysBack_1 rfl (by decide) rfl) ?_
  exact ao_w (sb_s (sb_s sb_0)) (l_X12_laysBack_2 2000 h a0 0)
def f_X12_likesTheirs (h : aH) (a0 : Nat) (x1 : Int32) : Option (Int32 × aH) :=
(if (sh a0).1 = 19 then
(aBind (f_X12_isFree h a0 0 x1) fun r22 h23 =>
(if r22 = 0 then
(aBind (f_X12_personOf h23 a0 0 x1 1) fun r24 h25 =>
(aBind (f_X12_likesOf h25 a0 0 x1 r24) fun r26 h27 =>
some (r26, h27)))
else
some (0, h23)))
else none)
set_option maxHeartbeats 2000000 in
theorem s_X12_likesTheirs (h : aH) (a0 : Nat) (x1 : Int32) : SO eI 5 kX12_likesTheirs [.ref a0, .int x1] h (f_X12_likesTheirs h a0 x1) := by
  refine so_of (lv0 := [some (.ref a0), some (.int x1)]) pn_X12 (Nat.le_of_ble_eq_true rfl) rfl ?_
  unfold f_X12_likesTheirs
  refine ao_s (st_aload_n dX12_likesTheirs_0 rfl rfl) ?_
  refine ao_s (st_iconst dX12_likesTheirs_1 ic_0) ?_
  refine ao_s (st_iload_n dX12_likesTheirs_2 rfl rfl) ?_
  refine ao_chk (fun e21 => ?_)
  refine ao_cVi (Kc := kX12_isFree) (As := [.int 0, .int x1]) (st := []) dX12_likesTheirs_3 ml_X12_318 mv_X12_isFree rfl e21 (by decide) rfl rfl (Nat.le_of_ble_eq_true rfl) (by decide) (s_X12_isFree h a0 0 x1) (fun r22 h23 => ?_)
  refine ao_br (br_if_eq (tgt := 13) dX12_likesTheirs_6 (by decide)) (fun c28 => ?_) (fun c28 => ?_)
  · refine ao_s (st_aload_n dX12_likesTheirs_13 rfl rfl) ?_
    refine ao_s (st_iconst dX12_likesTheirs_14 ic_0) ?_
    refine ao_s (st_iload_n dX12_likesTheirs_15 rfl rfl) ?_
    refine ao_s (st_aload_n dX12_likesTheirs_16 rfl rfl) ?_
    refine ao_s (st_iconst dX12_likesTheirs_17 ic_0) ?_
    refine ao_s (st_iload_n dX12_likesTheirs_18 rfl rfl) ?_
    refine ao_s (st_iconst dX12_likesTheirs_19 ic_1) ?_
    refine ao_cVi (Kc := kX12_personOf) (As := [.int 0, .int x1, .int 1]) (st := [.int x1, .int 0, .ref a0]) dX12_likesTheirs_20 ml_X12_301 mv_X12_personOf rfl e21 (by decide) rfl rfl (Nat.le_of_ble_eq_true rfl) (by decide) (s_X12_personOf h23 a0 0 x1 1) (fun r24 h25 => ?_)
    refine ao_cVi (Kc := kX12_likesOf) (As := [.int 0, .int x1, .int r24]) (st := []) dX12_likesTheirs_23 ml_X12_305 mv_X12_likesOf rfl e21 (by decide) rfl rfl (Nat.le_of_ble_eq_true rfl) (by decide) (s_X12_likesOf h25 a0 0 x1 r24) (fun r26 h27 => ?_)
    exact ao_ir dX12_likesTheirs_26 rfl rfl
  · refine ao_s (st_iconst dX12_likesTheirs_9 ic_0) ?_
    refine ao_s (st_goto 26 dX12_likesTheirs_10 (by decide)) ?_
    exact ao_ir dX12_likesTheirs_26 rfl rfl
def b_X12_ahead_111 (h : aH) (a0 : Nat) (s0 : Int32) : Option (Int32 × aH) :=
(if (sh a0).1 = 19 then
(aBind (f_X12_laysBack h a0) fun r22 h23 =>
some (s0, h23))
else none)
set_option maxHeartbeats 2000000 in
theorem t_X12_ahead_111 (h : aH) (a0 : Nat) (s0 : Int32) : AO eI 8 kX12_ahead 111 [some (.ref a0), none, none, none, none] [.int s0] h (b_X12_ahead_111 h a0 s0) := by
  unfold b_X12_ahead_111
  refine ao_s (st_istore (lv' := [some (.ref a0), none, none, none, some (.int s0)]) dX12_ahead_111 (by decide) rfl) ?_
  refine ao_s (st_aload_n dX12_ahead_113 rfl rfl) ?_
  refine ao_chk (fun e21 => ?_)
  refine ao_cVv (Kc := kX12_laysBack) (As := []) (st := []) dX12_ahead_114 ml_X12_397 mv_X12_laysBack rfl e21 (by decide) rfl rfl (Nat.le_of_ble_eq_true rfl) (by decide) (s_X12_laysBack h a0) (fun r22 h23 => ?_)
  refine ao_s (st_iload dX12_ahead_117 rfl) ?_
  exact ao_ir dX12_ahead_119 rfl rfl
def b_X12_ahead_58 (k58 : aH → Nat → Int32 → Int32 → Int32 → Int32 → Option (Int32 × aH)) (h : aH) (a0 : Nat) (x1 : Int32) (x2 : Int32) (x3 : Int32) (x4 : Int32) : Option (Int32 × aH) :=
(if x2 ≤ x4 then
(if x3 = 0 then
(if (sh a0).1 = 19 then
(aBind (f_X12_personOf h a0 0 x1 1) fun r22 h23 =>
b_X12_ahead_111 h23 a0 r22)
else none)
else
(if x3 = 1 then
(if (sh a0).1 = 19 then
(aBind (f_X12_likesTheirs h a0 x1) fun r25 h26 =>
b_X12_ahead_111 h26 a0 r25)
else none)
else
(if (sh a0).1 = 19 then
(aBind (f_X12_personOf h a0 (x3 - 2) x1 0) fun r28 h29 =>
b_X12_ahead_111 h29 a0 r28)
else none)))
else
(if (sh a0).1 = 19 then
(aBind (f_X12_passes h a0) fun r33 h34 =>
k58 h34 a0 x1 x2 x3 (x4 + 1))
else none))
set_option maxHeartbeats 2000000 in
theorem t_X12_ahead_58 {k58 : aH → Nat → Int32 → Int32 → Int32 → Int32 → Option (Int32 × aH)} (hk58 : ∀ (h : aH) (a0 : Nat) (x1 : Int32) (x2 : Int32) (x3 : Int32) (x4 : Int32), AO eI 8 kX12_ahead 58 [some (.ref a0), some (.int x1), some (.int x2), some (.int x3), some (.int x4)] [] h (k58 h a0 x1 x2 x3 x4)) (h : aH) (a0 : Nat) (x1 : Int32) (x2 : Int32) (x3 : Int32) (x4 : Int32) : AO eI 8 kX12_ahead 58 [some (.ref a0), some (.int x1), some (.int x2), some (.int x3), some (.int x4)] [] h (b_X12_ahead_58 k58 h a0 x1 x2 x3 x4) := by
  unfold b_X12_ahead_58
  refine ao_s (st_iload dX12_ahead_58 rfl) ?_
  refine ao_s (st_iload_n dX12_ahead_60 rfl rfl) ?_
  refine ao_br (br_icmp_ge (tgt := 75) dX12_ahead_61 (by decide)) (fun c35 => ?_) (fun c35 => ?_)
  · refine ao_s (st_iload_n dX12_ahead_75 rfl rfl) ?_
    refine ao_br (br_if_ne (tgt := 89) dX12_ahead_76 (by decide)) (fun c31 => ?_) (fun c31 => ?_)
    · refine ao_s (st_aload_n dX12_ahead_79 rfl rfl) ?_
      refine ao_s (st_iconst dX12_ahead_80 ic_0) ?_
      refine ao_s (st_iload_n dX12_ahead_81 rfl rfl) ?_
      refine ao_s (st_iconst dX12_ahead_82 ic_1) ?_
      refine ao_chk (fun e21 => ?_)
      refine ao_cVi (Kc := kX12_personOf) (As := [.int 0, .int x1, .int 1]) (st := []) dX12_ahead_83 ml_X12_301 mv_X12_personOf rfl e21 (by decide) rfl rfl (Nat.le_of_ble_eq_true rfl) (by decide) (s_X12_personOf h a0 0 x1 1) (fun r22 h23 => ?_)
      refine ao_s (st_goto 111 dX12_ahead_86 (by decide)) ?_
      exact ao_w (sb_s (sb_n (sb_n (sb_n (sb_n sb_0))))) (t_X12_ahead_111 h23 a0 r22)
    · refine ao_s (st_iload_n dX12_ahead_89 rfl rfl) ?_
      refine ao_s (st_iconst dX12_ahead_90 ic_1) ?_
      refine ao_br (br_icmp_ne (tgt := 102) dX12_ahead_91 (by decide)) (fun c30 => ?_) (fun c30 => ?_)
      · refine ao_s (st_aload_n dX12_ahead_94 rfl rfl) ?_
        refine ao_s (st_iload_n dX12_ahead_95 rfl rfl) ?_
        refine ao_chk (fun e24 => ?_)
        refine ao_cVi (Kc := kX12_likesTheirs) (As := [.int x1]) (st := []) dX12_ahead_96 ml_X12_394 mv_X12_likesTheirs rfl e24 (by decide) rfl rfl (Nat.le_of_ble_eq_true rfl) (by decide) (s_X12_likesTheirs h a0 x1) (fun r25 h26 => ?_)
        refine ao_s (st_goto 111 dX12_ahead_99 (by decide)) ?_
        exact ao_w (sb_s (sb_n (sb_n (sb_n (sb_n sb_0))))) (t_X12_ahead_111 h26 a0 r25)
      · refine ao_s (st_aload_n dX12_ahead_102 rfl rfl) ?_
        refine ao_s (st_iload_n dX12_ahead_103 rfl rfl) ?_
        refine ao_s (st_iconst dX12_ahead_104 ic_2) ?_
        refine ao_s (st_isub dX12_ahead_105) ?_
        refine ao_s (st_iload_n dX12_ahead_106 rfl rfl) ?_
        refine ao_s (st_iconst dX12_ahead_107 ic_0) ?_
        refine ao_chk (fun e27 => ?_)
        refine ao_cVi (Kc := kX12_personOf) (As := [.int (x3 - 2), .int x1, .int 0]) (st := []) dX12_ahead_108 ml_X12_301 mv_X12_personOf rfl e27 (by decide) rfl rfl (Nat.le_of_ble_eq_true rfl) (by decide) (s_X12_personOf h a0 (x3 - 2) x1 0) (fun r28 h29 => ?_)
        exact ao_w (sb_s (sb_n (sb_n (sb_n (sb_n sb_0))))) (t_X12_ahead_111 h29 a0 r28)
  · refine ao_s (st_aload_n dX12_ahead_64 rfl rfl) ?_
    refine ao_chk (fun e32 => ?_)
    refine ao_cVi (Kc := kX12_passes) (As := []) (st := []) dX12_ahead_65 ml_X12_374 mv_X12_passes rfl e32 (by decide) rfl rfl (Nat.le_of_ble_eq_true rfl) (by decide) (s_X12_passes h a0) (fun r33 h34 => ?_)
    refine ao_s (st_pop dX12_ahead_68 rfl) ?_
    refine ao_s (st_iinc (lv' := [some (.ref a0), some (.int x1), some (.int x2), some (.int x3), some (.int (x4 + 1))]) dX12_ahead_69 rfl nc_1 (by decide) rfl) ?_
    refine ao_s (st_goto 58 dX12_ahead_72 (by decide)) ?_
    exact ao_w (sb_s (sb_s (sb_s (sb_s (sb_s sb_0))))) (hk58 h34 a0 x1 x2 x3 (x4 + 1))
def f_X12_ahead_58 (n : Nat) : aH → Nat → Int32 → Int32 → Int32 → Int32 → Option (Int32 × aH) := aIt (fun _ _ _ _ _ _ => none) (fun k => b_X12_ahead_58 k) n
theorem l_X12_ahead_58 (n : Nat) : ∀ (h : aH) (a0 : Nat) (x1 : Int32) (x2 : Int32) (x3 : Int32) (x4 : Int32), AO eI 8 kX12_ahead 58 [some (.ref a0), some (.int x1), some (.int x2), some (.int x3), some (.int x4)] [] h (f_X12_ahead_58 n h a0 x1 x2 x3 x4) := by
  induction n with
  | zero => intros; exact ao_none
  | succ n ih =>
    intro h a0 x1 x2 x3 x4
    exact t_X12_ahead_58 ih h a0 x1 x2 x3 x4
def b_X12_ahead_51 (h : aH) (a0 : Nat) (x1 : Int32) (x2 : Int32) (x3 : Int32) : Option (Int32 × aH) :=
(if (sh a0).1 = 19 then
(aBind (f_X12_keeps h a0) fun r22 h23 =>
f_X12_ahead_58 2000 h23 a0 x1 x2 x3 0)
else none)
set_option maxHeartbeats 2000000 in
theorem t_X12_ahead_51 (h : aH) (a0 : Nat) (x1 : Int32) (x2 : Int32) (x3 : Int32) : AO eI 8 kX12_ahead 51 [some (.ref a0), some (.int x1), some (.int x2), some (.int x3), none] [] h (b_X12_ahead_51 h a0 x1 x2 x3) := by
  unfold b_X12_ahead_51
  refine ao_s (st_aload_n dX12_ahead_51 rfl rfl) ?_
  refine ao_chk (fun e21 => ?_)
  refine ao_cVv (Kc := kX12_keeps) (As := []) (st := []) dX12_ahead_52 ml_X12_391 mv_X12_keeps rfl e21 (by decide) rfl rfl (Nat.le_of_ble_eq_true rfl) (by decide) (s_X12_keeps h a0) (fun r22 h23 => ?_)
  refine ao_s (st_iconst dX12_ahead_55 ic_0) ?_
  refine ao_s (st_istore (lv' := [some (.ref a0), some (.int x1), some (.int x2), some (.int x3), some (.int 0)]) dX12_ahead_56 (by decide) rfl) ?_
  exact ao_w (sb_s (sb_s (sb_s (sb_s (sb_s sb_0))))) (l_X12_ahead_58 2000 h23 a0 x1 x2 x3 0)
def f_X12_ahead (h : aH) (a0 : Nat) (x1 : Int32) (x2 : Int32) (x3 : Int32) : Option (Int32 × aH) :=
(aBind (f_X12_in h x2.toInt64 0 60) fun r21 h22 =>
(if r21 = 0 then
some ((-2), h22)
else
(aBind (f_X12_in h22 x3.toInt64 0 3) fun r23 h24 =>
(if r23 = 0 then
some ((-2), h24)
else
(if x3 = 3 then
(if (sh a0).1 = 19 then
(aBind (f_X12_isWest h24 a0 x1) fun r26 h27 =>
(if r26 = 0 then
some ((-2), h27)
else
b_X12_ahead_51 h27 a0 x1 x2 x3))
else none)
else
(if (sh a0).1 = 19 then
(aBind (f_X12_isEast h24 a0 x1) fun r30 h31 =>
(if r30 = 0 then
some ((-2), h31)
else
b_X12_ahead_51 h31 a0 x1 x2 x3))
else none))))))
set_option maxHeartbeats 2000000 in
theorem s_X12_ahead (h : aH) (a0 : Nat) (x1 : Int32) (x2 : Int32) (x3 : Int32) : SO eI 8 kX12_ahead [.ref a0, .int x1, .int x2, .int x3] h (f_X12_ahead h a0 x1 x2 x3) := by
  refine so_of (lv0 := [some (.ref a0), some (.int x1), some (.int x2), some (.int x3), none]) pn_X12 (Nat.le_of_ble_eq_true rfl) rfl ?_
  unfold f_X12_ahead
  refine ao_s (st_iload_n dX12_ahead_0 rfl rfl) ?_
  refine ao_s (st_i2l dX12_ahead_1) ?_
  refine ao_s (st_lconst dX12_ahead_2 lc_0) ?_
  refine ao_s (st_ldc2 dX12_ahead_3 cl_X12_389) ?_
  refine ao_cSi (Kc := kX12_in) (As := [.long x2.toInt64, .long 0, .long 60]) (st := []) dX12_ahead_6 ml_X12_127 ms_X12_in rfl rfl (Nat.le_of_ble_eq_true rfl) (by decide) (s_X12_in h x2.toInt64 0 60) (fun r21 h22 => ?_)
  refine ao_br (br_if_eq (tgt := 48) dX12_ahead_9 (by decide)) (fun c35 => ?_) (fun c35 => ?_)
  · refine ao_s (st_bipush dX12_ahead_48 bp_m2) ?_
    exact ao_ir dX12_ahead_50 rfl rfl
  · refine ao_s (st_iload_n dX12_ahead_12 rfl rfl) ?_
    refine ao_s (st_i2l dX12_ahead_13) ?_
    refine ao_s (st_lconst dX12_ahead_14 lc_0) ?_
    refine ao_s (st_ldc2 dX12_ahead_15 cl_X12_327) ?_
    refine ao_cSi (Kc := kX12_in) (As := [.long x3.toInt64, .long 0, .long 3]) (st := []) dX12_ahead_18 ml_X12_127 ms_X12_in rfl rfl (Nat.le_of_ble_eq_true rfl) (by decide) (s_X12_in h22 x3.toInt64 0 3) (fun r23 h24 => ?_)
    refine ao_br (br_if_eq (tgt := 48) dX12_ahead_21 (by decide)) (fun c34 => ?_) (fun c34 => ?_)
    · refine ao_s (st_bipush dX12_ahead_48 bp_m2) ?_
      exact ao_ir dX12_ahead_50 rfl rfl
    · refine ao_s (st_iload_n dX12_ahead_24 rfl rfl) ?_
      refine ao_s (st_iconst dX12_ahead_25 ic_3) ?_
      refine ao_br (br_icmp_ne (tgt := 40) dX12_ahead_26 (by decide)) (fun c33 => ?_) (fun c33 => ?_)
      · refine ao_s (st_aload_n dX12_ahead_29 rfl rfl) ?_
        refine ao_s (st_iload_n dX12_ahead_30 rfl rfl) ?_
        refine ao_chk (fun e25 => ?_)
        refine ao_cVi (Kc := kX12_isWest) (As := [.int x1]) (st := []) dX12_ahead_31 ml_X12_329 mv_X12_isWest rfl e25 (by decide) rfl rfl (Nat.le_of_ble_eq_true rfl) (by decide) (s_X12_isWest h24 a0 x1) (fun r26 h27 => ?_)
        refine ao_br (br_if_ne (tgt := 51) dX12_ahead_34 (by decide)) (fun c28 => ?_) (fun c28 => ?_)
        · refine ao_s (st_goto 48 dX12_ahead_37 (by decide)) ?_
          refine ao_s (st_bipush dX12_ahead_48 bp_m2) ?_
          exact ao_ir dX12_ahead_50 rfl rfl
        · exact ao_w (sb_s (sb_s (sb_s (sb_s (sb_n sb_0))))) (t_X12_ahead_51 h27 a0 x1 x2 x3)
      · refine ao_s (st_aload_n dX12_ahead_40 rfl rfl) ?_
        refine ao_s (st_iload_n dX12_ahead_41 rfl rfl) ?_
        refine ao_chk (fun e29 => ?_)
        refine ao_cVi (Kc := kX12_isEast) (As := [.int x1]) (st := []) dX12_ahead_42 ml_X12_324 mv_X12_isEast rfl e29 (by decide) rfl rfl (Nat.le_of_ble_eq_true rfl) (by decide) (s_X12_isEast h24 a0 x1) (fun r30 h31 => ?_)
        refine ao_br (br_if_ne (tgt := 51) dX12_ahead_45 (by decide)) (fun c32 => ?_) (fun c32 => ?_)
        · refine ao_s (st_bipush dX12_ahead_48 bp_m2) ?_
          exact ao_ir dX12_ahead_50 rfl rfl
        · exact ao_w (sb_s (sb_s (sb_s (sb_s (sb_n sb_0))))) (t_X12_ahead_51 h31 a0 x1 x2 x3)
def b_X12_lasts_76 (k37 : aH → Nat → Int32 → Int32 → Int32 → Int32 → Option (Int32 × aH)) (h : aH) (a0 : Nat) (x1 : Int32) (x2 : Int32) (x3 : Int32) (x4 : Int32) : Option (Int32 × aH) :=
k37 h a0 x1 x2 x3 (x4 + 1)
set_option maxHeartbeats 2000000 in
theorem t_X12_lasts_76 {k37 : aH → Nat → Int32 → Int32 → Int32 → Int32 → Option (Int32 × aH)} (hk37 : ∀ (h : aH) (a0 : Nat) (x1 : Int32) (x2 : Int32) (x3 : Int32) (x4 : Int32), AO eI 8 kX12_lasts 37 [some (.ref a0), some (.int x1), some (.int x2), some (.int x3), some (.int x4), none] [] h (k37 h a0 x1 x2 x3 x4)) (h : aH) (a0 : Nat) (x1 : Int32) (x2 : Int32) (x3 : Int32) (x4 : Int32) : AO eI 8 kX12_lasts 76 [some (.ref a0), some (.int x1), some (.int x2), some (.int x3), some (.int x4), none] [] h (b_X12_lasts_76 k37 h a0 x1 x2 x3 x4) := by
  unfold b_X12_lasts_76
  refine ao_s (st_iinc (lv' := [some (.ref a0), some (.int x1), some (.int x2), some (.int x3), some (.int (x4 + 1)), none]) dX12_lasts_76 rfl nc_1 (by decide) rfl) ?_
  refine ao_s (st_goto 37 dX12_lasts_79 (by decide)) ?_
  exact ao_w (sb_s (sb_s (sb_s (sb_s (sb_s (sb_n sb_0)))))) (hk37 h a0 x1 x2 x3 (x4 + 1))
def b_X12_lasts_82 (h : aH) (a0 : Nat) (x3 : Int32) : Option (Int32 × aH) :=
(if (sh a0).1 = 19 then
(aBind (f_X12_laysBack h a0) fun r22 h23 =>
some (x3, h23))
else none)
set_option maxHeartbeats 2000000 in
theorem t_X12_lasts_82 (h : aH) (a0 : Nat) (x3 : Int32) : AO eI 8 kX12_lasts 82 [some (.ref a0), none, none, some (.int x3), none, none] [] h (b_X12_lasts_82 h a0 x3) := by
  unfold b_X12_lasts_82
  refine ao_s (st_aload_n dX12_lasts_82 rfl rfl) ?_
  refine ao_chk (fun e21 => ?_)
  refine ao_cVv (Kc := kX12_laysBack) (As := []) (st := []) dX12_lasts_83 ml_X12_397 mv_X12_laysBack rfl e21 (by decide) rfl rfl (Nat.le_of_ble_eq_true rfl) (by decide) (s_X12_laysBack h a0) (fun r22 h23 => ?_)
  refine ao_s (st_iload_n dX12_lasts_86 rfl rfl) ?_
  exact ao_ir dX12_lasts_87 rfl rfl
def b_X12_lasts_37 (k37 : aH → Nat → Int32 → Int32 → Int32 → Int32 → Option (Int32 × aH)) (h : aH) (a0 : Nat) (x1 : Int32) (x2 : Int32) (x3 : Int32) (x4 : Int32) : Option (Int32 × aH) :=
(if 60 ≤ x4 then
b_X12_lasts_82 h a0 x3
else
(if 0 ≤ x3 then
b_X12_lasts_82 h a0 x3
else
(if (sh a0).1 = 19 then
((hR h a0 20).bind fun b22 =>
(if (sh b22).1 = 0 then
(if aIn 10 (sh b22).2 then
(aLet (hI h b22 (10 : Int32).toNatClampNeg) fun x24 =>
(aBind (f_X12_passes h a0) fun r25 h26 =>
(aBind (f_X12_personOf h26 a0 0 x1 1) fun r27 h28 =>
(if r27 = x2 then
b_X12_lasts_76 k37 h28 a0 x1 x2 x3 x4
else
b_X12_lasts_76 k37 h28 a0 x1 x2 x24 x4))))
else none)
else none))
else none)))
set_option maxHeartbeats 2000000 in
theorem t_X12_lasts_37 {k37 : aH → Nat → Int32 → Int32 → Int32 → Int32 → Option (Int32 × aH)} (hk37 : ∀ (h : aH) (a0 : Nat) (x1 : Int32) (x2 : Int32) (x3 : Int32) (x4 : Int32), AO eI 8 kX12_lasts 37 [some (.ref a0), some (.int x1), some (.int x2), some (.int x3), some (.int x4), none] [] h (k37 h a0 x1 x2 x3 x4)) (h : aH) (a0 : Nat) (x1 : Int32) (x2 : Int32) (x3 : Int32) (x4 : Int32) : AO eI 8 kX12_lasts 37 [some (.ref a0), some (.int x1), some (.int x2), some (.int x3), some (.int x4), none] [] h (b_X12_lasts_37 k37 h a0 x1 x2 x3 x4) := by
  unfold b_X12_lasts_37
  refine ao_s (st_iload dX12_lasts_37 rfl) ?_
  refine ao_s (st_bipush dX12_lasts_39 bp_60) ?_
  refine ao_br (br_icmp_ge (tgt := 82) dX12_lasts_41 (by decide)) (fun c31 => ?_) (fun c31 => ?_)
  · exact ao_w (sb_s (sb_n (sb_n (sb_s (sb_n (sb_n sb_0)))))) (t_X12_lasts_82 h a0 x3)
  · refine ao_s (st_iload_n dX12_lasts_44 rfl rfl) ?_
    refine ao_br (br_if_ge (tgt := 82) dX12_lasts_45 (by decide)) (fun c30 => ?_) (fun c30 => ?_)
    · exact ao_w (sb_s (sb_n (sb_n (sb_s (sb_n (sb_n sb_0)))))) (t_X12_lasts_82 h a0 x3)
    · refine ao_s (st_aload_n dX12_lasts_48 rfl rfl) ?_
      refine ao_chk (fun e21 => ?_)
      refine ao_getR dX12_lasts_49 fl_X12_39 rfl e21 (fun b22 => ?_)
      refine ao_s (st_bipush dX12_lasts_52 bp_10) ?_
      refine ao_chk (fun e23 => ?_)
      refine ao_iald dX12_lasts_54 e23 ?_
      refine ao_letI (fun x24 => ?_)
      refine ao_s (st_istore (lv' := [some (.ref a0), some (.int x1), some (.int x2), some (.int x3), some (.int x4), some (.int x24)]) dX12_lasts_55 (by decide) rfl) ?_
      refine ao_s (st_aload_n dX12_lasts_57 rfl rfl) ?_
      refine ao_cVi (Kc := kX12_passes) (As := []) (st := []) dX12_lasts_58 ml_X12_374 mv_X12_passes rfl e21 (by decide) rfl rfl (Nat.le_of_ble_eq_true rfl) (by decide) (s_X12_passes h a0) (fun r25 h26 => ?_)
      refine ao_s (st_pop dX12_lasts_61 rfl) ?_
      refine ao_s (st_aload_n dX12_lasts_62 rfl rfl) ?_
      refine ao_s (st_iconst dX12_lasts_63 ic_0) ?_
      refine ao_s (st_iload_n dX12_lasts_64 rfl rfl) ?_
      refine ao_s (st_iconst dX12_lasts_65 ic_1) ?_
      refine ao_cVi (Kc := kX12_personOf) (As := [.int 0, .int x1, .int 1]) (st := []) dX12_lasts_66 ml_X12_301 mv_X12_personOf rfl e21 (by decide) rfl rfl (Nat.le_of_ble_eq_true rfl) (by decide) (s_X12_personOf h26 a0 0 x1 1) (fun r27 h28 => ?_)
      refine ao_s (st_iload_n dX12_lasts_69 rfl rfl) ?_
      refine ao_br (br_icmp_eq (tgt := 76) dX12_lasts_70 (by decide)) (fun c29 => ?_) (fun c29 => ?_)
      · exact ao_w (sb_s (sb_s (sb_s (sb_s (sb_s (sb_n sb_0)))))) (t_X12_lasts_76 hk37 h28 a0 x1 x2 x3 x4)
      · refine ao_s (st_iload dX12_lasts_73 rfl) ?_
        refine ao_s (st_istore_n (lv' := [some (.ref a0), some (.int x1), some (.int x2), some (.int x24), some (.int x4), some (.int x24)]) dX12_lasts_75 rfl (by decide) rfl) ?_
        exact ao_w (sb_s (sb_s (sb_s (sb_s (sb_s (sb_n sb_0)))))) (t_X12_lasts_76 hk37 h28 a0 x1 x2 x24 x4)
def f_X12_lasts_37 (n : Nat) : aH → Nat → Int32 → Int32 → Int32 → Int32 → Option (Int32 × aH) := aIt (fun _ _ _ _ _ _ => none) (fun k => b_X12_lasts_37 k) n
theorem l_X12_lasts_37 (n : Nat) : ∀ (h : aH) (a0 : Nat) (x1 : Int32) (x2 : Int32) (x3 : Int32) (x4 : Int32), AO eI 8 kX12_lasts 37 [some (.ref a0), some (.int x1), some (.int x2), some (.int x3), some (.int x4), none] [] h (f_X12_lasts_37 n h a0 x1 x2 x3 x4) := by
  induction n with
  | zero => intros; exact ao_none
  | succ n ih =>
    intro h a0 x1 x2 x3 x4
    exact t_X12_lasts_37 ih h a0 x1 x2 x3 x4
def f_X12_lasts (h : aH) (a0 : Nat) (x1 : Int32) : Option (Int32 × aH) :=
(if (sh a0).1 = 19 then
(aBind (f_X12_isEast h a0 x1) fun r22 h23 =>
(if r22 = 0 then
some ((-1), h23)
else
(aBind (f_X12_isFree h23 a0 0 x1) fun r24 h25 =>
(if r24 = 0 then
(aBind (f_X12_personOf h25 a0 0 x1 1) fun r26 h27 =>
(aBind (f_X12_keeps h27 a0) fun r28 h29 =>
f_X12_lasts_37 2000 h29 a0 x1 r26 (-2) 0))
else
some ((-1), h25)))))
else none)
set_option maxHeartbeats 2000000 in
theorem s_X12_lasts (h : aH) (a0 : Nat) (x1 : Int32) : SO eI 8 kX12_lasts [.ref a0, .int x1] h (f_X12_lasts h a0 x1) := by
  refine so_of (lv0 := [some (.ref a0), some (.int x1), none, none, none, none]) pn_X12 (Nat.le_of_ble_eq_true rfl) rfl ?_
  unfold f_X12_lasts
  refine ao_s (st_aload_n dX12_lasts_0 rfl rfl) ?_
  refine ao_s (st_iload_n dX12_lasts_1 rfl rfl) ?_
  refine ao_chk (fun e21 => ?_)
  refine ao_cVi (Kc := kX12_isEast) (As := [.int x1]) (st := []) dX12_lasts_2 ml_X12_324 mv_X12_isEast rfl e21 (by decide) rfl rfl (Nat.le_of_ble_eq_true rfl) (by decide) (s_X12_isEast h a0 x1) (fun r22 h23 => ?_)
  refine ao_br (br_if_eq (tgt := 17) dX12_lasts_5 (by decide)) (fun c31 => ?_) (fun c31 => ?_)
  · refine ao_s (st_iconst dX12_lasts_17 ic_m1) ?_
    exact ao_ir dX12_lasts_18 rfl rfl
  · refine ao_s (st_aload_n dX12_lasts_8 rfl rfl) ?_
    refine ao_s (st_iconst dX12_lasts_9 ic_0) ?_
    refine ao_s (st_iload_n dX12_lasts_10 rfl rfl) ?_
    refine ao_cVi (Kc := kX12_isFree) (As := [.int 0, .int x1]) (st := []) dX12_lasts_11 ml_X12_318 mv_X12_isFree rfl e21 (by decide) rfl rfl (Nat.le_of_ble_eq_true rfl) (by decide) (s_X12_isFree h23 a0 0 x1) (fun r24 h25 => ?_)
    refine ao_br (br_if_eq (tgt := 19) dX12_lasts_14 (by decide)) (fun c30 => ?_) (fun c30 => ?_)
    · refine ao_s (st_aload_n dX12_lasts_19 rfl rfl) ?_
      refine ao_s (st_iconst dX12_lasts_20 ic_0) ?_
      refine ao_s (st_iload_n dX12_lasts_21 rfl rfl) ?_
      refine ao_s (st_iconst dX12_lasts_22 ic_1) ?_
      refine ao_cVi (Kc := kX12_personOf) (As := [.int 0, .int x1, .int 1]) (st := []) dX12_lasts_23 ml_X12_301 mv_X12_personOf rfl e21 (by decide) rfl rfl (Nat.le_of_ble_eq_true rfl) (by decide) (s_X12_personOf h25 a0 0 x1 1) (fun r26 h27 => ?_)
      refine ao_s (st_istore_n (lv' := [some (.ref a0), some (.int x1), some (.int r26), none, none, none]) dX12_lasts_26 rfl (by decide) rfl) ?_
      refine ao_s (st_bipush dX12_lasts_27 bp_m2) ?_
      refine ao_s (st_istore_n (lv' := [some (.ref a0), some (.int x1), some (.int r26), some (.int (-2)), none, none]) dX12_lasts_29 rfl (by decide) rfl) ?_
      refine ao_s (st_aload_n dX12_lasts_30 rfl rfl) ?_
      refine ao_cVv (Kc := kX12_keeps) (As := []) (st := []) dX12_lasts_31 ml_X12_391 mv_X12_keeps rfl e21 (by decide) rfl rfl (Nat.le_of_ble_eq_true rfl) (by decide) (s_X12_keeps h27 a0) (fun r28 h29 => ?_)
      refine ao_s (st_iconst dX12_lasts_34 ic_0) ?_
      refine ao_s (st_istore (lv' := [some (.ref a0), some (.int x1), some (.int r26), some (.int (-2)), some (.int 0), none]) dX12_lasts_35 (by decide) rfl) ?_
      exact ao_w (sb_s (sb_s (sb_s (sb_s (sb_s (sb_n sb_0)))))) (l_X12_lasts_37 2000 h29 a0 x1 r26 (-2) 0)
    · refine ao_s (st_iconst dX12_lasts_17 ic_m1) ?_
      exact ao_ir dX12_lasts_18 rfl rfl
