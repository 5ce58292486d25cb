def b_X12_back_50 (k50 : aH → Nat → Int32 → Int32 → Option (Int32 × aH)) (h : aH) (a0 : Nat) (x1 : Int32) (x2 : Int32) : Option (Int32 × aH) :=
(if 184 ≤ x2 then
(if (sh a0).1 = 19 then
((hR h a0 20).bind fun b22 =>
(if (sh b22).1 = 0 then
(if aIn 10 (sh b22).2 then
some (hI h b22 (10 : Int32).toNatClampNeg, h)
else none)
else none))
else none)
else
(if (sh a0).1 = 19 then
((hR h a0 20).bind fun b25 =>
((hR h a0 36).bind fun b26 =>
(aLet ((184 * x1) + x2) fun x27 =>
(if (sh b26).1 = 0 then
(if aIn x27 (sh b26).2 then
(if (sh b25).1 = 0 then
(if aIn x2 (sh b25).2 then
(aLet (pI h b25 x2.toNatClampNeg (hI h b26 x27.toNatClampNeg)) fun h30 =>
k50 h30 a0 x1 (x2 + 1))
else none)
else none)
else none)
else none))))
else none))
set_option maxHeartbeats 2000000 in
theorem t_X12_back_50 {k50 : aH → Nat → Int32 → Int32 → Option (Int32 × aH)} (hk50 : ∀ (h : aH) (a0 : Nat) (x1 : Int32) (x2 : Int32), AO eI 3 kX12_back 50 [some (.ref a0), some (.int x1), some (.int x2)] [] h (k50 h a0 x1 x2)) (h : aH) (a0 : Nat) (x1 : Int32) (x2 : Int32) : AO eI 3 kX12_back 50 [some (.ref a0), some (.int x1), some (.int x2)] [] h (b_X12_back_50 k50 h a0 x1 x2) := by
  unfold b_X12_back_50
  refine ao_s (st_iload_n dX12_back_50 rfl rfl) ?_
  refine ao_s (st_sipush dX12_back_51 sp_184) ?_
  refine ao_br (br_icmp_ge (tgt := 81) dX12_back_54 (by decide)) (fun c31 => ?_) (fun c31 => ?_)
  · refine ao_s (st_aload_n dX12_back_81 rfl rfl) ?_
    refine ao_chk (fun e21 => ?_)
    refine ao_getR dX12_back_82 fl_X12_39 rfl e21 (fun b22 => ?_)
    refine ao_s (st_bipush dX12_back_85 bp_10) ?_
    refine ao_chk (fun e23 => ?_)
    refine ao_iald dX12_back_87 e23 ?_
    exact ao_ir dX12_back_88 rfl rfl
  · refine ao_s (st_aload_n dX12_back_57 rfl rfl) ?_
    refine ao_chk (fun e24 => ?_)
    refine ao_getR dX12_back_58 fl_X12_39 rfl e24 (fun b25 => ?_)
    refine ao_s (st_iload_n dX12_back_61 rfl rfl) ?_
    refine ao_s (st_aload_n dX12_back_62 rfl rfl) ?_
    refine ao_getR dX12_back_63 fl_X12_77 rfl e24 (fun b26 => ?_)
    refine ao_s (st_sipush dX12_back_66 sp_184) ?_
    refine ao_s (st_iload_n dX12_back_69 rfl rfl) ?_
    refine ao_s (st_imul dX12_back_70) ?_
    refine ao_s (st_iload_n dX12_back_71 rfl rfl) ?_
    refine ao_s (st_iadd dX12_back_72) ?_
    refine ao_letI (fun x27 => ?_)
    refine ao_chk (fun e28 => ?_)
    refine ao_iald dX12_back_73 e28 ?_
    refine ao_chk (fun e29 => ?_)
    refine ao_iast dX12_back_74 e29 ?_
    refine ao_letH (fun h30 => ?_)
    refine ao_s (st_iinc (lv' := [some (.ref a0), some (.int x1), some (.int (x2 + 1))]) dX12_back_75 rfl nc_1 (by decide) rfl) ?_
    refine ao_s (st_goto 50 dX12_back_78 (by decide)) ?_
    exact ao_w (sb_s (sb_s (sb_s sb_0))) (hk50 h30 a0 x1 (x2 + 1))
def f_X12_back_50 (n : Nat) : aH → Nat → Int32 → Int32 → Option (Int32 × aH) := aIt (fun _ _ _ _ => none) (fun k => b_X12_back_50 k) n
theorem l_X12_back_50 (n : Nat) : ∀ (h : aH) (a0 : Nat) (x1 : Int32) (x2 : Int32), AO eI 3 kX12_back 50 [some (.ref a0), some (.int x1), some (.int x2)] [] h (f_X12_back_50 n h a0 x1 x2) := by
  induction n with
  | zero => intros; exact ao_none
  | succ n ih =>
    intro h a0 x1 x2
    exact t_X12_back_50 ih h a0 x1 x2
def f_X12_back (h : aH) (a0 : Nat) (x1 : Int32) : Option (Int32 × aH) :=
(aBind (f_X12_in h x1.toInt64 0 3) fun r21 h22 =>
(if r21 = 0 then
some ((-1), h22)
else
(if (sh a0).1 = 19 then
((hR h22 a0 39).bind fun b24 =>
(if (sh b24).1 = 2 then
(if aIn x1 (sh b24).2 then
(if hI h22 b24 x1.toNatClampNeg = 0 then
some ((-1), h22)
else
((hR h22 a0 37).bind fun b26 =>
(if (sh b26).1 = 0 then
(if aIn x1 (sh b26).2 then
(aLet (pI h22 a0 21 (hI h22 b26 x1.toNatClampNeg)) fun h28 =>
((hR h28 a0 38).bind fun b29 =>
(if (sh b29).1 = 0 then
(if aIn x1 (sh b29).2 then
(aLet (pI h28 a0 22 (hI h28 b29 x1.toNatClampNeg)) fun h31 =>
(aLet (pI h31 a0 29 0) fun h32 =>
f_X12_back_50 2000 h32 a0 x1 0))
else none)
else none)))
else none)
else none)))
else none)
else none))
else none)))
set_option maxHeartbeats 2000000 in
theorem s_X12_back (h : aH) (a0 : Nat) (x1 : Int32) : SO eI 3 kX12_back [.ref a0, .int x1] h (f_X12_back h a0 x1) := by
  refine so_of (lv0 := [some (.ref a0), some (.int x1), none]) pn_X12 (Nat.le_of_ble_eq_true rfl) rfl ?_
  unfold f_X12_back
  refine ao_s (st_iload_n dX12_back_0 rfl rfl) ?_
  refine ao_s (st_i2l dX12_back_1) ?_
  refine ao_s (st_lconst dX12_back_2 lc_0) ?_
  refine ao_s (st_ldc2 dX12_back_3 cl_X12_327) ?_
  refine ao_cSi (Kc := kX12_in) (As := [.long x1.toInt64, .long 0, .long 3]) (st := []) dX12_back_6 ml_X12_127 ms_X12_in rfl rfl (Nat.le_of_ble_eq_true rfl) (by decide) (s_X12_in h x1.toInt64 0 3) (fun r21 h22 => ?_)
  refine ao_br (br_if_eq (tgt := 21) dX12_back_9 (by decide)) (fun c34 => ?_) (fun c34 => ?_)
  · refine ao_s (st_iconst dX12_back_21 ic_m1) ?_
    exact ao_ir dX12_back_22 rfl rfl
  · refine ao_s (st_aload_n dX12_back_12 rfl rfl) ?_
    refine ao_chk (fun e23 => ?_)
    refine ao_getR dX12_back_13 fl_X12_86 rfl e23 (fun b24 => ?_)
    refine ao_s (st_iload_n dX12_back_16 rfl rfl) ?_
    refine ao_chk (fun e25 => ?_)
    refine ao_zald dX12_back_17 e25 ?_
    refine ao_br (br_if_ne (tgt := 23) dX12_back_18 (by decide)) (fun c33 => ?_) (fun c33 => ?_)
    · refine ao_s (st_iconst dX12_back_21 ic_m1) ?_
      exact ao_ir dX12_back_22 rfl rfl
    · refine ao_s (st_aload_n dX12_back_23 rfl rfl) ?_
      refine ao_s (st_aload_n dX12_back_24 rfl rfl) ?_
      refine ao_getR dX12_back_25 fl_X12_80 rfl e23 (fun b26 => ?_)
      refine ao_s (st_iload_n dX12_back_28 rfl rfl) ?_
      refine ao_chk (fun e27 => ?_)
      refine ao_iald dX12_back_29 e27 ?_
      refine ao_putI dX12_back_30 fl_X12_42 rfl rfl rfl rfl e23 ?_
      refine ao_letH (fun h28 => ?_)
      refine ao_s (st_aload_n dX12_back_33 rfl rfl) ?_
      refine ao_s (st_aload_n dX12_back_34 rfl rfl) ?_
      refine ao_getR dX12_back_35 fl_X12_83 rfl e23 (fun b29 => ?_)
      refine ao_s (st_iload_n dX12_back_38 rfl rfl) ?_
      refine ao_chk (fun e30 => ?_)
      refine ao_iald dX12_back_39 e30 ?_
      refine ao_putI dX12_back_40 fl_X12_443 rfl rfl rfl rfl e23 ?_
      refine ao_letH (fun h31 => ?_)
      refine ao_s (st_aload_n dX12_back_43 rfl rfl) ?_
      refine ao_s (st_iconst dX12_back_44 ic_0) ?_
      refine ao_putI dX12_back_45 fl_X12_279 rfl rfl rfl rfl e23 ?_
      refine ao_letH (fun h32 => ?_)
      refine ao_s (st_iconst dX12_back_48 ic_0) ?_
      refine ao_s (st_istore_n (lv' := [some (.ref a0), some (.int x1), some (.int 0)]) dX12_back_49 rfl (by decide) rfl) ?_
      exact ao_w (sb_s (sb_s (sb_s sb_0))) (l_X12_back_50 2000 h32 a0 x1 0)
