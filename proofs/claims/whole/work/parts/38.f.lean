def b_X12_joins_43 (h : aH) (a0 : Nat) (x1 : Int32) (x2 : Int32) (x3 : Int32) (x4 : Int32) (s0 : Int32) : Option (Int32 × aH) :=
(if (sh a0).1 = 19 then
(aBind (f_X12_pays h a0 x3 x4 s0) fun r22 h23 =>
((hR h23 a0 20).bind fun b24 =>
(aLet (x3 + 1) fun x25 =>
(if (sh b24).1 = 0 then
(if aIn x25 (sh b24).2 then
(aLet (pI h23 b24 x25.toNatClampNeg x2) fun h27 =>
((hR h27 a0 20).bind fun b28 =>
(aLet (x4 + 1) fun x29 =>
(if (sh b28).1 = 0 then
(if aIn x29 (sh b28).2 then
(aLet (pI h27 b28 x29.toNatClampNeg x1) fun h31 =>
((hR h31 a0 20).bind fun b32 =>
(aLet (x3 + 2) fun x33 =>
(if (sh b32).1 = 0 then
(if aIn x33 (sh b32).2 then
(aLet (pI h31 b32 x33.toNatClampNeg 0) fun h35 =>
((hR h35 a0 20).bind fun b36 =>
(aLet (x4 + 2) fun x37 =>
(if (sh b36).1 = 0 then
(if aIn x37 (sh b36).2 then
(aLet (pI h35 b36 x37.toNatClampNeg 0) fun h39 =>
((hR h39 a0 20).bind fun b40 =>
(aLet (x3 + 3) fun x41 =>
(if (sh b40).1 = 0 then
(if aIn x41 (sh b40).2 then
(if aIn x41 (sh b40).2 then
(aLet (pI h39 b40 x41.toNatClampNeg ((hI h39 b40 x41.toNatClampNeg) + 1)) fun h43 =>
((hR h43 a0 20).bind fun b44 =>
(aLet (x4 + 3) fun x45 =>
(if (sh b44).1 = 0 then
(if aIn x45 (sh b44).2 then
(if aIn x45 (sh b44).2 then
(aLet (pI h43 b44 x45.toNatClampNeg ((hI h43 b44 x45.toNatClampNeg) + 1)) fun h47 =>
some (s0, h47))
else none)
else none)
else none))))
else none)
else none)
else none))))
else none)
else none))))
else none)
else none))))
else none)
else none))))
else none)
else none))))
else none)
set_option maxHeartbeats 2000000 in
theorem t_X12_joins_43 (h : aH) (a0 : Nat) (x1 : Int32) (x2 : Int32) (x3 : Int32) (x4 : Int32) (s0 : Int32) : AO eI 3 kX12_joins 43 [some (.ref a0), some (.int x1), some (.int x2), some (.int x3), some (.int x4), none] [.int s0] h (b_X12_joins_43 h a0 x1 x2 x3 x4 s0) := by
  unfold b_X12_joins_43
  refine ao_s (st_istore (lv' := [some (.ref a0), some (.int x1), some (.int x2), some (.int x3), some (.int x4), some (.int s0)]) dX12_joins_43 (by decide) rfl) ?_
  refine ao_s (st_aload_n dX12_joins_45 rfl rfl) ?_
  refine ao_s (st_iload_n dX12_joins_46 rfl rfl) ?_
  refine ao_s (st_iload dX12_joins_47 rfl) ?_
  refine ao_s (st_iload dX12_joins_49 rfl) ?_
  refine ao_chk (fun e21 => ?_)
  refine ao_cVv (Kc := kX12_pays) (As := [.int x3, .int x4, .int s0]) (st := []) dX12_joins_51 ml_X12_332 mv_X12_pays rfl e21 (by decide) rfl rfl (Nat.le_of_ble_eq_true rfl) (by decide) (s_X12_pays h a0 x3 x4 s0) (fun r22 h23 => ?_)
  refine ao_s (st_aload_n dX12_joins_54 rfl rfl) ?_
  refine ao_getR dX12_joins_55 fl_X12_39 rfl e21 (fun b24 => ?_)
  refine ao_s (st_iload_n dX12_joins_58 rfl rfl) ?_
  refine ao_s (st_iconst dX12_joins_59 ic_1) ?_
  refine ao_s (st_iadd dX12_joins_60) ?_
  refine ao_s (st_iload_n dX12_joins_61 rfl rfl) ?_
  refine ao_let2 (fun x25 => ?_)
  refine ao_chk (fun e26 => ?_)
  refine ao_iast dX12_joins_62 e26 ?_
  refine ao_letH (fun h27 => ?_)
  refine ao_s (st_aload_n dX12_joins_63 rfl rfl) ?_
  refine ao_getR dX12_joins_64 fl_X12_39 rfl e21 (fun b28 => ?_)
  refine ao_s (st_iload dX12_joins_67 rfl) ?_
  refine ao_s (st_iconst dX12_joins_69 ic_1) ?_
  refine ao_s (st_iadd dX12_joins_70) ?_
  refine ao_s (st_iload_n dX12_joins_71 rfl rfl) ?_
  refine ao_let2 (fun x29 => ?_)
  refine ao_chk (fun e30 => ?_)
  refine ao_iast dX12_joins_72 e30 ?_
  refine ao_letH (fun h31 => ?_)
  refine ao_s (st_aload_n dX12_joins_73 rfl rfl) ?_
  refine ao_getR dX12_joins_74 fl_X12_39 rfl e21 (fun b32 => ?_)
  refine ao_s (st_iload_n dX12_joins_77 rfl rfl) ?_
  refine ao_s (st_iconst dX12_joins_78 ic_2) ?_
  refine ao_s (st_iadd dX12_joins_79) ?_
  refine ao_s (st_iconst dX12_joins_80 ic_0) ?_
  refine ao_let2 (fun x33 => ?_)
  refine ao_chk (fun e34 => ?_)
  refine ao_iast dX12_joins_81 e34 ?_
  refine ao_letH (fun h35 => ?_)
  refine ao_s (st_aload_n dX12_joins_82 rfl rfl) ?_
  refine ao_getR dX12_joins_83 fl_X12_39 rfl e21 (fun b36 => ?_)
  refine ao_s (st_iload dX12_joins_86 rfl) ?_
  refine ao_s (st_iconst dX12_joins_88 ic_2) ?_
  refine ao_s (st_iadd dX12_joins_89) ?_
  refine ao_s (st_iconst dX12_joins_90 ic_0) ?_
  refine ao_let2 (fun x37 => ?_)
  refine ao_chk (fun e38 => ?_)
  refine ao_iast dX12_joins_91 e38 ?_
  refine ao_letH (fun h39 => ?_)
  refine ao_s (st_aload_n dX12_joins_92 rfl rfl) ?_
  refine ao_getR dX12_joins_93 fl_X12_39 rfl e21 (fun b40 => ?_)
  refine ao_s (st_iload_n dX12_joins_96 rfl rfl) ?_
  refine ao_s (st_iconst dX12_joins_97 ic_3) ?_
  refine ao_s (st_iadd dX12_joins_98) ?_
  refine ao_letI (fun x41 => ?_)
  refine ao_s (st_dup2 dX12_joins_99 rfl rfl) ?_
  refine ao_chk (fun e42 => ?_)
  refine ao_iald dX12_joins_100 e42 ?_
  refine ao_s (st_iconst dX12_joins_101 ic_1) ?_
  refine ao_s (st_iadd dX12_joins_102) ?_
  refine ao_iast dX12_joins_103 e42 ?_
  refine ao_letH (fun h43 => ?_)
  refine ao_s (st_aload_n dX12_joins_104 rfl rfl) ?_
  refine ao_getR dX12_joins_105 fl_X12_39 rfl e21 (fun b44 => ?_)
  refine ao_s (st_iload dX12_joins_108 rfl) ?_
  refine ao_s (st_iconst dX12_joins_110 ic_3) ?_
  refine ao_s (st_iadd dX12_joins_111) ?_
  refine ao_letI (fun x45 => ?_)
  refine ao_s (st_dup2 dX12_joins_112 rfl rfl) ?_
  refine ao_chk (fun e46 => ?_)
  refine ao_iald dX12_joins_113 e46 ?_
  refine ao_s (st_iconst dX12_joins_114 ic_1) ?_
  refine ao_s (st_iadd dX12_joins_115) ?_
  refine ao_iast dX12_joins_116 e46 ?_
  refine ao_letH (fun h47 => ?_)
  refine ao_s (st_iload dX12_joins_117 rfl) ?_
  exact ao_ir dX12_joins_119 rfl rfl
def f_X12_joins (h : aH) (a0 : Nat) (x1 : Int32) (x2 : Int32) : Option (Int32 × aH) :=
(aBind (f_X12_placeOf h 0 x1) fun r21 h22 =>
(aBind (f_X12_placeOf h22 1 x2) fun r23 h24 =>
(if (sh a0).1 = 19 then
((hR h24 a0 20).bind fun b26 =>
(if (sh b26).1 = 0 then
(if aIn r21 (sh b26).2 then
((hR h24 a0 20).bind fun b28 =>
(if (sh b28).1 = 0 then
(if aIn 1 (sh b28).2 then
(if hI h24 b28 (1 : Int32).toNatClampNeg ≤ hI h24 b26 r21.toNatClampNeg then
((hR h24 a0 20).bind fun b30 =>
(if (sh b30).1 = 0 then
(if aIn 1 (sh b30).2 then
b_X12_joins_43 h24 a0 x1 x2 r21 r23 (hI h24 b30 (1 : Int32).toNatClampNeg)
else none)
else none))
else
((hR h24 a0 20).bind fun b32 =>
(if (sh b32).1 = 0 then
(if aIn r21 (sh b32).2 then
b_X12_joins_43 h24 a0 x1 x2 r21 r23 (hI h24 b32 r21.toNatClampNeg)
else none)
else none)))
else none)
else none))
else none)
else none))
else none)))
set_option maxHeartbeats 2000000 in
theorem s_X12_joins (h : aH) (a0 : Nat) (x1 : Int32) (x2 : Int32) : SO eI 3 kX12_joins [.ref a0, .int x1, .int x2] h (f_X12_joins h a0 x1 x2) := by
  refine so_of (lv0 := [some (.ref a0), some (.int x1), some (.int x2), none, none, none]) pn_X12 (Nat.le_of_ble_eq_true rfl) rfl ?_
  unfold f_X12_joins
  refine ao_s (st_iconst dX12_joins_0 ic_0) ?_
  refine ao_s (st_iload_n dX12_joins_1 rfl rfl) ?_
  refine ao_cSi (Kc := kX12_placeOf) (As := [.int 0, .int x1]) (st := []) dX12_joins_2 ml_X12_297 ms_X12_placeOf rfl rfl (Nat.le_of_ble_eq_true rfl) (by decide) (s_X12_placeOf h 0 x1) (fun r21 h22 => ?_)
  refine ao_s (st_istore_n (lv' := [some (.ref a0), some (.int x1), some (.int x2), some (.int r21), none, none]) dX12_joins_5 rfl (by decide) rfl) ?_
  refine ao_s (st_iconst dX12_joins_6 ic_1) ?_
  refine ao_s (st_iload_n dX12_joins_7 rfl rfl) ?_
  refine ao_cSi (Kc := kX12_placeOf) (As := [.int 1, .int x2]) (st := []) dX12_joins_8 ml_X12_297 ms_X12_placeOf rfl rfl (Nat.le_of_ble_eq_true rfl) (by decide) (s_X12_placeOf h22 1 x2) (fun r23 h24 => ?_)
  refine ao_s (st_istore (lv' := [some (.ref a0), some (.int x1), some (.int x2), some (.int r21), some (.int r23), none]) dX12_joins_11 (by decide) rfl) ?_
  refine ao_s (st_aload_n dX12_joins_13 rfl rfl) ?_
  refine ao_chk (fun e25 => ?_)
  refine ao_getR dX12_joins_14 fl_X12_39 rfl e25 (fun b26 => ?_)
  refine ao_s (st_iload_n dX12_joins_17 rfl rfl) ?_
  refine ao_chk (fun e27 => ?_)
  refine ao_iald dX12_joins_18 e27 ?_
  refine ao_s (st_aload_n dX12_joins_19 rfl rfl) ?_
  refine ao_getR dX12_joins_20 fl_X12_39 rfl e25 (fun b28 => ?_)
  refine ao_s (st_iconst dX12_joins_23 ic_1) ?_
  refine ao_chk (fun e29 => ?_)
  refine ao_iald dX12_joins_24 e29 ?_
  refine ao_br (br_icmp_ge (tgt := 37) dX12_joins_25 (by decide)) (fun c34 => ?_) (fun c34 => ?_)
  · refine ao_s (st_aload_n dX12_joins_37 rfl rfl) ?_
    refine ao_getR dX12_joins_38 fl_X12_39 rfl e25 (fun b30 => ?_)
    refine ao_s (st_iconst dX12_joins_41 ic_1) ?_
    refine ao_chk (fun e31 => ?_)
    refine ao_iald dX12_joins_42 e31 ?_
    exact ao_w (sb_s (sb_s (sb_s (sb_s (sb_s (sb_n sb_0)))))) (t_X12_joins_43 h24 a0 x1 x2 r21 r23 (hI h24 b30 (1 : Int32).toNatClampNeg))
  · refine ao_s (st_aload_n dX12_joins_28 rfl rfl) ?_
    refine ao_getR dX12_joins_29 fl_X12_39 rfl e25 (fun b32 => ?_)
    refine ao_s (st_iload_n dX12_joins_32 rfl rfl) ?_
    refine ao_chk (fun e33 => ?_)
    refine ao_iald dX12_joins_33 e33 ?_
    refine ao_s (st_goto 43 dX12_joins_34 (by decide)) ?_
    exact ao_w (sb_s (sb_s (sb_s (sb_s (sb_s (sb_n sb_0)))))) (t_X12_joins_43 h24 a0 x1 x2 r21 r23 (hI h24 b32 r21.toNatClampNeg))
def b_X12_partsFrom_53 (h : aH) (a0 : Nat) (x2 : Int32) (x3 : Int32) (s0 : Int32) : Option (Int32 × aH) :=
(if (sh a0).1 = 19 then
(aBind (f_X12_pays h a0 x3 x2 s0) fun r22 h23 =>
((hR h23 a0 20).bind fun b24 =>
(aLet (x2 + 1) fun x25 =>
(if (sh b24).1 = 0 then
(if aIn x25 (sh b24).2 then
(aLet (pI h23 b24 x25.toNatClampNeg (-1)) fun h27 =>
((hR h27 a0 20).bind fun b28 =>
(aLet (x3 + 1) fun x29 =>
(if (sh b28).1 = 0 then
(if aIn x29 (sh b28).2 then
(aLet (pI h27 b28 x29.toNatClampNeg (-1)) fun h31 =>
((hR h31 a0 20).bind fun b32 =>
(aLet (x2 + 2) fun x33 =>
(if (sh b32).1 = 0 then
(if aIn x33 (sh b32).2 then
(aLet (pI h31 b32 x33.toNatClampNeg 0) fun h35 =>
((hR h35 a0 20).bind fun b36 =>
(aLet (x3 + 2) fun x37 =>
(if (sh b36).1 = 0 then
(if aIn x37 (sh b36).2 then
(aLet (pI h35 b36 x37.toNatClampNeg 0) fun h39 =>
some (s0, h39))
else none)
else none))))
else none)
else none))))
else none)
else none))))
else none)
else none))))
else none)
set_option maxHeartbeats 2000000 in
theorem t_X12_partsFrom_53 (h : aH) (a0 : Nat) (x2 : Int32) (x3 : Int32) (s0 : Int32) : AO eI 3 kX12_partsFrom 53 [some (.ref a0), none, some (.int x2), some (.int x3), none] [.int s0] h (b_X12_partsFrom_53 h a0 x2 x3 s0) := by
  unfold b_X12_partsFrom_53
  refine ao_s (st_istore (lv' := [some (.ref a0), none, some (.int x2), some (.int x3), some (.int s0)]) dX12_partsFrom_53 (by decide) rfl) ?_
  refine ao_s (st_aload_n dX12_partsFrom_55 rfl rfl) ?_
  refine ao_s (st_iload_n dX12_partsFrom_56 rfl rfl) ?_
  refine ao_s (st_iload_n dX12_partsFrom_57 rfl rfl) ?_
  refine ao_s (st_iload dX12_partsFrom_58 rfl) ?_
  refine ao_chk (fun e21 => ?_)
  refine ao_cVv (Kc := kX12_pays) (As := [.int x3, .int x2, .int s0]) (st := []) dX12_partsFrom_60 ml_X12_332 mv_X12_pays rfl e21 (by decide) rfl rfl (Nat.le_of_ble_eq_true rfl) (by decide) (s_X12_pays h a0 x3 x2 s0) (fun r22 h23 => ?_)
  refine ao_s (st_aload_n dX12_partsFrom_63 rfl rfl) ?_
  refine ao_getR dX12_partsFrom_64 fl_X12_39 rfl e21 (fun b24 => ?_)
  refine ao_s (st_iload_n dX12_partsFrom_67 rfl rfl) ?_
  refine ao_s (st_iconst dX12_partsFrom_68 ic_1) ?_
  refine ao_s (st_iadd dX12_partsFrom_69) ?_
  refine ao_s (st_iconst dX12_partsFrom_70 ic_m1) ?_
  refine ao_let2 (fun x25 => ?_)
  refine ao_chk (fun e26 => ?_)
  refine ao_iast dX12_partsFrom_71 e26 ?_
  refine ao_letH (fun h27 => ?_)
  refine ao_s (st_aload_n dX12_partsFrom_72 rfl rfl) ?_
  refine ao_getR dX12_partsFrom_73 fl_X12_39 rfl e21 (fun b28 => ?_)
  refine ao_s (st_iload_n dX12_partsFrom_76 rfl rfl) ?_
  refine ao_s (st_iconst dX12_partsFrom_77 ic_1) ?_
  refine ao_s (st_iadd dX12_partsFrom_78) ?_
  refine ao_s (st_iconst dX12_partsFrom_79 ic_m1) ?_
  refine ao_let2 (fun x29 => ?_)
  refine ao_chk (fun e30 => ?_)
  refine ao_iast dX12_partsFrom_80 e30 ?_
  refine ao_letH (fun h31 => ?_)
  refine ao_s (st_aload_n dX12_partsFrom_81 rfl rfl) ?_
  refine ao_getR dX12_partsFrom_82 fl_X12_39 rfl e21 (fun b32 => ?_)
  refine ao_s (st_iload_n dX12_partsFrom_85 rfl rfl) ?_
  refine ao_s (st_iconst dX12_partsFrom_86 ic_2) ?_
  refine ao_s (st_iadd dX12_partsFrom_87) ?_
  refine ao_s (st_iconst dX12_partsFrom_88 ic_0) ?_
  refine ao_let2 (fun x33 => ?_)
  refine ao_chk (fun e34 => ?_)
  refine ao_iast dX12_partsFrom_89 e34 ?_
  refine ao_letH (fun h35 => ?_)
  refine ao_s (st_aload_n dX12_partsFrom_90 rfl rfl) ?_
  refine ao_getR dX12_partsFrom_91 fl_X12_39 rfl e21 (fun b36 => ?_)
  refine ao_s (st_iload_n dX12_partsFrom_94 rfl rfl) ?_
  refine ao_s (st_iconst dX12_partsFrom_95 ic_2) ?_
  refine ao_s (st_iadd dX12_partsFrom_96) ?_
  refine ao_s (st_iconst dX12_partsFrom_97 ic_0) ?_
  refine ao_let2 (fun x37 => ?_)
  refine ao_chk (fun e38 => ?_)
  refine ao_iast dX12_partsFrom_98 e38 ?_
  refine ao_letH (fun h39 => ?_)
  refine ao_s (st_iload dX12_partsFrom_99 rfl) ?_
  exact ao_ir dX12_partsFrom_101 rfl rfl
def f_X12_partsFrom (h : aH) (a0 : Nat) (x1 : Int32) : Option (Int32 × aH) :=
(aBind (f_X12_placeOf h 0 x1) fun r21 h22 =>
(if (sh a0).1 = 19 then
((hR h22 a0 20).bind fun b24 =>
(aLet (r21 + 1) fun x25 =>
(if (sh b24).1 = 0 then
(if aIn x25 (sh b24).2 then
(aBind (f_X12_placeOf h22 1 (hI h22 b24 x25.toNatClampNeg)) fun r27 h28 =>
((hR h28 a0 20).bind fun b29 =>
(if (sh b29).1 = 0 then
(if aIn r27 (sh b29).2 then
((hR h28 a0 20).bind fun b31 =>
(if (sh b31).1 = 0 then
(if aIn 1 (sh b31).2 then
(if (hI h28 b31 (1 : Int32).toNatClampNeg) / 2 ≤ hI h28 b29 r27.toNatClampNeg then
((hR h28 a0 20).bind fun b33 =>
(if (sh b33).1 = 0 then
(if aIn 1 (sh b33).2 then
b_X12_partsFrom_53 h28 a0 r21 r27 ((hI h28 b33 (1 : Int32).toNatClampNeg) / 2)
else none)
else none))
else
((hR h28 a0 20).bind fun b35 =>
(if (sh b35).1 = 0 then
(if aIn r27 (sh b35).2 then
b_X12_partsFrom_53 h28 a0 r21 r27 (hI h28 b35 r27.toNatClampNeg)
else none)
else none)))
else none)
else none))
else none)
else none)))
else none)
else none)))
else none))
set_option maxHeartbeats 2000000 in
theorem s_X12_partsFrom (h : aH) (a0 : Nat) (x1 : Int32) : SO eI 3 kX12_partsFrom [.ref a0, .int x1] h (f_X12_partsFrom h a0 x1) := by
  refine so_of (lv0 := [some (.ref a0), some (.int x1), none, none, none]) pn_X12 (Nat.le_of_ble_eq_true rfl) rfl ?_
  unfold f_X12_partsFrom
  refine ao_s (st_iconst dX12_partsFrom_0 ic_0) ?_
  refine ao_s (st_iload_n dX12_partsFrom_1 rfl rfl) ?_
  refine ao_cSi (Kc := kX12_placeOf) (As := [.int 0, .int x1]) (st := []) dX12_partsFrom_2 ml_X12_297 ms_X12_placeOf rfl rfl (Nat.le_of_ble_eq_true rfl) (by decide) (s_X12_placeOf h 0 x1) (fun r21 h22 => ?_)
  refine ao_s (st_istore_n (lv' := [some (.ref a0), some (.int x1), some (.int r21), none, none]) dX12_partsFrom_5 rfl (by decide) rfl) ?_
  refine ao_s (st_iconst dX12_partsFrom_6 ic_1) ?_
  refine ao_s (st_aload_n dX12_partsFrom_7 rfl rfl) ?_
  refine ao_chk (fun e23 => ?_)
  refine ao_getR dX12_partsFrom_8 fl_X12_39 rfl e23 (fun b24 => ?_)
  refine ao_s (st_iload_n dX12_partsFrom_11 rfl rfl) ?_
  refine ao_s (st_iconst dX12_partsFrom_12 ic_1) ?_
  refine ao_s (st_iadd dX12_partsFrom_13) ?_
  refine ao_letI (fun x25 => ?_)
  refine ao_chk (fun e26 => ?_)
  refine ao_iald dX12_partsFrom_14 e26 ?_
  refine ao_cSi (Kc := kX12_placeOf) (As := [.int 1, .int (hI h22 b24 x25.toNatClampNeg)]) (st := []) dX12_partsFrom_15 ml_X12_297 ms_X12_placeOf rfl rfl (Nat.le_of_ble_eq_true rfl) (by decide) (s_X12_placeOf h22 1 (hI h22 b24 x25.toNatClampNeg)) (fun r27 h28 => ?_)
  refine ao_s (st_istore_n (lv' := [some (.ref a0), some (.int x1), some (.int r21), some (.int r27), none]) dX12_partsFrom_18 rfl (by decide) rfl) ?_
  refine ao_s (st_aload_n dX12_partsFrom_19 rfl rfl) ?_
  refine ao_getR dX12_partsFrom_20 fl_X12_39 rfl e23 (fun b29 => ?_)
  refine ao_s (st_iload_n dX12_partsFrom_23 rfl rfl) ?_
  refine ao_chk (fun e30 => ?_)
  refine ao_iald dX12_partsFrom_24 e30 ?_
  refine ao_s (st_aload_n dX12_partsFrom_25 rfl rfl) ?_
  refine ao_getR dX12_partsFrom_26 fl_X12_39 rfl e23 (fun b31 => ?_)
  refine ao_s (st_iconst dX12_partsFrom_29 ic_1) ?_
  refine ao_chk (fun e32 => ?_)
  refine ao_iald dX12_partsFrom_30 e32 ?_
  refine ao_s (st_iconst dX12_partsFrom_31 ic_2) ?_
  refine ao_s (st_idiv dX12_partsFrom_32 (by decide)) ?_
  refine ao_br (br_icmp_ge (tgt := 45) dX12_partsFrom_33 (by decide)) (fun c37 => ?_) (fun c37 => ?_)
  · refine ao_s (st_aload_n dX12_partsFrom_45 rfl rfl) ?_
    refine ao_getR dX12_partsFrom_46 fl_X12_39 rfl e23 (fun b33 => ?_)
    refine ao_s (st_iconst dX12_partsFrom_49 ic_1) ?_
    refine ao_chk (fun e34 => ?_)
    refine ao_iald dX12_partsFrom_50 e34 ?_
    refine ao_s (st_iconst dX12_partsFrom_51 ic_2) ?_
    refine ao_s (st_idiv dX12_partsFrom_52 (by decide)) ?_
    exact ao_w (sb_s (sb_n (sb_s (sb_s (sb_n sb_0))))) (t_X12_partsFrom_53 h28 a0 r21 r27 ((hI h28 b33 (1 : Int32).toNatClampNeg) / 2))
  · refine ao_s (st_aload_n dX12_partsFrom_36 rfl rfl) ?_
    refine ao_getR dX12_partsFrom_37 fl_X12_39 rfl e23 (fun b35 => ?_)
    refine ao_s (st_iload_n dX12_partsFrom_40 rfl rfl) ?_
    refine ao_chk (fun e36 => ?_)
    refine ao_iald dX12_partsFrom_41 e36 ?_
    refine ao_s (st_goto 53 dX12_partsFrom_42 (by decide)) ?_
    exact ao_w (sb_s (sb_n (sb_s (sb_s (sb_n sb_0))))) (t_X12_partsFrom_53 h28 a0 r21 r27 (hI h28 b35 r27.toNatClampNeg))
def b_X12_summedBy_58 (h : aH) (a0 : Nat) (x1 : Int32) (x3 : Int32) : Option (Int64 × aH) :=
(if (sh a0).1 = 19 then
((hR h a0 5).bind fun b22 =>
(if (sh b22).1 = 0 then
(if aIn x3 (sh b22).2 then
((hR h a0 5).bind fun b24 =>
(aLet (x3 + 1) fun x25 =>
(if (sh b24).1 = 0 then
(if aIn x25 (sh b24).2 then
(aBind (f_X12_reckons h a0 x1 (hI h b22 x3.toNatClampNeg) (hI h b24 x25.toNatClampNeg)) fun r27 h28 =>
some (r27, h28))
else none)
else none)))
else none)
else none))
else none)
set_option maxHeartbeats 2000000 in
theorem t_X12_summedBy_58 (h : aH) (a0 : Nat) (x1 : Int32) (x3 : Int32) : AO eL 4 kX12_summedBy 58 [some (.ref a0), some (.int x1), none, some (.int x3)] [] h (b_X12_summedBy_58 h a0 x1 x3) := by
  unfold b_X12_summedBy_58
  refine ao_s (st_aload_n dX12_summedBy_58 rfl rfl) ?_
  refine ao_s (st_iload_n dX12_summedBy_59 rfl rfl) ?_
  refine ao_s (st_aload_n dX12_summedBy_60 rfl rfl) ?_
  refine ao_chk (fun e21 => ?_)
  refine ao_getR dX12_summedBy_61 fl_X12_20 rfl e21 (fun b22 => ?_)
  refine ao_s (st_iload_n dX12_summedBy_64 rfl rfl) ?_
  refine ao_chk (fun e23 => ?_)
  refine ao_iald dX12_summedBy_65 e23 ?_
  refine ao_s (st_aload_n dX12_summedBy_66 rfl rfl) ?_
  refine ao_getR dX12_summedBy_67 fl_X12_20 rfl e21 (fun b24 => ?_)
  refine ao_s (st_iload_n dX12_summedBy_70 rfl rfl) ?_
  refine ao_s (st_iconst dX12_summedBy_71 ic_1) ?_
  refine ao_s (st_iadd dX12_summedBy_72) ?_
  refine ao_letI (fun x25 => ?_)
  refine ao_chk (fun e26 => ?_)
  refine ao_iald dX12_summedBy_73 e26 ?_
  refine ao_cVl (Kc := kX12_reckons) (As := [.int x1, .int (hI h b22 x3.toNatClampNeg), .int (hI h b24 x25.toNatClampNeg)]) (st := []) dX12_summedBy_74 ml_X12_336 mv_X12_reckons rfl e21 (by decide) rfl rfl (Nat.le_of_ble_eq_true rfl) (by decide) (s_X12_reckons h a0 x1 (hI h b22 x3.toNatClampNeg) (hI h b24 x25.toNatClampNeg)) (fun r27 h28 => ?_)
  exact ao_lr dX12_summedBy_77 rfl
def b_X12_summedBy_2 (k2 : aH → Nat → Int32 → Int32 → Option (Int64 × aH)) (h : aH) (a0 : Nat) (x1 : Int32) (x2 : Int32) : Option (Int64 × aH) :=
(if (sh a0).1 = 19 then
((hR h a0 6).bind fun b22 =>
(if (sh b22).1 = 0 then
(if aIn x1 (sh b22).2 then
(if hI h b22 x1.toNatClampNeg ≤ x2 then
some (0, h)
else
(aLet ((48 * x1) + (4 * x2)) fun x24 =>
((hR h a0 5).bind fun b25 =>
(aLet (x24 + 2) fun x26 =>
(if (sh b25).1 = 0 then
(if aIn x26 (sh b25).2 then
(if hI h b25 x26.toNatClampNeg < 0 then
b_X12_summedBy_58 h a0 x1 x24
else
((hR h a0 5).bind fun b28 =>
(aLet (x24 + 2) fun x29 =>
(if (sh b28).1 = 0 then
(if aIn x29 (sh b28).2 then
((hR h a0 5).bind fun b31 =>
(aLet (x24 + 3) fun x32 =>
(if (sh b31).1 = 0 then
(if aIn x32 (sh b31).2 then
(aBind (f_X12_reckons h a0 x1 (hI h b28 x29.toNatClampNeg) (hI h b31 x32.toNatClampNeg)) fun r34 h35 =>
(if lg_cmp r34 1 = 0 then
b_X12_summedBy_58 h35 a0 x1 x24
else
k2 h35 a0 x1 (x2 + 1)))
else none)
else none)))
else none)
else none))))
else none)
else none)))))
else none)
else none))
else none)
set_option maxHeartbeats 2000000 in
theorem t_X12_summedBy_2 {k2 : aH → Nat → Int32 → Int32 → Option (Int64 × aH)} (hk2 : ∀ (h : aH) (a0 : Nat) (x1 : Int32) (x2 : Int32), AO eL 4 kX12_summedBy 2 [some (.ref a0), some (.int x1), some (.int x2), none] [] h (k2 h a0 x1 x2)) (h : aH) (a0 : Nat) (x1 : Int32) (x2 : Int32) : AO eL 4 kX12_summedBy 2 [some (.ref a0), some (.int x1), some (.int x2), none] [] h (b_X12_summedBy_2 k2 h a0 x1 x2) := by
  unfold b_X12_summedBy_2
  refine ao_s (st_iload_n dX12_summedBy_2 rfl rfl) ?_
  refine ao_s (st_aload_n dX12_summedBy_3 rfl rfl) ?_
  refine ao_chk (fun e21 => ?_)
  refine ao_getR dX12_summedBy_4 fl_X12_23 rfl e21 (fun b22 => ?_)
  refine ao_s (st_iload_n dX12_summedBy_7 rfl rfl) ?_
  refine ao_chk (fun e23 => ?_)
  refine ao_iald dX12_summedBy_8 e23 ?_
  refine ao_br (br_icmp_ge (tgt := 84) dX12_summedBy_9 (by decide)) (fun c38 => ?_) (fun c38 => ?_)
  · refine ao_s (st_lconst dX12_summedBy_84 lc_0) ?_
    exact ao_lr dX12_summedBy_85 rfl
  · refine ao_s (st_bipush dX12_summedBy_12 bp_48) ?_
    refine ao_s (st_iload_n dX12_summedBy_14 rfl rfl) ?_
    refine ao_s (st_imul dX12_summedBy_15) ?_
    refine ao_s (st_iconst dX12_summedBy_16 ic_4) ?_
    refine ao_s (st_iload_n dX12_summedBy_17 rfl rfl) ?_
    refine ao_s (st_imul dX12_summedBy_18) ?_
    refine ao_s (st_iadd dX12_summedBy_19) ?_
    refine ao_letI (fun x24 => ?_)
    refine ao_s (st_istore_n (lv' := [some (.ref a0), some (.int x1), some (.int x2), some (.int x24)]) dX12_summedBy_20 rfl (by decide) rfl) ?_
    refine ao_s (st_aload_n dX12_summedBy_21 rfl rfl) ?_
    refine ao_getR dX12_summedBy_22 fl_X12_20 rfl e21 (fun b25 => ?_)
    refine ao_s (st_iload_n dX12_summedBy_25 rfl rfl) ?_
    refine ao_s (st_iconst dX12_summedBy_26 ic_2) ?_
    refine ao_s (st_iadd dX12_summedBy_27) ?_
    refine ao_letI (fun x26 => ?_)
    refine ao_chk (fun e27 => ?_)
    refine ao_iald dX12_summedBy_28 e27 ?_
    refine ao_br (br_if_lt (tgt := 58) dX12_summedBy_29 (by decide)) (fun c37 => ?_) (fun c37 => ?_)
    · exact ao_w (sb_s (sb_s (sb_n (sb_s sb_0)))) (t_X12_summedBy_58 h a0 x1 x24)
    · refine ao_s (st_aload_n dX12_summedBy_32 rfl rfl) ?_
      refine ao_s (st_iload_n dX12_summedBy_33 rfl rfl) ?_
      refine ao_s (st_aload_n dX12_summedBy_34 rfl rfl) ?_
      refine ao_getR dX12_summedBy_35 fl_X12_20 rfl e21 (fun b28 => ?_)
      refine ao_s (st_iload_n dX12_summedBy_38 rfl rfl) ?_
      refine ao_s (st_iconst dX12_summedBy_39 ic_2) ?_
      refine ao_s (st_iadd dX12_summedBy_40) ?_
      refine ao_letI (fun x29 => ?_)
      refine ao_chk (fun e30 => ?_)
      refine ao_iald dX12_summedBy_41 e30 ?_
      refine ao_s (st_aload_n dX12_summedBy_42 rfl rfl) ?_
      refine ao_getR dX12_summedBy_43 fl_X12_20 rfl e21 (fun b31 => ?_)
      refine ao_s (st_iload_n dX12_summedBy_46 rfl rfl) ?_
      refine ao_s (st_iconst dX12_summedBy_47 ic_3) ?_
      refine ao_s (st_iadd dX12_summedBy_48) ?_
      refine ao_letI (fun x32 => ?_)
      refine ao_chk (fun e33 => ?_)
      refine ao_iald dX12_summedBy_49 e33 ?_
      refine ao_cVl (Kc := kX12_reckons) (As := [.int x1, .int (hI h b28 x29.toNatClampNeg), .int (hI h b31 x32.toNatClampNeg)]) (st := []) dX12_summedBy_50 ml_X12_336 mv_X12_reckons rfl e21 (by decide) rfl rfl (Nat.le_of_ble_eq_true rfl) (by decide) (s_X12_reckons h a0 x1 (hI h b28 x29.toNatClampNeg) (hI h b31 x32.toNatClampNeg)) (fun r34 h35 => ?_)
      refine ao_s (st_lconst dX12_summedBy_53 lc_1) ?_
      refine ao_s (st_lcmp dX12_summedBy_54) ?_
      refine ao_br (br_if_ne (tgt := 78) dX12_summedBy_55 (by decide)) (fun c36 => ?_) (fun c36 => ?_)
      · exact ao_w (sb_s (sb_s (sb_n (sb_s sb_0)))) (t_X12_summedBy_58 h35 a0 x1 x24)
      · refine ao_s (st_iinc (lv' := [some (.ref a0), some (.int x1), some (.int (x2 + 1)), some (.int x24)]) dX12_summedBy_78 rfl nc_1 (by decide) rfl) ?_
        refine ao_s (st_goto 2 dX12_summedBy_81 (by decide)) ?_
        exact ao_w (sb_s (sb_s (sb_s (sb_n sb_0)))) (hk2 h35 a0 x1 (x2 + 1))
def f_X12_summedBy_2 (n : Nat) : aH → Nat → Int32 → Int32 → Option (Int64 × aH) := aIt (fun _ _ _ _ => none) (fun k => b_X12_summedBy_2 k) n
theorem l_X12_summedBy_2 (n : Nat) : ∀ (h : aH) (a0 : Nat) (x1 : Int32) (x2 : Int32), AO eL 4 kX12_summedBy 2 [some (.ref a0), some (.int x1), some (.int x2), none] [] h (f_X12_summedBy_2 n h a0 x1 x2) := by
  induction n with
  | zero => intros; exact ao_none
  | succ n ih =>
    intro h a0 x1 x2
    exact t_X12_summedBy_2 ih h a0 x1 x2
def f_X12_summedBy (h : aH) (a0 : Nat) (x1 : Int32) : Option (Int64 × aH) :=
f_X12_summedBy_2 2000 h a0 x1 0
set_option maxHeartbeats 2000000 in
theorem s_X12_summedBy (h : aH) (a0 : Nat) (x1 : Int32) : SO eL 4 kX12_summedBy [.ref a0, .int x1] h (f_X12_summedBy h a0 x1) := by
  refine so_of (lv0 := [some (.ref a0), some (.int x1), none, none]) pn_X12 (Nat.le_of_ble_eq_true rfl) rfl ?_
  unfold f_X12_summedBy
  refine ao_s (st_iconst dX12_summedBy_0 ic_0) ?_
  refine ao_s (st_istore_n (lv' := [some (.ref a0), some (.int x1), some (.int 0), none]) dX12_summedBy_1 rfl (by decide) rfl) ?_
  exact ao_w (sb_s (sb_s (sb_s (sb_n sb_0)))) (l_X12_summedBy_2 2000 h a0 x1 0)
