def b_X4_searchBoats_111 (k29 : aH → Nat → Nat → Option Nat → Int32 → Int32 → Int32 → Option (Unit × aH)) (h : aH) (a0 : Nat) (a1 : Nat) (a2 : Option Nat) (x3 : Int32) (x4 : Int32) (x5 : Int32) : Option (Unit × aH) :=
k29 h a0 a1 a2 x3 x4 (x5 + 1)
set_option maxHeartbeats 2000000 in
theorem t_X4_searchBoats_111 {k29 : aH → Nat → Nat → Option Nat → Int32 → Int32 → Int32 → Option (Unit × aH)} (hk29 : ∀ (h : aH) (a0 : Nat) (a1 : Nat) (a2 : Option Nat) (x3 : Int32) (x4 : Int32) (x5 : Int32), AO eV 8 kX4_searchBoats 29 [some (.ref a0), some (.ref a1), some (va_rf a2), some (.int x3), some (.int x4), some (.int x5)] [] h (k29 h a0 a1 a2 x3 x4 x5)) (h : aH) (a0 : Nat) (a1 : Nat) (a2 : Option Nat) (x3 : Int32) (x4 : Int32) (x5 : Int32) : AO eV 8 kX4_searchBoats 111 [some (.ref a0), some (.ref a1), some (va_rf a2), some (.int x3), some (.int x4), some (.int x5)] [] h (b_X4_searchBoats_111 k29 h a0 a1 a2 x3 x4 x5) := by
  unfold b_X4_searchBoats_111
  refine ao_s (st_iinc (lv' := [some (.ref a0), some (.ref a1), some (va_rf a2), some (.int x3), some (.int x4), some (.int (x5 + 1))]) dX4_searchBoats_111 rfl nc_1 (by decide) rfl) ?_
  refine ao_s (st_goto 29 dX4_searchBoats_114 (by decide)) ?_
  exact ao_w (sb_s (sb_s (sb_s (sb_s (sb_s (sb_s sb_0)))))) (hk29 h a0 a1 a2 x3 x4 (x5 + 1))
def b_X4_searchBoats_94 (k29 : aH → Nat → Nat → Option Nat → Int32 → Int32 → Int32 → Option (Unit × aH)) (h : aH) (a0 : Nat) (a1 : Nat) (a2 : Option Nat) (x3 : Int32) (x4 : Int32) (x5 : Int32) (s0 : Int32) (s1 : Nat) : Option (Unit × aH) :=
(if (sh s1).1 = 11 then
(aLet (pI h s1 5 s0) fun h22 =>
(if (sh a0).1 = 11 then
(aLet (pI h22 a0 6 ((hI h22 a0 6) &&& x5)) fun h24 =>
b_X4_searchBoats_111 k29 h24 a0 a1 a2 x3 (x4 + 1) x5)
else none))
else none)
set_option maxHeartbeats 2000000 in
theorem t_X4_searchBoats_94 {k29 : aH → Nat → Nat → Option Nat → Int32 → Int32 → Int32 → Option (Unit × aH)} (hk29 : ∀ (h : aH) (a0 : Nat) (a1 : Nat) (a2 : Option Nat) (x3 : Int32) (x4 : Int32) (x5 : Int32), AO eV 8 kX4_searchBoats 29 [some (.ref a0), some (.ref a1), some (va_rf a2), some (.int x3), some (.int x4), some (.int x5)] [] h (k29 h a0 a1 a2 x3 x4 x5)) (h : aH) (a0 : Nat) (a1 : Nat) (a2 : Option Nat) (x3 : Int32) (x4 : Int32) (x5 : Int32) (s0 : Int32) (s1 : Nat) : AO eV 8 kX4_searchBoats 94 [some (.ref a0), some (.ref a1), some (va_rf a2), some (.int x3), some (.int x4), some (.int x5)] [.int s0, .ref s1] h (b_X4_searchBoats_94 k29 h a0 a1 a2 x3 x4 x5 s0 s1) := by
  unfold b_X4_searchBoats_94
  refine ao_chk (fun e21 => ?_)
  refine ao_putI dX4_searchBoats_94 fl_X4_29 rfl rfl rfl rfl e21 ?_
  refine ao_letH (fun h22 => ?_)
  refine ao_s (st_aload_n dX4_searchBoats_97 rfl rfl) ?_
  refine ao_s (st_dup dX4_searchBoats_98 rfl) ?_
  refine ao_chk (fun e23 => ?_)
  refine ao_getI dX4_searchBoats_99 fl_X4_32 rfl e23 ?_
  refine ao_s (st_iload dX4_searchBoats_102 rfl) ?_
  refine ao_s (st_iand dX4_searchBoats_104) ?_
  refine ao_putI dX4_searchBoats_105 fl_X4_32 rfl rfl rfl rfl e23 ?_
  refine ao_letH (fun h24 => ?_)
  refine ao_s (st_iinc (lv' := [some (.ref a0), some (.ref a1), some (va_rf a2), some (.int x3), some (.int (x4 + 1)), some (.int x5)]) dX4_searchBoats_108 rfl nc_1 (by decide) rfl) ?_
  exact ao_w (sb_s (sb_s (sb_s (sb_s (sb_s (sb_s sb_0)))))) (t_X4_searchBoats_111 hk29 h24 a0 a1 a2 x3 (x4 + 1) x5)
def b_X4_searchBoats_142 (h : aH) (s0 : Int32) (s1 : Nat) : Option (Unit × aH) :=
(if (sh s1).1 = 11 then
(aLet (pI h s1 6 s0) fun h22 =>
some ((), h22))
else none)
set_option maxHeartbeats 2000000 in
theorem t_X4_searchBoats_142 (h : aH) (s0 : Int32) (s1 : Nat) : AO eV 8 kX4_searchBoats 142 [none, none, none, none, none, none] [.int s0, .ref s1] h (b_X4_searchBoats_142 h s0 s1) := by
  unfold b_X4_searchBoats_142
  refine ao_chk (fun e21 => ?_)
  refine ao_putI dX4_searchBoats_142 fl_X4_32 rfl rfl rfl rfl e21 ?_
  refine ao_letH (fun h22 => ?_)
  exact ao_vr dX4_searchBoats_145 rfl
def b_X4_searchBoats_29 (k29 : aH → Nat → Nat → Option Nat → Int32 → Int32 → Int32 → Option (Unit × aH)) (h : aH) (a0 : Nat) (a1 : Nat) (a2 : Option Nat) (x3 : Int32) (x4 : Int32) (x5 : Int32) : Option (Unit × aH) :=
(if 1 <<< (x3 &&& 31) ≤ x5 then
(if (sh a0).1 = 11 then
(aLet (pI h a0 4 (x4 <<< ((8 - x3) &&& 31))) fun h22 =>
(if x4 = 0 then
b_X4_searchBoats_142 h22 0 a0
else
b_X4_searchBoats_142 h22 (hI h22 a0 6) a0))
else none)
else
(if (sh a0).1 = 11 then
((hR h a0 1).bind fun b25 =>
(if (sh a1).1 = 17 then
((hR h a1 0).bind fun b27 =>
(if (sh b25).1 = 15 then
(aBind (f_X8_copyFrom h b25 b27) fun r29 h30 =>
((hR h30 a0 1).bind fun b31 =>
((hR h30 a1 0).bind fun b32 =>
(if (sh b32).1 = 15 then
(if (sh b31).1 = 15 then
(aLet (pL h30 b31 6 (((hL h30 b32 6) &&& (-256)) ||| x5.toInt64)) fun h35 =>
(aBind (f_X4_fitsFromHere h35 a0 a1 a2) fun r36 h37 =>
(if r36 = 0 then
b_X4_searchBoats_111 k29 h37 a0 a1 a2 x3 x4 x5
else
(if x4 = 0 then
b_X4_searchBoats_94 k29 h37 a0 a1 a2 x3 x4 x5 x5 a0
else
b_X4_searchBoats_94 k29 h37 a0 a1 a2 x3 x4 x5 (hI h37 a0 5) a0))))
else none)
else none))))
else none))
else none))
else none))
set_option maxHeartbeats 2000000 in
theorem t_X4_searchBoats_29 {k29 : aH → Nat → Nat → Option Nat → Int32 → Int32 → Int32 → Option (Unit × aH)} (hk29 : ∀ (h : aH) (a0 : Nat) (a1 : Nat) (a2 : Option Nat) (x3 : Int32) (x4 : Int32) (x5 : Int32), AO eV 8 kX4_searchBoats 29 [some (.ref a0), some (.ref a1), some (va_rf a2), some (.int x3), some (.int x4), some (.int x5)] [] h (k29 h a0 a1 a2 x3 x4 x5)) (h : aH) (a0 : Nat) (a1 : Nat) (a2 : Option Nat) (x3 : Int32) (x4 : Int32) (x5 : Int32) : AO eV 8 kX4_searchBoats 29 [some (.ref a0), some (.ref a1), some (va_rf a2), some (.int x3), some (.int x4), some (.int x5)] [] h (b_X4_searchBoats_29 k29 h a0 a1 a2 x3 x4 x5) := by
  unfold b_X4_searchBoats_29
  refine ao_s (st_iload dX4_searchBoats_29 rfl) ?_
  refine ao_s (st_iconst dX4_searchBoats_31 ic_1) ?_
  refine ao_s (st_iload_n dX4_searchBoats_32 rfl rfl) ?_
  refine ao_s (st_ishl dX4_searchBoats_33) ?_
  refine ao_br (br_icmp_ge (tgt := 117) dX4_searchBoats_34 (by decide)) (fun c40 => ?_) (fun c40 => ?_)
  · refine ao_s (st_aload_n dX4_searchBoats_117 rfl rfl) ?_
    refine ao_s (st_iload dX4_searchBoats_118 rfl) ?_
    refine ao_s (st_bipush dX4_searchBoats_120 bp_8) ?_
    refine ao_s (st_iload_n dX4_searchBoats_122 rfl rfl) ?_
    refine ao_s (st_isub dX4_searchBoats_123) ?_
    refine ao_s (st_ishl dX4_searchBoats_124) ?_
    refine ao_chk (fun e21 => ?_)
    refine ao_putI dX4_searchBoats_125 fl_X4_26 rfl rfl rfl rfl e21 ?_
    refine ao_letH (fun h22 => ?_)
    refine ao_s (st_aload_n dX4_searchBoats_128 rfl rfl) ?_
    refine ao_s (st_iload dX4_searchBoats_129 rfl) ?_
    refine ao_br (br_if_ne (tgt := 138) dX4_searchBoats_131 (by decide)) (fun c23 => ?_) (fun c23 => ?_)
    · refine ao_s (st_iconst dX4_searchBoats_134 ic_0) ?_
      refine ao_s (st_goto 142 dX4_searchBoats_135 (by decide)) ?_
      exact ao_w (sb_n (sb_n (sb_n (sb_n (sb_n (sb_n sb_0)))))) (t_X4_searchBoats_142 h22 0 a0)
    · refine ao_s (st_aload_n dX4_searchBoats_138 rfl rfl) ?_
      refine ao_getI dX4_searchBoats_139 fl_X4_32 rfl e21 ?_
      exact ao_w (sb_n (sb_n (sb_n (sb_n (sb_n (sb_n sb_0)))))) (t_X4_searchBoats_142 h22 (hI h22 a0 6) a0)
  · refine ao_s (st_aload_n dX4_searchBoats_37 rfl rfl) ?_
    refine ao_chk (fun e24 => ?_)
    refine ao_getR dX4_searchBoats_38 fl_X4_14 rfl e24 (fun b25 => ?_)
    refine ao_s (st_aload_n dX4_searchBoats_41 rfl rfl) ?_
    refine ao_chk (fun e26 => ?_)
    refine ao_getR dX4_searchBoats_42 fl_X4_45 rfl e26 (fun b27 => ?_)
    refine ao_chk (fun e28 => ?_)
    refine ao_cVv (Kc := kX8_copyFrom) (As := [.ref b27]) (st := []) dX4_searchBoats_45 ml_X4_50 mv_X8_copyFrom rfl e28 (by decide) rfl rfl (Nat.le_of_ble_eq_true rfl) (by decide) (s_X8_copyFrom h b25 b27) (fun r29 h30 => ?_)
    refine ao_s (st_aload_n dX4_searchBoats_48 rfl rfl) ?_
    refine ao_getR dX4_searchBoats_49 fl_X4_14 rfl e24 (fun b31 => ?_)
    refine ao_s (st_aload_n dX4_searchBoats_52 rfl rfl) ?_
    refine ao_getR dX4_searchBoats_53 fl_X4_45 rfl e26 (fun b32 => ?_)
    refine ao_chk (fun e33 => ?_)
    refine ao_getL dX4_searchBoats_56 fl_X4_82 rfl e33 ?_
    refine ao_s (st_ldc2 dX4_searchBoats_59 cl_X4_86) ?_
    refine ao_s (st_land dX4_searchBoats_62) ?_
    refine ao_s (st_iload dX4_searchBoats_63 rfl) ?_
    refine ao_s (st_i2l dX4_searchBoats_65) ?_
    refine ao_s (st_lor dX4_searchBoats_66) ?_
    refine ao_chk (fun e34 => ?_)
    refine ao_putL dX4_searchBoats_67 fl_X4_82 rfl rfl rfl rfl e34 ?_
    refine ao_letH (fun h35 => ?_)
    refine ao_s (st_aload_n dX4_searchBoats_70 rfl rfl) ?_
    refine ao_s (st_aload_n dX4_searchBoats_71 rfl rfl) ?_
    refine ao_s (st_aload_nQ dX4_searchBoats_72 rfl rfl) ?_
    refine ao_cVi (Kc := kX4_fitsFromHere) (As := [.ref a1, va_rf a2]) (st := []) dX4_searchBoats_73 ml_X4_54 mv_X4_fitsFromHere rfl e24 (by decide) rfl rfl (Nat.le_of_ble_eq_true rfl) (by decide) (s_X4_fitsFromHere h35 a0 a1 a2) (fun r36 h37 => ?_)
    refine ao_br (br_if_eq (tgt := 111) dX4_searchBoats_76 (by decide)) (fun c39 => ?_) (fun c39 => ?_)
    · exact ao_w (sb_s (sb_s (sb_s (sb_s (sb_s (sb_s sb_0)))))) (t_X4_searchBoats_111 hk29 h37 a0 a1 a2 x3 x4 x5)
    · refine ao_s (st_aload_n dX4_searchBoats_79 rfl rfl) ?_
      refine ao_s (st_iload dX4_searchBoats_80 rfl) ?_
      refine ao_br (br_if_ne (tgt := 90) dX4_searchBoats_82 (by decide)) (fun c38 => ?_) (fun c38 => ?_)
      · refine ao_s (st_iload dX4_searchBoats_85 rfl) ?_
        refine ao_s (st_goto 94 dX4_searchBoats_87 (by decide)) ?_
        exact ao_w (sb_s (sb_s (sb_s (sb_s (sb_s (sb_s sb_0)))))) (t_X4_searchBoats_94 hk29 h37 a0 a1 a2 x3 x4 x5 x5 a0)
      · refine ao_s (st_aload_n dX4_searchBoats_90 rfl rfl) ?_
        refine ao_getI dX4_searchBoats_91 fl_X4_29 rfl e24 ?_
        exact ao_w (sb_s (sb_s (sb_s (sb_s (sb_s (sb_s sb_0)))))) (t_X4_searchBoats_94 hk29 h37 a0 a1 a2 x3 x4 x5 (hI h37 a0 5) a0)
def f_X4_searchBoats_29 (n : Nat) : aH → Nat → Nat → Option Nat → Int32 → Int32 → Int32 → Option (Unit × aH) := aIt (fun _ _ _ _ _ _ _ => none) (fun k => b_X4_searchBoats_29 k) n
theorem l_X4_searchBoats_29 (n : Nat) : ∀ (h : aH) (a0 : Nat) (a1 : Nat) (a2 : Option Nat) (x3 : Int32) (x4 : Int32) (x5 : Int32), AO eV 8 kX4_searchBoats 29 [some (.ref a0), some (.ref a1), some (va_rf a2), some (.int x3), some (.int x4), some (.int x5)] [] h (f_X4_searchBoats_29 n h a0 a1 a2 x3 x4 x5) := by
  induction n with
  | zero => intros; exact ao_none
  | succ n ih =>
    intro h a0 a1 a2 x3 x4 x5
    exact t_X4_searchBoats_29 ih h a0 a1 a2 x3 x4 x5
def f_X4_searchBoats (h : aH) (a0 : Nat) (a1 : Nat) (a2 : Option Nat) : Option (Unit × aH) :=
(if (sh a1).1 = 17 then
(aBind (f_X10_fairsToNotes h a1) fun r22 h23 =>
(aLet ((if r22 < 8 then r22 else 8)) fun x24 =>
(if (sh a0).1 = 11 then
(aLet (pI h23 a0 5 (-2)) fun h26 =>
(aLet (pI h26 a0 6 255) fun h27 =>
f_X4_searchBoats_29 2000 h27 a0 a1 a2 x24 0 0))
else none)))
else none)
set_option maxHeartbeats 2000000 in
theorem s_X4_searchBoats (h : aH) (a0 : Nat) (a1 : Nat) (a2 : Option Nat) : SO eV 8 kX4_searchBoats [.ref a0, .ref a1, va_rf a2] h (f_X4_searchBoats h a0 a1 a2) := by
  refine so_of (lv0 := [some (.ref a0), some (.ref a1), some (va_rf a2), none, none, none]) pn_X4 (by simp [aEn, aEnt, aCatN, aCatR, aCatQ, aCatL]) (by simp [aEn, aEnt, aCatN, aCatR, aCatQ, aCatL]) ?_
  unfold f_X4_searchBoats
  refine ao_s (st_bipush dX4_searchBoats_0 bp_8) ?_
  refine ao_s (st_aload_n dX4_searchBoats_2 rfl rfl) ?_
  refine ao_chk (fun e21 => ?_)
  refine ao_cVi (Kc := kX10_fairsToNotes) (As := []) (st := [.int 8]) dX4_searchBoats_3 ml_X4_58 mv_X10_fairsToNotes rfl e21 (by decide) rfl rfl (Nat.le_of_ble_eq_true rfl) (by decide) (s_X10_fairsToNotes h a1) (fun r22 h23 => ?_)
  refine ao_mmin dX4_searchBoats_6 ml_X4_76 (Nat.le_of_ble_eq_true rfl) (by decide) ?_
  refine ao_letI (fun x24 => ?_)
  refine ao_s (st_istore_n (lv' := [some (.ref a0), some (.ref a1), some (va_rf a2), some (.int x24), none, none]) dX4_searchBoats_9 rfl (by decide) (by cases a2 <;> rfl)) ?_
  refine ao_s (st_iconst dX4_searchBoats_10 ic_0) ?_
  refine ao_s (st_istore (lv' := [some (.ref a0), some (.ref a1), some (va_rf a2), some (.int x24), some (.int 0), none]) dX4_searchBoats_11 (by decide) rfl) ?_
  refine ao_s (st_aload_n dX4_searchBoats_13 rfl rfl) ?_
  refine ao_s (st_bipush dX4_searchBoats_14 bp_m2) ?_
  refine ao_chk (fun e25 => ?_)
  refine ao_putI dX4_searchBoats_16 fl_X4_29 rfl rfl rfl rfl e25 ?_
  refine ao_letH (fun h26 => ?_)
  refine ao_s (st_aload_n dX4_searchBoats_19 rfl rfl) ?_
  refine ao_s (st_sipush dX4_searchBoats_20 sp_255) ?_
  refine ao_putI dX4_searchBoats_23 fl_X4_32 rfl rfl rfl rfl e25 ?_
  refine ao_letH (fun h27 => ?_)
  refine ao_s (st_iconst dX4_searchBoats_26 ic_0) ?_
  refine ao_s (st_istore (lv' := [some (.ref a0), some (.ref a1), some (va_rf a2), some (.int x24), some (.int 0), some (.int 0)]) dX4_searchBoats_27 (by decide) rfl) ?_
  exact ao_w (sb_s (sb_s (sb_s (sb_s (sb_s (sb_s sb_0)))))) (l_X4_searchBoats_29 2000 h27 a0 a1 a2 x24 0 0)
def f_X4_startLook (h : aH) (a0 : Nat) : Option (Unit × aH) :=
(if (sh a0).1 = 11 then
(aLet (pI h a0 3 0) fun h22 =>
some ((), h22))
else none)
set_option maxHeartbeats 2000000 in
theorem s_X4_startLook (h : aH) (a0 : Nat) : SO eV 2 kX4_startLook [.ref a0] h (f_X4_startLook h a0) := by
  refine so_of (lv0 := [some (.ref a0)]) pn_X4 (Nat.le_of_ble_eq_true rfl) rfl ?_
  unfold f_X4_startLook
  refine ao_s (st_aload_n dX4_startLook_0 rfl rfl) ?_
  refine ao_s (st_iconst dX4_startLook_1 ic_0) ?_
  refine ao_chk (fun e21 => ?_)
  refine ao_putI dX4_startLook_2 fl_X4_22 rfl rfl rfl rfl e21 ?_
  refine ao_letH (fun h22 => ?_)
  exact ao_vr dX4_startLook_5 rfl
def b_X4_addToLook_79 (k79 : aH → Nat → Int32 → Option (Unit × aH)) (h : aH) (a0 : Nat) (x4 : Int32) : Option (Unit × aH) :=
(if 4 ≤ x4 then
(if (sh a0).1 = 11 then
(aLet (pI h a0 3 ((hI h a0 3) + 1)) fun h22 =>
some ((), h22))
else none)
else
(if (sh a0).1 = 11 then
((hR h a0 2).bind fun b24 =>
((hR h a0 1).bind fun b25 =>
(if (sh b25).1 = 15 then
(aBind (f_X8_partnerOf h b25 0 x4) fun r27 h28 =>
(aLet (((hI h a0 3) * 4) + x4) fun x29 =>
(if (sh b24).1 = 0 then
(if aIn x29 (sh b24).2 then
(aLet (pI h28 b24 x29.toNatClampNeg r27) fun h31 =>
k79 h31 a0 (x4 + 1))
else none)
else none)))
else none)))
else none))
set_option maxHeartbeats 2000000 in
theorem t_X4_addToLook_79 {k79 : aH → Nat → Int32 → Option (Unit × aH)} (hk79 : ∀ (h : aH) (a0 : Nat) (x4 : Int32), AO eV 8 kX4_addToLook 79 [some (.ref a0), none, none, none, some (.int x4)] [] h (k79 h a0 x4)) (h : aH) (a0 : Nat) (x4 : Int32) : AO eV 8 kX4_addToLook 79 [some (.ref a0), none, none, none, some (.int x4)] [] h (b_X4_addToLook_79 k79 h a0 x4) := by
  unfold b_X4_addToLook_79
  refine ao_s (st_iload dX4_addToLook_79 rfl) ?_
  refine ao_s (st_iconst dX4_addToLook_81 ic_4) ?_
  refine ao_br (br_icmp_ge (tgt := 115) dX4_addToLook_82 (by decide)) (fun c32 => ?_) (fun c32 => ?_)
  · refine ao_s (st_aload_n dX4_addToLook_115 rfl rfl) ?_
    refine ao_s (st_dup dX4_addToLook_116 rfl) ?_
    refine ao_chk (fun e21 => ?_)
    refine ao_getI dX4_addToLook_117 fl_X4_22 rfl e21 ?_
    refine ao_s (st_iconst dX4_addToLook_120 ic_1) ?_
    refine ao_s (st_iadd dX4_addToLook_121) ?_
    refine ao_putI dX4_addToLook_122 fl_X4_22 rfl rfl rfl rfl e21 ?_
    refine ao_letH (fun h22 => ?_)
    exact ao_vr dX4_addToLook_125 rfl
  · refine ao_s (st_aload_n dX4_addToLook_85 rfl rfl) ?_
    refine ao_chk (fun e23 => ?_)
    refine ao_getR dX4_addToLook_86 fl_X4_18 rfl e23 (fun b24 => ?_)
    refine ao_s (st_aload_n dX4_addToLook_89 rfl rfl) ?_
    refine ao_getI dX4_addToLook_90 fl_X4_22 rfl e23 ?_
    refine ao_s (st_iconst dX4_addToLook_93 ic_4) ?_
    refine ao_s (st_imul dX4_addToLook_94) ?_
    refine ao_s (st_iload dX4_addToLook_95 rfl) ?_
    refine ao_s (st_iadd dX4_addToLook_97) ?_
    refine ao_s (st_aload_n dX4_addToLook_98 rfl rfl) ?_
    refine ao_getR dX4_addToLook_99 fl_X4_14 rfl e23 (fun b25 => ?_)
    refine ao_s (st_iconst dX4_addToLook_102 ic_0) ?_
    refine ao_s (st_iload dX4_addToLook_103 rfl) ?_
    refine ao_chk (fun e26 => ?_)
    refine ao_cVi (Kc := kX8_partnerOf) (As := [.int 0, .int x4]) (st := [.int (((hI h a0 3) * 4) + x4), .ref b24]) dX4_addToLook_105 ml_X4_88 mv_X8_partnerOf rfl e26 (by decide) rfl rfl (Nat.le_of_ble_eq_true rfl) (by decide) (s_X8_partnerOf h b25 0 x4) (fun r27 h28 => ?_)
    refine ao_let2 (fun x29 => ?_)
    refine ao_chk (fun e30 => ?_)
    refine ao_iast dX4_addToLook_108 e30 ?_
    refine ao_letH (fun h31 => ?_)
    refine ao_s (st_iinc (lv' := [some (.ref a0), none, none, none, some (.int (x4 + 1))]) dX4_addToLook_109 rfl nc_1 (by decide) rfl) ?_
    refine ao_s (st_goto 79 dX4_addToLook_112 (by decide)) ?_
    exact ao_w (sb_s (sb_n (sb_n (sb_n (sb_s sb_0))))) (hk79 h31 a0 (x4 + 1))
def f_X4_addToLook_79 (n : Nat) : aH → Nat → Int32 → Option (Unit × aH) := aIt (fun _ _ _ => none) (fun k => b_X4_addToLook_79 k) n
theorem l_X4_addToLook_79 (n : Nat) : ∀ (h : aH) (a0 : Nat) (x4 : Int32), AO eV 8 kX4_addToLook 79 [some (.ref a0), none, none, none, some (.int x4)] [] h (f_X4_addToLook_79 n h a0 x4) := by
  induction n with
  | zero => intros; exact ao_none
  | succ n ih =>
    intro h a0 x4
    exact t_X4_addToLook_79 ih h a0 x4
def b_X4_addToLook_44 (k44 : aH → Nat → Option Nat → Int32 → Int32 → Option (Unit × aH)) (h : aH) (a0 : Nat) (a2 : Option Nat) (x3 : Int32) (x4 : Int32) : Option (Unit × aH) :=
(if x3 < x4 then
f_X4_addToLook_79 2000 h a0 0
else
(if (sh a0).1 = 11 then
((hR h a0 0).bind fun b22 =>
((hR h a0 1).bind fun b23 =>
((hR h a0 1).bind fun b24 =>
(if (sh b24).1 = 15 then
(aBind (f_X8_isLate h b24) fun r26 h27 =>
(if (sh b22).1 = 7 then
(aBind (f_X0_pass h27 b22 b23 a2 r26) fun r29 h30 =>
k44 h30 a0 a2 x3 (x4 + 1))
else none))
else none))))
else none))
set_option maxHeartbeats 2000000 in
theorem t_X4_addToLook_44 {k44 : aH → Nat → Option Nat → Int32 → Int32 → Option (Unit × aH)} (hk44 : ∀ (h : aH) (a0 : Nat) (a2 : Option Nat) (x3 : Int32) (x4 : Int32), AO eV 8 kX4_addToLook 44 [some (.ref a0), none, some (va_rf a2), some (.int x3), some (.int x4)] [] h (k44 h a0 a2 x3 x4)) (h : aH) (a0 : Nat) (a2 : Option Nat) (x3 : Int32) (x4 : Int32) : AO eV 8 kX4_addToLook 44 [some (.ref a0), none, some (va_rf a2), some (.int x3), some (.int x4)] [] h (b_X4_addToLook_44 k44 h a0 a2 x3 x4) := by
  unfold b_X4_addToLook_44
  refine ao_s (st_iload dX4_addToLook_44 rfl) ?_
  refine ao_s (st_iload_n dX4_addToLook_46 rfl rfl) ?_
  refine ao_br (br_icmp_gt (tgt := 76) dX4_addToLook_47 (by decide)) (fun c31 => ?_) (fun c31 => ?_)
  · refine ao_s (st_iconst dX4_addToLook_76 ic_0) ?_
    refine ao_s (st_istore (lv' := [some (.ref a0), none, some (va_rf a2), some (.int x3), some (.int 0)]) dX4_addToLook_77 (by decide) rfl) ?_
    exact ao_w (sb_s (sb_n (sb_n (sb_n (sb_s sb_0))))) (l_X4_addToLook_79 2000 h a0 0)
  · refine ao_s (st_aload_n dX4_addToLook_50 rfl rfl) ?_
    refine ao_chk (fun e21 => ?_)
    refine ao_getR dX4_addToLook_51 fl_X4_41 rfl e21 (fun b22 => ?_)
    refine ao_s (st_aload_n dX4_addToLook_54 rfl rfl) ?_
    refine ao_getR dX4_addToLook_55 fl_X4_14 rfl e21 (fun b23 => ?_)
    refine ao_s (st_aload_nQ dX4_addToLook_58 rfl rfl) ?_
    refine ao_s (st_aload_n dX4_addToLook_59 rfl rfl) ?_
    refine ao_getR dX4_addToLook_60 fl_X4_14 rfl e21 (fun b24 => ?_)
    refine ao_chk (fun e25 => ?_)
    refine ao_cVi (Kc := kX8_isLate) (As := []) (st := [va_rf a2, .ref b23, .ref b22]) dX4_addToLook_63 ml_X4_62 mv_X8_isLate rfl e25 (by decide) rfl rfl (by simp [aEn, aEnt, aCatN, aCatR, aCatQ, aCatL]) (by decide) (s_X8_isLate h b24) (fun r26 h27 => ?_)
    refine ao_chk (fun e28 => ?_)
    refine ao_cVi (Kc := kX0_pass) (As := [.ref b23, va_rf a2, .int r26]) (st := []) dX4_addToLook_66 ml_X4_66 mv_X0_pass rfl e28 (by decide) rfl rfl (Nat.le_of_ble_eq_true rfl) (by decide) (s_X0_pass h27 b22 b23 a2 r26) (fun r29 h30 => ?_)
    refine ao_s (st_pop dX4_addToLook_69 rfl) ?_
    refine ao_s (st_iinc (lv' := [some (.ref a0), none, some (va_rf a2), some (.int x3), some (.int (x4 + 1))]) dX4_addToLook_70 rfl nc_1 (by decide) rfl) ?_
    refine ao_s (st_goto 44 dX4_addToLook_73 (by decide)) ?_
    exact ao_w (sb_s (sb_n (sb_s (sb_s (sb_s sb_0))))) (hk44 h30 a0 a2 x3 (x4 + 1))
def f_X4_addToLook_44 (n : Nat) : aH → Nat → Option Nat → Int32 → Int32 → Option (Unit × aH) := aIt (fun _ _ _ _ _ => none) (fun k => b_X4_addToLook_44 k) n
theorem l_X4_addToLook_44 (n : Nat) : ∀ (h : aH) (a0 : Nat) (a2 : Option Nat) (x3 : Int32) (x4 : Int32), AO eV 8 kX4_addToLook 44 [some (.ref a0), none, some (va_rf a2), some (.int x3), some (.int x4)] [] h (f_X4_addToLook_44 n h a0 a2 x3 x4) := by
  induction n with
  | zero => intros; exact ao_none
  | succ n ih =>
    intro h a0 a2 x3 x4
    exact t_X4_addToLook_44 ih h a0 a2 x3 x4
def f_X4_addToLook (h : aH) (a0 : Nat) (a1 : Nat) (a2 : Option Nat) (x3 : Int32) : Option (Unit × aH) :=
(if (sh a0).1 = 11 then
((hR h a0 1).bind fun b22 =>
(if (sh a1).1 = 17 then
((hR h a1 0).bind fun b24 =>
(if (sh b22).1 = 15 then
(aBind (f_X8_copyFrom h b22 b24) fun r26 h27 =>
(if 7 ≤ hI h27 a0 3 then
some ((), h27)
else
(aBind (f_X4_fitsFromHere h27 a0 a1 a2) fun r28 h29 =>
(if r28 = 0 then
some ((), h29)
else
((hR h29 a0 1).bind fun b30 =>
((hR h29 a1 0).bind fun b31 =>
(if (sh b30).1 = 15 then
(aBind (f_X8_copyFrom h29 b30 b31) fun r33 h34 =>
f_X4_addToLook_44 2000 h34 a0 a2 x3 0)
else none)))))))
else none))
else none))
else none)
set_option maxHeartbeats 2000000 in
theorem s_X4_addToLook (h : aH) (a0 : Nat) (a1 : Nat) (a2 : Option Nat) (x3 : Int32) : SO eV 8 kX4_addToLook [.ref a0, .ref a1, va_rf a2, .int x3] h (f_X4_addToLook h a0 a1 a2 x3) := by
  refine so_of (lv0 := [some (.ref a0), some (.ref a1), some (va_rf a2), some (.int x3), none]) pn_X4 (by simp [aEn, aEnt, aCatN, aCatR, aCatQ, aCatL]) (by simp [aEn, aEnt, aCatN, aCatR, aCatQ, aCatL]) ?_
  unfold f_X4_addToLook
  refine ao_s (st_aload_n dX4_addToLook_0 rfl rfl) ?_
  refine ao_chk (fun e21 => ?_)
  refine ao_getR dX4_addToLook_1 fl_X4_14 rfl e21 (fun b22 => ?_)
  refine ao_s (st_aload_n dX4_addToLook_4 rfl rfl) ?_
  refine ao_chk (fun e23 => ?_)
  refine ao_getR dX4_addToLook_5 fl_X4_45 rfl e23 (fun b24 => ?_)
  refine ao_chk (fun e25 => ?_)
  refine ao_cVv (Kc := kX8_copyFrom) (As := [.ref b24]) (st := []) dX4_addToLook_8 ml_X4_50 mv_X8_copyFrom rfl e25 (by decide) rfl rfl (Nat.le_of_ble_eq_true rfl) (by decide) (s_X8_copyFrom h b22 b24) (fun r26 h27 => ?_)
  refine ao_s (st_aload_n dX4_addToLook_11 rfl rfl) ?_
  refine ao_getI dX4_addToLook_12 fl_X4_22 rfl e21 ?_
  refine ao_s (st_bipush dX4_addToLook_15 bp_7) ?_
  refine ao_br (br_icmp_ge (tgt := 29) dX4_addToLook_17 (by decide)) (fun c36 => ?_) (fun c36 => ?_)
  · exact ao_vr dX4_addToLook_29 rfl
  · refine ao_s (st_aload_n dX4_addToLook_20 rfl rfl) ?_
    refine ao_s (st_aload_n dX4_addToLook_21 rfl rfl) ?_
    refine ao_s (st_aload_nQ dX4_addToLook_22 rfl rfl) ?_
    refine ao_cVi (Kc := kX4_fitsFromHere) (As := [.ref a1, va_rf a2]) (st := []) dX4_addToLook_23 ml_X4_54 mv_X4_fitsFromHere rfl e21 (by decide) rfl rfl (Nat.le_of_ble_eq_true rfl) (by decide) (s_X4_fitsFromHere h27 a0 a1 a2) (fun r28 h29 => ?_)
    refine ao_br (br_if_ne (tgt := 30) dX4_addToLook_26 (by decide)) (fun c35 => ?_) (fun c35 => ?_)
    · exact ao_vr dX4_addToLook_29 rfl
    · refine ao_s (st_aload_n dX4_addToLook_30 rfl rfl) ?_
      refine ao_getR dX4_addToLook_31 fl_X4_14 rfl e21 (fun b30 => ?_)
      refine ao_s (st_aload_n dX4_addToLook_34 rfl rfl) ?_
      refine ao_getR dX4_addToLook_35 fl_X4_45 rfl e23 (fun b31 => ?_)
      refine ao_chk (fun e32 => ?_)
      refine ao_cVv (Kc := kX8_copyFrom) (As := [.ref b31]) (st := []) dX4_addToLook_38 ml_X4_50 mv_X8_copyFrom rfl e32 (by decide) rfl rfl (Nat.le_of_ble_eq_true rfl) (by decide) (s_X8_copyFrom h29 b30 b31) (fun r33 h34 => ?_)
      refine ao_s (st_iconst dX4_addToLook_41 ic_0) ?_
      refine ao_s (st_istore (lv' := [some (.ref a0), some (.ref a1), some (va_rf a2), some (.int x3), some (.int 0)]) dX4_addToLook_42 (by decide) rfl) ?_
      exact ao_w (sb_s (sb_n (sb_s (sb_s (sb_s sb_0))))) (l_X4_addToLook_44 2000 h34 a0 a2 x3 0)
def b_X4_mostAlikeBy_54 (k18 : aH → Nat → Int32 → Int32 → Int32 → Int32 → Int32 → Option (Int32 × aH)) (h : aH) (a0 : Nat) (x1 : Int32) (x2 : Int32) (x3 : Int32) (x4 : Int32) (x5 : Int32) : Option (Int32 × aH) :=
k18 h a0 x1 x2 x3 x4 (x5 + 1)
set_option maxHeartbeats 2000000 in
theorem t_X4_mostAlikeBy_54 {k18 : aH → Nat → Int32 → Int32 → Int32 → Int32 → Int32 → Option (Int32 × aH)} (hk18 : ∀ (h : aH) (a0 : Nat) (x1 : Int32) (x2 : Int32) (x3 : Int32) (x4 : Int32) (x5 : Int32), AO eI 2 kX4_mostAlikeBy 18 [some (.ref a0), some (.int x1), some (.int x2), some (.int x3), some (.int x4), some (.int x5)] [] h (k18 h a0 x1 x2 x3 x4 x5)) (h : aH) (a0 : Nat) (x1 : Int32) (x2 : Int32) (x3 : Int32) (x4 : Int32) (x5 : Int32) : AO eI 2 kX4_mostAlikeBy 54 [some (.ref a0), some (.int x1), some (.int x2), some (.int x3), some (.int x4), some (.int x5)] [] h (b_X4_mostAlikeBy_54 k18 h a0 x1 x2 x3 x4 x5) := by
  unfold b_X4_mostAlikeBy_54
  refine ao_s (st_iinc (lv' := [some (.ref a0), some (.int x1), some (.int x2), some (.int x3), some (.int x4), some (.int (x5 + 1))]) dX4_mostAlikeBy_54 rfl nc_1 (by decide) rfl) ?_
  refine ao_s (st_goto 18 dX4_mostAlikeBy_57 (by decide)) ?_
  exact ao_w (sb_s (sb_s (sb_s (sb_s (sb_s (sb_s sb_0)))))) (hk18 h a0 x1 x2 x3 x4 (x5 + 1))
def b_X4_mostAlikeBy_18 (k4 : aH → Nat → Int32 → Int32 → Int32 → Option (Int32 × aH)) (k18 : aH → Nat → Int32 → Int32 → Int32 → Int32 → Int32 → Option (Int32 × aH)) (h : aH) (a0 : Nat) (x1 : Int32) (x2 : Int32) (x3 : Int32) (x4 : Int32) (x5 : Int32) : Option (Int32 × aH) :=
(if (sh a0).1 = 11 then
(if hI h a0 3 ≤ x5 then
(aLet ((if x2 < x4 then x4 else x2)) fun x22 =>
k4 h a0 x1 x22 (x3 + 1))
else
((hR h a0 2).bind fun b23 =>
(aLet ((x3 * 4) + x1) fun x24 =>
(if (sh b23).1 = 0 then
(if aIn x24 (sh b23).2 then
((hR h a0 2).bind fun b26 =>
(aLet ((x5 * 4) + x1) fun x27 =>
(if (sh b26).1 = 0 then
(if aIn x27 (sh b26).2 then
(if hI h b23 x24.toNatClampNeg = hI h b26 x27.toNatClampNeg then
b_X4_mostAlikeBy_54 k18 h a0 x1 x2 x3 (x4 + 1) x5
else
b_X4_mostAlikeBy_54 k18 h a0 x1 x2 x3 x4 x5)
else none)
else none)))
else none)
else none))))
else none)
set_option maxHeartbeats 2000000 in
theorem t_X4_mostAlikeBy_18 {k4 : aH → Nat → Int32 → Int32 → Int32 → Option (Int32 × aH)} (hk4 : ∀ (h : aH) (a0 : Nat) (x1 : Int32) (x2 : Int32) (x3 : Int32), AO eI 2 kX4_mostAlikeBy 4 [some (.ref a0), some (.int x1), some (.int x2), some (.int x3), none, none] [] h (k4 h a0 x1 x2 x3)) {k18 : aH → Nat → Int32 → Int32 → Int32 → Int32 → Int32 → Option (Int32 × aH)} (hk18 : ∀ (h : aH) (a0 : Nat) (x1 : Int32) (x2 : Int32) (x3 : Int32) (x4 : Int32) (x5 : Int32), AO eI 2 kX4_mostAlikeBy 18 [some (.ref a0), some (.int x1), some (.int x2), some (.int x3), some (.int x4), some (.int x5)] [] h (k18 h a0 x1 x2 x3 x4 x5)) (h : aH) (a0 : Nat) (x1 : Int32) (x2 : Int32) (x3 : Int32) (x4 : Int32) (x5 : Int32) : AO eI 2 kX4_mostAlikeBy 18 [some (.ref a0), some (.int x1), some (.int x2), some (.int x3), some (.int x4), some (.int x5)] [] h (b_X4_mostAlikeBy_18 k4 k18 h a0 x1 x2 x3 x4 x5) := by
  unfold b_X4_mostAlikeBy_18
  refine ao_s (st_iload dX4_mostAlikeBy_18 rfl) ?_
  refine ao_s (st_aload_n dX4_mostAlikeBy_20 rfl rfl) ?_
  refine ao_chk (fun e21 => ?_)
  refine ao_getI dX4_mostAlikeBy_21 fl_X4_22 rfl e21 ?_
  refine ao_br (br_icmp_ge (tgt := 60) dX4_mostAlikeBy_24 (by decide)) (fun c30 => ?_) (fun c30 => ?_)
  · refine ao_s (st_iload_n dX4_mostAlikeBy_60 rfl rfl) ?_
    refine ao_s (st_iload dX4_mostAlikeBy_61 rfl) ?_
    refine ao_mmax dX4_mostAlikeBy_63 ml_X4_95 (Nat.le_of_ble_eq_true rfl) (by decide) ?_
    refine ao_letI (fun x22 => ?_)
    refine ao_s (st_istore_n (lv' := [some (.ref a0), some (.int x1), some (.int x22), some (.int x3), some (.int x4), some (.int x5)]) dX4_mostAlikeBy_66 rfl (by decide) rfl) ?_
    refine ao_s (st_iinc (lv' := [some (.ref a0), some (.int x1), some (.int x22), some (.int (x3 + 1)), some (.int x4), some (.int x5)]) dX4_mostAlikeBy_67 rfl nc_1 (by decide) rfl) ?_
    refine ao_s (st_goto 4 dX4_mostAlikeBy_70 (by decide)) ?_
    exact ao_w (sb_s (sb_s (sb_s (sb_s (sb_n (sb_n sb_0)))))) (hk4 h a0 x1 x22 (x3 + 1))
  · refine ao_s (st_aload_n dX4_mostAlikeBy_27 rfl rfl) ?_
    refine ao_getR dX4_mostAlikeBy_28 fl_X4_18 rfl e21 (fun b23 => ?_)
    refine ao_s (st_iload_n dX4_mostAlikeBy_31 rfl rfl) ?_
    refine ao_s (st_iconst dX4_mostAlikeBy_32 ic_4) ?_
    refine ao_s (st_imul dX4_mostAlikeBy_33) ?_
    refine ao_s (st_iload_n dX4_mostAlikeBy_34 rfl rfl) ?_
    refine ao_s (st_iadd dX4_mostAlikeBy_35) ?_
    refine ao_letI (fun x24 => ?_)
    refine ao_chk (fun e25 => ?_)
    refine ao_iald dX4_mostAlikeBy_36 e25 ?_
    refine ao_s (st_aload_n dX4_mostAlikeBy_37 rfl rfl) ?_
    refine ao_getR dX4_mostAlikeBy_38 fl_X4_18 rfl e21 (fun b26 => ?_)
    refine ao_s (st_iload dX4_mostAlikeBy_41 rfl) ?_
    refine ao_s (st_iconst dX4_mostAlikeBy_43 ic_4) ?_
    refine ao_s (st_imul dX4_mostAlikeBy_44) ?_
    refine ao_s (st_iload_n dX4_mostAlikeBy_45 rfl rfl) ?_
    refine ao_s (st_iadd dX4_mostAlikeBy_46) ?_
    refine ao_letI (fun x27 => ?_)
    refine ao_chk (fun e28 => ?_)
    refine ao_iald dX4_mostAlikeBy_47 e28 ?_
    refine ao_br (br_icmp_ne (tgt := 54) dX4_mostAlikeBy_48 (by decide)) (fun c29 => ?_) (fun c29 => ?_)
    · refine ao_s (st_iinc (lv' := [some (.ref a0), some (.int x1), some (.int x2), some (.int x3), some (.int (x4 + 1)), some (.int x5)]) dX4_mostAlikeBy_51 rfl nc_1 (by decide) rfl) ?_
      exact ao_w (sb_s (sb_s (sb_s (sb_s (sb_s (sb_s sb_0)))))) (t_X4_mostAlikeBy_54 hk18 h a0 x1 x2 x3 (x4 + 1) x5)
    · exact ao_w (sb_s (sb_s (sb_s (sb_s (sb_s (sb_s sb_0)))))) (t_X4_mostAlikeBy_54 hk18 h a0 x1 x2 x3 x4 x5)
def f_X4_mostAlikeBy_18 (k4 : aH → Nat → Int32 → Int32 → Int32 → Option (Int32 × aH)) (n : Nat) : aH → Nat → Int32 → Int32 → Int32 → Int32 → Int32 → Option (Int32 × aH) := aIt (fun _ _ _ _ _ _ _ => none) (fun k => b_X4_mostAlikeBy_18 k4 k) n
theorem l_X4_mostAlikeBy_18 {k4 : aH → Nat → Int32 → Int32 → Int32 → Option (Int32 × aH)} (hk4 : ∀ (h : aH) (a0 : Nat) (x1 : Int32) (x2 : Int32) (x3 : Int32), AO eI 2 kX4_mostAlikeBy 4 [some (.ref a0), some (.int x1), some (.int x2), some (.int x3), none, none] [] h (k4 h a0 x1 x2 x3)) (n : Nat) : ∀ (h : aH) (a0 : Nat) (x1 : Int32) (x2 : Int32) (x3 : Int32) (x4 : Int32) (x5 : Int32), AO eI 2 kX4_mostAlikeBy 18 [some (.ref a0), some (.int x1), some (.int x2), some (.int x3), some (.int x4), some (.int x5)] [] h (f_X4_mostAlikeBy_18 k4 n h a0 x1 x2 x3 x4 x5) := by
  induction n with
  | zero => intros; exact ao_none
  | succ n ih =>
    intro h a0 x1 x2 x3 x4 x5
    exact t_X4_mostAlikeBy_18 hk4 ih h a0 x1 x2 x3 x4 x5
def b_X4_mostAlikeBy_4 (k4 : aH → Nat → Int32 → Int32 → Int32 → Option (Int32 × aH)) (h : aH) (a0 : Nat) (x1 : Int32) (x2 : Int32) (x3 : Int32) : Option (Int32 × aH) :=
(if (sh a0).1 = 11 then
(if hI h a0 3 ≤ x3 then
some (x2, h)
else
f_X4_mostAlikeBy_18 k4 2000 h a0 x1 x2 x3 0 0)
else none)
set_option maxHeartbeats 2000000 in
theorem t_X4_mostAlikeBy_4 {k4 : aH → Nat → Int32 → Int32 → Int32 → Option (Int32 × aH)} (hk4 : ∀ (h : aH) (a0 : Nat) (x1 : Int32) (x2 : Int32) (x3 : Int32), AO eI 2 kX4_mostAlikeBy 4 [some (.ref a0), some (.int x1), some (.int x2), some (.int x3), none, none] [] h (k4 h a0 x1 x2 x3)) (h : aH) (a0 : Nat) (x1 : Int32) (x2 : Int32) (x3 : Int32) : AO eI 2 kX4_mostAlikeBy 4 [some (.ref a0), some (.int x1), some (.int x2), some (.int x3), none, none] [] h (b_X4_mostAlikeBy_4 k4 h a0 x1 x2 x3) := by
  unfold b_X4_mostAlikeBy_4
  refine ao_s (st_iload_n dX4_mostAlikeBy_4 rfl rfl) ?_
  refine ao_s (st_aload_n dX4_mostAlikeBy_5 rfl rfl) ?_
  refine ao_chk (fun e21 => ?_)
  refine ao_getI dX4_mostAlikeBy_6 fl_X4_22 rfl e21 ?_
  refine ao_br (br_icmp_ge (tgt := 73) dX4_mostAlikeBy_9 (by decide)) (fun c22 => ?_) (fun c22 => ?_)
  · refine ao_s (st_iload_n dX4_mostAlikeBy_73 rfl rfl) ?_
    exact ao_ir dX4_mostAlikeBy_74 rfl rfl
  · refine ao_s (st_iconst dX4_mostAlikeBy_12 ic_0) ?_
    refine ao_s (st_istore (lv' := [some (.ref a0), some (.int x1), some (.int x2), some (.int x3), some (.int 0), none]) dX4_mostAlikeBy_13 (by decide) rfl) ?_
    refine ao_s (st_iconst dX4_mostAlikeBy_15 ic_0) ?_
    refine ao_s (st_istore (lv' := [some (.ref a0), some (.int x1), some (.int x2), some (.int x3), some (.int 0), some (.int 0)]) dX4_mostAlikeBy_16 (by decide) rfl) ?_
    exact ao_w (sb_s (sb_s (sb_s (sb_s (sb_s (sb_s sb_0)))))) (l_X4_mostAlikeBy_18 hk4 2000 h a0 x1 x2 x3 0 0)
def f_X4_mostAlikeBy_4 (n : Nat) : aH → Nat → Int32 → Int32 → Int32 → Option (Int32 × aH) := aIt (fun _ _ _ _ _ => none) (fun k => b_X4_mostAlikeBy_4 k) n
theorem l_X4_mostAlikeBy_4 (n : Nat) : ∀ (h : aH) (a0 : Nat) (x1 : Int32) (x2 : Int32) (x3 : Int32), AO eI 2 kX4_mostAlikeBy 4 [some (.ref a0), some (.int x1), some (.int x2), some (.int x3), none, none] [] h (f_X4_mostAlikeBy_4 n h a0 x1 x2 x3) := by
  induction n with
  | zero => intros; exact ao_none
  | succ n ih =>
    intro h a0 x1 x2 x3
    exact t_X4_mostAlikeBy_4 ih h a0 x1 x2 x3
def f_X4_mostAlikeBy (h : aH) (a0 : Nat) (x1 : Int32) : Option (Int32 × aH) :=
f_X4_mostAlikeBy_4 2000 h a0 x1 0 0
set_option maxHeartbeats 2000000 in
theorem s_X4_mostAlikeBy (h : aH) (a0 : Nat) (x1 : Int32) : SO eI 2 kX4_mostAlikeBy [.ref a0, .int x1] h (f_X4_mostAlikeBy h a0 x1) := by
  refine so_of (lv0 := [some (.ref a0), some (.int x1), none, none, none, none]) pn_X4 (Nat.le_of_ble_eq_true rfl) rfl ?_
  unfold f_X4_mostAlikeBy
  refine ao_s (st_iconst dX4_mostAlikeBy_0 ic_0) ?_
  refine ao_s (st_istore_n (lv' := [some (.ref a0), some (.int x1), some (.int 0), none, none, none]) dX4_mostAlikeBy_1 rfl (by decide) rfl) ?_
  refine ao_s (st_iconst dX4_mostAlikeBy_2 ic_0) ?_
  refine ao_s (st_istore_n (lv' := [some (.ref a0), some (.int x1), some (.int 0), some (.int 0), none, none]) dX4_mostAlikeBy_3 rfl (by decide) rfl) ?_
  exact ao_w (sb_s (sb_s (sb_s (sb_s (sb_n (sb_n sb_0)))))) (l_X4_mostAlikeBy_4 2000 h a0 x1 0 0)
