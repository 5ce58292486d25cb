def b_X12_fillsFits_11 (k11 : aH → Nat → Int32 → Int32 → Int32 → Option (Unit × aH)) (h : aH) (a0 : Nat) (x1 : Int32) (x2 : Int32) (x3 : Int32) : Option (Unit × aH) :=
(if (sh a0).1 = 19 then
(if hI h a0 2 < x3 then
(aLet (pI h a0 21 x2) fun h22 =>
(aBind (f_X12_laysBack h22 a0) fun r23 h24 =>
some ((), h24)))
else
(aLet (pI h a0 21 (x3 - 1)) fun h25 =>
(aBind (f_X12_begins h25 a0) fun r26 h27 =>
((hR h27 a0 33).bind fun b28 =>
(aBind (f_X12_isSo h27 a0 x3 x1) fun r29 h30 =>
(if (sh b28).1 = 2 then
(if aIn x3 (sh b28).2 then
(aLet (pI h30 b28 x3.toNatClampNeg (vp_nar .boolean r29)) fun h32 =>
k11 h32 a0 x1 x2 (x3 + 1))
else none)
else none))))))
else none)
set_option maxHeartbeats 2000000 in
theorem t_X12_fillsFits_11 {k11 : aH → Nat → Int32 → Int32 → Int32 → Option (Unit × aH)} (hk11 : ∀ (h : aH) (a0 : Nat) (x1 : Int32) (x2 : Int32) (x3 : Int32), AO eV 9 kX12_fillsFits 11 [some (.ref a0), some (.int x1), some (.int x2), some (.int x3)] [] h (k11 h a0 x1 x2 x3)) (h : aH) (a0 : Nat) (x1 : Int32) (x2 : Int32) (x3 : Int32) : AO eV 9 kX12_fillsFits 11 [some (.ref a0), some (.int x1), some (.int x2), some (.int x3)] [] h (b_X12_fillsFits_11 k11 h a0 x1 x2 x3) := by
  unfold b_X12_fillsFits_11
  refine ao_s (st_iload_n dX12_fillsFits_11 rfl rfl) ?_
  refine ao_s (st_aload_n dX12_fillsFits_12 rfl rfl) ?_
  refine ao_chk (fun e21 => ?_)
  refine ao_getI dX12_fillsFits_13 fl_X12_270 rfl e21 ?_
  refine ao_br (br_icmp_gt (tgt := 48) dX12_fillsFits_16 (by decide)) (fun c33 => ?_) (fun c33 => ?_)
  · refine ao_s (st_aload_n dX12_fillsFits_48 rfl rfl) ?_
    refine ao_s (st_iload_n dX12_fillsFits_49 rfl rfl) ?_
    refine ao_putI dX12_fillsFits_50 fl_X12_42 rfl rfl rfl rfl e21 ?_
    refine ao_letH (fun h22 => ?_)
    refine ao_s (st_aload_n dX12_fillsFits_53 rfl rfl) ?_
    refine ao_cVv (Kc := kX12_laysBack) (As := []) (st := []) dX12_fillsFits_54 ml_X12_397 mv_X12_laysBack rfl e21 (by decide) rfl rfl (Nat.le_of_ble_eq_true rfl) (by decide) (s_X12_laysBack h22 a0) (fun r23 h24 => ?_)
    exact ao_vr dX12_fillsFits_57 rfl
  · refine ao_s (st_aload_n dX12_fillsFits_19 rfl rfl) ?_
    refine ao_s (st_iload_n dX12_fillsFits_20 rfl rfl) ?_
    refine ao_s (st_iconst dX12_fillsFits_21 ic_1) ?_
    refine ao_s (st_isub dX12_fillsFits_22) ?_
    refine ao_putI dX12_fillsFits_23 fl_X12_42 rfl rfl rfl rfl e21 ?_
    refine ao_letH (fun h25 => ?_)
    refine ao_s (st_aload_n dX12_fillsFits_26 rfl rfl) ?_
    refine ao_cVv (Kc := kX12_begins) (As := []) (st := []) dX12_fillsFits_27 ml_X12_276 mv_X12_begins rfl e21 (by decide) rfl rfl (Nat.le_of_ble_eq_true rfl) (by decide) (s_X12_begins h25 a0) (fun r26 h27 => ?_)
    refine ao_s (st_aload_n dX12_fillsFits_30 rfl rfl) ?_
    refine ao_getR dX12_fillsFits_31 fl_X12_71 rfl e21 (fun b28 => ?_)
    refine ao_s (st_iload_n dX12_fillsFits_34 rfl rfl) ?_
    refine ao_s (st_aload_n dX12_fillsFits_35 rfl rfl) ?_
    refine ao_s (st_iload_n dX12_fillsFits_36 rfl rfl) ?_
    refine ao_s (st_iload_n dX12_fillsFits_37 rfl rfl) ?_
    refine ao_cVi (Kc := kX12_isSo) (As := [.int x3, .int x1]) (st := [.int x3, .ref b28]) dX12_fillsFits_38 ml_X12_432 mv_X12_isSo rfl e21 (by decide) rfl rfl (Nat.le_of_ble_eq_true rfl) (by decide) (s_X12_isSo h27 a0 x3 x1) (fun r29 h30 => ?_)
    refine ao_chk (fun e31 => ?_)
    refine ao_zast dX12_fillsFits_41 e31 ?_
    refine ao_letH (fun h32 => ?_)
    refine ao_s (st_iinc (lv' := [some (.ref a0), some (.int x1), some (.int x2), some (.int (x3 + 1))]) dX12_fillsFits_42 rfl nc_1 (by decide) rfl) ?_
    refine ao_s (st_goto 11 dX12_fillsFits_45 (by decide)) ?_
    exact ao_w (sb_s (sb_s (sb_s (sb_s sb_0)))) (hk11 h32 a0 x1 x2 (x3 + 1))
def f_X12_fillsFits_11 (n : Nat) : aH → Nat → Int32 → Int32 → Int32 → Option (Unit × aH) := aIt (fun _ _ _ _ _ => none) (fun k => b_X12_fillsFits_11 k) n
theorem l_X12_fillsFits_11 (n : Nat) : ∀ (h : aH) (a0 : Nat) (x1 : Int32) (x2 : Int32) (x3 : Int32), AO eV 9 kX12_fillsFits 11 [some (.ref a0), some (.int x1), some (.int x2), some (.int x3)] [] h (f_X12_fillsFits_11 n h a0 x1 x2 x3) := by
  induction n with
  | zero => intros; exact ao_none
  | succ n ih =>
    intro h a0 x1 x2 x3
    exact t_X12_fillsFits_11 ih h a0 x1 x2 x3
def f_X12_fillsFits (h : aH) (a0 : Nat) (x1 : Int32) : Option (Unit × aH) :=
(if (sh a0).1 = 19 then
(aLet (hI h a0 21) fun x22 =>
(aBind (f_X12_keeps h a0) fun r23 h24 =>
f_X12_fillsFits_11 2000 h24 a0 x1 x22 0))
else none)
set_option maxHeartbeats 2000000 in
theorem s_X12_fillsFits (h : aH) (a0 : Nat) (x1 : Int32) : SO eV 9 kX12_fillsFits [.ref a0, .int x1] h (f_X12_fillsFits h a0 x1) := by
  refine so_of (lv0 := [some (.ref a0), some (.int x1), none, none]) pn_X12 (Nat.le_of_ble_eq_true rfl) rfl ?_
  unfold f_X12_fillsFits
  refine ao_s (st_aload_n dX12_fillsFits_0 rfl rfl) ?_
  refine ao_chk (fun e21 => ?_)
  refine ao_getI dX12_fillsFits_1 fl_X12_42 rfl e21 ?_
  refine ao_letI (fun x22 => ?_)
  refine ao_s (st_istore_n (lv' := [some (.ref a0), some (.int x1), some (.int x22), none]) dX12_fillsFits_4 rfl (by decide) rfl) ?_
  refine ao_s (st_aload_n dX12_fillsFits_5 rfl rfl) ?_
  refine ao_cVv (Kc := kX12_keeps) (As := []) (st := []) dX12_fillsFits_6 ml_X12_391 mv_X12_keeps rfl e21 (by decide) rfl rfl (Nat.le_of_ble_eq_true rfl) (by decide) (s_X12_keeps h a0) (fun r23 h24 => ?_)
  refine ao_s (st_iconst dX12_fillsFits_9 ic_0) ?_
  refine ao_s (st_istore_n (lv' := [some (.ref a0), some (.int x1), some (.int x22), some (.int 0)]) dX12_fillsFits_10 rfl (by decide) rfl) ?_
  exact ao_w (sb_s (sb_s (sb_s (sb_s sb_0)))) (l_X12_fillsFits_11 2000 h24 a0 x1 x22 0)
def b_X12_ruled_62 (k36 : aH → Nat → Int32 → Int32 → Int32 → Int32 → Option (Int32 × aH)) (h : aH) (a0 : Nat) (x1 : Int32) (x2 : Int32) (x3 : Int32) (x4 : Int32) : Option (Int32 × aH) :=
k36 h a0 x1 x2 x3 (x4 + (-1))
set_option maxHeartbeats 2000000 in
theorem t_X12_ruled_62 {k36 : aH → Nat → Int32 → Int32 → Int32 → Int32 → Option (Int32 × aH)} (hk36 : ∀ (h : aH) (a0 : Nat) (x1 : Int32) (x2 : Int32) (x3 : Int32) (x4 : Int32), AO eI 10 kX12_ruled 36 [some (.ref a0), some (.int x1), some (.int x2), some (.int x3), some (.int x4)] [] h (k36 h a0 x1 x2 x3 x4)) (h : aH) (a0 : Nat) (x1 : Int32) (x2 : Int32) (x3 : Int32) (x4 : Int32) : AO eI 10 kX12_ruled 62 [some (.ref a0), some (.int x1), some (.int x2), some (.int x3), some (.int x4)] [] h (b_X12_ruled_62 k36 h a0 x1 x2 x3 x4) := by
  unfold b_X12_ruled_62
  refine ao_s (st_iinc (lv' := [some (.ref a0), some (.int x1), some (.int x2), some (.int x3), some (.int (x4 + (-1)))]) dX12_ruled_62 rfl nc_m1 (by decide) rfl) ?_
  refine ao_s (st_goto 36 dX12_ruled_65 (by decide)) ?_
  exact ao_w (sb_s (sb_s (sb_s (sb_s (sb_s sb_0))))) (hk36 h a0 x1 x2 x3 (x4 + (-1)))
def b_X12_ruled_36 (k36 : aH → Nat → Int32 → Int32 → Int32 → Int32 → Option (Int32 × aH)) (h : aH) (a0 : Nat) (x1 : Int32) (x2 : Int32) (x3 : Int32) (x4 : Int32) : Option (Int32 × aH) :=
(if x4 < 0 then
(if x1 = 0 then
some (x2, h)
else
some (x3, h))
else
(if (sh a0).1 = 19 then
((hR h a0 33).bind fun b23 =>
(if (sh b23).1 = 2 then
(if aIn x4 (sh b23).2 then
(if hI h b23 x4.toNatClampNeg = 0 then
b_X12_ruled_62 k36 h a0 x1 x2 x3 x4
else
(aLet (x4 - 1) fun x25 =>
b_X12_ruled_62 k36 h a0 x1 (x2 + 1) x25 x4))
else none)
else none))
else none))
set_option maxHeartbeats 2000000 in
theorem t_X12_ruled_36 {k36 : aH → Nat → Int32 → Int32 → Int32 → Int32 → Option (Int32 × aH)} (hk36 : ∀ (h : aH) (a0 : Nat) (x1 : Int32) (x2 : Int32) (x3 : Int32) (x4 : Int32), AO eI 10 kX12_ruled 36 [some (.ref a0), some (.int x1), some (.int x2), some (.int x3), some (.int x4)] [] h (k36 h a0 x1 x2 x3 x4)) (h : aH) (a0 : Nat) (x1 : Int32) (x2 : Int32) (x3 : Int32) (x4 : Int32) : AO eI 10 kX12_ruled 36 [some (.ref a0), some (.int x1), some (.int x2), some (.int x3), some (.int x4)] [] h (b_X12_ruled_36 k36 h a0 x1 x2 x3 x4) := by
  unfold b_X12_ruled_36
  refine ao_s (st_iload dX12_ruled_36 rfl) ?_
  refine ao_br (br_if_lt (tgt := 68) dX12_ruled_38 (by decide)) (fun c27 => ?_) (fun c27 => ?_)
  · refine ao_s (st_iload_n dX12_ruled_68 rfl rfl) ?_
    refine ao_br (br_if_ne (tgt := 76) dX12_ruled_69 (by decide)) (fun c21 => ?_) (fun c21 => ?_)
    · refine ao_s (st_iload_n dX12_ruled_72 rfl rfl) ?_
      refine ao_s (st_goto 77 dX12_ruled_73 (by decide)) ?_
      exact ao_ir dX12_ruled_77 rfl rfl
    · refine ao_s (st_iload_n dX12_ruled_76 rfl rfl) ?_
      exact ao_ir dX12_ruled_77 rfl rfl
  · refine ao_s (st_aload_n dX12_ruled_41 rfl rfl) ?_
    refine ao_chk (fun e22 => ?_)
    refine ao_getR dX12_ruled_42 fl_X12_71 rfl e22 (fun b23 => ?_)
    refine ao_s (st_iload dX12_ruled_45 rfl) ?_
    refine ao_chk (fun e24 => ?_)
    refine ao_zald dX12_ruled_47 e24 ?_
    refine ao_br (br_if_ne (tgt := 54) dX12_ruled_48 (by decide)) (fun c26 => ?_) (fun c26 => ?_)
    · refine ao_s (st_goto 62 dX12_ruled_51 (by decide)) ?_
      exact ao_w (sb_s (sb_s (sb_s (sb_s (sb_s sb_0))))) (t_X12_ruled_62 hk36 h a0 x1 x2 x3 x4)
    · refine ao_s (st_iload dX12_ruled_54 rfl) ?_
      refine ao_s (st_iconst dX12_ruled_56 ic_1) ?_
      refine ao_s (st_isub dX12_ruled_57) ?_
      refine ao_letI (fun x25 => ?_)
      refine ao_s (st_istore_n (lv' := [some (.ref a0), some (.int x1), some (.int x2), some (.int x25), some (.int x4)]) dX12_ruled_58 rfl (by decide) rfl) ?_
      refine ao_s (st_iinc (lv' := [some (.ref a0), some (.int x1), some (.int (x2 + 1)), some (.int x25), some (.int x4)]) dX12_ruled_59 rfl nc_1 (by decide) rfl) ?_
      exact ao_w (sb_s (sb_s (sb_s (sb_s (sb_s sb_0))))) (t_X12_ruled_62 hk36 h a0 x1 (x2 + 1) x25 x4)
def f_X12_ruled_36 (n : Nat) : aH → Nat → Int32 → Int32 → Int32 → Int32 → Option (Int32 × aH) := aIt (fun _ _ _ _ _ _ => none) (fun k => b_X12_ruled_36 k) n
theorem l_X12_ruled_36 (n : Nat) : ∀ (h : aH) (a0 : Nat) (x1 : Int32) (x2 : Int32) (x3 : Int32) (x4 : Int32), AO eI 10 kX12_ruled 36 [some (.ref a0), some (.int x1), some (.int x2), some (.int x3), some (.int x4)] [] h (f_X12_ruled_36 n h a0 x1 x2 x3 x4) := by
  induction n with
  | zero => intros; exact ao_none
  | succ n ih =>
    intro h a0 x1 x2 x3 x4
    exact t_X12_ruled_36 ih h a0 x1 x2 x3 x4
def f_X12_ruled (h : aH) (a0 : Nat) (x1 : Int32) : Option (Int32 × aH) :=
(if (sh a0).1 = 19 then
(aBind (f_X12_isIsle h a0) fun r22 h23 =>
(if r22 = 0 then
some ((-3), h23)
else
(aBind (f_X12_in h23 x1.toInt64 0 1) fun r24 h25 =>
(if r24 = 0 then
some ((-3), h25)
else
(aBind (f_X12_fillsFits h25 a0 0) fun r26 h27 =>
(aLet (hI h27 a0 2) fun x28 =>
f_X12_ruled_36 2000 h27 a0 x1 0 (-2) x28))))))
else none)
set_option maxHeartbeats 2000000 in
theorem s_X12_ruled (h : aH) (a0 : Nat) (x1 : Int32) : SO eI 10 kX12_ruled [.ref a0, .int x1] h (f_X12_ruled h a0 x1) := by
  refine so_of (lv0 := [some (.ref a0), some (.int x1), none, none, none]) pn_X12 (Nat.le_of_ble_eq_true rfl) rfl ?_
  unfold f_X12_ruled
  refine ao_s (st_aload_n dX12_ruled_0 rfl rfl) ?_
  refine ao_chk (fun e21 => ?_)
  refine ao_cVi (Kc := kX12_isIsle) (As := []) (st := []) dX12_ruled_1 ml_X12_368 mv_X12_isIsle rfl e21 (by decide) rfl rfl (Nat.le_of_ble_eq_true rfl) (by decide) (s_X12_isIsle h a0) (fun r22 h23 => ?_)
  refine ao_br (br_if_eq (tgt := 17) dX12_ruled_4 (by decide)) (fun c30 => ?_) (fun c30 => ?_)
  · refine ao_s (st_bipush dX12_ruled_17 bp_m3) ?_
    exact ao_ir dX12_ruled_19 rfl rfl
  · refine ao_s (st_iload_n dX12_ruled_7 rfl rfl) ?_
    refine ao_s (st_i2l dX12_ruled_8) ?_
    refine ao_s (st_lconst dX12_ruled_9 lc_0) ?_
    refine ao_s (st_lconst dX12_ruled_10 lc_1) ?_
    refine ao_cSi (Kc := kX12_in) (As := [.long x1.toInt64, .long 0, .long 1]) (st := []) dX12_ruled_11 ml_X12_127 ms_X12_in rfl rfl (Nat.le_of_ble_eq_true rfl) (by decide) (s_X12_in h23 x1.toInt64 0 1) (fun r24 h25 => ?_)
    refine ao_br (br_if_ne (tgt := 20) dX12_ruled_14 (by decide)) (fun c29 => ?_) (fun c29 => ?_)
    · refine ao_s (st_bipush dX12_ruled_17 bp_m3) ?_
      exact ao_ir dX12_ruled_19 rfl rfl
    · refine ao_s (st_aload_n dX12_ruled_20 rfl rfl) ?_
      refine ao_s (st_iconst dX12_ruled_21 ic_0) ?_
      refine ao_cVv (Kc := kX12_fillsFits) (As := [.int 0]) (st := []) dX12_ruled_22 ml_X12_435 mv_X12_fillsFits rfl e21 (by decide) rfl rfl (Nat.le_of_ble_eq_true rfl) (by decide) (s_X12_fillsFits h25 a0 0) (fun r26 h27 => ?_)
      refine ao_s (st_iconst dX12_ruled_25 ic_0) ?_
      refine ao_s (st_istore_n (lv' := [some (.ref a0), some (.int x1), some (.int 0), none, none]) dX12_ruled_26 rfl (by decide) rfl) ?_
      refine ao_s (st_bipush dX12_ruled_27 bp_m2) ?_
      refine ao_s (st_istore_n (lv' := [some (.ref a0), some (.int x1), some (.int 0), some (.int (-2)), none]) dX12_ruled_29 rfl (by decide) rfl) ?_
      refine ao_s (st_aload_n dX12_ruled_30 rfl rfl) ?_
      refine ao_getI dX12_ruled_31 fl_X12_270 rfl e21 ?_
      refine ao_letI (fun x28 => ?_)
      refine ao_s (st_istore (lv' := [some (.ref a0), some (.int x1), some (.int 0), some (.int (-2)), some (.int x28)]) dX12_ruled_34 (by decide) rfl) ?_
      exact ao_w (sb_s (sb_s (sb_s (sb_s (sb_s sb_0))))) (l_X12_ruled_36 2000 h27 a0 x1 0 (-2) x28)
def b_X12_boats_132 (k64 : aH → Nat → Int32 → Int32 → Int32 → Int32 → Int32 → Int32 → Option (Int32 × aH)) (h : aH) (a0 : Nat) (x2 : Int32) (x3 : Int32) (x4 : Int32) (x5 : Int32) (x6 : Int32) (x7 : Int32) : Option (Int32 × aH) :=
k64 h a0 x2 x3 x4 x5 x6 (x7 + 1)
set_option maxHeartbeats 2000000 in
theorem t_X12_boats_132 {k64 : aH → Nat → Int32 → Int32 → Int32 → Int32 → Int32 → Int32 → Option (Int32 × aH)} (hk64 : ∀ (h : aH) (a0 : Nat) (x2 : Int32) (x3 : Int32) (x4 : Int32) (x5 : Int32) (x6 : Int32) (x7 : Int32), AO eI 9 kX12_boats 64 [some (.ref a0), none, some (.int x2), some (.int x3), some (.int x4), some (.int x5), some (.int x6), some (.int x7)] [] h (k64 h a0 x2 x3 x4 x5 x6 x7)) (h : aH) (a0 : Nat) (x2 : Int32) (x3 : Int32) (x4 : Int32) (x5 : Int32) (x6 : Int32) (x7 : Int32) : AO eI 9 kX12_boats 132 [some (.ref a0), none, some (.int x2), some (.int x3), some (.int x4), some (.int x5), some (.int x6), some (.int x7)] [] h (b_X12_boats_132 k64 h a0 x2 x3 x4 x5 x6 x7) := by
  unfold b_X12_boats_132
  refine ao_s (st_iinc (lv' := [some (.ref a0), none, some (.int x2), some (.int x3), some (.int x4), some (.int x5), some (.int x6), some (.int (x7 + 1))]) dX12_boats_132 rfl nc_1 (by decide) rfl) ?_
  refine ao_s (st_goto 64 dX12_boats_135 (by decide)) ?_
  exact ao_w (sb_s (sb_n (sb_s (sb_s (sb_s (sb_s (sb_s (sb_s sb_0)))))))) (hk64 h a0 x2 x3 x4 x5 x6 (x7 + 1))
def b_X12_boats_122 (k64 : aH → Nat → Int32 → Int32 → Int32 → Int32 → Int32 → Int32 → Option (Int32 × aH)) (h : aH) (a0 : Nat) (x2 : Int32) (x3 : Int32) (x4 : Int32) (x5 : Int32) (x6 : Int32) (x7 : Int32) : Option (Int32 × aH) :=
(aLet (x6 &&& x7) fun x21 =>
b_X12_boats_132 k64 h a0 x2 x3 (x4 + 1) x5 x21 x7)
set_option maxHeartbeats 2000000 in
theorem t_X12_boats_122 {k64 : aH → Nat → Int32 → Int32 → Int32 → Int32 → Int32 → Int32 → Option (Int32 × aH)} (hk64 : ∀ (h : aH) (a0 : Nat) (x2 : Int32) (x3 : Int32) (x4 : Int32) (x5 : Int32) (x6 : Int32) (x7 : Int32), AO eI 9 kX12_boats 64 [some (.ref a0), none, some (.int x2), some (.int x3), some (.int x4), some (.int x5), some (.int x6), some (.int x7)] [] h (k64 h a0 x2 x3 x4 x5 x6 x7)) (h : aH) (a0 : Nat) (x2 : Int32) (x3 : Int32) (x4 : Int32) (x5 : Int32) (x6 : Int32) (x7 : Int32) : AO eI 9 kX12_boats 122 [some (.ref a0), none, some (.int x2), some (.int x3), some (.int x4), some (.int x5), some (.int x6), some (.int x7)] [] h (b_X12_boats_122 k64 h a0 x2 x3 x4 x5 x6 x7) := by
  unfold b_X12_boats_122
  refine ao_s (st_iload dX12_boats_122 rfl) ?_
  refine ao_s (st_iload dX12_boats_124 rfl) ?_
  refine ao_s (st_iand dX12_boats_126) ?_
  refine ao_letI (fun x21 => ?_)
  refine ao_s (st_istore (lv' := [some (.ref a0), none, some (.int x2), some (.int x3), some (.int x4), some (.int x5), some (.int x21), some (.int x7)]) dX12_boats_127 (by decide) rfl) ?_
  refine ao_s (st_iinc (lv' := [some (.ref a0), none, some (.int x2), some (.int x3), some (.int (x4 + 1)), some (.int x5), some (.int x21), some (.int x7)]) dX12_boats_129 rfl nc_1 (by decide) rfl) ?_
  exact ao_w (sb_s (sb_n (sb_s (sb_s (sb_s (sb_s (sb_s (sb_s sb_0)))))))) (t_X12_boats_132 hk64 h a0 x2 x3 (x4 + 1) x5 x21 x7)
def b_X12_boats_64 (k64 : aH → Nat → Int32 → Int32 → Int32 → Int32 → Int32 → Int32 → Option (Int32 × aH)) (h : aH) (a0 : Nat) (x2 : Int32) (x3 : Int32) (x4 : Int32) (x5 : Int32) (x6 : Int32) (x7 : Int32) : Option (Int32 × aH) :=
(if 256 ≤ x7 then
(if (sh a0).1 = 19 then
(aLet (pI h a0 21 x3) fun h22 =>
(aBind (f_X12_laysBack h22 a0) fun r23 h24 =>
(if x2 = 0 then
some (x4, h24)
else
(if x2 = 1 then
some (x5, h24)
else
(if x4 = 0 then
some (0, h24)
else
some (x6, h24))))))
else none)
else
(if (sh a0).1 = 19 then
(aBind (f_X12_begins h a0) fun r29 h30 =>
((hR h30 a0 20).bind fun b31 =>
((hR h30 a0 20).bind fun b32 =>
(if (sh b32).1 = 0 then
(if aIn 75 (sh b32).2 then
(if (sh b31).1 = 0 then
(if aIn 75 (sh b31).2 then
(aLet (pI h30 b31 (75 : Int32).toNatClampNeg ((((hI h30 b32 (75 : Int32).toNatClampNeg) / 256) * 256) + x7)) fun h35 =>
(aBind (f_X12_isSo h35 a0 0 (-1)) fun r36 h37 =>
(if r36 = 0 then
b_X12_boats_132 k64 h37 a0 x2 x3 x4 x5 x6 x7
else
(if x4 = 0 then
b_X12_boats_122 k64 h37 a0 x2 x3 x4 x7 x6 x7
else
b_X12_boats_122 k64 h37 a0 x2 x3 x4 x5 x6 x7))))
else none)
else none)
else none)
else none))))
else none))
set_option maxHeartbeats 2000000 in
theorem t_X12_boats_64 {k64 : aH → Nat → Int32 → Int32 → Int32 → Int32 → Int32 → Int32 → Option (Int32 × aH)} (hk64 : ∀ (h : aH) (a0 : Nat) (x2 : Int32) (x3 : Int32) (x4 : Int32) (x5 : Int32) (x6 : Int32) (x7 : Int32), AO eI 9 kX12_boats 64 [some (.ref a0), none, some (.int x2), some (.int x3), some (.int x4), some (.int x5), some (.int x6), some (.int x7)] [] h (k64 h a0 x2 x3 x4 x5 x6 x7)) (h : aH) (a0 : Nat) (x2 : Int32) (x3 : Int32) (x4 : Int32) (x5 : Int32) (x6 : Int32) (x7 : Int32) : AO eI 9 kX12_boats 64 [some (.ref a0), none, some (.int x2), some (.int x3), some (.int x4), some (.int x5), some (.int x6), some (.int x7)] [] h (b_X12_boats_64 k64 h a0 x2 x3 x4 x5 x6 x7) := by
  unfold b_X12_boats_64
  refine ao_s (st_iload dX12_boats_64 rfl) ?_
  refine ao_s (st_sipush dX12_boats_66 sp_256) ?_
  refine ao_br (br_icmp_ge (tgt := 138) dX12_boats_69 (by decide)) (fun c40 => ?_) (fun c40 => ?_)
  · refine ao_s (st_aload_n dX12_boats_138 rfl rfl) ?_
    refine ao_s (st_iload_n dX12_boats_139 rfl rfl) ?_
    refine ao_chk (fun e21 => ?_)
    refine ao_putI dX12_boats_140 fl_X12_42 rfl rfl rfl rfl e21 ?_
    refine ao_letH (fun h22 => ?_)
    refine ao_s (st_aload_n dX12_boats_143 rfl rfl) ?_
    refine ao_cVv (Kc := kX12_laysBack) (As := []) (st := []) dX12_boats_144 ml_X12_397 mv_X12_laysBack rfl e21 (by decide) rfl rfl (Nat.le_of_ble_eq_true rfl) (by decide) (s_X12_laysBack h22 a0) (fun r23 h24 => ?_)
    refine ao_s (st_iload_n dX12_boats_147 rfl rfl) ?_
    refine ao_br (br_if_ne (tgt := 156) dX12_boats_148 (by decide)) (fun c27 => ?_) (fun c27 => ?_)
    · refine ao_s (st_iload dX12_boats_151 rfl) ?_
      refine ao_s (st_goto 177 dX12_boats_153 (by decide)) ?_
      exact ao_ir dX12_boats_177 rfl rfl
    · refine ao_s (st_iload_n dX12_boats_156 rfl rfl) ?_
      refine ao_s (st_iconst dX12_boats_157 ic_1) ?_
      refine ao_br (br_icmp_ne (tgt := 166) dX12_boats_158 (by decide)) (fun c26 => ?_) (fun c26 => ?_)
      · refine ao_s (st_iload dX12_boats_161 rfl) ?_
        refine ao_s (st_goto 177 dX12_boats_163 (by decide)) ?_
        exact ao_ir dX12_boats_177 rfl rfl
      · refine ao_s (st_iload dX12_boats_166 rfl) ?_
        refine ao_br (br_if_ne (tgt := 175) dX12_boats_168 (by decide)) (fun c25 => ?_) (fun c25 => ?_)
        · refine ao_s (st_iconst dX12_boats_171 ic_0) ?_
          refine ao_s (st_goto 177 dX12_boats_172 (by decide)) ?_
          exact ao_ir dX12_boats_177 rfl rfl
        · refine ao_s (st_iload dX12_boats_175 rfl) ?_
          exact ao_ir dX12_boats_177 rfl rfl
  · refine ao_s (st_aload_n dX12_boats_72 rfl rfl) ?_
    refine ao_chk (fun e28 => ?_)
    refine ao_cVv (Kc := kX12_begins) (As := []) (st := []) dX12_boats_73 ml_X12_276 mv_X12_begins rfl e28 (by decide) rfl rfl (Nat.le_of_ble_eq_true rfl) (by decide) (s_X12_begins h a0) (fun r29 h30 => ?_)
    refine ao_s (st_aload_n dX12_boats_76 rfl rfl) ?_
    refine ao_getR dX12_boats_77 fl_X12_39 rfl e28 (fun b31 => ?_)
    refine ao_s (st_bipush dX12_boats_80 bp_75) ?_
    refine ao_s (st_aload_n dX12_boats_82 rfl rfl) ?_
    refine ao_getR dX12_boats_83 fl_X12_39 rfl e28 (fun b32 => ?_)
    refine ao_s (st_bipush dX12_boats_86 bp_75) ?_
    refine ao_chk (fun e33 => ?_)
    refine ao_iald dX12_boats_88 e33 ?_
    refine ao_s (st_sipush dX12_boats_89 sp_256) ?_
    refine ao_s (st_idiv dX12_boats_92 (by decide)) ?_
    refine ao_s (st_sipush dX12_boats_93 sp_256) ?_
    refine ao_s (st_imul dX12_boats_96) ?_
    refine ao_s (st_iload dX12_boats_97 rfl) ?_
    refine ao_s (st_iadd dX12_boats_99) ?_
    refine ao_chk (fun e34 => ?_)
    refine ao_iast dX12_boats_100 e34 ?_
    refine ao_letH (fun h35 => ?_)
    refine ao_s (st_aload_n dX12_boats_101 rfl rfl) ?_
    refine ao_s (st_iconst dX12_boats_102 ic_0) ?_
    refine ao_s (st_iconst dX12_boats_103 ic_m1) ?_
    refine ao_cVi (Kc := kX12_isSo) (As := [.int 0, .int (-1)]) (st := []) dX12_boats_104 ml_X12_432 mv_X12_isSo rfl e28 (by decide) rfl rfl (Nat.le_of_ble_eq_true rfl) (by decide) (s_X12_isSo h35 a0 0 (-1)) (fun r36 h37 => ?_)
    refine ao_br (br_if_ne (tgt := 113) dX12_boats_107 (by decide)) (fun c39 => ?_) (fun c39 => ?_)
    · refine ao_s (st_goto 132 dX12_boats_110 (by decide)) ?_
      exact ao_w (sb_s (sb_n (sb_s (sb_s (sb_s (sb_s (sb_s (sb_s sb_0)))))))) (t_X12_boats_132 hk64 h37 a0 x2 x3 x4 x5 x6 x7)
    · refine ao_s (st_iload dX12_boats_113 rfl) ?_
      refine ao_br (br_if_ne (tgt := 122) dX12_boats_115 (by decide)) (fun c38 => ?_) (fun c38 => ?_)
      · refine ao_s (st_iload dX12_boats_118 rfl) ?_
        refine ao_s (st_istore (lv' := [some (.ref a0), none, some (.int x2), some (.int x3), some (.int x4), some (.int x7), some (.int x6), some (.int x7)]) dX12_boats_120 (by decide) rfl) ?_
        exact ao_w (sb_s (sb_n (sb_s (sb_s (sb_s (sb_s (sb_s (sb_s sb_0)))))))) (t_X12_boats_122 hk64 h37 a0 x2 x3 x4 x7 x6 x7)
      · exact ao_w (sb_s (sb_n (sb_s (sb_s (sb_s (sb_s (sb_s (sb_s sb_0)))))))) (t_X12_boats_122 hk64 h37 a0 x2 x3 x4 x5 x6 x7)
def f_X12_boats_64 (n : Nat) : aH → Nat → Int32 → Int32 → Int32 → Int32 → Int32 → Int32 → Option (Int32 × aH) := aIt (fun _ _ _ _ _ _ _ _ => none) (fun k => b_X12_boats_64 k) n
theorem l_X12_boats_64 (n : Nat) : ∀ (h : aH) (a0 : Nat) (x2 : Int32) (x3 : Int32) (x4 : Int32) (x5 : Int32) (x6 : Int32) (x7 : Int32), AO eI 9 kX12_boats 64 [some (.ref a0), none, some (.int x2), some (.int x3), some (.int x4), some (.int x5), some (.int x6), some (.int x7)] [] h (f_X12_boats_64 n h a0 x2 x3 x4 x5 x6 x7) := by
  induction n with
  | zero => intros; exact ao_none
  | succ n ih =>
    intro h a0 x2 x3 x4 x5 x6 x7
    exact t_X12_boats_64 ih h a0 x2 x3 x4 x5 x6 x7
def b_X12_boats_20 (h : aH) (a0 : Nat) (x1 : Int32) (x2 : Int32) : Option (Int32 × aH) :=
(aBind (f_X12_in h x2.toInt64 0 2) fun r21 h22 =>
(if r21 = 0 then
some ((-3), h22)
else
(if (sh a0).1 = 19 then
(aLet (hI h22 a0 21) fun x24 =>
(aBind (f_X12_keeps h22 a0) fun r25 h26 =>
(aLet (pI h26 a0 21 x1) fun h27 =>
f_X12_boats_64 2000 h27 a0 x2 x24 0 (-2) 255 0)))
else none)))
set_option maxHeartbeats 2000000 in
theorem t_X12_boats_20 (h : aH) (a0 : Nat) (x1 : Int32) (x2 : Int32) : AO eI 9 kX12_boats 20 [some (.ref a0), some (.int x1), some (.int x2), none, none, none, none, none] [] h (b_X12_boats_20 h a0 x1 x2) := by
  unfold b_X12_boats_20
  refine ao_s (st_iload_n dX12_boats_20 rfl rfl) ?_
  refine ao_s (st_i2l dX12_boats_21) ?_
  refine ao_s (st_lconst dX12_boats_22 lc_0) ?_
  refine ao_s (st_ldc2 dX12_boats_23 cl_X12_438) ?_
  refine ao_cSi (Kc := kX12_in) (As := [.long x2.toInt64, .long 0, .long 2]) (st := []) dX12_boats_26 ml_X12_127 ms_X12_in rfl rfl (Nat.le_of_ble_eq_true rfl) (by decide) (s_X12_in h x2.toInt64 0 2) (fun r21 h22 => ?_)
  refine ao_br (br_if_ne (tgt := 35) dX12_boats_29 (by decide)) (fun c28 => ?_) (fun c28 => ?_)
  · refine ao_s (st_bipush dX12_boats_32 bp_m3) ?_
    exact ao_ir dX12_boats_34 rfl rfl
  · refine ao_s (st_aload_n dX12_boats_35 rfl rfl) ?_
    refine ao_chk (fun e23 => ?_)
    refine ao_getI dX12_boats_36 fl_X12_42 rfl e23 ?_
    refine ao_letI (fun x24 => ?_)
    refine ao_s (st_istore_n (lv' := [some (.ref a0), some (.int x1), some (.int x2), some (.int x24), none, none, none, none]) dX12_boats_39 rfl (by decide) rfl) ?_
    refine ao_s (st_iconst dX12_boats_40 ic_0) ?_
    refine ao_s (st_istore (lv' := [some (.ref a0), some (.int x1), some (.int x2), some (.int x24), some (.int 0), none, none, none]) dX12_boats_41 (by decide) rfl) ?_
    refine ao_s (st_bipush dX12_boats_43 bp_m2) ?_
    refine ao_s (st_istore (lv' := [some (.ref a0), some (.int x1), some (.int x2), some (.int x24), some (.int 0), some (.int (-2)), none, none]) dX12_boats_45 (by decide) rfl) ?_
    refine ao_s (st_sipush dX12_boats_47 sp_255) ?_
    refine ao_s (st_istore (lv' := [some (.ref a0), some (.int x1), some (.int x2), some (.int x24), some (.int 0), some (.int (-2)), some (.int 255), none]) dX12_boats_50 (by decide) rfl) ?_
    refine ao_s (st_aload_n dX12_boats_52 rfl rfl) ?_
    refine ao_cVv (Kc := kX12_keeps) (As := []) (st := []) dX12_boats_53 ml_X12_391 mv_X12_keeps rfl e23 (by decide) rfl rfl (Nat.le_of_ble_eq_true rfl) (by decide) (s_X12_keeps h22 a0) (fun r25 h26 => ?_)
    refine ao_s (st_aload_n dX12_boats_56 rfl rfl) ?_
    refine ao_s (st_iload_n dX12_boats_57 rfl rfl) ?_
    refine ao_putI dX12_boats_58 fl_X12_42 rfl rfl rfl rfl e23 ?_
    refine ao_letH (fun h27 => ?_)
    refine ao_s (st_iconst dX12_boats_61 ic_0) ?_
    refine ao_s (st_istore (lv' := [some (.ref a0), some (.int x1), some (.int x2), some (.int x24), some (.int 0), some (.int (-2)), some (.int 255), some (.int 0)]) dX12_boats_62 (by decide) rfl) ?_
    exact ao_w (sb_s (sb_n (sb_s (sb_s (sb_s (sb_s (sb_s (sb_s sb_0)))))))) (l_X12_boats_64 2000 h27 a0 x2 x24 0 (-2) 255 0)
def f_X12_boats (h : aH) (a0 : Nat) (x1 : Int32) (x2 : Int32) : Option (Int32 × aH) :=
(if (sh a0).1 = 19 then
(aBind (f_X12_isIsle h a0) fun r22 h23 =>
(if r22 = 0 then
some ((-3), h23)
else
(if x1 = (-1) then
b_X12_boats_20 h23 a0 x1 x2
else
(aBind (f_X12_isRule h23 a0 x1) fun r24 h25 =>
(if r24 = 0 then
some ((-3), h25)
else
b_X12_boats_20 h25 a0 x1 x2)))))
else none)
set_option maxHeartbeats 2000000 in
theorem s_X12_boats (h : aH) (a0 : Nat) (x1 : Int32) (x2 : Int32) : SO eI 9 kX12_boats [.ref a0, .int x1, .int x2] h (f_X12_boats h a0 x1 x2) := by
  refine so_of (lv0 := [some (.ref a0), some (.int x1), some (.int x2), none, none, none, none, none]) pn_X12 (Nat.le_of_ble_eq_true rfl) rfl ?_
  unfold f_X12_boats
  refine ao_s (st_aload_n dX12_boats_0 rfl rfl) ?_
  refine ao_chk (fun e21 => ?_)
  refine ao_cVi (Kc := kX12_isIsle) (As := []) (st := []) dX12_boats_1 ml_X12_368 mv_X12_isIsle rfl e21 (by decide) rfl rfl (Nat.le_of_ble_eq_true rfl) (by decide) (s_X12_isIsle h a0) (fun r22 h23 => ?_)
  refine ao_br (br_if_eq (tgt := 32) dX12_boats_4 (by decide)) (fun c28 => ?_) (fun c28 => ?_)
  · refine ao_s (st_bipush dX12_boats_32 bp_m3) ?_
    exact ao_ir dX12_boats_34 rfl rfl
  · refine ao_s (st_iload_n dX12_boats_7 rfl rfl) ?_
    refine ao_s (st_iconst dX12_boats_8 ic_m1) ?_
    refine ao_br (br_icmp_eq (tgt := 20) dX12_boats_9 (by decide)) (fun c27 => ?_) (fun c27 => ?_)
    · exact ao_w (sb_s (sb_s (sb_s (sb_n (sb_n (sb_n (sb_n (sb_n sb_0)))))))) (t_X12_boats_20 h23 a0 x1 x2)
    · refine ao_s (st_aload_n dX12_boats_12 rfl rfl) ?_
      refine ao_s (st_iload_n dX12_boats_13 rfl rfl) ?_
      refine ao_cVi (Kc := kX12_isRule) (As := [.int x1]) (st := []) dX12_boats_14 ml_X12_321 mv_X12_isRule rfl e21 (by decide) rfl rfl (Nat.le_of_ble_eq_true rfl) (by decide) (s_X12_isRule h23 a0 x1) (fun r24 h25 => ?_)
      refine ao_br (br_if_eq (tgt := 32) dX12_boats_17 (by decide)) (fun c26 => ?_) (fun c26 => ?_)
      · refine ao_s (st_bipush dX12_boats_32 bp_m3) ?_
        exact ao_ir dX12_boats_34 rfl rfl
      · exact ao_w (sb_s (sb_s (sb_s (sb_n (sb_n (sb_n (sb_n (sb_n sb_0)))))))) (t_X12_boats_20 h25 a0 x1 x2)
