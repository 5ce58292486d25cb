def f_X8_joinTwo (h : aH) (a0 : Nat) (x1 : Int32) (x2 : Int32) : Option (Int32 × aH) :=
(aLet (4 + x2) fun x21 =>
(if (sh a0).1 = 15 then
((hR h a0 7).bind fun b23 =>
(if (sh b23).1 = 0 then
(if aIn x1 (sh b23).2 then
(aLet (hI h b23 x1.toNatClampNeg) fun x25 =>
(aLet (hI h a0 1) fun x26 =>
(aLet ((if x25 < x26 then x25 else x26)) fun x27 =>
(aBind (f_X8_give h a0 x1 x21 x27) fun r28 h29 =>
((hR h29 a0 9).bind fun b30 =>
(if (sh b30).1 = 0 then
(if aIn x1 (sh b30).2 then
(if aIn x1 (sh b30).2 then
(aLet (pI h29 b30 x1.toNatClampNeg ((hI h29 b30 x1.toNatClampNeg) + 1)) fun h32 =>
((hR h32 a0 9).bind fun b33 =>
(if (sh b33).1 = 0 then
(if aIn x21 (sh b33).2 then
(if aIn x21 (sh b33).2 then
(aLet (pI h32 b33 x21.toNatClampNeg ((hI h32 b33 x21.toNatClampNeg) + 1)) fun h35 =>
((hR h35 a0 8).bind fun b36 =>
(if (sh b36).1 = 0 then
(if aIn x1 (sh b36).2 then
(aLet (pI h35 b36 x1.toNatClampNeg x2) fun h38 =>
((hR h38 a0 8).bind fun b39 =>
(if (sh b39).1 = 0 then
(if aIn x21 (sh b39).2 then
(aLet (pI h38 b39 x21.toNatClampNeg x1) fun h41 =>
((hR h41 a0 10).bind fun b42 =>
(if (sh b42).1 = 0 then
(if aIn x1 (sh b42).2 then
(aLet (pI h41 b42 x1.toNatClampNeg 0) fun h44 =>
some (x27, h44))
else none)
else none)))
else none)
else none)))
else none)
else none)))
else none)
else none)
else none)))
else none)
else none)
else none))))))
else none)
else none))
else none))
set_option maxHeartbeats 2000000 in
theorem s_X8_joinTwo (h : aH) (a0 : Nat) (x1 : Int32) (x2 : Int32) : SO eI 3 kX8_joinTwo [.ref a0, .int x1, .int x2] h (f_X8_joinTwo h a0 x1 x2) := by
  refine so_of (lv0 := [some (.ref a0), some (.int x1), some (.int x2), none, none, none]) pn_X8 (Nat.le_of_ble_eq_true rfl) rfl ?_
  unfold f_X8_joinTwo
  refine ao_s (st_iload_n dX8_joinTwo_0 rfl rfl) ?_
  refine ao_s (st_istore_n (lv' := [some (.ref a0), some (.int x1), some (.int x2), some (.int x1), none, none]) dX8_joinTwo_1 rfl (by decide) rfl) ?_
  refine ao_s (st_iconst dX8_joinTwo_2 ic_4) ?_
  refine ao_s (st_iload_n dX8_joinTwo_3 rfl rfl) ?_
  refine ao_s (st_iadd dX8_joinTwo_4) ?_
  refine ao_letI (fun x21 => ?_)
  refine ao_s (st_istore (lv' := [some (.ref a0), some (.int x1), some (.int x2), some (.int x1), some (.int x21), none]) dX8_joinTwo_5 (by decide) rfl) ?_
  refine ao_s (st_aload_n dX8_joinTwo_7 rfl rfl) ?_
  refine ao_chk (fun e22 => ?_)
  refine ao_getI dX8_joinTwo_8 fl_X8_15 rfl e22 ?_
  refine ao_s (st_aload_n dX8_joinTwo_11 rfl rfl) ?_
  refine ao_getR dX8_joinTwo_12 fl_X8_35 rfl e22 (fun b23 => ?_)
  refine ao_s (st_iload_n dX8_joinTwo_15 rfl rfl) ?_
  refine ao_chk (fun e24 => ?_)
  refine ao_iald dX8_joinTwo_16 e24 ?_
  refine ao_letI (fun x25 => ?_)
  refine ao_let2 (fun x26 => ?_)
  refine ao_mmin dX8_joinTwo_17 ml_X8_88 (Nat.le_of_ble_eq_true rfl) (by decide) ?_
  refine ao_letI (fun x27 => ?_)
  refine ao_s (st_istore (lv' := [some (.ref a0), some (.int x1), some (.int x2), some (.int x1), some (.int x21), some (.int x27)]) dX8_joinTwo_20 (by decide) rfl) ?_
  refine ao_s (st_aload_n dX8_joinTwo_22 rfl rfl) ?_
  refine ao_s (st_iload_n dX8_joinTwo_23 rfl rfl) ?_
  refine ao_s (st_iload dX8_joinTwo_24 rfl) ?_
  refine ao_s (st_iload dX8_joinTwo_26 rfl) ?_
  refine ao_cVv (Kc := kX8_give) (As := [.int x1, .int x21, .int x27]) (st := []) dX8_joinTwo_28 ml_X8_93 mv_X8_give rfl e22 (by decide) rfl rfl (Nat.le_of_ble_eq_true rfl) (by decide) (s_X8_give h a0 x1 x21 x27) (fun r28 h29 => ?_)
  refine ao_s (st_aload_n dX8_joinTwo_31 rfl rfl) ?_
  refine ao_getR dX8_joinTwo_32 fl_X8_42 rfl e22 (fun b30 => ?_)
  refine ao_s (st_iload_n dX8_joinTwo_35 rfl rfl) ?_
  refine ao_s (st_dup2 dX8_joinTwo_36 rfl rfl) ?_
  refine ao_chk (fun e31 => ?_)
  refine ao_iald dX8_joinTwo_37 e31 ?_
  refine ao_s (st_iconst dX8_joinTwo_38 ic_1) ?_
  refine ao_s (st_iadd dX8_joinTwo_39) ?_
  refine ao_iast dX8_joinTwo_40 e31 ?_
  refine ao_letH (fun h32 => ?_)
  refine ao_s (st_aload_n dX8_joinTwo_41 rfl rfl) ?_
  refine ao_getR dX8_joinTwo_42 fl_X8_42 rfl e22 (fun b33 => ?_)
  refine ao_s (st_iload dX8_joinTwo_45 rfl) ?_
  refine ao_s (st_dup2 dX8_joinTwo_47 rfl rfl) ?_
  refine ao_chk (fun e34 => ?_)
  refine ao_iald dX8_joinTwo_48 e34 ?_
  refine ao_s (st_iconst dX8_joinTwo_49 ic_1) ?_
  refine ao_s (st_iadd dX8_joinTwo_50) ?_
  refine ao_iast dX8_joinTwo_51 e34 ?_
  refine ao_letH (fun h35 => ?_)
  refine ao_s (st_aload_n dX8_joinTwo_52 rfl rfl) ?_
  refine ao_getR dX8_joinTwo_53 fl_X8_39 rfl e22 (fun b36 => ?_)
  refine ao_s (st_iload_n dX8_joinTwo_56 rfl rfl) ?_
  refine ao_s (st_iload_n dX8_joinTwo_57 rfl rfl) ?_
  refine ao_chk (fun e37 => ?_)
  refine ao_iast dX8_joinTwo_58 e37 ?_
  refine ao_letH (fun h38 => ?_)
  refine ao_s (st_aload_n dX8_joinTwo_59 rfl rfl) ?_
  refine ao_getR dX8_joinTwo_60 fl_X8_39 rfl e22 (fun b39 => ?_)
  refine ao_s (st_iload dX8_joinTwo_63 rfl) ?_
  refine ao_s (st_iload_n dX8_joinTwo_65 rfl rfl) ?_
  refine ao_chk (fun e40 => ?_)
  refine ao_iast dX8_joinTwo_66 e40 ?_
  refine ao_letH (fun h41 => ?_)
  refine ao_s (st_aload_n dX8_joinTwo_67 rfl rfl) ?_
  refine ao_getR dX8_joinTwo_68 fl_X8_45 rfl e22 (fun b42 => ?_)
  refine ao_s (st_iload_n dX8_joinTwo_71 rfl rfl) ?_
  refine ao_s (st_iconst dX8_joinTwo_72 ic_0) ?_
  refine ao_chk (fun e43 => ?_)
  refine ao_iast dX8_joinTwo_73 e43 ?_
  refine ao_letH (fun h44 => ?_)
  refine ao_s (st_iload dX8_joinTwo_74 rfl) ?_
  exact ao_ir dX8_joinTwo_76 rfl rfl
def b_X0_joinThoseAtHand_36 (k4 : aH → Nat → Nat → Int32 → Int32 → Option (Int32 × aH)) (h : aH) (a0 : Nat) (a1 : Nat) (x2 : Int32) (x3 : Int32) : Option (Int32 × aH) :=
k4 h a0 a1 x2 (x3 + 1)
set_option maxHeartbeats 2000000 in
theorem t_X0_joinThoseAtHand_36 {k4 : aH → Nat → Nat → Int32 → Int32 → Option (Int32 × aH)} (hk4 : ∀ (h : aH) (a0 : Nat) (a1 : Nat) (x2 : Int32) (x3 : Int32), AO eI 4 kX0_joinThoseAtHand 4 [some (.ref a0), some (.ref a1), some (.int x2), some (.int x3)] [] h (k4 h a0 a1 x2 x3)) (h : aH) (a0 : Nat) (a1 : Nat) (x2 : Int32) (x3 : Int32) : AO eI 4 kX0_joinThoseAtHand 36 [some (.ref a0), some (.ref a1), some (.int x2), some (.int x3)] [] h (b_X0_joinThoseAtHand_36 k4 h a0 a1 x2 x3) := by
  unfold b_X0_joinThoseAtHand_36
  refine ao_s (st_iinc (lv' := [some (.ref a0), some (.ref a1), some (.int x2), some (.int (x3 + 1))]) dX0_joinThoseAtHand_36 rfl nc_1 (by decide) rfl) ?_
  refine ao_s (st_goto 4 dX0_joinThoseAtHand_39 (by decide)) ?_
  exact ao_w (sb_s (sb_s (sb_s (sb_s sb_0)))) (hk4 h a0 a1 x2 (x3 + 1))
def b_X0_joinThoseAtHand_4 (k4 : aH → Nat → Nat → Int32 → Int32 → Option (Int32 × aH)) (h : aH) (a0 : Nat) (a1 : Nat) (x2 : Int32) (x3 : Int32) : Option (Int32 × aH) :=
(if (sh a1).1 = 15 then
(if hI h a1 4 ≤ x3 then
some (x2, h)
else
(if (sh a0).1 = 7 then
((hR h a0 3).bind fun b23 =>
(if (sh b23).1 = 0 then
(if aIn x3 (sh b23).2 then
(if hI h b23 x3.toNatClampNeg < 0 then
b_X0_joinThoseAtHand_36 k4 h a0 a1 x2 x3
else
((hR h a0 3).bind fun b25 =>
(if (sh b25).1 = 0 then
(if aIn x3 (sh b25).2 then
(aBind (f_X8_joinTwo h a1 (hI h b25 x3.toNatClampNeg) x3) fun r27 h28 =>
b_X0_joinThoseAtHand_36 k4 h28 a0 a1 (x2 + 1) x3)
else none)
else none)))
else none)
else none))
else none))
else none)
set_option maxHeartbeats 2000000 in
theorem t_X0_joinThoseAtHand_4 {k4 : aH → Nat → Nat → Int32 → Int32 → Option (Int32 × aH)} (hk4 : ∀ (h : aH) (a0 : Nat) (a1 : Nat) (x2 : Int32) (x3 : Int32), AO eI 4 kX0_joinThoseAtHand 4 [some (.ref a0), some (.ref a1), some (.int x2), some (.int x3)] [] h (k4 h a0 a1 x2 x3)) (h : aH) (a0 : Nat) (a1 : Nat) (x2 : Int32) (x3 : Int32) : AO eI 4 kX0_joinThoseAtHand 4 [some (.ref a0), some (.ref a1), some (.int x2), some (.int x3)] [] h (b_X0_joinThoseAtHand_4 k4 h a0 a1 x2 x3) := by
  unfold b_X0_joinThoseAtHand_4
  refine ao_s (st_iload_n dX0_joinThoseAtHand_4 rfl rfl) ?_
  refine ao_s (st_aload_n dX0_joinThoseAtHand_5 rfl rfl) ?_
  refine ao_chk (fun e21 => ?_)
  refine ao_getI dX0_joinThoseAtHand_6 fl_X0_81 rfl e21 ?_
  refine ao_br (br_icmp_ge (tgt := 42) dX0_joinThoseAtHand_9 (by decide)) (fun c30 => ?_) (fun c30 => ?_)
  · refine ao_s (st_iload_n dX0_joinThoseAtHand_42 rfl rfl) ?_
    exact ao_ir dX0_joinThoseAtHand_43 rfl rfl
  · refine ao_s (st_aload_n dX0_joinThoseAtHand_12 rfl rfl) ?_
    refine ao_chk (fun e22 => ?_)
    refine ao_getR dX0_joinThoseAtHand_13 fl_X0_25 rfl e22 (fun b23 => ?_)
    refine ao_s (st_iload_n dX0_joinThoseAtHand_16 rfl rfl) ?_
    refine ao_chk (fun e24 => ?_)
    refine ao_iald dX0_joinThoseAtHand_17 e24 ?_
    refine ao_br (br_if_lt (tgt := 36) dX0_joinThoseAtHand_18 (by decide)) (fun c29 => ?_) (fun c29 => ?_)
    · exact ao_w (sb_s (sb_s (sb_s (sb_s sb_0)))) (t_X0_joinThoseAtHand_36 hk4 h a0 a1 x2 x3)
    · refine ao_s (st_aload_n dX0_joinThoseAtHand_21 rfl rfl) ?_
      refine ao_s (st_aload_n dX0_joinThoseAtHand_22 rfl rfl) ?_
      refine ao_getR dX0_joinThoseAtHand_23 fl_X0_25 rfl e22 (fun b25 => ?_)
      refine ao_s (st_iload_n dX0_joinThoseAtHand_26 rfl rfl) ?_
      refine ao_chk (fun e26 => ?_)
      refine ao_iald dX0_joinThoseAtHand_27 e26 ?_
      refine ao_s (st_iload_n dX0_joinThoseAtHand_28 rfl rfl) ?_
      refine ao_cVi (Kc := kX8_joinTwo) (As := [.int (hI h b25 x3.toNatClampNeg), .int x3]) (st := []) dX0_joinThoseAtHand_29 ml_X0_88 mv_X8_joinTwo rfl e21 (by decide) rfl rfl (Nat.le_of_ble_eq_true rfl) (by decide) (s_X8_joinTwo h a1 (hI h b25 x3.toNatClampNeg) x3) (fun r27 h28 => ?_)
      refine ao_s (st_pop dX0_joinThoseAtHand_32 rfl) ?_
      refine ao_s (st_iinc (lv' := [some (.ref a0), some (.ref a1), some (.int (x2 + 1)), some (.int x3)]) dX0_joinThoseAtHand_33 rfl nc_1 (by decide) rfl) ?_
      exact ao_w (sb_s (sb_s (sb_s (sb_s sb_0)))) (t_X0_joinThoseAtHand_36 hk4 h28 a0 a1 (x2 + 1) x3)
def f_X0_joinThoseAtHand_4 (n : Nat) : aH → Nat → Nat → Int32 → Int32 → Option (Int32 × aH) := aIt (fun _ _ _ _ _ => none) (fun k => b_X0_joinThoseAtHand_4 k) n
theorem l_X0_joinThoseAtHand_4 (n : Nat) : ∀ (h : aH) (a0 : Nat) (a1 : Nat) (x2 : Int32) (x3 : Int32), AO eI 4 kX0_joinThoseAtHand 4 [some (.ref a0), some (.ref a1), some (.int x2), some (.int x3)] [] h (f_X0_joinThoseAtHand_4 n h a0 a1 x2 x3) := by
  induction n with
  | zero => intros; exact ao_none
  | succ n ih =>
    intro h a0 a1 x2 x3
    exact t_X0_joinThoseAtHand_4 ih h a0 a1 x2 x3
def f_X0_joinThoseAtHand (h : aH) (a0 : Nat) (a1 : Nat) : Option (Int32 × aH) :=
f_X0_joinThoseAtHand_4 2000 h a0 a1 0 0
set_option maxHeartbeats 2000000 in
theorem s_X0_joinThoseAtHand (h : aH) (a0 : Nat) (a1 : Nat) : SO eI 4 kX0_joinThoseAtHand [.ref a0, .ref a1] h (f_X0_joinThoseAtHand h a0 a1) := by
  refine so_of (lv0 := [some (.ref a0), some (.ref a1), none, none]) pn_X0 (Nat.le_of_ble_eq_true rfl) rfl ?_
  unfold f_X0_joinThoseAtHand
  refine ao_s (st_iconst dX0_joinThoseAtHand_0 ic_0) ?_
  refine ao_s (st_istore_n (lv' := [some (.ref a0), some (.ref a1), some (.int 0), none]) dX0_joinThoseAtHand_1 rfl (by decide) rfl) ?_
  refine ao_s (st_iconst dX0_joinThoseAtHand_2 ic_0) ?_
  refine ao_s (st_istore_n (lv' := [some (.ref a0), some (.ref a1), some (.int 0), some (.int 0)]) dX0_joinThoseAtHand_3 rfl (by decide) rfl) ?_
  exact ao_w (sb_s (sb_s (sb_s (sb_s sb_0)))) (l_X0_joinThoseAtHand_4 2000 h a0 a1 0 0)
def b_X8_bestFree_105 (k51 : aH → Nat → Int32 → Int32 → Int32 → Int32 → Int32 → Int32 → Option (Int32 × aH)) (h : aH) (a0 : Nat) (x1 : Int32) (x3 : Int32) (x4 : Int32) (x5 : Int32) (x6 : Int32) (x7 : Int32) : Option (Int32 × aH) :=
k51 h a0 x1 x3 x4 x5 x6 (x7 + 1)
set_option maxHeartbeats 2000000 in
theorem t_X8_bestFree_105 {k51 : aH → Nat → Int32 → Int32 → Int32 → Int32 → Int32 → Int32 → Option (Int32 × aH)} (hk51 : ∀ (h : aH) (a0 : Nat) (x1 : Int32) (x3 : Int32) (x4 : Int32) (x5 : Int32) (x6 : Int32) (x7 : Int32), AO eI 2 kX8_bestFree 51 [some (.ref a0), some (.int x1), none, some (.int x3), some (.int x4), some (.int x5), some (.int x6), some (.int x7)] [] h (k51 h a0 x1 x3 x4 x5 x6 x7)) (h : aH) (a0 : Nat) (x1 : Int32) (x3 : Int32) (x4 : Int32) (x5 : Int32) (x6 : Int32) (x7 : Int32) : AO eI 2 kX8_bestFree 105 [some (.ref a0), some (.int x1), none, some (.int x3), some (.int x4), some (.int x5), some (.int x6), some (.int x7)] [] h (b_X8_bestFree_105 k51 h a0 x1 x3 x4 x5 x6 x7) := by
  unfold b_X8_bestFree_105
  refine ao_s (st_iinc (lv' := [some (.ref a0), some (.int x1), none, some (.int x3), some (.int x4), some (.int x5), some (.int x6), some (.int (x7 + 1))]) dX8_bestFree_105 rfl nc_1 (by decide) rfl) ?_
  refine ao_s (st_goto 51 dX8_bestFree_108 (by decide)) ?_
  exact ao_w (sb_s (sb_s (sb_n (sb_s (sb_s (sb_s (sb_s (sb_s sb_0)))))))) (hk51 h a0 x1 x3 x4 x5 x6 (x7 + 1))
def b_X8_bestFree_51 (k51 : aH → Nat → Int32 → Int32 → Int32 → Int32 → Int32 → Int32 → Option (Int32 × aH)) (h : aH) (a0 : Nat) (x1 : Int32) (x3 : Int32) (x4 : Int32) (x5 : Int32) (x6 : Int32) (x7 : Int32) : Option (Int32 × aH) :=
(if x6 ≤ x7 then
some (x3, h)
else
(if (sh a0).1 = 15 then
((hR h a0 8).bind fun b22 =>
(aLet (((1 - x1) * 4) + x7) fun x23 =>
(if (sh b22).1 = 0 then
(if aIn x23 (sh b22).2 then
(if 0 ≤ hI h b22 x23.toNatClampNeg then
b_X8_bestFree_105 k51 h a0 x1 x3 x4 x5 x6 x7
else
((hR h a0 11).bind fun b25 =>
(aLet (x4 + (x7 * x5)) fun x26 =>
(if (sh b25).1 = 0 then
(if aIn x26 (sh b25).2 then
(if hI h b25 x26.toNatClampNeg ≤ x3 then
b_X8_bestFree_105 k51 h a0 x1 x3 x4 x5 x6 x7
else
((hR h a0 11).bind fun b28 =>
(aLet (x4 + (x7 * x5)) fun x29 =>
(if (sh b28).1 = 0 then
(if aIn x29 (sh b28).2 then
(aLet (hI h b28 x29.toNatClampNeg) fun x31 =>
b_X8_bestFree_105 k51 h a0 x1 x31 x4 x5 x6 x7)
else none)
else none))))
else none)
else none))))
else none)
else none)))
else none))
set_option maxHeartbeats 2000000 in
theorem t_X8_bestFree_51 {k51 : aH → Nat → Int32 → Int32 → Int32 → Int32 → Int32 → Int32 → Option (Int32 × aH)} (hk51 : ∀ (h : aH) (a0 : Nat) (x1 : Int32) (x3 : Int32) (x4 : Int32) (x5 : Int32) (x6 : Int32) (x7 : Int32), AO eI 2 kX8_bestFree 51 [some (.ref a0), some (.int x1), none, some (.int x3), some (.int x4), some (.int x5), some (.int x6), some (.int x7)] [] h (k51 h a0 x1 x3 x4 x5 x6 x7)) (h : aH) (a0 : Nat) (x1 : Int32) (x3 : Int32) (x4 : Int32) (x5 : Int32) (x6 : Int32) (x7 : Int32) : AO eI 2 kX8_bestFree 51 [some (.ref a0), some (.int x1), none, some (.int x3), some (.int x4), some (.int x5), some (.int x6), some (.int x7)] [] h (b_X8_bestFree_51 k51 h a0 x1 x3 x4 x5 x6 x7) := by
  unfold b_X8_bestFree_51
  refine ao_s (st_iload dX8_bestFree_51 rfl) ?_
  refine ao_s (st_iload dX8_bestFree_53 rfl) ?_
  refine ao_br (br_icmp_ge (tgt := 111) dX8_bestFree_55 (by decide)) (fun c34 => ?_) (fun c34 => ?_)
  · refine ao_s (st_iload_n dX8_bestFree_111 rfl rfl) ?_
    exact ao_ir dX8_bestFree_112 rfl rfl
  · refine ao_s (st_aload_n dX8_bestFree_58 rfl rfl) ?_
    refine ao_chk (fun e21 => ?_)
    refine ao_getR dX8_bestFree_59 fl_X8_39 rfl e21 (fun b22 => ?_)
    refine ao_s (st_iconst dX8_bestFree_62 ic_1) ?_
    refine ao_s (st_iload_n dX8_bestFree_63 rfl rfl) ?_
    refine ao_s (st_isub dX8_bestFree_64) ?_
    refine ao_s (st_iconst dX8_bestFree_65 ic_4) ?_
    refine ao_s (st_imul dX8_bestFree_66) ?_
    refine ao_s (st_iload dX8_bestFree_67 rfl) ?_
    refine ao_s (st_iadd dX8_bestFree_69) ?_
    refine ao_letI (fun x23 => ?_)
    refine ao_chk (fun e24 => ?_)
    refine ao_iald dX8_bestFree_70 e24 ?_
    refine ao_br (br_if_ge (tgt := 105) dX8_bestFree_71 (by decide)) (fun c33 => ?_) (fun c33 => ?_)
    · exact ao_w (sb_s (sb_s (sb_n (sb_s (sb_s (sb_s (sb_s (sb_s sb_0)))))))) (t_X8_bestFree_105 hk51 h a0 x1 x3 x4 x5 x6 x7)
    · refine ao_s (st_aload_n dX8_bestFree_74 rfl rfl) ?_
      refine ao_getR dX8_bestFree_75 fl_X8_48 rfl e21 (fun b25 => ?_)
      refine ao_s (st_iload dX8_bestFree_78 rfl) ?_
      refine ao_s (st_iload dX8_bestFree_80 rfl) ?_
      refine ao_s (st_iload dX8_bestFree_82 rfl) ?_
      refine ao_s (st_imul dX8_bestFree_84) ?_
      refine ao_s (st_iadd dX8_bestFree_85) ?_
      refine ao_letI (fun x26 => ?_)
      refine ao_chk (fun e27 => ?_)
      refine ao_iald dX8_bestFree_86 e27 ?_
      refine ao_s (st_iload_n dX8_bestFree_87 rfl rfl) ?_
      refine ao_br (br_icmp_le (tgt := 105) dX8_bestFree_88 (by decide)) (fun c32 => ?_) (fun c32 => ?_)
      · exact ao_w (sb_s (sb_s (sb_n (sb_s (sb_s (sb_s (sb_s (sb_s sb_0)))))))) (t_X8_bestFree_105 hk51 h a0 x1 x3 x4 x5 x6 x7)
      · refine ao_s (st_aload_n dX8_bestFree_91 rfl rfl) ?_
        refine ao_getR dX8_bestFree_92 fl_X8_48 rfl e21 (fun b28 => ?_)
        refine ao_s (st_iload dX8_bestFree_95 rfl) ?_
        refine ao_s (st_iload dX8_bestFree_97 rfl) ?_
        refine ao_s (st_iload dX8_bestFree_99 rfl) ?_
        refine ao_s (st_imul dX8_bestFree_101) ?_
        refine ao_s (st_iadd dX8_bestFree_102) ?_
        refine ao_letI (fun x29 => ?_)
        refine ao_chk (fun e30 => ?_)
        refine ao_iald dX8_bestFree_103 e30 ?_
        refine ao_letI (fun x31 => ?_)
        refine ao_s (st_istore_n (lv' := [some (.ref a0), some (.int x1), none, some (.int x31), some (.int x4), some (.int x5), some (.int x6), some (.int x7)]) dX8_bestFree_104 rfl (by decide) rfl) ?_
        exact ao_w (sb_s (sb_s (sb_n (sb_s (sb_s (sb_s (sb_s (sb_s sb_0)))))))) (t_X8_bestFree_105 hk51 h a0 x1 x31 x4 x5 x6 x7)
def f_X8_bestFree_51 (n : Nat) : aH → Nat → Int32 → Int32 → Int32 → Int32 → Int32 → Int32 → Option (Int32 × aH) := aIt (fun _ _ _ _ _ _ _ _ => none) (fun k => b_X8_bestFree_51 k) n
theorem l_X8_bestFree_51 (n : Nat) : ∀ (h : aH) (a0 : Nat) (x1 : Int32) (x3 : Int32) (x4 : Int32) (x5 : Int32) (x6 : Int32) (x7 : Int32), AO eI 2 kX8_bestFree 51 [some (.ref a0), some (.int x1), none, some (.int x3), some (.int x4), some (.int x5), some (.int x6), some (.int x7)] [] h (f_X8_bestFree_51 n h a0 x1 x3 x4 x5 x6 x7) := by
  induction n with
  | zero => intros; exact ao_none
  | succ n ih =>
    intro h a0 x1 x3 x4 x5 x6 x7
    exact t_X8_bestFree_51 ih h a0 x1 x3 x4 x5 x6 x7
def b_X8_bestFree_46 (h : aH) (a0 : Nat) (x1 : Int32) (x3 : Int32) (x4 : Int32) (x5 : Int32) (s0 : Int32) : Option (Int32 × aH) :=
f_X8_bestFree_51 2000 h a0 x1 x3 x4 x5 s0 0
set_option maxHeartbeats 2000000 in
theorem t_X8_bestFree_46 (h : aH) (a0 : Nat) (x1 : Int32) (x3 : Int32) (x4 : Int32) (x5 : Int32) (s0 : Int32) : AO eI 2 kX8_bestFree 46 [some (.ref a0), some (.int x1), none, some (.int x3), some (.int x4), some (.int x5), none, none] [.int s0] h (b_X8_bestFree_46 h a0 x1 x3 x4 x5 s0) := by
  unfold b_X8_bestFree_46
  refine ao_s (st_istore (lv' := [some (.ref a0), some (.int x1), none, some (.int x3), some (.int x4), some (.int x5), some (.int s0), none]) dX8_bestFree_46 (by decide) rfl) ?_
  refine ao_s (st_iconst dX8_bestFree_48 ic_0) ?_
  refine ao_s (st_istore (lv' := [some (.ref a0), some (.int x1), none, some (.int x3), some (.int x4), some (.int x5), some (.int s0), some (.int 0)]) dX8_bestFree_49 (by decide) rfl) ?_
  exact ao_w (sb_s (sb_s (sb_n (sb_s (sb_s (sb_s (sb_s (sb_s sb_0)))))))) (l_X8_bestFree_51 2000 h a0 x1 x3 x4 x5 s0 0)
def b_X8_bestFree_29 (h : aH) (a0 : Nat) (x1 : Int32) (x3 : Int32) (x4 : Int32) (s0 : Int32) : Option (Int32 × aH) :=
(if x1 = 0 then
(if (sh a0).1 = 15 then
b_X8_bestFree_46 h a0 x1 x3 x4 s0 (hI h a0 4)
else none)
else
(if (sh a0).1 = 15 then
b_X8_bestFree_46 h a0 x1 x3 x4 s0 (hI h a0 3)
else none))
set_option maxHeartbeats 2000000 in
theorem t_X8_bestFree_29 (h : aH) (a0 : Nat) (x1 : Int32) (x3 : Int32) (x4 : Int32) (s0 : Int32) : AO eI 2 kX8_bestFree 29 [some (.ref a0), some (.int x1), none, some (.int x3), some (.int x4), none, none, none] [.int s0] h (b_X8_bestFree_29 h a0 x1 x3 x4 s0) := by
  unfold b_X8_bestFree_29
  refine ao_s (st_istore (lv' := [some (.ref a0), some (.int x1), none, some (.int x3), some (.int x4), some (.int s0), none, none]) dX8_bestFree_29 (by decide) rfl) ?_
  refine ao_s (st_iload_n dX8_bestFree_31 rfl rfl) ?_
  refine ao_br (br_if_ne (tgt := 42) dX8_bestFree_32 (by decide)) (fun c23 => ?_) (fun c23 => ?_)
  · refine ao_s (st_aload_n dX8_bestFree_35 rfl rfl) ?_
    refine ao_chk (fun e21 => ?_)
    refine ao_getI dX8_bestFree_36 fl_X8_25 rfl e21 ?_
    refine ao_s (st_goto 46 dX8_bestFree_39 (by decide)) ?_
    exact ao_w (sb_s (sb_s (sb_n (sb_s (sb_s (sb_s (sb_n (sb_n sb_0)))))))) (t_X8_bestFree_46 h a0 x1 x3 x4 s0 (hI h a0 4))
  · refine ao_s (st_aload_n dX8_bestFree_42 rfl rfl) ?_
    refine ao_chk (fun e22 => ?_)
    refine ao_getI dX8_bestFree_43 fl_X8_22 rfl e22 ?_
    exact ao_w (sb_s (sb_s (sb_n (sb_s (sb_s (sb_s (sb_n (sb_n sb_0)))))))) (t_X8_bestFree_46 h a0 x1 x3 x4 s0 (hI h a0 3))
def b_X8_bestFree_16 (h : aH) (a0 : Nat) (x1 : Int32) (x3 : Int32) (s0 : Int32) (s1 : Int32) (s2 : Int32) : Option (Int32 × aH) :=
(aLet (s2 + (s1 * s0)) fun x21 =>
(if x1 = 0 then
b_X8_bestFree_29 h a0 x1 x3 x21 1
else
b_X8_bestFree_29 h a0 x1 x3 x21 4))
set_option maxHeartbeats 2000000 in
theorem t_X8_bestFree_16 (h : aH) (a0 : Nat) (x1 : Int32) (x3 : Int32) (s0 : Int32) (s1 : Int32) (s2 : Int32) : AO eI 2 kX8_bestFree 16 [some (.ref a0), some (.int x1), none, some (.int x3), none, none, none, none] [.int s0, .int s1, .int s2] h (b_X8_bestFree_16 h a0 x1 x3 s0 s1 s2) := by
  unfold b_X8_bestFree_16
  refine ao_s (st_imul dX8_bestFree_16) ?_
  refine ao_s (st_iadd dX8_bestFree_17) ?_
  refine ao_letI (fun x21 => ?_)
  refine ao_s (st_istore (lv' := [some (.ref a0), some (.int x1), none, some (.int x3), some (.int x21), none, none, none]) dX8_bestFree_18 (by decide) rfl) ?_
  refine ao_s (st_iload_n dX8_bestFree_20 rfl rfl) ?_
  refine ao_br (br_if_ne (tgt := 28) dX8_bestFree_21 (by decide)) (fun c22 => ?_) (fun c22 => ?_)
  · refine ao_s (st_iconst dX8_bestFree_24 ic_1) ?_
    refine ao_s (st_goto 29 dX8_bestFree_25 (by decide)) ?_
    exact ao_w (sb_s (sb_s (sb_n (sb_s (sb_s (sb_n (sb_n (sb_n sb_0)))))))) (t_X8_bestFree_29 h a0 x1 x3 x21 1)
  · refine ao_s (st_iconst dX8_bestFree_28 ic_4) ?_
    exact ao_w (sb_s (sb_s (sb_n (sb_s (sb_s (sb_n (sb_n (sb_n sb_0)))))))) (t_X8_bestFree_29 h a0 x1 x3 x21 4)
def f_X8_bestFree (h : aH) (a0 : Nat) (x1 : Int32) (x2 : Int32) : Option (Int32 × aH) :=
(if x1 = 0 then
b_X8_bestFree_16 h a0 x1 0 4 x2 (x1 * 16)
else
b_X8_bestFree_16 h a0 x1 0 1 x2 (x1 * 16))
set_option maxHeartbeats 2000000 in
theorem s_X8_bestFree (h : aH) (a0 : Nat) (x1 : Int32) (x2 : Int32) : SO eI 2 kX8_bestFree [.ref a0, .int x1, .int x2] h (f_X8_bestFree h a0 x1 x2) := by
  refine so_of (lv0 := [some (.ref a0), some (.int x1), some (.int x2), none, none, none, none, none]) pn_X8 (Nat.le_of_ble_eq_true rfl) rfl ?_
  unfold f_X8_bestFree
  refine ao_s (st_iconst dX8_bestFree_0 ic_0) ?_
  refine ao_s (st_istore_n (lv' := [some (.ref a0), some (.int x1), some (.int x2), some (.int 0), none, none, none, none]) dX8_bestFree_1 rfl (by decide) rfl) ?_
  refine ao_s (st_iload_n dX8_bestFree_2 rfl rfl) ?_
  refine ao_s (st_bipush dX8_bestFree_3 bp_16) ?_
  refine ao_s (st_imul dX8_bestFree_5) ?_
  refine ao_s (st_iload_n dX8_bestFree_6 rfl rfl) ?_
  refine ao_s (st_iload_n dX8_bestFree_7 rfl rfl) ?_
  refine ao_br (br_if_ne (tgt := 15) dX8_bestFree_8 (by decide)) (fun c21 => ?_) (fun c21 => ?_)
  · refine ao_s (st_iconst dX8_bestFree_11 ic_4) ?_
    refine ao_s (st_goto 16 dX8_bestFree_12 (by decide)) ?_
    exact ao_w (sb_s (sb_s (sb_n (sb_s (sb_n (sb_n (sb_n (sb_n sb_0)))))))) (t_X8_bestFree_16 h a0 x1 0 4 x2 (x1 * 16))
  · refine ao_s (st_iconst dX8_bestFree_15 ic_1) ?_
    exact ao_w (sb_s (sb_s (sb_n (sb_s (sb_n (sb_n (sb_n (sb_n sb_0)))))))) (t_X8_bestFree_16 h a0 x1 0 1 x2 (x1 * 16))
def f_X8_joiningsOf (h : aH) (a0 : Nat) (x1 : Int32) (x2 : Int32) : Option (Int32 × aH) :=
(if (sh a0).1 = 15 then
((hR h a0 9).bind fun b22 =>
(aLet ((x1 * 4) + x2) fun x23 =>
(if (sh b22).1 = 0 then
(if aIn x23 (sh b22).2 then
some (hI h b22 x23.toNatClampNeg, h)
else none)
else none)))
else none)
set_option maxHeartbeats 2000000 in
theorem s_X8_joiningsOf (h : aH) (a0 : Nat) (x1 : Int32) (x2 : Int32) : SO eI 2 kX8_joiningsOf [.ref a0, .int x1, .int x2] h (f_X8_joiningsOf h a0 x1 x2) := by
  refine so_of (lv0 := [some (.ref a0), some (.int x1), some (.int x2)]) pn_X8 (Nat.le_of_ble_eq_true rfl) rfl ?_
  unfold f_X8_joiningsOf
  refine ao_s (st_aload_n dX8_joiningsOf_0 rfl rfl) ?_
  refine ao_chk (fun e21 => ?_)
  refine ao_getR dX8_joiningsOf_1 fl_X8_42 rfl e21 (fun b22 => ?_)
  refine ao_s (st_iload_n dX8_joiningsOf_4 rfl rfl) ?_
  refine ao_s (st_iconst dX8_joiningsOf_5 ic_4) ?_
  refine ao_s (st_imul dX8_joiningsOf_6) ?_
  refine ao_s (st_iload_n dX8_joiningsOf_7 rfl rfl) ?_
  refine ao_s (st_iadd dX8_joiningsOf_8) ?_
  refine ao_letI (fun x23 => ?_)
  refine ao_chk (fun e24 => ?_)
  refine ao_iald dX8_joiningsOf_9 e24 ?_
  exact ao_ir dX8_joiningsOf_10 rfl rfl
def f_X8_purseOf (h : aH) (a0 : Nat) (x1 : Int32) (x2 : Int32) : Option (Int32 × aH) :=
(if (sh a0).1 = 15 then
((hR h a0 7).bind fun b22 =>
(aLet ((x1 * 4) + x2) fun x23 =>
(if (sh b22).1 = 0 then
(if aIn x23 (sh b22).2 then
some (hI h b22 x23.toNatClampNeg, h)
else none)
else none)))
else none)
set_option maxHeartbeats 2000000 in
theorem s_X8_purseOf (h : aH) (a0 : Nat) (x1 : Int32) (x2 : Int32) : SO eI 2 kX8_purseOf [.ref a0, .int x1, .int x2] h (f_X8_purseOf h a0 x1 x2) := by
  refine so_of (lv0 := [some (.ref a0), some (.int x1), some (.int x2)]) pn_X8 (Nat.le_of_ble_eq_true rfl) rfl ?_
  unfold f_X8_purseOf
  refine ao_s (st_aload_n dX8_purseOf_0 rfl rfl) ?_
  refine ao_chk (fun e21 => ?_)
  refine ao_getR dX8_purseOf_1 fl_X8_35 rfl e21 (fun b22 => ?_)
  refine ao_s (st_iload_n dX8_purseOf_4 rfl rfl) ?_
  refine ao_s (st_iconst dX8_purseOf_5 ic_4) ?_
  refine ao_s (st_imul dX8_purseOf_6) ?_
  refine ao_s (st_iload_n dX8_purseOf_7 rfl rfl) ?_
  refine ao_s (st_iadd dX8_purseOf_8) ?_
  refine ao_letI (fun x23 => ?_)
  refine ao_chk (fun e24 => ?_)
  refine ao_iald dX8_purseOf_9 e24 ?_
  exact ao_ir dX8_purseOf_10 rfl rfl
def b_X3_lookAt_46 (h : aH) (a0 : Nat) (a1 : Nat) (x2 : Int32) (x3 : Int32) (x4 : Int32) (x5 : Int32) (s0 : Int64) (s1 : Int32) (s2 : Nat) : Option (Unit × aH) :=
(if (sh s2).1 = 3 then
(if aIn s1 (sh s2).2 then
(aLet (pL h s2 s1.toNatClampNeg s0) fun h22 =>
(if (sh a0).1 = 10 then
((hR h22 a0 0).bind fun b24 =>
(if (sh a1).1 = 15 then
(aBind (f_X8_like h22 a1 x2 x3 x4) fun r26 h27 =>
(if (sh b24).1 = 3 then
(if aIn 3 (sh b24).2 then
(aLet (pL h27 b24 (3 : Int32).toNatClampNeg r26.toInt64) fun h29 =>
((hR h29 a0 0).bind fun b30 =>
(aBind (f_X8_like h29 a1 (1 - x2) x3 x4) fun r31 h32 =>
(if (sh b30).1 = 3 then
(if aIn 4 (sh b30).2 then
(aLet (pL h32 b30 (4 : Int32).toNatClampNeg r31.toInt64) fun h34 =>
((hR h34 a0 0).bind fun b35 =>
((hR h34 a1 10).bind fun b36 =>
(if (sh b36).1 = 0 then
(if aIn x3 (sh b36).2 then
(if (sh b35).1 = 3 then
(if aIn 5 (sh b35).2 then
(aLet (pL h34 b35 (5 : Int32).toNatClampNeg ((hI h34 b36 x3.toNatClampNeg).toInt64)) fun h39 =>
((hR h39 a0 0).bind fun b40 =>
(aBind (f_X8_purseOf h39 a1 x2 x5) fun r41 h42 =>
(if (sh b40).1 = 3 then
(if aIn 6 (sh b40).2 then
(aLet (pL h42 b40 (6 : Int32).toNatClampNeg r41.toInt64) fun h44 =>
((hR h44 a0 0).bind fun b45 =>
(if (sh b45).1 = 3 then
(if aIn 7 (sh b45).2 then
(aLet (pL h44 b45 (7 : Int32).toNatClampNeg ((hI h44 a1 1).toInt64)) fun h47 =>
((hR h47 a0 0).bind fun b48 =>
(aBind (f_X8_bestFree h47 a1 x2 x5) fun r49 h50 =>
(if (sh b48).1 = 3 then
(if aIn 8 (sh b48).2 then
(aLet (pL h50 b48 (8 : Int32).toNatClampNeg r49.toInt64) fun h52 =>
((hR h52 a0 0).bind fun b53 =>
(if (sh b53).1 = 3 then
(if aIn 9 (sh b53).2 then
(aLet (pL h52 b53 (9 : Int32).toNatClampNeg ((hI h52 a1 5).toInt64)) fun h55 =>
((hR h55 a0 0).bind fun b56 =>
(aBind (f_X8_joiningsOf h55 a1 x2 x5) fun r57 h58 =>
(if (sh b56).1 = 3 then
(if aIn 10 (sh b56).2 then
(aLet (pL h58 b56 (10 : Int32).toNatClampNeg r57.toInt64) fun h60 =>
some ((), h60))
else none)
else none))))
else none)
else none)))
else none)
else none))))
else none)
else none)))
else none)
else none))))
else none)
else none)
else none)
else none))))
else none)
else none))))
else none)
else none))
else none))
else none))
else none)
else none)
set_option maxHeartbeats 2000000 in
theorem t_X3_lookAt_46 (h : aH) (a0 : Nat) (a1 : Nat) (x2 : Int32) (x3 : Int32) (x4 : Int32) (x5 : Int32) (s0 : Int64) (s1 : Int32) (s2 : Nat) : AO eV 3 kX3_lookAt 46 [some (.ref a0), some (.ref a1), some (.int x2), some (.int x3), some (.int x4), some (.int x5)] [.long s0, .int s1, .ref s2] h (b_X3_lookAt_46 h a0 a1 x2 x3 x4 x5 s0 s1 s2) := by
  unfold b_X3_lookAt_46
  refine ao_chk (fun e21 => ?_)
  refine ao_last dX3_lookAt_46 e21 ?_
  refine ao_letH (fun h22 => ?_)
  refine ao_s (st_aload_n dX3_lookAt_47 rfl rfl) ?_
  refine ao_chk (fun e23 => ?_)
  refine ao_getR dX3_lookAt_48 fl_X3_11 rfl e23 (fun b24 => ?_)
  refine ao_s (st_iconst dX3_lookAt_51 ic_3) ?_
  refine ao_s (st_aload_n dX3_lookAt_52 rfl rfl) ?_
  refine ao_s (st_iload_n dX3_lookAt_53 rfl rfl) ?_
  refine ao_s (st_iload_n dX3_lookAt_54 rfl rfl) ?_
  refine ao_s (st_iload dX3_lookAt_55 rfl) ?_
  refine ao_chk (fun e25 => ?_)
  refine ao_cVi (Kc := kX8_like) (As := [.int x2, .int x3, .int x4]) (st := [.int 3, .ref b24]) dX3_lookAt_57 ml_X3_18 mv_X8_like rfl e25 (by decide) rfl rfl (Nat.le_of_ble_eq_true rfl) (by decide) (s_X8_like h22 a1 x2 x3 x4) (fun r26 h27 => ?_)
  refine ao_s (st_i2l dX3_lookAt_60) ?_
  refine ao_chk (fun e28 => ?_)
  refine ao_last dX3_lookAt_61 e28 ?_
  refine ao_letH (fun h29 => ?_)
  refine ao_s (st_aload_n dX3_lookAt_62 rfl rfl) ?_
  refine ao_getR dX3_lookAt_63 fl_X3_11 rfl e23 (fun b30 => ?_)
  refine ao_s (st_iconst dX3_lookAt_66 ic_4) ?_
  refine ao_s (st_aload_n dX3_lookAt_67 rfl rfl) ?_
  refine ao_s (st_iconst dX3_lookAt_68 ic_1) ?_
  refine ao_s (st_iload_n dX3_lookAt_69 rfl rfl) ?_
  refine ao_s (st_isub dX3_lookAt_70) ?_
  refine ao_s (st_iload_n dX3_lookAt_71 rfl rfl) ?_
  refine ao_s (st_iload dX3_lookAt_72 rfl) ?_
  refine ao_cVi (Kc := kX8_like) (As := [.int (1 - x2), .int x3, .int x4]) (st := [.int 4, .ref b30]) dX3_lookAt_74 ml_X3_18 mv_X8_like rfl e25 (by decide) rfl rfl (Nat.le_of_ble_eq_true rfl) (by decide) (s_X8_like h29 a1 (1 - x2) x3 x4) (fun r31 h32 => ?_)
  refine ao_s (st_i2l dX3_lookAt_77) ?_
  refine ao_chk (fun e33 => ?_)
  refine ao_last dX3_lookAt_78 e33 ?_
  refine ao_letH (fun h34 => ?_)
  refine ao_s (st_aload_n dX3_lookAt_79 rfl rfl) ?_
  refine ao_getR dX3_lookAt_80 fl_X3_11 rfl e23 (fun b35 => ?_)
  refine ao_s (st_iconst dX3_lookAt_83 ic_5) ?_
  refine ao_s (st_aload_n dX3_lookAt_84 rfl rfl) ?_
  refine ao_getR dX3_lookAt_85 fl_X3_51 rfl e25 (fun b36 => ?_)
  refine ao_s (st_iload_n dX3_lookAt_88 rfl rfl) ?_
  refine ao_chk (fun e37 => ?_)
  refine ao_iald dX3_lookAt_89 e37 ?_
  refine ao_s (st_i2l dX3_lookAt_90) ?_
  refine ao_chk (fun e38 => ?_)
  refine ao_last dX3_lookAt_91 e38 ?_
  refine ao_letH (fun h39 => ?_)
  refine ao_s (st_aload_n dX3_lookAt_92 rfl rfl) ?_
  refine ao_getR dX3_lookAt_93 fl_X3_11 rfl e23 (fun b40 => ?_)
  refine ao_s (st_bipush dX3_lookAt_96 bp_6) ?_
  refine ao_s (st_aload_n dX3_lookAt_98 rfl rfl) ?_
  refine ao_s (st_iload_n dX3_lookAt_99 rfl rfl) ?_
  refine ao_s (st_iload dX3_lookAt_100 rfl) ?_
  refine ao_cVi (Kc := kX8_purseOf) (As := [.int x2, .int x5]) (st := [.int 6, .ref b40]) dX3_lookAt_102 ml_X3_54 mv_X8_purseOf rfl e25 (by decide) rfl rfl (Nat.le_of_ble_eq_true rfl) (by decide) (s_X8_purseOf h39 a1 x2 x5) (fun r41 h42 => ?_)
  refine ao_s (st_i2l dX3_lookAt_105) ?_
  refine ao_chk (fun e43 => ?_)
  refine ao_last dX3_lookAt_106 e43 ?_
  refine ao_letH (fun h44 => ?_)
  refine ao_s (st_aload_n dX3_lookAt_107 rfl rfl) ?_
  refine ao_getR dX3_lookAt_108 fl_X3_11 rfl e23 (fun b45 => ?_)
  refine ao_s (st_bipush dX3_lookAt_111 bp_7) ?_
  refine ao_s (st_aload_n dX3_lookAt_113 rfl rfl) ?_
  refine ao_getI dX3_lookAt_114 fl_X3_58 rfl e25 ?_
  refine ao_s (st_i2l dX3_lookAt_117) ?_
  refine ao_chk (fun e46 => ?_)
  refine ao_last dX3_lookAt_118 e46 ?_
  refine ao_letH (fun h47 => ?_)
  refine ao_s (st_aload_n dX3_lookAt_119 rfl rfl) ?_
  refine ao_getR dX3_lookAt_120 fl_X3_11 rfl e23 (fun b48 => ?_)
  refine ao_s (st_bipush dX3_lookAt_123 bp_8) ?_
  refine ao_s (st_aload_n dX3_lookAt_125 rfl rfl) ?_
  refine ao_s (st_iload_n dX3_lookAt_126 rfl rfl) ?_
  refine ao_s (st_iload dX3_lookAt_127 rfl) ?_
  refine ao_cVi (Kc := kX8_bestFree) (As := [.int x2, .int x5]) (st := [.int 8, .ref b48]) dX3_lookAt_129 ml_X3_61 mv_X8_bestFree rfl e25 (by decide) rfl rfl (Nat.le_of_ble_eq_true rfl) (by decide) (s_X8_bestFree h47 a1 x2 x5) (fun r49 h50 => ?_)
  refine ao_s (st_i2l dX3_lookAt_132) ?_
  refine ao_chk (fun e51 => ?_)
  refine ao_last dX3_lookAt_133 e51 ?_
  refine ao_letH (fun h52 => ?_)
  refine ao_s (st_aload_n dX3_lookAt_134 rfl rfl) ?_
  refine ao_getR dX3_lookAt_135 fl_X3_11 rfl e23 (fun b53 => ?_)
  refine ao_s (st_bipush dX3_lookAt_138 bp_9) ?_
  refine ao_s (st_aload_n dX3_lookAt_140 rfl rfl) ?_
  refine ao_getI dX3_lookAt_141 fl_X3_64 rfl e25 ?_
  refine ao_s (st_i2l dX3_lookAt_144) ?_
  refine ao_chk (fun e54 => ?_)
  refine ao_last dX3_lookAt_145 e54 ?_
  refine ao_letH (fun h55 => ?_)
  refine ao_s (st_aload_n dX3_lookAt_146 rfl rfl) ?_
  refine ao_getR dX3_lookAt_147 fl_X3_11 rfl e23 (fun b56 => ?_)
  refine ao_s (st_bipush dX3_lookAt_150 bp_10) ?_
  refine ao_s (st_aload_n dX3_lookAt_152 rfl rfl) ?_
  refine ao_s (st_iload_n dX3_lookAt_153 rfl rfl) ?_
  refine ao_s (st_iload dX3_lookAt_154 rfl) ?_
  refine ao_cVi (Kc := kX8_joiningsOf) (As := [.int x2, .int x5]) (st := [.int 10, .ref b56]) dX3_lookAt_156 ml_X3_67 mv_X8_joiningsOf rfl e25 (by decide) rfl rfl (Nat.le_of_ble_eq_true rfl) (by decide) (s_X8_joiningsOf h55 a1 x2 x5) (fun r57 h58 => ?_)
  refine ao_s (st_i2l dX3_lookAt_159) ?_
  refine ao_chk (fun e59 => ?_)
  refine ao_last dX3_lookAt_160 e59 ?_
  refine ao_letH (fun h60 => ?_)
  exact ao_vr dX3_lookAt_161 rfl
def b_X3_lookAt_10 (h : aH) (a0 : Nat) (a1 : Nat) (x2 : Int32) (x3 : Int32) (x4 : Int32) (s0 : Int32) : Option (Unit × aH) :=
(if (sh a0).1 = 10 then
((hR h a0 0).bind fun b22 =>
(if (sh b22).1 = 3 then
(if aIn 0 (sh b22).2 then
(aLet (pL h b22 (0 : Int32).toNatClampNeg x2.toInt64) fun h24 =>
((hR h24 a0 0).bind fun b25 =>
(if (sh b25).1 = 3 then
(if aIn 1 (sh b25).2 then
(aLet (pL h24 b25 (1 : Int32).toNatClampNeg s0.toInt64) fun h27 =>
((hR h27 a0 0).bind fun b28 =>
(if x2 = 0 then
b_X3_lookAt_46 h27 a0 a1 x2 x3 x4 s0 x4.toInt64 2 b28
else
b_X3_lookAt_46 h27 a0 a1 x2 x3 x4 s0 x3.toInt64 2 b28)))
else none)
else none)))
else none)
else none))
else none)
set_option maxHeartbeats 2000000 in
theorem t_X3_lookAt_10 (h : aH) (a0 : Nat) (a1 : Nat) (x2 : Int32) (x3 : Int32) (x4 : Int32) (s0 : Int32) : AO eV 3 kX3_lookAt 10 [some (.ref a0), some (.ref a1), some (.int x2), some (.int x3), some (.int x4), none] [.int s0] h (b_X3_lookAt_10 h a0 a1 x2 x3 x4 s0) := by
  unfold b_X3_lookAt_10
  refine ao_s (st_istore (lv' := [some (.ref a0), some (.ref a1), some (.int x2), some (.int x3), some (.int x4), some (.int s0)]) dX3_lookAt_10 (by decide) rfl) ?_
  refine ao_s (st_aload_n dX3_lookAt_12 rfl rfl) ?_
  refine ao_chk (fun e21 => ?_)
  refine ao_getR dX3_lookAt_13 fl_X3_11 rfl e21 (fun b22 => ?_)
  refine ao_s (st_iconst dX3_lookAt_16 ic_0) ?_
  refine ao_s (st_iload_n dX3_lookAt_17 rfl rfl) ?_
  refine ao_s (st_i2l dX3_lookAt_18) ?_
  refine ao_chk (fun e23 => ?_)
  refine ao_last dX3_lookAt_19 e23 ?_
  refine ao_letH (fun h24 => ?_)
  refine ao_s (st_aload_n dX3_lookAt_20 rfl rfl) ?_
  refine ao_getR dX3_lookAt_21 fl_X3_11 rfl e21 (fun b25 => ?_)
  refine ao_s (st_iconst dX3_lookAt_24 ic_1) ?_
  refine ao_s (st_iload dX3_lookAt_25 rfl) ?_
  refine ao_s (st_i2l dX3_lookAt_27) ?_
  refine ao_chk (fun e26 => ?_)
  refine ao_last dX3_lookAt_28 e26 ?_
  refine ao_letH (fun h27 => ?_)
  refine ao_s (st_aload_n dX3_lookAt_29 rfl rfl) ?_
  refine ao_getR dX3_lookAt_30 fl_X3_11 rfl e21 (fun b28 => ?_)
  refine ao_s (st_iconst dX3_lookAt_33 ic_2) ?_
  refine ao_s (st_iload_n dX3_lookAt_34 rfl rfl) ?_
  refine ao_br (br_if_ne (tgt := 44) dX3_lookAt_35 (by decide)) (fun c29 => ?_) (fun c29 => ?_)
  · refine ao_s (st_iload dX3_lookAt_38 rfl) ?_
    refine ao_s (st_i2l dX3_lookAt_40) ?_
    refine ao_s (st_goto 46 dX3_lookAt_41 (by decide)) ?_
    exact ao_w (sb_s (sb_s (sb_s (sb_s (sb_s (sb_s sb_0)))))) (t_X3_lookAt_46 h27 a0 a1 x2 x3 x4 s0 x4.toInt64 2 b28)
  · refine ao_s (st_iload_n dX3_lookAt_44 rfl rfl) ?_
    refine ao_s (st_i2l dX3_lookAt_45) ?_
    exact ao_w (sb_s (sb_s (sb_s (sb_s (sb_s (sb_s sb_0)))))) (t_X3_lookAt_46 h27 a0 a1 x2 x3 x4 s0 x3.toInt64 2 b28)
def f_X3_lookAt (h : aH) (a0 : Nat) (a1 : Nat) (x2 : Int32) (x3 : Int32) (x4 : Int32) : Option (Unit × aH) :=
(if x2 = 0 then
b_X3_lookAt_10 h a0 a1 x2 x3 x4 x3
else
b_X3_lookAt_10 h a0 a1 x2 x3 x4 x4)
set_option maxHeartbeats 2000000 in
theorem s_X3_lookAt (h : aH) (a0 : Nat) (a1 : Nat) (x2 : Int32) (x3 : Int32) (x4 : Int32) : SO eV 3 kX3_lookAt [.ref a0, .ref a1, .int x2, .int x3, .int x4] h (f_X3_lookAt h a0 a1 x2 x3 x4) := by
  refine so_of (lv0 := [some (.ref a0), some (.ref a1), some (.int x2), some (.int x3), some (.int x4), none]) pn_X3 (Nat.le_of_ble_eq_true rfl) rfl ?_
  unfold f_X3_lookAt
  refine ao_s (st_iload_n dX3_lookAt_0 rfl rfl) ?_
  refine ao_br (br_if_ne (tgt := 8) dX3_lookAt_1 (by decide)) (fun c21 => ?_) (fun c21 => ?_)
  · refine ao_s (st_iload_n dX3_lookAt_4 rfl rfl) ?_
    refine ao_s (st_goto 10 dX3_lookAt_5 (by decide)) ?_
    exact ao_w (sb_s (sb_s (sb_s (sb_s (sb_s (sb_n sb_0)))))) (t_X3_lookAt_10 h a0 a1 x2 x3 x4 x3)
  · refine ao_s (st_iload dX3_lookAt_8 rfl) ?_
    exact ao_w (sb_s (sb_s (sb_s (sb_s (sb_s (sb_n sb_0)))))) (t_X3_lookAt_10 h a0 a1 x2 x3 x4 x4)
