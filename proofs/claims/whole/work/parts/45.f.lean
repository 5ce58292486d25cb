def b_X12_liked_97 (k28 : aH → Nat → Int32 → Int32 → Int32 → Int32 → Option (Int32 × aH)) (h : aH) (a0 : Nat) (x1 : Int32) (x2 : Int32) (x3 : Int32) (x4 : Int32) : Option (Int32 × aH) :=
k28 h a0 x1 x2 x3 (x4 + 1)
set_option maxHeartbeats 2000000 in
theorem t_X12_liked_97 {k28 : aH → Nat → Int32 → Int32 → Int32 → Int32 → Option (Int32 × aH)} (hk28 : ∀ (h : aH) (a0 : Nat) (x1 : Int32) (x2 : Int32) (x3 : Int32) (x4 : Int32), AO eI 3 kX12_liked 28 [some (.ref a0), some (.int x1), some (.int x2), some (.int x3), some (.int x4), none, none] [] h (k28 h a0 x1 x2 x3 x4)) (h : aH) (a0 : Nat) (x1 : Int32) (x2 : Int32) (x3 : Int32) (x4 : Int32) : AO eI 3 kX12_liked 97 [some (.ref a0), some (.int x1), some (.int x2), some (.int x3), some (.int x4), none, none] [] h (b_X12_liked_97 k28 h a0 x1 x2 x3 x4) := by
  unfold b_X12_liked_97
  refine ao_s (st_iinc (lv' := [some (.ref a0), some (.int x1), some (.int x2), some (.int x3), some (.int (x4 + 1)), none, none]) dX12_liked_97 rfl nc_1 (by decide) rfl) ?_
  refine ao_s (st_goto 28 dX12_liked_100 (by decide)) ?_
  exact ao_w (sb_s (sb_s (sb_s (sb_s (sb_s (sb_n (sb_n sb_0))))))) (hk28 h a0 x1 x2 x3 (x4 + 1))
def b_X12_liked_45 (k28 : aH → Nat → Int32 → Int32 → Int32 → Int32 → Option (Int32 × aH)) (k45 : aH → Nat → Int32 → Int32 → Int32 → Int32 → Int32 → Int32 → Option (Int32 × aH)) (h : aH) (a0 : Nat) (x1 : Int32) (x2 : Int32) (x3 : Int32) (x4 : Int32) (x5 : Int32) (x6 : Int32) : Option (Int32 × aH) :=
(if (sh a0).1 = 19 then
((hR h a0 20).bind fun b22 =>
(if (sh b22).1 = 0 then
(if aIn 4 (sh b22).2 then
(if hI h b22 (4 : Int32).toNatClampNeg ≤ x6 then
(if x3 < x5 then
b_X12_liked_97 k28 h a0 x1 x4 x5 x4
else
b_X12_liked_97 k28 h a0 x1 x2 x3 x4)
else
((hR h a0 20).bind fun b25 =>
(aLet ((94 + (4 * x4)) + x6) fun x26 =>
(if (sh b25).1 = 0 then
(if aIn x26 (sh b25).2 then
(aLet (x5 + (hI h b25 x26.toNatClampNeg)) fun x28 =>
k45 h a0 x1 x2 x3 x4 x28 (x6 + 1))
else none)
else none))))
else none)
else none))
else none)
set_option maxHeartbeats 2000000 in
theorem t_X12_liked_45 {k28 : aH → Nat → Int32 → Int32 → Int32 → Int32 → Option (Int32 × aH)} (hk28 : ∀ (h : aH) (a0 : Nat) (x1 : Int32) (x2 : Int32) (x3 : Int32) (x4 : Int32), AO eI 3 kX12_liked 28 [some (.ref a0), some (.int x1), some (.int x2), some (.int x3), some (.int x4), none, none] [] h (k28 h a0 x1 x2 x3 x4)) {k45 : aH → Nat → Int32 → Int32 → Int32 → Int32 → Int32 → Int32 → Option (Int32 × aH)} (hk45 : ∀ (h : aH) (a0 : Nat) (x1 : Int32) (x2 : Int32) (x3 : Int32) (x4 : Int32) (x5 : Int32) (x6 : Int32), AO eI 3 kX12_liked 45 [some (.ref a0), some (.int x1), some (.int x2), some (.int x3), some (.int x4), some (.int x5), some (.int x6)] [] h (k45 h a0 x1 x2 x3 x4 x5 x6)) (h : aH) (a0 : Nat) (x1 : Int32) (x2 : Int32) (x3 : Int32) (x4 : Int32) (x5 : Int32) (x6 : Int32) : AO eI 3 kX12_liked 45 [some (.ref a0), some (.int x1), some (.int x2), some (.int x3), some (.int x4), some (.int x5), some (.int x6)] [] h (b_X12_liked_45 k28 k45 h a0 x1 x2 x3 x4 x5 x6) := by
  unfold b_X12_liked_45
  refine ao_s (st_iload dX12_liked_45 rfl) ?_
  refine ao_s (st_aload_n dX12_liked_47 rfl rfl) ?_
  refine ao_chk (fun e21 => ?_)
  refine ao_getR dX12_liked_48 fl_X12_39 rfl e21 (fun b22 => ?_)
  refine ao_s (st_iconst dX12_liked_51 ic_4) ?_
  refine ao_chk (fun e23 => ?_)
  refine ao_iald dX12_liked_52 e23 ?_
  refine ao_br (br_icmp_ge (tgt := 82) dX12_liked_53 (by decide)) (fun c29 => ?_) (fun c29 => ?_)
  · refine ao_s (st_iload dX12_liked_82 rfl) ?_
    refine ao_s (st_iload_n dX12_liked_84 rfl rfl) ?_
    refine ao_br (br_icmp_gt (tgt := 91) dX12_liked_85 (by decide)) (fun c24 => ?_) (fun c24 => ?_)
    · refine ao_s (st_iload dX12_liked_91 rfl) ?_
      refine ao_s (st_istore_n (lv' := [some (.ref a0), some (.int x1), some (.int x4), some (.int x3), some (.int x4), some (.int x5), some (.int x6)]) dX12_liked_93 rfl (by decide) rfl) ?_
      refine ao_s (st_iload dX12_liked_94 rfl) ?_
      refine ao_s (st_istore_n (lv' := [some (.ref a0), some (.int x1), some (.int x4), some (.int x5), some (.int x4), some (.int x5), some (.int x6)]) dX12_liked_96 rfl (by decide) rfl) ?_
      exact ao_w (sb_s (sb_s (sb_s (sb_s (sb_s (sb_n (sb_n sb_0))))))) (t_X12_liked_97 hk28 h a0 x1 x4 x5 x4)
    · refine ao_s (st_goto 97 dX12_liked_88 (by decide)) ?_
      exact ao_w (sb_s (sb_s (sb_s (sb_s (sb_s (sb_n (sb_n sb_0))))))) (t_X12_liked_97 hk28 h a0 x1 x2 x3 x4)
  · refine ao_s (st_iload dX12_liked_56 rfl) ?_
    refine ao_s (st_aload_n dX12_liked_58 rfl rfl) ?_
    refine ao_getR dX12_liked_59 fl_X12_39 rfl e21 (fun b25 => ?_)
    refine ao_s (st_bipush dX12_liked_62 bp_94) ?_
    refine ao_s (st_iconst dX12_liked_64 ic_4) ?_
    refine ao_s (st_iload dX12_liked_65 rfl) ?_
    refine ao_s (st_imul dX12_liked_67) ?_
    refine ao_s (st_iadd dX12_liked_68) ?_
    refine ao_s (st_iload dX12_liked_69 rfl) ?_
    refine ao_s (st_iadd dX12_liked_71) ?_
    refine ao_letI (fun x26 => ?_)
    refine ao_chk (fun e27 => ?_)
    refine ao_iald dX12_liked_72 e27 ?_
    refine ao_s (st_iadd dX12_liked_73) ?_
    refine ao_letI (fun x28 => ?_)
    refine ao_s (st_istore (lv' := [some (.ref a0), some (.int x1), some (.int x2), some (.int x3), some (.int x4), some (.int x28), some (.int x6)]) dX12_liked_74 (by decide) rfl) ?_
    refine ao_s (st_iinc (lv' := [some (.ref a0), some (.int x1), some (.int x2), some (.int x3), some (.int x4), some (.int x28), some (.int (x6 + 1))]) dX12_liked_76 rfl nc_1 (by decide) rfl) ?_
    refine ao_s (st_goto 45 dX12_liked_79 (by decide)) ?_
    exact ao_w (sb_s (sb_s (sb_s (sb_s (sb_s (sb_s (sb_s sb_0))))))) (hk45 h a0 x1 x2 x3 x4 x28 (x6 + 1))
def f_X12_liked_45 (k28 : aH → Nat → Int32 → Int32 → Int32 → Int32 → Option (Int32 × aH)) (n : Nat) : aH → Nat → Int32 → Int32 → Int32 → Int32 → Int32 → Int32 → Option (Int32 × aH) := aIt (fun _ _ _ _ _ _ _ _ => none) (fun k => b_X12_liked_45 k28 k) n
theorem l_X12_liked_45 {k28 : aH → Nat → Int32 → Int32 → Int32 → Int32 → Option (Int32 × aH)} (hk28 : ∀ (h : aH) (a0 : Nat) (x1 : Int32) (x2 : Int32) (x3 : Int32) (x4 : Int32), AO eI 3 kX12_liked 28 [some (.ref a0), some (.int x1), some (.int x2), some (.int x3), some (.int x4), none, none] [] h (k28 h a0 x1 x2 x3 x4)) (n : Nat) : ∀ (h : aH) (a0 : Nat) (x1 : Int32) (x2 : Int32) (x3 : Int32) (x4 : Int32) (x5 : Int32) (x6 : Int32), AO eI 3 kX12_liked 45 [some (.ref a0), some (.int x1), some (.int x2), some (.int x3), some (.int x4), some (.int x5), some (.int x6)] [] h (f_X12_liked_45 k28 n h a0 x1 x2 x3 x4 x5 x6) := by
  induction n with
  | zero => intros; exact ao_none
  | succ n ih =>
    intro h a0 x1 x2 x3 x4 x5 x6
    exact t_X12_liked_45 hk28 ih h a0 x1 x2 x3 x4 x5 x6
def b_X12_liked_28 (k28 : aH → Nat → Int32 → Int32 → Int32 → Int32 → Option (Int32 × aH)) (h : aH) (a0 : Nat) (x1 : Int32) (x2 : Int32) (x3 : Int32) (x4 : Int32) : Option (Int32 × aH) :=
(if (sh a0).1 = 19 then
((hR h a0 20).bind fun b22 =>
(if (sh b22).1 = 0 then
(if aIn 3 (sh b22).2 then
(if hI h b22 (3 : Int32).toNatClampNeg ≤ x4 then
(if x1 = 0 then
some (x2, h)
else
some (x3, h))
else
f_X12_liked_45 k28 2000 h a0 x1 x2 x3 x4 0 0)
else none)
else none))
else none)
set_option maxHeartbeats 2000000 in
theorem t_X12_liked_28 {k28 : aH → Nat → Int32 → Int32 → Int32 → Int32 → Option (Int32 × aH)} (hk28 : ∀ (h : aH) (a0 : Nat) (x1 : Int32) (x2 : Int32) (x3 : Int32) (x4 : Int32), AO eI 3 kX12_liked 28 [some (.ref a0), some (.int x1), some (.int x2), some (.int x3), some (.int x4), none, none] [] h (k28 h a0 x1 x2 x3 x4)) (h : aH) (a0 : Nat) (x1 : Int32) (x2 : Int32) (x3 : Int32) (x4 : Int32) : AO eI 3 kX12_liked 28 [some (.ref a0), some (.int x1), some (.int x2), some (.int x3), some (.int x4), none, none] [] h (b_X12_liked_28 k28 h a0 x1 x2 x3 x4) := by
  unfold b_X12_liked_28
  refine ao_s (st_iload dX12_liked_28 rfl) ?_
  refine ao_s (st_aload_n dX12_liked_30 rfl rfl) ?_
  refine ao_chk (fun e21 => ?_)
  refine ao_getR dX12_liked_31 fl_X12_39 rfl e21 (fun b22 => ?_)
  refine ao_s (st_iconst dX12_liked_34 ic_3) ?_
  refine ao_chk (fun e23 => ?_)
  refine ao_iald dX12_liked_35 e23 ?_
  refine ao_br (br_icmp_ge (tgt := 103) dX12_liked_36 (by decide)) (fun c25 => ?_) (fun c25 => ?_)
  · refine ao_s (st_iload_n dX12_liked_103 rfl rfl) ?_
    refine ao_br (br_if_ne (tgt := 111) dX12_liked_104 (by decide)) (fun c24 => ?_) (fun c24 => ?_)
    · refine ao_s (st_iload_n dX12_liked_107 rfl rfl) ?_
      refine ao_s (st_goto 112 dX12_liked_108 (by decide)) ?_
      exact ao_ir dX12_liked_112 rfl rfl
    · refine ao_s (st_iload_n dX12_liked_111 rfl rfl) ?_
      exact ao_ir dX12_liked_112 rfl rfl
  · refine ao_s (st_iconst dX12_liked_39 ic_0) ?_
    refine ao_s (st_istore (lv' := [some (.ref a0), some (.int x1), some (.int x2), some (.int x3), some (.int x4), some (.int 0), none]) dX12_liked_40 (by decide) rfl) ?_
    refine ao_s (st_iconst dX12_liked_42 ic_0) ?_
    refine ao_s (st_istore (lv' := [some (.ref a0), some (.int x1), some (.int x2), some (.int x3), some (.int x4), some (.int 0), some (.int 0)]) dX12_liked_43 (by decide) rfl) ?_
    exact ao_w (sb_s (sb_s (sb_s (sb_s (sb_s (sb_s (sb_s sb_0))))))) (l_X12_liked_45 hk28 2000 h a0 x1 x2 x3 x4 0 0)
def f_X12_liked_28 (n : Nat) : aH → Nat → Int32 → Int32 → Int32 → Int32 → Option (Int32 × aH) := aIt (fun _ _ _ _ _ _ => none) (fun k => b_X12_liked_28 k) n
theorem l_X12_liked_28 (n : Nat) : ∀ (h : aH) (a0 : Nat) (x1 : Int32) (x2 : Int32) (x3 : Int32) (x4 : Int32), AO eI 3 kX12_liked 28 [some (.ref a0), some (.int x1), some (.int x2), some (.int x3), some (.int x4), none, none] [] h (f_X12_liked_28 n h a0 x1 x2 x3 x4) := by
  induction n with
  | zero => intros; exact ao_none
  | succ n ih =>
    intro h a0 x1 x2 x3 x4
    exact t_X12_liked_28 ih h a0 x1 x2 x3 x4
def f_X12_liked (h : aH) (a0 : Nat) (x1 : Int32) : Option (Int32 × aH) :=
(if (sh a0).1 = 19 then
(aBind (f_X12_isIsle h a0) fun r22 h23 =>
(if r22 = 0 then
some ((-1), h23)
else
(aBind (f_X12_in h23 x1.toInt64 0 1) fun r24 h25 =>
(if r24 = 0 then
some ((-1), h25)
else
f_X12_liked_28 2000 h25 a0 x1 (-2) (-2) 0))))
else none)
set_option maxHeartbeats 2000000 in
theorem s_X12_liked (h : aH) (a0 : Nat) (x1 : Int32) : SO eI 3 kX12_liked [.ref a0, .int x1] h (f_X12_liked h a0 x1) := by
  refine so_of (lv0 := [some (.ref a0), some (.int x1), none, none, none, none, none]) pn_X12 (Nat.le_of_ble_eq_true rfl) rfl ?_
  unfold f_X12_liked
  refine ao_s (st_aload_n dX12_liked_0 rfl rfl) ?_
  refine ao_chk (fun e21 => ?_)
  refine ao_cVi (Kc := kX12_isIsle) (As := []) (st := []) dX12_liked_1 ml_X12_368 mv_X12_isIsle rfl e21 (by decide) rfl rfl (Nat.le_of_ble_eq_true rfl) (by decide) (s_X12_isIsle h a0) (fun r22 h23 => ?_)
  refine ao_br (br_if_eq (tgt := 17) dX12_liked_4 (by decide)) (fun c27 => ?_) (fun c27 => ?_)
  · refine ao_s (st_iconst dX12_liked_17 ic_m1) ?_
    exact ao_ir dX12_liked_18 rfl rfl
  · refine ao_s (st_iload_n dX12_liked_7 rfl rfl) ?_
    refine ao_s (st_i2l dX12_liked_8) ?_
    refine ao_s (st_lconst dX12_liked_9 lc_0) ?_
    refine ao_s (st_lconst dX12_liked_10 lc_1) ?_
    refine ao_cSi (Kc := kX12_in) (As := [.long x1.toInt64, .long 0, .long 1]) (st := []) dX12_liked_11 ml_X12_127 ms_X12_in rfl rfl (Nat.le_of_ble_eq_true rfl) (by decide) (s_X12_in h23 x1.toInt64 0 1) (fun r24 h25 => ?_)
    refine ao_br (br_if_ne (tgt := 19) dX12_liked_14 (by decide)) (fun c26 => ?_) (fun c26 => ?_)
    · refine ao_s (st_iconst dX12_liked_17 ic_m1) ?_
      exact ao_ir dX12_liked_18 rfl rfl
    · refine ao_s (st_bipush dX12_liked_19 bp_m2) ?_
      refine ao_s (st_istore_n (lv' := [some (.ref a0), some (.int x1), some (.int (-2)), none, none, none, none]) dX12_liked_21 rfl (by decide) rfl) ?_
      refine ao_s (st_bipush dX12_liked_22 bp_m2) ?_
      refine ao_s (st_istore_n (lv' := [some (.ref a0), some (.int x1), some (.int (-2)), some (.int (-2)), none, none, none]) dX12_liked_24 rfl (by decide) rfl) ?_
      refine ao_s (st_iconst dX12_liked_25 ic_0) ?_
      refine ao_s (st_istore (lv' := [some (.ref a0), some (.int x1), some (.int (-2)), some (.int (-2)), some (.int 0), none, none]) dX12_liked_26 (by decide) rfl) ?_
      exact ao_w (sb_s (sb_s (sb_s (sb_s (sb_s (sb_n (sb_n sb_0))))))) (l_X12_liked_28 2000 h25 a0 x1 (-2) (-2) 0)
def f_X12_gainBy (h : aH) (a0 : Nat) (x1 : Int32) (x2 : Int32) (x3 : Int32) (x4 : Int32) : Option (Int32 × aH) :=
(if x3 = 1 then
(if x4 = 1 then
(if (sh a0).1 = 19 then
((hR h a0 20).bind fun b22 =>
(if (sh b22).1 = 0 then
(if aIn 2 (sh b22).2 then
some ((hI h b22 (2 : Int32).toNatClampNeg) / 2, h)
else none)
else none))
else none)
else
(if (sh a0).1 = 19 then
((hR h a0 20).bind fun b25 =>
(if (sh b25).1 = 0 then
(if aIn 2 (sh b25).2 then
some (hI h b25 (2 : Int32).toNatClampNeg, h)
else none)
else none))
else none))
else
(if x4 = 1 then
(if (sh a0).1 = 19 then
((hR h a0 20).bind fun b29 =>
(if (sh b29).1 = 0 then
(if aIn 1 (sh b29).2 then
some (((hI h b29 (1 : Int32).toNatClampNeg) / 2) - 10, h)
else none)
else none))
else none)
else
(if (sh a0).1 = 19 then
(aBind (f_X12_personOf h a0 x1 x2 1) fun r32 h33 =>
(aBind (f_X12_likesOf h33 a0 x1 x2 r32) fun r34 h35 =>
(aBind (f_X12_personOf h35 a0 x1 x2 2) fun r36 h37 =>
some (r34 - r36, h37))))
else none)))
set_option maxHeartbeats 2000000 in
theorem s_X12_gainBy (h : aH) (a0 : Nat) (x1 : Int32) (x2 : Int32) (x3 : Int32) (x4 : Int32) : SO eI 4 kX12_gainBy [.ref a0, .int x1, .int x2, .int x3, .int x4] h (f_X12_gainBy h a0 x1 x2 x3 x4) := by
  refine so_of (lv0 := [some (.ref a0), some (.int x1), some (.int x2), some (.int x3), some (.int x4)]) pn_X12 (Nat.le_of_ble_eq_true rfl) rfl ?_
  unfold f_X12_gainBy
  refine ao_s (st_iload_n dX12_gainBy_0 rfl rfl) ?_
  refine ao_s (st_iconst dX12_gainBy_1 ic_1) ?_
  refine ao_br (br_icmp_ne (tgt := 29) dX12_gainBy_2 (by decide)) (fun c39 => ?_) (fun c39 => ?_)
  · refine ao_s (st_iload dX12_gainBy_5 rfl) ?_
    refine ao_s (st_iconst dX12_gainBy_7 ic_1) ?_
    refine ao_br (br_icmp_ne (tgt := 22) dX12_gainBy_8 (by decide)) (fun c27 => ?_) (fun c27 => ?_)
    · refine ao_s (st_aload_n dX12_gainBy_11 rfl rfl) ?_
      refine ao_chk (fun e21 => ?_)
      refine ao_getR dX12_gainBy_12 fl_X12_39 rfl e21 (fun b22 => ?_)
      refine ao_s (st_iconst dX12_gainBy_15 ic_2) ?_
      refine ao_chk (fun e23 => ?_)
      refine ao_iald dX12_gainBy_16 e23 ?_
      refine ao_s (st_iconst dX12_gainBy_17 ic_2) ?_
      refine ao_s (st_idiv dX12_gainBy_18 (by decide)) ?_
      refine ao_s (st_goto 28 dX12_gainBy_19 (by decide)) ?_
      exact ao_ir dX12_gainBy_28 rfl rfl
    · refine ao_s (st_aload_n dX12_gainBy_22 rfl rfl) ?_
      refine ao_chk (fun e24 => ?_)
      refine ao_getR dX12_gainBy_23 fl_X12_39 rfl e24 (fun b25 => ?_)
      refine ao_s (st_iconst dX12_gainBy_26 ic_2) ?_
      refine ao_chk (fun e26 => ?_)
      refine ao_iald dX12_gainBy_27 e26 ?_
      exact ao_ir dX12_gainBy_28 rfl rfl
  · refine ao_s (st_iload dX12_gainBy_29 rfl) ?_
    refine ao_s (st_iconst dX12_gainBy_31 ic_1) ?_
    refine ao_br (br_icmp_ne (tgt := 49) dX12_gainBy_32 (by decide)) (fun c38 => ?_) (fun c38 => ?_)
    · refine ao_s (st_aload_n dX12_gainBy_35 rfl rfl) ?_
      refine ao_chk (fun e28 => ?_)
      refine ao_getR dX12_gainBy_36 fl_X12_39 rfl e28 (fun b29 => ?_)
      refine ao_s (st_iconst dX12_gainBy_39 ic_1) ?_
      refine ao_chk (fun e30 => ?_)
      refine ao_iald dX12_gainBy_40 e30 ?_
      refine ao_s (st_iconst dX12_gainBy_41 ic_2) ?_
      refine ao_s (st_idiv dX12_gainBy_42 (by decide)) ?_
      refine ao_s (st_bipush dX12_gainBy_43 bp_10) ?_
      refine ao_s (st_isub dX12_gainBy_45) ?_
      refine ao_s (st_goto 70 dX12_gainBy_46 (by decide)) ?_
      exact ao_ir dX12_gainBy_70 rfl rfl
    · refine ao_s (st_aload_n dX12_gainBy_49 rfl rfl) ?_
      refine ao_s (st_iload_n dX12_gainBy_50 rfl rfl) ?_
      refine ao_s (st_iload_n dX12_gainBy_51 rfl rfl) ?_
      refine ao_s (st_aload_n dX12_gainBy_52 rfl rfl) ?_
      refine ao_s (st_iload_n dX12_gainBy_53 rfl rfl) ?_
      refine ao_s (st_iload_n dX12_gainBy_54 rfl rfl) ?_
      refine ao_s (st_iconst dX12_gainBy_55 ic_1) ?_
      refine ao_chk (fun e31 => ?_)
      refine ao_cVi (Kc := kX12_personOf) (As := [.int x1, .int x2, .int 1]) (st := [.int x2, .int x1, .ref a0]) dX12_gainBy_56 ml_X12_301 mv_X12_personOf rfl e31 (by decide) rfl rfl (Nat.le_of_ble_eq_true rfl) (by decide) (s_X12_personOf h a0 x1 x2 1) (fun r32 h33 => ?_)
      refine ao_cVi (Kc := kX12_likesOf) (As := [.int x1, .int x2, .int r32]) (st := []) dX12_gainBy_59 ml_X12_305 mv_X12_likesOf rfl e31 (by decide) rfl rfl (Nat.le_of_ble_eq_true rfl) (by decide) (s_X12_likesOf h33 a0 x1 x2 r32) (fun r34 h35 => ?_)
      refine ao_s (st_aload_n dX12_gainBy_62 rfl rfl) ?_
      refine ao_s (st_iload_n dX12_gainBy_63 rfl rfl) ?_
      refine ao_s (st_iload_n dX12_gainBy_64 rfl rfl) ?_
      refine ao_s (st_iconst dX12_gainBy_65 ic_2) ?_
      refine ao_cVi (Kc := kX12_personOf) (As := [.int x1, .int x2, .int 2]) (st := [.int r34]) dX12_gainBy_66 ml_X12_301 mv_X12_personOf rfl e31 (by decide) rfl rfl (Nat.le_of_ble_eq_true rfl) (by decide) (s_X12_personOf h35 a0 x1 x2 2) (fun r36 h37 => ?_)
      refine ao_s (st_isub dX12_gainBy_69) ?_
      exact ao_ir dX12_gainBy_70 rfl rfl
def b_X12_doors_130 (k47 : aH → Nat → Int32 → Int32 → Int32 → Int32 → Int32 → Int32 → Option (Int32 × aH)) (h : aH) (a0 : Nat) (x1 : Int32) (x2 : Int32) (x3 : Int32) (x4 : Int32) (x5 : Int32) (x6 : Int32) : Option (Int32 × aH) :=
k47 h a0 x1 x2 x3 x4 x5 (x6 + 1)
set_option maxHeartbeats 2000000 in
theorem t_X12_doors_130 {k47 : aH → Nat → Int32 → Int32 → Int32 → Int32 → Int32 → Int32 → Option (Int32 × aH)} (hk47 : ∀ (h : aH) (a0 : Nat) (x1 : Int32) (x2 : Int32) (x3 : Int32) (x4 : Int32) (x5 : Int32) (x6 : Int32), AO eI 5 kX12_doors 47 [some (.ref a0), some (.int x1), some (.int x2), some (.int x3), some (.int x4), some (.int x5), some (.int x6), none, none] [] h (k47 h a0 x1 x2 x3 x4 x5 x6)) (h : aH) (a0 : Nat) (x1 : Int32) (x2 : Int32) (x3 : Int32) (x4 : Int32) (x5 : Int32) (x6 : Int32) : AO eI 5 kX12_doors 130 [some (.ref a0), some (.int x1), some (.int x2), some (.int x3), some (.int x4), some (.int x5), some (.int x6), none, none] [] h (b_X12_doors_130 k47 h a0 x1 x2 x3 x4 x5 x6) := by
  unfold b_X12_doors_130
  refine ao_s (st_iinc (lv' := [some (.ref a0), some (.int x1), some (.int x2), some (.int x3), some (.int x4), some (.int x5), some (.int (x6 + 1)), none, none]) dX12_doors_130 rfl nc_1 (by decide) rfl) ?_
  refine ao_s (st_goto 47 dX12_doors_133 (by decide)) ?_
  exact ao_w (sb_s (sb_s (sb_s (sb_s (sb_s (sb_s (sb_s (sb_n (sb_n sb_0))))))))) (hk47 h a0 x1 x2 x3 x4 x5 (x6 + 1))
def b_X12_doors_127 (k47 : aH → Nat → Int32 → Int32 → Int32 → Int32 → Int32 → Int32 → Option (Int32 × aH)) (h : aH) (a0 : Nat) (x1 : Int32) (x2 : Int32) (x3 : Int32) (x4 : Int32) (x5 : Int32) (x6 : Int32) : Option (Int32 × aH) :=
b_X12_doors_130 k47 h a0 x1 x2 x3 (x4 + 1) x5 x6
set_option maxHeartbeats 2000000 in
theorem t_X12_doors_127 {k47 : aH → Nat → Int32 → Int32 → Int32 → Int32 → Int32 → Int32 → Option (Int32 × aH)} (hk47 : ∀ (h : aH) (a0 : Nat) (x1 : Int32) (x2 : Int32) (x3 : Int32) (x4 : Int32) (x5 : Int32) (x6 : Int32), AO eI 5 kX12_doors 47 [some (.ref a0), some (.int x1), some (.int x2), some (.int x3), some (.int x4), some (.int x5), some (.int x6), none, none] [] h (k47 h a0 x1 x2 x3 x4 x5 x6)) (h : aH) (a0 : Nat) (x1 : Int32) (x2 : Int32) (x3 : Int32) (x4 : Int32) (x5 : Int32) (x6 : Int32) : AO eI 5 kX12_doors 127 [some (.ref a0), some (.int x1), some (.int x2), some (.int x3), some (.int x4), some (.int x5), some (.int x6), none, none] [] h (b_X12_doors_127 k47 h a0 x1 x2 x3 x4 x5 x6) := by
  unfold b_X12_doors_127
  refine ao_s (st_iinc (lv' := [some (.ref a0), some (.int x1), some (.int x2), some (.int x3), some (.int (x4 + 1)), some (.int x5), some (.int x6), none, none]) dX12_doors_127 rfl nc_1 (by decide) rfl) ?_
  exact ao_w (sb_s (sb_s (sb_s (sb_s (sb_s (sb_s (sb_s (sb_n (sb_n sb_0))))))))) (t_X12_doors_130 hk47 h a0 x1 x2 x3 (x4 + 1) x5 x6)
def b_X12_doors_47 (k47 : aH → Nat → Int32 → Int32 → Int32 → Int32 → Int32 → Int32 → Option (Int32 × aH)) (h : aH) (a0 : Nat) (x1 : Int32) (x2 : Int32) (x3 : Int32) (x4 : Int32) (x5 : Int32) (x6 : Int32) : Option (Int32 × aH) :=
(if 4 ≤ x6 then
(if x2 = 0 then
some (x4, h)
else
some (x5, h))
else
(aLet (x6 / 2) fun x22 =>
(aLet (x6 - x6 / 2 * 2) fun x23 =>
(if (sh a0).1 = 19 then
(aBind (f_X12_gainBy h a0 0 x1 (1 - x22) x23) fun r25 h26 =>
(aBind (f_X12_gainBy h26 a0 0 x1 x22 x23) fun r27 h28 =>
(if r27 < r25 then
b_X12_doors_130 k47 h28 a0 x1 x2 x3 x4 x5 x6
else
(aBind (f_X12_gainBy h28 a0 1 x3 (1 - x23) x22) fun r29 h30 =>
(aBind (f_X12_gainBy h30 a0 1 x3 x23 x22) fun r31 h32 =>
(if r29 ≤ r31 then
(if x4 = 0 then
b_X12_doors_127 k47 h32 a0 x1 x2 x3 x4 x6 x6
else
b_X12_doors_127 k47 h32 a0 x1 x2 x3 x4 x5 x6)
else
b_X12_doors_130 k47 h32 a0 x1 x2 x3 x4 x5 x6))))))
else none))))
set_option maxHeartbeats 2000000 in
theorem t_X12_doors_47 {k47 : aH → Nat → Int32 → Int32 → Int32 → Int32 → Int32 → Int32 → Option (Int32 × aH)} (hk47 : ∀ (h : aH) (a0 : Nat) (x1 : Int32) (x2 : Int32) (x3 : Int32) (x4 : Int32) (x5 : Int32) (x6 : Int32), AO eI 5 kX12_doors 47 [some (.ref a0), some (.int x1), some (.int x2), some (.int x3), some (.int x4), some (.int x5), some (.int x6), none, none] [] h (k47 h a0 x1 x2 x3 x4 x5 x6)) (h : aH) (a0 : Nat) (x1 : Int32) (x2 : Int32) (x3 : Int32) (x4 : Int32) (x5 : Int32) (x6 : Int32) : AO eI 5 kX12_doors 47 [some (.ref a0), some (.int x1), some (.int x2), some (.int x3), some (.int x4), some (.int x5), some (.int x6), none, none] [] h (b_X12_doors_47 k47 h a0 x1 x2 x3 x4 x5 x6) := by
  unfold b_X12_doors_47
  refine ao_s (st_iload dX12_doors_47 rfl) ?_
  refine ao_s (st_iconst dX12_doors_49 ic_4) ?_
  refine ao_br (br_icmp_ge (tgt := 136) dX12_doors_50 (by decide)) (fun c36 => ?_) (fun c36 => ?_)
  · refine ao_s (st_iload_n dX12_doors_136 rfl rfl) ?_
    refine ao_br (br_if_ne (tgt := 145) dX12_doors_137 (by decide)) (fun c21 => ?_) (fun c21 => ?_)
    · refine ao_s (st_iload dX12_doors_140 rfl) ?_
      refine ao_s (st_goto 147 dX12_doors_142 (by decide)) ?_
      exact ao_ir dX12_doors_147 rfl rfl
    · refine ao_s (st_iload dX12_doors_145 rfl) ?_
      exact ao_ir dX12_doors_147 rfl rfl
  · refine ao_s (st_iload dX12_doors_53 rfl) ?_
    refine ao_s (st_iconst dX12_doors_55 ic_2) ?_
    refine ao_s (st_idiv dX12_doors_56 (by decide)) ?_
    refine ao_letI (fun x22 => ?_)
    refine ao_s (st_istore (lv' := [some (.ref a0), some (.int x1), some (.int x2), some (.int x3), some (.int x4), some (.int x5), some (.int x6), some (.int x22), none]) dX12_doors_57 (by decide) rfl) ?_
    refine ao_s (st_iload dX12_doors_59 rfl) ?_
    refine ao_s (st_iconst dX12_doors_61 ic_2) ?_
    refine ao_s (st_irem dX12_doors_62 (by decide)) ?_
    refine ao_letI (fun x23 => ?_)
    refine ao_s (st_istore (lv' := [some (.ref a0), some (.int x1), some (.int x2), some (.int x3), some (.int x4), some (.int x5), some (.int x6), some (.int x22), some (.int x23)]) dX12_doors_63 (by decide) rfl) ?_
    refine ao_s (st_aload_n dX12_doors_65 rfl rfl) ?_
    refine ao_s (st_iconst dX12_doors_66 ic_0) ?_
    refine ao_s (st_iload_n dX12_doors_67 rfl rfl) ?_
    refine ao_s (st_iconst dX12_doors_68 ic_1) ?_
    refine ao_s (st_iload dX12_doors_69 rfl) ?_
    refine ao_s (st_isub dX12_doors_71) ?_
    refine ao_s (st_iload dX12_doors_72 rfl) ?_
    refine ao_chk (fun e24 => ?_)
    refine ao_cVi (Kc := kX12_gainBy) (As := [.int 0, .int x1, .int (1 - x22), .int x23]) (st := []) dX12_doors_74 ml_X12_422 mv_X12_gainBy rfl e24 (by decide) rfl rfl (Nat.le_of_ble_eq_true rfl) (by decide) (s_X12_gainBy h a0 0 x1 (1 - x22) x23) (fun r25 h26 => ?_)
    refine ao_s (st_aload_n dX12_doors_77 rfl rfl) ?_
    refine ao_s (st_iconst dX12_doors_78 ic_0) ?_
    refine ao_s (st_iload_n dX12_doors_79 rfl rfl) ?_
    refine ao_s (st_iload dX12_doors_80 rfl) ?_
    refine ao_s (st_iload dX12_doors_82 rfl) ?_
    refine ao_cVi (Kc := kX12_gainBy) (As := [.int 0, .int x1, .int x22, .int x23]) (st := [.int r25]) dX12_doors_84 ml_X12_422 mv_X12_gainBy rfl e24 (by decide) rfl rfl (Nat.le_of_ble_eq_true rfl) (by decide) (s_X12_gainBy h26 a0 0 x1 x22 x23) (fun r27 h28 => ?_)
    refine ao_br (br_icmp_gt (tgt := 130) dX12_doors_87 (by decide)) (fun c35 => ?_) (fun c35 => ?_)
    · exact ao_w (sb_s (sb_s (sb_s (sb_s (sb_s (sb_s (sb_s (sb_n (sb_n sb_0))))))))) (t_X12_doors_130 hk47 h28 a0 x1 x2 x3 x4 x5 x6)
    · refine ao_s (st_aload_n dX12_doors_90 rfl rfl) ?_
      refine ao_s (st_iconst dX12_doors_91 ic_1) ?_
      refine ao_s (st_iload_n dX12_doors_92 rfl rfl) ?_
      refine ao_s (st_iconst dX12_doors_93 ic_1) ?_
      refine ao_s (st_iload dX12_doors_94 rfl) ?_
      refine ao_s (st_isub dX12_doors_96) ?_
      refine ao_s (st_iload dX12_doors_97 rfl) ?_
      refine ao_cVi (Kc := kX12_gainBy) (As := [.int 1, .int x3, .int (1 - x23), .int x22]) (st := []) dX12_doors_99 ml_X12_422 mv_X12_gainBy rfl e24 (by decide) rfl rfl (Nat.le_of_ble_eq_true rfl) (by decide) (s_X12_gainBy h28 a0 1 x3 (1 - x23) x22) (fun r29 h30 => ?_)
      refine ao_s (st_aload_n dX12_doors_102 rfl rfl) ?_
      refine ao_s (st_iconst dX12_doors_103 ic_1) ?_
      refine ao_s (st_iload_n dX12_doors_104 rfl rfl) ?_
      refine ao_s (st_iload dX12_doors_105 rfl) ?_
      refine ao_s (st_iload dX12_doors_107 rfl) ?_
      refine ao_cVi (Kc := kX12_gainBy) (As := [.int 1, .int x3, .int x23, .int x22]) (st := [.int r29]) dX12_doors_109 ml_X12_422 mv_X12_gainBy rfl e24 (by decide) rfl rfl (Nat.le_of_ble_eq_true rfl) (by decide) (s_X12_gainBy h30 a0 1 x3 x23 x22) (fun r31 h32 => ?_)
      refine ao_br (br_icmp_le (tgt := 118) dX12_doors_112 (by decide)) (fun c34 => ?_) (fun c34 => ?_)
      · refine ao_s (st_iload dX12_doors_118 rfl) ?_
        refine ao_br (br_if_ne (tgt := 127) dX12_doors_120 (by decide)) (fun c33 => ?_) (fun c33 => ?_)
        · refine ao_s (st_iload dX12_doors_123 rfl) ?_
          refine ao_s (st_istore (lv' := [some (.ref a0), some (.int x1), some (.int x2), some (.int x3), some (.int x4), some (.int x6), some (.int x6), some (.int x22), some (.int x23)]) dX12_doors_125 (by decide) rfl) ?_
          exact ao_w (sb_s (sb_s (sb_s (sb_s (sb_s (sb_s (sb_s (sb_n (sb_n sb_0))))))))) (t_X12_doors_127 hk47 h32 a0 x1 x2 x3 x4 x6 x6)
        · exact ao_w (sb_s (sb_s (sb_s (sb_s (sb_s (sb_s (sb_s (sb_n (sb_n sb_0))))))))) (t_X12_doors_127 hk47 h32 a0 x1 x2 x3 x4 x5 x6)
      · refine ao_s (st_goto 130 dX12_doors_115 (by decide)) ?_
        exact ao_w (sb_s (sb_s (sb_s (sb_s (sb_s (sb_s (sb_s (sb_n (sb_n sb_0))))))))) (t_X12_doors_130 hk47 h32 a0 x1 x2 x3 x4 x5 x6)
def f_X12_doors_47 (n : Nat) : aH → Nat → Int32 → Int32 → Int32 → Int32 → Int32 → Int32 → Option (Int32 × aH) := aIt (fun _ _ _ _ _ _ _ _ => none) (fun k => b_X12_doors_47 k) n
theorem l_X12_doors_47 (n : Nat) : ∀ (h : aH) (a0 : Nat) (x1 : Int32) (x2 : Int32) (x3 : Int32) (x4 : Int32) (x5 : Int32) (x6 : Int32), AO eI 5 kX12_doors 47 [some (.ref a0), some (.int x1), some (.int x2), some (.int x3), some (.int x4), some (.int x5), some (.int x6), none, none] [] h (f_X12_doors_47 n h a0 x1 x2 x3 x4 x5 x6) := by
  induction n with
  | zero => intros; exact ao_none
  | succ n ih =>
    intro h a0 x1 x2 x3 x4 x5 x6
    exact t_X12_doors_47 ih h a0 x1 x2 x3 x4 x5 x6
def f_X12_doors (h : aH) (a0 : Nat) (x1 : Int32) (x2 : Int32) : Option (Int32 × aH) :=
(if (sh a0).1 = 19 then
(aBind (f_X12_isEast h a0 x1) fun r22 h23 =>
(if r22 = 0 then
some ((-1), h23)
else
(aBind (f_X12_isFree h23 a0 0 x1) fun r24 h25 =>
(if r24 = 0 then
(aBind (f_X12_in h25 x2.toInt64 0 1) fun r26 h27 =>
(if r26 = 0 then
some ((-1), h27)
else
(aBind (f_X12_personOf h27 a0 0 x1 1) fun r28 h29 =>
f_X12_doors_47 2000 h29 a0 x1 x2 r28 0 (-2) 0)))
else
some ((-1), h25)))))
else none)
set_option maxHeartbeats 2000000 in
theorem s_X12_doors (h : aH) (a0 : Nat) (x1 : Int32) (x2 : Int32) : SO eI 5 kX12_doors [.ref a0, .int x1, .int x2] h (f_X12_doors h a0 x1 x2) := by
  refine so_of (lv0 := [some (.ref a0), some (.int x1), some (.int x2), none, none, none, none, none, none]) pn_X12 (Nat.le_of_ble_eq_true rfl) rfl ?_
  unfold f_X12_doors
  refine ao_s (st_aload_n dX12_doors_0 rfl rfl) ?_
  refine ao_s (st_iload_n dX12_doors_1 rfl rfl) ?_
  refine ao_chk (fun e21 => ?_)
  refine ao_cVi (Kc := kX12_isEast) (As := [.int x1]) (st := []) dX12_doors_2 ml_X12_324 mv_X12_isEast rfl e21 (by decide) rfl rfl (Nat.le_of_ble_eq_true rfl) (by decide) (s_X12_isEast h a0 x1) (fun r22 h23 => ?_)
  refine ao_br (br_if_eq (tgt := 27) dX12_doors_5 (by decide)) (fun c32 => ?_) (fun c32 => ?_)
  · refine ao_s (st_iconst dX12_doors_27 ic_m1) ?_
    exact ao_ir dX12_doors_28 rfl rfl
  · refine ao_s (st_aload_n dX12_doors_8 rfl rfl) ?_
    refine ao_s (st_iconst dX12_doors_9 ic_0) ?_
    refine ao_s (st_iload_n dX12_doors_10 rfl rfl) ?_
    refine ao_cVi (Kc := kX12_isFree) (As := [.int 0, .int x1]) (st := []) dX12_doors_11 ml_X12_318 mv_X12_isFree rfl e21 (by decide) rfl rfl (Nat.le_of_ble_eq_true rfl) (by decide) (s_X12_isFree h23 a0 0 x1) (fun r24 h25 => ?_)
    refine ao_br (br_if_ne (tgt := 27) dX12_doors_14 (by decide)) (fun c31 => ?_) (fun c31 => ?_)
    · refine ao_s (st_iload_n dX12_doors_17 rfl rfl) ?_
      refine ao_s (st_i2l dX12_doors_18) ?_
      refine ao_s (st_lconst dX12_doors_19 lc_0) ?_
      refine ao_s (st_lconst dX12_doors_20 lc_1) ?_
      refine ao_cSi (Kc := kX12_in) (As := [.long x2.toInt64, .long 0, .long 1]) (st := []) dX12_doors_21 ml_X12_127 ms_X12_in rfl rfl (Nat.le_of_ble_eq_true rfl) (by decide) (s_X12_in h25 x2.toInt64 0 1) (fun r26 h27 => ?_)
      refine ao_br (br_if_ne (tgt := 29) dX12_doors_24 (by decide)) (fun c30 => ?_) (fun c30 => ?_)
      · refine ao_s (st_iconst dX12_doors_27 ic_m1) ?_
        exact ao_ir dX12_doors_28 rfl rfl
      · refine ao_s (st_aload_n dX12_doors_29 rfl rfl) ?_
        refine ao_s (st_iconst dX12_doors_30 ic_0) ?_
        refine ao_s (st_iload_n dX12_doors_31 rfl rfl) ?_
        refine ao_s (st_iconst dX12_doors_32 ic_1) ?_
        refine ao_cVi (Kc := kX12_personOf) (As := [.int 0, .int x1, .int 1]) (st := []) dX12_doors_33 ml_X12_301 mv_X12_personOf rfl e21 (by decide) rfl rfl (Nat.le_of_ble_eq_true rfl) (by decide) (s_X12_personOf h27 a0 0 x1 1) (fun r28 h29 => ?_)
        refine ao_s (st_istore_n (lv' := [some (.ref a0), some (.int x1), some (.int x2), some (.int r28), none, none, none, none, none]) dX12_doors_36 rfl (by decide) rfl) ?_
        refine ao_s (st_iconst dX12_doors_37 ic_0) ?_
        refine ao_s (st_istore (lv' := [some (.ref a0), some (.int x1), some (.int x2), some (.int r28), some (.int 0), none, none, none, none]) dX12_doors_38 (by decide) rfl) ?_
        refine ao_s (st_bipush dX12_doors_40 bp_m2) ?_
        refine ao_s (st_istore (lv' := [some (.ref a0), some (.int x1), some (.int x2), some (.int r28), some (.int 0), some (.int (-2)), none, none, none]) dX12_doors_42 (by decide) rfl) ?_
        refine ao_s (st_iconst dX12_doors_44 ic_0) ?_
        refine ao_s (st_istore (lv' := [some (.ref a0), some (.int x1), some (.int x2), some (.int r28), some (.int 0), some (.int (-2)), some (.int 0), none, none]) dX12_doors_45 (by decide) rfl) ?_
        exact ao_w (sb_s (sb_s (sb_s (sb_s (sb_s (sb_s (sb_s (sb_n (sb_n sb_0))))))))) (l_X12_doors_47 2000 h29 a0 x1 x2 r28 0 (-2) 0)
    · refine ao_s (st_iconst dX12_doors_27 ic_m1) ?_
      exact ao_ir dX12_doors_28 rfl rfl
def b_X12_areKept_3 (k3 : aH → Nat → Int32 → Int32 → Int32 → Int32 → Option (Int32 × aH)) (h : aH) (a0 : Nat) (x1 : Int32) (x2 : Int32) (x3 : Int32) (x4 : Int32) : Option (Int32 × aH) :=
(if x3 ≤ x4 then
some (1, h)
else
(if (sh a0).1 = 19 then
(aBind (f_X12_passes h a0) fun r22 h23 =>
(aBind (f_X12_personOf h23 a0 0 x1 1) fun r24 h25 =>
(if r24 = x2 then
k3 h25 a0 x1 x2 x3 (x4 + 1)
else
some (0, h25))))
else none))
set_option maxHeartbeats 2000000 in
theorem t_X12_areKept_3 {k3 : aH → Nat → Int32 → Int32 → Int32 → Int32 → Option (Int32 × aH)} (hk3 : ∀ (h : aH) (a0 : Nat) (x1 : Int32) (x2 : Int32) (x3 : Int32) (x4 : Int32), AO eI 8 kX12_areKept 3 [some (.ref a0), some (.int x1), some (.int x2), some (.int x3), some (.int x4)] [] h (k3 h a0 x1 x2 x3 x4)) (h : aH) (a0 : Nat) (x1 : Int32) (x2 : Int32) (x3 : Int32) (x4 : Int32) : AO eI 8 kX12_areKept 3 [some (.ref a0), some (.int x1), some (.int x2), some (.int x3), some (.int x4)] [] h (b_X12_areKept_3 k3 h a0 x1 x2 x3 x4) := by
  unfold b_X12_areKept_3
  refine ao_s (st_iload dX12_areKept_3 rfl) ?_
  refine ao_s (st_iload_n dX12_areKept_5 rfl rfl) ?_
  refine ao_br (br_icmp_ge (tgt := 33) dX12_areKept_6 (by decide)) (fun c27 => ?_) (fun c27 => ?_)
  · refine ao_s (st_iconst dX12_areKept_33 ic_1) ?_
    exact ao_ir dX12_areKept_34 rfl (by decide)
  · refine ao_s (st_aload_n dX12_areKept_9 rfl rfl) ?_
    refine ao_chk (fun e21 => ?_)
    refine ao_cVi (Kc := kX12_passes) (As := []) (st := []) dX12_areKept_10 ml_X12_374 mv_X12_passes rfl e21 (by decide) rfl rfl (Nat.le_of_ble_eq_true rfl) (by decide) (s_X12_passes h a0) (fun r22 h23 => ?_)
    refine ao_s (st_pop dX12_areKept_13 rfl) ?_
    refine ao_s (st_aload_n dX12_areKept_14 rfl rfl) ?_
    refine ao_s (st_iconst dX12_areKept_15 ic_0) ?_
    refine ao_s (st_iload_n dX12_areKept_16 rfl rfl) ?_
    refine ao_s (st_iconst dX12_areKept_17 ic_1) ?_
    refine ao_cVi (Kc := kX12_personOf) (As := [.int 0, .int x1, .int 1]) (st := []) dX12_areKept_18 ml_X12_301 mv_X12_personOf rfl e21 (by decide) rfl rfl (Nat.le_of_ble_eq_true rfl) (by decide) (s_X12_personOf h23 a0 0 x1 1) (fun r24 h25 => ?_)
    refine ao_s (st_iload_n dX12_areKept_21 rfl rfl) ?_
    refine ao_br (br_icmp_eq (tgt := 27) dX12_areKept_22 (by decide)) (fun c26 => ?_) (fun c26 => ?_)
    · refine ao_s (st_iinc (lv' := [some (.ref a0), some (.int x1), some (.int x2), some (.int x3), some (.int (x4 + 1))]) dX12_areKept_27 rfl nc_1 (by decide) rfl) ?_
      refine ao_s (st_goto 3 dX12_areKept_30 (by decide)) ?_
      exact ao_w (sb_s (sb_s (sb_s (sb_s (sb_s sb_0))))) (hk3 h25 a0 x1 x2 x3 (x4 + 1))
    · refine ao_s (st_iconst dX12_areKept_25 ic_0) ?_
      exact ao_ir dX12_areKept_26 rfl (by decide)
def f_X12_areKept_3 (n : Nat) : aH → Nat → Int32 → Int32 → Int32 → Int32 → Option (Int32 × aH) := aIt (fun _ _ _ _ _ _ => none) (fun k => b_X12_areKept_3 k) n
theorem l_X12_areKept_3 (n : Nat) : ∀ (h : aH) (a0 : Nat) (x1 : Int32) (x2 : Int32) (x3 : Int32) (x4 : Int32), AO eI 8 kX12_areKept 3 [some (.ref a0), some (.int x1), some (.int x2), some (.int x3), some (.int x4)] [] h (f_X12_areKept_3 n h a0 x1 x2 x3 x4) := by
  induction n with
  | zero => intros; exact ao_none
  | succ n ih =>
    intro h a0 x1 x2 x3 x4
    exact t_X12_areKept_3 ih h a0 x1 x2 x3 x4
def f_X12_areKept (h : aH) (a0 : Nat) (x1 : Int32) (x2 : Int32) (x3 : Int32) : Option (Int32 × aH) :=
f_X12_areKept_3 2000 h a0 x1 x2 x3 0
set_option maxHeartbeats 2000000 in
theorem s_X12_areKept (h : aH) (a0 : Nat) (x1 : Int32) (x2 : Int32) (x3 : Int32) : SO eI 8 kX12_areKept [.ref a0, .int x1, .int x2, .int x3] h (f_X12_areKept h a0 x1 x2 x3) := by
  refine so_of (lv0 := [some (.ref a0), some (.int x1), some (.int x2), some (.int x3), none]) pn_X12 (Nat.le_of_ble_eq_true rfl) rfl ?_
  unfold f_X12_areKept
  refine ao_s (st_iconst dX12_areKept_0 ic_0) ?_
  refine ao_s (st_istore (lv' := [some (.ref a0), some (.int x1), some (.int x2), some (.int x3), some (.int 0)]) dX12_areKept_1 (by decide) rfl) ?_
  exact ao_w (sb_s (sb_s (sb_s (sb_s (sb_s sb_0))))) (l_X12_areKept_3 2000 h a0 x1 x2 x3 0)
