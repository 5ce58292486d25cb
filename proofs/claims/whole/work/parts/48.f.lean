def b_X12_alikeAt_77 (k18 : aH → Nat → Int32 → Int32 → Int32 → Int32 → Int32 → Option (Int32 × aH)) (h : aH) (a0 : Nat) (x1 : Int32) (x2 : Int32) (x3 : Int32) (x5 : Int32) (s0 : Int32) (s1 : Int32) : Option (Int32 × aH) :=
(aLet (s1 + s0) fun x21 =>
k18 h a0 x1 x2 x3 x21 (x5 + 1))
set_option maxHeartbeats 2000000 in
theorem t_X12_alikeAt_77 {k18 : aH → Nat → Int32 → Int32 → Int32 → Int32 → Int32 → Option (Int32 × aH)} (hk18 : ∀ (h : aH) (a0 : Nat) (x1 : Int32) (x2 : Int32) (x3 : Int32) (x4 : Int32) (x5 : Int32), AO eI 2 kX12_alikeAt 18 [some (.ref a0), some (.int x1), some (.int x2), some (.int x3), some (.int x4), some (.int x5)] [] h (k18 h a0 x1 x2 x3 x4 x5)) (h : aH) (a0 : Nat) (x1 : Int32) (x2 : Int32) (x3 : Int32) (x5 : Int32) (s0 : Int32) (s1 : Int32) : AO eI 2 kX12_alikeAt 77 [some (.ref a0), some (.int x1), some (.int x2), some (.int x3), none, some (.int x5)] [.int s0, .int s1] h (b_X12_alikeAt_77 k18 h a0 x1 x2 x3 x5 s0 s1) := by
  unfold b_X12_alikeAt_77
  refine ao_s (st_iadd dX12_alikeAt_77) ?_
  refine ao_letI (fun x21 => ?_)
  refine ao_s (st_istore (lv' := [some (.ref a0), some (.int x1), some (.int x2), some (.int x3), some (.int x21), some (.int x5)]) dX12_alikeAt_78 (by decide) rfl) ?_
  refine ao_s (st_iinc (lv' := [some (.ref a0), some (.int x1), some (.int x2), some (.int x3), some (.int x21), some (.int (x5 + 1))]) dX12_alikeAt_80 rfl nc_1 (by decide) rfl) ?_
  refine ao_s (st_goto 18 dX12_alikeAt_83 (by decide)) ?_
  exact ao_w (sb_s (sb_s (sb_s (sb_s (sb_s (sb_s sb_0)))))) (hk18 h a0 x1 x2 x3 x21 (x5 + 1))
def b_X12_alikeAt_76 (k18 : aH → Nat → Int32 → Int32 → Int32 → Int32 → Int32 → Option (Int32 × aH)) (h : aH) (a0 : Nat) (x1 : Int32) (x2 : Int32) (x3 : Int32) (x5 : Int32) (s0 : Int32) : Option (Int32 × aH) :=
b_X12_alikeAt_77 k18 h a0 x1 x2 x3 x5 0 s0
set_option maxHeartbeats 2000000 in
theorem t_X12_alikeAt_76 {k18 : aH → Nat → Int32 → Int32 → Int32 → Int32 → Int32 → Option (Int32 × aH)} (hk18 : ∀ (h : aH) (a0 : Nat) (x1 : Int32) (x2 : Int32) (x3 : Int32) (x4 : Int32) (x5 : Int32), AO eI 2 kX12_alikeAt 18 [some (.ref a0), some (.int x1), some (.int x2), some (.int x3), some (.int x4), some (.int x5)] [] h (k18 h a0 x1 x2 x3 x4 x5)) (h : aH) (a0 : Nat) (x1 : Int32) (x2 : Int32) (x3 : Int32) (x5 : Int32) (s0 : Int32) : AO eI 2 kX12_alikeAt 76 [some (.ref a0), some (.int x1), some (.int x2), some (.int x3), none, some (.int x5)] [.int s0] h (b_X12_alikeAt_76 k18 h a0 x1 x2 x3 x5 s0) := by
  unfold b_X12_alikeAt_76
  refine ao_s (st_iconst dX12_alikeAt_76 ic_0) ?_
  exact ao_w (sb_s (sb_s (sb_s (sb_s (sb_n (sb_s sb_0)))))) (t_X12_alikeAt_77 hk18 h a0 x1 x2 x3 x5 0 s0)
def b_X12_alikeAt_98 (k4 : aH → Nat → Int32 → Int32 → Int32 → Option (Int32 × aH)) (h : aH) (a0 : Nat) (x1 : Int32) (x3 : Int32) (s0 : Int32) : Option (Int32 × aH) :=
k4 h a0 x1 s0 (x3 + 1)
set_option maxHeartbeats 2000000 in
theorem t_X12_alikeAt_98 {k4 : aH → Nat → Int32 → Int32 → Int32 → Option (Int32 × aH)} (hk4 : ∀ (h : aH) (a0 : Nat) (x1 : Int32) (x2 : Int32) (x3 : Int32), AO eI 2 kX12_alikeAt 4 [some (.ref a0), some (.int x1), some (.int x2), some (.int x3), none, none] [] h (k4 h a0 x1 x2 x3)) (h : aH) (a0 : Nat) (x1 : Int32) (x3 : Int32) (s0 : Int32) : AO eI 2 kX12_alikeAt 98 [some (.ref a0), some (.int x1), none, some (.int x3), none, none] [.int s0] h (b_X12_alikeAt_98 k4 h a0 x1 x3 s0) := by
  unfold b_X12_alikeAt_98
  refine ao_s (st_istore_n (lv' := [some (.ref a0), some (.int x1), some (.int s0), some (.int x3), none, none]) dX12_alikeAt_98 rfl (by decide) rfl) ?_
  refine ao_s (st_iinc (lv' := [some (.ref a0), some (.int x1), some (.int s0), some (.int (x3 + 1)), none, none]) dX12_alikeAt_99 rfl nc_1 (by decide) rfl) ?_
  refine ao_s (st_goto 4 dX12_alikeAt_102 (by decide)) ?_
  exact ao_w (sb_s (sb_s (sb_s (sb_s (sb_n (sb_n sb_0)))))) (hk4 h a0 x1 s0 (x3 + 1))
def b_X12_alikeAt_86 (k4 : aH → Nat → Int32 → Int32 → Int32 → Option (Int32 × aH)) (h : aH) (a0 : Nat) (x1 : Int32) (x2 : Int32) (x3 : Int32) (x4 : Int32) : Option (Int32 × aH) :=
(if x4 ≤ x2 then
b_X12_alikeAt_98 k4 h a0 x1 x3 x2
else
b_X12_alikeAt_98 k4 h a0 x1 x3 x4)
set_option maxHeartbeats 2000000 in
theorem t_X12_alikeAt_86 {k4 : aH → Nat → Int32 → Int32 → Int32 → Option (Int32 × aH)} (hk4 : ∀ (h : aH) (a0 : Nat) (x1 : Int32) (x2 : Int32) (x3 : Int32), AO eI 2 kX12_alikeAt 4 [some (.ref a0), some (.int x1), some (.int x2), some (.int x3), none, none] [] h (k4 h a0 x1 x2 x3)) (h : aH) (a0 : Nat) (x1 : Int32) (x2 : Int32) (x3 : Int32) (x4 : Int32) : AO eI 2 kX12_alikeAt 86 [some (.ref a0), some (.int x1), some (.int x2), some (.int x3), some (.int x4), none] [] h (b_X12_alikeAt_86 k4 h a0 x1 x2 x3 x4) := by
  unfold b_X12_alikeAt_86
  refine ao_s (st_iload dX12_alikeAt_86 rfl) ?_
  refine ao_s (st_iload_n dX12_alikeAt_88 rfl rfl) ?_
  refine ao_br (br_icmp_le (tgt := 97) dX12_alikeAt_89 (by decide)) (fun c21 => ?_) (fun c21 => ?_)
  · refine ao_s (st_iload_n dX12_alikeAt_97 rfl rfl) ?_
    exact ao_w (sb_s (sb_s (sb_n (sb_s (sb_n (sb_n sb_0)))))) (t_X12_alikeAt_98 hk4 h a0 x1 x3 x2)
  · refine ao_s (st_iload dX12_alikeAt_92 rfl) ?_
    refine ao_s (st_goto 98 dX12_alikeAt_94 (by decide)) ?_
    exact ao_w (sb_s (sb_s (sb_n (sb_s (sb_n (sb_n sb_0)))))) (t_X12_alikeAt_98 hk4 h a0 x1 x3 x4)
def b_X12_alikeAt_18 (k4 : aH → Nat → Int32 → Int32 → Int32 → Option (Int32 × aH)) (k18 : aH → Nat → Int32 → Int32 → Int32 → Int32 → Int32 → Option (Int32 × aH)) (h : aH) (a0 : Nat) (x1 : Int32) (x2 : Int32) (x3 : Int32) (x4 : Int32) (x5 : Int32) : Option (Int32 × aH) :=
(if (sh a0).1 = 19 then
(if hI h a0 2 < x5 then
b_X12_alikeAt_86 k4 h a0 x1 x2 x3 x4
else
((hR h a0 33).bind fun b22 =>
(if (sh b22).1 = 2 then
(if aIn x3 (sh b22).2 then
(if hI h b22 x3.toNatClampNeg = 0 then
b_X12_alikeAt_86 k4 h a0 x1 x2 x3 x4
else
((hR h a0 33).bind fun b24 =>
(if (sh b24).1 = 2 then
(if aIn x5 (sh b24).2 then
(if hI h b24 x5.toNatClampNeg = 0 then
b_X12_alikeAt_76 k18 h a0 x1 x2 x3 x5 x4
else
((hR h a0 34).bind fun b26 =>
(aLet ((4 * x3) + x1) fun x27 =>
(if (sh b26).1 = 0 then
(if aIn x27 (sh b26).2 then
((hR h a0 34).bind fun b29 =>
(aLet ((4 * x5) + x1) fun x30 =>
(if (sh b29).1 = 0 then
(if aIn x30 (sh b29).2 then
(if hI h b26 x27.toNatClampNeg = hI h b29 x30.toNatClampNeg then
b_X12_alikeAt_77 k18 h a0 x1 x2 x3 x5 1 x4
else
b_X12_alikeAt_76 k18 h a0 x1 x2 x3 x5 x4)
else none)
else none)))
else none)
else none))))
else none)
else none)))
else none)
else none)))
else none)
set_option maxHeartbeats 2000000 in
theorem t_X12_alikeAt_18 {k4 : aH → Nat → Int32 → Int32 → Int32 → Option (Int32 × aH)} (hk4 : ∀ (h : aH) (a0 : Nat) (x1 : Int32) (x2 : Int32) (x3 : Int32), AO eI 2 kX12_alikeAt 4 [some (.ref a0), some (.int x1), some (.int x2), some (.int x3), none, none] [] h (k4 h a0 x1 x2 x3)) {k18 : aH → Nat → Int32 → Int32 → Int32 → Int32 → Int32 → Option (Int32 × aH)} (hk18 : ∀ (h : aH) (a0 : Nat) (x1 : Int32) (x2 : Int32) (x3 : Int32) (x4 : Int32) (x5 : Int32), AO eI 2 kX12_alikeAt 18 [some (.ref a0), some (.int x1), some (.int x2), some (.int x3), some (.int x4), some (.int x5)] [] h (k18 h a0 x1 x2 x3 x4 x5)) (h : aH) (a0 : Nat) (x1 : Int32) (x2 : Int32) (x3 : Int32) (x4 : Int32) (x5 : Int32) : AO eI 2 kX12_alikeAt 18 [some (.ref a0), some (.int x1), some (.int x2), some (.int x3), some (.int x4), some (.int x5)] [] h (b_X12_alikeAt_18 k4 k18 h a0 x1 x2 x3 x4 x5) := by
  unfold b_X12_alikeAt_18
  refine ao_s (st_iload dX12_alikeAt_18 rfl) ?_
  refine ao_s (st_aload_n dX12_alikeAt_20 rfl rfl) ?_
  refine ao_chk (fun e21 => ?_)
  refine ao_getI dX12_alikeAt_21 fl_X12_270 rfl e21 ?_
  refine ao_br (br_icmp_gt (tgt := 86) dX12_alikeAt_24 (by decide)) (fun c35 => ?_) (fun c35 => ?_)
  · exact ao_w (sb_s (sb_s (sb_s (sb_s (sb_s (sb_n sb_0)))))) (t_X12_alikeAt_86 hk4 h a0 x1 x2 x3 x4)
  · refine ao_s (st_aload_n dX12_alikeAt_27 rfl rfl) ?_
    refine ao_getR dX12_alikeAt_28 fl_X12_71 rfl e21 (fun b22 => ?_)
    refine ao_s (st_iload_n dX12_alikeAt_31 rfl rfl) ?_
    refine ao_chk (fun e23 => ?_)
    refine ao_zald dX12_alikeAt_32 e23 ?_
    refine ao_br (br_if_eq (tgt := 86) dX12_alikeAt_33 (by decide)) (fun c34 => ?_) (fun c34 => ?_)
    · exact ao_w (sb_s (sb_s (sb_s (sb_s (sb_s (sb_n sb_0)))))) (t_X12_alikeAt_86 hk4 h a0 x1 x2 x3 x4)
    · refine ao_s (st_iload dX12_alikeAt_36 rfl) ?_
      refine ao_s (st_aload_n dX12_alikeAt_38 rfl rfl) ?_
      refine ao_getR dX12_alikeAt_39 fl_X12_71 rfl e21 (fun b24 => ?_)
      refine ao_s (st_iload dX12_alikeAt_42 rfl) ?_
      refine ao_chk (fun e25 => ?_)
      refine ao_zald dX12_alikeAt_44 e25 ?_
      refine ao_br (br_if_eq (tgt := 76) dX12_alikeAt_45 (by decide)) (fun c33 => ?_) (fun c33 => ?_)
      · exact ao_w (sb_s (sb_s (sb_s (sb_s (sb_n (sb_s sb_0)))))) (t_X12_alikeAt_76 hk18 h a0 x1 x2 x3 x5 x4)
      · refine ao_s (st_aload_n dX12_alikeAt_48 rfl rfl) ?_
        refine ao_getR dX12_alikeAt_49 fl_X12_74 rfl e21 (fun b26 => ?_)
        refine ao_s (st_iconst dX12_alikeAt_52 ic_4) ?_
        refine ao_s (st_iload_n dX12_alikeAt_53 rfl rfl) ?_
        refine ao_s (st_imul dX12_alikeAt_54) ?_
        refine ao_s (st_iload_n dX12_alikeAt_55 rfl rfl) ?_
        refine ao_s (st_iadd dX12_alikeAt_56) ?_
        refine ao_letI (fun x27 => ?_)
        refine ao_chk (fun e28 => ?_)
        refine ao_iald dX12_alikeAt_57 e28 ?_
        refine ao_s (st_aload_n dX12_alikeAt_58 rfl rfl) ?_
        refine ao_getR dX12_alikeAt_59 fl_X12_74 rfl e21 (fun b29 => ?_)
        refine ao_s (st_iconst dX12_alikeAt_62 ic_4) ?_
        refine ao_s (st_iload dX12_alikeAt_63 rfl) ?_
        refine ao_s (st_imul dX12_alikeAt_65) ?_
        refine ao_s (st_iload_n dX12_alikeAt_66 rfl rfl) ?_
        refine ao_s (st_iadd dX12_alikeAt_67) ?_
        refine ao_letI (fun x30 => ?_)
        refine ao_chk (fun e31 => ?_)
        refine ao_iald dX12_alikeAt_68 e31 ?_
        refine ao_br (br_icmp_ne (tgt := 76) dX12_alikeAt_69 (by decide)) (fun c32 => ?_) (fun c32 => ?_)
        · refine ao_s (st_iconst dX12_alikeAt_72 ic_1) ?_
          refine ao_s (st_goto 77 dX12_alikeAt_73 (by decide)) ?_
          exact ao_w (sb_s (sb_s (sb_s (sb_s (sb_n (sb_s sb_0)))))) (t_X12_alikeAt_77 hk18 h a0 x1 x2 x3 x5 1 x4)
        · exact ao_w (sb_s (sb_s (sb_s (sb_s (sb_n (sb_s sb_0)))))) (t_X12_alikeAt_76 hk18 h a0 x1 x2 x3 x5 x4)
def f_X12_alikeAt_18 (k4 : aH → Nat → Int32 → Int32 → Int32 → Option (Int32 × aH)) (n : Nat) : aH → Nat → Int32 → Int32 → Int32 → Int32 → Int32 → Option (Int32 × aH) := aIt (fun _ _ _ _ _ _ _ => none) (fun k => b_X12_alikeAt_18 k4 k) n
theorem l_X12_alikeAt_18 {k4 : aH → Nat → Int32 → Int32 → Int32 → Option (Int32 × aH)} (hk4 : ∀ (h : aH) (a0 : Nat) (x1 : Int32) (x2 : Int32) (x3 : Int32), AO eI 2 kX12_alikeAt 4 [some (.ref a0), some (.int x1), some (.int x2), some (.int x3), none, none] [] h (k4 h a0 x1 x2 x3)) (n : Nat) : ∀ (h : aH) (a0 : Nat) (x1 : Int32) (x2 : Int32) (x3 : Int32) (x4 : Int32) (x5 : Int32), AO eI 2 kX12_alikeAt 18 [some (.ref a0), some (.int x1), some (.int x2), some (.int x3), some (.int x4), some (.int x5)] [] h (f_X12_alikeAt_18 k4 n h a0 x1 x2 x3 x4 x5) := by
  induction n with
  | zero => intros; exact ao_none
  | succ n ih =>
    intro h a0 x1 x2 x3 x4 x5
    exact t_X12_alikeAt_18 hk4 ih h a0 x1 x2 x3 x4 x5
def b_X12_alikeAt_4 (k4 : aH → Nat → Int32 → Int32 → Int32 → Option (Int32 × aH)) (h : aH) (a0 : Nat) (x1 : Int32) (x2 : Int32) (x3 : Int32) : Option (Int32 × aH) :=
(if (sh a0).1 = 19 then
(if hI h a0 2 < x3 then
some (x2, h)
else
f_X12_alikeAt_18 k4 2000 h a0 x1 x2 x3 0 0)
else none)
set_option maxHeartbeats 2000000 in
theorem t_X12_alikeAt_4 {k4 : aH → Nat → Int32 → Int32 → Int32 → Option (Int32 × aH)} (hk4 : ∀ (h : aH) (a0 : Nat) (x1 : Int32) (x2 : Int32) (x3 : Int32), AO eI 2 kX12_alikeAt 4 [some (.ref a0), some (.int x1), some (.int x2), some (.int x3), none, none] [] h (k4 h a0 x1 x2 x3)) (h : aH) (a0 : Nat) (x1 : Int32) (x2 : Int32) (x3 : Int32) : AO eI 2 kX12_alikeAt 4 [some (.ref a0), some (.int x1), some (.int x2), some (.int x3), none, none] [] h (b_X12_alikeAt_4 k4 h a0 x1 x2 x3) := by
  unfold b_X12_alikeAt_4
  refine ao_s (st_iload_n dX12_alikeAt_4 rfl rfl) ?_
  refine ao_s (st_aload_n dX12_alikeAt_5 rfl rfl) ?_
  refine ao_chk (fun e21 => ?_)
  refine ao_getI dX12_alikeAt_6 fl_X12_270 rfl e21 ?_
  refine ao_br (br_icmp_gt (tgt := 105) dX12_alikeAt_9 (by decide)) (fun c22 => ?_) (fun c22 => ?_)
  · refine ao_s (st_iload_n dX12_alikeAt_105 rfl rfl) ?_
    exact ao_ir dX12_alikeAt_106 rfl rfl
  · refine ao_s (st_iconst dX12_alikeAt_12 ic_0) ?_
    refine ao_s (st_istore (lv' := [some (.ref a0), some (.int x1), some (.int x2), some (.int x3), some (.int 0), none]) dX12_alikeAt_13 (by decide) rfl) ?_
    refine ao_s (st_iconst dX12_alikeAt_15 ic_0) ?_
    refine ao_s (st_istore (lv' := [some (.ref a0), some (.int x1), some (.int x2), some (.int x3), some (.int 0), some (.int 0)]) dX12_alikeAt_16 (by decide) rfl) ?_
    exact ao_w (sb_s (sb_s (sb_s (sb_s (sb_s (sb_s sb_0)))))) (l_X12_alikeAt_18 hk4 2000 h a0 x1 x2 x3 0 0)
def f_X12_alikeAt_4 (n : Nat) : aH → Nat → Int32 → Int32 → Int32 → Option (Int32 × aH) := aIt (fun _ _ _ _ _ => none) (fun k => b_X12_alikeAt_4 k) n
theorem l_X12_alikeAt_4 (n : Nat) : ∀ (h : aH) (a0 : Nat) (x1 : Int32) (x2 : Int32) (x3 : Int32), AO eI 2 kX12_alikeAt 4 [some (.ref a0), some (.int x1), some (.int x2), some (.int x3), none, none] [] h (f_X12_alikeAt_4 n h a0 x1 x2 x3) := by
  induction n with
  | zero => intros; exact ao_none
  | succ n ih =>
    intro h a0 x1 x2 x3
    exact t_X12_alikeAt_4 ih h a0 x1 x2 x3
def f_X12_alikeAt (h : aH) (a0 : Nat) (x1 : Int32) : Option (Int32 × aH) :=
f_X12_alikeAt_4 2000 h a0 x1 0 0
set_option maxHeartbeats 2000000 in
theorem s_X12_alikeAt (h : aH) (a0 : Nat) (x1 : Int32) : SO eI 2 kX12_alikeAt [.ref a0, .int x1] h (f_X12_alikeAt h a0 x1) := by
  refine so_of (lv0 := [some (.ref a0), some (.int x1), none, none, none, none]) pn_X12 (Nat.le_of_ble_eq_true rfl) rfl ?_
  unfold f_X12_alikeAt
  refine ao_s (st_iconst dX12_alikeAt_0 ic_0) ?_
  refine ao_s (st_istore_n (lv' := [some (.ref a0), some (.int x1), some (.int 0), none, none, none]) dX12_alikeAt_1 rfl (by decide) rfl) ?_
  refine ao_s (st_iconst dX12_alikeAt_2 ic_0) ?_
  refine ao_s (st_istore_n (lv' := [some (.ref a0), some (.int x1), some (.int 0), some (.int 0), none, none]) dX12_alikeAt_3 rfl (by decide) rfl) ?_
  exact ao_w (sb_s (sb_s (sb_s (sb_s (sb_n (sb_n sb_0)))))) (l_X12_alikeAt_4 2000 h a0 x1 0 0)
def b_X12_look_91 (k46 : aH → Nat → Int32 → Int32 → Int32 → Int32 → Option (Int32 × aH)) (h : aH) (a0 : Nat) (x2 : Int32) (x3 : Int32) (x4 : Int32) (x5 : Int32) : Option (Int32 × aH) :=
k46 h a0 x2 x3 x4 (x5 + 1)
set_option maxHeartbeats 2000000 in
theorem t_X12_look_91 {k46 : aH → Nat → Int32 → Int32 → Int32 → Int32 → Option (Int32 × aH)} (hk46 : ∀ (h : aH) (a0 : Nat) (x2 : Int32) (x3 : Int32) (x4 : Int32) (x5 : Int32), AO eI 10 kX12_look 46 [some (.ref a0), none, some (.int x2), some (.int x3), some (.int x4), some (.int x5), none] [] h (k46 h a0 x2 x3 x4 x5)) (h : aH) (a0 : Nat) (x2 : Int32) (x3 : Int32) (x4 : Int32) (x5 : Int32) : AO eI 10 kX12_look 91 [some (.ref a0), none, some (.int x2), some (.int x3), some (.int x4), some (.int x5), none] [] h (b_X12_look_91 k46 h a0 x2 x3 x4 x5) := by
  unfold b_X12_look_91
  refine ao_s (st_iinc (lv' := [some (.ref a0), none, some (.int x2), some (.int x3), some (.int x4), some (.int (x5 + 1)), none]) dX12_look_91 rfl nc_1 (by decide) rfl) ?_
  refine ao_s (st_goto 46 dX12_look_94 (by decide)) ?_
  exact ao_w (sb_s (sb_n (sb_s (sb_s (sb_s (sb_s (sb_n sb_0))))))) (hk46 h a0 x2 x3 x4 (x5 + 1))
def b_X12_look_84 (k46 : aH → Nat → Int32 → Int32 → Int32 → Int32 → Option (Int32 × aH)) (h : aH) (a0 : Nat) (x2 : Int32) (x5 : Int32) (x6 : Int32) : Option (Int32 × aH) :=
b_X12_look_91 k46 h a0 x2 x5 x6 x5
set_option maxHeartbeats 2000000 in
theorem t_X12_look_84 {k46 : aH → Nat → Int32 → Int32 → Int32 → Int32 → Option (Int32 × aH)} (hk46 : ∀ (h : aH) (a0 : Nat) (x2 : Int32) (x3 : Int32) (x4 : Int32) (x5 : Int32), AO eI 10 kX12_look 46 [some (.ref a0), none, some (.int x2), some (.int x3), some (.int x4), some (.int x5), none] [] h (k46 h a0 x2 x3 x4 x5)) (h : aH) (a0 : Nat) (x2 : Int32) (x5 : Int32) (x6 : Int32) : AO eI 10 kX12_look 84 [some (.ref a0), none, some (.int x2), none, none, some (.int x5), some (.int x6)] [] h (b_X12_look_84 k46 h a0 x2 x5 x6) := by
  unfold b_X12_look_84
  refine ao_s (st_iload dX12_look_84 rfl) ?_
  refine ao_s (st_istore_n (lv' := [some (.ref a0), none, some (.int x2), some (.int x5), none, some (.int x5), some (.int x6)]) dX12_look_86 rfl (by decide) rfl) ?_
  refine ao_s (st_iload dX12_look_87 rfl) ?_
  refine ao_s (st_istore (lv' := [some (.ref a0), none, some (.int x2), some (.int x5), some (.int x6), some (.int x5), some (.int x6)]) dX12_look_89 (by decide) rfl) ?_
  exact ao_w (sb_s (sb_n (sb_s (sb_s (sb_s (sb_s (sb_n sb_0))))))) (t_X12_look_91 hk46 h a0 x2 x5 x6 x5)
def b_X12_look_46 (k46 : aH → Nat → Int32 → Int32 → Int32 → Int32 → Option (Int32 × aH)) (h : aH) (a0 : Nat) (x2 : Int32) (x3 : Int32) (x4 : Int32) (x5 : Int32) : Option (Int32 × aH) :=
(if (sh a0).1 = 19 then
((hR h a0 20).bind fun b22 =>
(if (sh b22).1 = 0 then
(if aIn 3 (sh b22).2 then
(if hI h b22 (3 : Int32).toNatClampNeg ≤ x5 then
(if x2 = 0 then
some (x3, h)
else
some (x4, h))
else
(aBind (f_X12_alikeAt h a0 x5) fun r25 h26 =>
(if r25 = 0 then
b_X12_look_91 k46 h26 a0 x2 x3 x4 x5
else
(if x3 < 0 then
b_X12_look_84 k46 h26 a0 x2 x5 r25
else
(if r25 < x4 then
b_X12_look_84 k46 h26 a0 x2 x5 r25
else
b_X12_look_91 k46 h26 a0 x2 x3 x4 x5)))))
else none)
else none))
else none)
set_option maxHeartbeats 2000000 in
theorem t_X12_look_46 {k46 : aH → Nat → Int32 → Int32 → Int32 → Int32 → Option (Int32 × aH)} (hk46 : ∀ (h : aH) (a0 : Nat) (x2 : Int32) (x3 : Int32) (x4 : Int32) (x5 : Int32), AO eI 10 kX12_look 46 [some (.ref a0), none, some (.int x2), some (.int x3), some (.int x4), some (.int x5), none] [] h (k46 h a0 x2 x3 x4 x5)) (h : aH) (a0 : Nat) (x2 : Int32) (x3 : Int32) (x4 : Int32) (x5 : Int32) : AO eI 10 kX12_look 46 [some (.ref a0), none, some (.int x2), some (.int x3), some (.int x4), some (.int x5), none] [] h (b_X12_look_46 k46 h a0 x2 x3 x4 x5) := by
  unfold b_X12_look_46
  refine ao_s (st_iload dX12_look_46 rfl) ?_
  refine ao_s (st_aload_n dX12_look_48 rfl rfl) ?_
  refine ao_chk (fun e21 => ?_)
  refine ao_getR dX12_look_49 fl_X12_39 rfl e21 (fun b22 => ?_)
  refine ao_s (st_iconst dX12_look_52 ic_3) ?_
  refine ao_chk (fun e23 => ?_)
  refine ao_iald dX12_look_53 e23 ?_
  refine ao_br (br_icmp_ge (tgt := 97) dX12_look_54 (by decide)) (fun c30 => ?_) (fun c30 => ?_)
  · refine ao_s (st_iload_n dX12_look_97 rfl rfl) ?_
    refine ao_br (br_if_ne (tgt := 105) dX12_look_98 (by decide)) (fun c24 => ?_) (fun c24 => ?_)
    · refine ao_s (st_iload_n dX12_look_101 rfl rfl) ?_
      refine ao_s (st_goto 107 dX12_look_102 (by decide)) ?_
      exact ao_ir dX12_look_107 rfl rfl
    · refine ao_s (st_iload dX12_look_105 rfl) ?_
      exact ao_ir dX12_look_107 rfl rfl
  · refine ao_s (st_aload_n dX12_look_57 rfl rfl) ?_
    refine ao_s (st_iload dX12_look_58 rfl) ?_
    refine ao_cVi (Kc := kX12_alikeAt) (As := [.int x5]) (st := []) dX12_look_60 ml_X12_440 mv_X12_alikeAt rfl e21 (by decide) rfl rfl (Nat.le_of_ble_eq_true rfl) (by decide) (s_X12_alikeAt h a0 x5) (fun r25 h26 => ?_)
    refine ao_s (st_istore (lv' := [some (.ref a0), none, some (.int x2), some (.int x3), some (.int x4), some (.int x5), some (.int r25)]) dX12_look_63 (by decide) rfl) ?_
    refine ao_s (st_iload dX12_look_65 rfl) ?_
    refine ao_br (br_if_eq (tgt := 91) dX12_look_67 (by decide)) (fun c29 => ?_) (fun c29 => ?_)
    · exact ao_w (sb_s (sb_n (sb_s (sb_s (sb_s (sb_s (sb_n sb_0))))))) (t_X12_look_91 hk46 h26 a0 x2 x3 x4 x5)
    · refine ao_s (st_iload_n dX12_look_70 rfl rfl) ?_
      refine ao_br (br_if_lt (tgt := 84) dX12_look_71 (by decide)) (fun c28 => ?_) (fun c28 => ?_)
      · exact ao_w (sb_s (sb_n (sb_s (sb_n (sb_n (sb_s (sb_s sb_0))))))) (t_X12_look_84 hk46 h26 a0 x2 x5 r25)
      · refine ao_s (st_iload dX12_look_74 rfl) ?_
        refine ao_s (st_iload dX12_look_76 rfl) ?_
        refine ao_br (br_icmp_lt (tgt := 84) dX12_look_78 (by decide)) (fun c27 => ?_) (fun c27 => ?_)
        · exact ao_w (sb_s (sb_n (sb_s (sb_n (sb_n (sb_s (sb_s sb_0))))))) (t_X12_look_84 hk46 h26 a0 x2 x5 r25)
        · refine ao_s (st_goto 91 dX12_look_81 (by decide)) ?_
          exact ao_w (sb_s (sb_n (sb_s (sb_s (sb_s (sb_s (sb_n sb_0))))))) (t_X12_look_91 hk46 h26 a0 x2 x3 x4 x5)
def f_X12_look_46 (n : Nat) : aH → Nat → Int32 → Int32 → Int32 → Int32 → Option (Int32 × aH) := aIt (fun _ _ _ _ _ _ => none) (fun k => b_X12_look_46 k) n
theorem l_X12_look_46 (n : Nat) : ∀ (h : aH) (a0 : Nat) (x2 : Int32) (x3 : Int32) (x4 : Int32) (x5 : Int32), AO eI 10 kX12_look 46 [some (.ref a0), none, some (.int x2), some (.int x3), some (.int x4), some (.int x5), none] [] h (f_X12_look_46 n h a0 x2 x3 x4 x5) := by
  induction n with
  | zero => intros; exact ao_none
  | succ n ih =>
    intro h a0 x2 x3 x4 x5
    exact t_X12_look_46 ih h a0 x2 x3 x4 x5
def f_X12_look (h : aH) (a0 : Nat) (x1 : Int32) (x2 : Int32) : Option (Int32 × aH) :=
(if (sh a0).1 = 19 then
(aBind (f_X12_isIsle h a0) fun r22 h23 =>
(if r22 = 0 then
some ((-1), h23)
else
(aBind (f_X12_in h23 x1.toInt64 0 30) fun r24 h25 =>
(if r24 = 0 then
some ((-1), h25)
else
(aBind (f_X12_in h25 x2.toInt64 0 1) fun r26 h27 =>
(if r26 = 0 then
some ((-1), h27)
else
(aBind (f_X12_fillsFits h27 a0 x1) fun r28 h29 =>
f_X12_look_46 2000 h29 a0 x2 (-2) (-2) 0)))))))
else none)
set_option maxHeartbeats 2000000 in
theorem s_X12_look (h : aH) (a0 : Nat) (x1 : Int32) (x2 : Int32) : SO eI 10 kX12_look [.ref a0, .int x1, .int x2] h (f_X12_look h a0 x1 x2) := by
  refine so_of (lv0 := [some (.ref a0), some (.int x1), some (.int x2), none, none, none, none]) pn_X12 (Nat.le_of_ble_eq_true rfl) rfl ?_
  unfold f_X12_look
  refine ao_s (st_aload_n dX12_look_0 rfl rfl) ?_
  refine ao_chk (fun e21 => ?_)
  refine ao_cVi (Kc := kX12_isIsle) (As := []) (st := []) dX12_look_1 ml_X12_368 mv_X12_isIsle rfl e21 (by decide) rfl rfl (Nat.le_of_ble_eq_true rfl) (by decide) (s_X12_isIsle h a0) (fun r22 h23 => ?_)
  refine ao_br (br_if_eq (tgt := 29) dX12_look_4 (by decide)) (fun c32 => ?_) (fun c32 => ?_)
  · refine ao_s (st_iconst dX12_look_29 ic_m1) ?_
    exact ao_ir dX12_look_30 rfl rfl
  · refine ao_s (st_iload_n dX12_look_7 rfl rfl) ?_
    refine ao_s (st_i2l dX12_look_8) ?_
    refine ao_s (st_lconst dX12_look_9 lc_0) ?_
    refine ao_s (st_ldc2 dX12_look_10 cl_X12_417) ?_
    refine ao_cSi (Kc := kX12_in) (As := [.long x1.toInt64, .long 0, .long 30]) (st := []) dX12_look_13 ml_X12_127 ms_X12_in rfl rfl (Nat.le_of_ble_eq_true rfl) (by decide) (s_X12_in h23 x1.toInt64 0 30) (fun r24 h25 => ?_)
    refine ao_br (br_if_eq (tgt := 29) dX12_look_16 (by decide)) (fun c31 => ?_) (fun c31 => ?_)
    · refine ao_s (st_iconst dX12_look_29 ic_m1) ?_
      exact ao_ir dX12_look_30 rfl rfl
    · refine ao_s (st_iload_n dX12_look_19 rfl rfl) ?_
      refine ao_s (st_i2l dX12_look_20) ?_
      refine ao_s (st_lconst dX12_look_21 lc_0) ?_
      refine ao_s (st_lconst dX12_look_22 lc_1) ?_
      refine ao_cSi (Kc := kX12_in) (As := [.long x2.toInt64, .long 0, .long 1]) (st := []) dX12_look_23 ml_X12_127 ms_X12_in rfl rfl (Nat.le_of_ble_eq_true rfl) (by decide) (s_X12_in h25 x2.toInt64 0 1) (fun r26 h27 => ?_)
      refine ao_br (br_if_ne (tgt := 31) dX12_look_26 (by decide)) (fun c30 => ?_) (fun c30 => ?_)
      · refine ao_s (st_iconst dX12_look_29 ic_m1) ?_
        exact ao_ir dX12_look_30 rfl rfl
      · refine ao_s (st_aload_n dX12_look_31 rfl rfl) ?_
        refine ao_s (st_iload_n dX12_look_32 rfl rfl) ?_
        refine ao_cVv (Kc := kX12_fillsFits) (As := [.int x1]) (st := []) dX12_look_33 ml_X12_435 mv_X12_fillsFits rfl e21 (by decide) rfl rfl (Nat.le_of_ble_eq_true rfl) (by decide) (s_X12_fillsFits h27 a0 x1) (fun r28 h29 => ?_)
        refine ao_s (st_bipush dX12_look_36 bp_m2) ?_
        refine ao_s (st_istore_n (lv' := [some (.ref a0), some (.int x1), some (.int x2), some (.int (-2)), none, none, none]) dX12_look_38 rfl (by decide) rfl) ?_
        refine ao_s (st_bipush dX12_look_39 bp_m2) ?_
        refine ao_s (st_istore (lv' := [some (.ref a0), some (.int x1), some (.int x2), some (.int (-2)), some (.int (-2)), none, none]) dX12_look_41 (by decide) rfl) ?_
        refine ao_s (st_iconst dX12_look_43 ic_0) ?_
        refine ao_s (st_istore (lv' := [some (.ref a0), some (.int x1), some (.int x2), some (.int (-2)), some (.int (-2)), some (.int 0), none]) dX12_look_44 (by decide) rfl) ?_
        exact ao_w (sb_s (sb_n (sb_s (sb_s (sb_s (sb_s (sb_n sb_0))))))) (l_X12_look_46 2000 h29 a0 x2 (-2) (-2) 0)
def f_X12_seed (h : aH) (a0 : Nat) (x1 : Int32) : Option (Int32 × aH) :=
(if 0 ≤ x1 then
(if (sh a0).1 = 19 then
(aLet (hI h a0 22) fun x22 =>
(aLet (pI h a0 22 x1) fun h23 =>
some (x22, h23)))
else none)
else
some ((-1), h))
set_option maxHeartbeats 2000000 in
theorem s_X12_seed (h : aH) (a0 : Nat) (x1 : Int32) : SO eI 2 kX12_seed [.ref a0, .int x1] h (f_X12_seed h a0 x1) := by
  refine so_of (lv0 := [some (.ref a0), some (.int x1), none]) pn_X12 (Nat.le_of_ble_eq_true rfl) rfl ?_
  unfold f_X12_seed
  refine ao_s (st_iload_n dX12_seed_0 rfl rfl) ?_
  refine ao_br (br_if_ge (tgt := 6) dX12_seed_1 (by decide)) (fun c24 => ?_) (fun c24 => ?_)
  · refine ao_s (st_aload_n dX12_seed_6 rfl rfl) ?_
    refine ao_chk (fun e21 => ?_)
    refine ao_getI dX12_seed_7 fl_X12_443 rfl e21 ?_
    refine ao_letI (fun x22 => ?_)
    refine ao_s (st_istore_n (lv' := [some (.ref a0), some (.int x1), some (.int x22)]) dX12_seed_10 rfl (by decide) rfl) ?_
    refine ao_s (st_aload_n dX12_seed_11 rfl rfl) ?_
    refine ao_s (st_iload_n dX12_seed_12 rfl rfl) ?_
    refine ao_putI dX12_seed_13 fl_X12_443 rfl rfl rfl rfl e21 ?_
    refine ao_letH (fun h23 => ?_)
    refine ao_s (st_iload_n dX12_seed_16 rfl rfl) ?_
    exact ao_ir dX12_seed_17 rfl rfl
  · refine ao_s (st_iconst dX12_seed_4 ic_m1) ?_
    exact ao_ir dX12_seed_5 rfl rfl
def f_X12_draw (h : aH) (a0 : Nat) (x1 : Int32) : Option (Int32 × aH) :=
(if (sh a0).1 = 19 then
(aLet (pL h a0 35 ((((hL h a0 35) * 1103515245) + 12345) - (((hL h a0 35) * 1103515245) + 12345) / 2147483648 * 2147483648)) fun h22 =>
(if x1.toInt64 = 0 then none else
some ((((hL h22 a0 35) / 65536) - ((hL h22 a0 35) / 65536) / x1.toInt64 * x1.toInt64).toInt32, h22)))
else none)
set_option maxHeartbeats 2000000 in
theorem s_X12_draw (h : aH) (a0 : Nat) (x1 : Int32) : SO eI 2 kX12_draw [.ref a0, .int x1] h (f_X12_draw h a0 x1) := by
  refine so_of (lv0 := [some (.ref a0), some (.int x1)]) pn_X12 (Nat.le_of_ble_eq_true rfl) rfl ?_
  unfold f_X12_draw
  refine ao_s (st_aload_n dX12_draw_0 rfl rfl) ?_
  refine ao_s (st_aload_n dX12_draw_1 rfl rfl) ?_
  refine ao_chk (fun e21 => ?_)
  refine ao_getL dX12_draw_2 fl_X12_446 rfl e21 ?_
  refine ao_s (st_ldc2 dX12_draw_5 cl_X12_450) ?_
  refine ao_s (st_lmul dX12_draw_8) ?_
  refine ao_s (st_ldc2 dX12_draw_9 cl_X12_452) ?_
  refine ao_s (st_ladd dX12_draw_12) ?_
  refine ao_s (st_ldc2 dX12_draw_13 cl_X12_454) ?_
  refine ao_s (st_lrem dX12_draw_16 (by decide)) ?_
  refine ao_putL dX12_draw_17 fl_X12_446 rfl rfl rfl rfl e21 ?_
  refine ao_letH (fun h22 => ?_)
  refine ao_s (st_aload_n dX12_draw_20 rfl rfl) ?_
  refine ao_getL dX12_draw_21 fl_X12_446 rfl e21 ?_
  refine ao_s (st_ldc2 dX12_draw_24 cl_X12_456) ?_
  refine ao_s (st_ldiv dX12_draw_27 (by decide)) ?_
  refine ao_s (st_iload_n dX12_draw_28 rfl rfl) ?_
  refine ao_s (st_i2l dX12_draw_29) ?_
  refine ao_ite (fun _ => ao_none) (fun c23 => ?_)
  refine ao_s (st_lrem dX12_draw_30 c23) ?_
  refine ao_s (st_l2i dX12_draw_31) ?_
  exact ao_ir dX12_draw_32 rfl rfl
