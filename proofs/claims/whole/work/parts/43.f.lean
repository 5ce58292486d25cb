def b_X12_isRow_106 (k31 : aH → Nat → Int32 → Int32 → Option (Int32 × aH)) (h : aH) (a0 : Nat) (x2 : Int32) (x3 : Int32) : Option (Int32 × aH) :=
k31 h a0 x2 (x3 + (-1))
set_option maxHeartbeats 2000000 in
theorem t_X12_isRow_106 {k31 : aH → Nat → Int32 → Int32 → Option (Int32 × aH)} (hk31 : ∀ (h : aH) (a0 : Nat) (x2 : Int32) (x3 : Int32), AO eI 6 kX12_isRow 31 [some (.ref a0), none, some (.int x2), some (.int x3), none] [] h (k31 h a0 x2 x3)) (h : aH) (a0 : Nat) (x2 : Int32) (x3 : Int32) : AO eI 6 kX12_isRow 106 [some (.ref a0), none, some (.int x2), some (.int x3), none] [] h (b_X12_isRow_106 k31 h a0 x2 x3) := by
  unfold b_X12_isRow_106
  refine ao_s (st_iinc (lv' := [some (.ref a0), none, some (.int x2), some (.int (x3 + (-1))), none]) dX12_isRow_106 rfl nc_m1 (by decide) rfl) ?_
  refine ao_s (st_goto 31 dX12_isRow_109 (by decide)) ?_
  exact ao_w (sb_s (sb_n (sb_s (sb_s (sb_n sb_0))))) (hk31 h a0 x2 (x3 + (-1)))
def b_X12_isRow_31 (k31 : aH → Nat → Int32 → Int32 → Option (Int32 × aH)) (h : aH) (a0 : Nat) (x2 : Int32) (x3 : Int32) : Option (Int32 × aH) :=
(if x3 < 0 then
some (1, h)
else
(if (sh a0).1 = 19 then
((hR h a0 20).bind fun b22 =>
(if (sh b22).1 = 0 then
(if aIn 4 (sh b22).2 then
(if (hI h b22 (4 : Int32).toNatClampNeg) + 1 = 0 then none else
(aLet ((x2 - x2 / ((hI h b22 (4 : Int32).toNatClampNeg) + 1) * ((hI h b22 (4 : Int32).toNatClampNeg) + 1)) - 1) fun x25 =>
((hR h a0 20).bind fun b26 =>
(if (sh b26).1 = 0 then
(if aIn 4 (sh b26).2 then
(if (hI h b26 (4 : Int32).toNatClampNeg) + 1 = 0 then none else
(aLet (x2 / ((hI h b26 (4 : Int32).toNatClampNeg) + 1)) fun x29 =>
((hR h a0 31).bind fun b30 =>
(if (sh b30).1 = 0 then
(if aIn x3 (sh b30).2 then
(aLet (pI h b30 x3.toNatClampNeg x25) fun h32 =>
(if 0 ≤ x25 then
(aBind (f_X12_canJoin h32 a0 x3 x25) fun r33 h34 =>
(if r33 = 0 then
some (0, h34)
else
((hR h34 a0 32).bind fun b35 =>
(if (sh b35).1 = 0 then
(if aIn x25 (sh b35).2 then
(if hI h34 b35 x25.toNatClampNeg < 0 then
((hR h34 a0 32).bind fun b37 =>
(if (sh b37).1 = 0 then
(if aIn x25 (sh b37).2 then
(aLet (pI h34 b37 x25.toNatClampNeg x3) fun h39 =>
b_X12_isRow_106 k31 h39 a0 x29 x3)
else none)
else none))
else
some (0, h34))
else none)
else none))))
else
b_X12_isRow_106 k31 h32 a0 x29 x3))
else none)
else none))))
else none)
else none))))
else none)
else none))
else none))
set_option maxHeartbeats 2000000 in
theorem t_X12_isRow_31 {k31 : aH → Nat → Int32 → Int32 → Option (Int32 × aH)} (hk31 : ∀ (h : aH) (a0 : Nat) (x2 : Int32) (x3 : Int32), AO eI 6 kX12_isRow 31 [some (.ref a0), none, some (.int x2), some (.int x3), none] [] h (k31 h a0 x2 x3)) (h : aH) (a0 : Nat) (x2 : Int32) (x3 : Int32) : AO eI 6 kX12_isRow 31 [some (.ref a0), none, some (.int x2), some (.int x3), none] [] h (b_X12_isRow_31 k31 h a0 x2 x3) := by
  unfold b_X12_isRow_31
  refine ao_s (st_iload_n dX12_isRow_31 rfl rfl) ?_
  refine ao_br (br_if_lt (tgt := 112) dX12_isRow_32 (by decide)) (fun c43 => ?_) (fun c43 => ?_)
  · refine ao_s (st_iconst dX12_isRow_112 ic_1) ?_
    exact ao_ir dX12_isRow_113 rfl (by decide)
  · refine ao_s (st_iload_n dX12_isRow_35 rfl rfl) ?_
    refine ao_s (st_aload_n dX12_isRow_36 rfl rfl) ?_
    refine ao_chk (fun e21 => ?_)
    refine ao_getR dX12_isRow_37 fl_X12_39 rfl e21 (fun b22 => ?_)
    refine ao_s (st_iconst dX12_isRow_40 ic_4) ?_
    refine ao_chk (fun e23 => ?_)
    refine ao_iald dX12_isRow_41 e23 ?_
    refine ao_s (st_iconst dX12_isRow_42 ic_1) ?_
    refine ao_s (st_iadd dX12_isRow_43) ?_
    refine ao_ite (fun _ => ao_none) (fun c24 => ?_)
    refine ao_s (st_irem dX12_isRow_44 c24) ?_
    refine ao_s (st_iconst dX12_isRow_45 ic_1) ?_
    refine ao_s (st_isub dX12_isRow_46) ?_
    refine ao_letI (fun x25 => ?_)
    refine ao_s (st_istore (lv' := [some (.ref a0), none, some (.int x2), some (.int x3), some (.int x25)]) dX12_isRow_47 (by decide) rfl) ?_
    refine ao_s (st_iload_n dX12_isRow_49 rfl rfl) ?_
    refine ao_s (st_aload_n dX12_isRow_50 rfl rfl) ?_
    refine ao_getR dX12_isRow_51 fl_X12_39 rfl e21 (fun b26 => ?_)
    refine ao_s (st_iconst dX12_isRow_54 ic_4) ?_
    refine ao_chk (fun e27 => ?_)
    refine ao_iald dX12_isRow_55 e27 ?_
    refine ao_s (st_iconst dX12_isRow_56 ic_1) ?_
    refine ao_s (st_iadd dX12_isRow_57) ?_
    refine ao_ite (fun _ => ao_none) (fun c28 => ?_)
    refine ao_s (st_idiv dX12_isRow_58 c28) ?_
    refine ao_letI (fun x29 => ?_)
    refine ao_s (st_istore_n (lv' := [some (.ref a0), none, some (.int x29), some (.int x3), some (.int x25)]) dX12_isRow_59 rfl (by decide) rfl) ?_
    refine ao_s (st_aload_n dX12_isRow_60 rfl rfl) ?_
    refine ao_getR dX12_isRow_61 fl_X12_65 rfl e21 (fun b30 => ?_)
    refine ao_s (st_iload_n dX12_isRow_64 rfl rfl) ?_
    refine ao_s (st_iload dX12_isRow_65 rfl) ?_
    refine ao_chk (fun e31 => ?_)
    refine ao_iast dX12_isRow_67 e31 ?_
    refine ao_letH (fun h32 => ?_)
    refine ao_s (st_iload dX12_isRow_68 rfl) ?_
    refine ao_br (br_if_ge (tgt := 76) dX12_isRow_70 (by decide)) (fun c42 => ?_) (fun c42 => ?_)
    · refine ao_s (st_aload_n dX12_isRow_76 rfl rfl) ?_
      refine ao_s (st_iload_n dX12_isRow_77 rfl rfl) ?_
      refine ao_s (st_iload dX12_isRow_78 rfl) ?_
      refine ao_cVi (Kc := kX12_canJoin) (As := [.int x3, .int x25]) (st := []) dX12_isRow_80 ml_X12_380 mv_X12_canJoin rfl e21 (by decide) rfl rfl (Nat.le_of_ble_eq_true rfl) (by decide) (s_X12_canJoin h32 a0 x3 x25) (fun r33 h34 => ?_)
      refine ao_br (br_if_eq (tgt := 96) dX12_isRow_83 (by decide)) (fun c41 => ?_) (fun c41 => ?_)
      · refine ao_s (st_iconst dX12_isRow_96 ic_0) ?_
        exact ao_ir dX12_isRow_97 rfl (by decide)
      · refine ao_s (st_aload_n dX12_isRow_86 rfl rfl) ?_
        refine ao_getR dX12_isRow_87 fl_X12_68 rfl e21 (fun b35 => ?_)
        refine ao_s (st_iload dX12_isRow_90 rfl) ?_
        refine ao_chk (fun e36 => ?_)
        refine ao_iald dX12_isRow_92 e36 ?_
        refine ao_br (br_if_lt (tgt := 98) dX12_isRow_93 (by decide)) (fun c40 => ?_) (fun c40 => ?_)
        · refine ao_s (st_aload_n dX12_isRow_98 rfl rfl) ?_
          refine ao_getR dX12_isRow_99 fl_X12_68 rfl e21 (fun b37 => ?_)
          refine ao_s (st_iload dX12_isRow_102 rfl) ?_
          refine ao_s (st_iload_n dX12_isRow_104 rfl rfl) ?_
          refine ao_chk (fun e38 => ?_)
          refine ao_iast dX12_isRow_105 e38 ?_
          refine ao_letH (fun h39 => ?_)
          exact ao_w (sb_s (sb_n (sb_s (sb_s (sb_n sb_0))))) (t_X12_isRow_106 hk31 h39 a0 x29 x3)
        · refine ao_s (st_iconst dX12_isRow_96 ic_0) ?_
          exact ao_ir dX12_isRow_97 rfl (by decide)
    · refine ao_s (st_goto 106 dX12_isRow_73 (by decide)) ?_
      exact ao_w (sb_s (sb_n (sb_s (sb_s (sb_n sb_0))))) (t_X12_isRow_106 hk31 h32 a0 x29 x3)
def f_X12_isRow_31 (n : Nat) : aH → Nat → Int32 → Int32 → Option (Int32 × aH) := aIt (fun _ _ _ _ => none) (fun k => b_X12_isRow_31 k) n
theorem l_X12_isRow_31 (n : Nat) : ∀ (h : aH) (a0 : Nat) (x2 : Int32) (x3 : Int32), AO eI 6 kX12_isRow 31 [some (.ref a0), none, some (.int x2), some (.int x3), none] [] h (f_X12_isRow_31 n h a0 x2 x3) := by
  induction n with
  | zero => intros; exact ao_none
  | succ n ih =>
    intro h a0 x2 x3
    exact t_X12_isRow_31 ih h a0 x2 x3
def b_X12_isRow_4 (k4 : aH → Nat → Int32 → Int32 → Option (Int32 × aH)) (h : aH) (a0 : Nat) (x2 : Int32) (x3 : Int32) : Option (Int32 × aH) :=
(if 4 ≤ x3 then
(if (sh a0).1 = 19 then
((hR h a0 20).bind fun b22 =>
(if (sh b22).1 = 0 then
(if aIn 3 (sh b22).2 then
(aLet ((hI h b22 (3 : Int32).toNatClampNeg) - 1) fun x24 =>
f_X12_isRow_31 2000 h a0 x2 x24)
else none)
else none))
else none)
else
(if (sh a0).1 = 19 then
((hR h a0 32).bind fun b26 =>
(if (sh b26).1 = 0 then
(if aIn x3 (sh b26).2 then
(aLet (pI h b26 x3.toNatClampNeg (-1)) fun h28 =>
k4 h28 a0 x2 (x3 + 1))
else none)
else none))
else none))
set_option maxHeartbeats 2000000 in
theorem t_X12_isRow_4 {k4 : aH → Nat → Int32 → Int32 → Option (Int32 × aH)} (hk4 : ∀ (h : aH) (a0 : Nat) (x2 : Int32) (x3 : Int32), AO eI 6 kX12_isRow 4 [some (.ref a0), none, some (.int x2), some (.int x3), none] [] h (k4 h a0 x2 x3)) (h : aH) (a0 : Nat) (x2 : Int32) (x3 : Int32) : AO eI 6 kX12_isRow 4 [some (.ref a0), none, some (.int x2), some (.int x3), none] [] h (b_X12_isRow_4 k4 h a0 x2 x3) := by
  unfold b_X12_isRow_4
  refine ao_s (st_iload_n dX12_isRow_4 rfl rfl) ?_
  refine ao_s (st_iconst dX12_isRow_5 ic_4) ?_
  refine ao_br (br_icmp_ge (tgt := 22) dX12_isRow_6 (by decide)) (fun c29 => ?_) (fun c29 => ?_)
  · refine ao_s (st_aload_n dX12_isRow_22 rfl rfl) ?_
    refine ao_chk (fun e21 => ?_)
    refine ao_getR dX12_isRow_23 fl_X12_39 rfl e21 (fun b22 => ?_)
    refine ao_s (st_iconst dX12_isRow_26 ic_3) ?_
    refine ao_chk (fun e23 => ?_)
    refine ao_iald dX12_isRow_27 e23 ?_
    refine ao_s (st_iconst dX12_isRow_28 ic_1) ?_
    refine ao_s (st_isub dX12_isRow_29) ?_
    refine ao_letI (fun x24 => ?_)
    refine ao_s (st_istore_n (lv' := [some (.ref a0), none, some (.int x2), some (.int x24), none]) dX12_isRow_30 rfl (by decide) rfl) ?_
    exact ao_w (sb_s (sb_n (sb_s (sb_s (sb_n sb_0))))) (l_X12_isRow_31 2000 h a0 x2 x24)
  · refine ao_s (st_aload_n dX12_isRow_9 rfl rfl) ?_
    refine ao_chk (fun e25 => ?_)
    refine ao_getR dX12_isRow_10 fl_X12_68 rfl e25 (fun b26 => ?_)
    refine ao_s (st_iload_n dX12_isRow_13 rfl rfl) ?_
    refine ao_s (st_iconst dX12_isRow_14 ic_m1) ?_
    refine ao_chk (fun e27 => ?_)
    refine ao_iast dX12_isRow_15 e27 ?_
    refine ao_letH (fun h28 => ?_)
    refine ao_s (st_iinc (lv' := [some (.ref a0), none, some (.int x2), some (.int (x3 + 1)), none]) dX12_isRow_16 rfl nc_1 (by decide) rfl) ?_
    refine ao_s (st_goto 4 dX12_isRow_19 (by decide)) ?_
    exact ao_w (sb_s (sb_n (sb_s (sb_s (sb_n sb_0))))) (hk4 h28 a0 x2 (x3 + 1))
def f_X12_isRow_4 (n : Nat) : aH → Nat → Int32 → Int32 → Option (Int32 × aH) := aIt (fun _ _ _ _ => none) (fun k => b_X12_isRow_4 k) n
theorem l_X12_isRow_4 (n : Nat) : ∀ (h : aH) (a0 : Nat) (x2 : Int32) (x3 : Int32), AO eI 6 kX12_isRow 4 [some (.ref a0), none, some (.int x2), some (.int x3), none] [] h (f_X12_isRow_4 n h a0 x2 x3) := by
  induction n with
  | zero => intros; exact ao_none
  | succ n ih =>
    intro h a0 x2 x3
    exact t_X12_isRow_4 ih h a0 x2 x3
def f_X12_isRow (h : aH) (a0 : Nat) (x1 : Int32) : Option (Int32 × aH) :=
f_X12_isRow_4 2000 h a0 x1 0
set_option maxHeartbeats 2000000 in
theorem s_X12_isRow (h : aH) (a0 : Nat) (x1 : Int32) : SO eI 6 kX12_isRow [.ref a0, .int x1] h (f_X12_isRow h a0 x1) := by
  refine so_of (lv0 := [some (.ref a0), some (.int x1), none, none, none]) pn_X12 (Nat.le_of_ble_eq_true rfl) rfl ?_
  unfold f_X12_isRow
  refine ao_s (st_iload_n dX12_isRow_0 rfl rfl) ?_
  refine ao_s (st_istore_n (lv' := [some (.ref a0), some (.int x1), some (.int x1), none, none]) dX12_isRow_1 rfl (by decide) rfl) ?_
  refine ao_s (st_iconst dX12_isRow_2 ic_0) ?_
  refine ao_s (st_istore_n (lv' := [some (.ref a0), some (.int x1), some (.int x1), some (.int 0), none]) dX12_isRow_3 rfl (by decide) rfl) ?_
  exact ao_w (sb_s (sb_n (sb_s (sb_s (sb_n sb_0))))) (l_X12_isRow_4 2000 h a0 x1 0)
def b_X12_wouldRather_47 (h : aH) (a0 : Nat) (x1 : Int32) (x2 : Int32) (s0 : Int32) : Option (Int32 × aH) :=
(if s0 = 0 then
some (0, h)
else
(if (sh a0).1 = 19 then
((hR h a0 32).bind fun b22 =>
(if (sh b22).1 = 0 then
(if aIn x2 (sh b22).2 then
(if hI h b22 x2.toNatClampNeg < 0 then
some (1, h)
else
(aBind (f_X12_likesOf h a0 1 x2 x1) fun r24 h25 =>
((hR h25 a0 32).bind fun b26 =>
(if (sh b26).1 = 0 then
(if aIn x2 (sh b26).2 then
(aBind (f_X12_likesOf h25 a0 1 x2 (hI h25 b26 x2.toNatClampNeg)) fun r28 h29 =>
(if r24 ≤ r28 then
some (0, h29)
else
some (1, h29)))
else none)
else none))))
else none)
else none))
else none))
set_option maxHeartbeats 2000000 in
theorem t_X12_wouldRather_47 (h : aH) (a0 : Nat) (x1 : Int32) (x2 : Int32) (s0 : Int32) : AO eI 6 kX12_wouldRather 47 [some (.ref a0), some (.int x1), some (.int x2), none] [.int s0] h (b_X12_wouldRather_47 h a0 x1 x2 s0) := by
  unfold b_X12_wouldRather_47
  refine ao_s (st_istore_n (lv' := [some (.ref a0), some (.int x1), some (.int x2), some (.int s0)]) dX12_wouldRather_47 rfl (by decide) rfl) ?_
  refine ao_s (st_iload_n dX12_wouldRather_48 rfl rfl) ?_
  refine ao_br (br_if_eq (tgt := 87) dX12_wouldRather_49 (by decide)) (fun c32 => ?_) (fun c32 => ?_)
  · refine ao_s (st_iconst dX12_wouldRather_87 ic_0) ?_
    exact ao_ir dX12_wouldRather_88 rfl (by decide)
  · refine ao_s (st_aload_n dX12_wouldRather_52 rfl rfl) ?_
    refine ao_chk (fun e21 => ?_)
    refine ao_getR dX12_wouldRather_53 fl_X12_68 rfl e21 (fun b22 => ?_)
    refine ao_s (st_iload_n dX12_wouldRather_56 rfl rfl) ?_
    refine ao_chk (fun e23 => ?_)
    refine ao_iald dX12_wouldRather_57 e23 ?_
    refine ao_br (br_if_lt (tgt := 83) dX12_wouldRather_58 (by decide)) (fun c31 => ?_) (fun c31 => ?_)
    · refine ao_s (st_iconst dX12_wouldRather_83 ic_1) ?_
      refine ao_s (st_goto 88 dX12_wouldRather_84 (by decide)) ?_
      exact ao_ir dX12_wouldRather_88 rfl (by decide)
    · refine ao_s (st_aload_n dX12_wouldRather_61 rfl rfl) ?_
      refine ao_s (st_iconst dX12_wouldRather_62 ic_1) ?_
      refine ao_s (st_iload_n dX12_wouldRather_63 rfl rfl) ?_
      refine ao_s (st_iload_n dX12_wouldRather_64 rfl rfl) ?_
      refine ao_cVi (Kc := kX12_likesOf) (As := [.int 1, .int x2, .int x1]) (st := []) dX12_wouldRather_65 ml_X12_305 mv_X12_likesOf rfl e21 (by decide) rfl rfl (Nat.le_of_ble_eq_true rfl) (by decide) (s_X12_likesOf h a0 1 x2 x1) (fun r24 h25 => ?_)
      refine ao_s (st_aload_n dX12_wouldRather_68 rfl rfl) ?_
      refine ao_s (st_iconst dX12_wouldRather_69 ic_1) ?_
      refine ao_s (st_iload_n dX12_wouldRather_70 rfl rfl) ?_
      refine ao_s (st_aload_n dX12_wouldRather_71 rfl rfl) ?_
      refine ao_getR dX12_wouldRather_72 fl_X12_68 rfl e21 (fun b26 => ?_)
      refine ao_s (st_iload_n dX12_wouldRather_75 rfl rfl) ?_
      refine ao_chk (fun e27 => ?_)
      refine ao_iald dX12_wouldRather_76 e27 ?_
      refine ao_cVi (Kc := kX12_likesOf) (As := [.int 1, .int x2, .int (hI h25 b26 x2.toNatClampNeg)]) (st := [.int r24]) dX12_wouldRather_77 ml_X12_305 mv_X12_likesOf rfl e21 (by decide) rfl rfl (Nat.le_of_ble_eq_true rfl) (by decide) (s_X12_likesOf h25 a0 1 x2 (hI h25 b26 x2.toNatClampNeg)) (fun r28 h29 => ?_)
      refine ao_br (br_icmp_le (tgt := 87) dX12_wouldRather_80 (by decide)) (fun c30 => ?_) (fun c30 => ?_)
      · refine ao_s (st_iconst dX12_wouldRather_87 ic_0) ?_
        exact ao_ir dX12_wouldRather_88 rfl (by decide)
      · refine ao_s (st_iconst dX12_wouldRather_83 ic_1) ?_
        refine ao_s (st_goto 88 dX12_wouldRather_84 (by decide)) ?_
        exact ao_ir dX12_wouldRather_88 rfl (by decide)
def b_X12_wouldRather_42 (h : aH) (a0 : Nat) (x1 : Int32) (x2 : Int32) : Option (Int32 × aH) :=
b_X12_wouldRather_47 h a0 x1 x2 1
set_option maxHeartbeats 2000000 in
theorem t_X12_wouldRather_42 (h : aH) (a0 : Nat) (x1 : Int32) (x2 : Int32) : AO eI 6 kX12_wouldRather 42 [some (.ref a0), some (.int x1), some (.int x2), none] [] h (b_X12_wouldRather_42 h a0 x1 x2) := by
  unfold b_X12_wouldRather_42
  refine ao_s (st_iconst dX12_wouldRather_42 ic_1) ?_
  refine ao_s (st_goto 47 dX12_wouldRather_43 (by decide)) ?_
  exact ao_w (sb_s (sb_s (sb_s (sb_n sb_0)))) (t_X12_wouldRather_47 h a0 x1 x2 1)
def f_X12_wouldRather (h : aH) (a0 : Nat) (x1 : Int32) (x2 : Int32) : Option (Int32 × aH) :=
(if (sh a0).1 = 19 then
(aBind (f_X12_canJoin h a0 x1 x2) fun r22 h23 =>
(if r22 = 0 then
some (0, h23)
else
((hR h23 a0 31).bind fun b24 =>
(if (sh b24).1 = 0 then
(if aIn x1 (sh b24).2 then
(if hI h23 b24 x1.toNatClampNeg < 0 then
b_X12_wouldRather_42 h23 a0 x1 x2
else
(aBind (f_X12_likesOf h23 a0 0 x1 x2) fun r26 h27 =>
((hR h27 a0 31).bind fun b28 =>
(if (sh b28).1 = 0 then
(if aIn x1 (sh b28).2 then
(aBind (f_X12_likesOf h27 a0 0 x1 (hI h27 b28 x1.toNatClampNeg)) fun r30 h31 =>
(if r26 ≤ r30 then
b_X12_wouldRather_47 h31 a0 x1 x2 0
else
b_X12_wouldRather_42 h31 a0 x1 x2))
else none)
else none))))
else none)
else none))))
else none)
set_option maxHeartbeats 2000000 in
theorem s_X12_wouldRather (h : aH) (a0 : Nat) (x1 : Int32) (x2 : Int32) : SO eI 6 kX12_wouldRather [.ref a0, .int x1, .int x2] h (f_X12_wouldRather h a0 x1 x2) := by
  refine so_of (lv0 := [some (.ref a0), some (.int x1), some (.int x2), none]) pn_X12 (Nat.le_of_ble_eq_true rfl) rfl ?_
  unfold f_X12_wouldRather
  refine ao_s (st_aload_n dX12_wouldRather_0 rfl rfl) ?_
  refine ao_s (st_iload_n dX12_wouldRather_1 rfl rfl) ?_
  refine ao_s (st_iload_n dX12_wouldRather_2 rfl rfl) ?_
  refine ao_chk (fun e21 => ?_)
  refine ao_cVi (Kc := kX12_canJoin) (As := [.int x1, .int x2]) (st := []) dX12_wouldRather_3 ml_X12_380 mv_X12_canJoin rfl e21 (by decide) rfl rfl (Nat.le_of_ble_eq_true rfl) (by decide) (s_X12_canJoin h a0 x1 x2) (fun r22 h23 => ?_)
  refine ao_br (br_if_ne (tgt := 11) dX12_wouldRather_6 (by decide)) (fun c34 => ?_) (fun c34 => ?_)
  · refine ao_s (st_iconst dX12_wouldRather_9 ic_0) ?_
    exact ao_ir dX12_wouldRather_10 rfl (by decide)
  · refine ao_s (st_aload_n dX12_wouldRather_11 rfl rfl) ?_
    refine ao_getR dX12_wouldRather_12 fl_X12_65 rfl e21 (fun b24 => ?_)
    refine ao_s (st_iload_n dX12_wouldRather_15 rfl rfl) ?_
    refine ao_chk (fun e25 => ?_)
    refine ao_iald dX12_wouldRather_16 e25 ?_
    refine ao_br (br_if_lt (tgt := 42) dX12_wouldRather_17 (by decide)) (fun c33 => ?_) (fun c33 => ?_)
    · exact ao_w (sb_s (sb_s (sb_s (sb_n sb_0)))) (t_X12_wouldRather_42 h23 a0 x1 x2)
    · refine ao_s (st_aload_n dX12_wouldRather_20 rfl rfl) ?_
      refine ao_s (st_iconst dX12_wouldRather_21 ic_0) ?_
      refine ao_s (st_iload_n dX12_wouldRather_22 rfl rfl) ?_
      refine ao_s (st_iload_n dX12_wouldRather_23 rfl rfl) ?_
      refine ao_cVi (Kc := kX12_likesOf) (As := [.int 0, .int x1, .int x2]) (st := []) dX12_wouldRather_24 ml_X12_305 mv_X12_likesOf rfl e21 (by decide) rfl rfl (Nat.le_of_ble_eq_true rfl) (by decide) (s_X12_likesOf h23 a0 0 x1 x2) (fun r26 h27 => ?_)
      refine ao_s (st_aload_n dX12_wouldRather_27 rfl rfl) ?_
      refine ao_s (st_iconst dX12_wouldRather_28 ic_0) ?_
      refine ao_s (st_iload_n dX12_wouldRather_29 rfl rfl) ?_
      refine ao_s (st_aload_n dX12_wouldRather_30 rfl rfl) ?_
      refine ao_getR dX12_wouldRather_31 fl_X12_65 rfl e21 (fun b28 => ?_)
      refine ao_s (st_iload_n dX12_wouldRather_34 rfl rfl) ?_
      refine ao_chk (fun e29 => ?_)
      refine ao_iald dX12_wouldRather_35 e29 ?_
      refine ao_cVi (Kc := kX12_likesOf) (As := [.int 0, .int x1, .int (hI h27 b28 x1.toNatClampNeg)]) (st := [.int r26]) dX12_wouldRather_36 ml_X12_305 mv_X12_likesOf rfl e21 (by decide) rfl rfl (Nat.le_of_ble_eq_true rfl) (by decide) (s_X12_likesOf h27 a0 0 x1 (hI h27 b28 x1.toNatClampNeg)) (fun r30 h31 => ?_)
      refine ao_br (br_icmp_le (tgt := 46) dX12_wouldRather_39 (by decide)) (fun c32 => ?_) (fun c32 => ?_)
      · refine ao_s (st_iconst dX12_wouldRather_46 ic_0) ?_
        exact ao_w (sb_s (sb_s (sb_s (sb_n sb_0)))) (t_X12_wouldRather_47 h31 a0 x1 x2 0)
      · exact ao_w (sb_s (sb_s (sb_s (sb_n sb_0)))) (t_X12_wouldRather_42 h31 a0 x1 x2)
def b_X12_isSettled_14 (k2 : aH → Nat → Int32 → Option (Int32 × aH)) (k14 : aH → Nat → Int32 → Int32 → Option (Int32 × aH)) (h : aH) (a0 : Nat) (x1 : Int32) (x2 : Int32) : Option (Int32 × aH) :=
(if (sh a0).1 = 19 then
((hR h a0 20).bind fun b22 =>
(if (sh b22).1 = 0 then
(if aIn 4 (sh b22).2 then
(if hI h b22 (4 : Int32).toNatClampNeg ≤ x2 then
k2 h a0 (x1 + 1)
else
(aBind (f_X12_wouldRather h a0 x1 x2) fun r24 h25 =>
(if r24 = 0 then
k14 h25 a0 x1 (x2 + 1)
else
some (0, h25))))
else none)
else none))
else none)
set_option maxHeartbeats 2000000 in
theorem t_X12_isSettled_14 {k2 : aH → Nat → Int32 → Option (Int32 × aH)} (hk2 : ∀ (h : aH) (a0 : Nat) (x1 : Int32), AO eI 7 kX12_isSettled 2 [some (.ref a0), some (.int x1), none] [] h (k2 h a0 x1)) {k14 : aH → Nat → Int32 → Int32 → Option (Int32 × aH)} (hk14 : ∀ (h : aH) (a0 : Nat) (x1 : Int32) (x2 : Int32), AO eI 7 kX12_isSettled 14 [some (.ref a0), some (.int x1), some (.int x2)] [] h (k14 h a0 x1 x2)) (h : aH) (a0 : Nat) (x1 : Int32) (x2 : Int32) : AO eI 7 kX12_isSettled 14 [some (.ref a0), some (.int x1), some (.int x2)] [] h (b_X12_isSettled_14 k2 k14 h a0 x1 x2) := by
  unfold b_X12_isSettled_14
  refine ao_s (st_iload_n dX12_isSettled_14 rfl rfl) ?_
  refine ao_s (st_aload_n dX12_isSettled_15 rfl rfl) ?_
  refine ao_chk (fun e21 => ?_)
  refine ao_getR dX12_isSettled_16 fl_X12_39 rfl e21 (fun b22 => ?_)
  refine ao_s (st_iconst dX12_isSettled_19 ic_4) ?_
  refine ao_chk (fun e23 => ?_)
  refine ao_iald dX12_isSettled_20 e23 ?_
  refine ao_br (br_icmp_ge (tgt := 41) dX12_isSettled_21 (by decide)) (fun c27 => ?_) (fun c27 => ?_)
  · refine ao_s (st_iinc (lv' := [some (.ref a0), some (.int (x1 + 1)), some (.int x2)]) dX12_isSettled_41 rfl nc_1 (by decide) rfl) ?_
    refine ao_s (st_goto 2 dX12_isSettled_44 (by decide)) ?_
    exact ao_w (sb_s (sb_s (sb_n sb_0))) (hk2 h a0 (x1 + 1))
  · refine ao_s (st_aload_n dX12_isSettled_24 rfl rfl) ?_
    refine ao_s (st_iload_n dX12_isSettled_25 rfl rfl) ?_
    refine ao_s (st_iload_n dX12_isSettled_26 rfl rfl) ?_
    refine ao_cVi (Kc := kX12_wouldRather) (As := [.int x1, .int x2]) (st := []) dX12_isSettled_27 ml_X12_400 mv_X12_wouldRather rfl e21 (by decide) rfl rfl (Nat.le_of_ble_eq_true rfl) (by decide) (s_X12_wouldRather h a0 x1 x2) (fun r24 h25 => ?_)
    refine ao_br (br_if_eq (tgt := 35) dX12_isSettled_30 (by decide)) (fun c26 => ?_) (fun c26 => ?_)
    · refine ao_s (st_iinc (lv' := [some (.ref a0), some (.int x1), some (.int (x2 + 1))]) dX12_isSettled_35 rfl nc_1 (by decide) rfl) ?_
      refine ao_s (st_goto 14 dX12_isSettled_38 (by decide)) ?_
      exact ao_w (sb_s (sb_s (sb_s sb_0))) (hk14 h25 a0 x1 (x2 + 1))
    · refine ao_s (st_iconst dX12_isSettled_33 ic_0) ?_
      exact ao_ir dX12_isSettled_34 rfl (by decide)
def f_X12_isSettled_14 (k2 : aH → Nat → Int32 → Option (Int32 × aH)) (n : Nat) : aH → Nat → Int32 → Int32 → Option (Int32 × aH) := aIt (fun _ _ _ _ => none) (fun k => b_X12_isSettled_14 k2 k) n
theorem l_X12_isSettled_14 {k2 : aH → Nat → Int32 → Option (Int32 × aH)} (hk2 : ∀ (h : aH) (a0 : Nat) (x1 : Int32), AO eI 7 kX12_isSettled 2 [some (.ref a0), some (.int x1), none] [] h (k2 h a0 x1)) (n : Nat) : ∀ (h : aH) (a0 : Nat) (x1 : Int32) (x2 : Int32), AO eI 7 kX12_isSettled 14 [some (.ref a0), some (.int x1), some (.int x2)] [] h (f_X12_isSettled_14 k2 n h a0 x1 x2) := by
  induction n with
  | zero => intros; exact ao_none
  | succ n ih =>
    intro h a0 x1 x2
    exact t_X12_isSettled_14 hk2 ih h a0 x1 x2
def b_X12_isSettled_2 (k2 : aH → Nat → Int32 → Option (Int32 × aH)) (h : aH) (a0 : Nat) (x1 : Int32) : Option (Int32 × aH) :=
(if (sh a0).1 = 19 then
((hR h a0 20).bind fun b22 =>
(if (sh b22).1 = 0 then
(if aIn 3 (sh b22).2 then
(if hI h b22 (3 : Int32).toNatClampNeg ≤ x1 then
some (1, h)
else
f_X12_isSettled_14 k2 2000 h a0 x1 0)
else none)
else none))
else none)
set_option maxHeartbeats 2000000 in
theorem t_X12_isSettled_2 {k2 : aH → Nat → Int32 → Option (Int32 × aH)} (hk2 : ∀ (h : aH) (a0 : Nat) (x1 : Int32), AO eI 7 kX12_isSettled 2 [some (.ref a0), some (.int x1), none] [] h (k2 h a0 x1)) (h : aH) (a0 : Nat) (x1 : Int32) : AO eI 7 kX12_isSettled 2 [some (.ref a0), some (.int x1), none] [] h (b_X12_isSettled_2 k2 h a0 x1) := by
  unfold b_X12_isSettled_2
  refine ao_s (st_iload_n dX12_isSettled_2 rfl rfl) ?_
  refine ao_s (st_aload_n dX12_isSettled_3 rfl rfl) ?_
  refine ao_chk (fun e21 => ?_)
  refine ao_getR dX12_isSettled_4 fl_X12_39 rfl e21 (fun b22 => ?_)
  refine ao_s (st_iconst dX12_isSettled_7 ic_3) ?_
  refine ao_chk (fun e23 => ?_)
  refine ao_iald dX12_isSettled_8 e23 ?_
  refine ao_br (br_icmp_ge (tgt := 47) dX12_isSettled_9 (by decide)) (fun c24 => ?_) (fun c24 => ?_)
  · refine ao_s (st_iconst dX12_isSettled_47 ic_1) ?_
    exact ao_ir dX12_isSettled_48 rfl (by decide)
  · refine ao_s (st_iconst dX12_isSettled_12 ic_0) ?_
    refine ao_s (st_istore_n (lv' := [some (.ref a0), some (.int x1), some (.int 0)]) dX12_isSettled_13 rfl (by decide) rfl) ?_
    exact ao_w (sb_s (sb_s (sb_s sb_0))) (l_X12_isSettled_14 hk2 2000 h a0 x1 0)
def f_X12_isSettled_2 (n : Nat) : aH → Nat → Int32 → Option (Int32 × aH) := aIt (fun _ _ _ => none) (fun k => b_X12_isSettled_2 k) n
theorem l_X12_isSettled_2 (n : Nat) : ∀ (h : aH) (a0 : Nat) (x1 : Int32), AO eI 7 kX12_isSettled 2 [some (.ref a0), some (.int x1), none] [] h (f_X12_isSettled_2 n h a0 x1) := by
  induction n with
  | zero => intros; exact ao_none
  | succ n ih =>
    intro h a0 x1
    exact t_X12_isSettled_2 ih h a0 x1
def f_X12_isSettled (h : aH) (a0 : Nat) : Option (Int32 × aH) :=
f_X12_isSettled_2 2000 h a0 0
set_option maxHeartbeats 2000000 in
theorem s_X12_isSettled (h : aH) (a0 : Nat) : SO eI 7 kX12_isSettled [.ref a0] h (f_X12_isSettled h a0) := by
  refine so_of (lv0 := [some (.ref a0), none, none]) pn_X12 (Nat.le_of_ble_eq_true rfl) rfl ?_
  unfold f_X12_isSettled
  refine ao_s (st_iconst dX12_isSettled_0 ic_0) ?_
  refine ao_s (st_istore_n (lv' := [some (.ref a0), some (.int 0), none]) dX12_isSettled_1 rfl (by decide) rfl) ?_
  exact ao_w (sb_s (sb_s (sb_n sb_0))) (l_X12_isSettled_2 2000 h a0 0)
def b_X12_likedInRow_53 (k4 : aH → Nat → Int32 → Int32 → Option (Int32 × aH)) (h : aH) (a0 : Nat) (x2 : Int32) (s0 : Int32) (s1 : Int32) : Option (Int32 × aH) :=
(aLet (s1 + s0) fun x21 =>
k4 h a0 x21 (x2 + 1))
set_option maxHeartbeats 2000000 in
theorem t_X12_likedInRow_53 {k4 : aH → Nat → Int32 → Int32 → Option (Int32 × aH)} (hk4 : ∀ (h : aH) (a0 : Nat) (x1 : Int32) (x2 : Int32), AO eI 3 kX12_likedInRow 4 [some (.ref a0), some (.int x1), some (.int x2)] [] h (k4 h a0 x1 x2)) (h : aH) (a0 : Nat) (x2 : Int32) (s0 : Int32) (s1 : Int32) : AO eI 3 kX12_likedInRow 53 [some (.ref a0), none, some (.int x2)] [.int s0, .int s1] h (b_X12_likedInRow_53 k4 h a0 x2 s0 s1) := by
  unfold b_X12_likedInRow_53
  refine ao_s (st_iadd dX12_likedInRow_53) ?_
  refine ao_letI (fun x21 => ?_)
  refine ao_s (st_istore_n (lv' := [some (.ref a0), some (.int x21), some (.int x2)]) dX12_likedInRow_54 rfl (by decide) rfl) ?_
  refine ao_s (st_iinc (lv' := [some (.ref a0), some (.int x21), some (.int (x2 + 1))]) dX12_likedInRow_55 rfl nc_1 (by decide) rfl) ?_
  refine ao_s (st_goto 4 dX12_likedInRow_58 (by decide)) ?_
  exact ao_w (sb_s (sb_s (sb_s sb_0))) (hk4 h a0 x21 (x2 + 1))
def b_X12_likedInRow_4 (k4 : aH → Nat → Int32 → Int32 → Option (Int32 × aH)) (h : aH) (a0 : Nat) (x1 : Int32) (x2 : Int32) : Option (Int32 × aH) :=
(if (sh a0).1 = 19 then
((hR h a0 20).bind fun b22 =>
(if (sh b22).1 = 0 then
(if aIn 3 (sh b22).2 then
(if hI h b22 (3 : Int32).toNatClampNeg ≤ x2 then
some (x1, h)
else
((hR h a0 31).bind fun b24 =>
(if (sh b24).1 = 0 then
(if aIn x2 (sh b24).2 then
(if 0 ≤ hI h b24 x2.toNatClampNeg then
((hR h a0 31).bind fun b26 =>
(if (sh b26).1 = 0 then
(if aIn x2 (sh b26).2 then
(aBind (f_X12_likesOf h a0 0 x2 (hI h b26 x2.toNatClampNeg)) fun r28 h29 =>
((hR h29 a0 31).bind fun b30 =>
(if (sh b30).1 = 0 then
(if aIn x2 (sh b30).2 then
(aBind (f_X12_likesOf h29 a0 1 (hI h29 b30 x2.toNatClampNeg) x2) fun r32 h33 =>
b_X12_likedInRow_53 k4 h33 a0 x2 (r28 + r32) x1)
else none)
else none)))
else none)
else none))
else
b_X12_likedInRow_53 k4 h a0 x2 0 x1)
else none)
else none)))
else none)
else none))
else none)
set_option maxHeartbeats 2000000 in
theorem t_X12_likedInRow_4 {k4 : aH → Nat → Int32 → Int32 → Option (Int32 × aH)} (hk4 : ∀ (h : aH) (a0 : Nat) (x1 : Int32) (x2 : Int32), AO eI 3 kX12_likedInRow 4 [some (.ref a0), some (.int x1), some (.int x2)] [] h (k4 h a0 x1 x2)) (h : aH) (a0 : Nat) (x1 : Int32) (x2 : Int32) : AO eI 3 kX12_likedInRow 4 [some (.ref a0), some (.int x1), some (.int x2)] [] h (b_X12_likedInRow_4 k4 h a0 x1 x2) := by
  unfold b_X12_likedInRow_4
  refine ao_s (st_iload_n dX12_likedInRow_4 rfl rfl) ?_
  refine ao_s (st_aload_n dX12_likedInRow_5 rfl rfl) ?_
  refine ao_chk (fun e21 => ?_)
  refine ao_getR dX12_likedInRow_6 fl_X12_39 rfl e21 (fun b22 => ?_)
  refine ao_s (st_iconst dX12_likedInRow_9 ic_3) ?_
  refine ao_chk (fun e23 => ?_)
  refine ao_iald dX12_likedInRow_10 e23 ?_
  refine ao_br (br_icmp_ge (tgt := 61) dX12_likedInRow_11 (by decide)) (fun c35 => ?_) (fun c35 => ?_)
  · refine ao_s (st_iload_n dX12_likedInRow_61 rfl rfl) ?_
    exact ao_ir dX12_likedInRow_62 rfl rfl
  · refine ao_s (st_iload_n dX12_likedInRow_14 rfl rfl) ?_
    refine ao_s (st_aload_n dX12_likedInRow_15 rfl rfl) ?_
    refine ao_getR dX12_likedInRow_16 fl_X12_65 rfl e21 (fun b24 => ?_)
    refine ao_s (st_iload_n dX12_likedInRow_19 rfl rfl) ?_
    refine ao_chk (fun e25 => ?_)
    refine ao_iald dX12_likedInRow_20 e25 ?_
    refine ao_br (br_if_ge (tgt := 28) dX12_likedInRow_21 (by decide)) (fun c34 => ?_) (fun c34 => ?_)
    · refine ao_s (st_aload_n dX12_likedInRow_28 rfl rfl) ?_
      refine ao_s (st_iconst dX12_likedInRow_29 ic_0) ?_
      refine ao_s (st_iload_n dX12_likedInRow_30 rfl rfl) ?_
      refine ao_s (st_aload_n dX12_likedInRow_31 rfl rfl) ?_
      refine ao_getR dX12_likedInRow_32 fl_X12_65 rfl e21 (fun b26 => ?_)
      refine ao_s (st_iload_n dX12_likedInRow_35 rfl rfl) ?_
      refine ao_chk (fun e27 => ?_)
      refine ao_iald dX12_likedInRow_36 e27 ?_
      refine ao_cVi (Kc := kX12_likesOf) (As := [.int 0, .int x2, .int (hI h b26 x2.toNatClampNeg)]) (st := [.int x1]) dX12_likedInRow_37 ml_X12_305 mv_X12_likesOf rfl e21 (by decide) rfl rfl (Nat.le_of_ble_eq_true rfl) (by decide) (s_X12_likesOf h a0 0 x2 (hI h b26 x2.toNatClampNeg)) (fun r28 h29 => ?_)
      refine ao_s (st_aload_n dX12_likedInRow_40 rfl rfl) ?_
      refine ao_s (st_iconst dX12_likedInRow_41 ic_1) ?_
      refine ao_s (st_aload_n dX12_likedInRow_42 rfl rfl) ?_
      refine ao_getR dX12_likedInRow_43 fl_X12_65 rfl e21 (fun b30 => ?_)
      refine ao_s (st_iload_n dX12_likedInRow_46 rfl rfl) ?_
      refine ao_chk (fun e31 => ?_)
      refine ao_iald dX12_likedInRow_47 e31 ?_
      refine ao_s (st_iload_n dX12_likedInRow_48 rfl rfl) ?_
      refine ao_cVi (Kc := kX12_likesOf) (As := [.int 1, .int (hI h29 b30 x2.toNatClampNeg), .int x2]) (st := [.int r28, .int x1]) dX12_likedInRow_49 ml_X12_305 mv_X12_likesOf rfl e21 (by decide) rfl rfl (Nat.le_of_ble_eq_true rfl) (by decide) (s_X12_likesOf h29 a0 1 (hI h29 b30 x2.toNatClampNeg) x2) (fun r32 h33 => ?_)
      refine ao_s (st_iadd dX12_likedInRow_52) ?_
      exact ao_w (sb_s (sb_n (sb_s sb_0))) (t_X12_likedInRow_53 hk4 h33 a0 x2 (r28 + r32) x1)
    · refine ao_s (st_iconst dX12_likedInRow_24 ic_0) ?_
      refine ao_s (st_goto 53 dX12_likedInRow_25 (by decide)) ?_
      exact ao_w (sb_s (sb_n (sb_s sb_0))) (t_X12_likedInRow_53 hk4 h a0 x2 0 x1)
def f_X12_likedInRow_4 (n : Nat) : aH → Nat → Int32 → Int32 → Option (Int32 × aH) := aIt (fun _ _ _ _ => none) (fun k => b_X12_likedInRow_4 k) n
theorem l_X12_likedInRow_4 (n : Nat) : ∀ (h : aH) (a0 : Nat) (x1 : Int32) (x2 : Int32), AO eI 3 kX12_likedInRow 4 [some (.ref a0), some (.int x1), some (.int x2)] [] h (f_X12_likedInRow_4 n h a0 x1 x2) := by
  induction n with
  | zero => intros; exact ao_none
  | succ n ih =>
    intro h a0 x1 x2
    exact t_X12_likedInRow_4 ih h a0 x1 x2
def f_X12_likedInRow (h : aH) (a0 : Nat) : Option (Int32 × aH) :=
f_X12_likedInRow_4 2000 h a0 0 0
set_option maxHeartbeats 2000000 in
theorem s_X12_likedInRow (h : aH) (a0 : Nat) : SO eI 3 kX12_likedInRow [.ref a0] h (f_X12_likedInRow h a0) := by
  refine so_of (lv0 := [some (.ref a0), none, none]) pn_X12 (Nat.le_of_ble_eq_true rfl) rfl ?_
  unfold f_X12_likedInRow
  refine ao_s (st_iconst dX12_likedInRow_0 ic_0) ?_
  refine ao_s (st_istore_n (lv' := [some (.ref a0), some (.int 0), none]) dX12_likedInRow_1 rfl (by decide) rfl) ?_
  refine ao_s (st_iconst dX12_likedInRow_2 ic_0) ?_
  refine ao_s (st_istore_n (lv' := [some (.ref a0), some (.int 0), some (.int 0)]) dX12_likedInRow_3 rfl (by decide) rfl) ?_
  exact ao_w (sb_s (sb_s (sb_s sb_0))) (l_X12_likedInRow_4 2000 h a0 0 0)
def b_X12_power_4 (k4 : aH → Int32 → Int32 → Int32 → Int32 → Option (Int32 × aH)) (h : aH) (x0 : Int32) (x1 : Int32) (x2 : Int32) (x3 : Int32) : Option (Int32 × aH) :=
(if x1 ≤ x3 then
some (x2, h)
else
(aLet (x2 * x0) fun x21 =>
k4 h x0 x1 x21 (x3 + 1)))
set_option maxHeartbeats 2000000 in
theorem t_X12_power_4 {k4 : aH → Int32 → Int32 → Int32 → Int32 → Option (Int32 × aH)} (hk4 : ∀ (h : aH) (x0 : Int32) (x1 : Int32) (x2 : Int32) (x3 : Int32), AO eI 2 kX12_power 4 [some (.int x0), some (.int x1), some (.int x2), some (.int x3)] [] h (k4 h x0 x1 x2 x3)) (h : aH) (x0 : Int32) (x1 : Int32) (x2 : Int32) (x3 : Int32) : AO eI 2 kX12_power 4 [some (.int x0), some (.int x1), some (.int x2), some (.int x3)] [] h (b_X12_power_4 k4 h x0 x1 x2 x3) := by
  unfold b_X12_power_4
  refine ao_s (st_iload_n dX12_power_4 rfl rfl) ?_
  refine ao_s (st_iload_n dX12_power_5 rfl rfl) ?_
  refine ao_br (br_icmp_ge (tgt := 19) dX12_power_6 (by decide)) (fun c22 => ?_) (fun c22 => ?_)
  · refine ao_s (st_iload_n dX12_power_19 rfl rfl) ?_
    exact ao_ir dX12_power_20 rfl rfl
  · refine ao_s (st_iload_n dX12_power_9 rfl rfl) ?_
    refine ao_s (st_iload_n dX12_power_10 rfl rfl) ?_
    refine ao_s (st_imul dX12_power_11) ?_
    refine ao_letI (fun x21 => ?_)
    refine ao_s (st_istore_n (lv' := [some (.int x0), some (.int x1), some (.int x21), some (.int x3)]) dX12_power_12 rfl (by decide) rfl) ?_
    refine ao_s (st_iinc (lv' := [some (.int x0), some (.int x1), some (.int x21), some (.int (x3 + 1))]) dX12_power_13 rfl nc_1 (by decide) rfl) ?_
    refine ao_s (st_goto 4 dX12_power_16 (by decide)) ?_
    exact ao_w (sb_s (sb_s (sb_s (sb_s sb_0)))) (hk4 h x0 x1 x21 (x3 + 1))
def f_X12_power_4 (n : Nat) : aH → Int32 → Int32 → Int32 → Int32 → Option (Int32 × aH) := aIt (fun _ _ _ _ _ => none) (fun k => b_X12_power_4 k) n
theorem l_X12_power_4 (n : Nat) : ∀ (h : aH) (x0 : Int32) (x1 : Int32) (x2 : Int32) (x3 : Int32), AO eI 2 kX12_power 4 [some (.int x0), some (.int x1), some (.int x2), some (.int x3)] [] h (f_X12_power_4 n h x0 x1 x2 x3) := by
  induction n with
  | zero => intros; exact ao_none
  | succ n ih =>
    intro h x0 x1 x2 x3
    exact t_X12_power_4 ih h x0 x1 x2 x3
def f_X12_power (h : aH) (x0 : Int32) (x1 : Int32) : Option (Int32 × aH) :=
f_X12_power_4 2000 h x0 x1 1 0
set_option maxHeartbeats 2000000 in
theorem s_X12_power (h : aH) (x0 : Int32) (x1 : Int32) : SO eI 2 kX12_power [.int x0, .int x1] h (f_X12_power h x0 x1) := by
  refine so_of (lv0 := [some (.int x0), some (.int x1), none, none]) pn_X12 (Nat.le_of_ble_eq_true rfl) rfl ?_
  unfold f_X12_power
  refine ao_s (st_iconst dX12_power_0 ic_1) ?_
  refine ao_s (st_istore_n (lv' := [some (.int x0), some (.int x1), some (.int 1), none]) dX12_power_1 rfl (by decide) rfl) ?_
  refine ao_s (st_iconst dX12_power_2 ic_0) ?_
  refine ao_s (st_istore_n (lv' := [some (.int x0), some (.int x1), some (.int 1), some (.int 0)]) dX12_power_3 rfl (by decide) rfl) ?_
  exact ao_w (sb_s (sb_s (sb_s (sb_s sb_0)))) (l_X12_power_4 2000 h x0 x1 1 0)
