def b_X12_joinsAll_79 (k44 : aH → Nat → Int32 → Int32 → Option (Int32 × aH)) (h : aH) (a0 : Nat) (x1 : Int32) (x2 : Int32) : Option (Int32 × aH) :=
k44 h a0 x1 (x2 + 1)
set_option maxHeartbeats 2000000 in
theorem t_X12_joinsAll_79 {k44 : aH → Nat → Int32 → Int32 → Option (Int32 × aH)} (hk44 : ∀ (h : aH) (a0 : Nat) (x1 : Int32) (x2 : Int32), AO eI 6 kX12_joinsAll 44 [some (.ref a0), some (.int x1), some (.int x2), none] [] h (k44 h a0 x1 x2)) (h : aH) (a0 : Nat) (x1 : Int32) (x2 : Int32) : AO eI 6 kX12_joinsAll 79 [some (.ref a0), some (.int x1), some (.int x2), none] [] h (b_X12_joinsAll_79 k44 h a0 x1 x2) := by
  unfold b_X12_joinsAll_79
  refine ao_s (st_iinc (lv' := [some (.ref a0), some (.int x1), some (.int (x2 + 1)), none]) dX12_joinsAll_79 rfl nc_1 (by decide) rfl) ?_
  refine ao_s (st_goto 44 dX12_joinsAll_82 (by decide)) ?_
  exact ao_w (sb_s (sb_s (sb_s (sb_n sb_0)))) (hk44 h a0 x1 (x2 + 1))
def b_X12_joinsAll_85 (k36 : aH → Nat → Int32 → Option (Int32 × aH)) (h : aH) (a0 : Nat) (x1 : Int32) : Option (Int32 × aH) :=
k36 h a0 x1
set_option maxHeartbeats 2000000 in
theorem t_X12_joinsAll_85 {k36 : aH → Nat → Int32 → Option (Int32 × aH)} (hk36 : ∀ (h : aH) (a0 : Nat) (x1 : Int32), AO eI 6 kX12_joinsAll 36 [some (.ref a0), some (.int x1), none, none] [] h (k36 h a0 x1)) (h : aH) (a0 : Nat) (x1 : Int32) : AO eI 6 kX12_joinsAll 85 [some (.ref a0), some (.int x1), none, none] [] h (b_X12_joinsAll_85 k36 h a0 x1) := by
  unfold b_X12_joinsAll_85
  refine ao_s (st_goto 36 dX12_joinsAll_85 (by decide)) ?_
  exact ao_w (sb_s (sb_s (sb_n (sb_n sb_0)))) (hk36 h a0 x1)
def b_X12_joinsAll_44 (k36 : aH → Nat → Int32 → Option (Int32 × aH)) (k44 : aH → Nat → Int32 → Int32 → Option (Int32 × aH)) (h : aH) (a0 : Nat) (x1 : Int32) (x2 : Int32) : Option (Int32 × aH) :=
(if (sh a0).1 = 19 then
((hR h a0 20).bind fun b22 =>
(if (sh b22).1 = 0 then
(if aIn 3 (sh b22).2 then
(if hI h b22 (3 : Int32).toNatClampNeg ≤ x2 then
b_X12_joinsAll_85 k36 h a0 x1
else
(if x1 = 0 then
(aBind (f_X12_asks h a0 x2) fun r24 h25 =>
(if 0 ≤ r24 then
(aBind (f_X12_isAsked h25 a0 x2 r24) fun r26 h27 =>
b_X12_joinsAll_79 k44 h27 a0 1 x2)
else
b_X12_joinsAll_79 k44 h25 a0 x1 x2))
else
b_X12_joinsAll_85 k36 h a0 x1))
else none)
else none))
else none)
set_option maxHeartbeats 2000000 in
theorem t_X12_joinsAll_44 {k36 : aH → Nat → Int32 → Option (Int32 × aH)} (hk36 : ∀ (h : aH) (a0 : Nat) (x1 : Int32), AO eI 6 kX12_joinsAll 36 [some (.ref a0), some (.int x1), none, none] [] h (k36 h a0 x1)) {k44 : aH → Nat → Int32 → Int32 → Option (Int32 × aH)} (hk44 : ∀ (h : aH) (a0 : Nat) (x1 : Int32) (x2 : Int32), AO eI 6 kX12_joinsAll 44 [some (.ref a0), some (.int x1), some (.int x2), none] [] h (k44 h a0 x1 x2)) (h : aH) (a0 : Nat) (x1 : Int32) (x2 : Int32) : AO eI 6 kX12_joinsAll 44 [some (.ref a0), some (.int x1), some (.int x2), none] [] h (b_X12_joinsAll_44 k36 k44 h a0 x1 x2) := by
  unfold b_X12_joinsAll_44
  refine ao_s (st_iload_n dX12_joinsAll_44 rfl rfl) ?_
  refine ao_s (st_aload_n dX12_joinsAll_45 rfl rfl) ?_
  refine ao_chk (fun e21 => ?_)
  refine ao_getR dX12_joinsAll_46 fl_X12_39 rfl e21 (fun b22 => ?_)
  refine ao_s (st_iconst dX12_joinsAll_49 ic_3) ?_
  refine ao_chk (fun e23 => ?_)
  refine ao_iald dX12_joinsAll_50 e23 ?_
  refine ao_br (br_icmp_ge (tgt := 85) dX12_joinsAll_51 (by decide)) (fun c30 => ?_) (fun c30 => ?_)
  · exact ao_w (sb_s (sb_s (sb_n (sb_n sb_0)))) (t_X12_joinsAll_85 hk36 h a0 x1)
  · refine ao_s (st_iload_n dX12_joinsAll_54 rfl rfl) ?_
    refine ao_br (br_if_ne (tgt := 85) dX12_joinsAll_55 (by decide)) (fun c29 => ?_) (fun c29 => ?_)
    · refine ao_s (st_aload_n dX12_joinsAll_58 rfl rfl) ?_
      refine ao_s (st_iload_n dX12_joinsAll_59 rfl rfl) ?_
      refine ao_cVi (Kc := kX12_asks) (As := [.int x2]) (st := []) dX12_joinsAll_60 ml_X12_344 mv_X12_asks rfl e21 (by decide) rfl rfl (Nat.le_of_ble_eq_true rfl) (by decide) (s_X12_asks h a0 x2) (fun r24 h25 => ?_)
      refine ao_s (st_istore_n (lv' := [some (.ref a0), some (.int x1), some (.int x2), some (.int r24)]) dX12_joinsAll_63 rfl (by decide) rfl) ?_
      refine ao_s (st_iload_n dX12_joinsAll_64 rfl rfl) ?_
      refine ao_br (br_if_ge (tgt := 71) dX12_joinsAll_65 (by decide)) (fun c28 => ?_) (fun c28 => ?_)
      · refine ao_s (st_aload_n dX12_joinsAll_71 rfl rfl) ?_
        refine ao_s (st_iload_n dX12_joinsAll_72 rfl rfl) ?_
        refine ao_s (st_iload_n dX12_joinsAll_73 rfl rfl) ?_
        refine ao_cVv (Kc := kX12_isAsked) (As := [.int x2, .int r24]) (st := []) dX12_joinsAll_74 ml_X12_347 mv_X12_isAsked rfl e21 (by decide) rfl rfl (Nat.le_of_ble_eq_true rfl) (by decide) (s_X12_isAsked h25 a0 x2 r24) (fun r26 h27 => ?_)
        refine ao_s (st_iconst dX12_joinsAll_77 ic_1) ?_
        refine ao_s (st_istore_n (lv' := [some (.ref a0), some (.int 1), some (.int x2), some (.int r24)]) dX12_joinsAll_78 rfl (by decide) rfl) ?_
        exact ao_w (sb_s (sb_s (sb_s (sb_n sb_0)))) (t_X12_joinsAll_79 hk44 h27 a0 1 x2)
      · refine ao_s (st_goto 79 dX12_joinsAll_68 (by decide)) ?_
        exact ao_w (sb_s (sb_s (sb_s (sb_n sb_0)))) (t_X12_joinsAll_79 hk44 h25 a0 x1 x2)
    · exact ao_w (sb_s (sb_s (sb_n (sb_n sb_0)))) (t_X12_joinsAll_85 hk36 h a0 x1)
def f_X12_joinsAll_44 (k36 : aH → Nat → Int32 → Option (Int32 × aH)) (n : Nat) : aH → Nat → Int32 → Int32 → Option (Int32 × aH) := aIt (fun _ _ _ _ => none) (fun k => b_X12_joinsAll_44 k36 k) n
theorem l_X12_joinsAll_44 {k36 : aH → Nat → Int32 → Option (Int32 × aH)} (hk36 : ∀ (h : aH) (a0 : Nat) (x1 : Int32), AO eI 6 kX12_joinsAll 36 [some (.ref a0), some (.int x1), none, none] [] h (k36 h a0 x1)) (n : Nat) : ∀ (h : aH) (a0 : Nat) (x1 : Int32) (x2 : Int32), AO eI 6 kX12_joinsAll 44 [some (.ref a0), some (.int x1), some (.int x2), none] [] h (f_X12_joinsAll_44 k36 n h a0 x1 x2) := by
  induction n with
  | zero => intros; exact ao_none
  | succ n ih =>
    intro h a0 x1 x2
    exact t_X12_joinsAll_44 hk36 ih h a0 x1 x2
def b_X12_joinsAll_129 (k92 : aH → Nat → Int32 → Int32 → Option (Int32 × aH)) (h : aH) (a0 : Nat) (x2 : Int32) (x3 : Int32) : Option (Int32 × aH) :=
k92 h a0 x2 (x3 + 1)
set_option maxHeartbeats 2000000 in
theorem t_X12_joinsAll_129 {k92 : aH → Nat → Int32 → Int32 → Option (Int32 × aH)} (hk92 : ∀ (h : aH) (a0 : Nat) (x2 : Int32) (x3 : Int32), AO eI 6 kX12_joinsAll 92 [some (.ref a0), none, some (.int x2), some (.int x3)] [] h (k92 h a0 x2 x3)) (h : aH) (a0 : Nat) (x2 : Int32) (x3 : Int32) : AO eI 6 kX12_joinsAll 129 [some (.ref a0), none, some (.int x2), some (.int x3)] [] h (b_X12_joinsAll_129 k92 h a0 x2 x3) := by
  unfold b_X12_joinsAll_129
  refine ao_s (st_iinc (lv' := [some (.ref a0), none, some (.int x2), some (.int (x3 + 1))]) dX12_joinsAll_129 rfl nc_1 (by decide) rfl) ?_
  refine ao_s (st_goto 92 dX12_joinsAll_132 (by decide)) ?_
  exact ao_w (sb_s (sb_n (sb_s (sb_s sb_0)))) (hk92 h a0 x2 (x3 + 1))
def b_X12_joinsAll_92 (k92 : aH → Nat → Int32 → Int32 → Option (Int32 × aH)) (h : aH) (a0 : Nat) (x2 : Int32) (x3 : Int32) : Option (Int32 × aH) :=
(if (sh a0).1 = 19 then
((hR h a0 20).bind fun b22 =>
(if (sh b22).1 = 0 then
(if aIn 4 (sh b22).2 then
(if hI h b22 (4 : Int32).toNatClampNeg ≤ x3 then
some (x2, h)
else
((hR h a0 27).bind fun b24 =>
(if (sh b24).1 = 0 then
(if aIn x3 (sh b24).2 then
(if 0 ≤ hI h b24 x3.toNatClampNeg then
((hR h a0 27).bind fun b26 =>
(if (sh b26).1 = 0 then
(if aIn x3 (sh b26).2 then
(aBind (f_X12_joins h a0 (hI h b26 x3.toNatClampNeg) x3) fun r28 h29 =>
b_X12_joinsAll_129 k92 h29 a0 (x2 + 1) x3)
else none)
else none))
else
b_X12_joinsAll_129 k92 h a0 x2 x3)
else none)
else none)))
else none)
else none))
else none)
set_option maxHeartbeats 2000000 in
theorem t_X12_joinsAll_92 {k92 : aH → Nat → Int32 → Int32 → Option (Int32 × aH)} (hk92 : ∀ (h : aH) (a0 : Nat) (x2 : Int32) (x3 : Int32), AO eI 6 kX12_joinsAll 92 [some (.ref a0), none, some (.int x2), some (.int x3)] [] h (k92 h a0 x2 x3)) (h : aH) (a0 : Nat) (x2 : Int32) (x3 : Int32) : AO eI 6 kX12_joinsAll 92 [some (.ref a0), none, some (.int x2), some (.int x3)] [] h (b_X12_joinsAll_92 k92 h a0 x2 x3) := by
  unfold b_X12_joinsAll_92
  refine ao_s (st_iload_n dX12_joinsAll_92 rfl rfl) ?_
  refine ao_s (st_aload_n dX12_joinsAll_93 rfl rfl) ?_
  refine ao_chk (fun e21 => ?_)
  refine ao_getR dX12_joinsAll_94 fl_X12_39 rfl e21 (fun b22 => ?_)
  refine ao_s (st_iconst dX12_joinsAll_97 ic_4) ?_
  refine ao_chk (fun e23 => ?_)
  refine ao_iald dX12_joinsAll_98 e23 ?_
  refine ao_br (br_icmp_ge (tgt := 135) dX12_joinsAll_99 (by decide)) (fun c31 => ?_) (fun c31 => ?_)
  · refine ao_s (st_iload_n dX12_joinsAll_135 rfl rfl) ?_
    exact ao_ir dX12_joinsAll_136 rfl rfl
  · refine ao_s (st_aload_n dX12_joinsAll_102 rfl rfl) ?_
    refine ao_getR dX12_joinsAll_103 fl_X12_56 rfl e21 (fun b24 => ?_)
    refine ao_s (st_iload_n dX12_joinsAll_106 rfl rfl) ?_
    refine ao_chk (fun e25 => ?_)
    refine ao_iald dX12_joinsAll_107 e25 ?_
    refine ao_br (br_if_ge (tgt := 114) dX12_joinsAll_108 (by decide)) (fun c30 => ?_) (fun c30 => ?_)
    · refine ao_s (st_aload_n dX12_joinsAll_114 rfl rfl) ?_
      refine ao_s (st_aload_n dX12_joinsAll_115 rfl rfl) ?_
      refine ao_getR dX12_joinsAll_116 fl_X12_56 rfl e21 (fun b26 => ?_)
      refine ao_s (st_iload_n dX12_joinsAll_119 rfl rfl) ?_
      refine ao_chk (fun e27 => ?_)
      refine ao_iald dX12_joinsAll_120 e27 ?_
      refine ao_s (st_iload_n dX12_joinsAll_121 rfl rfl) ?_
      refine ao_cVi (Kc := kX12_joins) (As := [.int (hI h b26 x3.toNatClampNeg), .int x3]) (st := []) dX12_joinsAll_122 ml_X12_350 mv_X12_joins rfl e21 (by decide) rfl rfl (Nat.le_of_ble_eq_true rfl) (by decide) (s_X12_joins h a0 (hI h b26 x3.toNatClampNeg) x3) (fun r28 h29 => ?_)
      refine ao_s (st_pop dX12_joinsAll_125 rfl) ?_
      refine ao_s (st_iinc (lv' := [some (.ref a0), none, some (.int (x2 + 1)), some (.int x3)]) dX12_joinsAll_126 rfl nc_1 (by decide) rfl) ?_
      exact ao_w (sb_s (sb_n (sb_s (sb_s sb_0)))) (t_X12_joinsAll_129 hk92 h29 a0 (x2 + 1) x3)
    · refine ao_s (st_goto 129 dX12_joinsAll_111 (by decide)) ?_
      exact ao_w (sb_s (sb_n (sb_s (sb_s sb_0)))) (t_X12_joinsAll_129 hk92 h a0 x2 x3)
def f_X12_joinsAll_92 (n : Nat) : aH → Nat → Int32 → Int32 → Option (Int32 × aH) := aIt (fun _ _ _ _ => none) (fun k => b_X12_joinsAll_92 k) n
theorem l_X12_joinsAll_92 (n : Nat) : ∀ (h : aH) (a0 : Nat) (x2 : Int32) (x3 : Int32), AO eI 6 kX12_joinsAll 92 [some (.ref a0), none, some (.int x2), some (.int x3)] [] h (f_X12_joinsAll_92 n h a0 x2 x3) := by
  induction n with
  | zero => intros; exact ao_none
  | succ n ih =>
    intro h a0 x2 x3
    exact t_X12_joinsAll_92 ih h a0 x2 x3
def b_X12_joinsAll_36 (k36 : aH → Nat → Int32 → Option (Int32 × aH)) (h : aH) (a0 : Nat) (x1 : Int32) : Option (Int32 × aH) :=
(if x1 = 0 then
f_X12_joinsAll_92 2000 h a0 0 0
else
f_X12_joinsAll_44 k36 2000 h a0 0 0)
set_option maxHeartbeats 2000000 in
theorem t_X12_joinsAll_36 {k36 : aH → Nat → Int32 → Option (Int32 × aH)} (hk36 : ∀ (h : aH) (a0 : Nat) (x1 : Int32), AO eI 6 kX12_joinsAll 36 [some (.ref a0), some (.int x1), none, none] [] h (k36 h a0 x1)) (h : aH) (a0 : Nat) (x1 : Int32) : AO eI 6 kX12_joinsAll 36 [some (.ref a0), some (.int x1), none, none] [] h (b_X12_joinsAll_36 k36 h a0 x1) := by
  unfold b_X12_joinsAll_36
  refine ao_s (st_iload_n dX12_joinsAll_36 rfl rfl) ?_
  refine ao_br (br_if_eq (tgt := 88) dX12_joinsAll_37 (by decide)) (fun c21 => ?_) (fun c21 => ?_)
  · refine ao_s (st_iconst dX12_joinsAll_88 ic_0) ?_
    refine ao_s (st_istore_n (lv' := [some (.ref a0), some (.int x1), some (.int 0), none]) dX12_joinsAll_89 rfl (by decide) rfl) ?_
    refine ao_s (st_iconst dX12_joinsAll_90 ic_0) ?_
    refine ao_s (st_istore_n (lv' := [some (.ref a0), some (.int x1), some (.int 0), some (.int 0)]) dX12_joinsAll_91 rfl (by decide) rfl) ?_
    exact ao_w (sb_s (sb_n (sb_s (sb_s sb_0)))) (l_X12_joinsAll_92 2000 h a0 0 0)
  · refine ao_s (st_iconst dX12_joinsAll_40 ic_0) ?_
    refine ao_s (st_istore_n (lv' := [some (.ref a0), some (.int 0), none, none]) dX12_joinsAll_41 rfl (by decide) rfl) ?_
    refine ao_s (st_iconst dX12_joinsAll_42 ic_0) ?_
    refine ao_s (st_istore_n (lv' := [some (.ref a0), some (.int 0), some (.int 0), none]) dX12_joinsAll_43 rfl (by decide) rfl) ?_
    exact ao_w (sb_s (sb_s (sb_s (sb_n sb_0)))) (l_X12_joinsAll_44 hk36 2000 h a0 0 0)
def f_X12_joinsAll_36 (n : Nat) : aH → Nat → Int32 → Option (Int32 × aH) := aIt (fun _ _ _ => none) (fun k => b_X12_joinsAll_36 k) n
theorem l_X12_joinsAll_36 (n : Nat) : ∀ (h : aH) (a0 : Nat) (x1 : Int32), AO eI 6 kX12_joinsAll 36 [some (.ref a0), some (.int x1), none, none] [] h (f_X12_joinsAll_36 n h a0 x1) := by
  induction n with
  | zero => intros; exact ao_none
  | succ n ih =>
    intro h a0 x1
    exact t_X12_joinsAll_36 ih h a0 x1
def b_X12_joinsAll_2 (k2 : aH → Nat → Int32 → Option (Int32 × aH)) (h : aH) (a0 : Nat) (x1 : Int32) : Option (Int32 × aH) :=
(if 4 ≤ x1 then
f_X12_joinsAll_36 2000 h a0 1
else
(if (sh a0).1 = 19 then
((hR h a0 25).bind fun b22 =>
(if (sh b22).1 = 0 then
(if aIn x1 (sh b22).2 then
(aLet (pI h b22 x1.toNatClampNeg 0) fun h24 =>
((hR h24 a0 26).bind fun b25 =>
(if (sh b25).1 = 2 then
(if aIn x1 (sh b25).2 then
(aLet (pI h24 b25 x1.toNatClampNeg (vp_nar .boolean 0)) fun h27 =>
((hR h27 a0 27).bind fun b28 =>
(if (sh b28).1 = 0 then
(if aIn x1 (sh b28).2 then
(aLet (pI h27 b28 x1.toNatClampNeg (-1)) fun h30 =>
k2 h30 a0 (x1 + 1))
else none)
else none)))
else none)
else none)))
else none)
else none))
else none))
set_option maxHeartbeats 2000000 in
theorem t_X12_joinsAll_2 {k2 : aH → Nat → Int32 → Option (Int32 × aH)} (hk2 : ∀ (h : aH) (a0 : Nat) (x1 : Int32), AO eI 6 kX12_joinsAll 2 [some (.ref a0), some (.int x1), none, none] [] h (k2 h a0 x1)) (h : aH) (a0 : Nat) (x1 : Int32) : AO eI 6 kX12_joinsAll 2 [some (.ref a0), some (.int x1), none, none] [] h (b_X12_joinsAll_2 k2 h a0 x1) := by
  unfold b_X12_joinsAll_2
  refine ao_s (st_iload_n dX12_joinsAll_2 rfl rfl) ?_
  refine ao_s (st_iconst dX12_joinsAll_3 ic_4) ?_
  refine ao_br (br_icmp_ge (tgt := 34) dX12_joinsAll_4 (by decide)) (fun c31 => ?_) (fun c31 => ?_)
  · refine ao_s (st_iconst dX12_joinsAll_34 ic_1) ?_
    refine ao_s (st_istore_n (lv' := [some (.ref a0), some (.int 1), none, none]) dX12_joinsAll_35 rfl (by decide) rfl) ?_
    exact ao_w (sb_s (sb_s (sb_n (sb_n sb_0)))) (l_X12_joinsAll_36 2000 h a0 1)
  · refine ao_s (st_aload_n dX12_joinsAll_7 rfl rfl) ?_
    refine ao_chk (fun e21 => ?_)
    refine ao_getR dX12_joinsAll_8 fl_X12_49 rfl e21 (fun b22 => ?_)
    refine ao_s (st_iload_n dX12_joinsAll_11 rfl rfl) ?_
    refine ao_s (st_iconst dX12_joinsAll_12 ic_0) ?_
    refine ao_chk (fun e23 => ?_)
    refine ao_iast dX12_joinsAll_13 e23 ?_
    refine ao_letH (fun h24 => ?_)
    refine ao_s (st_aload_n dX12_joinsAll_14 rfl rfl) ?_
    refine ao_getR dX12_joinsAll_15 fl_X12_52 rfl e21 (fun b25 => ?_)
    refine ao_s (st_iload_n dX12_joinsAll_18 rfl rfl) ?_
    refine ao_s (st_iconst dX12_joinsAll_19 ic_0) ?_
    refine ao_chk (fun e26 => ?_)
    refine ao_zast dX12_joinsAll_20 e26 ?_
    refine ao_letH (fun h27 => ?_)
    refine ao_s (st_aload_n dX12_joinsAll_21 rfl rfl) ?_
    refine ao_getR dX12_joinsAll_22 fl_X12_56 rfl e21 (fun b28 => ?_)
    refine ao_s (st_iload_n dX12_joinsAll_25 rfl rfl) ?_
    refine ao_s (st_iconst dX12_joinsAll_26 ic_m1) ?_
    refine ao_chk (fun e29 => ?_)
    refine ao_iast dX12_joinsAll_27 e29 ?_
    refine ao_letH (fun h30 => ?_)
    refine ao_s (st_iinc (lv' := [some (.ref a0), some (.int (x1 + 1)), none, none]) dX12_joinsAll_28 rfl nc_1 (by decide) rfl) ?_
    refine ao_s (st_goto 2 dX12_joinsAll_31 (by decide)) ?_
    exact ao_w (sb_s (sb_s (sb_n (sb_n sb_0)))) (hk2 h30 a0 (x1 + 1))
def f_X12_joinsAll_2 (n : Nat) : aH → Nat → Int32 → Option (Int32 × aH) := aIt (fun _ _ _ => none) (fun k => b_X12_joinsAll_2 k) n
theorem l_X12_joinsAll_2 (n : Nat) : ∀ (h : aH) (a0 : Nat) (x1 : Int32), AO eI 6 kX12_joinsAll 2 [some (.ref a0), some (.int x1), none, none] [] h (f_X12_joinsAll_2 n h a0 x1) := by
  induction n with
  | zero => intros; exact ao_none
  | succ n ih =>
    intro h a0 x1
    exact t_X12_joinsAll_2 ih h a0 x1
def f_X12_joinsAll (h : aH) (a0 : Nat) : Option (Int32 × aH) :=
f_X12_joinsAll_2 2000 h a0 0
set_option maxHeartbeats 2000000 in
theorem s_X12_joinsAll (h : aH) (a0 : Nat) : SO eI 6 kX12_joinsAll [.ref a0] h (f_X12_joinsAll h a0) := by
  refine so_of (lv0 := [some (.ref a0), none, none, none]) pn_X12 (Nat.le_of_ble_eq_true rfl) rfl ?_
  unfold f_X12_joinsAll
  refine ao_s (st_iconst dX12_joinsAll_0 ic_0) ?_
  refine ao_s (st_istore_n (lv' := [some (.ref a0), some (.int 0), none, none]) dX12_joinsAll_1 rfl (by decide) rfl) ?_
  exact ao_w (sb_s (sb_s (sb_n (sb_n sb_0)))) (l_X12_joinsAll_2 2000 h a0 0)
def b_X12_learns_98 (k15 : aH → Nat → Int32 → Int32 → Int32 → Option (Unit × aH)) (h : aH) (a0 : Nat) (x1 : Int32) (x2 : Int32) (x3 : Int32) (s0 : Int32) (s1 : Int32) (s2 : Int32) (s3 : Nat) : Option (Unit × aH) :=
(if (sh s3).1 = 0 then
(if aIn s2 (sh s3).2 then
(aLet (pI h s3 s2.toNatClampNeg (s1 + s0)) fun h22 =>
k15 h22 a0 x1 x2 (x3 + 1))
else none)
else none)
set_option maxHeartbeats 2000000 in
theorem t_X12_learns_98 {k15 : aH → Nat → Int32 → Int32 → Int32 → Option (Unit × aH)} (hk15 : ∀ (h : aH) (a0 : Nat) (x1 : Int32) (x2 : Int32) (x3 : Int32), AO eV 4 kX12_learns 15 [some (.ref a0), some (.int x1), some (.int x2), some (.int x3), none] [] h (k15 h a0 x1 x2 x3)) (h : aH) (a0 : Nat) (x1 : Int32) (x2 : Int32) (x3 : Int32) (s0 : Int32) (s1 : Int32) (s2 : Int32) (s3 : Nat) : AO eV 4 kX12_learns 98 [some (.ref a0), some (.int x1), some (.int x2), some (.int x3), none] [.int s0, .int s1, .int s2, .ref s3] h (b_X12_learns_98 k15 h a0 x1 x2 x3 s0 s1 s2 s3) := by
  unfold b_X12_learns_98
  refine ao_s (st_iadd dX12_learns_98) ?_
  refine ao_chk (fun e21 => ?_)
  refine ao_iast dX12_learns_99 e21 ?_
  refine ao_letH (fun h22 => ?_)
  refine ao_s (st_iinc (lv' := [some (.ref a0), some (.int x1), some (.int x2), some (.int (x3 + 1)), none]) dX12_learns_100 rfl nc_1 (by decide) rfl) ?_
  refine ao_s (st_goto 15 dX12_learns_103 (by decide)) ?_
  exact ao_w (sb_s (sb_s (sb_s (sb_s (sb_n sb_0))))) (hk15 h22 a0 x1 x2 (x3 + 1))
def b_X12_learns_15 (k15 : aH → Nat → Int32 → Int32 → Int32 → Option (Unit × aH)) (h : aH) (a0 : Nat) (x1 : Int32) (x2 : Int32) (x3 : Int32) : Option (Unit × aH) :=
(if 2 ≤ x3 then
(if (sh a0).1 = 19 then
((hR h a0 20).bind fun b22 =>
(aBind (f_X12_placeOf h 0 x1) fun r23 h24 =>
(aLet (r23 + 2) fun x25 =>
(if (sh b22).1 = 0 then
(if aIn x25 (sh b22).2 then
(if aIn x25 (sh b22).2 then
(aLet (pI h24 b22 x25.toNatClampNeg ((hI h24 b22 x25.toNatClampNeg) + 1)) fun h27 =>
((hR h27 a0 20).bind fun b28 =>
(aBind (f_X12_placeOf h27 1 x2) fun r29 h30 =>
(aLet (r29 + 2) fun x31 =>
(if (sh b28).1 = 0 then
(if aIn x31 (sh b28).2 then
(if aIn x31 (sh b28).2 then
(aLet (pI h30 b28 x31.toNatClampNeg ((hI h30 b28 x31.toNatClampNeg) + 1)) fun h33 =>
some ((), h33))
else none)
else none)
else none)))))
else none)
else none)
else none))))
else none)
else
(aLet (((16 * x3) + (4 * x1)) + x2) fun x34 =>
(if (sh a0).1 = 19 then
((hR h a0 20).bind fun b36 =>
(aLet (43 + x34) fun x37 =>
(if (sh b36).1 = 0 then
(if aIn x37 (sh b36).2 then
((hR h a0 20).bind fun b39 =>
(aLet (78 + x34) fun x40 =>
(if (sh b39).1 = 0 then
(if aIn x40 (sh b39).2 then
((hR h a0 20).bind fun b42 =>
(aLet (43 + x34) fun x43 =>
(if (sh b42).1 = 0 then
(if aIn x43 (sh b42).2 then
(if hI h b39 x40.toNatClampNeg ≤ hI h b42 x43.toNatClampNeg then
((hR h a0 20).bind fun b45 =>
(aLet (78 + x34) fun x46 =>
(if (sh b45).1 = 0 then
(if aIn x46 (sh b45).2 then
((hR h a0 20).bind fun b48 =>
(aLet (43 + x34) fun x49 =>
(if (sh b48).1 = 0 then
(if aIn x49 (sh b48).2 then
(if hI h b48 x49.toNatClampNeg ≤ hI h b45 x46.toNatClampNeg then
b_X12_learns_98 k15 h a0 x1 x2 x3 0 (hI h b36 x37.toNatClampNeg) x37 b36
else
b_X12_learns_98 k15 h a0 x1 x2 x3 (-1) (hI h b36 x37.toNatClampNeg) x37 b36)
else none)
else none)))
else none)
else none)))
else
b_X12_learns_98 k15 h a0 x1 x2 x3 1 (hI h b36 x37.toNatClampNeg) x37 b36)
else none)
else none)))
else none)
else none)))
else none)
else none)))
else none)))
set_option maxHeartbeats 2000000 in
theorem t_X12_learns_15 {k15 : aH → Nat → Int32 → Int32 → Int32 → Option (Unit × aH)} (hk15 : ∀ (h : aH) (a0 : Nat) (x1 : Int32) (x2 : Int32) (x3 : Int32), AO eV 4 kX12_learns 15 [some (.ref a0), some (.int x1), some (.int x2), some (.int x3), none] [] h (k15 h a0 x1 x2 x3)) (h : aH) (a0 : Nat) (x1 : Int32) (x2 : Int32) (x3 : Int32) : AO eV 4 kX12_learns 15 [some (.ref a0), some (.int x1), some (.int x2), some (.int x3), none] [] h (b_X12_learns_15 k15 h a0 x1 x2 x3) := by
  unfold b_X12_learns_15
  refine ao_s (st_iload_n dX12_learns_15 rfl rfl) ?_
  refine ao_s (st_iconst dX12_learns_16 ic_2) ?_
  refine ao_br (br_icmp_ge (tgt := 106) dX12_learns_17 (by decide)) (fun c53 => ?_) (fun c53 => ?_)
  · refine ao_s (st_aload_n dX12_learns_106 rfl rfl) ?_
    refine ao_chk (fun e21 => ?_)
    refine ao_getR dX12_learns_107 fl_X12_39 rfl e21 (fun b22 => ?_)
    refine ao_s (st_iconst dX12_learns_110 ic_0) ?_
    refine ao_s (st_iload_n dX12_learns_111 rfl rfl) ?_
    refine ao_cSi (Kc := kX12_placeOf) (As := [.int 0, .int x1]) (st := [.ref b22]) dX12_learns_112 ml_X12_297 ms_X12_placeOf rfl rfl (Nat.le_of_ble_eq_true rfl) (by decide) (s_X12_placeOf h 0 x1) (fun r23 h24 => ?_)
    refine ao_s (st_iconst dX12_learns_115 ic_2) ?_
    refine ao_s (st_iadd dX12_learns_116) ?_
    refine ao_letI (fun x25 => ?_)
    refine ao_s (st_dup2 dX12_learns_117 rfl rfl) ?_
    refine ao_chk (fun e26 => ?_)
    refine ao_iald dX12_learns_118 e26 ?_
    refine ao_s (st_iconst dX12_learns_119 ic_1) ?_
    refine ao_s (st_iadd dX12_learns_120) ?_
    refine ao_iast dX12_learns_121 e26 ?_
    refine ao_letH (fun h27 => ?_)
    refine ao_s (st_aload_n dX12_learns_122 rfl rfl) ?_
    refine ao_getR dX12_learns_123 fl_X12_39 rfl e21 (fun b28 => ?_)
    refine ao_s (st_iconst dX12_learns_126 ic_1) ?_
    refine ao_s (st_iload_n dX12_learns_127 rfl rfl) ?_
    refine ao_cSi (Kc := kX12_placeOf) (As := [.int 1, .int x2]) (st := [.ref b28]) dX12_learns_128 ml_X12_297 ms_X12_placeOf rfl rfl (Nat.le_of_ble_eq_true rfl) (by decide) (s_X12_placeOf h27 1 x2) (fun r29 h30 => ?_)
    refine ao_s (st_iconst dX12_learns_131 ic_2) ?_
    refine ao_s (st_iadd dX12_learns_132) ?_
    refine ao_letI (fun x31 => ?_)
    refine ao_s (st_dup2 dX12_learns_133 rfl rfl) ?_
    refine ao_chk (fun e32 => ?_)
    refine ao_iald dX12_learns_134 e32 ?_
    refine ao_s (st_iconst dX12_learns_135 ic_1) ?_
    refine ao_s (st_iadd dX12_learns_136) ?_
    refine ao_iast dX12_learns_137 e32 ?_
    refine ao_letH (fun h33 => ?_)
    exact ao_vr dX12_learns_138 rfl
  · refine ao_s (st_bipush dX12_learns_20 bp_16) ?_
    refine ao_s (st_iload_n dX12_learns_22 rfl rfl) ?_
    refine ao_s (st_imul dX12_learns_23) ?_
    refine ao_s (st_iconst dX12_learns_24 ic_4) ?_
    refine ao_s (st_iload_n dX12_learns_25 rfl rfl) ?_
    refine ao_s (st_imul dX12_learns_26) ?_
    refine ao_s (st_iadd dX12_learns_27) ?_
    refine ao_s (st_iload_n dX12_learns_28 rfl rfl) ?_
    refine ao_s (st_iadd dX12_learns_29) ?_
    refine ao_letI (fun x34 => ?_)
    refine ao_s (st_istore (lv' := [some (.ref a0), some (.int x1), some (.int x2), some (.int x3), some (.int x34)]) dX12_learns_30 (by decide) rfl) ?_
    refine ao_s (st_aload_n dX12_learns_32 rfl rfl) ?_
    refine ao_chk (fun e35 => ?_)
    refine ao_getR dX12_learns_33 fl_X12_39 rfl e35 (fun b36 => ?_)
    refine ao_s (st_bipush dX12_learns_36 bp_43) ?_
    refine ao_s (st_iload dX12_learns_38 rfl) ?_
    refine ao_s (st_iadd dX12_learns_40) ?_
    refine ao_letI (fun x37 => ?_)
    refine ao_s (st_dup2 dX12_learns_41 rfl rfl) ?_
    refine ao_chk (fun e38 => ?_)
    refine ao_iald dX12_learns_42 e38 ?_
    refine ao_s (st_aload_n dX12_learns_43 rfl rfl) ?_
    refine ao_getR dX12_learns_44 fl_X12_39 rfl e35 (fun b39 => ?_)
    refine ao_s (st_bipush dX12_learns_47 bp_78) ?_
    refine ao_s (st_iload dX12_learns_49 rfl) ?_
    refine ao_s (st_iadd dX12_learns_51) ?_
    refine ao_letI (fun x40 => ?_)
    refine ao_chk (fun e41 => ?_)
    refine ao_iald dX12_learns_52 e41 ?_
    refine ao_s (st_aload_n dX12_learns_53 rfl rfl) ?_
    refine ao_getR dX12_learns_54 fl_X12_39 rfl e35 (fun b42 => ?_)
    refine ao_s (st_bipush dX12_learns_57 bp_43) ?_
    refine ao_s (st_iload dX12_learns_59 rfl) ?_
    refine ao_s (st_iadd dX12_learns_61) ?_
    refine ao_letI (fun x43 => ?_)
    refine ao_chk (fun e44 => ?_)
    refine ao_iald dX12_learns_62 e44 ?_
    refine ao_br (br_icmp_le (tgt := 70) dX12_learns_63 (by decide)) (fun c52 => ?_) (fun c52 => ?_)
    · refine ao_s (st_aload_n dX12_learns_70 rfl rfl) ?_
      refine ao_getR dX12_learns_71 fl_X12_39 rfl e35 (fun b45 => ?_)
      refine ao_s (st_bipush dX12_learns_74 bp_78) ?_
      refine ao_s (st_iload dX12_learns_76 rfl) ?_
      refine ao_s (st_iadd dX12_learns_78) ?_
      refine ao_letI (fun x46 => ?_)
      refine ao_chk (fun e47 => ?_)
      refine ao_iald dX12_learns_79 e47 ?_
      refine ao_s (st_aload_n dX12_learns_80 rfl rfl) ?_
      refine ao_getR dX12_learns_81 fl_X12_39 rfl e35 (fun b48 => ?_)
      refine ao_s (st_bipush dX12_learns_84 bp_43) ?_
      refine ao_s (st_iload dX12_learns_86 rfl) ?_
      refine ao_s (st_iadd dX12_learns_88) ?_
      refine ao_letI (fun x49 => ?_)
      refine ao_chk (fun e50 => ?_)
      refine ao_iald dX12_learns_89 e50 ?_
      refine ao_br (br_icmp_ge (tgt := 97) dX12_learns_90 (by decide)) (fun c51 => ?_) (fun c51 => ?_)
      · refine ao_s (st_iconst dX12_learns_97 ic_0) ?_
        exact ao_w (sb_s (sb_s (sb_s (sb_s (sb_n sb_0))))) (t_X12_learns_98 hk15 h a0 x1 x2 x3 0 (hI h b36 x37.toNatClampNeg) x37 b36)
      · refine ao_s (st_iconst dX12_learns_93 ic_m1) ?_
        refine ao_s (st_goto 98 dX12_learns_94 (by decide)) ?_
        exact ao_w (sb_s (sb_s (sb_s (sb_s (sb_n sb_0))))) (t_X12_learns_98 hk15 h a0 x1 x2 x3 (-1) (hI h b36 x37.toNatClampNeg) x37 b36)
    · refine ao_s (st_iconst dX12_learns_66 ic_1) ?_
      refine ao_s (st_goto 98 dX12_learns_67 (by decide)) ?_
      exact ao_w (sb_s (sb_s (sb_s (sb_s (sb_n sb_0))))) (t_X12_learns_98 hk15 h a0 x1 x2 x3 1 (hI h b36 x37.toNatClampNeg) x37 b36)
def f_X12_learns_15 (n : Nat) : aH → Nat → Int32 → Int32 → Int32 → Option (Unit × aH) := aIt (fun _ _ _ _ _ => none) (fun k => b_X12_learns_15 k) n
theorem l_X12_learns_15 (n : Nat) : ∀ (h : aH) (a0 : Nat) (x1 : Int32) (x2 : Int32) (x3 : Int32), AO eV 4 kX12_learns 15 [some (.ref a0), some (.int x1), some (.int x2), some (.int x3), none] [] h (f_X12_learns_15 n h a0 x1 x2 x3) := by
  induction n with
  | zero => intros; exact ao_none
  | succ n ih =>
    intro h a0 x1 x2 x3
    exact t_X12_learns_15 ih h a0 x1 x2 x3
def f_X12_learns (h : aH) (a0 : Nat) (x1 : Int32) : Option (Unit × aH) :=
(if (sh a0).1 = 19 then
(aBind (f_X12_personOf h a0 0 x1 1) fun r22 h23 =>
(if 0 ≤ r22 then
f_X12_learns_15 2000 h23 a0 x1 r22 0
else
some ((), h23)))
else none)
set_option maxHeartbeats 2000000 in
theorem s_X12_learns (h : aH) (a0 : Nat) (x1 : Int32) : SO eV 4 kX12_learns [.ref a0, .int x1] h (f_X12_learns h a0 x1) := by
  refine so_of (lv0 := [some (.ref a0), some (.int x1), none, none, none]) pn_X12 (Nat.le_of_ble_eq_true rfl) rfl ?_
  unfold f_X12_learns
  refine ao_s (st_aload_n dX12_learns_0 rfl rfl) ?_
  refine ao_s (st_iconst dX12_learns_1 ic_0) ?_
  refine ao_s (st_iload_n dX12_learns_2 rfl rfl) ?_
  refine ao_s (st_iconst dX12_learns_3 ic_1) ?_
  refine ao_chk (fun e21 => ?_)
  refine ao_cVi (Kc := kX12_personOf) (As := [.int 0, .int x1, .int 1]) (st := []) dX12_learns_4 ml_X12_301 mv_X12_personOf rfl e21 (by decide) rfl rfl (Nat.le_of_ble_eq_true rfl) (by decide) (s_X12_personOf h a0 0 x1 1) (fun r22 h23 => ?_)
  refine ao_s (st_istore_n (lv' := [some (.ref a0), some (.int x1), some (.int r22), none, none]) dX12_learns_7 rfl (by decide) rfl) ?_
  refine ao_s (st_iload_n dX12_learns_8 rfl rfl) ?_
  refine ao_br (br_if_ge (tgt := 13) dX12_learns_9 (by decide)) (fun c24 => ?_) (fun c24 => ?_)
  · refine ao_s (st_iconst dX12_learns_13 ic_0) ?_
    refine ao_s (st_istore_n (lv' := [some (.ref a0), some (.int x1), some (.int r22), some (.int 0), none]) dX12_learns_14 rfl (by decide) rfl) ?_
    exact ao_w (sb_s (sb_s (sb_s (sb_s (sb_n sb_0))))) (l_X12_learns_15 2000 h23 a0 x1 r22 0)
  · exact ao_vr dX12_learns_12 rfl
