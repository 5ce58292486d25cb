def b_X12_isles_109 (k87 : aH → Nat → Int32 → Int32 → Int32 → Int32 → Int32 → Int32 → Int32 → Int32 → Option (Int32 × aH)) (h : aH) (a0 : Nat) (x1 : Int32) (x2 : Int32) (x3 : Int32) (x4 : Int32) (x5 : Int32) (x6 : Int32) (x7 : Int32) (x8 : Int32) (s0 : Int32) (s1 : Nat) : Option (Int32 × aH) :=
(if (sh s1).1 = 19 then
(if s0 = 0 ∨ s0 = 1 then
(aLet (pI h s1 23 s0) fun h23 =>
(if (sh a0).1 = 19 then
(aBind (f_X12_passes h23 a0) fun r25 h26 =>
(aLet (x6 + r25) fun x27 =>
k87 h26 a0 x1 x2 x3 x4 x5 x27 x7 (x8 + 1)))
else none))
else none)
else none)
set_option maxHeartbeats 2000000 in
theorem t_X12_isles_109 {k87 : aH → Nat → Int32 → Int32 → Int32 → Int32 → Int32 → Int32 → Int32 → Int32 → Option (Int32 × aH)} (hk87 : ∀ (h : aH) (a0 : Nat) (x1 : Int32) (x2 : Int32) (x3 : Int32) (x4 : Int32) (x5 : Int32) (x6 : Int32) (x7 : Int32) (x8 : Int32), AO eI 8 kX12_isles 87 [some (.ref a0), some (.int x1), some (.int x2), some (.int x3), some (.int x4), some (.int x5), some (.int x6), some (.int x7), some (.int x8)] [] h (k87 h a0 x1 x2 x3 x4 x5 x6 x7 x8)) (h : aH) (a0 : Nat) (x1 : Int32) (x2 : Int32) (x3 : Int32) (x4 : Int32) (x5 : Int32) (x6 : Int32) (x7 : Int32) (x8 : Int32) (s0 : Int32) (s1 : Nat) : AO eI 8 kX12_isles 109 [some (.ref a0), some (.int x1), some (.int x2), some (.int x3), some (.int x4), some (.int x5), some (.int x6), some (.int x7), some (.int x8)] [.int s0, .ref s1] h (b_X12_isles_109 k87 h a0 x1 x2 x3 x4 x5 x6 x7 x8 s0 s1) := by
  unfold b_X12_isles_109
  refine ao_chk (fun e21 => ?_)
  refine ao_chk (fun c22 => ?_)
  refine ao_putI dX12_isles_109 fl_X12_311 rfl rfl (nz c22).1 (nz c22).2 e21 ?_
  refine ao_letH (fun h23 => ?_)
  refine ao_s (st_iload dX12_isles_112 rfl) ?_
  refine ao_s (st_aload_n dX12_isles_114 rfl rfl) ?_
  refine ao_chk (fun e24 => ?_)
  refine ao_cVi (Kc := kX12_passes) (As := []) (st := [.int x6]) dX12_isles_115 ml_X12_374 mv_X12_passes rfl e24 (by decide) rfl rfl (Nat.le_of_ble_eq_true rfl) (by decide) (s_X12_passes h23 a0) (fun r25 h26 => ?_)
  refine ao_s (st_iadd dX12_isles_118) ?_
  refine ao_letI (fun x27 => ?_)
  refine ao_s (st_istore (lv' := [some (.ref a0), some (.int x1), some (.int x2), some (.int x3), some (.int x4), some (.int x5), some (.int x27), some (.int x7), some (.int x8)]) dX12_isles_119 (by decide) rfl) ?_
  refine ao_s (st_iinc (lv' := [some (.ref a0), some (.int x1), some (.int x2), some (.int x3), some (.int x4), some (.int x5), some (.int x27), some (.int x7), some (.int (x8 + 1))]) dX12_isles_121 rfl nc_1 (by decide) rfl) ?_
  refine ao_s (st_goto 87 dX12_isles_124 (by decide)) ?_
  exact ao_w (sb_s (sb_s (sb_s (sb_s (sb_s (sb_s (sb_s (sb_s (sb_s sb_0))))))))) (hk87 h26 a0 x1 x2 x3 x4 x5 x27 x7 (x8 + 1))
def b_X12_isles_87 (k78 : aH → Nat → Int32 → Int32 → Int32 → Int32 → Int32 → Int32 → Int32 → Option (Int32 × aH)) (k87 : aH → Nat → Int32 → Int32 → Int32 → Int32 → Int32 → Int32 → Int32 → Int32 → Option (Int32 × aH)) (h : aH) (a0 : Nat) (x1 : Int32) (x2 : Int32) (x3 : Int32) (x4 : Int32) (x5 : Int32) (x6 : Int32) (x7 : Int32) (x8 : Int32) : Option (Int32 × aH) :=
(if x2 ≤ x8 then
(if (sh a0).1 = 19 then
(aBind (f_X12_joinedOf h a0 0) fun r22 h23 =>
(aBind (f_X12_bits h23 r22) fun r24 h25 =>
(aLet (x5 + r24) fun x26 =>
(aBind (f_X12_laysBack h25 a0) fun r27 h28 =>
k78 h28 a0 x1 x2 x3 x4 x26 x6 (x7 + 1)))))
else none)
else
(if (sh a0).1 = 19 then
(aBind (f_X12_draw h a0 100) fun r30 h31 =>
(if x3 ≤ r30 then
b_X12_isles_109 k87 h31 a0 x1 x2 x3 x4 x5 x6 x7 x8 0 a0
else
b_X12_isles_109 k87 h31 a0 x1 x2 x3 x4 x5 x6 x7 x8 1 a0))
else none))
set_option maxHeartbeats 2000000 in
theorem t_X12_isles_87 {k78 : aH → Nat → Int32 → Int32 → Int32 → Int32 → Int32 → Int32 → Int32 → Option (Int32 × aH)} (hk78 : ∀ (h : aH) (a0 : Nat) (x1 : Int32) (x2 : Int32) (x3 : Int32) (x4 : Int32) (x5 : Int32) (x6 : Int32) (x7 : Int32), AO eI 8 kX12_isles 78 [some (.ref a0), some (.int x1), some (.int x2), some (.int x3), some (.int x4), some (.int x5), some (.int x6), some (.int x7), none] [] h (k78 h a0 x1 x2 x3 x4 x5 x6 x7)) {k87 : aH → Nat → Int32 → Int32 → Int32 → Int32 → Int32 → Int32 → Int32 → Int32 → Option (Int32 × aH)} (hk87 : ∀ (h : aH) (a0 : Nat) (x1 : Int32) (x2 : Int32) (x3 : Int32) (x4 : Int32) (x5 : Int32) (x6 : Int32) (x7 : Int32) (x8 : Int32), AO eI 8 kX12_isles 87 [some (.ref a0), some (.int x1), some (.int x2), some (.int x3), some (.int x4), some (.int x5), some (.int x6), some (.int x7), some (.int x8)] [] h (k87 h a0 x1 x2 x3 x4 x5 x6 x7 x8)) (h : aH) (a0 : Nat) (x1 : Int32) (x2 : Int32) (x3 : Int32) (x4 : Int32) (x5 : Int32) (x6 : Int32) (x7 : Int32) (x8 : Int32) : AO eI 8 kX12_isles 87 [some (.ref a0), some (.int x1), some (.int x2), some (.int x3), some (.int x4), some (.int x5), some (.int x6), some (.int x7), some (.int x8)] [] h (b_X12_isles_87 k78 k87 h a0 x1 x2 x3 x4 x5 x6 x7 x8) := by
  unfold b_X12_isles_87
  refine ao_s (st_iload dX12_isles_87 rfl) ?_
  refine ao_s (st_iload_n dX12_isles_89 rfl rfl) ?_
  refine ao_br (br_icmp_ge (tgt := 127) dX12_isles_90 (by decide)) (fun c33 => ?_) (fun c33 => ?_)
  · refine ao_s (st_iload dX12_isles_127 rfl) ?_
    refine ao_s (st_aload_n dX12_isles_129 rfl rfl) ?_
    refine ao_s (st_iconst dX12_isles_130 ic_0) ?_
    refine ao_chk (fun e21 => ?_)
    refine ao_cVi (Kc := kX12_joinedOf) (As := [.int 0]) (st := [.int x5]) dX12_isles_131 ml_X12_465 mv_X12_joinedOf rfl e21 (by decide) rfl rfl (Nat.le_of_ble_eq_true rfl) (by decide) (s_X12_joinedOf h a0 0) (fun r22 h23 => ?_)
    refine ao_cSi (Kc := kX12_bits) (As := [.int r22]) (st := [.int x5]) dX12_isles_134 ml_X12_383 ms_X12_bits rfl rfl (Nat.le_of_ble_eq_true rfl) (by decide) (s_X12_bits h23 r22) (fun r24 h25 => ?_)
    refine ao_s (st_iadd dX12_isles_137) ?_
    refine ao_letI (fun x26 => ?_)
    refine ao_s (st_istore (lv' := [some (.ref a0), some (.int x1), some (.int x2), some (.int x3), some (.int x4), some (.int x26), some (.int x6), some (.int x7), some (.int x8)]) dX12_isles_138 (by decide) rfl) ?_
    refine ao_s (st_aload_n dX12_isles_140 rfl rfl) ?_
    refine ao_cVv (Kc := kX12_laysBack) (As := []) (st := []) dX12_isles_141 ml_X12_397 mv_X12_laysBack rfl e21 (by decide) rfl rfl (Nat.le_of_ble_eq_true rfl) (by decide) (s_X12_laysBack h25 a0) (fun r27 h28 => ?_)
    refine ao_s (st_iinc (lv' := [some (.ref a0), some (.int x1), some (.int x2), some (.int x3), some (.int x4), some (.int x26), some (.int x6), some (.int (x7 + 1)), some (.int x8)]) dX12_isles_144 rfl nc_1 (by decide) rfl) ?_
    refine ao_s (st_goto 78 dX12_isles_147 (by decide)) ?_
    exact ao_w (sb_s (sb_s (sb_s (sb_s (sb_s (sb_s (sb_s (sb_s (sb_n sb_0))))))))) (hk78 h28 a0 x1 x2 x3 x4 x26 x6 (x7 + 1))
  · refine ao_s (st_aload_n dX12_isles_93 rfl rfl) ?_
    refine ao_s (st_aload_n dX12_isles_94 rfl rfl) ?_
    refine ao_s (st_bipush dX12_isles_95 bp_100) ?_
    refine ao_chk (fun e29 => ?_)
    refine ao_cVi (Kc := kX12_draw) (As := [.int 100]) (st := [.ref a0]) dX12_isles_97 ml_X12_462 mv_X12_draw rfl e29 (by decide) rfl rfl (Nat.le_of_ble_eq_true rfl) (by decide) (s_X12_draw h a0 100) (fun r30 h31 => ?_)
    refine ao_s (st_iload_n dX12_isles_100 rfl rfl) ?_
    refine ao_br (br_icmp_ge (tgt := 108) dX12_isles_101 (by decide)) (fun c32 => ?_) (fun c32 => ?_)
    · refine ao_s (st_iconst dX12_isles_108 ic_0) ?_
      exact ao_w (sb_s (sb_s (sb_s (sb_s (sb_s (sb_s (sb_s (sb_s (sb_s sb_0))))))))) (t_X12_isles_109 hk87 h31 a0 x1 x2 x3 x4 x5 x6 x7 x8 0 a0)
    · refine ao_s (st_iconst dX12_isles_104 ic_1) ?_
      refine ao_s (st_goto 109 dX12_isles_105 (by decide)) ?_
      exact ao_w (sb_s (sb_s (sb_s (sb_s (sb_s (sb_s (sb_s (sb_s (sb_s sb_0))))))))) (t_X12_isles_109 hk87 h31 a0 x1 x2 x3 x4 x5 x6 x7 x8 1 a0)
def f_X12_isles_87 (k78 : aH → Nat → Int32 → Int32 → Int32 → Int32 → Int32 → Int32 → Int32 → Option (Int32 × aH)) (n : Nat) : aH → Nat → Int32 → Int32 → Int32 → Int32 → Int32 → Int32 → Int32 → Int32 → Option (Int32 × aH) := aIt (fun _ _ _ _ _ _ _ _ _ _ => none) (fun k => b_X12_isles_87 k78 k) n
theorem l_X12_isles_87 {k78 : aH → Nat → Int32 → Int32 → Int32 → Int32 → Int32 → Int32 → Int32 → Option (Int32 × aH)} (hk78 : ∀ (h : aH) (a0 : Nat) (x1 : Int32) (x2 : Int32) (x3 : Int32) (x4 : Int32) (x5 : Int32) (x6 : Int32) (x7 : Int32), AO eI 8 kX12_isles 78 [some (.ref a0), some (.int x1), some (.int x2), some (.int x3), some (.int x4), some (.int x5), some (.int x6), some (.int x7), none] [] h (k78 h a0 x1 x2 x3 x4 x5 x6 x7)) (n : Nat) : ∀ (h : aH) (a0 : Nat) (x1 : Int32) (x2 : Int32) (x3 : Int32) (x4 : Int32) (x5 : Int32) (x6 : Int32) (x7 : Int32) (x8 : Int32), AO eI 8 kX12_isles 87 [some (.ref a0), some (.int x1), some (.int x2), some (.int x3), some (.int x4), some (.int x5), some (.int x6), some (.int x7), some (.int x8)] [] h (f_X12_isles_87 k78 n h a0 x1 x2 x3 x4 x5 x6 x7 x8) := by
  induction n with
  | zero => intros; exact ao_none
  | succ n ih =>
    intro h a0 x1 x2 x3 x4 x5 x6 x7 x8
    exact t_X12_isles_87 hk78 ih h a0 x1 x2 x3 x4 x5 x6 x7 x8
def b_X12_isles_78 (k78 : aH → Nat → Int32 → Int32 → Int32 → Int32 → Int32 → Int32 → Int32 → Option (Int32 × aH)) (h : aH) (a0 : Nat) (x1 : Int32) (x2 : Int32) (x3 : Int32) (x4 : Int32) (x5 : Int32) (x6 : Int32) (x7 : Int32) : Option (Int32 × aH) :=
(if x1 ≤ x7 then
(if (sh a0).1 = 19 then
(aLet (pI h a0 23 0) fun h22 =>
(if x4 = 0 then
some (x5, h22)
else
some (x6, h22)))
else none)
else
f_X12_isles_87 k78 2000 h a0 x1 x2 x3 x4 x5 x6 x7 0)
set_option maxHeartbeats 2000000 in
theorem t_X12_isles_78 {k78 : aH → Nat → Int32 → Int32 → Int32 → Int32 → Int32 → Int32 → Int32 → Option (Int32 × aH)} (hk78 : ∀ (h : aH) (a0 : Nat) (x1 : Int32) (x2 : Int32) (x3 : Int32) (x4 : Int32) (x5 : Int32) (x6 : Int32) (x7 : Int32), AO eI 8 kX12_isles 78 [some (.ref a0), some (.int x1), some (.int x2), some (.int x3), some (.int x4), some (.int x5), some (.int x6), some (.int x7), none] [] h (k78 h a0 x1 x2 x3 x4 x5 x6 x7)) (h : aH) (a0 : Nat) (x1 : Int32) (x2 : Int32) (x3 : Int32) (x4 : Int32) (x5 : Int32) (x6 : Int32) (x7 : Int32) : AO eI 8 kX12_isles 78 [some (.ref a0), some (.int x1), some (.int x2), some (.int x3), some (.int x4), some (.int x5), some (.int x6), some (.int x7), none] [] h (b_X12_isles_78 k78 h a0 x1 x2 x3 x4 x5 x6 x7) := by
  unfold b_X12_isles_78
  refine ao_s (st_iload dX12_isles_78 rfl) ?_
  refine ao_s (st_iload_n dX12_isles_80 rfl rfl) ?_
  refine ao_br (br_icmp_ge (tgt := 150) dX12_isles_81 (by decide)) (fun c24 => ?_) (fun c24 => ?_)
  · refine ao_s (st_aload_n dX12_isles_150 rfl rfl) ?_
    refine ao_s (st_iconst dX12_isles_151 ic_0) ?_
    refine ao_chk (fun e21 => ?_)
    refine ao_putI dX12_isles_152 fl_X12_311 rfl rfl (by decide) (by decide) e21 ?_
    refine ao_letH (fun h22 => ?_)
    refine ao_s (st_iload dX12_isles_155 rfl) ?_
    refine ao_br (br_if_ne (tgt := 165) dX12_isles_157 (by decide)) (fun c23 => ?_) (fun c23 => ?_)
    · refine ao_s (st_iload dX12_isles_160 rfl) ?_
      refine ao_s (st_goto 167 dX12_isles_162 (by decide)) ?_
      exact ao_ir dX12_isles_167 rfl rfl
    · refine ao_s (st_iload dX12_isles_165 rfl) ?_
      exact ao_ir dX12_isles_167 rfl rfl
  · refine ao_s (st_iconst dX12_isles_84 ic_0) ?_
    refine ao_s (st_istore (lv' := [some (.ref a0), some (.int x1), some (.int x2), some (.int x3), some (.int x4), some (.int x5), some (.int x6), some (.int x7), some (.int 0)]) dX12_isles_85 (by decide) rfl) ?_
    exact ao_w (sb_s (sb_s (sb_s (sb_s (sb_s (sb_s (sb_s (sb_s (sb_s sb_0))))))))) (l_X12_isles_87 hk78 2000 h a0 x1 x2 x3 x4 x5 x6 x7 0)
def f_X12_isles_78 (n : Nat) : aH → Nat → Int32 → Int32 → Int32 → Int32 → Int32 → Int32 → Int32 → Option (Int32 × aH) := aIt (fun _ _ _ _ _ _ _ _ _ => none) (fun k => b_X12_isles_78 k) n
theorem l_X12_isles_78 (n : Nat) : ∀ (h : aH) (a0 : Nat) (x1 : Int32) (x2 : Int32) (x3 : Int32) (x4 : Int32) (x5 : Int32) (x6 : Int32) (x7 : Int32), AO eI 8 kX12_isles 78 [some (.ref a0), some (.int x1), some (.int x2), some (.int x3), some (.int x4), some (.int x5), some (.int x6), some (.int x7), none] [] h (f_X12_isles_78 n h a0 x1 x2 x3 x4 x5 x6 x7) := by
  induction n with
  | zero => intros; exact ao_none
  | succ n ih =>
    intro h a0 x1 x2 x3 x4 x5 x6 x7
    exact t_X12_isles_78 ih h a0 x1 x2 x3 x4 x5 x6 x7
def f_X12_isles (h : aH) (a0 : Nat) (x1 : Int32) (x2 : Int32) (x3 : Int32) (x4 : Int32) : Option (Int32 × aH) :=
(if (sh a0).1 = 19 then
(aBind (f_X12_isIsle h a0) fun r22 h23 =>
(if r22 = 0 then
some ((-1), h23)
else
(aBind (f_X12_in h23 x1.toInt64 1 10) fun r24 h25 =>
(if r24 = 0 then
some ((-1), h25)
else
(aBind (f_X12_in h25 x2.toInt64 1 30) fun r26 h27 =>
(if r26 = 0 then
some ((-1), h27)
else
(aBind (f_X12_in h27 x3.toInt64 0 100) fun r28 h29 =>
(if r28 = 0 then
some ((-1), h29)
else
(aBind (f_X12_in h29 x4.toInt64 0 1) fun r30 h31 =>
(if r30 = 0 then
some ((-1), h31)
else
(aLet (pL h31 a0 35 ((hI h31 a0 22).toInt64)) fun h32 =>
(aBind (f_X12_keeps h32 a0) fun r33 h34 =>
f_X12_isles_78 2000 h34 a0 x1 x2 x3 x4 0 0 0))))))))))))
else none)
set_option maxHeartbeats 2000000 in
theorem s_X12_isles (h : aH) (a0 : Nat) (x1 : Int32) (x2 : Int32) (x3 : Int32) (x4 : Int32) : SO eI 8 kX12_isles [.ref a0, .int x1, .int x2, .int x3, .int x4] h (f_X12_isles h a0 x1 x2 x3 x4) := by
  refine so_of (lv0 := [some (.ref a0), some (.int x1), some (.int x2), some (.int x3), some (.int x4), none, none, none, none]) pn_X12 (Nat.le_of_ble_eq_true rfl) rfl ?_
  unfold f_X12_isles
  refine ao_s (st_aload_n dX12_isles_0 rfl rfl) ?_
  refine ao_chk (fun e21 => ?_)
  refine ao_cVi (Kc := kX12_isIsle) (As := []) (st := []) dX12_isles_1 ml_X12_368 mv_X12_isIsle rfl e21 (by decide) rfl rfl (Nat.le_of_ble_eq_true rfl) (by decide) (s_X12_isIsle h a0) (fun r22 h23 => ?_)
  refine ao_br (br_if_eq (tgt := 54) dX12_isles_4 (by decide)) (fun c39 => ?_) (fun c39 => ?_)
  · refine ao_s (st_iconst dX12_isles_54 ic_m1) ?_
    exact ao_ir dX12_isles_55 rfl rfl
  · refine ao_s (st_iload_n dX12_isles_7 rfl rfl) ?_
    refine ao_s (st_i2l dX12_isles_8) ?_
    refine ao_s (st_lconst dX12_isles_9 lc_1) ?_
    refine ao_s (st_ldc2 dX12_isles_10 cl_X12_458) ?_
    refine ao_cSi (Kc := kX12_in) (As := [.long x1.toInt64, .long 1, .long 10]) (st := []) dX12_isles_13 ml_X12_127 ms_X12_in rfl rfl (Nat.le_of_ble_eq_true rfl) (by decide) (s_X12_in h23 x1.toInt64 1 10) (fun r24 h25 => ?_)
    refine ao_br (br_if_eq (tgt := 54) dX12_isles_16 (by decide)) (fun c38 => ?_) (fun c38 => ?_)
    · refine ao_s (st_iconst dX12_isles_54 ic_m1) ?_
      exact ao_ir dX12_isles_55 rfl rfl
    · refine ao_s (st_iload_n dX12_isles_19 rfl rfl) ?_
      refine ao_s (st_i2l dX12_isles_20) ?_
      refine ao_s (st_lconst dX12_isles_21 lc_1) ?_
      refine ao_s (st_ldc2 dX12_isles_22 cl_X12_417) ?_
      refine ao_cSi (Kc := kX12_in) (As := [.long x2.toInt64, .long 1, .long 30]) (st := []) dX12_isles_25 ml_X12_127 ms_X12_in rfl rfl (Nat.le_of_ble_eq_true rfl) (by decide) (s_X12_in h25 x2.toInt64 1 30) (fun r26 h27 => ?_)
      refine ao_br (br_if_eq (tgt := 54) dX12_isles_28 (by decide)) (fun c37 => ?_) (fun c37 => ?_)
      · refine ao_s (st_iconst dX12_isles_54 ic_m1) ?_
        exact ao_ir dX12_isles_55 rfl rfl
      · refine ao_s (st_iload_n dX12_isles_31 rfl rfl) ?_
        refine ao_s (st_i2l dX12_isles_32) ?_
        refine ao_s (st_lconst dX12_isles_33 lc_0) ?_
        refine ao_s (st_ldc2 dX12_isles_34 cl_X12_460) ?_
        refine ao_cSi (Kc := kX12_in) (As := [.long x3.toInt64, .long 0, .long 100]) (st := []) dX12_isles_37 ml_X12_127 ms_X12_in rfl rfl (Nat.le_of_ble_eq_true rfl) (by decide) (s_X12_in h27 x3.toInt64 0 100) (fun r28 h29 => ?_)
        refine ao_br (br_if_eq (tgt := 54) dX12_isles_40 (by decide)) (fun c36 => ?_) (fun c36 => ?_)
        · refine ao_s (st_iconst dX12_isles_54 ic_m1) ?_
          exact ao_ir dX12_isles_55 rfl rfl
        · refine ao_s (st_iload dX12_isles_43 rfl) ?_
          refine ao_s (st_i2l dX12_isles_45) ?_
          refine ao_s (st_lconst dX12_isles_46 lc_0) ?_
          refine ao_s (st_lconst dX12_isles_47 lc_1) ?_
          refine ao_cSi (Kc := kX12_in) (As := [.long x4.toInt64, .long 0, .long 1]) (st := []) dX12_isles_48 ml_X12_127 ms_X12_in rfl rfl (Nat.le_of_ble_eq_true rfl) (by decide) (s_X12_in h29 x4.toInt64 0 1) (fun r30 h31 => ?_)
          refine ao_br (br_if_ne (tgt := 56) dX12_isles_51 (by decide)) (fun c35 => ?_) (fun c35 => ?_)
          · refine ao_s (st_iconst dX12_isles_54 ic_m1) ?_
            exact ao_ir dX12_isles_55 rfl rfl
          · refine ao_s (st_aload_n dX12_isles_56 rfl rfl) ?_
            refine ao_s (st_aload_n dX12_isles_57 rfl rfl) ?_
            refine ao_getI dX12_isles_58 fl_X12_443 rfl e21 ?_
            refine ao_s (st_i2l dX12_isles_61) ?_
            refine ao_putL dX12_isles_62 fl_X12_446 rfl rfl rfl rfl e21 ?_
            refine ao_letH (fun h32 => ?_)
            refine ao_s (st_iconst dX12_isles_65 ic_0) ?_
            refine ao_s (st_istore (lv' := [some (.ref a0), some (.int x1), some (.int x2), some (.int x3), some (.int x4), some (.int 0), none, none, none]) dX12_isles_66 (by decide) rfl) ?_
            refine ao_s (st_iconst dX12_isles_68 ic_0) ?_
            refine ao_s (st_istore (lv' := [some (.ref a0), some (.int x1), some (.int x2), some (.int x3), some (.int x4), some (.int 0), some (.int 0), none, none]) dX12_isles_69 (by decide) rfl) ?_
            refine ao_s (st_aload_n dX12_isles_71 rfl rfl) ?_
            refine ao_cVv (Kc := kX12_keeps) (As := []) (st := []) dX12_isles_72 ml_X12_391 mv_X12_keeps rfl e21 (by decide) rfl rfl (Nat.le_of_ble_eq_true rfl) (by decide) (s_X12_keeps h32 a0) (fun r33 h34 => ?_)
            refine ao_s (st_iconst dX12_isles_75 ic_0) ?_
            refine ao_s (st_istore (lv' := [some (.ref a0), some (.int x1), some (.int x2), some (.int x3), some (.int x4), some (.int 0), some (.int 0), some (.int 0), none]) dX12_isles_76 (by decide) rfl) ?_
            exact ao_w (sb_s (sb_s (sb_s (sb_s (sb_s (sb_s (sb_s (sb_s (sb_n sb_0))))))))) (l_X12_isles_78 2000 h34 a0 x1 x2 x3 x4 0 0 0)
def f_X12_count (h : aH) (a0 : Nat) (x1 : Int32) : Option (Int32 × aH) :=
(if x1 = 0 then
(if (sh a0).1 = 19 then
((hR h a0 20).bind fun b37 =>
(aLet (x1 + 1) fun x38 =>
(if (sh b37).1 = 0 then
(if aIn x38 (sh b37).2 then
some (hI h b37 x38.toNatClampNeg, h)
else none)
else none)))
else none)
else
(if x1 = 1 then
(if (sh a0).1 = 19 then
((hR h a0 20).bind fun b41 =>
(aLet (x1 + 1) fun x42 =>
(if (sh b41).1 = 0 then
(if aIn x42 (sh b41).2 then
some (hI h b41 x42.toNatClampNeg, h)
else none)
else none)))
else none)
else
(if x1 = 2 then
(if (sh a0).1 = 19 then
((hR h a0 20).bind fun b45 =>
(aLet (x1 + 1) fun x46 =>
(if (sh b45).1 = 0 then
(if aIn x46 (sh b45).2 then
some (hI h b45 x46.toNatClampNeg, h)
else none)
else none)))
else none)
else
(if x1 = 3 then
(if (sh a0).1 = 19 then
((hR h a0 20).bind fun b49 =>
(aLet (x1 + 1) fun x50 =>
(if (sh b49).1 = 0 then
(if aIn x50 (sh b49).2 then
some (hI h b49 x50.toNatClampNeg, h)
else none)
else none)))
else none)
else
(if x1 = 4 then
(if (sh a0).1 = 19 then
some (hI h a0 2, h)
else none)
else
(if x1 = 5 then
(if (sh a0).1 = 19 then
some (hI h a0 21, h)
else none)
else
(if x1 = 6 then
(if (sh a0).1 = 19 then
((hR h a0 20).bind fun b55 =>
(if (sh b55).1 = 0 then
(if aIn 10 (sh b55).2 then
some (hI h b55 (10 : Int32).toNatClampNeg, h)
else none)
else none))
else none)
else
(if x1 = 7 then
(if (sh a0).1 = 19 then
(aBind (f_X12_joinedOf h a0 0) fun r58 h59 =>
some (r58, h59))
else none)
else
(if x1 = 8 then
(if (sh a0).1 = 19 then
(aBind (f_X12_joinedOf h a0 1) fun r61 h62 =>
some (r61, h62))
else none)
else
(if x1 = 9 then
(if (sh a0).1 = 19 then
((hR h a0 20).bind fun b64 =>
(if (sh b64).1 = 0 then
(if aIn 10 (sh b64).2 then
(aBind (f_X12_isLate h a0 (hI h b64 (10 : Int32).toNatClampNeg)) fun r66 h67 =>
(if r66 = 0 then
some (0, h67)
else
some (1, h67)))
else none)
else none))
else none)
else
(if x1 = 10 then
(if (sh a0).1 = 19 then
(aBind (f_X12_lateYears h a0) fun r70 h71 =>
some (r70, h71))
else none)
else
(if x1 = 11 then
(if (sh a0).1 = 19 then
((hR h a0 20).bind fun b73 =>
(if (sh b73).1 = 0 then
(if aIn 183 (sh b73).2 then
some (hI h b73 (183 : Int32).toNatClampNeg, h)
else none)
else none))
else none)
else
(if x1 = 12 then
(if (sh a0).1 = 19 then
some (hI h a0 29, h)
else none)
else
(if x1 = 13 then
(if (sh a0).1 = 19 then
some (hI h a0 22, h)
else none)
else
(if x1 = 14 then
(if (sh a0).1 = 19 then
some (hI h a0 1, h)
else none)
else
some ((-1), h))))))))))))))))
set_option maxHeartbeats 2000000 in
theorem s_X12_count (h : aH) (a0 : Nat) (x1 : Int32) : SO eI 6 kX12_count [.ref a0, .int x1] h (f_X12_count h a0 x1) := by
  refine so_of (lv0 := [some (.ref a0), some (.int x1)]) pn_X12 (Nat.le_of_ble_eq_true rfl) rfl ?_
  unfold f_X12_count
  refine ao_s (st_iload_n dX12_count_0 rfl rfl) ?_
  refine ao_ite (fun c21 => ?_) (fun c21 => ?_)
  · refine ao_s (st_tabIn (v := 0) (off := 75) (tgt := 76) c21 dX12_count_1 (by decide) (by decide)) ?_
    refine ao_s (st_aload_n dX12_count_76 rfl rfl) ?_
    refine ao_chk (fun e36 => ?_)
    refine ao_getR dX12_count_77 fl_X12_39 rfl e36 (fun b37 => ?_)
    refine ao_s (st_iload_n dX12_count_80 rfl rfl) ?_
    refine ao_s (st_iconst dX12_count_81 ic_1) ?_
    refine ao_s (st_iadd dX12_count_82) ?_
    refine ao_letI (fun x38 => ?_)
    refine ao_chk (fun e39 => ?_)
    refine ao_iald dX12_count_83 e39 ?_
    exact ao_ir dX12_count_84 rfl rfl
  · refine ao_ite (fun c22 => ?_) (fun c22 => ?_)
    · refine ao_s (st_tabIn (v := 1) (off := 75) (tgt := 76) c22 dX12_count_1 (by decide) (by decide)) ?_
      refine ao_s (st_aload_n dX12_count_76 rfl rfl) ?_
      refine ao_chk (fun e40 => ?_)
      refine ao_getR dX12_count_77 fl_X12_39 rfl e40 (fun b41 => ?_)
      refine ao_s (st_iload_n dX12_count_80 rfl rfl) ?_
      refine ao_s (st_iconst dX12_count_81 ic_1) ?_
      refine ao_s (st_iadd dX12_count_82) ?_
      refine ao_letI (fun x42 => ?_)
      refine ao_chk (fun e43 => ?_)
      refine ao_iald dX12_count_83 e43 ?_
      exact ao_ir dX12_count_84 rfl rfl
    · refine ao_ite (fun c23 => ?_) (fun c23 => ?_)
      · refine ao_s (st_tabIn (v := 2) (off := 75) (tgt := 76) c23 dX12_count_1 (by decide) (by decide)) ?_
        refine ao_s (st_aload_n dX12_count_76 rfl rfl) ?_
        refine ao_chk (fun e44 => ?_)
        refine ao_getR dX12_count_77 fl_X12_39 rfl e44 (fun b45 => ?_)
        refine ao_s (st_iload_n dX12_count_80 rfl rfl) ?_
        refine ao_s (st_iconst dX12_count_81 ic_1) ?_
        refine ao_s (st_iadd dX12_count_82) ?_
        refine ao_letI (fun x46 => ?_)
        refine ao_chk (fun e47 => ?_)
        refine ao_iald dX12_count_83 e47 ?_
        exact ao_ir dX12_count_84 rfl rfl
      · refine ao_ite (fun c24 => ?_) (fun c24 => ?_)
        · refine ao_s (st_tabIn (v := 3) (off := 75) (tgt := 76) c24 dX12_count_1 (by decide) (by decide)) ?_
          refine ao_s (st_aload_n dX12_count_76 rfl rfl) ?_
          refine ao_chk (fun e48 => ?_)
          refine ao_getR dX12_count_77 fl_X12_39 rfl e48 (fun b49 => ?_)
          refine ao_s (st_iload_n dX12_count_80 rfl rfl) ?_
          refine ao_s (st_iconst dX12_count_81 ic_1) ?_
          refine ao_s (st_iadd dX12_count_82) ?_
          refine ao_letI (fun x50 => ?_)
          refine ao_chk (fun e51 => ?_)
          refine ao_iald dX12_count_83 e51 ?_
          exact ao_ir dX12_count_84 rfl rfl
        · refine ao_ite (fun c25 => ?_) (fun c25 => ?_)
          · refine ao_s (st_tabIn (v := 4) (off := 84) (tgt := 85) c25 dX12_count_1 (by decide) (by decide)) ?_
            refine ao_s (st_aload_n dX12_count_85 rfl rfl) ?_
            refine ao_chk (fun e52 => ?_)
            refine ao_getI dX12_count_86 fl_X12_270 rfl e52 ?_
            exact ao_ir dX12_count_89 rfl rfl
          · refine ao_ite (fun c26 => ?_) (fun c26 => ?_)
            · refine ao_s (st_tabIn (v := 5) (off := 89) (tgt := 90) c26 dX12_count_1 (by decide) (by decide)) ?_
              refine ao_s (st_aload_n dX12_count_90 rfl rfl) ?_
              refine ao_chk (fun e53 => ?_)
              refine ao_getI dX12_count_91 fl_X12_42 rfl e53 ?_
              exact ao_ir dX12_count_94 rfl rfl
            · refine ao_ite (fun c27 => ?_) (fun c27 => ?_)
              · refine ao_s (st_tabIn (v := 6) (off := 94) (tgt := 95) c27 dX12_count_1 (by decide) (by decide)) ?_
                refine ao_s (st_aload_n dX12_count_95 rfl rfl) ?_
                refine ao_chk (fun e54 => ?_)
                refine ao_getR dX12_count_96 fl_X12_39 rfl e54 (fun b55 => ?_)
                refine ao_s (st_bipush dX12_count_99 bp_10) ?_
                refine ao_chk (fun e56 => ?_)
                refine ao_iald dX12_count_101 e56 ?_
                exact ao_ir dX12_count_102 rfl rfl
              · refine ao_ite (fun c28 => ?_) (fun c28 => ?_)
                · refine ao_s (st_tabIn (v := 7) (off := 102) (tgt := 103) c28 dX12_count_1 (by decide) (by decide)) ?_
                  refine ao_s (st_aload_n dX12_count_103 rfl rfl) ?_
                  refine ao_s (st_iconst dX12_count_104 ic_0) ?_
                  refine ao_chk (fun e57 => ?_)
                  refine ao_cVi (Kc := kX12_joinedOf) (As := [.int 0]) (st := []) dX12_count_105 ml_X12_465 mv_X12_joinedOf rfl e57 (by decide) rfl rfl (Nat.le_of_ble_eq_true rfl) (by decide) (s_X12_joinedOf h a0 0) (fun r58 h59 => ?_)
                  exact ao_ir dX12_count_108 rfl rfl
                · refine ao_ite (fun c29 => ?_) (fun c29 => ?_)
                  · refine ao_s (st_tabIn (v := 8) (off := 108) (tgt := 109) c29 dX12_count_1 (by decide) (by decide)) ?_
                    refine ao_s (st_aload_n dX12_count_109 rfl rfl) ?_
                    refine ao_s (st_iconst dX12_count_110 ic_1) ?_
                    refine ao_chk (fun e60 => ?_)
                    refine ao_cVi (Kc := kX12_joinedOf) (As := [.int 1]) (st := []) dX12_count_111 ml_X12_465 mv_X12_joinedOf rfl e60 (by decide) rfl rfl (Nat.le_of_ble_eq_true rfl) (by decide) (s_X12_joinedOf h a0 1) (fun r61 h62 => ?_)
                    exact ao_ir dX12_count_114 rfl rfl
                  · refine ao_ite (fun c30 => ?_) (fun c30 => ?_)
                    · refine ao_s (st_tabIn (v := 9) (off := 114) (tgt := 115) c30 dX12_count_1 (by decide) (by decide)) ?_
                      refine ao_s (st_aload_n dX12_count_115 rfl rfl) ?_
                      refine ao_s (st_aload_n dX12_count_116 rfl rfl) ?_
                      refine ao_chk (fun e63 => ?_)
                      refine ao_getR dX12_count_117 fl_X12_39 rfl e63 (fun b64 => ?_)
                      refine ao_s (st_bipush dX12_count_120 bp_10) ?_
                      refine ao_chk (fun e65 => ?_)
                      refine ao_iald dX12_count_122 e65 ?_
                      refine ao_cVi (Kc := kX12_isLate) (As := [.int (hI h b64 (10 : Int32).toNatClampNeg)]) (st := []) dX12_count_123 ml_X12_315 mv_X12_isLate rfl e63 (by decide) rfl rfl (Nat.le_of_ble_eq_true rfl) (by decide) (s_X12_isLate h a0 (hI h b64 (10 : Int32).toNatClampNeg)) (fun r66 h67 => ?_)
                      refine ao_br (br_if_eq (tgt := 133) dX12_count_126 (by decide)) (fun c68 => ?_) (fun c68 => ?_)
                      · refine ao_s (st_iconst dX12_count_133 ic_0) ?_
                        exact ao_ir dX12_count_134 rfl rfl
                      · refine ao_s (st_iconst dX12_count_129 ic_1) ?_
                        refine ao_s (st_goto 134 dX12_count_130 (by decide)) ?_
                        exact ao_ir dX12_count_134 rfl rfl
                    · refine ao_ite (fun c31 => ?_) (fun c31 => ?_)
                      · refine ao_s (st_tabIn (v := 10) (off := 134) (tgt := 135) c31 dX12_count_1 (by decide) (by decide)) ?_
                        refine ao_s (st_aload_n dX12_count_135 rfl rfl) ?_
                        refine ao_chk (fun e69 => ?_)
                        refine ao_cVi (Kc := kX12_lateYears) (As := []) (st := []) dX12_count_136 ml_X12_386 mv_X12_lateYears rfl e69 (by decide) rfl rfl (Nat.le_of_ble_eq_true rfl) (by decide) (s_X12_lateYears h a0) (fun r70 h71 => ?_)
                        exact ao_ir dX12_count_139 rfl rfl
                      · refine ao_ite (fun c32 => ?_) (fun c32 => ?_)
                        · refine ao_s (st_tabIn (v := 11) (off := 139) (tgt := 140) c32 dX12_count_1 (by decide) (by decide)) ?_
                          refine ao_s (st_aload_n dX12_count_140 rfl rfl) ?_
                          refine ao_chk (fun e72 => ?_)
                          refine ao_getR dX12_count_141 fl_X12_39 rfl e72 (fun b73 => ?_)
                          refine ao_s (st_sipush dX12_count_144 sp_183) ?_
                          refine ao_chk (fun e74 => ?_)
                          refine ao_iald dX12_count_147 e74 ?_
                          exact ao_ir dX12_count_148 rfl rfl
                        · refine ao_ite (fun c33 => ?_) (fun c33 => ?_)
                          · refine ao_s (st_tabIn (v := 12) (off := 148) (tgt := 149) c33 dX12_count_1 (by decide) (by decide)) ?_
                            refine ao_s (st_aload_n dX12_count_149 rfl rfl) ?_
                            refine ao_chk (fun e75 => ?_)
                            refine ao_getI dX12_count_150 fl_X12_279 rfl e75 ?_
                            exact ao_ir dX12_count_153 rfl rfl
                          · refine ao_ite (fun c34 => ?_) (fun c34 => ?_)
                            · refine ao_s (st_tabIn (v := 13) (off := 153) (tgt := 154) c34 dX12_count_1 (by decide) (by decide)) ?_
                              refine ao_s (st_aload_n dX12_count_154 rfl rfl) ?_
                              refine ao_chk (fun e76 => ?_)
                              refine ao_getI dX12_count_155 fl_X12_443 rfl e76 ?_
                              exact ao_ir dX12_count_158 rfl rfl
                            · refine ao_ite (fun c35 => ?_) (fun c35 => ?_)
                              · refine ao_s (st_tabIn (v := 14) (off := 158) (tgt := 159) c35 dX12_count_1 (by decide) (by decide)) ?_
                                refine ao_s (st_aload_n dX12_count_159 rfl rfl) ?_
                                refine ao_chk (fun e77 => ?_)
                                refine ao_getI dX12_count_160 fl_X12_89 rfl e77 ?_
                                exact ao_ir dX12_count_163 rfl rfl
                              · refine ao_s (st_tabOut (tgt := 164) dX12_count_1 (by have q0 := lv_neT c21 (show (0 : Int32).toInt = 0 by decide); have q1 := lv_neT c22 (show (1 : Int32).toInt = 1 by decide); have q2 := lv_neT c23 (show (2 : Int32).toInt = 2 by decide); have q3 := lv_neT c24 (show (3 : Int32).toInt = 3 by decide); have q4 := lv_neT c25 (show (4 : Int32).toInt = 4 by decide); have q5 := lv_neT c26 (show (5 : Int32).toInt = 5 by decide); have q6 := lv_neT c27 (show (6 : Int32).toInt = 6 by decide); have q7 := lv_neT c28 (show (7 : Int32).toInt = 7 by decide); have q8 := lv_neT c29 (show (8 : Int32).toInt = 8 by decide); have q9 := lv_neT c30 (show (9 : Int32).toInt = 9 by decide); have q10 := lv_neT c31 (show (10 : Int32).toInt = 10 by decide); have q11 := lv_neT c32 (show (11 : Int32).toInt = 11 by decide); have q12 := lv_neT c33 (show (12 : Int32).toInt = 12 by decide); have q13 := lv_neT c34 (show (13 : Int32).toInt = 13 by decide); have q14 := lv_neT c35 (show (14 : Int32).toInt = 14 by decide); omega) (by decide)) ?_
                                refine ao_s (st_iconst dX12_count_164 ic_m1) ?_
                                exact ao_ir dX12_count_165 rfl rfl
def b_X12_image_43 (k43 : aH → Nat → Int32 → Int32 → Option (Int32 × aH)) (h : aH) (a0 : Nat) (x1 : Int32) (x2 : Int32) : Option (Int32 × aH) :=
(if 184 ≤ x2 then
(if (sh a0).1 = 19 then
((hR h a0 20).bind fun b22 =>
(if (sh b22).1 = 0 then
(if aIn 10 (sh b22).2 then
some (hI h b22 (10 : Int32).toNatClampNeg, h)
else none)
else none))
else none)
else
(if (sh a0).1 = 19 then
((hR h a0 36).bind fun b25 =>
((hR h a0 20).bind fun b26 =>
(if (sh b26).1 = 0 then
(if aIn x2 (sh b26).2 then
(aLet ((184 * x1) + x2) fun x28 =>
(if (sh b25).1 = 0 then
(if aIn x28 (sh b25).2 then
(aLet (pI h b25 x28.toNatClampNeg (hI h b26 x2.toNatClampNeg)) fun h30 =>
k43 h30 a0 x1 (x2 + 1))
else none)
else none))
else none)
else none)))
else none))
set_option maxHeartbeats 2000000 in
theorem t_X12_image_43 {k43 : aH → Nat → Int32 → Int32 → Option (Int32 × aH)} (hk43 : ∀ (h : aH) (a0 : Nat) (x1 : Int32) (x2 : Int32), AO eI 3 kX12_image 43 [some (.ref a0), some (.int x1), some (.int x2)] [] h (k43 h a0 x1 x2)) (h : aH) (a0 : Nat) (x1 : Int32) (x2 : Int32) : AO eI 3 kX12_image 43 [some (.ref a0), some (.int x1), some (.int x2)] [] h (b_X12_image_43 k43 h a0 x1 x2) := by
  unfold b_X12_image_43
  refine ao_s (st_iload_n dX12_image_43 rfl rfl) ?_
  refine ao_s (st_sipush dX12_image_44 sp_184) ?_
  refine ao_br (br_icmp_ge (tgt := 74) dX12_image_47 (by decide)) (fun c31 => ?_) (fun c31 => ?_)
  · refine ao_s (st_aload_n dX12_image_74 rfl rfl) ?_
    refine ao_chk (fun e21 => ?_)
    refine ao_getR dX12_image_75 fl_X12_39 rfl e21 (fun b22 => ?_)
    refine ao_s (st_bipush dX12_image_78 bp_10) ?_
    refine ao_chk (fun e23 => ?_)
    refine ao_iald dX12_image_80 e23 ?_
    exact ao_ir dX12_image_81 rfl rfl
  · refine ao_s (st_aload_n dX12_image_50 rfl rfl) ?_
    refine ao_chk (fun e24 => ?_)
    refine ao_getR dX12_image_51 fl_X12_77 rfl e24 (fun b25 => ?_)
    refine ao_s (st_sipush dX12_image_54 sp_184) ?_
    refine ao_s (st_iload_n dX12_image_57 rfl rfl) ?_
    refine ao_s (st_imul dX12_image_58) ?_
    refine ao_s (st_iload_n dX12_image_59 rfl rfl) ?_
    refine ao_s (st_iadd dX12_image_60) ?_
    refine ao_s (st_aload_n dX12_image_61 rfl rfl) ?_
    refine ao_getR dX12_image_62 fl_X12_39 rfl e24 (fun b26 => ?_)
    refine ao_s (st_iload_n dX12_image_65 rfl rfl) ?_
    refine ao_chk (fun e27 => ?_)
    refine ao_iald dX12_image_66 e27 ?_
    refine ao_let2 (fun x28 => ?_)
    refine ao_chk (fun e29 => ?_)
    refine ao_iast dX12_image_67 e29 ?_
    refine ao_letH (fun h30 => ?_)
    refine ao_s (st_iinc (lv' := [some (.ref a0), some (.int x1), some (.int (x2 + 1))]) dX12_image_68 rfl nc_1 (by decide) rfl) ?_
    refine ao_s (st_goto 43 dX12_image_71 (by decide)) ?_
    exact ao_w (sb_s (sb_s (sb_s sb_0))) (hk43 h30 a0 x1 (x2 + 1))
def f_X12_image_43 (n : Nat) : aH → Nat → Int32 → Int32 → Option (Int32 × aH) := aIt (fun _ _ _ _ => none) (fun k => b_X12_image_43 k) n
theorem l_X12_image_43 (n : Nat) : ∀ (h : aH) (a0 : Nat) (x1 : Int32) (x2 : Int32), AO eI 3 kX12_image 43 [some (.ref a0), some (.int x1), some (.int x2)] [] h (f_X12_image_43 n h a0 x1 x2) := by
  induction n with
  | zero => intros; exact ao_none
  | succ n ih =>
    intro h a0 x1 x2
    exact t_X12_image_43 ih h a0 x1 x2
def f_X12_image (h : aH) (a0 : Nat) (x1 : Int32) : Option (Int32 × aH) :=
(aBind (f_X12_in h x1.toInt64 0 3) fun r21 h22 =>
(if r21 = 0 then
some ((-1), h22)
else
(if (sh a0).1 = 19 then
((hR h22 a0 39).bind fun b24 =>
(if (sh b24).1 = 2 then
(if aIn x1 (sh b24).2 then
(aLet (pI h22 b24 x1.toNatClampNeg (vp_nar .boolean 1)) fun h26 =>
((hR h26 a0 37).bind fun b27 =>
(if (sh b27).1 = 0 then
(if aIn x1 (sh b27).2 then
(aLet (pI h26 b27 x1.toNatClampNeg (hI h26 a0 21)) fun h29 =>
((hR h29 a0 38).bind fun b30 =>
(if (sh b30).1 = 0 then
(if aIn x1 (sh b30).2 then
(aLet (pI h29 b30 x1.toNatClampNeg (hI h29 a0 22)) fun h32 =>
f_X12_image_43 2000 h32 a0 x1 0)
else none)
else none)))
else none)
else none)))
else none)
else none))
else none)))
set_option maxHeartbeats 2000000 in
theorem s_X12_image (h : aH) (a0 : Nat) (x1 : Int32) : SO eI 3 kX12_image [.ref a0, .int x1] h (f_X12_image h a0 x1) := by
  refine so_of (lv0 := [some (.ref a0), some (.int x1), none]) pn_X12 (Nat.le_of_ble_eq_true rfl) rfl ?_
  unfold f_X12_image
  refine ao_s (st_iload_n dX12_image_0 rfl rfl) ?_
  refine ao_s (st_i2l dX12_image_1) ?_
  refine ao_s (st_lconst dX12_image_2 lc_0) ?_
  refine ao_s (st_ldc2 dX12_image_3 cl_X12_327) ?_
  refine ao_cSi (Kc := kX12_in) (As := [.long x1.toInt64, .long 0, .long 3]) (st := []) dX12_image_6 ml_X12_127 ms_X12_in rfl rfl (Nat.le_of_ble_eq_true rfl) (by decide) (s_X12_in h x1.toInt64 0 3) (fun r21 h22 => ?_)
  refine ao_br (br_if_ne (tgt := 14) dX12_image_9 (by decide)) (fun c33 => ?_) (fun c33 => ?_)
  · refine ao_s (st_iconst dX12_image_12 ic_m1) ?_
    exact ao_ir dX12_image_13 rfl rfl
  · refine ao_s (st_aload_n dX12_image_14 rfl rfl) ?_
    refine ao_chk (fun e23 => ?_)
    refine ao_getR dX12_image_15 fl_X12_86 rfl e23 (fun b24 => ?_)
    refine ao_s (st_iload_n dX12_image_18 rfl rfl) ?_
    refine ao_s (st_iconst dX12_image_19 ic_1) ?_
    refine ao_chk (fun e25 => ?_)
    refine ao_zast dX12_image_20 e25 ?_
    refine ao_letH (fun h26 => ?_)
    refine ao_s (st_aload_n dX12_image_21 rfl rfl) ?_
    refine ao_getR dX12_image_22 fl_X12_80 rfl e23 (fun b27 => ?_)
    refine ao_s (st_iload_n dX12_image_25 rfl rfl) ?_
    refine ao_s (st_aload_n dX12_image_26 rfl rfl) ?_
    refine ao_getI dX12_image_27 fl_X12_42 rfl e23 ?_
    refine ao_chk (fun e28 => ?_)
    refine ao_iast dX12_image_30 e28 ?_
    refine ao_letH (fun h29 => ?_)
    refine ao_s (st_aload_n dX12_image_31 rfl rfl) ?_
    refine ao_getR dX12_image_32 fl_X12_83 rfl e23 (fun b30 => ?_)
    refine ao_s (st_iload_n dX12_image_35 rfl rfl) ?_
    refine ao_s (st_aload_n dX12_image_36 rfl rfl) ?_
    refine ao_getI dX12_image_37 fl_X12_443 rfl e23 ?_
    refine ao_chk (fun e31 => ?_)
    refine ao_iast dX12_image_40 e31 ?_
    refine ao_letH (fun h32 => ?_)
    refine ao_s (st_iconst dX12_image_41 ic_0) ?_
    refine ao_s (st_istore_n (lv' := [some (.ref a0), some (.int x1), some (.int 0)]) dX12_image_42 rfl (by decide) rfl) ?_
    exact ao_w (sb_s (sb_s (sb_s sb_0))) (l_X12_image_43 2000 h32 a0 x1 0)
