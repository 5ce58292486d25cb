def b_X9_takeWord_135 (k45 : aH → Nat → Nat → Int32 → Int32 → Int32 → Int32 → Int32 → Int32 → Option (Int32 × aH)) (h : aH) (a0 : Nat) (a1 : Nat) (x2 : Int32) (x3 : Int32) (x4 : Int32) (x5 : Int32) (x6 : Int32) (x7 : Int32) : Option (Int32 × aH) :=
k45 h a0 a1 x2 x3 x4 x5 x6 (x7 + 1)
set_option maxHeartbeats 2000000 in
theorem t_X9_takeWord_135 {k45 : aH → Nat → Nat → Int32 → Int32 → Int32 → Int32 → Int32 → Int32 → Option (Int32 × aH)} (hk45 : ∀ (h : aH) (a0 : Nat) (a1 : Nat) (x2 : Int32) (x3 : Int32) (x4 : Int32) (x5 : Int32) (x6 : Int32) (x7 : Int32), AO eI 6 kX9_takeWord 45 [some (.ref a0), some (.ref a1), some (.int x2), some (.int x3), some (.int x4), some (.int x5), some (.int x6), some (.int x7)] [] h (k45 h a0 a1 x2 x3 x4 x5 x6 x7)) (h : aH) (a0 : Nat) (a1 : Nat) (x2 : Int32) (x3 : Int32) (x4 : Int32) (x5 : Int32) (x6 : Int32) (x7 : Int32) : AO eI 6 kX9_takeWord 135 [some (.ref a0), some (.ref a1), some (.int x2), some (.int x3), some (.int x4), some (.int x5), some (.int x6), some (.int x7)] [] h (b_X9_takeWord_135 k45 h a0 a1 x2 x3 x4 x5 x6 x7) := by
  unfold b_X9_takeWord_135
  refine ao_s (st_iinc (lv' := [some (.ref a0), some (.ref a1), some (.int x2), some (.int x3), some (.int x4), some (.int x5), some (.int x6), some (.int (x7 + 1))]) dX9_takeWord_135 rfl nc_1 (by decide) rfl) ?_
  refine ao_s (st_goto 45 dX9_takeWord_138 (by decide)) ?_
  exact ao_w (sb_s (sb_s (sb_s (sb_s (sb_s (sb_s (sb_s (sb_s sb_0)))))))) (hk45 h a0 a1 x2 x3 x4 x5 x6 (x7 + 1))
def b_X9_takeWord_99 (k45 : aH → Nat → Nat → Int32 → Int32 → Int32 → Int32 → Int32 → Int32 → Option (Int32 × aH)) (h : aH) (a0 : Nat) (a1 : Nat) (x2 : Int32) (x3 : Int32) (x4 : Int32) (x5 : Int32) (x7 : Int32) (s0 : Int32) : Option (Int32 × aH) :=
b_X9_takeWord_135 k45 h a0 a1 x2 x3 x4 (x5 + 1) s0 x7
set_option maxHeartbeats 2000000 in
theorem t_X9_takeWord_99 {k45 : aH → Nat → Nat → Int32 → Int32 → Int32 → Int32 → Int32 → Int32 → Option (Int32 × aH)} (hk45 : ∀ (h : aH) (a0 : Nat) (a1 : Nat) (x2 : Int32) (x3 : Int32) (x4 : Int32) (x5 : Int32) (x6 : Int32) (x7 : Int32), AO eI 6 kX9_takeWord 45 [some (.ref a0), some (.ref a1), some (.int x2), some (.int x3), some (.int x4), some (.int x5), some (.int x6), some (.int x7)] [] h (k45 h a0 a1 x2 x3 x4 x5 x6 x7)) (h : aH) (a0 : Nat) (a1 : Nat) (x2 : Int32) (x3 : Int32) (x4 : Int32) (x5 : Int32) (x7 : Int32) (s0 : Int32) : AO eI 6 kX9_takeWord 99 [some (.ref a0), some (.ref a1), some (.int x2), some (.int x3), some (.int x4), some (.int x5), none, some (.int x7)] [.int s0] h (b_X9_takeWord_99 k45 h a0 a1 x2 x3 x4 x5 x7 s0) := by
  unfold b_X9_takeWord_99
  refine ao_s (st_istore (lv' := [some (.ref a0), some (.ref a1), some (.int x2), some (.int x3), some (.int x4), some (.int x5), some (.int s0), some (.int x7)]) dX9_takeWord_99 (by decide) rfl) ?_
  refine ao_s (st_iinc (lv' := [some (.ref a0), some (.ref a1), some (.int x2), some (.int x3), some (.int x4), some (.int (x5 + 1)), some (.int s0), some (.int x7)]) dX9_takeWord_101 rfl nc_1 (by decide) rfl) ?_
  refine ao_s (st_goto 135 dX9_takeWord_104 (by decide)) ?_
  exact ao_w (sb_s (sb_s (sb_s (sb_s (sb_s (sb_s (sb_s (sb_s sb_0)))))))) (t_X9_takeWord_135 hk45 h a0 a1 x2 x3 x4 (x5 + 1) s0 x7)
def b_X9_takeWord_98 (k45 : aH → Nat → Nat → Int32 → Int32 → Int32 → Int32 → Int32 → Int32 → Option (Int32 × aH)) (h : aH) (a0 : Nat) (a1 : Nat) (x2 : Int32) (x3 : Int32) (x4 : Int32) (x5 : Int32) (x7 : Int32) : Option (Int32 × aH) :=
b_X9_takeWord_99 k45 h a0 a1 x2 x3 x4 x5 x7 0
set_option maxHeartbeats 2000000 in
theorem t_X9_takeWord_98 {k45 : aH → Nat → Nat → Int32 → Int32 → Int32 → Int32 → Int32 → Int32 → Option (Int32 × aH)} (hk45 : ∀ (h : aH) (a0 : Nat) (a1 : Nat) (x2 : Int32) (x3 : Int32) (x4 : Int32) (x5 : Int32) (x6 : Int32) (x7 : Int32), AO eI 6 kX9_takeWord 45 [some (.ref a0), some (.ref a1), some (.int x2), some (.int x3), some (.int x4), some (.int x5), some (.int x6), some (.int x7)] [] h (k45 h a0 a1 x2 x3 x4 x5 x6 x7)) (h : aH) (a0 : Nat) (a1 : Nat) (x2 : Int32) (x3 : Int32) (x4 : Int32) (x5 : Int32) (x7 : Int32) : AO eI 6 kX9_takeWord 98 [some (.ref a0), some (.ref a1), some (.int x2), some (.int x3), some (.int x4), some (.int x5), none, some (.int x7)] [] h (b_X9_takeWord_98 k45 h a0 a1 x2 x3 x4 x5 x7) := by
  unfold b_X9_takeWord_98
  refine ao_s (st_iconst dX9_takeWord_98 ic_0) ?_
  exact ao_w (sb_s (sb_s (sb_s (sb_s (sb_s (sb_s (sb_n (sb_s sb_0)))))))) (t_X9_takeWord_99 hk45 h a0 a1 x2 x3 x4 x5 x7 0)
def b_X9_takeWord_126 (k45 : aH → Nat → Nat → Int32 → Int32 → Int32 → Int32 → Int32 → Int32 → Option (Int32 × aH)) (h : aH) (a0 : Nat) (a1 : Nat) (x2 : Int32) (x3 : Int32) (x4 : Int32) (x7 : Int32) : Option (Int32 × aH) :=
b_X9_takeWord_135 k45 h a0 a1 x2 x3 (x4 + 1) x2 1 x7
set_option maxHeartbeats 2000000 in
theorem t_X9_takeWord_126 {k45 : aH → Nat → Nat → Int32 → Int32 → Int32 → Int32 → Int32 → Int32 → Option (Int32 × aH)} (hk45 : ∀ (h : aH) (a0 : Nat) (a1 : Nat) (x2 : Int32) (x3 : Int32) (x4 : Int32) (x5 : Int32) (x6 : Int32) (x7 : Int32), AO eI 6 kX9_takeWord 45 [some (.ref a0), some (.ref a1), some (.int x2), some (.int x3), some (.int x4), some (.int x5), some (.int x6), some (.int x7)] [] h (k45 h a0 a1 x2 x3 x4 x5 x6 x7)) (h : aH) (a0 : Nat) (a1 : Nat) (x2 : Int32) (x3 : Int32) (x4 : Int32) (x7 : Int32) : AO eI 6 kX9_takeWord 126 [some (.ref a0), some (.ref a1), some (.int x2), some (.int x3), some (.int x4), none, none, some (.int x7)] [] h (b_X9_takeWord_126 k45 h a0 a1 x2 x3 x4 x7) := by
  unfold b_X9_takeWord_126
  refine ao_s (st_iinc (lv' := [some (.ref a0), some (.ref a1), some (.int x2), some (.int x3), some (.int (x4 + 1)), none, none, some (.int x7)]) dX9_takeWord_126 rfl nc_1 (by decide) rfl) ?_
  refine ao_s (st_iload_n dX9_takeWord_129 rfl rfl) ?_
  refine ao_s (st_istore (lv' := [some (.ref a0), some (.ref a1), some (.int x2), some (.int x3), some (.int (x4 + 1)), some (.int x2), none, some (.int x7)]) dX9_takeWord_130 (by decide) rfl) ?_
  refine ao_s (st_iconst dX9_takeWord_132 ic_1) ?_
  refine ao_s (st_istore (lv' := [some (.ref a0), some (.ref a1), some (.int x2), some (.int x3), some (.int (x4 + 1)), some (.int x2), some (.int 1), some (.int x7)]) dX9_takeWord_133 (by decide) rfl) ?_
  exact ao_w (sb_s (sb_s (sb_s (sb_s (sb_s (sb_s (sb_s (sb_s sb_0)))))))) (t_X9_takeWord_135 hk45 h a0 a1 x2 x3 (x4 + 1) x2 1 x7)
def b_X9_takeWord_107 (k45 : aH → Nat → Nat → Int32 → Int32 → Int32 → Int32 → Int32 → Int32 → Option (Int32 × aH)) (h : aH) (a0 : Nat) (a1 : Nat) (x2 : Int32) (x3 : Int32) (x4 : Int32) (x5 : Int32) (x6 : Int32) (x7 : Int32) : Option (Int32 × aH) :=
(if x6 = 0 then
b_X9_takeWord_126 k45 h a0 a1 x2 x3 x4 x7
else
(if x5 = x3 then
(if (sh a0).1 = 16 then
(aLet (pI h a0 2 x3) fun h22 =>
some (x4, h22))
else none)
else
b_X9_takeWord_126 k45 h a0 a1 x2 x3 x4 x7))
set_option maxHeartbeats 2000000 in
theorem t_X9_takeWord_107 {k45 : aH → Nat → Nat → Int32 → Int32 → Int32 → Int32 → Int32 → Int32 → Option (Int32 × aH)} (hk45 : ∀ (h : aH) (a0 : Nat) (a1 : Nat) (x2 : Int32) (x3 : Int32) (x4 : Int32) (x5 : Int32) (x6 : Int32) (x7 : Int32), AO eI 6 kX9_takeWord 45 [some (.ref a0), some (.ref a1), some (.int x2), some (.int x3), some (.int x4), some (.int x5), some (.int x6), some (.int x7)] [] h (k45 h a0 a1 x2 x3 x4 x5 x6 x7)) (h : aH) (a0 : Nat) (a1 : Nat) (x2 : Int32) (x3 : Int32) (x4 : Int32) (x5 : Int32) (x6 : Int32) (x7 : Int32) : AO eI 6 kX9_takeWord 107 [some (.ref a0), some (.ref a1), some (.int x2), some (.int x3), some (.int x4), some (.int x5), some (.int x6), some (.int x7)] [] h (b_X9_takeWord_107 k45 h a0 a1 x2 x3 x4 x5 x6 x7) := by
  unfold b_X9_takeWord_107
  refine ao_s (st_iload dX9_takeWord_107 rfl) ?_
  refine ao_br (br_if_eq (tgt := 126) dX9_takeWord_109 (by decide)) (fun c24 => ?_) (fun c24 => ?_)
  · exact ao_w (sb_s (sb_s (sb_s (sb_s (sb_s (sb_n (sb_n (sb_s sb_0)))))))) (t_X9_takeWord_126 hk45 h a0 a1 x2 x3 x4 x7)
  · refine ao_s (st_iload dX9_takeWord_112 rfl) ?_
    refine ao_s (st_iload_n dX9_takeWord_114 rfl rfl) ?_
    refine ao_br (br_icmp_ne (tgt := 126) dX9_takeWord_115 (by decide)) (fun c23 => ?_) (fun c23 => ?_)
    · refine ao_s (st_aload_n dX9_takeWord_118 rfl rfl) ?_
      refine ao_s (st_iload_n dX9_takeWord_119 rfl rfl) ?_
      refine ao_chk (fun e21 => ?_)
      refine ao_putI dX9_takeWord_120 fl_X9_19 rfl rfl rfl rfl e21 ?_
      refine ao_letH (fun h22 => ?_)
      refine ao_s (st_iload dX9_takeWord_123 rfl) ?_
      exact ao_ir dX9_takeWord_125 rfl rfl
    · exact ao_w (sb_s (sb_s (sb_s (sb_s (sb_s (sb_n (sb_n (sb_s sb_0)))))))) (t_X9_takeWord_126 hk45 h a0 a1 x2 x3 x4 x7)
def b_X9_takeWord_45 (k45 : aH → Nat → Nat → Int32 → Int32 → Int32 → Int32 → Int32 → Int32 → Option (Int32 × aH)) (h : aH) (a0 : Nat) (a1 : Nat) (x2 : Int32) (x3 : Int32) (x4 : Int32) (x5 : Int32) (x6 : Int32) (x7 : Int32) : Option (Int32 × aH) :=
((sLn a1).bind fun n21 =>
(if n21 < x7 then
some ((-1), h)
else
((sLn a1).bind fun n22 =>
(if n22 ≤ x7 then
b_X9_takeWord_107 k45 h a0 a1 x2 x3 x4 x5 x6 x7
else
((sCh a1 x7).bind fun n23 =>
(if n23 = 32 then
b_X9_takeWord_107 k45 h a0 a1 x2 x3 x4 x5 x6 x7
else
(if x6 = 0 then
b_X9_takeWord_98 k45 h a0 a1 x2 x3 x4 x5 x7
else
(if (sh a0).1 = 16 then
(aBind (f_X9_byteAt h a0 x5) fun r25 h26 =>
((sCh a1 x7).bind fun n27 =>
(if r25 = n27 then
b_X9_takeWord_99 k45 h26 a0 a1 x2 x3 x4 x5 x7 1
else
b_X9_takeWord_98 k45 h26 a0 a1 x2 x3 x4 x5 x7)))
else none))))))))
set_option maxHeartbeats 2000000 in
theorem t_X9_takeWord_45 {k45 : aH → Nat → Nat → Int32 → Int32 → Int32 → Int32 → Int32 → Int32 → Option (Int32 × aH)} (hk45 : ∀ (h : aH) (a0 : Nat) (a1 : Nat) (x2 : Int32) (x3 : Int32) (x4 : Int32) (x5 : Int32) (x6 : Int32) (x7 : Int32), AO eI 6 kX9_takeWord 45 [some (.ref a0), some (.ref a1), some (.int x2), some (.int x3), some (.int x4), some (.int x5), some (.int x6), some (.int x7)] [] h (k45 h a0 a1 x2 x3 x4 x5 x6 x7)) (h : aH) (a0 : Nat) (a1 : Nat) (x2 : Int32) (x3 : Int32) (x4 : Int32) (x5 : Int32) (x6 : Int32) (x7 : Int32) : AO eI 6 kX9_takeWord 45 [some (.ref a0), some (.ref a1), some (.int x2), some (.int x3), some (.int x4), some (.int x5), some (.int x6), some (.int x7)] [] h (b_X9_takeWord_45 k45 h a0 a1 x2 x3 x4 x5 x6 x7) := by
  unfold b_X9_takeWord_45
  refine ao_s (st_iload dX9_takeWord_45 rfl) ?_
  refine ao_s (st_aload_n dX9_takeWord_47 rfl rfl) ?_
  refine ao_slen dX9_takeWord_48 ml_X9_47 (Nat.le_of_ble_eq_true rfl) (by decide) (fun n21 => ?_)
  refine ao_br (br_icmp_gt (tgt := 141) dX9_takeWord_51 (by decide)) (fun c32 => ?_) (fun c32 => ?_)
  · refine ao_s (st_iconst dX9_takeWord_141 ic_m1) ?_
    exact ao_ir dX9_takeWord_142 rfl rfl
  · refine ao_s (st_iload dX9_takeWord_54 rfl) ?_
    refine ao_s (st_aload_n dX9_takeWord_56 rfl rfl) ?_
    refine ao_slen dX9_takeWord_57 ml_X9_47 (Nat.le_of_ble_eq_true rfl) (by decide) (fun n22 => ?_)
    refine ao_br (br_icmp_ge (tgt := 107) dX9_takeWord_60 (by decide)) (fun c31 => ?_) (fun c31 => ?_)
    · exact ao_w (sb_s (sb_s (sb_s (sb_s (sb_s (sb_s (sb_s (sb_s sb_0)))))))) (t_X9_takeWord_107 hk45 h a0 a1 x2 x3 x4 x5 x6 x7)
    · refine ao_s (st_aload_n dX9_takeWord_63 rfl rfl) ?_
      refine ao_s (st_iload dX9_takeWord_64 rfl) ?_
      refine ao_schr dX9_takeWord_66 ml_X9_51 (Nat.le_of_ble_eq_true rfl) (by decide) (fun n23 => ?_)
      refine ao_s (st_bipush dX9_takeWord_69 bp_32) ?_
      refine ao_br (br_icmp_eq (tgt := 107) dX9_takeWord_71 (by decide)) (fun c30 => ?_) (fun c30 => ?_)
      · exact ao_w (sb_s (sb_s (sb_s (sb_s (sb_s (sb_s (sb_s (sb_s sb_0)))))))) (t_X9_takeWord_107 hk45 h a0 a1 x2 x3 x4 x5 x6 x7)
      · refine ao_s (st_iload dX9_takeWord_74 rfl) ?_
        refine ao_br (br_if_eq (tgt := 98) dX9_takeWord_76 (by decide)) (fun c29 => ?_) (fun c29 => ?_)
        · exact ao_w (sb_s (sb_s (sb_s (sb_s (sb_s (sb_s (sb_n (sb_s sb_0)))))))) (t_X9_takeWord_98 hk45 h a0 a1 x2 x3 x4 x5 x7)
        · refine ao_s (st_aload_n dX9_takeWord_79 rfl rfl) ?_
          refine ao_s (st_iload dX9_takeWord_80 rfl) ?_
          refine ao_chk (fun e24 => ?_)
          refine ao_cVi (Kc := kX9_byteAt) (As := [.int x5]) (st := []) dX9_takeWord_82 ml_X9_29 mv_X9_byteAt rfl e24 (by decide) rfl rfl (Nat.le_of_ble_eq_true rfl) (by decide) (s_X9_byteAt h a0 x5) (fun r25 h26 => ?_)
          refine ao_s (st_aload_n dX9_takeWord_85 rfl rfl) ?_
          refine ao_s (st_iload dX9_takeWord_86 rfl) ?_
          refine ao_schr dX9_takeWord_88 ml_X9_51 (Nat.le_of_ble_eq_true rfl) (by decide) (fun n27 => ?_)
          refine ao_br (br_icmp_ne (tgt := 98) dX9_takeWord_91 (by decide)) (fun c28 => ?_) (fun c28 => ?_)
          · refine ao_s (st_iconst dX9_takeWord_94 ic_1) ?_
            refine ao_s (st_goto 99 dX9_takeWord_95 (by decide)) ?_
            exact ao_w (sb_s (sb_s (sb_s (sb_s (sb_s (sb_s (sb_n (sb_s sb_0)))))))) (t_X9_takeWord_99 hk45 h26 a0 a1 x2 x3 x4 x5 x7 1)
          · exact ao_w (sb_s (sb_s (sb_s (sb_s (sb_s (sb_s (sb_n (sb_s sb_0)))))))) (t_X9_takeWord_98 hk45 h26 a0 a1 x2 x3 x4 x5 x7)
def f_X9_takeWord_45 (n : Nat) : aH → Nat → Nat → Int32 → Int32 → Int32 → Int32 → Int32 → Int32 → Option (Int32 × aH) := aIt (fun _ _ _ _ _ _ _ _ _ => none) (fun k => b_X9_takeWord_45 k) n
theorem l_X9_takeWord_45 (n : Nat) : ∀ (h : aH) (a0 : Nat) (a1 : Nat) (x2 : Int32) (x3 : Int32) (x4 : Int32) (x5 : Int32) (x6 : Int32) (x7 : Int32), AO eI 6 kX9_takeWord 45 [some (.ref a0), some (.ref a1), some (.int x2), some (.int x3), some (.int x4), some (.int x5), some (.int x6), some (.int x7)] [] h (f_X9_takeWord_45 n h a0 a1 x2 x3 x4 x5 x6 x7) := by
  induction n with
  | zero => intros; exact ao_none
  | succ n ih =>
    intro h a0 a1 x2 x3 x4 x5 x6 x7
    exact t_X9_takeWord_45 ih h a0 a1 x2 x3 x4 x5 x6 x7
def b_X9_takeWord_33 (h : aH) (a0 : Nat) (a1 : Nat) (x2 : Int32) (x3 : Int32) : Option (Int32 × aH) :=
f_X9_takeWord_45 2000 h a0 a1 x2 x3 0 x2 1 0
set_option maxHeartbeats 2000000 in
theorem t_X9_takeWord_33 (h : aH) (a0 : Nat) (a1 : Nat) (x2 : Int32) (x3 : Int32) : AO eI 6 kX9_takeWord 33 [some (.ref a0), some (.ref a1), some (.int x2), some (.int x3), none, none, none, none] [] h (b_X9_takeWord_33 h a0 a1 x2 x3) := by
  unfold b_X9_takeWord_33
  refine ao_s (st_iconst dX9_takeWord_33 ic_0) ?_
  refine ao_s (st_istore (lv' := [some (.ref a0), some (.ref a1), some (.int x2), some (.int x3), some (.int 0), none, none, none]) dX9_takeWord_34 (by decide) rfl) ?_
  refine ao_s (st_iload_n dX9_takeWord_36 rfl rfl) ?_
  refine ao_s (st_istore (lv' := [some (.ref a0), some (.ref a1), some (.int x2), some (.int x3), some (.int 0), some (.int x2), none, none]) dX9_takeWord_37 (by decide) rfl) ?_
  refine ao_s (st_iconst dX9_takeWord_39 ic_1) ?_
  refine ao_s (st_istore (lv' := [some (.ref a0), some (.ref a1), some (.int x2), some (.int x3), some (.int 0), some (.int x2), some (.int 1), none]) dX9_takeWord_40 (by decide) rfl) ?_
  refine ao_s (st_iconst dX9_takeWord_42 ic_0) ?_
  refine ao_s (st_istore (lv' := [some (.ref a0), some (.ref a1), some (.int x2), some (.int x3), some (.int 0), some (.int x2), some (.int 1), some (.int 0)]) dX9_takeWord_43 (by decide) rfl) ?_
  exact ao_w (sb_s (sb_s (sb_s (sb_s (sb_s (sb_s (sb_s (sb_s sb_0)))))))) (l_X9_takeWord_45 2000 h a0 a1 x2 x3 0 x2 1 0)
def b_X9_takeWord_7 (k7 : aH → Nat → Nat → Int32 → Int32 → Option (Int32 × aH)) (h : aH) (a0 : Nat) (a1 : Nat) (x2 : Int32) (x3 : Int32) : Option (Int32 × aH) :=
(if (sh a0).1 = 16 then
(if hI h a0 1 ≤ x3 then
b_X9_takeWord_33 h a0 a1 x2 x3
else
(aBind (f_X9_byteAt h a0 x3) fun r22 h23 =>
(aBind (f_X9_isLetter h23 a0 r22) fun r24 h25 =>
(if r24 = 0 then
b_X9_takeWord_33 h25 a0 a1 x2 x3
else
k7 h25 a0 a1 x2 (x3 + 1)))))
else none)
set_option maxHeartbeats 2000000 in
theorem t_X9_takeWord_7 {k7 : aH → Nat → Nat → Int32 → Int32 → Option (Int32 × aH)} (hk7 : ∀ (h : aH) (a0 : Nat) (a1 : Nat) (x2 : Int32) (x3 : Int32), AO eI 6 kX9_takeWord 7 [some (.ref a0), some (.ref a1), some (.int x2), some (.int x3), none, none, none, none] [] h (k7 h a0 a1 x2 x3)) (h : aH) (a0 : Nat) (a1 : Nat) (x2 : Int32) (x3 : Int32) : AO eI 6 kX9_takeWord 7 [some (.ref a0), some (.ref a1), some (.int x2), some (.int x3), none, none, none, none] [] h (b_X9_takeWord_7 k7 h a0 a1 x2 x3) := by
  unfold b_X9_takeWord_7
  refine ao_s (st_iload_n dX9_takeWord_7 rfl rfl) ?_
  refine ao_s (st_aload_n dX9_takeWord_8 rfl rfl) ?_
  refine ao_chk (fun e21 => ?_)
  refine ao_getI dX9_takeWord_9 fl_X9_15 rfl e21 ?_
  refine ao_br (br_icmp_ge (tgt := 33) dX9_takeWord_12 (by decide)) (fun c27 => ?_) (fun c27 => ?_)
  · exact ao_w (sb_s (sb_s (sb_s (sb_s (sb_n (sb_n (sb_n (sb_n sb_0)))))))) (t_X9_takeWord_33 h a0 a1 x2 x3)
  · refine ao_s (st_aload_n dX9_takeWord_15 rfl rfl) ?_
    refine ao_s (st_aload_n dX9_takeWord_16 rfl rfl) ?_
    refine ao_s (st_iload_n dX9_takeWord_17 rfl rfl) ?_
    refine ao_cVi (Kc := kX9_byteAt) (As := [.int x3]) (st := [.ref a0]) dX9_takeWord_18 ml_X9_29 mv_X9_byteAt rfl e21 (by decide) rfl rfl (Nat.le_of_ble_eq_true rfl) (by decide) (s_X9_byteAt h a0 x3) (fun r22 h23 => ?_)
    refine ao_cVi (Kc := kX9_isLetter) (As := [.int r22]) (st := []) dX9_takeWord_21 ml_X9_44 mv_X9_isLetter rfl e21 (by decide) rfl rfl (Nat.le_of_ble_eq_true rfl) (by decide) (s_X9_isLetter h23 a0 r22) (fun r24 h25 => ?_)
    refine ao_br (br_if_eq (tgt := 33) dX9_takeWord_24 (by decide)) (fun c26 => ?_) (fun c26 => ?_)
    · exact ao_w (sb_s (sb_s (sb_s (sb_s (sb_n (sb_n (sb_n (sb_n sb_0)))))))) (t_X9_takeWord_33 h25 a0 a1 x2 x3)
    · refine ao_s (st_iinc (lv' := [some (.ref a0), some (.ref a1), some (.int x2), some (.int (x3 + 1)), none, none, none, none]) dX9_takeWord_27 rfl nc_1 (by decide) rfl) ?_
      refine ao_s (st_goto 7 dX9_takeWord_30 (by decide)) ?_
      exact ao_w (sb_s (sb_s (sb_s (sb_s (sb_n (sb_n (sb_n (sb_n sb_0)))))))) (hk7 h25 a0 a1 x2 (x3 + 1))
def f_X9_takeWord_7 (n : Nat) : aH → Nat → Nat → Int32 → Int32 → Option (Int32 × aH) := aIt (fun _ _ _ _ _ => none) (fun k => b_X9_takeWord_7 k) n
theorem l_X9_takeWord_7 (n : Nat) : ∀ (h : aH) (a0 : Nat) (a1 : Nat) (x2 : Int32) (x3 : Int32), AO eI 6 kX9_takeWord 7 [some (.ref a0), some (.ref a1), some (.int x2), some (.int x3), none, none, none, none] [] h (f_X9_takeWord_7 n h a0 a1 x2 x3) := by
  induction n with
  | zero => intros; exact ao_none
  | succ n ih =>
    intro h a0 a1 x2 x3
    exact t_X9_takeWord_7 ih h a0 a1 x2 x3
def f_X9_takeWord (h : aH) (a0 : Nat) (a1 : Nat) : Option (Int32 × aH) :=
(if (sh a0).1 = 16 then
(aBind (f_X9_seek h a0) fun r22 h23 =>
f_X9_takeWord_7 2000 h23 a0 a1 r22 r22)
else none)
set_option maxHeartbeats 2000000 in
theorem s_X9_takeWord (h : aH) (a0 : Nat) (a1 : Nat) : SO eI 6 kX9_takeWord [.ref a0, .ref a1] h (f_X9_takeWord h a0 a1) := by
  refine so_of (lv0 := [some (.ref a0), some (.ref a1), none, none, none, none, none, none]) pn_X9 (Nat.le_of_ble_eq_true rfl) rfl ?_
  unfold f_X9_takeWord
  refine ao_s (st_aload_n dX9_takeWord_0 rfl rfl) ?_
  refine ao_chk (fun e21 => ?_)
  refine ao_cVi (Kc := kX9_seek) (As := []) (st := []) dX9_takeWord_1 ml_X9_25 mv_X9_seek rfl e21 (by decide) rfl rfl (Nat.le_of_ble_eq_true rfl) (by decide) (s_X9_seek h a0) (fun r22 h23 => ?_)
  refine ao_s (st_istore_n (lv' := [some (.ref a0), some (.ref a1), some (.int r22), none, none, none, none, none]) dX9_takeWord_4 rfl (by decide) rfl) ?_
  refine ao_s (st_iload_n dX9_takeWord_5 rfl rfl) ?_
  refine ao_s (st_istore_n (lv' := [some (.ref a0), some (.ref a1), some (.int r22), some (.int r22), none, none, none, none]) dX9_takeWord_6 rfl (by decide) rfl) ?_
  exact ao_w (sb_s (sb_s (sb_s (sb_s (sb_n (sb_n (sb_n (sb_n sb_0)))))))) (l_X9_takeWord_7 2000 h23 a0 a1 r22 r22)
def f_X2_readClause (h : aH) (a0 : Nat) (a1 : Nat) (x2 : Int32) : Option (Unit × aH) :=
(if (sh a0).1 = 9 then
((hR h a0 0).bind fun b22 =>
(if (sh b22).1 = 16 then
(aBind (f_X9_seek h b22) fun r24 h25 =>
((hR h25 a0 0).bind fun b26 =>
(if (sh b26).1 = 16 then
(aBind (f_X9_takeWord h25 b26 1000) fun r28 h29 =>
(if r28 = (-1) then
((hR h29 a0 0).bind fun b30 =>
(if (sh b30).1 = 16 then
(aBind (f_X9_blame h29 b30 r24 0) fun r32 h33 =>
some ((), h33))
else none))
else
(aBind (f_X2_isTooMany h29 a0 a1 x2 r28) fun r34 h35 =>
(if r34 = 0 then
(aBind (f_X2_readNumbers h35 a0 a1 r28) fun r36 h37 =>
some ((), h37))
else
((hR h35 a0 0).bind fun b38 =>
(if (sh b38).1 = 16 then
(aBind (f_X9_blame h35 b38 r24 4) fun r40 h41 =>
some ((), h41))
else none))))))
else none)))
else none))
else none)
set_option maxHeartbeats 2000000 in
theorem s_X2_readClause (h : aH) (a0 : Nat) (a1 : Nat) (x2 : Int32) : SO eV 7 kX2_readClause [.ref a0, .ref a1, .int x2] h (f_X2_readClause h a0 a1 x2) := by
  refine so_of (lv0 := [some (.ref a0), some (.ref a1), some (.int x2), none, none]) pn_X2 (Nat.le_of_ble_eq_true rfl) rfl ?_
  unfold f_X2_readClause
  refine ao_s (st_aload_n dX2_readClause_0 rfl rfl) ?_
  refine ao_chk (fun e21 => ?_)
  refine ao_getR dX2_readClause_1 fl_X2_9 rfl e21 (fun b22 => ?_)
  refine ao_chk (fun e23 => ?_)
  refine ao_cVi (Kc := kX9_seek) (As := []) (st := []) dX2_readClause_4 ml_X2_55 mv_X9_seek rfl e23 (by decide) rfl rfl (Nat.le_of_ble_eq_true rfl) (by decide) (s_X9_seek h b22) (fun r24 h25 => ?_)
  refine ao_s (st_istore_n (lv' := [some (.ref a0), some (.ref a1), some (.int x2), some (.int r24), none]) dX2_readClause_7 rfl (by decide) rfl) ?_
  refine ao_s (st_aload_n dX2_readClause_8 rfl rfl) ?_
  refine ao_getR dX2_readClause_9 fl_X2_9 rfl e21 (fun b26 => ?_)
  refine ao_s (st_ldcS (i := 0) dX2_readClause_12 (by decide) rfl rfl) ?_
  refine ao_chk (fun e27 => ?_)
  refine ao_cVi (Kc := kX9_takeWord) (As := [.ref 1000]) (st := []) dX2_readClause_14 ml_X2_60 mv_X9_takeWord rfl e27 (by decide) rfl rfl (Nat.le_of_ble_eq_true rfl) (by decide) (s_X9_takeWord h25 b26 1000) (fun r28 h29 => ?_)
  refine ao_s (st_istore (lv' := [some (.ref a0), some (.ref a1), some (.int x2), some (.int r24), some (.int r28)]) dX2_readClause_17 (by decide) rfl) ?_
  refine ao_s (st_iload dX2_readClause_19 rfl) ?_
  refine ao_s (st_iconst dX2_readClause_21 ic_m1) ?_
  refine ao_br (br_icmp_ne (tgt := 37) dX2_readClause_22 (by decide)) (fun c43 => ?_) (fun c43 => ?_)
  · refine ao_s (st_aload_n dX2_readClause_25 rfl rfl) ?_
    refine ao_getR dX2_readClause_26 fl_X2_9 rfl e21 (fun b30 => ?_)
    refine ao_s (st_iload_n dX2_readClause_29 rfl rfl) ?_
    refine ao_s (st_iconst dX2_readClause_30 ic_0) ?_
    refine ao_chk (fun e31 => ?_)
    refine ao_cVv (Kc := kX9_blame) (As := [.int r24, .int 0]) (st := []) dX2_readClause_31 ml_X2_44 mv_X9_blame rfl e31 (by decide) rfl rfl (Nat.le_of_ble_eq_true rfl) (by decide) (s_X9_blame h29 b30 r24 0) (fun r32 h33 => ?_)
    refine ao_s (st_goto 67 dX2_readClause_34 (by decide)) ?_
    exact ao_vr dX2_readClause_67 rfl
  · refine ao_s (st_aload_n dX2_readClause_37 rfl rfl) ?_
    refine ao_s (st_aload_n dX2_readClause_38 rfl rfl) ?_
    refine ao_s (st_iload_n dX2_readClause_39 rfl rfl) ?_
    refine ao_s (st_iload dX2_readClause_40 rfl) ?_
    refine ao_cVi (Kc := kX2_isTooMany) (As := [.ref a1, .int x2, .int r28]) (st := []) dX2_readClause_42 ml_X2_64 mv_X2_isTooMany rfl e21 (by decide) rfl rfl (Nat.le_of_ble_eq_true rfl) (by decide) (s_X2_isTooMany h29 a0 a1 x2 r28) (fun r34 h35 => ?_)
    refine ao_br (br_if_eq (tgt := 60) dX2_readClause_45 (by decide)) (fun c42 => ?_) (fun c42 => ?_)
    · refine ao_s (st_aload_n dX2_readClause_60 rfl rfl) ?_
      refine ao_s (st_aload_n dX2_readClause_61 rfl rfl) ?_
      refine ao_s (st_iload dX2_readClause_62 rfl) ?_
      refine ao_cVv (Kc := kX2_readNumbers) (As := [.ref a1, .int r28]) (st := []) dX2_readClause_64 ml_X2_68 mv_X2_readNumbers rfl e21 (by decide) rfl rfl (Nat.le_of_ble_eq_true rfl) (by decide) (s_X2_readNumbers h35 a0 a1 r28) (fun r36 h37 => ?_)
      exact ao_vr dX2_readClause_67 rfl
    · refine ao_s (st_aload_n dX2_readClause_48 rfl rfl) ?_
      refine ao_getR dX2_readClause_49 fl_X2_9 rfl e21 (fun b38 => ?_)
      refine ao_s (st_iload_n dX2_readClause_52 rfl rfl) ?_
      refine ao_s (st_iconst dX2_readClause_53 ic_4) ?_
      refine ao_chk (fun e39 => ?_)
      refine ao_cVv (Kc := kX9_blame) (As := [.int r24, .int 4]) (st := []) dX2_readClause_54 ml_X2_44 mv_X9_blame rfl e39 (by decide) rfl rfl (Nat.le_of_ble_eq_true rfl) (by decide) (s_X9_blame h35 b38 r24 4) (fun r40 h41 => ?_)
      refine ao_s (st_goto 67 dX2_readClause_57 (by decide)) ?_
      exact ao_vr dX2_readClause_67 rfl
def b_X8_clear_92 (k92 : aH → Nat → Int32 → Option (Unit × aH)) (h : aH) (a0 : Nat) (x1 : Int32) : Option (Unit × aH) :=
(if 32 ≤ x1 then
some ((), h)
else
(if (sh a0).1 = 15 then
((hR h a0 11).bind fun b22 =>
(if (sh b22).1 = 0 then
(if aIn x1 (sh b22).2 then
(aLet (pI h b22 x1.toNatClampNeg 0) fun h24 =>
((hR h24 a0 12).bind fun b25 =>
(if (sh b25).1 = 0 then
(if aIn x1 (sh b25).2 then
(aLet (pI h24 b25 x1.toNatClampNeg (-1)) fun h27 =>
k92 h27 a0 (x1 + 1))
else none)
else none)))
else none)
else none))
else none))
set_option maxHeartbeats 2000000 in
theorem t_X8_clear_92 {k92 : aH → Nat → Int32 → Option (Unit × aH)} (hk92 : ∀ (h : aH) (a0 : Nat) (x1 : Int32), AO eV 2 kX8_clear 92 [some (.ref a0), some (.int x1)] [] h (k92 h a0 x1)) (h : aH) (a0 : Nat) (x1 : Int32) : AO eV 2 kX8_clear 92 [some (.ref a0), some (.int x1)] [] h (b_X8_clear_92 k92 h a0 x1) := by
  unfold b_X8_clear_92
  refine ao_s (st_iload_n dX8_clear_92 rfl rfl) ?_
  refine ao_s (st_bipush dX8_clear_93 bp_32) ?_
  refine ao_br (br_icmp_ge (tgt := 118) dX8_clear_95 (by decide)) (fun c28 => ?_) (fun c28 => ?_)
  · exact ao_vr dX8_clear_118 rfl
  · refine ao_s (st_aload_n dX8_clear_98 rfl rfl) ?_
    refine ao_chk (fun e21 => ?_)
    refine ao_getR dX8_clear_99 fl_X8_48 rfl e21 (fun b22 => ?_)
    refine ao_s (st_iload_n dX8_clear_102 rfl rfl) ?_
    refine ao_s (st_iconst dX8_clear_103 ic_0) ?_
    refine ao_chk (fun e23 => ?_)
    refine ao_iast dX8_clear_104 e23 ?_
    refine ao_letH (fun h24 => ?_)
    refine ao_s (st_aload_n dX8_clear_105 rfl rfl) ?_
    refine ao_getR dX8_clear_106 fl_X8_51 rfl e21 (fun b25 => ?_)
    refine ao_s (st_iload_n dX8_clear_109 rfl rfl) ?_
    refine ao_s (st_iconst dX8_clear_110 ic_m1) ?_
    refine ao_chk (fun e26 => ?_)
    refine ao_iast dX8_clear_111 e26 ?_
    refine ao_letH (fun h27 => ?_)
    refine ao_s (st_iinc (lv' := [some (.ref a0), some (.int (x1 + 1))]) dX8_clear_112 rfl nc_1 (by decide) rfl) ?_
    refine ao_s (st_goto 92 dX8_clear_115 (by decide)) ?_
    exact ao_w (sb_s (sb_s sb_0)) (hk92 h27 a0 (x1 + 1))
def f_X8_clear_92 (n : Nat) : aH → Nat → Int32 → Option (Unit × aH) := aIt (fun _ _ _ => none) (fun k => b_X8_clear_92 k) n
theorem l_X8_clear_92 (n : Nat) : ∀ (h : aH) (a0 : Nat) (x1 : Int32), AO eV 2 kX8_clear 92 [some (.ref a0), some (.int x1)] [] h (f_X8_clear_92 n h a0 x1) := by
  induction n with
  | zero => intros; exact ao_none
  | succ n ih =>
    intro h a0 x1
    exact t_X8_clear_92 ih h a0 x1
def b_X8_clear_72 (k72 : aH → Nat → Int32 → Option (Unit × aH)) (h : aH) (a0 : Nat) (x1 : Int32) : Option (Unit × aH) :=
(if 4 ≤ x1 then
f_X8_clear_92 2000 h a0 0
else
(if (sh a0).1 = 15 then
((hR h a0 10).bind fun b22 =>
(if (sh b22).1 = 0 then
(if aIn x1 (sh b22).2 then
(aLet (pI h b22 x1.toNatClampNeg 0) fun h24 =>
k72 h24 a0 (x1 + 1))
else none)
else none))
else none))
set_option maxHeartbeats 2000000 in
theorem t_X8_clear_72 {k72 : aH → Nat → Int32 → Option (Unit × aH)} (hk72 : ∀ (h : aH) (a0 : Nat) (x1 : Int32), AO eV 2 kX8_clear 72 [some (.ref a0), some (.int x1)] [] h (k72 h a0 x1)) (h : aH) (a0 : Nat) (x1 : Int32) : AO eV 2 kX8_clear 72 [some (.ref a0), some (.int x1)] [] h (b_X8_clear_72 k72 h a0 x1) := by
  unfold b_X8_clear_72
  refine ao_s (st_iload_n dX8_clear_72 rfl rfl) ?_
  refine ao_s (st_iconst dX8_clear_73 ic_4) ?_
  refine ao_br (br_icmp_ge (tgt := 90) dX8_clear_74 (by decide)) (fun c25 => ?_) (fun c25 => ?_)
  · refine ao_s (st_iconst dX8_clear_90 ic_0) ?_
    refine ao_s (st_istore_n (lv' := [some (.ref a0), some (.int 0)]) dX8_clear_91 rfl (by decide) rfl) ?_
    exact ao_w (sb_s (sb_s sb_0)) (l_X8_clear_92 2000 h a0 0)
  · refine ao_s (st_aload_n dX8_clear_77 rfl rfl) ?_
    refine ao_chk (fun e21 => ?_)
    refine ao_getR dX8_clear_78 fl_X8_45 rfl e21 (fun b22 => ?_)
    refine ao_s (st_iload_n dX8_clear_81 rfl rfl) ?_
    refine ao_s (st_iconst dX8_clear_82 ic_0) ?_
    refine ao_chk (fun e23 => ?_)
    refine ao_iast dX8_clear_83 e23 ?_
    refine ao_letH (fun h24 => ?_)
    refine ao_s (st_iinc (lv' := [some (.ref a0), some (.int (x1 + 1))]) dX8_clear_84 rfl nc_1 (by decide) rfl) ?_
    refine ao_s (st_goto 72 dX8_clear_87 (by decide)) ?_
    exact ao_w (sb_s (sb_s sb_0)) (hk72 h24 a0 (x1 + 1))
def f_X8_clear_72 (n : Nat) : aH → Nat → Int32 → Option (Unit × aH) := aIt (fun _ _ _ => none) (fun k => b_X8_clear_72 k) n
theorem l_X8_clear_72 (n : Nat) : ∀ (h : aH) (a0 : Nat) (x1 : Int32), AO eV 2 kX8_clear 72 [some (.ref a0), some (.int x1)] [] h (f_X8_clear_72 n h a0 x1) := by
  induction n with
  | zero => intros; exact ao_none
  | succ n ih =>
    intro h a0 x1
    exact t_X8_clear_72 ih h a0 x1
def b_X8_clear_37 (k37 : aH → Nat → Int32 → Option (Unit × aH)) (h : aH) (a0 : Nat) (x1 : Int32) : Option (Unit × aH) :=
(if 8 ≤ x1 then
f_X8_clear_72 2000 h a0 0
else
(if (sh a0).1 = 15 then
((hR h a0 7).bind fun b22 =>
(if (sh b22).1 = 0 then
(if aIn x1 (sh b22).2 then
(aLet (pI h b22 x1.toNatClampNeg 0) fun h24 =>
((hR h24 a0 8).bind fun b25 =>
(if (sh b25).1 = 0 then
(if aIn x1 (sh b25).2 then
(aLet (pI h24 b25 x1.toNatClampNeg (-1)) fun h27 =>
((hR h27 a0 9).bind fun b28 =>
(if (sh b28).1 = 0 then
(if aIn x1 (sh b28).2 then
(aLet (pI h27 b28 x1.toNatClampNeg 0) fun h30 =>
k37 h30 a0 (x1 + 1))
else none)
else none)))
else none)
else none)))
else none)
else none))
else none))
set_option maxHeartbeats 2000000 in
theorem t_X8_clear_37 {k37 : aH → Nat → Int32 → Option (Unit × aH)} (hk37 : ∀ (h : aH) (a0 : Nat) (x1 : Int32), AO eV 2 kX8_clear 37 [some (.ref a0), some (.int x1)] [] h (k37 h a0 x1)) (h : aH) (a0 : Nat) (x1 : Int32) : AO eV 2 kX8_clear 37 [some (.ref a0), some (.int x1)] [] h (b_X8_clear_37 k37 h a0 x1) := by
  unfold b_X8_clear_37
  refine ao_s (st_iload_n dX8_clear_37 rfl rfl) ?_
  refine ao_s (st_bipush dX8_clear_38 bp_8) ?_
  refine ao_br (br_icmp_ge (tgt := 70) dX8_clear_40 (by decide)) (fun c31 => ?_) (fun c31 => ?_)
  · refine ao_s (st_iconst dX8_clear_70 ic_0) ?_
    refine ao_s (st_istore_n (lv' := [some (.ref a0), some (.int 0)]) dX8_clear_71 rfl (by decide) rfl) ?_
    exact ao_w (sb_s (sb_s sb_0)) (l_X8_clear_72 2000 h a0 0)
  · refine ao_s (st_aload_n dX8_clear_43 rfl rfl) ?_
    refine ao_chk (fun e21 => ?_)
    refine ao_getR dX8_clear_44 fl_X8_35 rfl e21 (fun b22 => ?_)
    refine ao_s (st_iload_n dX8_clear_47 rfl rfl) ?_
    refine ao_s (st_iconst dX8_clear_48 ic_0) ?_
    refine ao_chk (fun e23 => ?_)
    refine ao_iast dX8_clear_49 e23 ?_
    refine ao_letH (fun h24 => ?_)
    refine ao_s (st_aload_n dX8_clear_50 rfl rfl) ?_
    refine ao_getR dX8_clear_51 fl_X8_39 rfl e21 (fun b25 => ?_)
    refine ao_s (st_iload_n dX8_clear_54 rfl rfl) ?_
    refine ao_s (st_iconst dX8_clear_55 ic_m1) ?_
    refine ao_chk (fun e26 => ?_)
    refine ao_iast dX8_clear_56 e26 ?_
    refine ao_letH (fun h27 => ?_)
    refine ao_s (st_aload_n dX8_clear_57 rfl rfl) ?_
    refine ao_getR dX8_clear_58 fl_X8_42 rfl e21 (fun b28 => ?_)
    refine ao_s (st_iload_n dX8_clear_61 rfl rfl) ?_
    refine ao_s (st_iconst dX8_clear_62 ic_0) ?_
    refine ao_chk (fun e29 => ?_)
    refine ao_iast dX8_clear_63 e29 ?_
    refine ao_letH (fun h30 => ?_)
    refine ao_s (st_iinc (lv' := [some (.ref a0), some (.int (x1 + 1))]) dX8_clear_64 rfl nc_1 (by decide) rfl) ?_
    refine ao_s (st_goto 37 dX8_clear_67 (by decide)) ?_
    exact ao_w (sb_s (sb_s sb_0)) (hk37 h30 a0 (x1 + 1))
def f_X8_clear_37 (n : Nat) : aH → Nat → Int32 → Option (Unit × aH) := aIt (fun _ _ _ => none) (fun k => b_X8_clear_37 k) n
theorem l_X8_clear_37 (n : Nat) : ∀ (h : aH) (a0 : Nat) (x1 : Int32), AO eV 2 kX8_clear 37 [some (.ref a0), some (.int x1)] [] h (f_X8_clear_37 n h a0 x1) := by
  induction n with
  | zero => intros; exact ao_none
  | succ n ih =>
    intro h a0 x1
    exact t_X8_clear_37 ih h a0 x1
def f_X8_clear (h : aH) (a0 : Nat) : Option (Unit × aH) :=
(if (sh a0).1 = 15 then
(aLet (pI h a0 0 0) fun h22 =>
(aLet (pI h22 a0 1 0) fun h23 =>
(aLet (pI h23 a0 2 0) fun h24 =>
(aLet (pI h24 a0 3 0) fun h25 =>
(aLet (pI h25 a0 4 0) fun h26 =>
(aLet (pI h26 a0 5 0) fun h27 =>
(aLet (pL h27 a0 6 0) fun h28 =>
f_X8_clear_37 2000 h28 a0 0)))))))
else none)
set_option maxHeartbeats 2000000 in
theorem s_X8_clear (h : aH) (a0 : Nat) : SO eV 2 kX8_clear [.ref a0] h (f_X8_clear h a0) := by
  refine so_of (lv0 := [some (.ref a0), none]) pn_X8 (Nat.le_of_ble_eq_true rfl) rfl ?_
  unfold f_X8_clear
  refine ao_s (st_aload_n dX8_clear_0 rfl rfl) ?_
  refine ao_s (st_iconst dX8_clear_1 ic_0) ?_
  refine ao_chk (fun e21 => ?_)
  refine ao_putI dX8_clear_2 fl_X8_9 rfl rfl (by decide) (by decide) e21 ?_
  refine ao_letH (fun h22 => ?_)
  refine ao_s (st_aload_n dX8_clear_5 rfl rfl) ?_
  refine ao_s (st_iconst dX8_clear_6 ic_0) ?_
  refine ao_putI dX8_clear_7 fl_X8_15 rfl rfl rfl rfl e21 ?_
  refine ao_letH (fun h23 => ?_)
  refine ao_s (st_aload_n dX8_clear_10 rfl rfl) ?_
  refine ao_s (st_iconst dX8_clear_11 ic_0) ?_
  refine ao_putI dX8_clear_12 fl_X8_19 rfl rfl rfl rfl e21 ?_
  refine ao_letH (fun h24 => ?_)
  refine ao_s (st_aload_n dX8_clear_15 rfl rfl) ?_
  refine ao_s (st_iconst dX8_clear_16 ic_0) ?_
  refine ao_putI dX8_clear_17 fl_X8_22 rfl rfl rfl rfl e21 ?_
  refine ao_letH (fun h25 => ?_)
  refine ao_s (st_aload_n dX8_clear_20 rfl rfl) ?_
  refine ao_s (st_iconst dX8_clear_21 ic_0) ?_
  refine ao_putI dX8_clear_22 fl_X8_25 rfl rfl rfl rfl e21 ?_
  refine ao_letH (fun h26 => ?_)
  refine ao_s (st_aload_n dX8_clear_25 rfl rfl) ?_
  refine ao_s (st_iconst dX8_clear_26 ic_0) ?_
  refine ao_putI dX8_clear_27 fl_X8_28 rfl rfl rfl rfl e21 ?_
  refine ao_letH (fun h27 => ?_)
  refine ao_s (st_aload_n dX8_clear_30 rfl rfl) ?_
  refine ao_s (st_lconst dX8_clear_31 lc_0) ?_
  refine ao_putL dX8_clear_32 fl_X8_31 rfl rfl rfl rfl e21 ?_
  refine ao_letH (fun h28 => ?_)
  refine ao_s (st_iconst dX8_clear_35 ic_0) ?_
  refine ao_s (st_istore_n (lv' := [some (.ref a0), some (.int 0)]) dX8_clear_36 rfl (by decide) rfl) ?_
  exact ao_w (sb_s (sb_s sb_0)) (l_X8_clear_37 2000 h28 a0 0)
def b_X8_fillUntoldTruth_30 (k2 : aH → Nat → Int32 → Option (Unit × aH)) (h : aH) (a0 : Nat) (x1 : Int32) : Option (Unit × aH) :=
k2 h a0 (x1 + 1)
set_option maxHeartbeats 2000000 in
theorem t_X8_fillUntoldTruth_30 {k2 : aH → Nat → Int32 → Option (Unit × aH)} (hk2 : ∀ (h : aH) (a0 : Nat) (x1 : Int32), AO eV 2 kX8_fillUntoldTruth 2 [some (.ref a0), some (.int x1)] [] h (k2 h a0 x1)) (h : aH) (a0 : Nat) (x1 : Int32) : AO eV 2 kX8_fillUntoldTruth 30 [some (.ref a0), some (.int x1)] [] h (b_X8_fillUntoldTruth_30 k2 h a0 x1) := by
  unfold b_X8_fillUntoldTruth_30
  refine ao_s (st_iinc (lv' := [some (.ref a0), some (.int (x1 + 1))]) dX8_fillUntoldTruth_30 rfl nc_1 (by decide) rfl) ?_
  refine ao_s (st_goto 2 dX8_fillUntoldTruth_33 (by decide)) ?_
  exact ao_w (sb_s (sb_s sb_0)) (hk2 h a0 (x1 + 1))
def b_X8_fillUntoldTruth_2 (k2 : aH → Nat → Int32 → Option (Unit × aH)) (h : aH) (a0 : Nat) (x1 : Int32) : Option (Unit × aH) :=
(if 32 ≤ x1 then
some ((), h)
else
(if (sh a0).1 = 15 then
((hR h a0 12).bind fun b22 =>
(if (sh b22).1 = 0 then
(if aIn x1 (sh b22).2 then
(if hI h b22 x1.toNatClampNeg = (-1) then
((hR h a0 12).bind fun b24 =>
((hR h a0 11).bind fun b25 =>
(if (sh b25).1 = 0 then
(if aIn x1 (sh b25).2 then
(if (sh b24).1 = 0 then
(if aIn x1 (sh b24).2 then
(aLet (pI h b24 x1.toNatClampNeg (hI h b25 x1.toNatClampNeg)) fun h28 =>
b_X8_fillUntoldTruth_30 k2 h28 a0 x1)
else none)
else none)
else none)
else none)))
else
b_X8_fillUntoldTruth_30 k2 h a0 x1)
else none)
else none))
else none))
set_option maxHeartbeats 2000000 in
theorem t_X8_fillUntoldTruth_2 {k2 : aH → Nat → Int32 → Option (Unit × aH)} (hk2 : ∀ (h : aH) (a0 : Nat) (x1 : Int32), AO eV 2 kX8_fillUntoldTruth 2 [some (.ref a0), some (.int x1)] [] h (k2 h a0 x1)) (h : aH) (a0 : Nat) (x1 : Int32) : AO eV 2 kX8_fillUntoldTruth 2 [some (.ref a0), some (.int x1)] [] h (b_X8_fillUntoldTruth_2 k2 h a0 x1) := by
  unfold b_X8_fillUntoldTruth_2
  refine ao_s (st_iload_n dX8_fillUntoldTruth_2 rfl rfl) ?_
  refine ao_s (st_bipush dX8_fillUntoldTruth_3 bp_32) ?_
  refine ao_br (br_icmp_ge (tgt := 36) dX8_fillUntoldTruth_5 (by decide)) (fun c30 => ?_) (fun c30 => ?_)
  · exact ao_vr dX8_fillUntoldTruth_36 rfl
  · refine ao_s (st_aload_n dX8_fillUntoldTruth_8 rfl rfl) ?_
    refine ao_chk (fun e21 => ?_)
    refine ao_getR dX8_fillUntoldTruth_9 fl_X8_51 rfl e21 (fun b22 => ?_)
    refine ao_s (st_iload_n dX8_fillUntoldTruth_12 rfl rfl) ?_
    refine ao_chk (fun e23 => ?_)
    refine ao_iald dX8_fillUntoldTruth_13 e23 ?_
    refine ao_s (st_iconst dX8_fillUntoldTruth_14 ic_m1) ?_
    refine ao_br (br_icmp_ne (tgt := 30) dX8_fillUntoldTruth_15 (by decide)) (fun c29 => ?_) (fun c29 => ?_)
    · refine ao_s (st_aload_n dX8_fillUntoldTruth_18 rfl rfl) ?_
      refine ao_getR dX8_fillUntoldTruth_19 fl_X8_51 rfl e21 (fun b24 => ?_)
      refine ao_s (st_iload_n dX8_fillUntoldTruth_22 rfl rfl) ?_
      refine ao_s (st_aload_n dX8_fillUntoldTruth_23 rfl rfl) ?_
      refine ao_getR dX8_fillUntoldTruth_24 fl_X8_48 rfl e21 (fun b25 => ?_)
      refine ao_s (st_iload_n dX8_fillUntoldTruth_27 rfl rfl) ?_
      refine ao_chk (fun e26 => ?_)
      refine ao_iald dX8_fillUntoldTruth_28 e26 ?_
      refine ao_chk (fun e27 => ?_)
      refine ao_iast dX8_fillUntoldTruth_29 e27 ?_
      refine ao_letH (fun h28 => ?_)
      exact ao_w (sb_s (sb_s sb_0)) (t_X8_fillUntoldTruth_30 hk2 h28 a0 x1)
    · exact ao_w (sb_s (sb_s sb_0)) (t_X8_fillUntoldTruth_30 hk2 h a0 x1)
def f_X8_fillUntoldTruth_2 (n : Nat) : aH → Nat → Int32 → Option (Unit × aH) := aIt (fun _ _ _ => none) (fun k => b_X8_fillUntoldTruth_2 k) n
theorem l_X8_fillUntoldTruth_2 (n : Nat) : ∀ (h : aH) (a0 : Nat) (x1 : Int32), AO eV 2 kX8_fillUntoldTruth 2 [some (.ref a0), some (.int x1)] [] h (f_X8_fillUntoldTruth_2 n h a0 x1) := by
  induction n with
  | zero => intros; exact ao_none
  | succ n ih =>
    intro h a0 x1
    exact t_X8_fillUntoldTruth_2 ih h a0 x1
def f_X8_fillUntoldTruth (h : aH) (a0 : Nat) : Option (Unit × aH) :=
f_X8_fillUntoldTruth_2 2000 h a0 0
set_option maxHeartbeats 2000000 in
theorem s_X8_fillUntoldTruth (h : aH) (a0 : Nat) : SO eV 2 kX8_fillUntoldTruth [.ref a0] h (f_X8_fillUntoldTruth h a0) := by
  refine so_of (lv0 := [some (.ref a0), none]) pn_X8 (Nat.le_of_ble_eq_true rfl) rfl ?_
  unfold f_X8_fillUntoldTruth
  refine ao_s (st_iconst dX8_fillUntoldTruth_0 ic_0) ?_
  refine ao_s (st_istore_n (lv' := [some (.ref a0), some (.int 0)]) dX8_fillUntoldTruth_1 rfl (by decide) rfl) ?_
  exact ao_w (sb_s (sb_s sb_0)) (l_X8_fillUntoldTruth_2 2000 h a0 0)
def f_X9_next (h : aH) (a0 : Nat) : Option (Int32 × aH) :=
(if (sh a0).1 = 16 then
(aBind (f_X9_seek h a0) fun r22 h23 =>
(aBind (f_X9_byteAt h23 a0 r22) fun r24 h25 =>
some (r24, h25)))
else none)
set_option maxHeartbeats 2000000 in
theorem s_X9_next (h : aH) (a0 : Nat) : SO eI 3 kX9_next [.ref a0] h (f_X9_next h a0) := by
  refine so_of (lv0 := [some (.ref a0)]) pn_X9 (Nat.le_of_ble_eq_true rfl) rfl ?_
  unfold f_X9_next
  refine ao_s (st_aload_n dX9_next_0 rfl rfl) ?_
  refine ao_s (st_aload_n dX9_next_1 rfl rfl) ?_
  refine ao_chk (fun e21 => ?_)
  refine ao_cVi (Kc := kX9_seek) (As := []) (st := [.ref a0]) dX9_next_2 ml_X9_25 mv_X9_seek rfl e21 (by decide) rfl rfl (Nat.le_of_ble_eq_true rfl) (by decide) (s_X9_seek h a0) (fun r22 h23 => ?_)
  refine ao_cVi (Kc := kX9_byteAt) (As := [.int r22]) (st := []) dX9_next_5 ml_X9_29 mv_X9_byteAt rfl e21 (by decide) rfl rfl (Nat.le_of_ble_eq_true rfl) (by decide) (s_X9_byteAt h23 a0 r22) (fun r24 h25 => ?_)
  exact ao_ir dX9_next_8 rfl rfl
