def b_X6_readTest_7 (rc : Nat → aH → Nat → Int32 → Option (Unit × aH)) (k7 : aH → Nat → Int32 → Int32 → Option (Unit × aH)) (h : aH) (a0 : Nat) (x1 : Int32) (x2 : Int32) : Option (Unit × aH) :=
(if 400 ≤ x2 then
some ((), h)
else
(if (sh a0).1 = 13 then
(aBind (f_X6_isNextWord h a0 1004) fun r22 h23 =>
(if r22 = 0 then
some ((), h23)
else
(aBind (rc 1 h23 a0 x1) fun r24 h25 =>
((hR h25 a0 1).bind fun b26 =>
(if (sh b26).1 = 12 then
(aBind (f_X5_emit h25 b26 13 0) fun r28 h29 =>
k7 h29 a0 x1 (x2 + 1))
else none)))))
else none))
set_option maxHeartbeats 2000000 in
theorem t_X6_readTest_7 {m0 : Nat} {rc : Nat → aH → Nat → Int32 → Option (Unit × aH)} (hrc : (∀ (h : aH) (a0 : Nat) (x1 : Int32), SO eV (9 + m0) kX6_readTest [.ref a0, .int x1] h (rc 0 h a0 x1)) ∧ (∀ (h : aH) (a0 : Nat) (x1 : Int32), SO eV (9 + m0) kX6_readPart [.ref a0, .int x1] h (rc 1 h a0 x1)) ∧ (∀ (h : aH) (a0 : Nat) (x1 : Int32), SO eV (9 + m0) kX6_readFact [.ref a0, .int x1] h (rc 2 h a0 x1))) {k7 : aH → Nat → Int32 → Int32 → Option (Unit × aH)} (hk7 : ∀ (h : aH) (a0 : Nat) (x1 : Int32) (x2 : Int32), AO eV (9 + m0 + 1) kX6_readTest 7 [some (.ref a0), some (.int x1), some (.int x2)] [] h (k7 h a0 x1 x2)) (h : aH) (a0 : Nat) (x1 : Int32) (x2 : Int32) : AO eV (9 + m0 + 1) kX6_readTest 7 [some (.ref a0), some (.int x1), some (.int x2)] [] h (b_X6_readTest_7 rc k7 h a0 x1 x2) := by
  unfold b_X6_readTest_7
  refine ao_s (st_iload_n dX6_readTest_7 rfl rfl) ?_
  refine ao_s (st_sipush dX6_readTest_8 sp_400) ?_
  refine ao_br (br_icmp_ge (tgt := 44) dX6_readTest_11 (by decide)) (fun c31 => ?_) (fun c31 => ?_)
  · exact ao_vr dX6_readTest_44 rfl
  · refine ao_s (st_aload_n dX6_readTest_14 rfl rfl) ?_
    refine ao_s (st_ldcS (i := 4) dX6_readTest_15 (by decide) rfl rfl) ?_
    refine ao_chk (fun e21 => ?_)
    refine ao_cVi (Kc := kX6_isNextWord) (As := [.ref 1004]) (st := []) dX6_readTest_17 ml_X6_73 mv_X6_isNextWord rfl e21 (by decide) rfl rfl (Nat.le_of_ble_eq_true rfl) (by omega) (s_X6_isNextWord h a0 1004) (fun r22 h23 => ?_)
    refine ao_br (br_if_eq (tgt := 44) dX6_readTest_20 (by decide)) (fun c30 => ?_) (fun c30 => ?_)
    · exact ao_vr dX6_readTest_44 rfl
    · refine ao_s (st_aload_n dX6_readTest_23 rfl rfl) ?_
      refine ao_s (st_iload_n dX6_readTest_24 rfl rfl) ?_
      refine ao_cVv (Kc := kX6_readPart) (As := [.int x1]) (st := []) dX6_readTest_25 ml_X6_83 mv_X6_readPart rfl e21 (by decide) rfl rfl (Nat.le_of_ble_eq_true rfl) (Nat.le_refl _) (hrc.2.1 h23 a0 x1) (fun r24 h25 => ?_)
      refine ao_s (st_aload_n dX6_readTest_28 rfl rfl) ?_
      refine ao_getR dX6_readTest_29 fl_X6_12 rfl e21 (fun b26 => ?_)
      refine ao_s (st_bipush dX6_readTest_32 bp_13) ?_
      refine ao_s (st_iconst dX6_readTest_34 ic_0) ?_
      refine ao_chk (fun e27 => ?_)
      refine ao_cVv (Kc := kX5_emit) (As := [.int 13, .int 0]) (st := []) dX6_readTest_35 ml_X6_88 mv_X5_emit rfl e27 (by decide) rfl rfl (Nat.le_of_ble_eq_true rfl) (by omega) (s_X5_emit h25 b26 13 0) (fun r28 h29 => ?_)
      refine ao_s (st_iinc (lv' := [some (.ref a0), some (.int x1), some (.int (x2 + 1))]) dX6_readTest_38 rfl nc_1 (by decide) rfl) ?_
      refine ao_s (st_goto 7 dX6_readTest_41 (by decide)) ?_
      exact ao_w (sb_s (sb_s (sb_s sb_0))) (hk7 h29 a0 x1 (x2 + 1))
def f_X6_readTest_7 (rc : Nat → aH → Nat → Int32 → Option (Unit × aH)) (n : Nat) : aH → Nat → Int32 → Int32 → Option (Unit × aH) := aIt (fun _ _ _ _ => none) (fun k => b_X6_readTest_7 rc k) n
theorem l_X6_readTest_7 {m0 : Nat} {rc : Nat → aH → Nat → Int32 → Option (Unit × aH)} (hrc : (∀ (h : aH) (a0 : Nat) (x1 : Int32), SO eV (9 + m0) kX6_readTest [.ref a0, .int x1] h (rc 0 h a0 x1)) ∧ (∀ (h : aH) (a0 : Nat) (x1 : Int32), SO eV (9 + m0) kX6_readPart [.ref a0, .int x1] h (rc 1 h a0 x1)) ∧ (∀ (h : aH) (a0 : Nat) (x1 : Int32), SO eV (9 + m0) kX6_readFact [.ref a0, .int x1] h (rc 2 h a0 x1))) (n : Nat) : ∀ (h : aH) (a0 : Nat) (x1 : Int32) (x2 : Int32), AO eV (9 + m0 + 1) kX6_readTest 7 [some (.ref a0), some (.int x1), some (.int x2)] [] h (f_X6_readTest_7 rc n h a0 x1 x2) := by
  induction n with
  | zero => intros; exact ao_none
  | succ n ih =>
    intro h a0 x1 x2
    exact t_X6_readTest_7 hrc ih h a0 x1 x2
def fb_X6_readTest (rc : Nat → aH → Nat → Int32 → Option (Unit × aH)) (h : aH) (a0 : Nat) (x1 : Int32) : Option (Unit × aH) :=
(if (sh a0).1 = 13 then
(aBind (rc 1 h a0 x1) fun r22 h23 =>
f_X6_readTest_7 rc 2000 h23 a0 x1 0)
else none)
set_option maxHeartbeats 2000000 in
theorem sb_X6_readTest {m0 : Nat} {rc : Nat → aH → Nat → Int32 → Option (Unit × aH)} (hrc : (∀ (h : aH) (a0 : Nat) (x1 : Int32), SO eV (9 + m0) kX6_readTest [.ref a0, .int x1] h (rc 0 h a0 x1)) ∧ (∀ (h : aH) (a0 : Nat) (x1 : Int32), SO eV (9 + m0) kX6_readPart [.ref a0, .int x1] h (rc 1 h a0 x1)) ∧ (∀ (h : aH) (a0 : Nat) (x1 : Int32), SO eV (9 + m0) kX6_readFact [.ref a0, .int x1] h (rc 2 h a0 x1))) (h : aH) (a0 : Nat) (x1 : Int32) : SO eV (9 + m0 + 1) kX6_readTest [.ref a0, .int x1] h (fb_X6_readTest rc h a0 x1) := by
  refine so_of (lv0 := [some (.ref a0), some (.int x1), none]) pn_X6 (Nat.le_of_ble_eq_true rfl) rfl ?_
  unfold fb_X6_readTest
  refine ao_s (st_aload_n dX6_readTest_0 rfl rfl) ?_
  refine ao_s (st_iload_n dX6_readTest_1 rfl rfl) ?_
  refine ao_chk (fun e21 => ?_)
  refine ao_cVv (Kc := kX6_readPart) (As := [.int x1]) (st := []) dX6_readTest_2 ml_X6_83 mv_X6_readPart rfl e21 (by decide) rfl rfl (Nat.le_of_ble_eq_true rfl) (Nat.le_refl _) (hrc.2.1 h a0 x1) (fun r22 h23 => ?_)
  refine ao_s (st_iconst dX6_readTest_5 ic_0) ?_
  refine ao_s (st_istore_n (lv' := [some (.ref a0), some (.int x1), some (.int 0)]) dX6_readTest_6 rfl (by decide) rfl) ?_
  exact ao_w (sb_s (sb_s (sb_s sb_0))) (l_X6_readTest_7 hrc 2000 h23 a0 x1 0)
def b_X6_readPart_7 (rc : Nat → aH → Nat → Int32 → Option (Unit × aH)) (k7 : aH → Nat → Int32 → Int32 → Option (Unit × aH)) (h : aH) (a0 : Nat) (x1 : Int32) (x2 : Int32) : Option (Unit × aH) :=
(if 400 ≤ x2 then
some ((), h)
else
(if (sh a0).1 = 13 then
(aBind (f_X6_isNextWord h a0 1005) fun r22 h23 =>
(if r22 = 0 then
some ((), h23)
else
(aBind (rc 2 h23 a0 x1) fun r24 h25 =>
((hR h25 a0 1).bind fun b26 =>
(if (sh b26).1 = 12 then
(aBind (f_X5_emit h25 b26 12 0) fun r28 h29 =>
k7 h29 a0 x1 (x2 + 1))
else none)))))
else none))
set_option maxHeartbeats 2000000 in
theorem t_X6_readPart_7 {m0 : Nat} {rc : Nat → aH → Nat → Int32 → Option (Unit × aH)} (hrc : (∀ (h : aH) (a0 : Nat) (x1 : Int32), SO eV (9 + m0) kX6_readTest [.ref a0, .int x1] h (rc 0 h a0 x1)) ∧ (∀ (h : aH) (a0 : Nat) (x1 : Int32), SO eV (9 + m0) kX6_readPart [.ref a0, .int x1] h (rc 1 h a0 x1)) ∧ (∀ (h : aH) (a0 : Nat) (x1 : Int32), SO eV (9 + m0) kX6_readFact [.ref a0, .int x1] h (rc 2 h a0 x1))) {k7 : aH → Nat → Int32 → Int32 → Option (Unit × aH)} (hk7 : ∀ (h : aH) (a0 : Nat) (x1 : Int32) (x2 : Int32), AO eV (9 + m0 + 1) kX6_readPart 7 [some (.ref a0), some (.int x1), some (.int x2)] [] h (k7 h a0 x1 x2)) (h : aH) (a0 : Nat) (x1 : Int32) (x2 : Int32) : AO eV (9 + m0 + 1) kX6_readPart 7 [some (.ref a0), some (.int x1), some (.int x2)] [] h (b_X6_readPart_7 rc k7 h a0 x1 x2) := by
  unfold b_X6_readPart_7
  refine ao_s (st_iload_n dX6_readPart_7 rfl rfl) ?_
  refine ao_s (st_sipush dX6_readPart_8 sp_400) ?_
  refine ao_br (br_icmp_ge (tgt := 44) dX6_readPart_11 (by decide)) (fun c31 => ?_) (fun c31 => ?_)
  · exact ao_vr dX6_readPart_44 rfl
  · refine ao_s (st_aload_n dX6_readPart_14 rfl rfl) ?_
    refine ao_s (st_ldcS (i := 5) dX6_readPart_15 (by decide) rfl rfl) ?_
    refine ao_chk (fun e21 => ?_)
    refine ao_cVi (Kc := kX6_isNextWord) (As := [.ref 1005]) (st := []) dX6_readPart_17 ml_X6_73 mv_X6_isNextWord rfl e21 (by decide) rfl rfl (Nat.le_of_ble_eq_true rfl) (by omega) (s_X6_isNextWord h a0 1005) (fun r22 h23 => ?_)
    refine ao_br (br_if_eq (tgt := 44) dX6_readPart_20 (by decide)) (fun c30 => ?_) (fun c30 => ?_)
    · exact ao_vr dX6_readPart_44 rfl
    · refine ao_s (st_aload_n dX6_readPart_23 rfl rfl) ?_
      refine ao_s (st_iload_n dX6_readPart_24 rfl rfl) ?_
      refine ao_cVv (Kc := kX6_readFact) (As := [.int x1]) (st := []) dX6_readPart_25 ml_X6_91 mv_X6_readFact rfl e21 (by decide) rfl rfl (Nat.le_of_ble_eq_true rfl) (Nat.le_refl _) (hrc.2.2 h23 a0 x1) (fun r24 h25 => ?_)
      refine ao_s (st_aload_n dX6_readPart_28 rfl rfl) ?_
      refine ao_getR dX6_readPart_29 fl_X6_12 rfl e21 (fun b26 => ?_)
      refine ao_s (st_bipush dX6_readPart_32 bp_12) ?_
      refine ao_s (st_iconst dX6_readPart_34 ic_0) ?_
      refine ao_chk (fun e27 => ?_)
      refine ao_cVv (Kc := kX5_emit) (As := [.int 12, .int 0]) (st := []) dX6_readPart_35 ml_X6_88 mv_X5_emit rfl e27 (by decide) rfl rfl (Nat.le_of_ble_eq_true rfl) (by omega) (s_X5_emit h25 b26 12 0) (fun r28 h29 => ?_)
      refine ao_s (st_iinc (lv' := [some (.ref a0), some (.int x1), some (.int (x2 + 1))]) dX6_readPart_38 rfl nc_1 (by decide) rfl) ?_
      refine ao_s (st_goto 7 dX6_readPart_41 (by decide)) ?_
      exact ao_w (sb_s (sb_s (sb_s sb_0))) (hk7 h29 a0 x1 (x2 + 1))
def f_X6_readPart_7 (rc : Nat → aH → Nat → Int32 → Option (Unit × aH)) (n : Nat) : aH → Nat → Int32 → Int32 → Option (Unit × aH) := aIt (fun _ _ _ _ => none) (fun k => b_X6_readPart_7 rc k) n
theorem l_X6_readPart_7 {m0 : Nat} {rc : Nat → aH → Nat → Int32 → Option (Unit × aH)} (hrc : (∀ (h : aH) (a0 : Nat) (x1 : Int32), SO eV (9 + m0) kX6_readTest [.ref a0, .int x1] h (rc 0 h a0 x1)) ∧ (∀ (h : aH) (a0 : Nat) (x1 : Int32), SO eV (9 + m0) kX6_readPart [.ref a0, .int x1] h (rc 1 h a0 x1)) ∧ (∀ (h : aH) (a0 : Nat) (x1 : Int32), SO eV (9 + m0) kX6_readFact [.ref a0, .int x1] h (rc 2 h a0 x1))) (n : Nat) : ∀ (h : aH) (a0 : Nat) (x1 : Int32) (x2 : Int32), AO eV (9 + m0 + 1) kX6_readPart 7 [some (.ref a0), some (.int x1), some (.int x2)] [] h (f_X6_readPart_7 rc n h a0 x1 x2) := by
  induction n with
  | zero => intros; exact ao_none
  | succ n ih =>
    intro h a0 x1 x2
    exact t_X6_readPart_7 hrc ih h a0 x1 x2
def fb_X6_readPart (rc : Nat → aH → Nat → Int32 → Option (Unit × aH)) (h : aH) (a0 : Nat) (x1 : Int32) : Option (Unit × aH) :=
(if (sh a0).1 = 13 then
(aBind (rc 2 h a0 x1) fun r22 h23 =>
f_X6_readPart_7 rc 2000 h23 a0 x1 0)
else none)
set_option maxHeartbeats 2000000 in
theorem sb_X6_readPart {m0 : Nat} {rc : Nat → aH → Nat → Int32 → Option (Unit × aH)} (hrc : (∀ (h : aH) (a0 : Nat) (x1 : Int32), SO eV (9 + m0) kX6_readTest [.ref a0, .int x1] h (rc 0 h a0 x1)) ∧ (∀ (h : aH) (a0 : Nat) (x1 : Int32), SO eV (9 + m0) kX6_readPart [.ref a0, .int x1] h (rc 1 h a0 x1)) ∧ (∀ (h : aH) (a0 : Nat) (x1 : Int32), SO eV (9 + m0) kX6_readFact [.ref a0, .int x1] h (rc 2 h a0 x1))) (h : aH) (a0 : Nat) (x1 : Int32) : SO eV (9 + m0 + 1) kX6_readPart [.ref a0, .int x1] h (fb_X6_readPart rc h a0 x1) := by
  refine so_of (lv0 := [some (.ref a0), some (.int x1), none]) pn_X6 (Nat.le_of_ble_eq_true rfl) rfl ?_
  unfold fb_X6_readPart
  refine ao_s (st_aload_n dX6_readPart_0 rfl rfl) ?_
  refine ao_s (st_iload_n dX6_readPart_1 rfl rfl) ?_
  refine ao_chk (fun e21 => ?_)
  refine ao_cVv (Kc := kX6_readFact) (As := [.int x1]) (st := []) dX6_readPart_2 ml_X6_91 mv_X6_readFact rfl e21 (by decide) rfl rfl (Nat.le_of_ble_eq_true rfl) (Nat.le_refl _) (hrc.2.2 h a0 x1) (fun r22 h23 => ?_)
  refine ao_s (st_iconst dX6_readPart_5 ic_0) ?_
  refine ao_s (st_istore_n (lv' := [some (.ref a0), some (.int x1), some (.int 0)]) dX6_readPart_6 rfl (by decide) rfl) ?_
  exact ao_w (sb_s (sb_s (sb_s sb_0))) (l_X6_readPart_7 hrc 2000 h23 a0 x1 0)
def b_X6_readFact_75 (rc : Nat → aH → Nat → Int32 → Option (Unit × aH)) (h : aH) (a0 : Nat) (x1 : Int32) (x3 : Int32) (x4 : Int32) : Option (Unit × aH) :=
(if x3 = 0 then
(if x4 = 0 then
(if (sh a0).1 = 13 then
(aBind (f_X6_readSum h a0) fun r22 h23 =>
(aBind (f_X6_takeComparer h23 a0) fun r24 h25 =>
(aBind (f_X6_readSum h25 a0) fun r26 h27 =>
((hR h27 a0 1).bind fun b28 =>
(if (sh b28).1 = 12 then
(aBind (f_X5_emit h27 b28 r24 0) fun r30 h31 =>
some ((), h31))
else none)))))
else none)
else
(if (sh a0).1 = 13 then
(aBind (rc 0 h a0 (x1 + 1)) fun r33 h34 =>
(aBind (f_X6_closeBracket h34 a0) fun r35 h36 =>
some ((), h36)))
else none))
else
(if (sh a0).1 = 13 then
(aBind (rc 2 h a0 (x1 + 1)) fun r39 h40 =>
((hR h40 a0 1).bind fun b41 =>
(if (sh b41).1 = 12 then
(aBind (f_X5_emit h40 b41 14 0) fun r43 h44 =>
some ((), h44))
else none)))
else none))
set_option maxHeartbeats 2000000 in
theorem t_X6_readFact_75 {m0 : Nat} {rc : Nat → aH → Nat → Int32 → Option (Unit × aH)} (hrc : (∀ (h : aH) (a0 : Nat) (x1 : Int32), SO eV (9 + m0) kX6_readTest [.ref a0, .int x1] h (rc 0 h a0 x1)) ∧ (∀ (h : aH) (a0 : Nat) (x1 : Int32), SO eV (9 + m0) kX6_readPart [.ref a0, .int x1] h (rc 1 h a0 x1)) ∧ (∀ (h : aH) (a0 : Nat) (x1 : Int32), SO eV (9 + m0) kX6_readFact [.ref a0, .int x1] h (rc 2 h a0 x1))) (h : aH) (a0 : Nat) (x1 : Int32) (x3 : Int32) (x4 : Int32) : AO eV (9 + m0 + 1) kX6_readFact 75 [some (.ref a0), some (.int x1), none, some (.int x3), some (.int x4), none] [] h (b_X6_readFact_75 rc h a0 x1 x3 x4) := by
  unfold b_X6_readFact_75
  refine ao_s (st_iload_n dX6_readFact_75 rfl rfl) ?_
  refine ao_br (br_if_eq (tgt := 99) dX6_readFact_76 (by decide)) (fun c45 => ?_) (fun c45 => ?_)
  · refine ao_s (st_iload dX6_readFact_99 rfl) ?_
    refine ao_br (br_if_eq (tgt := 118) dX6_readFact_101 (by decide)) (fun c37 => ?_) (fun c37 => ?_)
    · refine ao_s (st_aload_n dX6_readFact_118 rfl rfl) ?_
      refine ao_chk (fun e21 => ?_)
      refine ao_cVv (Kc := kX6_readSum) (As := []) (st := []) dX6_readFact_119 ml_X6_68 mv_X6_readSum rfl e21 (by decide) rfl rfl (Nat.le_of_ble_eq_true rfl) (by omega) (s_X6_readSum h a0) (fun r22 h23 => ?_)
      refine ao_s (st_aload_n dX6_readFact_122 rfl rfl) ?_
      refine ao_cVi (Kc := kX6_takeComparer) (As := []) (st := []) dX6_readFact_123 ml_X6_101 mv_X6_takeComparer rfl e21 (by decide) rfl rfl (Nat.le_of_ble_eq_true rfl) (by omega) (s_X6_takeComparer h23 a0) (fun r24 h25 => ?_)
      refine ao_s (st_istore (lv' := [some (.ref a0), some (.int x1), none, some (.int x3), some (.int x4), some (.int r24)]) dX6_readFact_126 (by decide) rfl) ?_
      refine ao_s (st_aload_n dX6_readFact_128 rfl rfl) ?_
      refine ao_cVv (Kc := kX6_readSum) (As := []) (st := []) dX6_readFact_129 ml_X6_68 mv_X6_readSum rfl e21 (by decide) rfl rfl (Nat.le_of_ble_eq_true rfl) (by omega) (s_X6_readSum h25 a0) (fun r26 h27 => ?_)
      refine ao_s (st_aload_n dX6_readFact_132 rfl rfl) ?_
      refine ao_getR dX6_readFact_133 fl_X6_12 rfl e21 (fun b28 => ?_)
      refine ao_s (st_iload dX6_readFact_136 rfl) ?_
      refine ao_s (st_iconst dX6_readFact_138 ic_0) ?_
      refine ao_chk (fun e29 => ?_)
      refine ao_cVv (Kc := kX5_emit) (As := [.int r24, .int 0]) (st := []) dX6_readFact_139 ml_X6_88 mv_X5_emit rfl e29 (by decide) rfl rfl (Nat.le_of_ble_eq_true rfl) (by omega) (s_X5_emit h27 b28 r24 0) (fun r30 h31 => ?_)
      exact ao_vr dX6_readFact_142 rfl
    · refine ao_s (st_aload_n dX6_readFact_104 rfl rfl) ?_
      refine ao_s (st_iload_n dX6_readFact_105 rfl rfl) ?_
      refine ao_s (st_iconst dX6_readFact_106 ic_1) ?_
      refine ao_s (st_iadd dX6_readFact_107) ?_
      refine ao_chk (fun e32 => ?_)
      refine ao_cVv (Kc := kX6_readTest) (As := [.int (x1 + 1)]) (st := []) dX6_readFact_108 ml_X6_77 mv_X6_readTest rfl e32 (by decide) rfl rfl (Nat.le_of_ble_eq_true rfl) (Nat.le_refl _) (hrc.1 h a0 (x1 + 1)) (fun r33 h34 => ?_)
      refine ao_s (st_aload_n dX6_readFact_111 rfl rfl) ?_
      refine ao_cVv (Kc := kX6_closeBracket) (As := []) (st := []) dX6_readFact_112 ml_X6_98 mv_X6_closeBracket rfl e32 (by decide) rfl rfl (Nat.le_of_ble_eq_true rfl) (by omega) (s_X6_closeBracket h34 a0) (fun r35 h36 => ?_)
      refine ao_s (st_goto 142 dX6_readFact_115 (by decide)) ?_
      exact ao_vr dX6_readFact_142 rfl
  · refine ao_s (st_aload_n dX6_readFact_79 rfl rfl) ?_
    refine ao_s (st_iload_n dX6_readFact_80 rfl rfl) ?_
    refine ao_s (st_iconst dX6_readFact_81 ic_1) ?_
    refine ao_s (st_iadd dX6_readFact_82) ?_
    refine ao_chk (fun e38 => ?_)
    refine ao_cVv (Kc := kX6_readFact) (As := [.int (x1 + 1)]) (st := []) dX6_readFact_83 ml_X6_91 mv_X6_readFact rfl e38 (by decide) rfl rfl (Nat.le_of_ble_eq_true rfl) (Nat.le_refl _) (hrc.2.2 h a0 (x1 + 1)) (fun r39 h40 => ?_)
    refine ao_s (st_aload_n dX6_readFact_86 rfl rfl) ?_
    refine ao_getR dX6_readFact_87 fl_X6_12 rfl e38 (fun b41 => ?_)
    refine ao_s (st_bipush dX6_readFact_90 bp_14) ?_
    refine ao_s (st_iconst dX6_readFact_92 ic_0) ?_
    refine ao_chk (fun e42 => ?_)
    refine ao_cVv (Kc := kX5_emit) (As := [.int 14, .int 0]) (st := []) dX6_readFact_93 ml_X6_88 mv_X5_emit rfl e42 (by decide) rfl rfl (Nat.le_of_ble_eq_true rfl) (by omega) (s_X5_emit h40 b41 14 0) (fun r43 h44 => ?_)
    refine ao_s (st_goto 142 dX6_readFact_96 (by decide)) ?_
    exact ao_vr dX6_readFact_142 rfl
def b_X6_readFact_57 (rc : Nat → aH → Nat → Int32 → Option (Unit × aH)) (h : aH) (a0 : Nat) (x1 : Int32) (x2 : Int32) (x3 : Int32) (x4 : Int32) : Option (Unit × aH) :=
(if x1 < 10 then
b_X6_readFact_75 rc h a0 x1 x3 x4
else
(if (sh a0).1 = 13 then
((hR h a0 0).bind fun b22 =>
(if (sh b22).1 = 16 then
(aBind (f_X9_blame h b22 x2 2) fun r24 h25 =>
some ((), h25))
else none))
else none))
set_option maxHeartbeats 2000000 in
theorem t_X6_readFact_57 {m0 : Nat} {rc : Nat → aH → Nat → Int32 → Option (Unit × aH)} (hrc : (∀ (h : aH) (a0 : Nat) (x1 : Int32), SO eV (9 + m0) kX6_readTest [.ref a0, .int x1] h (rc 0 h a0 x1)) ∧ (∀ (h : aH) (a0 : Nat) (x1 : Int32), SO eV (9 + m0) kX6_readPart [.ref a0, .int x1] h (rc 1 h a0 x1)) ∧ (∀ (h : aH) (a0 : Nat) (x1 : Int32), SO eV (9 + m0) kX6_readFact [.ref a0, .int x1] h (rc 2 h a0 x1))) (h : aH) (a0 : Nat) (x1 : Int32) (x2 : Int32) (x3 : Int32) (x4 : Int32) : AO eV (9 + m0 + 1) kX6_readFact 57 [some (.ref a0), some (.int x1), some (.int x2), some (.int x3), some (.int x4), none] [] h (b_X6_readFact_57 rc h a0 x1 x2 x3 x4) := by
  unfold b_X6_readFact_57
  refine ao_s (st_iload_n dX6_readFact_57 rfl rfl) ?_
  refine ao_s (st_bipush dX6_readFact_58 bp_10) ?_
  refine ao_br (br_icmp_lt (tgt := 75) dX6_readFact_60 (by decide)) (fun c26 => ?_) (fun c26 => ?_)
  · exact ao_w (sb_s (sb_s (sb_n (sb_s (sb_s (sb_n sb_0)))))) (t_X6_readFact_75 hrc h a0 x1 x3 x4)
  · refine ao_s (st_aload_n dX6_readFact_63 rfl rfl) ?_
    refine ao_chk (fun e21 => ?_)
    refine ao_getR dX6_readFact_64 fl_X6_22 rfl e21 (fun b22 => ?_)
    refine ao_s (st_iload_n dX6_readFact_67 rfl rfl) ?_
    refine ao_s (st_iconst dX6_readFact_68 ic_2) ?_
    refine ao_chk (fun e23 => ?_)
    refine ao_cVv (Kc := kX9_blame) (As := [.int x2, .int 2]) (st := []) dX6_readFact_69 ml_X6_52 mv_X9_blame rfl e23 (by decide) rfl rfl (Nat.le_of_ble_eq_true rfl) (by omega) (s_X9_blame h b22 x2 2) (fun r24 h25 => ?_)
    refine ao_s (st_goto 142 dX6_readFact_72 (by decide)) ?_
    exact ao_vr dX6_readFact_142 rfl
def b_X6_readFact_46 (rc : Nat → aH → Nat → Int32 → Option (Unit × aH)) (h : aH) (a0 : Nat) (x1 : Int32) (x2 : Int32) (x3 : Int32) (s0 : Int32) : Option (Unit × aH) :=
(if x3 = 0 then
(if s0 = 0 then
b_X6_readFact_75 rc h a0 x1 x3 s0
else
b_X6_readFact_57 rc h a0 x1 x2 x3 s0)
else
b_X6_readFact_57 rc h a0 x1 x2 x3 s0)
set_option maxHeartbeats 2000000 in
theorem t_X6_readFact_46 {m0 : Nat} {rc : Nat → aH → Nat → Int32 → Option (Unit × aH)} (hrc : (∀ (h : aH) (a0 : Nat) (x1 : Int32), SO eV (9 + m0) kX6_readTest [.ref a0, .int x1] h (rc 0 h a0 x1)) ∧ (∀ (h : aH) (a0 : Nat) (x1 : Int32), SO eV (9 + m0) kX6_readPart [.ref a0, .int x1] h (rc 1 h a0 x1)) ∧ (∀ (h : aH) (a0 : Nat) (x1 : Int32), SO eV (9 + m0) kX6_readFact [.ref a0, .int x1] h (rc 2 h a0 x1))) (h : aH) (a0 : Nat) (x1 : Int32) (x2 : Int32) (x3 : Int32) (s0 : Int32) : AO eV (9 + m0 + 1) kX6_readFact 46 [some (.ref a0), some (.int x1), some (.int x2), some (.int x3), none, none] [.int s0] h (b_X6_readFact_46 rc h a0 x1 x2 x3 s0) := by
  unfold b_X6_readFact_46
  refine ao_s (st_istore (lv' := [some (.ref a0), some (.int x1), some (.int x2), some (.int x3), some (.int s0), none]) dX6_readFact_46 (by decide) rfl) ?_
  refine ao_s (st_iload_n dX6_readFact_48 rfl rfl) ?_
  refine ao_br (br_if_ne (tgt := 57) dX6_readFact_49 (by decide)) (fun c22 => ?_) (fun c22 => ?_)
  · refine ao_s (st_iload dX6_readFact_52 rfl) ?_
    refine ao_br (br_if_eq (tgt := 75) dX6_readFact_54 (by decide)) (fun c21 => ?_) (fun c21 => ?_)
    · exact ao_w (sb_s (sb_s (sb_n (sb_s (sb_s (sb_n sb_0)))))) (t_X6_readFact_75 hrc h a0 x1 x3 s0)
    · exact ao_w (sb_s (sb_s (sb_s (sb_s (sb_s (sb_n sb_0)))))) (t_X6_readFact_57 hrc h a0 x1 x2 x3 s0)
  · exact ao_w (sb_s (sb_s (sb_s (sb_s (sb_s (sb_n sb_0)))))) (t_X6_readFact_57 hrc h a0 x1 x2 x3 s0)
def b_X6_readFact_45 (rc : Nat → aH → Nat → Int32 → Option (Unit × aH)) (h : aH) (a0 : Nat) (x1 : Int32) (x2 : Int32) (x3 : Int32) : Option (Unit × aH) :=
b_X6_readFact_46 rc h a0 x1 x2 x3 0
set_option maxHeartbeats 2000000 in
theorem t_X6_readFact_45 {m0 : Nat} {rc : Nat → aH → Nat → Int32 → Option (Unit × aH)} (hrc : (∀ (h : aH) (a0 : Nat) (x1 : Int32), SO eV (9 + m0) kX6_readTest [.ref a0, .int x1] h (rc 0 h a0 x1)) ∧ (∀ (h : aH) (a0 : Nat) (x1 : Int32), SO eV (9 + m0) kX6_readPart [.ref a0, .int x1] h (rc 1 h a0 x1)) ∧ (∀ (h : aH) (a0 : Nat) (x1 : Int32), SO eV (9 + m0) kX6_readFact [.ref a0, .int x1] h (rc 2 h a0 x1))) (h : aH) (a0 : Nat) (x1 : Int32) (x2 : Int32) (x3 : Int32) : AO eV (9 + m0 + 1) kX6_readFact 45 [some (.ref a0), some (.int x1), some (.int x2), some (.int x3), none, none] [] h (b_X6_readFact_45 rc h a0 x1 x2 x3) := by
  unfold b_X6_readFact_45
  refine ao_s (st_iconst dX6_readFact_45 ic_0) ?_
  exact ao_w (sb_s (sb_s (sb_s (sb_s (sb_n (sb_n sb_0)))))) (t_X6_readFact_46 hrc h a0 x1 x2 x3 0)
def fb_X6_readFact (rc : Nat → aH → Nat → Int32 → Option (Unit × aH)) (h : aH) (a0 : Nat) (x1 : Int32) : Option (Unit × aH) :=
(if (sh a0).1 = 13 then
((hR h a0 0).bind fun b22 =>
(if (sh b22).1 = 16 then
(aBind (f_X9_seek h b22) fun r24 h25 =>
(aBind (f_X6_isNextWord h25 a0 1006) fun r26 h27 =>
(if r26 = 0 then
((hR h27 a0 0).bind fun b28 =>
(if (sh b28).1 = 16 then
(if hI h27 b28 3 = 0 then
((hR h27 a0 0).bind fun b30 =>
(if (sh b30).1 = 16 then
(aBind (f_X9_takeSign h27 b30 91) fun r32 h33 =>
(if r32 = 0 then
b_X6_readFact_45 rc h33 a0 x1 r24 r26
else
b_X6_readFact_46 rc h33 a0 x1 r24 r26 1))
else none))
else
b_X6_readFact_45 rc h27 a0 x1 r24 r26)
else none))
else
b_X6_readFact_45 rc h27 a0 x1 r24 r26)))
else none))
else none)
set_option maxHeartbeats 2000000 in
theorem sb_X6_readFact {m0 : Nat} {rc : Nat → aH → Nat → Int32 → Option (Unit × aH)} (hrc : (∀ (h : aH) (a0 : Nat) (x1 : Int32), SO eV (9 + m0) kX6_readTest [.ref a0, .int x1] h (rc 0 h a0 x1)) ∧ (∀ (h : aH) (a0 : Nat) (x1 : Int32), SO eV (9 + m0) kX6_readPart [.ref a0, .int x1] h (rc 1 h a0 x1)) ∧ (∀ (h : aH) (a0 : Nat) (x1 : Int32), SO eV (9 + m0) kX6_readFact [.ref a0, .int x1] h (rc 2 h a0 x1))) (h : aH) (a0 : Nat) (x1 : Int32) : SO eV (9 + m0 + 1) kX6_readFact [.ref a0, .int x1] h (fb_X6_readFact rc h a0 x1) := by
  refine so_of (lv0 := [some (.ref a0), some (.int x1), none, none, none, none]) pn_X6 (Nat.le_of_ble_eq_true rfl) rfl ?_
  unfold fb_X6_readFact
  refine ao_s (st_aload_n dX6_readFact_0 rfl rfl) ?_
  refine ao_chk (fun e21 => ?_)
  refine ao_getR dX6_readFact_1 fl_X6_22 rfl e21 (fun b22 => ?_)
  refine ao_chk (fun e23 => ?_)
  refine ao_cVi (Kc := kX9_seek) (As := []) (st := []) dX6_readFact_4 ml_X6_56 mv_X9_seek rfl e23 (by decide) rfl rfl (Nat.le_of_ble_eq_true rfl) (by omega) (s_X9_seek h b22) (fun r24 h25 => ?_)
  refine ao_s (st_istore_n (lv' := [some (.ref a0), some (.int x1), some (.int r24), none, none, none]) dX6_readFact_7 rfl (by decide) rfl) ?_
  refine ao_s (st_aload_n dX6_readFact_8 rfl rfl) ?_
  refine ao_s (st_ldcS (i := 6) dX6_readFact_9 (by decide) rfl rfl) ?_
  refine ao_cVi (Kc := kX6_isNextWord) (As := [.ref 1006]) (st := []) dX6_readFact_11 ml_X6_73 mv_X6_isNextWord rfl e21 (by decide) rfl rfl (Nat.le_of_ble_eq_true rfl) (by omega) (s_X6_isNextWord h25 a0 1006) (fun r26 h27 => ?_)
  refine ao_s (st_istore_n (lv' := [some (.ref a0), some (.int x1), some (.int r24), some (.int r26), none, none]) dX6_readFact_14 rfl (by decide) rfl) ?_
  refine ao_s (st_iload_n dX6_readFact_15 rfl rfl) ?_
  refine ao_br (br_if_ne (tgt := 45) dX6_readFact_16 (by decide)) (fun c36 => ?_) (fun c36 => ?_)
  · refine ao_s (st_aload_n dX6_readFact_19 rfl rfl) ?_
    refine ao_getR dX6_readFact_20 fl_X6_22 rfl e21 (fun b28 => ?_)
    refine ao_chk (fun e29 => ?_)
    refine ao_getI dX6_readFact_23 fl_X6_38 rfl e29 ?_
    refine ao_br (br_if_ne (tgt := 45) dX6_readFact_26 (by decide)) (fun c35 => ?_) (fun c35 => ?_)
    · refine ao_s (st_aload_n dX6_readFact_29 rfl rfl) ?_
      refine ao_getR dX6_readFact_30 fl_X6_22 rfl e21 (fun b30 => ?_)
      refine ao_s (st_bipush dX6_readFact_33 bp_91) ?_
      refine ao_chk (fun e31 => ?_)
      refine ao_cVi (Kc := kX9_takeSign) (As := [.int 91]) (st := []) dX6_readFact_35 ml_X6_41 mv_X9_takeSign rfl e31 (by decide) rfl rfl (Nat.le_of_ble_eq_true rfl) (by omega) (s_X9_takeSign h27 b30 91) (fun r32 h33 => ?_)
      refine ao_br (br_if_eq (tgt := 45) dX6_readFact_38 (by decide)) (fun c34 => ?_) (fun c34 => ?_)
      · exact ao_w (sb_s (sb_s (sb_s (sb_s (sb_n (sb_n sb_0)))))) (t_X6_readFact_45 hrc h33 a0 x1 r24 r26)
      · refine ao_s (st_iconst dX6_readFact_41 ic_1) ?_
        refine ao_s (st_goto 46 dX6_readFact_42 (by decide)) ?_
        exact ao_w (sb_s (sb_s (sb_s (sb_s (sb_n (sb_n sb_0)))))) (t_X6_readFact_46 hrc h33 a0 x1 r24 r26 1)
    · exact ao_w (sb_s (sb_s (sb_s (sb_s (sb_n (sb_n sb_0)))))) (t_X6_readFact_45 hrc h27 a0 x1 r24 r26)
  · exact ao_w (sb_s (sb_s (sb_s (sb_s (sb_n (sb_n sb_0)))))) (t_X6_readFact_45 hrc h27 a0 x1 r24 r26)
def fr_X6 : Nat → Nat → aH → Nat → Int32 → Option (Unit × aH)
  | 0, _ => fun _ _ _ => none
  | n + 1, 0 => fb_X6_readTest (fr_X6 n)
  | n + 1, 1 => fb_X6_readPart (fr_X6 n)
  | n + 1, _ => fb_X6_readFact (fr_X6 n)
theorem sr_X6 (n : Nat) : (∀ (h : aH) (a0 : Nat) (x1 : Int32), SO eV (9 + n) kX6_readTest [.ref a0, .int x1] h (fr_X6 n 0 h a0 x1)) ∧ (∀ (h : aH) (a0 : Nat) (x1 : Int32), SO eV (9 + n) kX6_readPart [.ref a0, .int x1] h (fr_X6 n 1 h a0 x1)) ∧ (∀ (h : aH) (a0 : Nat) (x1 : Int32), SO eV (9 + n) kX6_readFact [.ref a0, .int x1] h (fr_X6 n 2 h a0 x1)) := by
  induction n with
  | zero => exact ⟨fun _ _ _ => so_none, fun _ _ _ => so_none, fun _ _ _ => so_none⟩
  | succ n ih => exact ⟨fun h a0 x1 => sb_X6_readTest ih h a0 x1, fun h a0 x1 => sb_X6_readPart ih h a0 x1, fun h a0 x1 => sb_X6_readFact ih h a0 x1⟩
def f_X6_readTest (h : aH) (a0 : Nat) (x1 : Int32) : Option (Unit × aH) := fr_X6 40 0 h a0 x1
theorem s_X6_readTest (h : aH) (a0 : Nat) (x1 : Int32) : SO eV 49 kX6_readTest [.ref a0, .int x1] h (f_X6_readTest h a0 x1) := (sr_X6 40).1 h a0 x1
def f_X6_readPart (h : aH) (a0 : Nat) (x1 : Int32) : Option (Unit × aH) := fr_X6 40 1 h a0 x1
theorem s_X6_readPart (h : aH) (a0 : Nat) (x1 : Int32) : SO eV 49 kX6_readPart [.ref a0, .int x1] h (f_X6_readPart h a0 x1) := (sr_X6 40).2.1 h a0 x1
def f_X6_readFact (h : aH) (a0 : Nat) (x1 : Int32) : Option (Unit × aH) := fr_X6 40 2 h a0 x1
theorem s_X6_readFact (h : aH) (a0 : Nat) (x1 : Int32) : SO eV 49 kX6_readFact [.ref a0, .int x1] h (f_X6_readFact h a0 x1) := (sr_X6 40).2.2 h a0 x1
def b_X6_readClause_82 (h : aH) (a0 : Nat) (x3 : Int32) (x4 : Int32) : Option (Unit × aH) :=
(if (sh a0).1 = 13 then
((hR h a0 1).bind fun b22 =>
(if (sh b22).1 = 12 then
(aBind (f_X5_addClause h b22 x3 x4) fun r24 h25 =>
some ((), h25))
else none))
else none)
set_option maxHeartbeats 2000000 in
theorem t_X6_readClause_82 (h : aH) (a0 : Nat) (x3 : Int32) (x4 : Int32) : AO eV 50 kX6_readClause 82 [some (.ref a0), none, none, some (.int x3), some (.int x4)] [] h (b_X6_readClause_82 h a0 x3 x4) := by
  unfold b_X6_readClause_82
  refine ao_s (st_aload_n dX6_readClause_82 rfl rfl) ?_
  refine ao_chk (fun e21 => ?_)
  refine ao_getR dX6_readClause_83 fl_X6_12 rfl e21 (fun b22 => ?_)
  refine ao_s (st_iload_n dX6_readClause_86 rfl rfl) ?_
  refine ao_s (st_iload dX6_readClause_87 rfl) ?_
  refine ao_chk (fun e23 => ?_)
  refine ao_cVv (Kc := kX5_addClause) (As := [.int x3, .int x4]) (st := []) dX6_readClause_89 ml_X6_80 mv_X5_addClause rfl e23 (by decide) rfl rfl (Nat.le_of_ble_eq_true rfl) (by decide) (s_X5_addClause h b22 x3 x4) (fun r24 h25 => ?_)
  exact ao_vr dX6_readClause_92 rfl
def f_X6_readClause (h : aH) (a0 : Nat) (x1 : Int32) : Option (Unit × aH) :=
(if (sh a0).1 = 13 then
((hR h a0 0).bind fun b22 =>
(if (sh b22).1 = 16 then
(aBind (f_X9_seek h b22) fun r24 h25 =>
((hR h25 a0 0).bind fun b26 =>
(if (sh b26).1 = 16 then
(aBind (f_X9_takeWord h25 b26 1002) fun r28 h29 =>
(if r28 = (-1) then
((hR h29 a0 0).bind fun b30 =>
(if (sh b30).1 = 16 then
(aBind (f_X9_blame h29 b30 r24 0) fun r32 h33 =>
some ((), h33))
else none))
else
(if x1 < 12 then
((hR h29 a0 1).bind fun b34 =>
(if (sh b34).1 = 12 then
(aLet (hI h29 b34 4) fun x36 =>
(aBind (f_X6_readSum h29 a0) fun r37 h38 =>
((hR h38 a0 1).bind fun b39 =>
(if (sh b39).1 = 12 then
(aLet (hI h38 b39 4) fun x41 =>
(aBind (f_X6_isNextWord h38 a0 1003) fun r42 h43 =>
(if r42 = 0 then
b_X6_readClause_82 h43 a0 x36 x41
else
(aBind (f_X6_readTest h43 a0 0) fun r44 h45 =>
b_X6_readClause_82 h45 a0 x36 x41))))
else none))))
else none))
else
((hR h29 a0 0).bind fun b47 =>
(if (sh b47).1 = 16 then
(aBind (f_X9_blame h29 b47 r24 4) fun r49 h50 =>
some ((), h50))
else none)))))
else none)))
else none))
else none)
set_option maxHeartbeats 2000000 in
theorem s_X6_readClause (h : aH) (a0 : Nat) (x1 : Int32) : SO eV 50 kX6_readClause [.ref a0, .int x1] h (f_X6_readClause h a0 x1) := by
  refine so_of (lv0 := [some (.ref a0), some (.int x1), none, none, none]) pn_X6 (Nat.le_of_ble_eq_true rfl) rfl ?_
  unfold f_X6_readClause
  refine ao_s (st_aload_n dX6_readClause_0 rfl rfl) ?_
  refine ao_chk (fun e21 => ?_)
  refine ao_getR dX6_readClause_1 fl_X6_22 rfl e21 (fun b22 => ?_)
  refine ao_chk (fun e23 => ?_)
  refine ao_cVi (Kc := kX9_seek) (As := []) (st := []) dX6_readClause_4 ml_X6_56 mv_X9_seek rfl e23 (by decide) rfl rfl (Nat.le_of_ble_eq_true rfl) (by decide) (s_X9_seek h b22) (fun r24 h25 => ?_)
  refine ao_s (st_istore_n (lv' := [some (.ref a0), some (.int x1), some (.int r24), none, none]) dX6_readClause_7 rfl (by decide) rfl) ?_
  refine ao_s (st_aload_n dX6_readClause_8 rfl rfl) ?_
  refine ao_getR dX6_readClause_9 fl_X6_22 rfl e21 (fun b26 => ?_)
  refine ao_s (st_ldcS (i := 2) dX6_readClause_12 (by decide) rfl rfl) ?_
  refine ao_chk (fun e27 => ?_)
  refine ao_cVi (Kc := kX9_takeWord) (As := [.ref 1002]) (st := []) dX6_readClause_14 ml_X6_61 mv_X9_takeWord rfl e27 (by decide) rfl rfl (Nat.le_of_ble_eq_true rfl) (by decide) (s_X9_takeWord h25 b26 1002) (fun r28 h29 => ?_)
  refine ao_s (st_iconst dX6_readClause_17 ic_m1) ?_
  refine ao_br (br_icmp_ne (tgt := 31) dX6_readClause_18 (by decide)) (fun c52 => ?_) (fun c52 => ?_)
  · refine ao_s (st_aload_n dX6_readClause_21 rfl rfl) ?_
    refine ao_getR dX6_readClause_22 fl_X6_22 rfl e21 (fun b30 => ?_)
    refine ao_s (st_iload_n dX6_readClause_25 rfl rfl) ?_
    refine ao_s (st_iconst dX6_readClause_26 ic_0) ?_
    refine ao_chk (fun e31 => ?_)
    refine ao_cVv (Kc := kX9_blame) (As := [.int r24, .int 0]) (st := []) dX6_readClause_27 ml_X6_52 mv_X9_blame rfl e31 (by decide) rfl rfl (Nat.le_of_ble_eq_true rfl) (by decide) (s_X9_blame h29 b30 r24 0) (fun r32 h33 => ?_)
    exact ao_vr dX6_readClause_30 rfl
  · refine ao_s (st_iload_n dX6_readClause_31 rfl rfl) ?_
    refine ao_s (st_bipush dX6_readClause_32 bp_12) ?_
    refine ao_br (br_icmp_lt (tgt := 47) dX6_readClause_34 (by decide)) (fun c51 => ?_) (fun c51 => ?_)
    · refine ao_s (st_aload_n dX6_readClause_47 rfl rfl) ?_
      refine ao_getR dX6_readClause_48 fl_X6_12 rfl e21 (fun b34 => ?_)
      refine ao_chk (fun e35 => ?_)
      refine ao_getI dX6_readClause_51 fl_X6_65 rfl e35 ?_
      refine ao_letI (fun x36 => ?_)
      refine ao_s (st_istore_n (lv' := [some (.ref a0), some (.int x1), some (.int r24), some (.int x36), none]) dX6_readClause_54 rfl (by decide) rfl) ?_
      refine ao_s (st_aload_n dX6_readClause_55 rfl rfl) ?_
      refine ao_cVv (Kc := kX6_readSum) (As := []) (st := []) dX6_readClause_56 ml_X6_68 mv_X6_readSum rfl e21 (by decide) rfl rfl (Nat.le_of_ble_eq_true rfl) (by decide) (s_X6_readSum h29 a0) (fun r37 h38 => ?_)
      refine ao_s (st_aload_n dX6_readClause_59 rfl rfl) ?_
      refine ao_getR dX6_readClause_60 fl_X6_12 rfl e21 (fun b39 => ?_)
      refine ao_chk (fun e40 => ?_)
      refine ao_getI dX6_readClause_63 fl_X6_65 rfl e40 ?_
      refine ao_letI (fun x41 => ?_)
      refine ao_s (st_istore (lv' := [some (.ref a0), some (.int x1), some (.int r24), some (.int x36), some (.int x41)]) dX6_readClause_66 (by decide) rfl) ?_
      refine ao_s (st_aload_n dX6_readClause_68 rfl rfl) ?_
      refine ao_s (st_ldcS (i := 3) dX6_readClause_69 (by decide) rfl rfl) ?_
      refine ao_cVi (Kc := kX6_isNextWord) (As := [.ref 1003]) (st := []) dX6_readClause_71 ml_X6_73 mv_X6_isNextWord rfl e21 (by decide) rfl rfl (Nat.le_of_ble_eq_true rfl) (by decide) (s_X6_isNextWord h38 a0 1003) (fun r42 h43 => ?_)
      refine ao_br (br_if_eq (tgt := 82) dX6_readClause_74 (by decide)) (fun c46 => ?_) (fun c46 => ?_)
      · exact ao_w (sb_s (sb_n (sb_n (sb_s (sb_s sb_0))))) (t_X6_readClause_82 h43 a0 x36 x41)
      · refine ao_s (st_aload_n dX6_readClause_77 rfl rfl) ?_
        refine ao_s (st_iconst dX6_readClause_78 ic_0) ?_
        refine ao_cVv (Kc := kX6_readTest) (As := [.int 0]) (st := []) dX6_readClause_79 ml_X6_77 mv_X6_readTest rfl e21 (by decide) rfl rfl (Nat.le_of_ble_eq_true rfl) (by decide) (s_X6_readTest h43 a0 0) (fun r44 h45 => ?_)
        exact ao_w (sb_s (sb_n (sb_n (sb_s (sb_s sb_0))))) (t_X6_readClause_82 h45 a0 x36 x41)
    · refine ao_s (st_aload_n dX6_readClause_37 rfl rfl) ?_
      refine ao_getR dX6_readClause_38 fl_X6_22 rfl e21 (fun b47 => ?_)
      refine ao_s (st_iload_n dX6_readClause_41 rfl rfl) ?_
      refine ao_s (st_iconst dX6_readClause_42 ic_4) ?_
      refine ao_chk (fun e48 => ?_)
      refine ao_cVv (Kc := kX9_blame) (As := [.int r24, .int 4]) (st := []) dX6_readClause_43 ml_X6_52 mv_X9_blame rfl e48 (by decide) rfl rfl (Nat.le_of_ble_eq_true rfl) (by decide) (s_X9_blame h29 b47 r24 4) (fun r49 h50 => ?_)
      exact ao_vr dX6_readClause_46 rfl
