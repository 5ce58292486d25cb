def f_X8_like (h : aH) (a0 : Nat) (x1 : Int32) (x2 : Int32) (x3 : Int32) : Option (Int32 × aH) :=
(if (sh a0).1 = 15 then
((hR h a0 11).bind fun b22 =>
(aLet (((x1 * 16) + (x2 * 4)) + x3) fun x23 =>
(if (sh b22).1 = 0 then
(if aIn x23 (sh b22).2 then
some (hI h b22 x23.toNatClampNeg, h)
else none)
else none)))
else none)
set_option maxHeartbeats 2000000 in
theorem s_X8_like (h : aH) (a0 : Nat) (x1 : Int32) (x2 : Int32) (x3 : Int32) : SO eI 2 kX8_like [.ref a0, .int x1, .int x2, .int x3] h (f_X8_like h a0 x1 x2 x3) := by
  refine so_of (lv0 := [some (.ref a0), some (.int x1), some (.int x2), some (.int x3)]) pn_X8 (Nat.le_of_ble_eq_true rfl) rfl ?_
  unfold f_X8_like
  refine ao_s (st_aload_n dX8_like_0 rfl rfl) ?_
  refine ao_chk (fun e21 => ?_)
  refine ao_getR dX8_like_1 fl_X8_48 rfl e21 (fun b22 => ?_)
  refine ao_s (st_iload_n dX8_like_4 rfl rfl) ?_
  refine ao_s (st_bipush dX8_like_5 bp_16) ?_
  refine ao_s (st_imul dX8_like_7) ?_
  refine ao_s (st_iload_n dX8_like_8 rfl rfl) ?_
  refine ao_s (st_iconst dX8_like_9 ic_4) ?_
  refine ao_s (st_imul dX8_like_10) ?_
  refine ao_s (st_iadd dX8_like_11) ?_
  refine ao_s (st_iload_n dX8_like_12 rfl rfl) ?_
  refine ao_s (st_iadd dX8_like_13) ?_
  refine ao_letI (fun x23 => ?_)
  refine ao_chk (fun e24 => ?_)
  refine ao_iald dX8_like_14 e24 ?_
  exact ao_ir dX8_like_15 rfl rfl
def b_X0_ask_37 (h : aH) (a0 : Nat) (a1 : Nat) (x2 : Int32) (x3 : Int32) (s0 : Int32) : Option (Unit × aH) :=
(if (sh a1).1 = 15 then
(aBind (f_X8_like h a1 1 x2 x3) fun r22 h23 =>
(if r22 ≤ s0 then
some ((), h23)
else
(if (sh a0).1 = 7 then
((hR h23 a0 3).bind fun b25 =>
(if (sh b25).1 = 0 then
(if aIn x3 (sh b25).2 then
(aLet (pI h23 b25 x3.toNatClampNeg x2) fun h27 =>
some ((), h27))
else none)
else none))
else none)))
else none)
set_option maxHeartbeats 2000000 in
theorem t_X0_ask_37 (h : aH) (a0 : Nat) (a1 : Nat) (x2 : Int32) (x3 : Int32) (s0 : Int32) : AO eV 3 kX0_ask 37 [some (.ref a0), some (.ref a1), some (.int x2), some (.int x3), none, none] [.int s0] h (b_X0_ask_37 h a0 a1 x2 x3 s0) := by
  unfold b_X0_ask_37
  refine ao_s (st_istore (lv' := [some (.ref a0), some (.ref a1), some (.int x2), some (.int x3), none, some (.int s0)]) dX0_ask_37 (by decide) rfl) ?_
  refine ao_s (st_aload_n dX0_ask_39 rfl rfl) ?_
  refine ao_s (st_iconst dX0_ask_40 ic_1) ?_
  refine ao_s (st_iload_n dX0_ask_41 rfl rfl) ?_
  refine ao_s (st_iload_n dX0_ask_42 rfl rfl) ?_
  refine ao_chk (fun e21 => ?_)
  refine ao_cVi (Kc := kX8_like) (As := [.int 1, .int x2, .int x3]) (st := []) dX0_ask_43 ml_X0_84 mv_X8_like rfl e21 (by decide) rfl rfl (Nat.le_of_ble_eq_true rfl) (by decide) (s_X8_like h a1 1 x2 x3) (fun r22 h23 => ?_)
  refine ao_s (st_iload dX0_ask_46 rfl) ?_
  refine ao_br (br_icmp_le (tgt := 58) dX0_ask_48 (by decide)) (fun c28 => ?_) (fun c28 => ?_)
  · exact ao_vr dX0_ask_58 rfl
  · refine ao_s (st_aload_n dX0_ask_51 rfl rfl) ?_
    refine ao_chk (fun e24 => ?_)
    refine ao_getR dX0_ask_52 fl_X0_25 rfl e24 (fun b25 => ?_)
    refine ao_s (st_iload_n dX0_ask_55 rfl rfl) ?_
    refine ao_s (st_iload_n dX0_ask_56 rfl rfl) ?_
    refine ao_chk (fun e26 => ?_)
    refine ao_iast dX0_ask_57 e26 ?_
    refine ao_letH (fun h27 => ?_)
    exact ao_vr dX0_ask_58 rfl
def f_X0_ask (h : aH) (a0 : Nat) (a1 : Nat) (x2 : Int32) (x3 : Int32) : Option (Unit × aH) :=
(if (sh a0).1 = 7 then
((hR h a0 2).bind fun b22 =>
(if (sh b22).1 = 0 then
(if aIn x2 (sh b22).2 then
(if aIn x2 (sh b22).2 then
(aLet (pI h b22 x2.toNatClampNeg ((hI h b22 x2.toNatClampNeg) ||| (1 <<< (x3 &&& 31)))) fun h24 =>
((hR h24 a0 3).bind fun b25 =>
(if (sh b25).1 = 0 then
(if aIn x3 (sh b25).2 then
(aLet (hI h24 b25 x3.toNatClampNeg) fun x27 =>
(if 0 ≤ x27 then
(if (sh a1).1 = 15 then
(aBind (f_X8_like h24 a1 1 x27 x3) fun r29 h30 =>
b_X0_ask_37 h30 a0 a1 x2 x3 r29)
else none)
else
b_X0_ask_37 h24 a0 a1 x2 x3 0))
else none)
else none)))
else none)
else none)
else none))
else none)
set_option maxHeartbeats 2000000 in
theorem s_X0_ask (h : aH) (a0 : Nat) (a1 : Nat) (x2 : Int32) (x3 : Int32) : SO eV 3 kX0_ask [.ref a0, .ref a1, .int x2, .int x3] h (f_X0_ask h a0 a1 x2 x3) := by
  refine so_of (lv0 := [some (.ref a0), some (.ref a1), some (.int x2), some (.int x3), none, none]) pn_X0 (Nat.le_of_ble_eq_true rfl) rfl ?_
  unfold f_X0_ask
  refine ao_s (st_aload_n dX0_ask_0 rfl rfl) ?_
  refine ao_chk (fun e21 => ?_)
  refine ao_getR dX0_ask_1 fl_X0_22 rfl e21 (fun b22 => ?_)
  refine ao_s (st_iload_n dX0_ask_4 rfl rfl) ?_
  refine ao_s (st_dup2 dX0_ask_5 rfl rfl) ?_
  refine ao_chk (fun e23 => ?_)
  refine ao_iald dX0_ask_6 e23 ?_
  refine ao_s (st_iconst dX0_ask_7 ic_1) ?_
  refine ao_s (st_iload_n dX0_ask_8 rfl rfl) ?_
  refine ao_s (st_ishl dX0_ask_9) ?_
  refine ao_s (st_ior dX0_ask_10) ?_
  refine ao_iast dX0_ask_11 e23 ?_
  refine ao_letH (fun h24 => ?_)
  refine ao_s (st_aload_n dX0_ask_12 rfl rfl) ?_
  refine ao_getR dX0_ask_13 fl_X0_25 rfl e21 (fun b25 => ?_)
  refine ao_s (st_iload_n dX0_ask_16 rfl rfl) ?_
  refine ao_chk (fun e26 => ?_)
  refine ao_iald dX0_ask_17 e26 ?_
  refine ao_letI (fun x27 => ?_)
  refine ao_s (st_istore (lv' := [some (.ref a0), some (.ref a1), some (.int x2), some (.int x3), some (.int x27), none]) dX0_ask_18 (by decide) rfl) ?_
  refine ao_s (st_iload dX0_ask_20 rfl) ?_
  refine ao_br (br_if_ge (tgt := 29) dX0_ask_22 (by decide)) (fun c31 => ?_) (fun c31 => ?_)
  · refine ao_s (st_aload_n dX0_ask_29 rfl rfl) ?_
    refine ao_s (st_iconst dX0_ask_30 ic_1) ?_
    refine ao_s (st_iload dX0_ask_31 rfl) ?_
    refine ao_s (st_iload_n dX0_ask_33 rfl rfl) ?_
    refine ao_chk (fun e28 => ?_)
    refine ao_cVi (Kc := kX8_like) (As := [.int 1, .int x27, .int x3]) (st := []) dX0_ask_34 ml_X0_84 mv_X8_like rfl e28 (by decide) rfl rfl (Nat.le_of_ble_eq_true rfl) (by decide) (s_X8_like h24 a1 1 x27 x3) (fun r29 h30 => ?_)
    exact ao_w (sb_s (sb_s (sb_s (sb_s (sb_n (sb_n sb_0)))))) (t_X0_ask_37 h30 a0 a1 x2 x3 r29)
  · refine ao_s (st_iconst dX0_ask_25 ic_0) ?_
    refine ao_s (st_goto 37 dX0_ask_26 (by decide)) ?_
    exact ao_w (sb_s (sb_s (sb_s (sb_s (sb_n (sb_n sb_0)))))) (t_X0_ask_37 h24 a0 a1 x2 x3 0)
def f_X8_isFree (h : aH) (a0 : Nat) (x1 : Int32) (x2 : Int32) : Option (Int32 × aH) :=
(if (sh a0).1 = 15 then
((hR h a0 8).bind fun b22 =>
(aLet ((x1 * 4) + x2) fun x23 =>
(if (sh b22).1 = 0 then
(if aIn x23 (sh b22).2 then
(if 0 ≤ hI h b22 x23.toNatClampNeg then
some (0, h)
else
some (1, h))
else none)
else none)))
else none)
set_option maxHeartbeats 2000000 in
theorem s_X8_isFree (h : aH) (a0 : Nat) (x1 : Int32) (x2 : Int32) : SO eI 2 kX8_isFree [.ref a0, .int x1, .int x2] h (f_X8_isFree h a0 x1 x2) := by
  refine so_of (lv0 := [some (.ref a0), some (.int x1), some (.int x2)]) pn_X8 (Nat.le_of_ble_eq_true rfl) rfl ?_
  unfold f_X8_isFree
  refine ao_s (st_aload_n dX8_isFree_0 rfl rfl) ?_
  refine ao_chk (fun e21 => ?_)
  refine ao_getR dX8_isFree_1 fl_X8_39 rfl e21 (fun b22 => ?_)
  refine ao_s (st_iload_n dX8_isFree_4 rfl rfl) ?_
  refine ao_s (st_iconst dX8_isFree_5 ic_4) ?_
  refine ao_s (st_imul dX8_isFree_6) ?_
  refine ao_s (st_iload_n dX8_isFree_7 rfl rfl) ?_
  refine ao_s (st_iadd dX8_isFree_8) ?_
  refine ao_letI (fun x23 => ?_)
  refine ao_chk (fun e24 => ?_)
  refine ao_iald dX8_isFree_9 e24 ?_
  refine ao_br (br_if_ge (tgt := 17) dX8_isFree_10 (by decide)) (fun c25 => ?_) (fun c25 => ?_)
  · refine ao_s (st_iconst dX8_isFree_17 ic_0) ?_
    exact ao_ir dX8_isFree_18 rfl (by decide)
  · refine ao_s (st_iconst dX8_isFree_13 ic_1) ?_
    refine ao_s (st_goto 18 dX8_isFree_14 (by decide)) ?_
    exact ao_ir dX8_isFree_18 rfl (by decide)
def b_X0_favourite_90 (k8 : aH → Nat → Nat → Int32 → Int32 → Int32 → Int32 → Option (Int32 × aH)) (h : aH) (a0 : Nat) (a1 : Nat) (x2 : Int32) (x3 : Int32) (x4 : Int32) (x5 : Int32) : Option (Int32 × aH) :=
k8 h a0 a1 x2 x3 x4 (x5 + 1)
set_option maxHeartbeats 2000000 in
theorem t_X0_favourite_90 {k8 : aH → Nat → Nat → Int32 → Int32 → Int32 → Int32 → Option (Int32 × aH)} (hk8 : ∀ (h : aH) (a0 : Nat) (a1 : Nat) (x2 : Int32) (x3 : Int32) (x4 : Int32) (x5 : Int32), AO eI 3 kX0_favourite 8 [some (.ref a0), some (.ref a1), some (.int x2), some (.int x3), some (.int x4), some (.int x5), none] [] h (k8 h a0 a1 x2 x3 x4 x5)) (h : aH) (a0 : Nat) (a1 : Nat) (x2 : Int32) (x3 : Int32) (x4 : Int32) (x5 : Int32) : AO eI 3 kX0_favourite 90 [some (.ref a0), some (.ref a1), some (.int x2), some (.int x3), some (.int x4), some (.int x5), none] [] h (b_X0_favourite_90 k8 h a0 a1 x2 x3 x4 x5) := by
  unfold b_X0_favourite_90
  refine ao_s (st_iinc (lv' := [some (.ref a0), some (.ref a1), some (.int x2), some (.int x3), some (.int x4), some (.int (x5 + 1)), none]) dX0_favourite_90 rfl nc_1 (by decide) rfl) ?_
  refine ao_s (st_goto 8 dX0_favourite_93 (by decide)) ?_
  exact ao_w (sb_s (sb_s (sb_s (sb_s (sb_s (sb_s (sb_n sb_0))))))) (hk8 h a0 a1 x2 x3 x4 (x5 + 1))
def b_X0_favourite_57 (k8 : aH → Nat → Nat → Int32 → Int32 → Int32 → Int32 → Option (Int32 × aH)) (h : aH) (a0 : Nat) (a1 : Nat) (x2 : Int32) (x3 : Int32) (x4 : Int32) (x5 : Int32) (s0 : Int32) : Option (Int32 × aH) :=
(if s0 = 0 then
b_X0_favourite_90 k8 h a0 a1 x2 x3 x4 x5
else
(if (sh a1).1 = 15 then
(aBind (f_X8_like h a1 0 x2 x5) fun r22 h23 =>
(if r22 ≤ x4 then
b_X0_favourite_90 k8 h23 a0 a1 x2 x3 x4 x5
else
(aBind (f_X8_like h23 a1 0 x2 x5) fun r24 h25 =>
b_X0_favourite_90 k8 h25 a0 a1 x2 x5 r24 x5)))
else none))
set_option maxHeartbeats 2000000 in
theorem t_X0_favourite_57 {k8 : aH → Nat → Nat → Int32 → Int32 → Int32 → Int32 → Option (Int32 × aH)} (hk8 : ∀ (h : aH) (a0 : Nat) (a1 : Nat) (x2 : Int32) (x3 : Int32) (x4 : Int32) (x5 : Int32), AO eI 3 kX0_favourite 8 [some (.ref a0), some (.ref a1), some (.int x2), some (.int x3), some (.int x4), some (.int x5), none] [] h (k8 h a0 a1 x2 x3 x4 x5)) (h : aH) (a0 : Nat) (a1 : Nat) (x2 : Int32) (x3 : Int32) (x4 : Int32) (x5 : Int32) (s0 : Int32) : AO eI 3 kX0_favourite 57 [some (.ref a0), some (.ref a1), some (.int x2), some (.int x3), some (.int x4), some (.int x5), none] [.int s0] h (b_X0_favourite_57 k8 h a0 a1 x2 x3 x4 x5 s0) := by
  unfold b_X0_favourite_57
  refine ao_s (st_istore (lv' := [some (.ref a0), some (.ref a1), some (.int x2), some (.int x3), some (.int x4), some (.int x5), some (.int s0)]) dX0_favourite_57 (by decide) rfl) ?_
  refine ao_s (st_iload dX0_favourite_59 rfl) ?_
  refine ao_br (br_if_eq (tgt := 90) dX0_favourite_61 (by decide)) (fun c27 => ?_) (fun c27 => ?_)
  · exact ao_w (sb_s (sb_s (sb_s (sb_s (sb_s (sb_s (sb_n sb_0))))))) (t_X0_favourite_90 hk8 h a0 a1 x2 x3 x4 x5)
  · refine ao_s (st_aload_n dX0_favourite_64 rfl rfl) ?_
    refine ao_s (st_iconst dX0_favourite_65 ic_0) ?_
    refine ao_s (st_iload_n dX0_favourite_66 rfl rfl) ?_
    refine ao_s (st_iload dX0_favourite_67 rfl) ?_
    refine ao_chk (fun e21 => ?_)
    refine ao_cVi (Kc := kX8_like) (As := [.int 0, .int x2, .int x5]) (st := []) dX0_favourite_69 ml_X0_84 mv_X8_like rfl e21 (by decide) rfl rfl (Nat.le_of_ble_eq_true rfl) (by decide) (s_X8_like h a1 0 x2 x5) (fun r22 h23 => ?_)
    refine ao_s (st_iload dX0_favourite_72 rfl) ?_
    refine ao_br (br_icmp_le (tgt := 90) dX0_favourite_74 (by decide)) (fun c26 => ?_) (fun c26 => ?_)
    · exact ao_w (sb_s (sb_s (sb_s (sb_s (sb_s (sb_s (sb_n sb_0))))))) (t_X0_favourite_90 hk8 h23 a0 a1 x2 x3 x4 x5)
    · refine ao_s (st_iload dX0_favourite_77 rfl) ?_
      refine ao_s (st_istore_n (lv' := [some (.ref a0), some (.ref a1), some (.int x2), some (.int x5), some (.int x4), some (.int x5), some (.int s0)]) dX0_favourite_79 rfl (by decide) rfl) ?_
      refine ao_s (st_aload_n dX0_favourite_80 rfl rfl) ?_
      refine ao_s (st_iconst dX0_favourite_81 ic_0) ?_
      refine ao_s (st_iload_n dX0_favourite_82 rfl rfl) ?_
      refine ao_s (st_iload dX0_favourite_83 rfl) ?_
      refine ao_cVi (Kc := kX8_like) (As := [.int 0, .int x2, .int x5]) (st := []) dX0_favourite_85 ml_X0_84 mv_X8_like rfl e21 (by decide) rfl rfl (Nat.le_of_ble_eq_true rfl) (by decide) (s_X8_like h23 a1 0 x2 x5) (fun r24 h25 => ?_)
      refine ao_s (st_istore (lv' := [some (.ref a0), some (.ref a1), some (.int x2), some (.int x5), some (.int r24), some (.int x5), some (.int s0)]) dX0_favourite_88 (by decide) rfl) ?_
      exact ao_w (sb_s (sb_s (sb_s (sb_s (sb_s (sb_s (sb_n sb_0))))))) (t_X0_favourite_90 hk8 h25 a0 a1 x2 x5 r24 x5)
def b_X0_favourite_56 (k8 : aH → Nat → Nat → Int32 → Int32 → Int32 → Int32 → Option (Int32 × aH)) (h : aH) (a0 : Nat) (a1 : Nat) (x2 : Int32) (x3 : Int32) (x4 : Int32) (x5 : Int32) : Option (Int32 × aH) :=
b_X0_favourite_57 k8 h a0 a1 x2 x3 x4 x5 0
set_option maxHeartbeats 2000000 in
theorem t_X0_favourite_56 {k8 : aH → Nat → Nat → Int32 → Int32 → Int32 → Int32 → Option (Int32 × aH)} (hk8 : ∀ (h : aH) (a0 : Nat) (a1 : Nat) (x2 : Int32) (x3 : Int32) (x4 : Int32) (x5 : Int32), AO eI 3 kX0_favourite 8 [some (.ref a0), some (.ref a1), some (.int x2), some (.int x3), some (.int x4), some (.int x5), none] [] h (k8 h a0 a1 x2 x3 x4 x5)) (h : aH) (a0 : Nat) (a1 : Nat) (x2 : Int32) (x3 : Int32) (x4 : Int32) (x5 : Int32) : AO eI 3 kX0_favourite 56 [some (.ref a0), some (.ref a1), some (.int x2), some (.int x3), some (.int x4), some (.int x5), none] [] h (b_X0_favourite_56 k8 h a0 a1 x2 x3 x4 x5) := by
  unfold b_X0_favourite_56
  refine ao_s (st_iconst dX0_favourite_56 ic_0) ?_
  exact ao_w (sb_s (sb_s (sb_s (sb_s (sb_s (sb_s (sb_n sb_0))))))) (t_X0_favourite_57 hk8 h a0 a1 x2 x3 x4 x5 0)
def b_X0_favourite_8 (k8 : aH → Nat → Nat → Int32 → Int32 → Int32 → Int32 → Option (Int32 × aH)) (h : aH) (a0 : Nat) (a1 : Nat) (x2 : Int32) (x3 : Int32) (x4 : Int32) (x5 : Int32) : Option (Int32 × aH) :=
(if (sh a1).1 = 15 then
(if hI h a1 4 ≤ x5 then
some (x3, h)
else
(aBind (f_X8_isFree h a1 1 x5) fun r22 h23 =>
(if r22 = 0 then
b_X0_favourite_56 k8 h23 a0 a1 x2 x3 x4 x5
else
(if (sh a0).1 = 7 then
((hR h23 a0 2).bind fun b25 =>
(if (sh b25).1 = 0 then
(if aIn x2 (sh b25).2 then
(if ((hI h23 b25 x2.toNatClampNeg) >>> (x5 &&& 31)) &&& 1 = 0 then
((hR h23 a0 1).bind fun b27 =>
(if (sh b27).1 = 0 then
(if aIn x2 (sh b27).2 then
(if hI h23 b27 x2.toNatClampNeg = x5 then
b_X0_favourite_56 k8 h23 a0 a1 x2 x3 x4 x5
else
b_X0_favourite_57 k8 h23 a0 a1 x2 x3 x4 x5 1)
else none)
else none))
else
b_X0_favourite_56 k8 h23 a0 a1 x2 x3 x4 x5)
else none)
else none))
else none))))
else none)
set_option maxHeartbeats 2000000 in
theorem t_X0_favourite_8 {k8 : aH → Nat → Nat → Int32 → Int32 → Int32 → Int32 → Option (Int32 × aH)} (hk8 : ∀ (h : aH) (a0 : Nat) (a1 : Nat) (x2 : Int32) (x3 : Int32) (x4 : Int32) (x5 : Int32), AO eI 3 kX0_favourite 8 [some (.ref a0), some (.ref a1), some (.int x2), some (.int x3), some (.int x4), some (.int x5), none] [] h (k8 h a0 a1 x2 x3 x4 x5)) (h : aH) (a0 : Nat) (a1 : Nat) (x2 : Int32) (x3 : Int32) (x4 : Int32) (x5 : Int32) : AO eI 3 kX0_favourite 8 [some (.ref a0), some (.ref a1), some (.int x2), some (.int x3), some (.int x4), some (.int x5), none] [] h (b_X0_favourite_8 k8 h a0 a1 x2 x3 x4 x5) := by
  unfold b_X0_favourite_8
  refine ao_s (st_iload dX0_favourite_8 rfl) ?_
  refine ao_s (st_aload_n dX0_favourite_10 rfl rfl) ?_
  refine ao_chk (fun e21 => ?_)
  refine ao_getI dX0_favourite_11 fl_X0_81 rfl e21 ?_
  refine ao_br (br_icmp_ge (tgt := 96) dX0_favourite_14 (by decide)) (fun c32 => ?_) (fun c32 => ?_)
  · refine ao_s (st_iload_n dX0_favourite_96 rfl rfl) ?_
    exact ao_ir dX0_favourite_97 rfl rfl
  · refine ao_s (st_aload_n dX0_favourite_17 rfl rfl) ?_
    refine ao_s (st_iconst dX0_favourite_18 ic_1) ?_
    refine ao_s (st_iload dX0_favourite_19 rfl) ?_
    refine ao_cVi (Kc := kX8_isFree) (As := [.int 1, .int x5]) (st := []) dX0_favourite_21 ml_X0_65 mv_X8_isFree rfl e21 (by decide) rfl rfl (Nat.le_of_ble_eq_true rfl) (by decide) (s_X8_isFree h a1 1 x5) (fun r22 h23 => ?_)
    refine ao_br (br_if_eq (tgt := 56) dX0_favourite_24 (by decide)) (fun c31 => ?_) (fun c31 => ?_)
    · exact ao_w (sb_s (sb_s (sb_s (sb_s (sb_s (sb_s (sb_n sb_0))))))) (t_X0_favourite_56 hk8 h23 a0 a1 x2 x3 x4 x5)
    · refine ao_s (st_aload_n dX0_favourite_27 rfl rfl) ?_
      refine ao_chk (fun e24 => ?_)
      refine ao_getR dX0_favourite_28 fl_X0_22 rfl e24 (fun b25 => ?_)
      refine ao_s (st_iload_n dX0_favourite_31 rfl rfl) ?_
      refine ao_chk (fun e26 => ?_)
      refine ao_iald dX0_favourite_32 e26 ?_
      refine ao_s (st_iload dX0_favourite_33 rfl) ?_
      refine ao_s (st_ishr dX0_favourite_35) ?_
      refine ao_s (st_iconst dX0_favourite_36 ic_1) ?_
      refine ao_s (st_iand dX0_favourite_37) ?_
      refine ao_br (br_if_ne (tgt := 56) dX0_favourite_38 (by decide)) (fun c30 => ?_) (fun c30 => ?_)
      · refine ao_s (st_aload_n dX0_favourite_41 rfl rfl) ?_
        refine ao_getR dX0_favourite_42 fl_X0_18 rfl e24 (fun b27 => ?_)
        refine ao_s (st_iload_n dX0_favourite_45 rfl rfl) ?_
        refine ao_chk (fun e28 => ?_)
        refine ao_iald dX0_favourite_46 e28 ?_
        refine ao_s (st_iload dX0_favourite_47 rfl) ?_
        refine ao_br (br_icmp_eq (tgt := 56) dX0_favourite_49 (by decide)) (fun c29 => ?_) (fun c29 => ?_)
        · exact ao_w (sb_s (sb_s (sb_s (sb_s (sb_s (sb_s (sb_n sb_0))))))) (t_X0_favourite_56 hk8 h23 a0 a1 x2 x3 x4 x5)
        · refine ao_s (st_iconst dX0_favourite_52 ic_1) ?_
          refine ao_s (st_goto 57 dX0_favourite_53 (by decide)) ?_
          exact ao_w (sb_s (sb_s (sb_s (sb_s (sb_s (sb_s (sb_n sb_0))))))) (t_X0_favourite_57 hk8 h23 a0 a1 x2 x3 x4 x5 1)
      · exact ao_w (sb_s (sb_s (sb_s (sb_s (sb_s (sb_s (sb_n sb_0))))))) (t_X0_favourite_56 hk8 h23 a0 a1 x2 x3 x4 x5)
def f_X0_favourite_8 (n : Nat) : aH → Nat → Nat → Int32 → Int32 → Int32 → Int32 → Option (Int32 × aH) := aIt (fun _ _ _ _ _ _ _ => none) (fun k => b_X0_favourite_8 k) n
theorem l_X0_favourite_8 (n : Nat) : ∀ (h : aH) (a0 : Nat) (a1 : Nat) (x2 : Int32) (x3 : Int32) (x4 : Int32) (x5 : Int32), AO eI 3 kX0_favourite 8 [some (.ref a0), some (.ref a1), some (.int x2), some (.int x3), some (.int x4), some (.int x5), none] [] h (f_X0_favourite_8 n h a0 a1 x2 x3 x4 x5) := by
  induction n with
  | zero => intros; exact ao_none
  | succ n ih =>
    intro h a0 a1 x2 x3 x4 x5
    exact t_X0_favourite_8 ih h a0 a1 x2 x3 x4 x5
def f_X0_favourite (h : aH) (a0 : Nat) (a1 : Nat) (x2 : Int32) : Option (Int32 × aH) :=
f_X0_favourite_8 2000 h a0 a1 x2 (-1) 0 0
set_option maxHeartbeats 2000000 in
theorem s_X0_favourite (h : aH) (a0 : Nat) (a1 : Nat) (x2 : Int32) : SO eI 3 kX0_favourite [.ref a0, .ref a1, .int x2] h (f_X0_favourite h a0 a1 x2) := by
  refine so_of (lv0 := [some (.ref a0), some (.ref a1), some (.int x2), none, none, none, none]) pn_X0 (Nat.le_of_ble_eq_true rfl) rfl ?_
  unfold f_X0_favourite
  refine ao_s (st_iconst dX0_favourite_0 ic_m1) ?_
  refine ao_s (st_istore_n (lv' := [some (.ref a0), some (.ref a1), some (.int x2), some (.int (-1)), none, none, none]) dX0_favourite_1 rfl (by decide) rfl) ?_
  refine ao_s (st_iconst dX0_favourite_2 ic_0) ?_
  refine ao_s (st_istore (lv' := [some (.ref a0), some (.ref a1), some (.int x2), some (.int (-1)), some (.int 0), none, none]) dX0_favourite_3 (by decide) rfl) ?_
  refine ao_s (st_iconst dX0_favourite_5 ic_0) ?_
  refine ao_s (st_istore (lv' := [some (.ref a0), some (.ref a1), some (.int x2), some (.int (-1)), some (.int 0), some (.int 0), none]) dX0_favourite_6 (by decide) rfl) ?_
  exact ao_w (sb_s (sb_s (sb_s (sb_s (sb_s (sb_s (sb_n sb_0))))))) (l_X0_favourite_8 2000 h a0 a1 x2 (-1) 0 0)
def b_X0_isAtHand_2 (k2 : aH → Nat → Int32 → Int32 → Option (Int32 × aH)) (h : aH) (a0 : Nat) (x1 : Int32) (x2 : Int32) : Option (Int32 × aH) :=
(if 4 ≤ x2 then
some (0, h)
else
(if (sh a0).1 = 7 then
((hR h a0 3).bind fun b22 =>
(if (sh b22).1 = 0 then
(if aIn x2 (sh b22).2 then
(if hI h b22 x2.toNatClampNeg = x1 then
some (1, h)
else
k2 h a0 x1 (x2 + 1))
else none)
else none))
else none))
set_option maxHeartbeats 2000000 in
theorem t_X0_isAtHand_2 {k2 : aH → Nat → Int32 → Int32 → Option (Int32 × aH)} (hk2 : ∀ (h : aH) (a0 : Nat) (x1 : Int32) (x2 : Int32), AO eI 2 kX0_isAtHand 2 [some (.ref a0), some (.int x1), some (.int x2)] [] h (k2 h a0 x1 x2)) (h : aH) (a0 : Nat) (x1 : Int32) (x2 : Int32) : AO eI 2 kX0_isAtHand 2 [some (.ref a0), some (.int x1), some (.int x2)] [] h (b_X0_isAtHand_2 k2 h a0 x1 x2) := by
  unfold b_X0_isAtHand_2
  refine ao_s (st_iload_n dX0_isAtHand_2 rfl rfl) ?_
  refine ao_s (st_iconst dX0_isAtHand_3 ic_4) ?_
  refine ao_br (br_icmp_ge (tgt := 25) dX0_isAtHand_4 (by decide)) (fun c25 => ?_) (fun c25 => ?_)
  · refine ao_s (st_iconst dX0_isAtHand_25 ic_0) ?_
    exact ao_ir dX0_isAtHand_26 rfl (by decide)
  · refine ao_s (st_aload_n dX0_isAtHand_7 rfl rfl) ?_
    refine ao_chk (fun e21 => ?_)
    refine ao_getR dX0_isAtHand_8 fl_X0_25 rfl e21 (fun b22 => ?_)
    refine ao_s (st_iload_n dX0_isAtHand_11 rfl rfl) ?_
    refine ao_chk (fun e23 => ?_)
    refine ao_iald dX0_isAtHand_12 e23 ?_
    refine ao_s (st_iload_n dX0_isAtHand_13 rfl rfl) ?_
    refine ao_br (br_icmp_ne (tgt := 19) dX0_isAtHand_14 (by decide)) (fun c24 => ?_) (fun c24 => ?_)
    · refine ao_s (st_iconst dX0_isAtHand_17 ic_1) ?_
      exact ao_ir dX0_isAtHand_18 rfl (by decide)
    · refine ao_s (st_iinc (lv' := [some (.ref a0), some (.int x1), some (.int (x2 + 1))]) dX0_isAtHand_19 rfl nc_1 (by decide) rfl) ?_
      refine ao_s (st_goto 2 dX0_isAtHand_22 (by decide)) ?_
      exact ao_w (sb_s (sb_s (sb_s sb_0))) (hk2 h a0 x1 (x2 + 1))
def f_X0_isAtHand_2 (n : Nat) : aH → Nat → Int32 → Int32 → Option (Int32 × aH) := aIt (fun _ _ _ _ => none) (fun k => b_X0_isAtHand_2 k) n
theorem l_X0_isAtHand_2 (n : Nat) : ∀ (h : aH) (a0 : Nat) (x1 : Int32) (x2 : Int32), AO eI 2 kX0_isAtHand 2 [some (.ref a0), some (.int x1), some (.int x2)] [] h (f_X0_isAtHand_2 n h a0 x1 x2) := by
  induction n with
  | zero => intros; exact ao_none
  | succ n ih =>
    intro h a0 x1 x2
    exact t_X0_isAtHand_2 ih h a0 x1 x2
def f_X0_isAtHand (h : aH) (a0 : Nat) (x1 : Int32) : Option (Int32 × aH) :=
f_X0_isAtHand_2 2000 h a0 x1 0
set_option maxHeartbeats 2000000 in
theorem s_X0_isAtHand (h : aH) (a0 : Nat) (x1 : Int32) : SO eI 2 kX0_isAtHand [.ref a0, .int x1] h (f_X0_isAtHand h a0 x1) := by
  refine so_of (lv0 := [some (.ref a0), some (.int x1), none]) pn_X0 (Nat.le_of_ble_eq_true rfl) rfl ?_
  unfold f_X0_isAtHand
  refine ao_s (st_iconst dX0_isAtHand_0 ic_0) ?_
  refine ao_s (st_istore_n (lv' := [some (.ref a0), some (.int x1), some (.int 0)]) dX0_isAtHand_1 rfl (by decide) rfl) ?_
  exact ao_w (sb_s (sb_s (sb_s sb_0))) (l_X0_isAtHand_2 2000 h a0 x1 0)
def b_X0_askOnce_47 (k2 : aH → Nat → Nat → Int32 → Option (Int32 × aH)) (h : aH) (a0 : Nat) (a1 : Nat) (x2 : Int32) : Option (Int32 × aH) :=
k2 h a0 a1 (x2 + 1)
set_option maxHeartbeats 2000000 in
theorem t_X0_askOnce_47 {k2 : aH → Nat → Nat → Int32 → Option (Int32 × aH)} (hk2 : ∀ (h : aH) (a0 : Nat) (a1 : Nat) (x2 : Int32), AO eI 4 kX0_askOnce 2 [some (.ref a0), some (.ref a1), some (.int x2), none] [] h (k2 h a0 a1 x2)) (h : aH) (a0 : Nat) (a1 : Nat) (x2 : Int32) : AO eI 4 kX0_askOnce 47 [some (.ref a0), some (.ref a1), some (.int x2), none] [] h (b_X0_askOnce_47 k2 h a0 a1 x2) := by
  unfold b_X0_askOnce_47
  refine ao_s (st_iinc (lv' := [some (.ref a0), some (.ref a1), some (.int (x2 + 1)), none]) dX0_askOnce_47 rfl nc_1 (by decide) rfl) ?_
  refine ao_s (st_goto 2 dX0_askOnce_50 (by decide)) ?_
  exact ao_w (sb_s (sb_s (sb_s (sb_n sb_0)))) (hk2 h a0 a1 (x2 + 1))
def b_X0_askOnce_2 (k2 : aH → Nat → Nat → Int32 → Option (Int32 × aH)) (h : aH) (a0 : Nat) (a1 : Nat) (x2 : Int32) : Option (Int32 × aH) :=
(if (sh a1).1 = 15 then
(if hI h a1 3 ≤ x2 then
some (0, h)
else
(aBind (f_X8_isFree h a1 0 x2) fun r22 h23 =>
(if r22 = 0 then
b_X0_askOnce_47 k2 h23 a0 a1 x2
else
(if (sh a0).1 = 7 then
(aBind (f_X0_isAtHand h23 a0 x2) fun r25 h26 =>
(if r25 = 0 then
(aBind (f_X0_favourite h26 a0 a1 x2) fun r27 h28 =>
(if r27 < 0 then
b_X0_askOnce_47 k2 h28 a0 a1 x2
else
(aBind (f_X0_ask h28 a0 a1 x2 r27) fun r29 h30 =>
some (1, h30))))
else
b_X0_askOnce_47 k2 h26 a0 a1 x2))
else none))))
else none)
set_option maxHeartbeats 2000000 in
theorem t_X0_askOnce_2 {k2 : aH → Nat → Nat → Int32 → Option (Int32 × aH)} (hk2 : ∀ (h : aH) (a0 : Nat) (a1 : Nat) (x2 : Int32), AO eI 4 kX0_askOnce 2 [some (.ref a0), some (.ref a1), some (.int x2), none] [] h (k2 h a0 a1 x2)) (h : aH) (a0 : Nat) (a1 : Nat) (x2 : Int32) : AO eI 4 kX0_askOnce 2 [some (.ref a0), some (.ref a1), some (.int x2), none] [] h (b_X0_askOnce_2 k2 h a0 a1 x2) := by
  unfold b_X0_askOnce_2
  refine ao_s (st_iload_n dX0_askOnce_2 rfl rfl) ?_
  refine ao_s (st_aload_n dX0_askOnce_3 rfl rfl) ?_
  refine ao_chk (fun e21 => ?_)
  refine ao_getI dX0_askOnce_4 fl_X0_45 rfl e21 ?_
  refine ao_br (br_icmp_ge (tgt := 53) dX0_askOnce_7 (by decide)) (fun c34 => ?_) (fun c34 => ?_)
  · refine ao_s (st_iconst dX0_askOnce_53 ic_0) ?_
    exact ao_ir dX0_askOnce_54 rfl (by decide)
  · refine ao_s (st_aload_n dX0_askOnce_10 rfl rfl) ?_
    refine ao_s (st_iconst dX0_askOnce_11 ic_0) ?_
    refine ao_s (st_iload_n dX0_askOnce_12 rfl rfl) ?_
    refine ao_cVi (Kc := kX8_isFree) (As := [.int 0, .int x2]) (st := []) dX0_askOnce_13 ml_X0_65 mv_X8_isFree rfl e21 (by decide) rfl rfl (Nat.le_of_ble_eq_true rfl) (by decide) (s_X8_isFree h a1 0 x2) (fun r22 h23 => ?_)
    refine ao_br (br_if_eq (tgt := 47) dX0_askOnce_16 (by decide)) (fun c33 => ?_) (fun c33 => ?_)
    · exact ao_w (sb_s (sb_s (sb_s (sb_n sb_0)))) (t_X0_askOnce_47 hk2 h23 a0 a1 x2)
    · refine ao_s (st_aload_n dX0_askOnce_19 rfl rfl) ?_
      refine ao_s (st_iload_n dX0_askOnce_20 rfl rfl) ?_
      refine ao_chk (fun e24 => ?_)
      refine ao_cVi (Kc := kX0_isAtHand) (As := [.int x2]) (st := []) dX0_askOnce_21 ml_X0_69 mv_X0_isAtHand rfl e24 (by decide) rfl rfl (Nat.le_of_ble_eq_true rfl) (by decide) (s_X0_isAtHand h23 a0 x2) (fun r25 h26 => ?_)
      refine ao_br (br_if_ne (tgt := 47) dX0_askOnce_24 (by decide)) (fun c32 => ?_) (fun c32 => ?_)
      · refine ao_s (st_aload_n dX0_askOnce_27 rfl rfl) ?_
        refine ao_s (st_aload_n dX0_askOnce_28 rfl rfl) ?_
        refine ao_s (st_iload_n dX0_askOnce_29 rfl rfl) ?_
        refine ao_cVi (Kc := kX0_favourite) (As := [.ref a1, .int x2]) (st := []) dX0_askOnce_30 ml_X0_73 mv_X0_favourite rfl e24 (by decide) rfl rfl (Nat.le_of_ble_eq_true rfl) (by decide) (s_X0_favourite h26 a0 a1 x2) (fun r27 h28 => ?_)
        refine ao_s (st_istore_n (lv' := [some (.ref a0), some (.ref a1), some (.int x2), some (.int r27)]) dX0_askOnce_33 rfl (by decide) rfl) ?_
        refine ao_s (st_iload_n dX0_askOnce_34 rfl rfl) ?_
        refine ao_br (br_if_lt (tgt := 47) dX0_askOnce_35 (by decide)) (fun c31 => ?_) (fun c31 => ?_)
        · exact ao_w (sb_s (sb_s (sb_s (sb_n sb_0)))) (t_X0_askOnce_47 hk2 h28 a0 a1 x2)
        · refine ao_s (st_aload_n dX0_askOnce_38 rfl rfl) ?_
          refine ao_s (st_aload_n dX0_askOnce_39 rfl rfl) ?_
          refine ao_s (st_iload_n dX0_askOnce_40 rfl rfl) ?_
          refine ao_s (st_iload_n dX0_askOnce_41 rfl rfl) ?_
          refine ao_cVv (Kc := kX0_ask) (As := [.ref a1, .int x2, .int r27]) (st := []) dX0_askOnce_42 ml_X0_77 mv_X0_ask rfl e24 (by decide) rfl rfl (Nat.le_of_ble_eq_true rfl) (by decide) (s_X0_ask h28 a0 a1 x2 r27) (fun r29 h30 => ?_)
          refine ao_s (st_iconst dX0_askOnce_45 ic_1) ?_
          exact ao_ir dX0_askOnce_46 rfl (by decide)
      · exact ao_w (sb_s (sb_s (sb_s (sb_n sb_0)))) (t_X0_askOnce_47 hk2 h26 a0 a1 x2)
def f_X0_askOnce_2 (n : Nat) : aH → Nat → Nat → Int32 → Option (Int32 × aH) := aIt (fun _ _ _ _ => none) (fun k => b_X0_askOnce_2 k) n
theorem l_X0_askOnce_2 (n : Nat) : ∀ (h : aH) (a0 : Nat) (a1 : Nat) (x2 : Int32), AO eI 4 kX0_askOnce 2 [some (.ref a0), some (.ref a1), some (.int x2), none] [] h (f_X0_askOnce_2 n h a0 a1 x2) := by
  induction n with
  | zero => intros; exact ao_none
  | succ n ih =>
    intro h a0 a1 x2
    exact t_X0_askOnce_2 ih h a0 a1 x2
def f_X0_askOnce (h : aH) (a0 : Nat) (a1 : Nat) : Option (Int32 × aH) :=
f_X0_askOnce_2 2000 h a0 a1 0
set_option maxHeartbeats 2000000 in
theorem s_X0_askOnce (h : aH) (a0 : Nat) (a1 : Nat) : SO eI 4 kX0_askOnce [.ref a0, .ref a1] h (f_X0_askOnce h a0 a1) := by
  refine so_of (lv0 := [some (.ref a0), some (.ref a1), none, none]) pn_X0 (Nat.le_of_ble_eq_true rfl) rfl ?_
  unfold f_X0_askOnce
  refine ao_s (st_iconst dX0_askOnce_0 ic_0) ?_
  refine ao_s (st_istore_n (lv' := [some (.ref a0), some (.ref a1), some (.int 0), none]) dX0_askOnce_1 rfl (by decide) rfl) ?_
  exact ao_w (sb_s (sb_s (sb_s (sb_n sb_0)))) (l_X0_askOnce_2 2000 h a0 a1 0)
def b_X0_askAround_29 (k29 : aH → Nat → Nat → Int32 → Option (Unit × aH)) (h : aH) (a0 : Nat) (a1 : Nat) (x2 : Int32) : Option (Unit × aH) :=
(if 16 ≤ x2 then
some ((), h)
else
(if (sh a0).1 = 7 then
(aBind (f_X0_askOnce h a0 a1) fun r22 h23 =>
(if r22 = 0 then
some ((), h23)
else
k29 h23 a0 a1 (x2 + 1)))
else none))
set_option maxHeartbeats 2000000 in
theorem t_X0_askAround_29 {k29 : aH → Nat → Nat → Int32 → Option (Unit × aH)} (hk29 : ∀ (h : aH) (a0 : Nat) (a1 : Nat) (x2 : Int32), AO eV 5 kX0_askAround 29 [some (.ref a0), some (.ref a1), some (.int x2)] [] h (k29 h a0 a1 x2)) (h : aH) (a0 : Nat) (a1 : Nat) (x2 : Int32) : AO eV 5 kX0_askAround 29 [some (.ref a0), some (.ref a1), some (.int x2)] [] h (b_X0_askAround_29 k29 h a0 a1 x2) := by
  unfold b_X0_askAround_29
  refine ao_s (st_iload_n dX0_askAround_29 rfl rfl) ?_
  refine ao_s (st_bipush dX0_askAround_30 bp_16) ?_
  refine ao_br (br_icmp_ge (tgt := 50) dX0_askAround_32 (by decide)) (fun c25 => ?_) (fun c25 => ?_)
  · exact ao_vr dX0_askAround_50 rfl
  · refine ao_s (st_aload_n dX0_askAround_35 rfl rfl) ?_
    refine ao_s (st_aload_n dX0_askAround_36 rfl rfl) ?_
    refine ao_chk (fun e21 => ?_)
    refine ao_cVi (Kc := kX0_askOnce) (As := [.ref a1]) (st := []) dX0_askAround_37 ml_X0_61 mv_X0_askOnce rfl e21 (by decide) rfl rfl (Nat.le_of_ble_eq_true rfl) (by decide) (s_X0_askOnce h a0 a1) (fun r22 h23 => ?_)
    refine ao_br (br_if_ne (tgt := 44) dX0_askAround_40 (by decide)) (fun c24 => ?_) (fun c24 => ?_)
    · exact ao_vr dX0_askAround_43 rfl
    · refine ao_s (st_iinc (lv' := [some (.ref a0), some (.ref a1), some (.int (x2 + 1))]) dX0_askAround_44 rfl nc_1 (by decide) rfl) ?_
      refine ao_s (st_goto 29 dX0_askAround_47 (by decide)) ?_
      exact ao_w (sb_s (sb_s (sb_s sb_0))) (hk29 h23 a0 a1 (x2 + 1))
def f_X0_askAround_29 (n : Nat) : aH → Nat → Nat → Int32 → Option (Unit × aH) := aIt (fun _ _ _ _ => none) (fun k => b_X0_askAround_29 k) n
theorem l_X0_askAround_29 (n : Nat) : ∀ (h : aH) (a0 : Nat) (a1 : Nat) (x2 : Int32), AO eV 5 kX0_askAround 29 [some (.ref a0), some (.ref a1), some (.int x2)] [] h (f_X0_askAround_29 n h a0 a1 x2) := by
  induction n with
  | zero => intros; exact ao_none
  | succ n ih =>
    intro h a0 a1 x2
    exact t_X0_askAround_29 ih h a0 a1 x2
def b_X0_askAround_2 (k2 : aH → Nat → Nat → Int32 → Option (Unit × aH)) (h : aH) (a0 : Nat) (a1 : Nat) (x2 : Int32) : Option (Unit × aH) :=
(if 4 ≤ x2 then
f_X0_askAround_29 2000 h a0 a1 0
else
(if (sh a0).1 = 7 then
((hR h a0 2).bind fun b22 =>
(if (sh b22).1 = 0 then
(if aIn x2 (sh b22).2 then
(aLet (pI h b22 x2.toNatClampNeg 0) fun h24 =>
((hR h24 a0 3).bind fun b25 =>
(if (sh b25).1 = 0 then
(if aIn x2 (sh b25).2 then
(aLet (pI h24 b25 x2.toNatClampNeg (-1)) fun h27 =>
k2 h27 a0 a1 (x2 + 1))
else none)
else none)))
else none)
else none))
else none))
set_option maxHeartbeats 2000000 in
theorem t_X0_askAround_2 {k2 : aH → Nat → Nat → Int32 → Option (Unit × aH)} (hk2 : ∀ (h : aH) (a0 : Nat) (a1 : Nat) (x2 : Int32), AO eV 5 kX0_askAround 2 [some (.ref a0), some (.ref a1), some (.int x2)] [] h (k2 h a0 a1 x2)) (h : aH) (a0 : Nat) (a1 : Nat) (x2 : Int32) : AO eV 5 kX0_askAround 2 [some (.ref a0), some (.ref a1), some (.int x2)] [] h (b_X0_askAround_2 k2 h a0 a1 x2) := by
  unfold b_X0_askAround_2
  refine ao_s (st_iload_n dX0_askAround_2 rfl rfl) ?_
  refine ao_s (st_iconst dX0_askAround_3 ic_4) ?_
  refine ao_br (br_icmp_ge (tgt := 27) dX0_askAround_4 (by decide)) (fun c28 => ?_) (fun c28 => ?_)
  · refine ao_s (st_iconst dX0_askAround_27 ic_0) ?_
    refine ao_s (st_istore_n (lv' := [some (.ref a0), some (.ref a1), some (.int 0)]) dX0_askAround_28 rfl (by decide) rfl) ?_
    exact ao_w (sb_s (sb_s (sb_s sb_0))) (l_X0_askAround_29 2000 h a0 a1 0)
  · refine ao_s (st_aload_n dX0_askAround_7 rfl rfl) ?_
    refine ao_chk (fun e21 => ?_)
    refine ao_getR dX0_askAround_8 fl_X0_22 rfl e21 (fun b22 => ?_)
    refine ao_s (st_iload_n dX0_askAround_11 rfl rfl) ?_
    refine ao_s (st_iconst dX0_askAround_12 ic_0) ?_
    refine ao_chk (fun e23 => ?_)
    refine ao_iast dX0_askAround_13 e23 ?_
    refine ao_letH (fun h24 => ?_)
    refine ao_s (st_aload_n dX0_askAround_14 rfl rfl) ?_
    refine ao_getR dX0_askAround_15 fl_X0_25 rfl e21 (fun b25 => ?_)
    refine ao_s (st_iload_n dX0_askAround_18 rfl rfl) ?_
    refine ao_s (st_iconst dX0_askAround_19 ic_m1) ?_
    refine ao_chk (fun e26 => ?_)
    refine ao_iast dX0_askAround_20 e26 ?_
    refine ao_letH (fun h27 => ?_)
    refine ao_s (st_iinc (lv' := [some (.ref a0), some (.ref a1), some (.int (x2 + 1))]) dX0_askAround_21 rfl nc_1 (by decide) rfl) ?_
    refine ao_s (st_goto 2 dX0_askAround_24 (by decide)) ?_
    exact ao_w (sb_s (sb_s (sb_s sb_0))) (hk2 h27 a0 a1 (x2 + 1))
def f_X0_askAround_2 (n : Nat) : aH → Nat → Nat → Int32 → Option (Unit × aH) := aIt (fun _ _ _ _ => none) (fun k => b_X0_askAround_2 k) n
theorem l_X0_askAround_2 (n : Nat) : ∀ (h : aH) (a0 : Nat) (a1 : Nat) (x2 : Int32), AO eV 5 kX0_askAround 2 [some (.ref a0), some (.ref a1), some (.int x2)] [] h (f_X0_askAround_2 n h a0 a1 x2) := by
  induction n with
  | zero => intros; exact ao_none
  | succ n ih =>
    intro h a0 a1 x2
    exact t_X0_askAround_2 ih h a0 a1 x2
def f_X0_askAround (h : aH) (a0 : Nat) (a1 : Nat) : Option (Unit × aH) :=
f_X0_askAround_2 2000 h a0 a1 0
set_option maxHeartbeats 2000000 in
theorem s_X0_askAround (h : aH) (a0 : Nat) (a1 : Nat) : SO eV 5 kX0_askAround [.ref a0, .ref a1] h (f_X0_askAround h a0 a1) := by
  refine so_of (lv0 := [some (.ref a0), some (.ref a1), none]) pn_X0 (Nat.le_of_ble_eq_true rfl) rfl ?_
  unfold f_X0_askAround
  refine ao_s (st_iconst dX0_askAround_0 ic_0) ?_
  refine ao_s (st_istore_n (lv' := [some (.ref a0), some (.ref a1), some (.int 0)]) dX0_askAround_1 rfl (by decide) rfl) ?_
  exact ao_w (sb_s (sb_s (sb_s sb_0))) (l_X0_askAround_2 2000 h a0 a1 0)
def f_X8_give (h : aH) (a0 : Nat) (x1 : Int32) (x2 : Int32) (x3 : Int32) : Option (Unit × aH) :=
(if (sh a0).1 = 15 then
((hR h a0 7).bind fun b22 =>
(if (sh b22).1 = 0 then
(if aIn x1 (sh b22).2 then
(if aIn x1 (sh b22).2 then
(aLet (pI h b22 x1.toNatClampNeg ((hI h b22 x1.toNatClampNeg) - x3)) fun h24 =>
((hR h24 a0 7).bind fun b25 =>
((hR h24 a0 7).bind fun b26 =>
(if (sh b26).1 = 0 then
(if aIn x2 (sh b26).2 then
(aLet ((hI h24 b26 x2.toNatClampNeg) + x3) fun x28 =>
(if (sh b25).1 = 0 then
(if aIn x2 (sh b25).2 then
(aLet (pI h24 b25 x2.toNatClampNeg (if x28 < 9999 then x28 else 9999)) fun h30 =>
some ((), h30))
else none)
else none))
else none)
else none))))
else none)
else none)
else none))
else none)
set_option maxHeartbeats 2000000 in
theorem s_X8_give (h : aH) (a0 : Nat) (x1 : Int32) (x2 : Int32) (x3 : Int32) : SO eV 2 kX8_give [.ref a0, .int x1, .int x2, .int x3] h (f_X8_give h a0 x1 x2 x3) := by
  refine so_of (lv0 := [some (.ref a0), some (.int x1), some (.int x2), some (.int x3)]) pn_X8 (Nat.le_of_ble_eq_true rfl) rfl ?_
  unfold f_X8_give
  refine ao_s (st_aload_n dX8_give_0 rfl rfl) ?_
  refine ao_chk (fun e21 => ?_)
  refine ao_getR dX8_give_1 fl_X8_35 rfl e21 (fun b22 => ?_)
  refine ao_s (st_iload_n dX8_give_4 rfl rfl) ?_
  refine ao_s (st_dup2 dX8_give_5 rfl rfl) ?_
  refine ao_chk (fun e23 => ?_)
  refine ao_iald dX8_give_6 e23 ?_
  refine ao_s (st_iload_n dX8_give_7 rfl rfl) ?_
  refine ao_s (st_isub dX8_give_8) ?_
  refine ao_iast dX8_give_9 e23 ?_
  refine ao_letH (fun h24 => ?_)
  refine ao_s (st_aload_n dX8_give_10 rfl rfl) ?_
  refine ao_getR dX8_give_11 fl_X8_35 rfl e21 (fun b25 => ?_)
  refine ao_s (st_iload_n dX8_give_14 rfl rfl) ?_
  refine ao_s (st_sipush dX8_give_15 sp_9999) ?_
  refine ao_s (st_aload_n dX8_give_18 rfl rfl) ?_
  refine ao_getR dX8_give_19 fl_X8_35 rfl e21 (fun b26 => ?_)
  refine ao_s (st_iload_n dX8_give_22 rfl rfl) ?_
  refine ao_chk (fun e27 => ?_)
  refine ao_iald dX8_give_23 e27 ?_
  refine ao_s (st_iload_n dX8_give_24 rfl rfl) ?_
  refine ao_s (st_iadd dX8_give_25) ?_
  refine ao_letI (fun x28 => ?_)
  refine ao_mmin dX8_give_26 ml_X8_88 (Nat.le_of_ble_eq_true rfl) (by decide) ?_
  refine ao_chk (fun e29 => ?_)
  refine ao_iast dX8_give_29 e29 ?_
  refine ao_letH (fun h30 => ?_)
  exact ao_vr dX8_give_30 rfl
