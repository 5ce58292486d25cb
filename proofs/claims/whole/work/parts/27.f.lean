def b_X11_ahead_29 (h : aH) (a0 : Nat) (x1 : Int32) (x2 : Int32) (x3 : Int32) (a4 : Nat) (s0 : Int32) : Option (Int32 × aH) :=
(if s0 = 0 then
some ((-2), h)
else
(if x2 < 0 then
some ((-2), h)
else
(if 60 < x2 then
some ((-2), h)
else
(if x3 < 0 then
some ((-2), h)
else
(if x3 ≤ 3 then
(if (sh a0).1 = 18 then
((hR h a0 12).bind fun b22 =>
(aBind (f_X11_ruleInForce h a0) fun r23 h24 =>
(if (sh b22).1 = 8 then
(aBind (f_X1_after h24 b22 a4 r23 x2) fun r26 h27 =>
(if x3 = 0 then
(if (sh r26).1 = 15 then
(aBind (f_X8_partnerOf h27 r26 0 x1) fun r32 h33 =>
some (r32, h33))
else none)
else
(if x3 = 1 then
(if (sh r26).1 = 15 then
(aBind (f_X8_likeOfPartner h27 r26 x1) fun r35 h36 =>
some (r35, h36))
else none)
else
(if x3 = 2 then
(if (sh r26).1 = 15 then
(aBind (f_X8_purseOf h27 r26 0 x1) fun r38 h39 =>
some (r38, h39))
else none)
else
(if (sh r26).1 = 15 then
(aBind (f_X8_purseOf h27 r26 1 x1) fun r41 h42 =>
some (r41, h42))
else none)))))
else none)))
else none)
else
some ((-2), h))))))
set_option maxHeartbeats 2000000 in
theorem t_X11_ahead_29 (h : aH) (a0 : Nat) (x1 : Int32) (x2 : Int32) (x3 : Int32) (a4 : Nat) (s0 : Int32) : AO eI 8 kX11_ahead 29 [some (.ref a0), some (.int x1), some (.int x2), some (.int x3), some (.ref a4), none, none] [.int s0] h (b_X11_ahead_29 h a0 x1 x2 x3 a4 s0) := by
  unfold b_X11_ahead_29
  refine ao_s (st_istore (lv' := [some (.ref a0), some (.int x1), some (.int x2), some (.int x3), some (.ref a4), some (.int s0), none]) dX11_ahead_29 (by decide) rfl) ?_
  refine ao_s (st_iload dX11_ahead_31 rfl) ?_
  refine ao_br (br_if_eq (tgt := 55) dX11_ahead_33 (by decide)) (fun c47 => ?_) (fun c47 => ?_)
  · refine ao_s (st_bipush dX11_ahead_55 bp_m2) ?_
    exact ao_ir dX11_ahead_57 rfl rfl
  · refine ao_s (st_iload_n dX11_ahead_36 rfl rfl) ?_
    refine ao_br (br_if_lt (tgt := 55) dX11_ahead_37 (by decide)) (fun c46 => ?_) (fun c46 => ?_)
    · refine ao_s (st_bipush dX11_ahead_55 bp_m2) ?_
      exact ao_ir dX11_ahead_57 rfl rfl
    · refine ao_s (st_iload_n dX11_ahead_40 rfl rfl) ?_
      refine ao_s (st_bipush dX11_ahead_41 bp_60) ?_
      refine ao_br (br_icmp_gt (tgt := 55) dX11_ahead_43 (by decide)) (fun c45 => ?_) (fun c45 => ?_)
      · refine ao_s (st_bipush dX11_ahead_55 bp_m2) ?_
        exact ao_ir dX11_ahead_57 rfl rfl
      · refine ao_s (st_iload_n dX11_ahead_46 rfl rfl) ?_
        refine ao_br (br_if_lt (tgt := 55) dX11_ahead_47 (by decide)) (fun c44 => ?_) (fun c44 => ?_)
        · refine ao_s (st_bipush dX11_ahead_55 bp_m2) ?_
          exact ao_ir dX11_ahead_57 rfl rfl
        · refine ao_s (st_iload_n dX11_ahead_50 rfl rfl) ?_
          refine ao_s (st_iconst dX11_ahead_51 ic_3) ?_
          refine ao_br (br_icmp_le (tgt := 58) dX11_ahead_52 (by decide)) (fun c43 => ?_) (fun c43 => ?_)
          · refine ao_s (st_aload_n dX11_ahead_58 rfl rfl) ?_
            refine ao_chk (fun e21 => ?_)
            refine ao_getR dX11_ahead_59 fl_X11_82 rfl e21 (fun b22 => ?_)
            refine ao_s (st_aload dX11_ahead_62 rfl) ?_
            refine ao_s (st_aload_n dX11_ahead_64 rfl rfl) ?_
            refine ao_cVq (Kc := kX11_ruleInForce) (As := []) (st := [.ref a4, .ref b22]) dX11_ahead_65 ml_X11_198 mv_X11_ruleInForce rfl e21 (by decide) rfl rfl (Nat.le_of_ble_eq_true rfl) (by decide) (s_X11_ruleInForce h a0) (fun r23 h24 => ?_)
            refine ao_s (st_iload_n dX11_ahead_68 rfl rfl) ?_
            refine ao_chk (fun e25 => ?_)
            refine ao_cVn (Kc := kX1_after) (As := [.ref a4, va_rf r23, .int x2]) (st := []) dX11_ahead_69 ml_X11_225 mv_X1_after rfl e25 (by decide) rfl rfl (Nat.le_of_ble_eq_true rfl) (by decide) (s_X1_after h24 b22 a4 r23 x2) (fun r26 h27 => ?_)
            refine ao_s (st_astore (lv' := [some (.ref a0), some (.int x1), some (.int x2), some (.int x3), some (.ref a4), some (.int s0), some (.ref r26)]) dX11_ahead_72 (by decide) rfl) ?_
            refine ao_s (st_iload_n dX11_ahead_74 rfl rfl) ?_
            refine ao_ite (fun c28 => ?_) (fun c28 => ?_)
            · refine ao_s (st_tabIn (v := 0) (off := 25) (tgt := 100) c28 dX11_ahead_75 (by decide) (by decide)) ?_
              refine ao_s (st_aload dX11_ahead_100 rfl) ?_
              refine ao_s (st_iconst dX11_ahead_102 ic_0) ?_
              refine ao_s (st_iload_n dX11_ahead_103 rfl rfl) ?_
              refine ao_chk (fun e31 => ?_)
              refine ao_cVi (Kc := kX8_partnerOf) (As := [.int 0, .int x1]) (st := []) dX11_ahead_104 ml_X11_229 mv_X8_partnerOf rfl e31 (by decide) rfl rfl (Nat.le_of_ble_eq_true rfl) (by decide) (s_X8_partnerOf h27 r26 0 x1) (fun r32 h33 => ?_)
              exact ao_ir dX11_ahead_107 rfl rfl
            · refine ao_ite (fun c29 => ?_) (fun c29 => ?_)
              · refine ao_s (st_tabIn (v := 1) (off := 33) (tgt := 108) c29 dX11_ahead_75 (by decide) (by decide)) ?_
                refine ao_s (st_aload dX11_ahead_108 rfl) ?_
                refine ao_s (st_iload_n dX11_ahead_110 rfl rfl) ?_
                refine ao_chk (fun e34 => ?_)
                refine ao_cVi (Kc := kX8_likeOfPartner) (As := [.int x1]) (st := []) dX11_ahead_111 ml_X11_232 mv_X8_likeOfPartner rfl e34 (by decide) rfl rfl (Nat.le_of_ble_eq_true rfl) (by decide) (s_X8_likeOfPartner h27 r26 x1) (fun r35 h36 => ?_)
                exact ao_ir dX11_ahead_114 rfl rfl
              · refine ao_ite (fun c30 => ?_) (fun c30 => ?_)
                · refine ao_s (st_tabIn (v := 2) (off := 40) (tgt := 115) c30 dX11_ahead_75 (by decide) (by decide)) ?_
                  refine ao_s (st_aload dX11_ahead_115 rfl) ?_
                  refine ao_s (st_iconst dX11_ahead_117 ic_0) ?_
                  refine ao_s (st_iload_n dX11_ahead_118 rfl rfl) ?_
                  refine ao_chk (fun e37 => ?_)
                  refine ao_cVi (Kc := kX8_purseOf) (As := [.int 0, .int x1]) (st := []) dX11_ahead_119 ml_X11_235 mv_X8_purseOf rfl e37 (by decide) rfl rfl (Nat.le_of_ble_eq_true rfl) (by decide) (s_X8_purseOf h27 r26 0 x1) (fun r38 h39 => ?_)
                  exact ao_ir dX11_ahead_122 rfl rfl
                · refine ao_s (st_tabOut (tgt := 123) dX11_ahead_75 (by have q0 := lv_neT c28 (show (0 : Int32).toInt = 0 by decide); have q1 := lv_neT c29 (show (1 : Int32).toInt = 1 by decide); have q2 := lv_neT c30 (show (2 : Int32).toInt = 2 by decide); omega) (by decide)) ?_
                  refine ao_s (st_aload dX11_ahead_123 rfl) ?_
                  refine ao_s (st_iconst dX11_ahead_125 ic_1) ?_
                  refine ao_s (st_iload_n dX11_ahead_126 rfl rfl) ?_
                  refine ao_chk (fun e40 => ?_)
                  refine ao_cVi (Kc := kX8_purseOf) (As := [.int 1, .int x1]) (st := []) dX11_ahead_127 ml_X11_235 mv_X8_purseOf rfl e40 (by decide) rfl rfl (Nat.le_of_ble_eq_true rfl) (by decide) (s_X8_purseOf h27 r26 1 x1) (fun r41 h42 => ?_)
                  exact ao_ir dX11_ahead_130 rfl rfl
          · refine ao_s (st_bipush dX11_ahead_55 bp_m2) ?_
            exact ao_ir dX11_ahead_57 rfl rfl
def f_X11_ahead (h : aH) (a0 : Nat) (x1 : Int32) (x2 : Int32) (x3 : Int32) : Option (Int32 × aH) :=
(if (sh a0).1 = 18 then
((hR h a0 5).bind fun b22 =>
(if (sh b22).1 = 17 then
((hR h b22 1).bind fun b24 =>
(if x3 = 3 then
(if (sh b24).1 = 15 then
(aBind (f_X8_hasWest h b24 x1) fun r26 h27 =>
b_X11_ahead_29 h27 a0 x1 x2 x3 b24 r26)
else none)
else
(if (sh b24).1 = 15 then
(aBind (f_X8_hasEast h b24 x1) fun r29 h30 =>
b_X11_ahead_29 h30 a0 x1 x2 x3 b24 r29)
else none)))
else none))
else none)
set_option maxHeartbeats 2000000 in
theorem s_X11_ahead (h : aH) (a0 : Nat) (x1 : Int32) (x2 : Int32) (x3 : Int32) : SO eI 8 kX11_ahead [.ref a0, .int x1, .int x2, .int x3] h (f_X11_ahead h a0 x1 x2 x3) := by
  refine so_of (lv0 := [some (.ref a0), some (.int x1), some (.int x2), some (.int x3), none, none, none]) pn_X11 (Nat.le_of_ble_eq_true rfl) rfl ?_
  unfold f_X11_ahead
  refine ao_s (st_aload_n dX11_ahead_0 rfl rfl) ?_
  refine ao_chk (fun e21 => ?_)
  refine ao_getR dX11_ahead_1 fl_X11_45 rfl e21 (fun b22 => ?_)
  refine ao_chk (fun e23 => ?_)
  refine ao_getR dX11_ahead_4 fl_X11_119 rfl e23 (fun b24 => ?_)
  refine ao_s (st_astore (lv' := [some (.ref a0), some (.int x1), some (.int x2), some (.int x3), some (.ref b24), none, none]) dX11_ahead_7 (by decide) rfl) ?_
  refine ao_s (st_iload_n dX11_ahead_9 rfl rfl) ?_
  refine ao_s (st_iconst dX11_ahead_10 ic_3) ?_
  refine ao_br (br_icmp_ne (tgt := 23) dX11_ahead_11 (by decide)) (fun c31 => ?_) (fun c31 => ?_)
  · refine ao_s (st_aload dX11_ahead_14 rfl) ?_
    refine ao_s (st_iload_n dX11_ahead_16 rfl rfl) ?_
    refine ao_chk (fun e25 => ?_)
    refine ao_cVi (Kc := kX8_hasWest) (As := [.int x1]) (st := []) dX11_ahead_17 ml_X11_149 mv_X8_hasWest rfl e25 (by decide) rfl rfl (Nat.le_of_ble_eq_true rfl) (by decide) (s_X8_hasWest h b24 x1) (fun r26 h27 => ?_)
    refine ao_s (st_goto 29 dX11_ahead_20 (by decide)) ?_
    exact ao_w (sb_s (sb_s (sb_s (sb_s (sb_s (sb_n (sb_n sb_0))))))) (t_X11_ahead_29 h27 a0 x1 x2 x3 b24 r26)
  · refine ao_s (st_aload dX11_ahead_23 rfl) ?_
    refine ao_s (st_iload_n dX11_ahead_25 rfl rfl) ?_
    refine ao_chk (fun e28 => ?_)
    refine ao_cVi (Kc := kX8_hasEast) (As := [.int x1]) (st := []) dX11_ahead_26 ml_X11_142 mv_X8_hasEast rfl e28 (by decide) rfl rfl (Nat.le_of_ble_eq_true rfl) (by decide) (s_X8_hasEast h b24 x1) (fun r29 h30 => ?_)
    exact ao_w (sb_s (sb_s (sb_s (sb_s (sb_s (sb_n (sb_n sb_0))))))) (t_X11_ahead_29 h30 a0 x1 x2 x3 b24 r29)
def f_X11_lasts (h : aH) (a0 : Nat) (x1 : Int32) : Option (Int32 × aH) :=
(if (sh a0).1 = 18 then
((hR h a0 5).bind fun b22 =>
(if (sh b22).1 = 17 then
((hR h b22 1).bind fun b24 =>
(if (sh b24).1 = 15 then
(aBind (f_X8_isJoinedEast h b24 x1) fun r26 h27 =>
(if r26 = 0 then
some ((-1), h27)
else
((hR h27 a0 12).bind fun b28 =>
((hR h27 a0 5).bind fun b29 =>
(if (sh b29).1 = 17 then
((hR h27 b29 1).bind fun b31 =>
(aBind (f_X11_ruleInForce h27 a0) fun r32 h33 =>
(if (sh b28).1 = 8 then
(aBind (f_X1_fairsTogether h33 b28 b31 r32 x1 60) fun r35 h36 =>
(if r35 = 60 then
some ((-2), h36)
else
((hR h36 a0 5).bind fun b37 =>
(if (sh b37).1 = 17 then
((hR h36 b37 1).bind fun b39 =>
(if (sh b39).1 = 15 then
some ((hI h36 b39 5) + r35, h36)
else none))
else none))))
else none)))
else none)))))
else none))
else none))
else none)
set_option maxHeartbeats 2000000 in
theorem s_X11_lasts (h : aH) (a0 : Nat) (x1 : Int32) : SO eI 9 kX11_lasts [.ref a0, .int x1] h (f_X11_lasts h a0 x1) := by
  refine so_of (lv0 := [some (.ref a0), some (.int x1), none]) pn_X11 (Nat.le_of_ble_eq_true rfl) rfl ?_
  unfold f_X11_lasts
  refine ao_s (st_aload_n dX11_lasts_0 rfl rfl) ?_
  refine ao_chk (fun e21 => ?_)
  refine ao_getR dX11_lasts_1 fl_X11_45 rfl e21 (fun b22 => ?_)
  refine ao_chk (fun e23 => ?_)
  refine ao_getR dX11_lasts_4 fl_X11_119 rfl e23 (fun b24 => ?_)
  refine ao_s (st_iload_n dX11_lasts_7 rfl rfl) ?_
  refine ao_chk (fun e25 => ?_)
  refine ao_cVi (Kc := kX8_isJoinedEast) (As := [.int x1]) (st := []) dX11_lasts_8 ml_X11_213 mv_X8_isJoinedEast rfl e25 (by decide) rfl rfl (Nat.le_of_ble_eq_true rfl) (by decide) (s_X8_isJoinedEast h b24 x1) (fun r26 h27 => ?_)
  refine ao_br (br_if_ne (tgt := 16) dX11_lasts_11 (by decide)) (fun c42 => ?_) (fun c42 => ?_)
  · refine ao_s (st_iconst dX11_lasts_14 ic_m1) ?_
    exact ao_ir dX11_lasts_15 rfl rfl
  · refine ao_s (st_aload_n dX11_lasts_16 rfl rfl) ?_
    refine ao_getR dX11_lasts_17 fl_X11_82 rfl e21 (fun b28 => ?_)
    refine ao_s (st_aload_n dX11_lasts_20 rfl rfl) ?_
    refine ao_getR dX11_lasts_21 fl_X11_45 rfl e21 (fun b29 => ?_)
    refine ao_chk (fun e30 => ?_)
    refine ao_getR dX11_lasts_24 fl_X11_119 rfl e30 (fun b31 => ?_)
    refine ao_s (st_aload_n dX11_lasts_27 rfl rfl) ?_
    refine ao_cVq (Kc := kX11_ruleInForce) (As := []) (st := [.ref b31, .ref b28]) dX11_lasts_28 ml_X11_198 mv_X11_ruleInForce rfl e21 (by decide) rfl rfl (Nat.le_of_ble_eq_true rfl) (by decide) (s_X11_ruleInForce h27 a0) (fun r32 h33 => ?_)
    refine ao_s (st_iload_n dX11_lasts_31 rfl rfl) ?_
    refine ao_s (st_bipush dX11_lasts_32 bp_60) ?_
    refine ao_chk (fun e34 => ?_)
    refine ao_cVi (Kc := kX1_fairsTogether) (As := [.ref b31, va_rf r32, .int x1, .int 60]) (st := []) dX11_lasts_34 ml_X11_238 mv_X1_fairsTogether rfl e34 (by decide) rfl rfl (Nat.le_of_ble_eq_true rfl) (by decide) (s_X1_fairsTogether h33 b28 b31 r32 x1 60) (fun r35 h36 => ?_)
    refine ao_s (st_istore_n (lv' := [some (.ref a0), some (.int x1), some (.int r35)]) dX11_lasts_37 rfl (by decide) rfl) ?_
    refine ao_s (st_iload_n dX11_lasts_38 rfl rfl) ?_
    refine ao_s (st_bipush dX11_lasts_39 bp_60) ?_
    refine ao_br (br_icmp_ne (tgt := 49) dX11_lasts_41 (by decide)) (fun c41 => ?_) (fun c41 => ?_)
    · refine ao_s (st_bipush dX11_lasts_44 bp_m2) ?_
      refine ao_s (st_goto 61 dX11_lasts_46 (by decide)) ?_
      exact ao_ir dX11_lasts_61 rfl rfl
    · refine ao_s (st_aload_n dX11_lasts_49 rfl rfl) ?_
      refine ao_getR dX11_lasts_50 fl_X11_45 rfl e21 (fun b37 => ?_)
      refine ao_chk (fun e38 => ?_)
      refine ao_getR dX11_lasts_53 fl_X11_119 rfl e38 (fun b39 => ?_)
      refine ao_chk (fun e40 => ?_)
      refine ao_getI dX11_lasts_56 fl_X11_167 rfl e40 ?_
      refine ao_s (st_iload_n dX11_lasts_59 rfl rfl) ?_
      refine ao_s (st_iadd dX11_lasts_60) ?_
      exact ao_ir dX11_lasts_61 rfl rfl
def b_X11_settled_50 (h : aH) (a0 : Nat) (x1 : Int32) (a2 : Nat) : Option (Int32 × aH) :=
(if (sh a0).1 = 18 then
((hR h a0 13).bind fun b22 =>
(if (sh b22).1 = 14 then
(aBind (f_X7_search h b22 a2) fun r24 h25 =>
(if x1 = 0 then
((hR h25 a0 13).bind fun b28 =>
(if (sh b28).1 = 14 then
some (hI h25 b28 3, h25)
else none))
else
(if x1 = 5 then
((hR h25 a0 13).bind fun b30 =>
(if (sh b30).1 = 14 then
some (hI h25 b30 4, h25)
else none))
else
((hR h25 a0 13).bind fun b32 =>
(if (sh b32).1 = 14 then
((hR h25 b32 2).bind fun b34 =>
(aLet (x1 - 1) fun x35 =>
(if (sh b34).1 = 0 then
(if aIn x35 (sh b34).2 then
some (hI h25 b34 x35.toNatClampNeg, h25)
else none)
else none)))
else none)))))
else none))
else none)
set_option maxHeartbeats 2000000 in
theorem t_X11_settled_50 (h : aH) (a0 : Nat) (x1 : Int32) (a2 : Nat) : AO eI 16 kX11_settled 50 [some (.ref a0), some (.int x1), some (.ref a2)] [] h (b_X11_settled_50 h a0 x1 a2) := by
  unfold b_X11_settled_50
  refine ao_s (st_aload_n dX11_settled_50 rfl rfl) ?_
  refine ao_chk (fun e21 => ?_)
  refine ao_getR dX11_settled_51 fl_X11_89 rfl e21 (fun b22 => ?_)
  refine ao_s (st_aload_n dX11_settled_54 rfl rfl) ?_
  refine ao_chk (fun e23 => ?_)
  refine ao_cVv (Kc := kX7_search) (As := [.ref a2]) (st := []) dX11_settled_55 ml_X11_245 mv_X7_search rfl e23 (by decide) rfl rfl (Nat.le_of_ble_eq_true rfl) (by decide) (s_X7_search h b22 a2) (fun r24 h25 => ?_)
  refine ao_s (st_iload_n dX11_settled_58 rfl rfl) ?_
  refine ao_ite (fun c26 => ?_) (fun c26 => ?_)
  · refine ao_s (st_look (off := 25) (tgt := 84) dX11_settled_59 (by decide) (by rw [c26]; decide) (by decide)) ?_
    refine ao_s (st_aload_n dX11_settled_84 rfl rfl) ?_
    refine ao_getR dX11_settled_85 fl_X11_89 rfl e21 (fun b28 => ?_)
    refine ao_chk (fun e29 => ?_)
    refine ao_getI dX11_settled_88 fl_X11_248 rfl e29 ?_
    exact ao_ir dX11_settled_91 rfl rfl
  · refine ao_ite (fun c27 => ?_) (fun c27 => ?_)
    · refine ao_s (st_look (off := 33) (tgt := 92) dX11_settled_59 (by decide) (by rw [c27]; decide) (by decide)) ?_
      refine ao_s (st_aload_n dX11_settled_92 rfl rfl) ?_
      refine ao_getR dX11_settled_93 fl_X11_89 rfl e21 (fun b30 => ?_)
      refine ao_chk (fun e31 => ?_)
      refine ao_getI dX11_settled_96 fl_X11_251 rfl e31 ?_
      exact ao_ir dX11_settled_99 rfl rfl
    · refine ao_s (st_look (off := 41) (tgt := 100) dX11_settled_59 (by decide) (by rw [lv_osw c26 (show (0 : Int32).toInt = 0 by decide), lv_osw c27 (show (5 : Int32).toInt = 5 by decide)]; rfl) (by decide)) ?_
      refine ao_s (st_aload_n dX11_settled_100 rfl rfl) ?_
      refine ao_getR dX11_settled_101 fl_X11_89 rfl e21 (fun b32 => ?_)
      refine ao_chk (fun e33 => ?_)
      refine ao_getR dX11_settled_104 fl_X11_254 rfl e33 (fun b34 => ?_)
      refine ao_s (st_iload_n dX11_settled_107 rfl rfl) ?_
      refine ao_s (st_iconst dX11_settled_108 ic_1) ?_
      refine ao_s (st_isub dX11_settled_109) ?_
      refine ao_letI (fun x35 => ?_)
      refine ao_chk (fun e36 => ?_)
      refine ao_iald dX11_settled_110 e36 ?_
      exact ao_ir dX11_settled_111 rfl rfl
def f_X11_settled (h : aH) (a0 : Nat) (x1 : Int32) : Option (Int32 × aH) :=
(if (sh a0).1 = 18 then
((hR h a0 5).bind fun b22 =>
(if (sh b22).1 = 17 then
((hR h b22 1).bind fun b24 =>
(if (sh b24).1 = 15 then
(if hI h b24 0 = 0 then
some ((-3), h)
else
(if x1 < 0 then
some ((-3), h)
else
(if x1 ≤ 5 then
(if x1 < 1 then
b_X11_settled_50 h a0 x1 b24
else
(if 4 < x1 then
b_X11_settled_50 h a0 x1 b24
else
(aBind (f_X8_isFreeEast h b24 (x1 - 1)) fun r26 h27 =>
(if r26 = 0 then
some ((-2), h27)
else
b_X11_settled_50 h27 a0 x1 b24))))
else
some ((-3), h))))
else none))
else none))
else none)
set_option maxHeartbeats 2000000 in
theorem s_X11_settled (h : aH) (a0 : Nat) (x1 : Int32) : SO eI 16 kX11_settled [.ref a0, .int x1] h (f_X11_settled h a0 x1) := by
  refine so_of (lv0 := [some (.ref a0), some (.int x1), none]) pn_X11 (Nat.le_of_ble_eq_true rfl) rfl ?_
  unfold f_X11_settled
  refine ao_s (st_aload_n dX11_settled_0 rfl rfl) ?_
  refine ao_chk (fun e21 => ?_)
  refine ao_getR dX11_settled_1 fl_X11_45 rfl e21 (fun b22 => ?_)
  refine ao_chk (fun e23 => ?_)
  refine ao_getR dX11_settled_4 fl_X11_119 rfl e23 (fun b24 => ?_)
  refine ao_s (st_astore_n (lv' := [some (.ref a0), some (.int x1), some (.ref b24)]) dX11_settled_7 rfl (by decide) rfl) ?_
  refine ao_s (st_aload_n dX11_settled_8 rfl rfl) ?_
  refine ao_chk (fun e25 => ?_)
  refine ao_getI dX11_settled_9 fl_X11_191 rfl e25 ?_
  refine ao_br (br_if_eq (tgt := 24) dX11_settled_12 (by decide)) (fun c33 => ?_) (fun c33 => ?_)
  · refine ao_s (st_bipush dX11_settled_24 bp_m3) ?_
    exact ao_ir dX11_settled_26 rfl rfl
  · refine ao_s (st_iload_n dX11_settled_15 rfl rfl) ?_
    refine ao_br (br_if_lt (tgt := 24) dX11_settled_16 (by decide)) (fun c32 => ?_) (fun c32 => ?_)
    · refine ao_s (st_bipush dX11_settled_24 bp_m3) ?_
      exact ao_ir dX11_settled_26 rfl rfl
    · refine ao_s (st_iload_n dX11_settled_19 rfl rfl) ?_
      refine ao_s (st_iconst dX11_settled_20 ic_5) ?_
      refine ao_br (br_icmp_le (tgt := 27) dX11_settled_21 (by decide)) (fun c31 => ?_) (fun c31 => ?_)
      · refine ao_s (st_iload_n dX11_settled_27 rfl rfl) ?_
        refine ao_s (st_iconst dX11_settled_28 ic_1) ?_
        refine ao_br (br_icmp_lt (tgt := 50) dX11_settled_29 (by decide)) (fun c30 => ?_) (fun c30 => ?_)
        · exact ao_w (sb_s (sb_s (sb_s sb_0))) (t_X11_settled_50 h a0 x1 b24)
        · refine ao_s (st_iload_n dX11_settled_32 rfl rfl) ?_
          refine ao_s (st_iconst dX11_settled_33 ic_4) ?_
          refine ao_br (br_icmp_gt (tgt := 50) dX11_settled_34 (by decide)) (fun c29 => ?_) (fun c29 => ?_)
          · exact ao_w (sb_s (sb_s (sb_s sb_0))) (t_X11_settled_50 h a0 x1 b24)
          · refine ao_s (st_aload_n dX11_settled_37 rfl rfl) ?_
            refine ao_s (st_iload_n dX11_settled_38 rfl rfl) ?_
            refine ao_s (st_iconst dX11_settled_39 ic_1) ?_
            refine ao_s (st_isub dX11_settled_40) ?_
            refine ao_cVi (Kc := kX8_isFreeEast) (As := [.int (x1 - 1)]) (st := []) dX11_settled_41 ml_X11_242 mv_X8_isFreeEast rfl e25 (by decide) rfl rfl (Nat.le_of_ble_eq_true rfl) (by decide) (s_X8_isFreeEast h b24 (x1 - 1)) (fun r26 h27 => ?_)
            refine ao_br (br_if_ne (tgt := 50) dX11_settled_44 (by decide)) (fun c28 => ?_) (fun c28 => ?_)
            · refine ao_s (st_bipush dX11_settled_47 bp_m2) ?_
              exact ao_ir dX11_settled_49 rfl rfl
            · exact ao_w (sb_s (sb_s (sb_s sb_0))) (t_X11_settled_50 h27 a0 x1 b24)
      · refine ao_s (st_bipush dX11_settled_24 bp_m3) ?_
        exact ao_ir dX11_settled_26 rfl rfl
def f_X11_tries (h : aH) (a0 : Nat) (x1 : Int32) (x2 : Int32) (x3 : Int32) : Option (Int32 × aH) :=
(if (sh a0).1 = 18 then
((hR h a0 5).bind fun b22 =>
(if (sh b22).1 = 17 then
((hR h b22 1).bind fun b24 =>
(if (sh b24).1 = 15 then
(aBind (f_X8_isFreeEast h b24 x1) fun r26 h27 =>
(if r26 = 0 then
some ((-2), h27)
else
(if x2 < 1 then
some ((-2), h27)
else
(if 30 < x2 then
some ((-2), h27)
else
(if x3 < 0 then
some ((-2), h27)
else
(if x3 ≤ 1 then
((hR h27 a0 12).bind fun b28 =>
((hR h27 a0 5).bind fun b29 =>
(if (sh b29).1 = 17 then
((hR h27 b29 1).bind fun b31 =>
(aBind (f_X11_ruleInForce h27 a0) fun r32 h33 =>
(if (sh b28).1 = 8 then
(aBind (f_X1_tryAll h33 b28 b31 r32 x1 x2) fun r35 h36 =>
(if x3 = 0 then
((hR h36 a0 12).bind fun b37 =>
(if (sh b37).1 = 8 then
some (hI h36 b37 2, h36)
else none))
else
((hR h36 a0 12).bind fun b39 =>
(if (sh b39).1 = 8 then
some (hI h36 b39 3, h36)
else none))))
else none)))
else none)))
else
some ((-2), h27)))))))
else none))
else none))
else none)
set_option maxHeartbeats 2000000 in
theorem s_X11_tries (h : aH) (a0 : Nat) (x1 : Int32) (x2 : Int32) (x3 : Int32) : SO eI 9 kX11_tries [.ref a0, .int x1, .int x2, .int x3] h (f_X11_tries h a0 x1 x2 x3) := by
  refine so_of (lv0 := [some (.ref a0), some (.int x1), some (.int x2), some (.int x3)]) pn_X11 (Nat.le_of_ble_eq_true rfl) rfl ?_
  unfold f_X11_tries
  refine ao_s (st_aload_n dX11_tries_0 rfl rfl) ?_
  refine ao_chk (fun e21 => ?_)
  refine ao_getR dX11_tries_1 fl_X11_45 rfl e21 (fun b22 => ?_)
  refine ao_chk (fun e23 => ?_)
  refine ao_getR dX11_tries_4 fl_X11_119 rfl e23 (fun b24 => ?_)
  refine ao_s (st_iload_n dX11_tries_7 rfl rfl) ?_
  refine ao_chk (fun e25 => ?_)
  refine ao_cVi (Kc := kX8_isFreeEast) (As := [.int x1]) (st := []) dX11_tries_8 ml_X11_242 mv_X8_isFreeEast rfl e25 (by decide) rfl rfl (Nat.le_of_ble_eq_true rfl) (by decide) (s_X8_isFreeEast h b24 x1) (fun r26 h27 => ?_)
  refine ao_br (br_if_eq (tgt := 34) dX11_tries_11 (by decide)) (fun c46 => ?_) (fun c46 => ?_)
  · refine ao_s (st_bipush dX11_tries_34 bp_m2) ?_
    exact ao_ir dX11_tries_36 rfl rfl
  · refine ao_s (st_iload_n dX11_tries_14 rfl rfl) ?_
    refine ao_s (st_iconst dX11_tries_15 ic_1) ?_
    refine ao_br (br_icmp_lt (tgt := 34) dX11_tries_16 (by decide)) (fun c45 => ?_) (fun c45 => ?_)
    · refine ao_s (st_bipush dX11_tries_34 bp_m2) ?_
      exact ao_ir dX11_tries_36 rfl rfl
    · refine ao_s (st_iload_n dX11_tries_19 rfl rfl) ?_
      refine ao_s (st_bipush dX11_tries_20 bp_30) ?_
      refine ao_br (br_icmp_gt (tgt := 34) dX11_tries_22 (by decide)) (fun c44 => ?_) (fun c44 => ?_)
      · refine ao_s (st_bipush dX11_tries_34 bp_m2) ?_
        exact ao_ir dX11_tries_36 rfl rfl
      · refine ao_s (st_iload_n dX11_tries_25 rfl rfl) ?_
        refine ao_br (br_if_lt (tgt := 34) dX11_tries_26 (by decide)) (fun c43 => ?_) (fun c43 => ?_)
        · refine ao_s (st_bipush dX11_tries_34 bp_m2) ?_
          exact ao_ir dX11_tries_36 rfl rfl
        · refine ao_s (st_iload_n dX11_tries_29 rfl rfl) ?_
          refine ao_s (st_iconst dX11_tries_30 ic_1) ?_
          refine ao_br (br_icmp_le (tgt := 37) dX11_tries_31 (by decide)) (fun c42 => ?_) (fun c42 => ?_)
          · refine ao_s (st_aload_n dX11_tries_37 rfl rfl) ?_
            refine ao_getR dX11_tries_38 fl_X11_82 rfl e21 (fun b28 => ?_)
            refine ao_s (st_aload_n dX11_tries_41 rfl rfl) ?_
            refine ao_getR dX11_tries_42 fl_X11_45 rfl e21 (fun b29 => ?_)
            refine ao_chk (fun e30 => ?_)
            refine ao_getR dX11_tries_45 fl_X11_119 rfl e30 (fun b31 => ?_)
            refine ao_s (st_aload_n dX11_tries_48 rfl rfl) ?_
            refine ao_cVq (Kc := kX11_ruleInForce) (As := []) (st := [.ref b31, .ref b28]) dX11_tries_49 ml_X11_198 mv_X11_ruleInForce rfl e21 (by decide) rfl rfl (Nat.le_of_ble_eq_true rfl) (by decide) (s_X11_ruleInForce h27 a0) (fun r32 h33 => ?_)
            refine ao_s (st_iload_n dX11_tries_52 rfl rfl) ?_
            refine ao_s (st_iload_n dX11_tries_53 rfl rfl) ?_
            refine ao_chk (fun e34 => ?_)
            refine ao_cVv (Kc := kX1_tryAll) (As := [.ref b31, va_rf r32, .int x1, .int x2]) (st := []) dX11_tries_54 ml_X11_258 mv_X1_tryAll rfl e34 (by decide) rfl rfl (Nat.le_of_ble_eq_true rfl) (by decide) (s_X1_tryAll h33 b28 b31 r32 x1 x2) (fun r35 h36 => ?_)
            refine ao_s (st_iload_n dX11_tries_57 rfl rfl) ?_
            refine ao_br (br_if_ne (tgt := 71) dX11_tries_58 (by decide)) (fun c41 => ?_) (fun c41 => ?_)
            · refine ao_s (st_aload_n dX11_tries_61 rfl rfl) ?_
              refine ao_getR dX11_tries_62 fl_X11_82 rfl e21 (fun b37 => ?_)
              refine ao_chk (fun e38 => ?_)
              refine ao_getI dX11_tries_65 fl_X11_262 rfl e38 ?_
              refine ao_s (st_goto 78 dX11_tries_68 (by decide)) ?_
              exact ao_ir dX11_tries_78 rfl rfl
            · refine ao_s (st_aload_n dX11_tries_71 rfl rfl) ?_
              refine ao_getR dX11_tries_72 fl_X11_82 rfl e21 (fun b39 => ?_)
              refine ao_chk (fun e40 => ?_)
              refine ao_getI dX11_tries_75 fl_X11_265 rfl e40 ?_
              exact ao_ir dX11_tries_78 rfl rfl
          · refine ao_s (st_bipush dX11_tries_34 bp_m2) ?_
            exact ao_ir dX11_tries_36 rfl rfl
def b_X11_liked_94 (k36 : aH → Int32 → Nat → Int32 → Int32 → Int32 → Option (Int32 × aH)) (h : aH) (x1 : Int32) (a2 : Nat) (x3 : Int32) (x4 : Int32) (x5 : Int32) : Option (Int32 × aH) :=
k36 h x1 a2 x3 x4 (x5 + 1)
set_option maxHeartbeats 2000000 in
theorem t_X11_liked_94 {k36 : aH → Int32 → Nat → Int32 → Int32 → Int32 → Option (Int32 × aH)} (hk36 : ∀ (h : aH) (x1 : Int32) (a2 : Nat) (x3 : Int32) (x4 : Int32) (x5 : Int32), AO eI 3 kX11_liked 36 [none, some (.int x1), some (.ref a2), some (.int x3), some (.int x4), some (.int x5), none, none] [] h (k36 h x1 a2 x3 x4 x5)) (h : aH) (x1 : Int32) (a2 : Nat) (x3 : Int32) (x4 : Int32) (x5 : Int32) : AO eI 3 kX11_liked 94 [none, some (.int x1), some (.ref a2), some (.int x3), some (.int x4), some (.int x5), none, none] [] h (b_X11_liked_94 k36 h x1 a2 x3 x4 x5) := by
  unfold b_X11_liked_94
  refine ao_s (st_iinc (lv' := [none, some (.int x1), some (.ref a2), some (.int x3), some (.int x4), some (.int (x5 + 1)), none, none]) dX11_liked_94 rfl nc_1 (by decide) rfl) ?_
  refine ao_s (st_goto 36 dX11_liked_97 (by decide)) ?_
  exact ao_w (sb_n (sb_s (sb_s (sb_s (sb_s (sb_s (sb_n (sb_n sb_0)))))))) (hk36 h x1 a2 x3 x4 (x5 + 1))
def b_X11_liked_51 (k36 : aH → Int32 → Nat → Int32 → Int32 → Int32 → Option (Int32 × aH)) (k51 : aH → Int32 → Nat → Int32 → Int32 → Int32 → Int32 → Int32 → Option (Int32 × aH)) (h : aH) (x1 : Int32) (a2 : Nat) (x3 : Int32) (x4 : Int32) (x5 : Int32) (x6 : Int32) (x7 : Int32) : Option (Int32 × aH) :=
(if (sh a2).1 = 15 then
(if hI h a2 4 ≤ x7 then
(if x6 ≤ x4 then
b_X11_liked_94 k36 h x1 a2 x3 x4 x5
else
b_X11_liked_94 k36 h x1 a2 x5 x6 x5)
else
(aBind (f_X8_trueLike h a2 1 x5 x7) fun r23 h24 =>
(aLet (x6 + r23) fun x25 =>
k51 h24 x1 a2 x3 x4 x5 x25 (x7 + 1))))
else none)
set_option maxHeartbeats 2000000 in
theorem t_X11_liked_51 {k36 : aH → Int32 → Nat → Int32 → Int32 → Int32 → Option (Int32 × aH)} (hk36 : ∀ (h : aH) (x1 : Int32) (a2 : Nat) (x3 : Int32) (x4 : Int32) (x5 : Int32), AO eI 3 kX11_liked 36 [none, some (.int x1), some (.ref a2), some (.int x3), some (.int x4), some (.int x5), none, none] [] h (k36 h x1 a2 x3 x4 x5)) {k51 : aH → Int32 → Nat → Int32 → Int32 → Int32 → Int32 → Int32 → Option (Int32 × aH)} (hk51 : ∀ (h : aH) (x1 : Int32) (a2 : Nat) (x3 : Int32) (x4 : Int32) (x5 : Int32) (x6 : Int32) (x7 : Int32), AO eI 3 kX11_liked 51 [none, some (.int x1), some (.ref a2), some (.int x3), some (.int x4), some (.int x5), some (.int x6), some (.int x7)] [] h (k51 h x1 a2 x3 x4 x5 x6 x7)) (h : aH) (x1 : Int32) (a2 : Nat) (x3 : Int32) (x4 : Int32) (x5 : Int32) (x6 : Int32) (x7 : Int32) : AO eI 3 kX11_liked 51 [none, some (.int x1), some (.ref a2), some (.int x3), some (.int x4), some (.int x5), some (.int x6), some (.int x7)] [] h (b_X11_liked_51 k36 k51 h x1 a2 x3 x4 x5 x6 x7) := by
  unfold b_X11_liked_51
  refine ao_s (st_iload dX11_liked_51 rfl) ?_
  refine ao_s (st_aload_n dX11_liked_53 rfl rfl) ?_
  refine ao_chk (fun e21 => ?_)
  refine ao_getI dX11_liked_54 fl_X11_164 rfl e21 ?_
  refine ao_br (br_icmp_ge (tgt := 80) dX11_liked_57 (by decide)) (fun c26 => ?_) (fun c26 => ?_)
  · refine ao_s (st_iload dX11_liked_80 rfl) ?_
    refine ao_s (st_iload dX11_liked_82 rfl) ?_
    refine ao_br (br_icmp_le (tgt := 94) dX11_liked_84 (by decide)) (fun c22 => ?_) (fun c22 => ?_)
    · exact ao_w (sb_n (sb_s (sb_s (sb_s (sb_s (sb_s (sb_n (sb_n sb_0)))))))) (t_X11_liked_94 hk36 h x1 a2 x3 x4 x5)
    · refine ao_s (st_iload dX11_liked_87 rfl) ?_
      refine ao_s (st_istore_n (lv' := [none, some (.int x1), some (.ref a2), some (.int x5), some (.int x4), some (.int x5), some (.int x6), some (.int x7)]) dX11_liked_89 rfl (by decide) rfl) ?_
      refine ao_s (st_iload dX11_liked_90 rfl) ?_
      refine ao_s (st_istore (lv' := [none, some (.int x1), some (.ref a2), some (.int x5), some (.int x6), some (.int x5), some (.int x6), some (.int x7)]) dX11_liked_92 (by decide) rfl) ?_
      exact ao_w (sb_n (sb_s (sb_s (sb_s (sb_s (sb_s (sb_n (sb_n sb_0)))))))) (t_X11_liked_94 hk36 h x1 a2 x5 x6 x5)
  · refine ao_s (st_iload dX11_liked_60 rfl) ?_
    refine ao_s (st_aload_n dX11_liked_62 rfl rfl) ?_
    refine ao_s (st_iconst dX11_liked_63 ic_1) ?_
    refine ao_s (st_iload dX11_liked_64 rfl) ?_
    refine ao_s (st_iload dX11_liked_66 rfl) ?_
    refine ao_cVi (Kc := kX8_trueLike) (As := [.int 1, .int x5, .int x7]) (st := [.int x6]) dX11_liked_68 ml_X11_155 mv_X8_trueLike rfl e21 (by decide) rfl rfl (Nat.le_of_ble_eq_true rfl) (by decide) (s_X8_trueLike h a2 1 x5 x7) (fun r23 h24 => ?_)
    refine ao_s (st_iadd dX11_liked_71) ?_
    refine ao_letI (fun x25 => ?_)
    refine ao_s (st_istore (lv' := [none, some (.int x1), some (.ref a2), some (.int x3), some (.int x4), some (.int x5), some (.int x25), some (.int x7)]) dX11_liked_72 (by decide) rfl) ?_
    refine ao_s (st_iinc (lv' := [none, some (.int x1), some (.ref a2), some (.int x3), some (.int x4), some (.int x5), some (.int x25), some (.int (x7 + 1))]) dX11_liked_74 rfl nc_1 (by decide) rfl) ?_
    refine ao_s (st_goto 51 dX11_liked_77 (by decide)) ?_
    exact ao_w (sb_n (sb_s (sb_s (sb_s (sb_s (sb_s (sb_s (sb_s sb_0)))))))) (hk51 h24 x1 a2 x3 x4 x5 x25 (x7 + 1))
def f_X11_liked_51 (k36 : aH → Int32 → Nat → Int32 → Int32 → Int32 → Option (Int32 × aH)) (n : Nat) : aH → Int32 → Nat → Int32 → Int32 → Int32 → Int32 → Int32 → Option (Int32 × aH) := aIt (fun _ _ _ _ _ _ _ _ => none) (fun k => b_X11_liked_51 k36 k) n
theorem l_X11_liked_51 {k36 : aH → Int32 → Nat → Int32 → Int32 → Int32 → Option (Int32 × aH)} (hk36 : ∀ (h : aH) (x1 : Int32) (a2 : Nat) (x3 : Int32) (x4 : Int32) (x5 : Int32), AO eI 3 kX11_liked 36 [none, some (.int x1), some (.ref a2), some (.int x3), some (.int x4), some (.int x5), none, none] [] h (k36 h x1 a2 x3 x4 x5)) (n : Nat) : ∀ (h : aH) (x1 : Int32) (a2 : Nat) (x3 : Int32) (x4 : Int32) (x5 : Int32) (x6 : Int32) (x7 : Int32), AO eI 3 kX11_liked 51 [none, some (.int x1), some (.ref a2), some (.int x3), some (.int x4), some (.int x5), some (.int x6), some (.int x7)] [] h (f_X11_liked_51 k36 n h x1 a2 x3 x4 x5 x6 x7) := by
  induction n with
  | zero => intros; exact ao_none
  | succ n ih =>
    intro h x1 a2 x3 x4 x5 x6 x7
    exact t_X11_liked_51 hk36 ih h x1 a2 x3 x4 x5 x6 x7
def b_X11_liked_36 (k36 : aH → Int32 → Nat → Int32 → Int32 → Int32 → Option (Int32 × aH)) (h : aH) (x1 : Int32) (a2 : Nat) (x3 : Int32) (x4 : Int32) (x5 : Int32) : Option (Int32 × aH) :=
(if (sh a2).1 = 15 then
(if hI h a2 3 ≤ x5 then
(if x1 = 0 then
some (x3, h)
else
some (x4, h))
else
f_X11_liked_51 k36 2000 h x1 a2 x3 x4 x5 0 0)
else none)
set_option maxHeartbeats 2000000 in
theorem t_X11_liked_36 {k36 : aH → Int32 → Nat → Int32 → Int32 → Int32 → Option (Int32 × aH)} (hk36 : ∀ (h : aH) (x1 : Int32) (a2 : Nat) (x3 : Int32) (x4 : Int32) (x5 : Int32), AO eI 3 kX11_liked 36 [none, some (.int x1), some (.ref a2), some (.int x3), some (.int x4), some (.int x5), none, none] [] h (k36 h x1 a2 x3 x4 x5)) (h : aH) (x1 : Int32) (a2 : Nat) (x3 : Int32) (x4 : Int32) (x5 : Int32) : AO eI 3 kX11_liked 36 [none, some (.int x1), some (.ref a2), some (.int x3), some (.int x4), some (.int x5), none, none] [] h (b_X11_liked_36 k36 h x1 a2 x3 x4 x5) := by
  unfold b_X11_liked_36
  refine ao_s (st_iload dX11_liked_36 rfl) ?_
  refine ao_s (st_aload_n dX11_liked_38 rfl rfl) ?_
  refine ao_chk (fun e21 => ?_)
  refine ao_getI dX11_liked_39 fl_X11_125 rfl e21 ?_
  refine ao_br (br_icmp_ge (tgt := 100) dX11_liked_42 (by decide)) (fun c23 => ?_) (fun c23 => ?_)
  · refine ao_s (st_iload_n dX11_liked_100 rfl rfl) ?_
    refine ao_br (br_if_ne (tgt := 108) dX11_liked_101 (by decide)) (fun c22 => ?_) (fun c22 => ?_)
    · refine ao_s (st_iload_n dX11_liked_104 rfl rfl) ?_
      refine ao_s (st_goto 110 dX11_liked_105 (by decide)) ?_
      exact ao_ir dX11_liked_110 rfl rfl
    · refine ao_s (st_iload dX11_liked_108 rfl) ?_
      exact ao_ir dX11_liked_110 rfl rfl
  · refine ao_s (st_iconst dX11_liked_45 ic_0) ?_
    refine ao_s (st_istore (lv' := [none, some (.int x1), some (.ref a2), some (.int x3), some (.int x4), some (.int x5), some (.int 0), none]) dX11_liked_46 (by decide) rfl) ?_
    refine ao_s (st_iconst dX11_liked_48 ic_0) ?_
    refine ao_s (st_istore (lv' := [none, some (.int x1), some (.ref a2), some (.int x3), some (.int x4), some (.int x5), some (.int 0), some (.int 0)]) dX11_liked_49 (by decide) rfl) ?_
    exact ao_w (sb_n (sb_s (sb_s (sb_s (sb_s (sb_s (sb_s (sb_s sb_0)))))))) (l_X11_liked_51 hk36 2000 h x1 a2 x3 x4 x5 0 0)
def f_X11_liked_36 (n : Nat) : aH → Int32 → Nat → Int32 → Int32 → Int32 → Option (Int32 × aH) := aIt (fun _ _ _ _ _ _ => none) (fun k => b_X11_liked_36 k) n
theorem l_X11_liked_36 (n : Nat) : ∀ (h : aH) (x1 : Int32) (a2 : Nat) (x3 : Int32) (x4 : Int32) (x5 : Int32), AO eI 3 kX11_liked 36 [none, some (.int x1), some (.ref a2), some (.int x3), some (.int x4), some (.int x5), none, none] [] h (f_X11_liked_36 n h x1 a2 x3 x4 x5) := by
  induction n with
  | zero => intros; exact ao_none
  | succ n ih =>
    intro h x1 a2 x3 x4 x5
    exact t_X11_liked_36 ih h x1 a2 x3 x4 x5
def f_X11_liked (h : aH) (a0 : Nat) (x1 : Int32) : Option (Int32 × aH) :=
(if (sh a0).1 = 18 then
((hR h a0 5).bind fun b22 =>
(if (sh b22).1 = 17 then
((hR h b22 1).bind fun b24 =>
(if (sh b24).1 = 15 then
(if hI h b24 0 = 0 then
some ((-1), h)
else
(if x1 < 0 then
some ((-1), h)
else
(if x1 ≤ 1 then
f_X11_liked_36 2000 h x1 b24 (-2) (-2) 0
else
some ((-1), h))))
else none))
else none))
else none)
set_option maxHeartbeats 2000000 in
theorem s_X11_liked (h : aH) (a0 : Nat) (x1 : Int32) : SO eI 3 kX11_liked [.ref a0, .int x1] h (f_X11_liked h a0 x1) := by
  refine so_of (lv0 := [some (.ref a0), some (.int x1), none, none, none, none, none, none]) pn_X11 (Nat.le_of_ble_eq_true rfl) rfl ?_
  unfold f_X11_liked
  refine ao_s (st_aload_n dX11_liked_0 rfl rfl) ?_
  refine ao_chk (fun e21 => ?_)
  refine ao_getR dX11_liked_1 fl_X11_45 rfl e21 (fun b22 => ?_)
  refine ao_chk (fun e23 => ?_)
  refine ao_getR dX11_liked_4 fl_X11_119 rfl e23 (fun b24 => ?_)
  refine ao_s (st_astore_n (lv' := [some (.ref a0), some (.int x1), some (.ref b24), none, none, none, none, none]) dX11_liked_7 rfl (by decide) rfl) ?_
  refine ao_s (st_aload_n dX11_liked_8 rfl rfl) ?_
  refine ao_chk (fun e25 => ?_)
  refine ao_getI dX11_liked_9 fl_X11_191 rfl e25 ?_
  refine ao_br (br_if_eq (tgt := 24) dX11_liked_12 (by decide)) (fun c28 => ?_) (fun c28 => ?_)
  · refine ao_s (st_iconst dX11_liked_24 ic_m1) ?_
    exact ao_ir dX11_liked_25 rfl rfl
  · refine ao_s (st_iload_n dX11_liked_15 rfl rfl) ?_
    refine ao_br (br_if_lt (tgt := 24) dX11_liked_16 (by decide)) (fun c27 => ?_) (fun c27 => ?_)
    · refine ao_s (st_iconst dX11_liked_24 ic_m1) ?_
      exact ao_ir dX11_liked_25 rfl rfl
    · refine ao_s (st_iload_n dX11_liked_19 rfl rfl) ?_
      refine ao_s (st_iconst dX11_liked_20 ic_1) ?_
      refine ao_br (br_icmp_le (tgt := 26) dX11_liked_21 (by decide)) (fun c26 => ?_) (fun c26 => ?_)
      · refine ao_s (st_bipush dX11_liked_26 bp_m2) ?_
        refine ao_s (st_istore_n (lv' := [some (.ref a0), some (.int x1), some (.ref b24), some (.int (-2)), none, none, none, none]) dX11_liked_28 rfl (by decide) rfl) ?_
        refine ao_s (st_bipush dX11_liked_29 bp_m2) ?_
        refine ao_s (st_istore (lv' := [some (.ref a0), some (.int x1), some (.ref b24), some (.int (-2)), some (.int (-2)), none, none, none]) dX11_liked_31 (by decide) rfl) ?_
        refine ao_s (st_iconst dX11_liked_33 ic_0) ?_
        refine ao_s (st_istore (lv' := [some (.ref a0), some (.int x1), some (.ref b24), some (.int (-2)), some (.int (-2)), some (.int 0), none, none]) dX11_liked_34 (by decide) rfl) ?_
        exact ao_w (sb_n (sb_s (sb_s (sb_s (sb_s (sb_s (sb_n (sb_n sb_0)))))))) (l_X11_liked_36 2000 h x1 b24 (-2) (-2) 0)
      · refine ao_s (st_iconst dX11_liked_24 ic_m1) ?_
        exact ao_ir dX11_liked_25 rfl rfl
