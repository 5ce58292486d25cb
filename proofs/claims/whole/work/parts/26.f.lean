def f_J13_bitCount_95d88 (h : aH) (x0 : Int64) : Option (Int32 × aH) :=
(aLet (x0 - (((x0.toUInt64 >>> ((1 : Int32).toInt64.toUInt64 &&& Int64.toUInt64 63)).toInt64) &&& 6148914691236517205)) fun x21 =>
(aLet ((x21 &&& 3689348814741910323) + (((x21.toUInt64 >>> ((2 : Int32).toInt64.toUInt64 &&& Int64.toUInt64 63)).toInt64) &&& 3689348814741910323)) fun x22 =>
(aLet ((x22 + ((x22.toUInt64 >>> ((4 : Int32).toInt64.toUInt64 &&& Int64.toUInt64 63)).toInt64)) &&& 1085102592571150095) fun x23 =>
(aLet (x23 + ((x23.toUInt64 >>> ((8 : Int32).toInt64.toUInt64 &&& Int64.toUInt64 63)).toInt64)) fun x24 =>
(aLet (x24 + ((x24.toUInt64 >>> ((16 : Int32).toInt64.toUInt64 &&& Int64.toUInt64 63)).toInt64)) fun x25 =>
(aLet (x25 + ((x25.toUInt64 >>> ((32 : Int32).toInt64.toUInt64 &&& Int64.toUInt64 63)).toInt64)) fun x26 =>
some (x26.toInt32 &&& 127, h)))))))
set_option maxHeartbeats 2000000 in
theorem s_J13_bitCount_95d88 (h : aH) (x0 : Int64) : SO eI 2 kJ13_bitCount_95d88 [.long x0] h (f_J13_bitCount_95d88 h x0) := by
  refine so_of (lv0 := [some (.long x0), none]) pn_J13 (Nat.le_of_ble_eq_true rfl) rfl ?_
  unfold f_J13_bitCount_95d88
  refine ao_s (st_lload_n dJ13_bitCount_95d88_0 rfl rfl) ?_
  refine ao_s (st_lload_n dJ13_bitCount_95d88_1 rfl rfl) ?_
  refine ao_s (st_iconst dJ13_bitCount_95d88_2 ic_1) ?_
  refine ao_s (st_lushr dJ13_bitCount_95d88_3) ?_
  refine ao_s (st_ldc2 dJ13_bitCount_95d88_4 cl_J13_314) ?_
  refine ao_s (st_land dJ13_bitCount_95d88_7) ?_
  refine ao_s (st_lsub dJ13_bitCount_95d88_8) ?_
  refine ao_letL (fun x21 => ?_)
  refine ao_s (st_lstore_n (lv' := [some (.long x21), none]) dJ13_bitCount_95d88_9 rfl (by decide) rfl) ?_
  refine ao_s (st_lload_n dJ13_bitCount_95d88_10 rfl rfl) ?_
  refine ao_s (st_ldc2 dJ13_bitCount_95d88_11 cl_J13_316) ?_
  refine ao_s (st_land dJ13_bitCount_95d88_14) ?_
  refine ao_s (st_lload_n dJ13_bitCount_95d88_15 rfl rfl) ?_
  refine ao_s (st_iconst dJ13_bitCount_95d88_16 ic_2) ?_
  refine ao_s (st_lushr dJ13_bitCount_95d88_17) ?_
  refine ao_s (st_ldc2 dJ13_bitCount_95d88_18 cl_J13_316) ?_
  refine ao_s (st_land dJ13_bitCount_95d88_21) ?_
  refine ao_s (st_ladd dJ13_bitCount_95d88_22) ?_
  refine ao_letL (fun x22 => ?_)
  refine ao_s (st_lstore_n (lv' := [some (.long x22), none]) dJ13_bitCount_95d88_23 rfl (by decide) rfl) ?_
  refine ao_s (st_lload_n dJ13_bitCount_95d88_24 rfl rfl) ?_
  refine ao_s (st_lload_n dJ13_bitCount_95d88_25 rfl rfl) ?_
  refine ao_s (st_iconst dJ13_bitCount_95d88_26 ic_4) ?_
  refine ao_s (st_lushr dJ13_bitCount_95d88_27) ?_
  refine ao_s (st_ladd dJ13_bitCount_95d88_28) ?_
  refine ao_s (st_ldc2 dJ13_bitCount_95d88_29 cl_J13_318) ?_
  refine ao_s (st_land dJ13_bitCount_95d88_32) ?_
  refine ao_letL (fun x23 => ?_)
  refine ao_s (st_lstore_n (lv' := [some (.long x23), none]) dJ13_bitCount_95d88_33 rfl (by decide) rfl) ?_
  refine ao_s (st_lload_n dJ13_bitCount_95d88_34 rfl rfl) ?_
  refine ao_s (st_lload_n dJ13_bitCount_95d88_35 rfl rfl) ?_
  refine ao_s (st_bipush dJ13_bitCount_95d88_36 bp_8) ?_
  refine ao_s (st_lushr dJ13_bitCount_95d88_38) ?_
  refine ao_s (st_ladd dJ13_bitCount_95d88_39) ?_
  refine ao_letL (fun x24 => ?_)
  refine ao_s (st_lstore_n (lv' := [some (.long x24), none]) dJ13_bitCount_95d88_40 rfl (by decide) rfl) ?_
  refine ao_s (st_lload_n dJ13_bitCount_95d88_41 rfl rfl) ?_
  refine ao_s (st_lload_n dJ13_bitCount_95d88_42 rfl rfl) ?_
  refine ao_s (st_bipush dJ13_bitCount_95d88_43 bp_16) ?_
  refine ao_s (st_lushr dJ13_bitCount_95d88_45) ?_
  refine ao_s (st_ladd dJ13_bitCount_95d88_46) ?_
  refine ao_letL (fun x25 => ?_)
  refine ao_s (st_lstore_n (lv' := [some (.long x25), none]) dJ13_bitCount_95d88_47 rfl (by decide) rfl) ?_
  refine ao_s (st_lload_n dJ13_bitCount_95d88_48 rfl rfl) ?_
  refine ao_s (st_lload_n dJ13_bitCount_95d88_49 rfl rfl) ?_
  refine ao_s (st_bipush dJ13_bitCount_95d88_50 bp_32) ?_
  refine ao_s (st_lushr dJ13_bitCount_95d88_52) ?_
  refine ao_s (st_ladd dJ13_bitCount_95d88_53) ?_
  refine ao_letL (fun x26 => ?_)
  refine ao_s (st_lstore_n (lv' := [some (.long x26), none]) dJ13_bitCount_95d88_54 rfl (by decide) rfl) ?_
  refine ao_s (st_lload_n dJ13_bitCount_95d88_55 rfl rfl) ?_
  refine ao_s (st_l2i dJ13_bitCount_95d88_56) ?_
  refine ao_s (st_bipush dJ13_bitCount_95d88_57 bp_127) ?_
  refine ao_s (st_iand dJ13_bitCount_95d88_59) ?_
  exact ao_ir dJ13_bitCount_95d88_60 rfl rfl
def f_X11_count (h : aH) (a0 : Nat) (x1 : Int32) : Option (Int32 × aH) :=
(if (sh a0).1 = 18 then
((hR h a0 5).bind fun b22 =>
(if (sh b22).1 = 17 then
((hR h b22 1).bind fun b24 =>
(if x1 = 0 then
(if (sh b24).1 = 15 then
some (hI h b24 1, h)
else none)
else
(if x1 = 1 then
(if (sh b24).1 = 15 then
some (hI h b24 2, h)
else none)
else
(if x1 = 2 then
(if (sh b24).1 = 15 then
some (hI h b24 3, h)
else none)
else
(if x1 = 3 then
(if (sh b24).1 = 15 then
some (hI h b24 4, h)
else none)
else
(if x1 = 4 then
some (hI h a0 4, h)
else
(if x1 = 5 then
((hR h a0 5).bind fun b44 =>
(if (sh b44).1 = 17 then
some (hI h b44 6, h)
else none))
else
(if x1 = 6 then
(if (sh b24).1 = 15 then
some (hI h b24 5, h)
else none)
else
(if x1 = 7 then
(if (sh b24).1 = 15 then
(aBind (f_X8_joinedBits h b24 0 (hI h b24 3)) fun r48 h49 =>
some (r48, h49))
else none)
else
(if x1 = 8 then
(if (sh b24).1 = 15 then
(aBind (f_X8_joinedBits h b24 1 (hI h b24 4)) fun r51 h52 =>
some (r51, h52))
else none)
else
(if x1 = 9 then
(if (sh b24).1 = 15 then
(aBind (f_X8_isLate h b24) fun r54 h55 =>
(if r54 = 0 then
some (0, h55)
else
some (1, h55)))
else none)
else
(if x1 = 10 then
(if (sh b24).1 = 15 then
(aBind (f_J13_bitCount_95d88 h (hL h b24 6)) fun r58 h59 =>
some (r58, h59))
else none)
else
(if x1 = 11 then
((hR h a0 5).bind fun b60 =>
(if (sh b60).1 = 17 then
some (hI h b60 5, h)
else none))
else
(if x1 = 12 then
some (hI h a0 9, h)
else
(if x1 = 13 then
((hR h a0 5).bind fun b62 =>
(if (sh b62).1 = 17 then
some (hI h b62 7, h)
else none))
else
(if x1 = 14 then
((hR h a0 0).bind fun b64 =>
(if (sh b64).1 = 16 then
some (hI h b64 1, h)
else none))
else
some ((-1), h)))))))))))))))))
else none))
else none)
set_option maxHeartbeats 2000000 in
theorem s_X11_count (h : aH) (a0 : Nat) (x1 : Int32) : SO eI 4 kX11_count [.ref a0, .int x1] h (f_X11_count h a0 x1) := by
  refine so_of (lv0 := [some (.ref a0), some (.int x1), none]) pn_X11 (Nat.le_of_ble_eq_true rfl) rfl ?_
  unfold f_X11_count
  refine ao_s (st_aload_n dX11_count_0 rfl rfl) ?_
  refine ao_chk (fun e21 => ?_)
  refine ao_getR dX11_count_1 fl_X11_45 rfl e21 (fun b22 => ?_)
  refine ao_chk (fun e23 => ?_)
  refine ao_getR dX11_count_4 fl_X11_119 rfl e23 (fun b24 => ?_)
  refine ao_s (st_astore_n (lv' := [some (.ref a0), some (.int x1), some (.ref b24)]) dX11_count_7 rfl (by decide) rfl) ?_
  refine ao_s (st_iload_n dX11_count_8 rfl rfl) ?_
  refine ao_ite (fun c25 => ?_) (fun c25 => ?_)
  · refine ao_s (st_tabIn (v := 0) (off := 75) (tgt := 84) c25 dX11_count_9 (by decide) (by decide)) ?_
    refine ao_s (st_aload_n dX11_count_84 rfl rfl) ?_
    refine ao_chk (fun e40 => ?_)
    refine ao_getI dX11_count_85 fl_X11_158 rfl e40 ?_
    exact ao_ir dX11_count_88 rfl rfl
  · refine ao_ite (fun c26 => ?_) (fun c26 => ?_)
    · refine ao_s (st_tabIn (v := 1) (off := 80) (tgt := 89) c26 dX11_count_9 (by decide) (by decide)) ?_
      refine ao_s (st_aload_n dX11_count_89 rfl rfl) ?_
      refine ao_chk (fun e41 => ?_)
      refine ao_getI dX11_count_90 fl_X11_161 rfl e41 ?_
      exact ao_ir dX11_count_93 rfl rfl
    · refine ao_ite (fun c27 => ?_) (fun c27 => ?_)
      · refine ao_s (st_tabIn (v := 2) (off := 85) (tgt := 94) c27 dX11_count_9 (by decide) (by decide)) ?_
        refine ao_s (st_aload_n dX11_count_94 rfl rfl) ?_
        refine ao_chk (fun e42 => ?_)
        refine ao_getI dX11_count_95 fl_X11_125 rfl e42 ?_
        exact ao_ir dX11_count_98 rfl rfl
      · refine ao_ite (fun c28 => ?_) (fun c28 => ?_)
        · refine ao_s (st_tabIn (v := 3) (off := 90) (tgt := 99) c28 dX11_count_9 (by decide) (by decide)) ?_
          refine ao_s (st_aload_n dX11_count_99 rfl rfl) ?_
          refine ao_chk (fun e43 => ?_)
          refine ao_getI dX11_count_100 fl_X11_164 rfl e43 ?_
          exact ao_ir dX11_count_103 rfl rfl
        · refine ao_ite (fun c29 => ?_) (fun c29 => ?_)
          · refine ao_s (st_tabIn (v := 4) (off := 95) (tgt := 104) c29 dX11_count_9 (by decide) (by decide)) ?_
            refine ao_s (st_aload_n dX11_count_104 rfl rfl) ?_
            refine ao_getI dX11_count_105 fl_X11_38 rfl e21 ?_
            exact ao_ir dX11_count_108 rfl rfl
          · refine ao_ite (fun c30 => ?_) (fun c30 => ?_)
            · refine ao_s (st_tabIn (v := 5) (off := 100) (tgt := 109) c30 dX11_count_9 (by decide) (by decide)) ?_
              refine ao_s (st_aload_n dX11_count_109 rfl rfl) ?_
              refine ao_getR dX11_count_110 fl_X11_45 rfl e21 (fun b44 => ?_)
              refine ao_chk (fun e45 => ?_)
              refine ao_getI dX11_count_113 fl_X11_135 rfl e45 ?_
              exact ao_ir dX11_count_116 rfl rfl
            · refine ao_ite (fun c31 => ?_) (fun c31 => ?_)
              · refine ao_s (st_tabIn (v := 6) (off := 108) (tgt := 117) c31 dX11_count_9 (by decide) (by decide)) ?_
                refine ao_s (st_aload_n dX11_count_117 rfl rfl) ?_
                refine ao_chk (fun e46 => ?_)
                refine ao_getI dX11_count_118 fl_X11_167 rfl e46 ?_
                exact ao_ir dX11_count_121 rfl rfl
              · refine ao_ite (fun c32 => ?_) (fun c32 => ?_)
                · refine ao_s (st_tabIn (v := 7) (off := 113) (tgt := 122) c32 dX11_count_9 (by decide) (by decide)) ?_
                  refine ao_s (st_aload_n dX11_count_122 rfl rfl) ?_
                  refine ao_s (st_iconst dX11_count_123 ic_0) ?_
                  refine ao_s (st_aload_n dX11_count_124 rfl rfl) ?_
                  refine ao_chk (fun e47 => ?_)
                  refine ao_getI dX11_count_125 fl_X11_125 rfl e47 ?_
                  refine ao_cVi (Kc := kX8_joinedBits) (As := [.int 0, .int (hI h b24 3)]) (st := []) dX11_count_128 ml_X11_170 mv_X8_joinedBits rfl e47 (by decide) rfl rfl (Nat.le_of_ble_eq_true rfl) (by decide) (s_X8_joinedBits h b24 0 (hI h b24 3)) (fun r48 h49 => ?_)
                  exact ao_ir dX11_count_131 rfl rfl
                · refine ao_ite (fun c33 => ?_) (fun c33 => ?_)
                  · refine ao_s (st_tabIn (v := 8) (off := 123) (tgt := 132) c33 dX11_count_9 (by decide) (by decide)) ?_
                    refine ao_s (st_aload_n dX11_count_132 rfl rfl) ?_
                    refine ao_s (st_iconst dX11_count_133 ic_1) ?_
                    refine ao_s (st_aload_n dX11_count_134 rfl rfl) ?_
                    refine ao_chk (fun e50 => ?_)
                    refine ao_getI dX11_count_135 fl_X11_164 rfl e50 ?_
                    refine ao_cVi (Kc := kX8_joinedBits) (As := [.int 1, .int (hI h b24 4)]) (st := []) dX11_count_138 ml_X11_170 mv_X8_joinedBits rfl e50 (by decide) rfl rfl (Nat.le_of_ble_eq_true rfl) (by decide) (s_X8_joinedBits h b24 1 (hI h b24 4)) (fun r51 h52 => ?_)
                    exact ao_ir dX11_count_141 rfl rfl
                  · refine ao_ite (fun c34 => ?_) (fun c34 => ?_)
                    · refine ao_s (st_tabIn (v := 9) (off := 133) (tgt := 142) c34 dX11_count_9 (by decide) (by decide)) ?_
                      refine ao_s (st_aload_n dX11_count_142 rfl rfl) ?_
                      refine ao_chk (fun e53 => ?_)
                      refine ao_cVi (Kc := kX8_isLate) (As := []) (st := []) dX11_count_143 ml_X11_174 mv_X8_isLate rfl e53 (by decide) rfl rfl (Nat.le_of_ble_eq_true rfl) (by decide) (s_X8_isLate h b24) (fun r54 h55 => ?_)
                      refine ao_br (br_if_eq (tgt := 153) dX11_count_146 (by decide)) (fun c56 => ?_) (fun c56 => ?_)
                      · refine ao_s (st_iconst dX11_count_153 ic_0) ?_
                        exact ao_ir dX11_count_154 rfl rfl
                      · refine ao_s (st_iconst dX11_count_149 ic_1) ?_
                        refine ao_s (st_goto 154 dX11_count_150 (by decide)) ?_
                        exact ao_ir dX11_count_154 rfl rfl
                    · refine ao_ite (fun c35 => ?_) (fun c35 => ?_)
                      · refine ao_s (st_tabIn (v := 10) (off := 146) (tgt := 155) c35 dX11_count_9 (by decide) (by decide)) ?_
                        refine ao_s (st_aload_n dX11_count_155 rfl rfl) ?_
                        refine ao_chk (fun e57 => ?_)
                        refine ao_getL dX11_count_156 fl_X11_178 rfl e57 ?_
                        refine ao_cSi (Kc := kJ13_bitCount_95d88) (As := [.long (hL h b24 6)]) (st := []) dX11_count_159 ml_X11_182 ms_J13_bitCount_95d88 rfl rfl (Nat.le_of_ble_eq_true rfl) (by decide) (s_J13_bitCount_95d88 h (hL h b24 6)) (fun r58 h59 => ?_)
                        exact ao_ir dX11_count_162 rfl rfl
                      · refine ao_ite (fun c36 => ?_) (fun c36 => ?_)
                        · refine ao_s (st_tabIn (v := 11) (off := 154) (tgt := 163) c36 dX11_count_9 (by decide) (by decide)) ?_
                          refine ao_s (st_aload_n dX11_count_163 rfl rfl) ?_
                          refine ao_getR dX11_count_164 fl_X11_45 rfl e21 (fun b60 => ?_)
                          refine ao_chk (fun e61 => ?_)
                          refine ao_getI dX11_count_167 fl_X11_122 rfl e61 ?_
                          exact ao_ir dX11_count_170 rfl rfl
                        · refine ao_ite (fun c37 => ?_) (fun c37 => ?_)
                          · refine ao_s (st_tabIn (v := 12) (off := 162) (tgt := 171) c37 dX11_count_9 (by decide) (by decide)) ?_
                            refine ao_s (st_aload_n dX11_count_171 rfl rfl) ?_
                            refine ao_getI dX11_count_172 fl_X11_62 rfl e21 ?_
                            exact ao_ir dX11_count_175 rfl rfl
                          · refine ao_ite (fun c38 => ?_) (fun c38 => ?_)
                            · refine ao_s (st_tabIn (v := 13) (off := 167) (tgt := 176) c38 dX11_count_9 (by decide) (by decide)) ?_
                              refine ao_s (st_aload_n dX11_count_176 rfl rfl) ?_
                              refine ao_getR dX11_count_177 fl_X11_45 rfl e21 (fun b62 => ?_)
                              refine ao_chk (fun e63 => ?_)
                              refine ao_getI dX11_count_180 fl_X11_188 rfl e63 ?_
                              exact ao_ir dX11_count_183 rfl rfl
                            · refine ao_ite (fun c39 => ?_) (fun c39 => ?_)
                              · refine ao_s (st_tabIn (v := 14) (off := 175) (tgt := 184) c39 dX11_count_9 (by decide) (by decide)) ?_
                                refine ao_s (st_aload_n dX11_count_184 rfl rfl) ?_
                                refine ao_getR dX11_count_185 fl_X11_12 rfl e21 (fun b64 => ?_)
                                refine ao_chk (fun e65 => ?_)
                                refine ao_getI dX11_count_188 fl_X11_101 rfl e65 ?_
                                exact ao_ir dX11_count_191 rfl rfl
                              · refine ao_s (st_tabOut (tgt := 192) dX11_count_9 (by have q0 := lv_neT c25 (show (0 : Int32).toInt = 0 by decide); have q1 := lv_neT c26 (show (1 : Int32).toInt = 1 by decide); have q2 := lv_neT c27 (show (2 : Int32).toInt = 2 by decide); have q3 := lv_neT c28 (show (3 : Int32).toInt = 3 by decide); have q4 := lv_neT c29 (show (4 : Int32).toInt = 4 by decide); have q5 := lv_neT c30 (show (5 : Int32).toInt = 5 by decide); have q6 := lv_neT c31 (show (6 : Int32).toInt = 6 by decide); have q7 := lv_neT c32 (show (7 : Int32).toInt = 7 by decide); have q8 := lv_neT c33 (show (8 : Int32).toInt = 8 by decide); have q9 := lv_neT c34 (show (9 : Int32).toInt = 9 by decide); have q10 := lv_neT c35 (show (10 : Int32).toInt = 10 by decide); have q11 := lv_neT c36 (show (11 : Int32).toInt = 11 by decide); have q12 := lv_neT c37 (show (12 : Int32).toInt = 12 by decide); have q13 := lv_neT c38 (show (13 : Int32).toInt = 13 by decide); have q14 := lv_neT c39 (show (14 : Int32).toInt = 14 by decide); omega) (by decide)) ?_
                                refine ao_s (st_iconst dX11_count_192 ic_m1) ?_
                                exact ao_ir dX11_count_193 rfl rfl
def f_X11_remember (h : aH) (a0 : Nat) : Option (Unit × aH) :=
(if (sh a0).1 = 18 then
((hR h a0 7).bind fun b22 =>
(aLet (hI h a0 8) fun x23 =>
(if (sh b22).1 = 5 then
(if aIn x23 (sh b22).2 then (hR h b22 x23.toNatClampNeg).bind fun b25 =>
((hR h a0 5).bind fun b26 =>
(if (sh b26).1 = 17 then
((hR h b26 1).bind fun b28 =>
(if (sh b25).1 = 15 then
(aBind (f_X8_copyFrom h b25 b28) fun r30 h31 =>
(aLet (pI h31 a0 8 (((hI h31 a0 8) + 1) - ((hI h31 a0 8) + 1) / 20 * 20)) fun h32 =>
(aLet ((hI h32 a0 9) + 1) fun x33 =>
(aLet (pI h32 a0 9 (if 20 < x33 then 20 else x33)) fun h34 =>
some ((), h34)))))
else none))
else none))
else none)
else none)))
else none)
set_option maxHeartbeats 2000000 in
theorem s_X11_remember (h : aH) (a0 : Nat) : SO eV 3 kX11_remember [.ref a0] h (f_X11_remember h a0) := by
  refine so_of (lv0 := [some (.ref a0)]) pn_X11 (Nat.le_of_ble_eq_true rfl) rfl ?_
  unfold f_X11_remember
  refine ao_s (st_aload_n dX11_remember_0 rfl rfl) ?_
  refine ao_chk (fun e21 => ?_)
  refine ao_getR dX11_remember_1 fl_X11_55 rfl e21 (fun b22 => ?_)
  refine ao_s (st_aload_n dX11_remember_4 rfl rfl) ?_
  refine ao_getI dX11_remember_5 fl_X11_59 rfl e21 ?_
  refine ao_letI (fun x23 => ?_)
  refine ao_chk (fun e24 => ?_)
  refine ao_aald5 dX11_remember_8 e24 (fun b25 => ?_)
  refine ao_s (st_aload_n dX11_remember_9 rfl rfl) ?_
  refine ao_getR dX11_remember_10 fl_X11_45 rfl e21 (fun b26 => ?_)
  refine ao_chk (fun e27 => ?_)
  refine ao_getR dX11_remember_13 fl_X11_119 rfl e27 (fun b28 => ?_)
  refine ao_chk (fun e29 => ?_)
  refine ao_cVv (Kc := kX8_copyFrom) (As := [.ref b28]) (st := []) dX11_remember_16 ml_X11_115 mv_X8_copyFrom rfl e29 (by decide) rfl rfl (Nat.le_of_ble_eq_true rfl) (by decide) (s_X8_copyFrom h b25 b28) (fun r30 h31 => ?_)
  refine ao_s (st_aload_n dX11_remember_19 rfl rfl) ?_
  refine ao_s (st_aload_n dX11_remember_20 rfl rfl) ?_
  refine ao_getI dX11_remember_21 fl_X11_59 rfl e21 ?_
  refine ao_s (st_iconst dX11_remember_24 ic_1) ?_
  refine ao_s (st_iadd dX11_remember_25) ?_
  refine ao_s (st_bipush dX11_remember_26 bp_20) ?_
  refine ao_s (st_irem dX11_remember_28 (by decide)) ?_
  refine ao_putI dX11_remember_29 fl_X11_59 rfl rfl rfl rfl e21 ?_
  refine ao_letH (fun h32 => ?_)
  refine ao_s (st_aload_n dX11_remember_32 rfl rfl) ?_
  refine ao_s (st_aload_n dX11_remember_33 rfl rfl) ?_
  refine ao_getI dX11_remember_34 fl_X11_62 rfl e21 ?_
  refine ao_s (st_iconst dX11_remember_37 ic_1) ?_
  refine ao_s (st_iadd dX11_remember_38) ?_
  refine ao_s (st_bipush dX11_remember_39 bp_20) ?_
  refine ao_let2 (fun x33 => ?_)
  refine ao_mmin dX11_remember_41 ml_X11_220 (Nat.le_of_ble_eq_true rfl) (by decide) ?_
  refine ao_putI dX11_remember_44 fl_X11_62 rfl rfl rfl rfl e21 ?_
  refine ao_letH (fun h34 => ?_)
  exact ao_vr dX11_remember_47 rfl
def f_X11_fair (h : aH) (a0 : Nat) : Option (Int32 × aH) :=
(if (sh a0).1 = 18 then
((hR h a0 5).bind fun b22 =>
(if (sh b22).1 = 17 then
((hR h b22 1).bind fun b24 =>
(if (sh b24).1 = 15 then
(if hI h b24 0 = 0 then
some ((-1), h)
else
(if hI h b24 5 < 999 then
(aBind (f_X11_remember h a0) fun r26 h27 =>
((hR h27 a0 11).bind fun b28 =>
(aBind (f_X11_ruleInForce h27 a0) fun r29 h30 =>
(aBind (f_X8_isLate h30 b24) fun r31 h32 =>
(if (sh b28).1 = 7 then
(aBind (f_X0_pass h32 b28 b24 r29 r31) fun r34 h35 =>
some (r34, h35))
else none)))))
else
some ((-1), h)))
else none))
else none))
else none)
set_option maxHeartbeats 2000000 in
theorem s_X11_fair (h : aH) (a0 : Nat) : SO eI 7 kX11_fair [.ref a0] h (f_X11_fair h a0) := by
  refine so_of (lv0 := [some (.ref a0), none]) pn_X11 (Nat.le_of_ble_eq_true rfl) rfl ?_
  unfold f_X11_fair
  refine ao_s (st_aload_n dX11_fair_0 rfl rfl) ?_
  refine ao_chk (fun e21 => ?_)
  refine ao_getR dX11_fair_1 fl_X11_45 rfl e21 (fun b22 => ?_)
  refine ao_chk (fun e23 => ?_)
  refine ao_getR dX11_fair_4 fl_X11_119 rfl e23 (fun b24 => ?_)
  refine ao_s (st_astore_n (lv' := [some (.ref a0), some (.ref b24)]) dX11_fair_7 rfl (by decide) rfl) ?_
  refine ao_s (st_aload_n dX11_fair_8 rfl rfl) ?_
  refine ao_chk (fun e25 => ?_)
  refine ao_getI dX11_fair_9 fl_X11_191 rfl e25 ?_
  refine ao_br (br_if_eq (tgt := 25) dX11_fair_12 (by decide)) (fun c37 => ?_) (fun c37 => ?_)
  · refine ao_s (st_iconst dX11_fair_25 ic_m1) ?_
    exact ao_ir dX11_fair_26 rfl rfl
  · refine ao_s (st_aload_n dX11_fair_15 rfl rfl) ?_
    refine ao_getI dX11_fair_16 fl_X11_167 rfl e25 ?_
    refine ao_s (st_sipush dX11_fair_19 sp_999) ?_
    refine ao_br (br_icmp_lt (tgt := 27) dX11_fair_22 (by decide)) (fun c36 => ?_) (fun c36 => ?_)
    · refine ao_s (st_aload_n dX11_fair_27 rfl rfl) ?_
      refine ao_cVv (Kc := kX11_remember) (As := []) (st := []) dX11_fair_28 ml_X11_195 mv_X11_remember rfl e21 (by decide) rfl rfl (Nat.le_of_ble_eq_true rfl) (by decide) (s_X11_remember h a0) (fun r26 h27 => ?_)
      refine ao_s (st_aload_n dX11_fair_31 rfl rfl) ?_
      refine ao_getR dX11_fair_32 fl_X11_73 rfl e21 (fun b28 => ?_)
      refine ao_s (st_aload_n dX11_fair_35 rfl rfl) ?_
      refine ao_s (st_aload_n dX11_fair_36 rfl rfl) ?_
      refine ao_cVq (Kc := kX11_ruleInForce) (As := []) (st := [.ref b24, .ref b28]) dX11_fair_37 ml_X11_198 mv_X11_ruleInForce rfl e21 (by decide) rfl rfl (Nat.le_of_ble_eq_true rfl) (by decide) (s_X11_ruleInForce h27 a0) (fun r29 h30 => ?_)
      refine ao_s (st_aload_n dX11_fair_40 rfl rfl) ?_
      refine ao_cVi (Kc := kX8_isLate) (As := []) (st := [va_rf r29, .ref b24, .ref b28]) dX11_fair_41 ml_X11_174 mv_X8_isLate rfl e25 (by decide) rfl rfl (by simp [aEn, aEnt, aCatN, aCatR, aCatQ, aCatL]) (by decide) (s_X8_isLate h30 b24) (fun r31 h32 => ?_)
      refine ao_chk (fun e33 => ?_)
      refine ao_cVi (Kc := kX0_pass) (As := [.ref b24, va_rf r29, .int r31]) (st := []) dX11_fair_44 ml_X11_202 mv_X0_pass rfl e33 (by decide) rfl rfl (Nat.le_of_ble_eq_true rfl) (by decide) (s_X0_pass h32 b28 b24 r29 r31) (fun r34 h35 => ?_)
      exact ao_ir dX11_fair_47 rfl rfl
    · refine ao_s (st_iconst dX11_fair_25 ic_m1) ?_
      exact ao_ir dX11_fair_26 rfl rfl
def f_X11_join (h : aH) (a0 : Nat) (x1 : Int32) (x2 : Int32) : Option (Int32 × aH) :=
(if (sh a0).1 = 18 then
((hR h a0 5).bind fun b22 =>
(if (sh b22).1 = 17 then
((hR h b22 1).bind fun b24 =>
(if (sh b24).1 = 15 then
(aBind (f_X8_hasEast h b24 x1) fun r26 h27 =>
(if r26 = 0 then
some ((-1), h27)
else
(aBind (f_X8_hasWest h27 b24 x2) fun r28 h29 =>
(if r28 = 0 then
some ((-1), h29)
else
(aBind (f_X8_couldJoin h29 b24 x1 x2) fun r30 h31 =>
(if r30 = 0 then
some ((-1), h31)
else
(aBind (f_X11_remember h31 a0) fun r32 h33 =>
(aBind (f_X8_joinTwo h33 b24 x1 x2) fun r34 h35 =>
some (r34, h35)))))))))
else none))
else none))
else none)
set_option maxHeartbeats 2000000 in
theorem s_X11_join (h : aH) (a0 : Nat) (x1 : Int32) (x2 : Int32) : SO eI 5 kX11_join [.ref a0, .int x1, .int x2] h (f_X11_join h a0 x1 x2) := by
  refine so_of (lv0 := [some (.ref a0), some (.int x1), some (.int x2), none]) pn_X11 (Nat.le_of_ble_eq_true rfl) rfl ?_
  unfold f_X11_join
  refine ao_s (st_aload_n dX11_join_0 rfl rfl) ?_
  refine ao_chk (fun e21 => ?_)
  refine ao_getR dX11_join_1 fl_X11_45 rfl e21 (fun b22 => ?_)
  refine ao_chk (fun e23 => ?_)
  refine ao_getR dX11_join_4 fl_X11_119 rfl e23 (fun b24 => ?_)
  refine ao_s (st_astore_n (lv' := [some (.ref a0), some (.int x1), some (.int x2), some (.ref b24)]) dX11_join_7 rfl (by decide) rfl) ?_
  refine ao_s (st_aload_n dX11_join_8 rfl rfl) ?_
  refine ao_s (st_iload_n dX11_join_9 rfl rfl) ?_
  refine ao_chk (fun e25 => ?_)
  refine ao_cVi (Kc := kX8_hasEast) (As := [.int x1]) (st := []) dX11_join_10 ml_X11_142 mv_X8_hasEast rfl e25 (by decide) rfl rfl (Nat.le_of_ble_eq_true rfl) (by decide) (s_X8_hasEast h b24 x1) (fun r26 h27 => ?_)
  refine ao_br (br_if_eq (tgt := 33) dX11_join_13 (by decide)) (fun c38 => ?_) (fun c38 => ?_)
  · refine ao_s (st_iconst dX11_join_33 ic_m1) ?_
    exact ao_ir dX11_join_34 rfl rfl
  · refine ao_s (st_aload_n dX11_join_16 rfl rfl) ?_
    refine ao_s (st_iload_n dX11_join_17 rfl rfl) ?_
    refine ao_cVi (Kc := kX8_hasWest) (As := [.int x2]) (st := []) dX11_join_18 ml_X11_149 mv_X8_hasWest rfl e25 (by decide) rfl rfl (Nat.le_of_ble_eq_true rfl) (by decide) (s_X8_hasWest h27 b24 x2) (fun r28 h29 => ?_)
    refine ao_br (br_if_eq (tgt := 33) dX11_join_21 (by decide)) (fun c37 => ?_) (fun c37 => ?_)
    · refine ao_s (st_iconst dX11_join_33 ic_m1) ?_
      exact ao_ir dX11_join_34 rfl rfl
    · refine ao_s (st_aload_n dX11_join_24 rfl rfl) ?_
      refine ao_s (st_iload_n dX11_join_25 rfl rfl) ?_
      refine ao_s (st_iload_n dX11_join_26 rfl rfl) ?_
      refine ao_cVi (Kc := kX8_couldJoin) (As := [.int x1, .int x2]) (st := []) dX11_join_27 ml_X11_206 mv_X8_couldJoin rfl e25 (by decide) rfl rfl (Nat.le_of_ble_eq_true rfl) (by decide) (s_X8_couldJoin h29 b24 x1 x2) (fun r30 h31 => ?_)
      refine ao_br (br_if_ne (tgt := 35) dX11_join_30 (by decide)) (fun c36 => ?_) (fun c36 => ?_)
      · refine ao_s (st_iconst dX11_join_33 ic_m1) ?_
        exact ao_ir dX11_join_34 rfl rfl
      · refine ao_s (st_aload_n dX11_join_35 rfl rfl) ?_
        refine ao_cVv (Kc := kX11_remember) (As := []) (st := []) dX11_join_36 ml_X11_195 mv_X11_remember rfl e21 (by decide) rfl rfl (Nat.le_of_ble_eq_true rfl) (by decide) (s_X11_remember h31 a0) (fun r32 h33 => ?_)
        refine ao_s (st_aload_n dX11_join_39 rfl rfl) ?_
        refine ao_s (st_iload_n dX11_join_40 rfl rfl) ?_
        refine ao_s (st_iload_n dX11_join_41 rfl rfl) ?_
        refine ao_cVi (Kc := kX8_joinTwo) (As := [.int x1, .int x2]) (st := []) dX11_join_42 ml_X11_210 mv_X8_joinTwo rfl e25 (by decide) rfl rfl (Nat.le_of_ble_eq_true rfl) (by decide) (s_X8_joinTwo h33 b24 x1 x2) (fun r34 h35 => ?_)
        exact ao_ir dX11_join_45 rfl rfl
def f_X11_part (h : aH) (a0 : Nat) (x1 : Int32) : Option (Int32 × aH) :=
(if (sh a0).1 = 18 then
((hR h a0 5).bind fun b22 =>
(if (sh b22).1 = 17 then
((hR h b22 1).bind fun b24 =>
(if (sh b24).1 = 15 then
(aBind (f_X8_isJoinedEast h b24 x1) fun r26 h27 =>
(if r26 = 0 then
some ((-1), h27)
else
(aBind (f_X11_remember h27 a0) fun r28 h29 =>
(aBind (f_X8_partTwo h29 b24 x1) fun r30 h31 =>
some (r30, h31)))))
else none))
else none))
else none)
set_option maxHeartbeats 2000000 in
theorem s_X11_part (h : aH) (a0 : Nat) (x1 : Int32) : SO eI 4 kX11_part [.ref a0, .int x1] h (f_X11_part h a0 x1) := by
  refine so_of (lv0 := [some (.ref a0), some (.int x1), none]) pn_X11 (Nat.le_of_ble_eq_true rfl) rfl ?_
  unfold f_X11_part
  refine ao_s (st_aload_n dX11_part_0 rfl rfl) ?_
  refine ao_chk (fun e21 => ?_)
  refine ao_getR dX11_part_1 fl_X11_45 rfl e21 (fun b22 => ?_)
  refine ao_chk (fun e23 => ?_)
  refine ao_getR dX11_part_4 fl_X11_119 rfl e23 (fun b24 => ?_)
  refine ao_s (st_astore_n (lv' := [some (.ref a0), some (.int x1), some (.ref b24)]) dX11_part_7 rfl (by decide) rfl) ?_
  refine ao_s (st_aload_n dX11_part_8 rfl rfl) ?_
  refine ao_s (st_iload_n dX11_part_9 rfl rfl) ?_
  refine ao_chk (fun e25 => ?_)
  refine ao_cVi (Kc := kX8_isJoinedEast) (As := [.int x1]) (st := []) dX11_part_10 ml_X11_213 mv_X8_isJoinedEast rfl e25 (by decide) rfl rfl (Nat.le_of_ble_eq_true rfl) (by decide) (s_X8_isJoinedEast h b24 x1) (fun r26 h27 => ?_)
  refine ao_br (br_if_ne (tgt := 18) dX11_part_13 (by decide)) (fun c32 => ?_) (fun c32 => ?_)
  · refine ao_s (st_iconst dX11_part_16 ic_m1) ?_
    exact ao_ir dX11_part_17 rfl rfl
  · refine ao_s (st_aload_n dX11_part_18 rfl rfl) ?_
    refine ao_cVv (Kc := kX11_remember) (As := []) (st := []) dX11_part_19 ml_X11_195 mv_X11_remember rfl e21 (by decide) rfl rfl (Nat.le_of_ble_eq_true rfl) (by decide) (s_X11_remember h27 a0) (fun r28 h29 => ?_)
    refine ao_s (st_aload_n dX11_part_22 rfl rfl) ?_
    refine ao_s (st_iload_n dX11_part_23 rfl rfl) ?_
    refine ao_cVi (Kc := kX8_partTwo) (As := [.int x1]) (st := []) dX11_part_24 ml_X11_216 mv_X8_partTwo rfl e25 (by decide) rfl rfl (Nat.le_of_ble_eq_true rfl) (by decide) (s_X8_partTwo h29 b24 x1) (fun r30 h31 => ?_)
    exact ao_ir dX11_part_27 rfl rfl
def f_X11_hold (h : aH) (a0 : Nat) : Option (Int32 × aH) :=
(if (sh a0).1 = 18 then
((hR h a0 5).bind fun b22 =>
(if (sh b22).1 = 17 then
((hR h b22 1).bind fun b24 =>
(if (sh b24).1 = 15 then
(if hI h b24 0 = 0 then
some ((-1), h)
else
(if 60 < hI h b24 5 then
some ((-1), h)
else
(aBind (f_X8_isLate h b24) fun r26 h27 =>
(if r26 = 0 then
(aBind (f_X11_remember h27 a0) fun r28 h29 =>
(aLet (pL h29 b24 6 ((hL h29 b24 6) ||| (1 <<< ((hI h29 b24 5 : Int32).toInt64 &&& 63)))) fun h30 =>
(aBind (f_J13_bitCount_95d88 h30 (hL h30 b24 6)) fun r31 h32 =>
some (r31, h32))))
else
some ((-1), h27)))))
else none))
else none))
else none)
set_option maxHeartbeats 2000000 in
theorem s_X11_hold (h : aH) (a0 : Nat) : SO eI 4 kX11_hold [.ref a0] h (f_X11_hold h a0) := by
  refine so_of (lv0 := [some (.ref a0), none]) pn_X11 (Nat.le_of_ble_eq_true rfl) rfl ?_
  unfold f_X11_hold
  refine ao_s (st_aload_n dX11_hold_0 rfl rfl) ?_
  refine ao_chk (fun e21 => ?_)
  refine ao_getR dX11_hold_1 fl_X11_45 rfl e21 (fun b22 => ?_)
  refine ao_chk (fun e23 => ?_)
  refine ao_getR dX11_hold_4 fl_X11_119 rfl e23 (fun b24 => ?_)
  refine ao_s (st_astore_n (lv' := [some (.ref a0), some (.ref b24)]) dX11_hold_7 rfl (by decide) rfl) ?_
  refine ao_s (st_aload_n dX11_hold_8 rfl rfl) ?_
  refine ao_chk (fun e25 => ?_)
  refine ao_getI dX11_hold_9 fl_X11_191 rfl e25 ?_
  refine ao_br (br_if_eq (tgt := 31) dX11_hold_12 (by decide)) (fun c35 => ?_) (fun c35 => ?_)
  · refine ao_s (st_iconst dX11_hold_31 ic_m1) ?_
    exact ao_ir dX11_hold_32 rfl rfl
  · refine ao_s (st_aload_n dX11_hold_15 rfl rfl) ?_
    refine ao_getI dX11_hold_16 fl_X11_167 rfl e25 ?_
    refine ao_s (st_bipush dX11_hold_19 bp_60) ?_
    refine ao_br (br_icmp_gt (tgt := 31) dX11_hold_21 (by decide)) (fun c34 => ?_) (fun c34 => ?_)
    · refine ao_s (st_iconst dX11_hold_31 ic_m1) ?_
      exact ao_ir dX11_hold_32 rfl rfl
    · refine ao_s (st_aload_n dX11_hold_24 rfl rfl) ?_
      refine ao_cVi (Kc := kX8_isLate) (As := []) (st := []) dX11_hold_25 ml_X11_174 mv_X8_isLate rfl e25 (by decide) rfl rfl (Nat.le_of_ble_eq_true rfl) (by decide) (s_X8_isLate h b24) (fun r26 h27 => ?_)
      refine ao_br (br_if_eq (tgt := 33) dX11_hold_28 (by decide)) (fun c33 => ?_) (fun c33 => ?_)
      · refine ao_s (st_aload_n dX11_hold_33 rfl rfl) ?_
        refine ao_cVv (Kc := kX11_remember) (As := []) (st := []) dX11_hold_34 ml_X11_195 mv_X11_remember rfl e21 (by decide) rfl rfl (Nat.le_of_ble_eq_true rfl) (by decide) (s_X11_remember h27 a0) (fun r28 h29 => ?_)
        refine ao_s (st_aload_n dX11_hold_37 rfl rfl) ?_
        refine ao_s (st_dup dX11_hold_38 rfl) ?_
        refine ao_getL dX11_hold_39 fl_X11_178 rfl e25 ?_
        refine ao_s (st_lconst dX11_hold_42 lc_1) ?_
        refine ao_s (st_aload_n dX11_hold_43 rfl rfl) ?_
        refine ao_getI dX11_hold_44 fl_X11_167 rfl e25 ?_
        refine ao_s (st_lshl dX11_hold_47) ?_
        refine ao_s (st_lor dX11_hold_48) ?_
        refine ao_putL dX11_hold_49 fl_X11_178 rfl rfl rfl rfl e25 ?_
        refine ao_letH (fun h30 => ?_)
        refine ao_s (st_aload_n dX11_hold_52 rfl rfl) ?_
        refine ao_getL dX11_hold_53 fl_X11_178 rfl e25 ?_
        refine ao_cSi (Kc := kJ13_bitCount_95d88) (As := [.long (hL h30 b24 6)]) (st := []) dX11_hold_56 ml_X11_182 ms_J13_bitCount_95d88 rfl rfl (Nat.le_of_ble_eq_true rfl) (by decide) (s_J13_bitCount_95d88 h30 (hL h30 b24 6)) (fun r31 h32 => ?_)
        exact ao_ir dX11_hold_59 rfl rfl
      · refine ao_s (st_iconst dX11_hold_31 ic_m1) ?_
        exact ao_ir dX11_hold_32 rfl rfl
def f_X11_undo (h : aH) (a0 : Nat) : Option (Int32 × aH) :=
(if (sh a0).1 = 18 then
(if hI h a0 9 = 0 then
some ((-1), h)
else
(aLet (pI h a0 8 ((((hI h a0 8) + 20) - 1) - (((hI h a0 8) + 20) - 1) / 20 * 20)) fun h22 =>
(aLet (pI h22 a0 9 ((hI h22 a0 9) - 1)) fun h23 =>
((hR h23 a0 5).bind fun b24 =>
(if (sh b24).1 = 17 then
((hR h23 b24 1).bind fun b26 =>
((hR h23 a0 7).bind fun b27 =>
(aLet (hI h23 a0 8) fun x28 =>
(if (sh b27).1 = 5 then
(if aIn x28 (sh b27).2 then (hR h23 b27 x28.toNatClampNeg).bind fun b30 =>
(if (sh b26).1 = 15 then
(aBind (f_X8_copyFrom h23 b26 b30) fun r32 h33 =>
some (hI h33 a0 9, h33))
else none)
else none)
else none))))
else none)))))
else none)
set_option maxHeartbeats 2000000 in
theorem s_X11_undo (h : aH) (a0 : Nat) : SO eI 3 kX11_undo [.ref a0] h (f_X11_undo h a0) := by
  refine so_of (lv0 := [some (.ref a0)]) pn_X11 (Nat.le_of_ble_eq_true rfl) rfl ?_
  unfold f_X11_undo
  refine ao_s (st_aload_n dX11_undo_0 rfl rfl) ?_
  refine ao_chk (fun e21 => ?_)
  refine ao_getI dX11_undo_1 fl_X11_62 rfl e21 ?_
  refine ao_br (br_if_ne (tgt := 9) dX11_undo_4 (by decide)) (fun c34 => ?_) (fun c34 => ?_)
  · refine ao_s (st_iconst dX11_undo_7 ic_m1) ?_
    exact ao_ir dX11_undo_8 rfl rfl
  · refine ao_s (st_aload_n dX11_undo_9 rfl rfl) ?_
    refine ao_s (st_aload_n dX11_undo_10 rfl rfl) ?_
    refine ao_getI dX11_undo_11 fl_X11_59 rfl e21 ?_
    refine ao_s (st_bipush dX11_undo_14 bp_20) ?_
    refine ao_s (st_iadd dX11_undo_16) ?_
    refine ao_s (st_iconst dX11_undo_17 ic_1) ?_
    refine ao_s (st_isub dX11_undo_18) ?_
    refine ao_s (st_bipush dX11_undo_19 bp_20) ?_
    refine ao_s (st_irem dX11_undo_21 (by decide)) ?_
    refine ao_putI dX11_undo_22 fl_X11_59 rfl rfl rfl rfl e21 ?_
    refine ao_letH (fun h22 => ?_)
    refine ao_s (st_aload_n dX11_undo_25 rfl rfl) ?_
    refine ao_s (st_dup dX11_undo_26 rfl) ?_
    refine ao_getI dX11_undo_27 fl_X11_62 rfl e21 ?_
    refine ao_s (st_iconst dX11_undo_30 ic_1) ?_
    refine ao_s (st_isub dX11_undo_31) ?_
    refine ao_putI dX11_undo_32 fl_X11_62 rfl rfl rfl rfl e21 ?_
    refine ao_letH (fun h23 => ?_)
    refine ao_s (st_aload_n dX11_undo_35 rfl rfl) ?_
    refine ao_getR dX11_undo_36 fl_X11_45 rfl e21 (fun b24 => ?_)
    refine ao_chk (fun e25 => ?_)
    refine ao_getR dX11_undo_39 fl_X11_119 rfl e25 (fun b26 => ?_)
    refine ao_s (st_aload_n dX11_undo_42 rfl rfl) ?_
    refine ao_getR dX11_undo_43 fl_X11_55 rfl e21 (fun b27 => ?_)
    refine ao_s (st_aload_n dX11_undo_46 rfl rfl) ?_
    refine ao_getI dX11_undo_47 fl_X11_59 rfl e21 ?_
    refine ao_letI (fun x28 => ?_)
    refine ao_chk (fun e29 => ?_)
    refine ao_aald5 dX11_undo_50 e29 (fun b30 => ?_)
    refine ao_chk (fun e31 => ?_)
    refine ao_cVv (Kc := kX8_copyFrom) (As := [.ref b30]) (st := []) dX11_undo_51 ml_X11_115 mv_X8_copyFrom rfl e31 (by decide) rfl rfl (Nat.le_of_ble_eq_true rfl) (by decide) (s_X8_copyFrom h23 b26 b30) (fun r32 h33 => ?_)
    refine ao_s (st_aload_n dX11_undo_54 rfl rfl) ?_
    refine ao_getI dX11_undo_55 fl_X11_62 rfl e21 ?_
    exact ao_ir dX11_undo_58 rfl rfl
