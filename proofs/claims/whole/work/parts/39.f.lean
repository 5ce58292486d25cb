def b_X12_stays_91 (k43 : aH → Nat → Int32 → Int32 → Int32 → Int32 → Int32 → Option (Int32 × aH)) (h : aH) (a0 : Nat) (x1 : Int32) (x2 : Int32) (x3 : Int32) (x4 : Int32) (x5 : Int32) : Option (Int32 × aH) :=
k43 h a0 x1 x2 x3 x4 (x5 + 1)
set_option maxHeartbeats 2000000 in
theorem t_X12_stays_91 {k43 : aH → Nat → Int32 → Int32 → Int32 → Int32 → Int32 → Option (Int32 × aH)} (hk43 : ∀ (h : aH) (a0 : Nat) (x1 : Int32) (x2 : Int32) (x3 : Int32) (x4 : Int32) (x5 : Int32), AO eI 5 kX12_stays 43 [some (.ref a0), some (.int x1), some (.int x2), some (.int x3), some (.int x4), some (.int x5)] [] h (k43 h a0 x1 x2 x3 x4 x5)) (h : aH) (a0 : Nat) (x1 : Int32) (x2 : Int32) (x3 : Int32) (x4 : Int32) (x5 : Int32) : AO eI 5 kX12_stays 91 [some (.ref a0), some (.int x1), some (.int x2), some (.int x3), some (.int x4), some (.int x5)] [] h (b_X12_stays_91 k43 h a0 x1 x2 x3 x4 x5) := by
  unfold b_X12_stays_91
  refine ao_s (st_iinc (lv' := [some (.ref a0), some (.int x1), some (.int x2), some (.int x3), some (.int x4), some (.int (x5 + 1))]) dX12_stays_91 rfl nc_1 (by decide) rfl) ?_
  refine ao_s (st_goto 43 dX12_stays_94 (by decide)) ?_
  exact ao_w (sb_s (sb_s (sb_s (sb_s (sb_s (sb_s sb_0)))))) (hk43 h a0 x1 x2 x3 x4 (x5 + 1))
def b_X12_stays_43 (k43 : aH → Nat → Int32 → Int32 → Int32 → Int32 → Int32 → Option (Int32 × aH)) (h : aH) (a0 : Nat) (x1 : Int32) (x2 : Int32) (x3 : Int32) (x4 : Int32) (x5 : Int32) : Option (Int32 × aH) :=
(if (sh a0).1 = 19 then
((hR h a0 20).bind fun b22 =>
(aLet (4 - x1) fun x23 =>
(if (sh b22).1 = 0 then
(if aIn x23 (sh b22).2 then
(if hI h b22 x23.toNatClampNeg ≤ x5 then
((hR h a0 19).bind fun b25 =>
(if (sh b25).1 = 3 then
(if aIn 0 (sh b25).2 then
(aLet (pL h b25 (0 : Int32).toNatClampNeg x1.toInt64) fun h27 =>
((hR h27 a0 19).bind fun b28 =>
(if (sh b28).1 = 3 then
(if aIn 1 (sh b28).2 then
(aLet (pL h27 b28 (1 : Int32).toNatClampNeg x2.toInt64) fun h30 =>
((hR h30 a0 19).bind fun b31 =>
(if (sh b31).1 = 3 then
(if aIn 2 (sh b31).2 then
(aLet (pL h30 b31 (2 : Int32).toNatClampNeg x3.toInt64) fun h33 =>
((hR h33 a0 19).bind fun b34 =>
(aBind (f_X12_likesOf h33 a0 x1 x2 x3) fun r35 h36 =>
(if (sh b34).1 = 3 then
(if aIn 3 (sh b34).2 then
(aLet (pL h36 b34 (3 : Int32).toNatClampNeg r35.toInt64) fun h38 =>
((hR h38 a0 19).bind fun b39 =>
(aBind (f_X12_likesOf h38 a0 (1 - x1) x3 x2) fun r40 h41 =>
(if (sh b39).1 = 3 then
(if aIn 4 (sh b39).2 then
(aLet (pL h41 b39 (4 : Int32).toNatClampNeg r40.toInt64) fun h43 =>
((hR h43 a0 19).bind fun b44 =>
(aBind (f_X12_personOf h43 a0 x1 x2 2) fun r45 h46 =>
(if (sh b44).1 = 3 then
(if aIn 5 (sh b44).2 then
(aLet (pL h46 b44 (5 : Int32).toNatClampNeg r45.toInt64) fun h48 =>
((hR h48 a0 19).bind fun b49 =>
(aBind (f_X12_personOf h48 a0 x1 x2 0) fun r50 h51 =>
(if (sh b49).1 = 3 then
(if aIn 6 (sh b49).2 then
(aLet (pL h51 b49 (6 : Int32).toNatClampNeg r50.toInt64) fun h53 =>
((hR h53 a0 19).bind fun b54 =>
((hR h53 a0 20).bind fun b55 =>
(if (sh b55).1 = 0 then
(if aIn 1 (sh b55).2 then
(if (sh b54).1 = 3 then
(if aIn 7 (sh b54).2 then
(aLet (pL h53 b54 (7 : Int32).toNatClampNeg ((hI h53 b55 (1 : Int32).toNatClampNeg).toInt64)) fun h58 =>
((hR h58 a0 19).bind fun b59 =>
(if (sh b59).1 = 3 then
(if aIn 8 (sh b59).2 then
(aLet (pL h58 b59 (8 : Int32).toNatClampNeg x4.toInt64) fun h61 =>
((hR h61 a0 19).bind fun b62 =>
((hR h61 a0 20).bind fun b63 =>
(if (sh b63).1 = 0 then
(if aIn 10 (sh b63).2 then
(if (sh b62).1 = 3 then
(if aIn 9 (sh b62).2 then
(aLet (pL h61 b62 (9 : Int32).toNatClampNeg ((hI h61 b63 (10 : Int32).toNatClampNeg).toInt64)) fun h66 =>
((hR h66 a0 19).bind fun b67 =>
(aBind (f_X12_personOf h66 a0 x1 x2 3) fun r68 h69 =>
(if (sh b67).1 = 3 then
(if aIn 10 (sh b67).2 then
(aLet (pL h69 b67 (10 : Int32).toNatClampNeg r68.toInt64) fun h71 =>
(aBind (f_X12_summedBy h71 a0 (hI h71 a0 21)) fun r72 h73 =>
(if lg_cmp r72 0 ≤ 0 then
some (0, h73)
else
some (1, h73))))
else none)
else none))))
else none)
else none)
else none)
else none))))
else none)
else none)))
else none)
else none)
else none)
else none))))
else none)
else none))))
else none)
else none))))
else none)
else none))))
else none)
else none))))
else none)
else none)))
else none)
else none)))
else none)
else none))
else
(aBind (f_X12_isFree h a0 (1 - x1) x5) fun r75 h76 =>
(if r75 = 0 then
b_X12_stays_91 k43 h76 a0 x1 x2 x3 x4 x5
else
(aBind (f_X12_likesOf h76 a0 x1 x2 x5) fun r77 h78 =>
(if r77 ≤ x4 then
b_X12_stays_91 k43 h78 a0 x1 x2 x3 x4 x5
else
(aBind (f_X12_likesOf h78 a0 x1 x2 x5) fun r79 h80 =>
b_X12_stays_91 k43 h80 a0 x1 x2 x3 r79 x5))))))
else none)
else none)))
else none)
set_option maxHeartbeats 2000000 in
theorem t_X12_stays_43 {k43 : aH → Nat → Int32 → Int32 → Int32 → Int32 → Int32 → Option (Int32 × aH)} (hk43 : ∀ (h : aH) (a0 : Nat) (x1 : Int32) (x2 : Int32) (x3 : Int32) (x4 : Int32) (x5 : Int32), AO eI 5 kX12_stays 43 [some (.ref a0), some (.int x1), some (.int x2), some (.int x3), some (.int x4), some (.int x5)] [] h (k43 h a0 x1 x2 x3 x4 x5)) (h : aH) (a0 : Nat) (x1 : Int32) (x2 : Int32) (x3 : Int32) (x4 : Int32) (x5 : Int32) : AO eI 5 kX12_stays 43 [some (.ref a0), some (.int x1), some (.int x2), some (.int x3), some (.int x4), some (.int x5)] [] h (b_X12_stays_43 k43 h a0 x1 x2 x3 x4 x5) := by
  unfold b_X12_stays_43
  refine ao_s (st_iload dX12_stays_43 rfl) ?_
  refine ao_s (st_aload_n dX12_stays_45 rfl rfl) ?_
  refine ao_chk (fun e21 => ?_)
  refine ao_getR dX12_stays_46 fl_X12_39 rfl e21 (fun b22 => ?_)
  refine ao_s (st_iconst dX12_stays_49 ic_4) ?_
  refine ao_s (st_iload_n dX12_stays_50 rfl rfl) ?_
  refine ao_s (st_isub dX12_stays_51) ?_
  refine ao_letI (fun x23 => ?_)
  refine ao_chk (fun e24 => ?_)
  refine ao_iald dX12_stays_52 e24 ?_
  refine ao_br (br_icmp_ge (tgt := 97) dX12_stays_53 (by decide)) (fun c83 => ?_) (fun c83 => ?_)
  · refine ao_s (st_aload_n dX12_stays_97 rfl rfl) ?_
    refine ao_getR dX12_stays_98 fl_X12_36 rfl e21 (fun b25 => ?_)
    refine ao_s (st_iconst dX12_stays_101 ic_0) ?_
    refine ao_s (st_iload_n dX12_stays_102 rfl rfl) ?_
    refine ao_s (st_i2l dX12_stays_103) ?_
    refine ao_chk (fun e26 => ?_)
    refine ao_last dX12_stays_104 e26 ?_
    refine ao_letH (fun h27 => ?_)
    refine ao_s (st_aload_n dX12_stays_105 rfl rfl) ?_
    refine ao_getR dX12_stays_106 fl_X12_36 rfl e21 (fun b28 => ?_)
    refine ao_s (st_iconst dX12_stays_109 ic_1) ?_
    refine ao_s (st_iload_n dX12_stays_110 rfl rfl) ?_
    refine ao_s (st_i2l dX12_stays_111) ?_
    refine ao_chk (fun e29 => ?_)
    refine ao_last dX12_stays_112 e29 ?_
    refine ao_letH (fun h30 => ?_)
    refine ao_s (st_aload_n dX12_stays_113 rfl rfl) ?_
    refine ao_getR dX12_stays_114 fl_X12_36 rfl e21 (fun b31 => ?_)
    refine ao_s (st_iconst dX12_stays_117 ic_2) ?_
    refine ao_s (st_iload_n dX12_stays_118 rfl rfl) ?_
    refine ao_s (st_i2l dX12_stays_119) ?_
    refine ao_chk (fun e32 => ?_)
    refine ao_last dX12_stays_120 e32 ?_
    refine ao_letH (fun h33 => ?_)
    refine ao_s (st_aload_n dX12_stays_121 rfl rfl) ?_
    refine ao_getR dX12_stays_122 fl_X12_36 rfl e21 (fun b34 => ?_)
    refine ao_s (st_iconst dX12_stays_125 ic_3) ?_
    refine ao_s (st_aload_n dX12_stays_126 rfl rfl) ?_
    refine ao_s (st_iload_n dX12_stays_127 rfl rfl) ?_
    refine ao_s (st_iload_n dX12_stays_128 rfl rfl) ?_
    refine ao_s (st_iload_n dX12_stays_129 rfl rfl) ?_
    refine ao_cVi (Kc := kX12_likesOf) (As := [.int x1, .int x2, .int x3]) (st := [.int 3, .ref b34]) dX12_stays_130 ml_X12_305 mv_X12_likesOf rfl e21 (by decide) rfl rfl (Nat.le_of_ble_eq_true rfl) (by decide) (s_X12_likesOf h33 a0 x1 x2 x3) (fun r35 h36 => ?_)
    refine ao_s (st_i2l dX12_stays_133) ?_
    refine ao_chk (fun e37 => ?_)
    refine ao_last dX12_stays_134 e37 ?_
    refine ao_letH (fun h38 => ?_)
    refine ao_s (st_aload_n dX12_stays_135 rfl rfl) ?_
    refine ao_getR dX12_stays_136 fl_X12_36 rfl e21 (fun b39 => ?_)
    refine ao_s (st_iconst dX12_stays_139 ic_4) ?_
    refine ao_s (st_aload_n dX12_stays_140 rfl rfl) ?_
    refine ao_s (st_iconst dX12_stays_141 ic_1) ?_
    refine ao_s (st_iload_n dX12_stays_142 rfl rfl) ?_
    refine ao_s (st_isub dX12_stays_143) ?_
    refine ao_s (st_iload_n dX12_stays_144 rfl rfl) ?_
    refine ao_s (st_iload_n dX12_stays_145 rfl rfl) ?_
    refine ao_cVi (Kc := kX12_likesOf) (As := [.int (1 - x1), .int x3, .int x2]) (st := [.int 4, .ref b39]) dX12_stays_146 ml_X12_305 mv_X12_likesOf rfl e21 (by decide) rfl rfl (Nat.le_of_ble_eq_true rfl) (by decide) (s_X12_likesOf h38 a0 (1 - x1) x3 x2) (fun r40 h41 => ?_)
    refine ao_s (st_i2l dX12_stays_149) ?_
    refine ao_chk (fun e42 => ?_)
    refine ao_last dX12_stays_150 e42 ?_
    refine ao_letH (fun h43 => ?_)
    refine ao_s (st_aload_n dX12_stays_151 rfl rfl) ?_
    refine ao_getR dX12_stays_152 fl_X12_36 rfl e21 (fun b44 => ?_)
    refine ao_s (st_iconst dX12_stays_155 ic_5) ?_
    refine ao_s (st_aload_n dX12_stays_156 rfl rfl) ?_
    refine ao_s (st_iload_n dX12_stays_157 rfl rfl) ?_
    refine ao_s (st_iload_n dX12_stays_158 rfl rfl) ?_
    refine ao_s (st_iconst dX12_stays_159 ic_2) ?_
    refine ao_cVi (Kc := kX12_personOf) (As := [.int x1, .int x2, .int 2]) (st := [.int 5, .ref b44]) dX12_stays_160 ml_X12_301 mv_X12_personOf rfl e21 (by decide) rfl rfl (Nat.le_of_ble_eq_true rfl) (by decide) (s_X12_personOf h43 a0 x1 x2 2) (fun r45 h46 => ?_)
    refine ao_s (st_i2l dX12_stays_163) ?_
    refine ao_chk (fun e47 => ?_)
    refine ao_last dX12_stays_164 e47 ?_
    refine ao_letH (fun h48 => ?_)
    refine ao_s (st_aload_n dX12_stays_165 rfl rfl) ?_
    refine ao_getR dX12_stays_166 fl_X12_36 rfl e21 (fun b49 => ?_)
    refine ao_s (st_bipush dX12_stays_169 bp_6) ?_
    refine ao_s (st_aload_n dX12_stays_171 rfl rfl) ?_
    refine ao_s (st_iload_n dX12_stays_172 rfl rfl) ?_
    refine ao_s (st_iload_n dX12_stays_173 rfl rfl) ?_
    refine ao_s (st_iconst dX12_stays_174 ic_0) ?_
    refine ao_cVi (Kc := kX12_personOf) (As := [.int x1, .int x2, .int 0]) (st := [.int 6, .ref b49]) dX12_stays_175 ml_X12_301 mv_X12_personOf rfl e21 (by decide) rfl rfl (Nat.le_of_ble_eq_true rfl) (by decide) (s_X12_personOf h48 a0 x1 x2 0) (fun r50 h51 => ?_)
    refine ao_s (st_i2l dX12_stays_178) ?_
    refine ao_chk (fun e52 => ?_)
    refine ao_last dX12_stays_179 e52 ?_
    refine ao_letH (fun h53 => ?_)
    refine ao_s (st_aload_n dX12_stays_180 rfl rfl) ?_
    refine ao_getR dX12_stays_181 fl_X12_36 rfl e21 (fun b54 => ?_)
    refine ao_s (st_bipush dX12_stays_184 bp_7) ?_
    refine ao_s (st_aload_n dX12_stays_186 rfl rfl) ?_
    refine ao_getR dX12_stays_187 fl_X12_39 rfl e21 (fun b55 => ?_)
    refine ao_s (st_iconst dX12_stays_190 ic_1) ?_
    refine ao_chk (fun e56 => ?_)
    refine ao_iald dX12_stays_191 e56 ?_
    refine ao_s (st_i2l dX12_stays_192) ?_
    refine ao_chk (fun e57 => ?_)
    refine ao_last dX12_stays_193 e57 ?_
    refine ao_letH (fun h58 => ?_)
    refine ao_s (st_aload_n dX12_stays_194 rfl rfl) ?_
    refine ao_getR dX12_stays_195 fl_X12_36 rfl e21 (fun b59 => ?_)
    refine ao_s (st_bipush dX12_stays_198 bp_8) ?_
    refine ao_s (st_iload dX12_stays_200 rfl) ?_
    refine ao_s (st_i2l dX12_stays_202) ?_
    refine ao_chk (fun e60 => ?_)
    refine ao_last dX12_stays_203 e60 ?_
    refine ao_letH (fun h61 => ?_)
    refine ao_s (st_aload_n dX12_stays_204 rfl rfl) ?_
    refine ao_getR dX12_stays_205 fl_X12_36 rfl e21 (fun b62 => ?_)
    refine ao_s (st_bipush dX12_stays_208 bp_9) ?_
    refine ao_s (st_aload_n dX12_stays_210 rfl rfl) ?_
    refine ao_getR dX12_stays_211 fl_X12_39 rfl e21 (fun b63 => ?_)
    refine ao_s (st_bipush dX12_stays_214 bp_10) ?_
    refine ao_chk (fun e64 => ?_)
    refine ao_iald dX12_stays_216 e64 ?_
    refine ao_s (st_i2l dX12_stays_217) ?_
    refine ao_chk (fun e65 => ?_)
    refine ao_last dX12_stays_218 e65 ?_
    refine ao_letH (fun h66 => ?_)
    refine ao_s (st_aload_n dX12_stays_219 rfl rfl) ?_
    refine ao_getR dX12_stays_220 fl_X12_36 rfl e21 (fun b67 => ?_)
    refine ao_s (st_bipush dX12_stays_223 bp_10) ?_
    refine ao_s (st_aload_n dX12_stays_225 rfl rfl) ?_
    refine ao_s (st_iload_n dX12_stays_226 rfl rfl) ?_
    refine ao_s (st_iload_n dX12_stays_227 rfl rfl) ?_
    refine ao_s (st_iconst dX12_stays_228 ic_3) ?_
    refine ao_cVi (Kc := kX12_personOf) (As := [.int x1, .int x2, .int 3]) (st := [.int 10, .ref b67]) dX12_stays_229 ml_X12_301 mv_X12_personOf rfl e21 (by decide) rfl rfl (Nat.le_of_ble_eq_true rfl) (by decide) (s_X12_personOf h66 a0 x1 x2 3) (fun r68 h69 => ?_)
    refine ao_s (st_i2l dX12_stays_232) ?_
    refine ao_chk (fun e70 => ?_)
    refine ao_last dX12_stays_233 e70 ?_
    refine ao_letH (fun h71 => ?_)
    refine ao_s (st_aload_n dX12_stays_234 rfl rfl) ?_
    refine ao_s (st_aload_n dX12_stays_235 rfl rfl) ?_
    refine ao_getI dX12_stays_236 fl_X12_42 rfl e21 ?_
    refine ao_cVl (Kc := kX12_summedBy) (As := [.int (hI h71 a0 21)]) (st := []) dX12_stays_239 ml_X12_340 mv_X12_summedBy rfl e21 (by decide) rfl rfl (Nat.le_of_ble_eq_true rfl) (by decide) (s_X12_summedBy h71 a0 (hI h71 a0 21)) (fun r72 h73 => ?_)
    refine ao_s (st_lconst dX12_stays_242 lc_0) ?_
    refine ao_s (st_lcmp dX12_stays_243) ?_
    refine ao_br (br_if_le (tgt := 251) dX12_stays_244 (by decide)) (fun c74 => ?_) (fun c74 => ?_)
    · refine ao_s (st_iconst dX12_stays_251 ic_0) ?_
      exact ao_ir dX12_stays_252 rfl (by decide)
    · refine ao_s (st_iconst dX12_stays_247 ic_1) ?_
      refine ao_s (st_goto 252 dX12_stays_248 (by decide)) ?_
      exact ao_ir dX12_stays_252 rfl (by decide)
  · refine ao_s (st_aload_n dX12_stays_56 rfl rfl) ?_
    refine ao_s (st_iconst dX12_stays_57 ic_1) ?_
    refine ao_s (st_iload_n dX12_stays_58 rfl rfl) ?_
    refine ao_s (st_isub dX12_stays_59) ?_
    refine ao_s (st_iload dX12_stays_60 rfl) ?_
    refine ao_cVi (Kc := kX12_isFree) (As := [.int (1 - x1), .int x5]) (st := []) dX12_stays_62 ml_X12_318 mv_X12_isFree rfl e21 (by decide) rfl rfl (Nat.le_of_ble_eq_true rfl) (by decide) (s_X12_isFree h a0 (1 - x1) x5) (fun r75 h76 => ?_)
    refine ao_br (br_if_eq (tgt := 91) dX12_stays_65 (by decide)) (fun c82 => ?_) (fun c82 => ?_)
    · exact ao_w (sb_s (sb_s (sb_s (sb_s (sb_s (sb_s sb_0)))))) (t_X12_stays_91 hk43 h76 a0 x1 x2 x3 x4 x5)
    · refine ao_s (st_aload_n dX12_stays_68 rfl rfl) ?_
      refine ao_s (st_iload_n dX12_stays_69 rfl rfl) ?_
      refine ao_s (st_iload_n dX12_stays_70 rfl rfl) ?_
      refine ao_s (st_iload dX12_stays_71 rfl) ?_
      refine ao_cVi (Kc := kX12_likesOf) (As := [.int x1, .int x2, .int x5]) (st := []) dX12_stays_73 ml_X12_305 mv_X12_likesOf rfl e21 (by decide) rfl rfl (Nat.le_of_ble_eq_true rfl) (by decide) (s_X12_likesOf h76 a0 x1 x2 x5) (fun r77 h78 => ?_)
      refine ao_s (st_iload dX12_stays_76 rfl) ?_
      refine ao_br (br_icmp_le (tgt := 91) dX12_stays_78 (by decide)) (fun c81 => ?_) (fun c81 => ?_)
      · exact ao_w (sb_s (sb_s (sb_s (sb_s (sb_s (sb_s sb_0)))))) (t_X12_stays_91 hk43 h78 a0 x1 x2 x3 x4 x5)
      · refine ao_s (st_aload_n dX12_stays_81 rfl rfl) ?_
        refine ao_s (st_iload_n dX12_stays_82 rfl rfl) ?_
        refine ao_s (st_iload_n dX12_stays_83 rfl rfl) ?_
        refine ao_s (st_iload dX12_stays_84 rfl) ?_
        refine ao_cVi (Kc := kX12_likesOf) (As := [.int x1, .int x2, .int x5]) (st := []) dX12_stays_86 ml_X12_305 mv_X12_likesOf rfl e21 (by decide) rfl rfl (Nat.le_of_ble_eq_true rfl) (by decide) (s_X12_likesOf h78 a0 x1 x2 x5) (fun r79 h80 => ?_)
        refine ao_s (st_istore (lv' := [some (.ref a0), some (.int x1), some (.int x2), some (.int x3), some (.int r79), some (.int x5)]) dX12_stays_89 (by decide) rfl) ?_
        exact ao_w (sb_s (sb_s (sb_s (sb_s (sb_s (sb_s sb_0)))))) (t_X12_stays_91 hk43 h80 a0 x1 x2 x3 r79 x5)
def f_X12_stays_43 (n : Nat) : aH → Nat → Int32 → Int32 → Int32 → Int32 → Int32 → Option (Int32 × aH) := aIt (fun _ _ _ _ _ _ _ => none) (fun k => b_X12_stays_43 k) n
theorem l_X12_stays_43 (n : Nat) : ∀ (h : aH) (a0 : Nat) (x1 : Int32) (x2 : Int32) (x3 : Int32) (x4 : Int32) (x5 : Int32), AO eI 5 kX12_stays 43 [some (.ref a0), some (.int x1), some (.int x2), some (.int x3), some (.int x4), some (.int x5)] [] h (f_X12_stays_43 n h a0 x1 x2 x3 x4 x5) := by
  induction n with
  | zero => intros; exact ao_none
  | succ n ih =>
    intro h a0 x1 x2 x3 x4 x5
    exact t_X12_stays_43 ih h a0 x1 x2 x3 x4 x5
def f_X12_stays (h : aH) (a0 : Nat) (x1 : Int32) (x2 : Int32) : Option (Int32 × aH) :=
(if (sh a0).1 = 19 then
(aBind (f_X12_personOf h a0 x1 x2 1) fun r22 h23 =>
(if 0 ≤ hI h23 a0 21 then
f_X12_stays_43 2000 h23 a0 x1 x2 r22 0 0
else
(aBind (f_X12_likesOf h23 a0 x1 x2 r22) fun r24 h25 =>
((hR h25 a0 20).bind fun b26 =>
(if (sh b26).1 = 0 then
(if aIn 2 (sh b26).2 then
(if r24 < hI h25 b26 (2 : Int32).toNatClampNeg then
some (0, h25)
else
some (1, h25))
else none)
else none)))))
else none)
set_option maxHeartbeats 2000000 in
theorem s_X12_stays (h : aH) (a0 : Nat) (x1 : Int32) (x2 : Int32) : SO eI 5 kX12_stays [.ref a0, .int x1, .int x2] h (f_X12_stays h a0 x1 x2) := by
  refine so_of (lv0 := [some (.ref a0), some (.int x1), some (.int x2), none, none, none]) pn_X12 (Nat.le_of_ble_eq_true rfl) rfl ?_
  unfold f_X12_stays
  refine ao_s (st_aload_n dX12_stays_0 rfl rfl) ?_
  refine ao_s (st_iload_n dX12_stays_1 rfl rfl) ?_
  refine ao_s (st_iload_n dX12_stays_2 rfl rfl) ?_
  refine ao_s (st_iconst dX12_stays_3 ic_1) ?_
  refine ao_chk (fun e21 => ?_)
  refine ao_cVi (Kc := kX12_personOf) (As := [.int x1, .int x2, .int 1]) (st := []) dX12_stays_4 ml_X12_301 mv_X12_personOf rfl e21 (by decide) rfl rfl (Nat.le_of_ble_eq_true rfl) (by decide) (s_X12_personOf h a0 x1 x2 1) (fun r22 h23 => ?_)
  refine ao_s (st_istore_n (lv' := [some (.ref a0), some (.int x1), some (.int x2), some (.int r22), none, none]) dX12_stays_7 rfl (by decide) rfl) ?_
  refine ao_s (st_aload_n dX12_stays_8 rfl rfl) ?_
  refine ao_getI dX12_stays_9 fl_X12_42 rfl e21 ?_
  refine ao_br (br_if_ge (tgt := 37) dX12_stays_12 (by decide)) (fun c29 => ?_) (fun c29 => ?_)
  · refine ao_s (st_iconst dX12_stays_37 ic_0) ?_
    refine ao_s (st_istore (lv' := [some (.ref a0), some (.int x1), some (.int x2), some (.int r22), some (.int 0), none]) dX12_stays_38 (by decide) rfl) ?_
    refine ao_s (st_iconst dX12_stays_40 ic_0) ?_
    refine ao_s (st_istore (lv' := [some (.ref a0), some (.int x1), some (.int x2), some (.int r22), some (.int 0), some (.int 0)]) dX12_stays_41 (by decide) rfl) ?_
    exact ao_w (sb_s (sb_s (sb_s (sb_s (sb_s (sb_s sb_0)))))) (l_X12_stays_43 2000 h23 a0 x1 x2 r22 0 0)
  · refine ao_s (st_aload_n dX12_stays_15 rfl rfl) ?_
    refine ao_s (st_iload_n dX12_stays_16 rfl rfl) ?_
    refine ao_s (st_iload_n dX12_stays_17 rfl rfl) ?_
    refine ao_s (st_iload_n dX12_stays_18 rfl rfl) ?_
    refine ao_cVi (Kc := kX12_likesOf) (As := [.int x1, .int x2, .int r22]) (st := []) dX12_stays_19 ml_X12_305 mv_X12_likesOf rfl e21 (by decide) rfl rfl (Nat.le_of_ble_eq_true rfl) (by decide) (s_X12_likesOf h23 a0 x1 x2 r22) (fun r24 h25 => ?_)
    refine ao_s (st_aload_n dX12_stays_22 rfl rfl) ?_
    refine ao_getR dX12_stays_23 fl_X12_39 rfl e21 (fun b26 => ?_)
    refine ao_s (st_iconst dX12_stays_26 ic_2) ?_
    refine ao_chk (fun e27 => ?_)
    refine ao_iald dX12_stays_27 e27 ?_
    refine ao_br (br_icmp_lt (tgt := 35) dX12_stays_28 (by decide)) (fun c28 => ?_) (fun c28 => ?_)
    · refine ao_s (st_iconst dX12_stays_35 ic_0) ?_
      exact ao_ir dX12_stays_36 rfl (by decide)
    · refine ao_s (st_iconst dX12_stays_31 ic_1) ?_
      refine ao_s (st_goto 36 dX12_stays_32 (by decide)) ?_
      exact ao_ir dX12_stays_36 rfl (by decide)
def b_X12_asks_102 (k24 : aH → Nat → Int32 → Int32 → Int32 → Option (Int32 × aH)) (h : aH) (a0 : Nat) (x1 : Int32) (x2 : Int32) (x3 : Int32) : Option (Int32 × aH) :=
k24 h a0 x1 x2 (x3 + 1)
set_option maxHeartbeats 2000000 in
theorem t_X12_asks_102 {k24 : aH → Nat → Int32 → Int32 → Int32 → Option (Int32 × aH)} (hk24 : ∀ (h : aH) (a0 : Nat) (x1 : Int32) (x2 : Int32) (x3 : Int32), AO eI 5 kX12_asks 24 [some (.ref a0), some (.int x1), some (.int x2), some (.int x3)] [] h (k24 h a0 x1 x2 x3)) (h : aH) (a0 : Nat) (x1 : Int32) (x2 : Int32) (x3 : Int32) : AO eI 5 kX12_asks 102 [some (.ref a0), some (.int x1), some (.int x2), some (.int x3)] [] h (b_X12_asks_102 k24 h a0 x1 x2 x3) := by
  unfold b_X12_asks_102
  refine ao_s (st_iinc (lv' := [some (.ref a0), some (.int x1), some (.int x2), some (.int (x3 + 1))]) dX12_asks_102 rfl nc_1 (by decide) rfl) ?_
  refine ao_s (st_goto 24 dX12_asks_105 (by decide)) ?_
  exact ao_w (sb_s (sb_s (sb_s (sb_s sb_0)))) (hk24 h a0 x1 x2 (x3 + 1))
def b_X12_asks_100 (k24 : aH → Nat → Int32 → Int32 → Int32 → Option (Int32 × aH)) (h : aH) (a0 : Nat) (x1 : Int32) (x3 : Int32) : Option (Int32 × aH) :=
b_X12_asks_102 k24 h a0 x1 x3 x3
set_option maxHeartbeats 2000000 in
theorem t_X12_asks_100 {k24 : aH → Nat → Int32 → Int32 → Int32 → Option (Int32 × aH)} (hk24 : ∀ (h : aH) (a0 : Nat) (x1 : Int32) (x2 : Int32) (x3 : Int32), AO eI 5 kX12_asks 24 [some (.ref a0), some (.int x1), some (.int x2), some (.int x3)] [] h (k24 h a0 x1 x2 x3)) (h : aH) (a0 : Nat) (x1 : Int32) (x3 : Int32) : AO eI 5 kX12_asks 100 [some (.ref a0), some (.int x1), none, some (.int x3)] [] h (b_X12_asks_100 k24 h a0 x1 x3) := by
  unfold b_X12_asks_100
  refine ao_s (st_iload_n dX12_asks_100 rfl rfl) ?_
  refine ao_s (st_istore_n (lv' := [some (.ref a0), some (.int x1), some (.int x3), some (.int x3)]) dX12_asks_101 rfl (by decide) rfl) ?_
  exact ao_w (sb_s (sb_s (sb_s (sb_s sb_0)))) (t_X12_asks_102 hk24 h a0 x1 x3 x3)
def b_X12_asks_24 (k24 : aH → Nat → Int32 → Int32 → Int32 → Option (Int32 × aH)) (h : aH) (a0 : Nat) (x1 : Int32) (x2 : Int32) (x3 : Int32) : Option (Int32 × aH) :=
(if (sh a0).1 = 19 then
((hR h a0 20).bind fun b22 =>
(if (sh b22).1 = 0 then
(if aIn 4 (sh b22).2 then
(if hI h b22 (4 : Int32).toNatClampNeg ≤ x3 then
some (x2, h)
else
(aBind (f_X12_isFree h a0 1 x3) fun r24 h25 =>
(if r24 = 0 then
b_X12_asks_102 k24 h25 a0 x1 x2 x3
else
((hR h25 a0 25).bind fun b26 =>
(if (sh b26).1 = 0 then
(if aIn x1 (sh b26).2 then
(aBind (f_X12_isOf h25 (hI h25 b26 x1.toNatClampNeg) x3) fun r28 h29 =>
(if r28 = 0 then
((hR h29 a0 24).bind fun b30 =>
(if (sh b30).1 = 0 then
(if aIn x1 (sh b30).2 then
(if hI h29 b30 x1.toNatClampNeg = x3 then
b_X12_asks_102 k24 h29 a0 x1 x2 x3
else
(aBind (f_X12_likesOf h29 a0 0 x1 x3) fun r32 h33 =>
(if r32 = 0 then
b_X12_asks_102 k24 h33 a0 x1 x2 x3
else
(if x2 < 0 then
b_X12_asks_100 k24 h33 a0 x1 x3
else
(aBind (f_X12_likesOf h33 a0 0 x1 x3) fun r34 h35 =>
(aBind (f_X12_likesOf h35 a0 0 x1 x2) fun r36 h37 =>
(if r34 ≤ r36 then
b_X12_asks_102 k24 h37 a0 x1 x2 x3
else
b_X12_asks_100 k24 h37 a0 x1 x3)))))))
else none)
else none))
else
b_X12_asks_102 k24 h29 a0 x1 x2 x3))
else none)
else none)))))
else none)
else none))
else none)
set_option maxHeartbeats 2000000 in
theorem t_X12_asks_24 {k24 : aH → Nat → Int32 → Int32 → Int32 → Option (Int32 × aH)} (hk24 : ∀ (h : aH) (a0 : Nat) (x1 : Int32) (x2 : Int32) (x3 : Int32), AO eI 5 kX12_asks 24 [some (.ref a0), some (.int x1), some (.int x2), some (.int x3)] [] h (k24 h a0 x1 x2 x3)) (h : aH) (a0 : Nat) (x1 : Int32) (x2 : Int32) (x3 : Int32) : AO eI 5 kX12_asks 24 [some (.ref a0), some (.int x1), some (.int x2), some (.int x3)] [] h (b_X12_asks_24 k24 h a0 x1 x2 x3) := by
  unfold b_X12_asks_24
  refine ao_s (st_iload_n dX12_asks_24 rfl rfl) ?_
  refine ao_s (st_aload_n dX12_asks_25 rfl rfl) ?_
  refine ao_chk (fun e21 => ?_)
  refine ao_getR dX12_asks_26 fl_X12_39 rfl e21 (fun b22 => ?_)
  refine ao_s (st_iconst dX12_asks_29 ic_4) ?_
  refine ao_chk (fun e23 => ?_)
  refine ao_iald dX12_asks_30 e23 ?_
  refine ao_br (br_icmp_ge (tgt := 108) dX12_asks_31 (by decide)) (fun c44 => ?_) (fun c44 => ?_)
  · refine ao_s (st_iload_n dX12_asks_108 rfl rfl) ?_
    exact ao_ir dX12_asks_109 rfl rfl
  · refine ao_s (st_aload_n dX12_asks_34 rfl rfl) ?_
    refine ao_s (st_iconst dX12_asks_35 ic_1) ?_
    refine ao_s (st_iload_n dX12_asks_36 rfl rfl) ?_
    refine ao_cVi (Kc := kX12_isFree) (As := [.int 1, .int x3]) (st := []) dX12_asks_37 ml_X12_318 mv_X12_isFree rfl e21 (by decide) rfl rfl (Nat.le_of_ble_eq_true rfl) (by decide) (s_X12_isFree h a0 1 x3) (fun r24 h25 => ?_)
    refine ao_br (br_if_eq (tgt := 102) dX12_asks_40 (by decide)) (fun c43 => ?_) (fun c43 => ?_)
    · exact ao_w (sb_s (sb_s (sb_s (sb_s sb_0)))) (t_X12_asks_102 hk24 h25 a0 x1 x2 x3)
    · refine ao_s (st_aload_n dX12_asks_43 rfl rfl) ?_
      refine ao_getR dX12_asks_44 fl_X12_49 rfl e21 (fun b26 => ?_)
      refine ao_s (st_iload_n dX12_asks_47 rfl rfl) ?_
      refine ao_chk (fun e27 => ?_)
      refine ao_iald dX12_asks_48 e27 ?_
      refine ao_s (st_iload_n dX12_asks_49 rfl rfl) ?_
      refine ao_cSi (Kc := kX12_isOf) (As := [.int (hI h25 b26 x1.toNatClampNeg), .int x3]) (st := []) dX12_asks_50 ml_X12_308 ms_X12_isOf rfl rfl (Nat.le_of_ble_eq_true rfl) (by decide) (s_X12_isOf h25 (hI h25 b26 x1.toNatClampNeg) x3) (fun r28 h29 => ?_)
      refine ao_br (br_if_ne (tgt := 102) dX12_asks_53 (by decide)) (fun c42 => ?_) (fun c42 => ?_)
      · refine ao_s (st_aload_n dX12_asks_56 rfl rfl) ?_
        refine ao_getR dX12_asks_57 fl_X12_46 rfl e21 (fun b30 => ?_)
        refine ao_s (st_iload_n dX12_asks_60 rfl rfl) ?_
        refine ao_chk (fun e31 => ?_)
        refine ao_iald dX12_asks_61 e31 ?_
        refine ao_s (st_iload_n dX12_asks_62 rfl rfl) ?_
        refine ao_br (br_icmp_eq (tgt := 102) dX12_asks_63 (by decide)) (fun c41 => ?_) (fun c41 => ?_)
        · exact ao_w (sb_s (sb_s (sb_s (sb_s sb_0)))) (t_X12_asks_102 hk24 h29 a0 x1 x2 x3)
        · refine ao_s (st_aload_n dX12_asks_66 rfl rfl) ?_
          refine ao_s (st_iconst dX12_asks_67 ic_0) ?_
          refine ao_s (st_iload_n dX12_asks_68 rfl rfl) ?_
          refine ao_s (st_iload_n dX12_asks_69 rfl rfl) ?_
          refine ao_cVi (Kc := kX12_likesOf) (As := [.int 0, .int x1, .int x3]) (st := []) dX12_asks_70 ml_X12_305 mv_X12_likesOf rfl e21 (by decide) rfl rfl (Nat.le_of_ble_eq_true rfl) (by decide) (s_X12_likesOf h29 a0 0 x1 x3) (fun r32 h33 => ?_)
          refine ao_br (br_if_ne (tgt := 79) dX12_asks_73 (by decide)) (fun c40 => ?_) (fun c40 => ?_)
          · refine ao_s (st_goto 102 dX12_asks_76 (by decide)) ?_
            exact ao_w (sb_s (sb_s (sb_s (sb_s sb_0)))) (t_X12_asks_102 hk24 h33 a0 x1 x2 x3)
          · refine ao_s (st_iload_n dX12_asks_79 rfl rfl) ?_
            refine ao_br (br_if_lt (tgt := 100) dX12_asks_80 (by decide)) (fun c39 => ?_) (fun c39 => ?_)
            · exact ao_w (sb_s (sb_s (sb_n (sb_s sb_0)))) (t_X12_asks_100 hk24 h33 a0 x1 x3)
            · refine ao_s (st_aload_n dX12_asks_83 rfl rfl) ?_
              refine ao_s (st_iconst dX12_asks_84 ic_0) ?_
              refine ao_s (st_iload_n dX12_asks_85 rfl rfl) ?_
              refine ao_s (st_iload_n dX12_asks_86 rfl rfl) ?_
              refine ao_cVi (Kc := kX12_likesOf) (As := [.int 0, .int x1, .int x3]) (st := []) dX12_asks_87 ml_X12_305 mv_X12_likesOf rfl e21 (by decide) rfl rfl (Nat.le_of_ble_eq_true rfl) (by decide) (s_X12_likesOf h33 a0 0 x1 x3) (fun r34 h35 => ?_)
              refine ao_s (st_aload_n dX12_asks_90 rfl rfl) ?_
              refine ao_s (st_iconst dX12_asks_91 ic_0) ?_
              refine ao_s (st_iload_n dX12_asks_92 rfl rfl) ?_
              refine ao_s (st_iload_n dX12_asks_93 rfl rfl) ?_
              refine ao_cVi (Kc := kX12_likesOf) (As := [.int 0, .int x1, .int x2]) (st := [.int r34]) dX12_asks_94 ml_X12_305 mv_X12_likesOf rfl e21 (by decide) rfl rfl (Nat.le_of_ble_eq_true rfl) (by decide) (s_X12_likesOf h35 a0 0 x1 x2) (fun r36 h37 => ?_)
              refine ao_br (br_icmp_le (tgt := 102) dX12_asks_97 (by decide)) (fun c38 => ?_) (fun c38 => ?_)
              · exact ao_w (sb_s (sb_s (sb_s (sb_s sb_0)))) (t_X12_asks_102 hk24 h37 a0 x1 x2 x3)
              · exact ao_w (sb_s (sb_s (sb_n (sb_s sb_0)))) (t_X12_asks_100 hk24 h37 a0 x1 x3)
      · exact ao_w (sb_s (sb_s (sb_s (sb_s sb_0)))) (t_X12_asks_102 hk24 h29 a0 x1 x2 x3)
def f_X12_asks_24 (n : Nat) : aH → Nat → Int32 → Int32 → Int32 → Option (Int32 × aH) := aIt (fun _ _ _ _ _ => none) (fun k => b_X12_asks_24 k) n
theorem l_X12_asks_24 (n : Nat) : ∀ (h : aH) (a0 : Nat) (x1 : Int32) (x2 : Int32) (x3 : Int32), AO eI 5 kX12_asks 24 [some (.ref a0), some (.int x1), some (.int x2), some (.int x3)] [] h (f_X12_asks_24 n h a0 x1 x2 x3) := by
  induction n with
  | zero => intros; exact ao_none
  | succ n ih =>
    intro h a0 x1 x2 x3
    exact t_X12_asks_24 ih h a0 x1 x2 x3
def f_X12_asks (h : aH) (a0 : Nat) (x1 : Int32) : Option (Int32 × aH) :=
(if (sh a0).1 = 19 then
(aBind (f_X12_isFree h a0 0 x1) fun r22 h23 =>
(if r22 = 0 then
some ((-1), h23)
else
((hR h23 a0 26).bind fun b24 =>
(if (sh b24).1 = 2 then
(if aIn x1 (sh b24).2 then
(if hI h23 b24 x1.toNatClampNeg = 0 then
f_X12_asks_24 2000 h23 a0 x1 (-1) 0
else
some ((-1), h23))
else none)
else none))))
else none)
set_option maxHeartbeats 2000000 in
theorem s_X12_asks (h : aH) (a0 : Nat) (x1 : Int32) : SO eI 5 kX12_asks [.ref a0, .int x1] h (f_X12_asks h a0 x1) := by
  refine so_of (lv0 := [some (.ref a0), some (.int x1), none, none]) pn_X12 (Nat.le_of_ble_eq_true rfl) rfl ?_
  unfold f_X12_asks
  refine ao_s (st_iconst dX12_asks_0 ic_m1) ?_
  refine ao_s (st_istore_n (lv' := [some (.ref a0), some (.int x1), some (.int (-1)), none]) dX12_asks_1 rfl (by decide) rfl) ?_
  refine ao_s (st_aload_n dX12_asks_2 rfl rfl) ?_
  refine ao_s (st_iconst dX12_asks_3 ic_0) ?_
  refine ao_s (st_iload_n dX12_asks_4 rfl rfl) ?_
  refine ao_chk (fun e21 => ?_)
  refine ao_cVi (Kc := kX12_isFree) (As := [.int 0, .int x1]) (st := []) dX12_asks_5 ml_X12_318 mv_X12_isFree rfl e21 (by decide) rfl rfl (Nat.le_of_ble_eq_true rfl) (by decide) (s_X12_isFree h a0 0 x1) (fun r22 h23 => ?_)
  refine ao_br (br_if_eq (tgt := 20) dX12_asks_8 (by decide)) (fun c27 => ?_) (fun c27 => ?_)
  · refine ao_s (st_iconst dX12_asks_20 ic_m1) ?_
    exact ao_ir dX12_asks_21 rfl rfl
  · refine ao_s (st_aload_n dX12_asks_11 rfl rfl) ?_
    refine ao_getR dX12_asks_12 fl_X12_52 rfl e21 (fun b24 => ?_)
    refine ao_s (st_iload_n dX12_asks_15 rfl rfl) ?_
    refine ao_chk (fun e25 => ?_)
    refine ao_zald dX12_asks_16 e25 ?_
    refine ao_br (br_if_eq (tgt := 22) dX12_asks_17 (by decide)) (fun c26 => ?_) (fun c26 => ?_)
    · refine ao_s (st_iconst dX12_asks_22 ic_0) ?_
      refine ao_s (st_istore_n (lv' := [some (.ref a0), some (.int x1), some (.int (-1)), some (.int 0)]) dX12_asks_23 rfl (by decide) rfl) ?_
      exact ao_w (sb_s (sb_s (sb_s (sb_s sb_0)))) (l_X12_asks_24 2000 h23 a0 x1 (-1) 0)
    · refine ao_s (st_iconst dX12_asks_20 ic_m1) ?_
      exact ao_ir dX12_asks_21 rfl rfl
def b_X12_isAsked_62 (h : aH) (a0 : Nat) (x1 : Int32) (x2 : Int32) : Option (Unit × aH) :=
(if (sh a0).1 = 19 then
((hR h a0 27).bind fun b22 =>
(if (sh b22).1 = 0 then
(if aIn x2 (sh b22).2 then
(aLet (pI h b22 x2.toNatClampNeg x1) fun h24 =>
((hR h24 a0 26).bind fun b25 =>
(if (sh b25).1 = 2 then
(if aIn x1 (sh b25).2 then
(aLet (pI h24 b25 x1.toNatClampNeg (vp_nar .boolean 1)) fun h27 =>
some ((), h27))
else none)
else none)))
else none)
else none))
else none)
set_option maxHeartbeats 2000000 in
theorem t_X12_isAsked_62 (h : aH) (a0 : Nat) (x1 : Int32) (x2 : Int32) : AO eV 3 kX12_isAsked 62 [some (.ref a0), some (.int x1), some (.int x2), none] [] h (b_X12_isAsked_62 h a0 x1 x2) := by
  unfold b_X12_isAsked_62
  refine ao_s (st_aload_n dX12_isAsked_62 rfl rfl) ?_
  refine ao_chk (fun e21 => ?_)
  refine ao_getR dX12_isAsked_63 fl_X12_56 rfl e21 (fun b22 => ?_)
  refine ao_s (st_iload_n dX12_isAsked_66 rfl rfl) ?_
  refine ao_s (st_iload_n dX12_isAsked_67 rfl rfl) ?_
  refine ao_chk (fun e23 => ?_)
  refine ao_iast dX12_isAsked_68 e23 ?_
  refine ao_letH (fun h24 => ?_)
  refine ao_s (st_aload_n dX12_isAsked_69 rfl rfl) ?_
  refine ao_getR dX12_isAsked_70 fl_X12_52 rfl e21 (fun b25 => ?_)
  refine ao_s (st_iload_n dX12_isAsked_73 rfl rfl) ?_
  refine ao_s (st_iconst dX12_isAsked_74 ic_1) ?_
  refine ao_chk (fun e26 => ?_)
  refine ao_zast dX12_isAsked_75 e26 ?_
  refine ao_letH (fun h27 => ?_)
  exact ao_vr dX12_isAsked_76 rfl
def b_X12_isAsked_51 (h : aH) (a0 : Nat) (x1 : Int32) (x2 : Int32) (x3 : Int32) : Option (Unit × aH) :=
(if x3 < 0 then
b_X12_isAsked_62 h a0 x1 x2
else
(if (sh a0).1 = 19 then
((hR h a0 26).bind fun b22 =>
(if (sh b22).1 = 2 then
(if aIn x3 (sh b22).2 then
(aLet (pI h b22 x3.toNatClampNeg (vp_nar .boolean 0)) fun h24 =>
b_X12_isAsked_62 h24 a0 x1 x2)
else none)
else none))
else none))
set_option maxHeartbeats 2000000 in
theorem t_X12_isAsked_51 (h : aH) (a0 : Nat) (x1 : Int32) (x2 : Int32) (x3 : Int32) : AO eV 3 kX12_isAsked 51 [some (.ref a0), some (.int x1), some (.int x2), some (.int x3)] [] h (b_X12_isAsked_51 h a0 x1 x2 x3) := by
  unfold b_X12_isAsked_51
  refine ao_s (st_iload_n dX12_isAsked_51 rfl rfl) ?_
  refine ao_br (br_if_lt (tgt := 62) dX12_isAsked_52 (by decide)) (fun c25 => ?_) (fun c25 => ?_)
  · exact ao_w (sb_s (sb_s (sb_s (sb_n sb_0)))) (t_X12_isAsked_62 h a0 x1 x2)
  · refine ao_s (st_aload_n dX12_isAsked_55 rfl rfl) ?_
    refine ao_chk (fun e21 => ?_)
    refine ao_getR dX12_isAsked_56 fl_X12_52 rfl e21 (fun b22 => ?_)
    refine ao_s (st_iload_n dX12_isAsked_59 rfl rfl) ?_
    refine ao_s (st_iconst dX12_isAsked_60 ic_0) ?_
    refine ao_chk (fun e23 => ?_)
    refine ao_zast dX12_isAsked_61 e23 ?_
    refine ao_letH (fun h24 => ?_)
    exact ao_w (sb_s (sb_s (sb_s (sb_n sb_0)))) (t_X12_isAsked_62 h24 a0 x1 x2)
def f_X12_isAsked (h : aH) (a0 : Nat) (x1 : Int32) (x2 : Int32) : Option (Unit × aH) :=
(if (sh a0).1 = 19 then
((hR h a0 25).bind fun b22 =>
(if (sh b22).1 = 0 then
(if aIn x1 (sh b22).2 then
(if aIn x1 (sh b22).2 then
(aLet (pI h b22 x1.toNatClampNeg ((hI h b22 x1.toNatClampNeg) ||| (1 <<< (x2 &&& 31)))) fun h24 =>
((hR h24 a0 27).bind fun b25 =>
(if (sh b25).1 = 0 then
(if aIn x2 (sh b25).2 then
(aLet (hI h24 b25 x2.toNatClampNeg) fun x27 =>
(aBind (f_X12_likesOf h24 a0 1 x2 x1) fun r28 h29 =>
(if r28 = 0 then
some ((), h29)
else
(if x27 < 0 then
b_X12_isAsked_51 h29 a0 x1 x2 x27
else
(aBind (f_X12_likesOf h29 a0 1 x2 x1) fun r30 h31 =>
(aBind (f_X12_likesOf h31 a0 1 x2 x27) fun r32 h33 =>
(if r32 < r30 then
b_X12_isAsked_51 h33 a0 x1 x2 x27
else
some ((), h33))))))))
else none)
else none)))
else none)
else none)
else none))
else none)
set_option maxHeartbeats 2000000 in
theorem s_X12_isAsked (h : aH) (a0 : Nat) (x1 : Int32) (x2 : Int32) : SO eV 3 kX12_isAsked [.ref a0, .int x1, .int x2] h (f_X12_isAsked h a0 x1 x2) := by
  refine so_of (lv0 := [some (.ref a0), some (.int x1), some (.int x2), none]) pn_X12 (Nat.le_of_ble_eq_true rfl) rfl ?_
  unfold f_X12_isAsked
  refine ao_s (st_aload_n dX12_isAsked_0 rfl rfl) ?_
  refine ao_chk (fun e21 => ?_)
  refine ao_getR dX12_isAsked_1 fl_X12_49 rfl e21 (fun b22 => ?_)
  refine ao_s (st_iload_n dX12_isAsked_4 rfl rfl) ?_
  refine ao_s (st_dup2 dX12_isAsked_5 rfl rfl) ?_
  refine ao_chk (fun e23 => ?_)
  refine ao_iald dX12_isAsked_6 e23 ?_
  refine ao_s (st_iconst dX12_isAsked_7 ic_1) ?_
  refine ao_s (st_iload_n dX12_isAsked_8 rfl rfl) ?_
  refine ao_s (st_ishl dX12_isAsked_9) ?_
  refine ao_s (st_ior dX12_isAsked_10) ?_
  refine ao_iast dX12_isAsked_11 e23 ?_
  refine ao_letH (fun h24 => ?_)
  refine ao_s (st_aload_n dX12_isAsked_12 rfl rfl) ?_
  refine ao_getR dX12_isAsked_13 fl_X12_56 rfl e21 (fun b25 => ?_)
  refine ao_s (st_iload_n dX12_isAsked_16 rfl rfl) ?_
  refine ao_chk (fun e26 => ?_)
  refine ao_iald dX12_isAsked_17 e26 ?_
  refine ao_letI (fun x27 => ?_)
  refine ao_s (st_istore_n (lv' := [some (.ref a0), some (.int x1), some (.int x2), some (.int x27)]) dX12_isAsked_18 rfl (by decide) rfl) ?_
  refine ao_s (st_aload_n dX12_isAsked_19 rfl rfl) ?_
  refine ao_s (st_iconst dX12_isAsked_20 ic_1) ?_
  refine ao_s (st_iload_n dX12_isAsked_21 rfl rfl) ?_
  refine ao_s (st_iload_n dX12_isAsked_22 rfl rfl) ?_
  refine ao_cVi (Kc := kX12_likesOf) (As := [.int 1, .int x2, .int x1]) (st := []) dX12_isAsked_23 ml_X12_305 mv_X12_likesOf rfl e21 (by decide) rfl rfl (Nat.le_of_ble_eq_true rfl) (by decide) (s_X12_likesOf h24 a0 1 x2 x1) (fun r28 h29 => ?_)
  refine ao_br (br_if_eq (tgt := 50) dX12_isAsked_26 (by decide)) (fun c36 => ?_) (fun c36 => ?_)
  · exact ao_vr dX12_isAsked_50 rfl
  · refine ao_s (st_iload_n dX12_isAsked_29 rfl rfl) ?_
    refine ao_br (br_if_lt (tgt := 51) dX12_isAsked_30 (by decide)) (fun c35 => ?_) (fun c35 => ?_)
    · exact ao_w (sb_s (sb_s (sb_s (sb_s sb_0)))) (t_X12_isAsked_51 h29 a0 x1 x2 x27)
    · refine ao_s (st_aload_n dX12_isAsked_33 rfl rfl) ?_
      refine ao_s (st_iconst dX12_isAsked_34 ic_1) ?_
      refine ao_s (st_iload_n dX12_isAsked_35 rfl rfl) ?_
      refine ao_s (st_iload_n dX12_isAsked_36 rfl rfl) ?_
      refine ao_cVi (Kc := kX12_likesOf) (As := [.int 1, .int x2, .int x1]) (st := []) dX12_isAsked_37 ml_X12_305 mv_X12_likesOf rfl e21 (by decide) rfl rfl (Nat.le_of_ble_eq_true rfl) (by decide) (s_X12_likesOf h29 a0 1 x2 x1) (fun r30 h31 => ?_)
      refine ao_s (st_aload_n dX12_isAsked_40 rfl rfl) ?_
      refine ao_s (st_iconst dX12_isAsked_41 ic_1) ?_
      refine ao_s (st_iload_n dX12_isAsked_42 rfl rfl) ?_
      refine ao_s (st_iload_n dX12_isAsked_43 rfl rfl) ?_
      refine ao_cVi (Kc := kX12_likesOf) (As := [.int 1, .int x2, .int x27]) (st := [.int r30]) dX12_isAsked_44 ml_X12_305 mv_X12_likesOf rfl e21 (by decide) rfl rfl (Nat.le_of_ble_eq_true rfl) (by decide) (s_X12_likesOf h31 a0 1 x2 x27) (fun r32 h33 => ?_)
      refine ao_br (br_icmp_gt (tgt := 51) dX12_isAsked_47 (by decide)) (fun c34 => ?_) (fun c34 => ?_)
      · exact ao_w (sb_s (sb_s (sb_s (sb_s sb_0)))) (t_X12_isAsked_51 h33 a0 x1 x2 x27)
      · exact ao_vr dX12_isAsked_50 rfl
