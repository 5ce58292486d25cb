def f_X12_one (h : aH) (x0 : Int32) (x1 : Int64) (x3 : Int64) : Option (Int64 × aH) :=
(if x0 = 2 then
some (x1 + x3, h)
else
(if x0 = 3 then
some (x1 - x3, h)
else
(if x0 = 4 then
some (x1 * x3, h)
else
(if x0 = 5 then
(if lg_cmp x3 0 = 0 then
some (0, h)
else
(if x3 = 0 then none else
some (x1 / x3, h)))
else
(if x0 = 6 then
(if 0 ≤ lg_cmp x1 x3 then
some (0, h)
else
some (1, h))
else
(if x0 = 7 then
(if 0 < lg_cmp x1 x3 then
some (0, h)
else
some (1, h))
else
(if x0 = 8 then
(if lg_cmp x1 x3 = 0 then
some (1, h)
else
some (0, h))
else
(if x0 = 9 then
(if lg_cmp x1 x3 < 0 then
some (0, h)
else
some (1, h))
else
(if x0 = 10 then
(if lg_cmp x1 x3 ≤ 0 then
some (0, h)
else
some (1, h))
else
(if x0 = 11 then
some (x1 ||| x3, h)
else
(if x0 = 12 then
some (x1 &&& x3, h)
else
(if x0 = 13 then
some (x1 ||| x3, h)
else
(if x0 = 14 then
(if lg_cmp x3 0 = 0 then
some (0, h)
else
(if x3 = 0 then none else
some (x1 - x1 / x3 * x3, h)))
else
some (x1 ||| x3, h))))))))))))))
set_option maxHeartbeats 2000000 in
theorem s_X12_one (h : aH) (x0 : Int32) (x1 : Int64) (x3 : Int64) : SO eL 2 kX12_one [.int x0, .long x1, .long x3] h (f_X12_one h x0 x1 x3) := by
  refine so_of (lv0 := [some (.int x0), some (.long x1), none, some (.long x3), none]) pn_X12 (Nat.le_of_ble_eq_true rfl) rfl ?_
  unfold f_X12_one
  refine ao_s (st_iload_n dX12_one_0 rfl rfl) ?_
  refine ao_ite (fun c21 => ?_) (fun c21 => ?_)
  · refine ao_s (st_tabIn (v := 2) (off := 67) (tgt := 68) c21 dX12_one_1 (by decide) (by decide)) ?_
    refine ao_s (st_lload_n dX12_one_68 rfl rfl) ?_
    refine ao_s (st_lload_n dX12_one_69 rfl rfl) ?_
    refine ao_s (st_ladd dX12_one_70) ?_
    exact ao_lr dX12_one_71 rfl
  · refine ao_ite (fun c22 => ?_) (fun c22 => ?_)
    · refine ao_s (st_tabIn (v := 3) (off := 71) (tgt := 72) c22 dX12_one_1 (by decide) (by decide)) ?_
      refine ao_s (st_lload_n dX12_one_72 rfl rfl) ?_
      refine ao_s (st_lload_n dX12_one_73 rfl rfl) ?_
      refine ao_s (st_lsub dX12_one_74) ?_
      exact ao_lr dX12_one_75 rfl
    · refine ao_ite (fun c23 => ?_) (fun c23 => ?_)
      · refine ao_s (st_tabIn (v := 4) (off := 75) (tgt := 76) c23 dX12_one_1 (by decide) (by decide)) ?_
        refine ao_s (st_lload_n dX12_one_76 rfl rfl) ?_
        refine ao_s (st_lload_n dX12_one_77 rfl rfl) ?_
        refine ao_s (st_lmul dX12_one_78) ?_
        exact ao_lr dX12_one_79 rfl
      · refine ao_ite (fun c24 => ?_) (fun c24 => ?_)
        · refine ao_s (st_tabIn (v := 5) (off := 79) (tgt := 80) c24 dX12_one_1 (by decide) (by decide)) ?_
          refine ao_s (st_lload_n dX12_one_80 rfl rfl) ?_
          refine ao_s (st_lconst dX12_one_81 lc_0) ?_
          refine ao_s (st_lcmp dX12_one_82) ?_
          refine ao_br (br_if_ne (tgt := 90) dX12_one_83 (by decide)) (fun c35 => ?_) (fun c35 => ?_)
          · refine ao_s (st_lconst dX12_one_86 lc_0) ?_
            refine ao_s (st_goto 93 dX12_one_87 (by decide)) ?_
            exact ao_lr dX12_one_93 rfl
          · refine ao_s (st_lload_n dX12_one_90 rfl rfl) ?_
            refine ao_s (st_lload_n dX12_one_91 rfl rfl) ?_
            refine ao_ite (fun _ => ao_none) (fun c34 => ?_)
            refine ao_s (st_ldiv dX12_one_92 c34) ?_
            exact ao_lr dX12_one_93 rfl
        · refine ao_ite (fun c25 => ?_) (fun c25 => ?_)
          · refine ao_s (st_tabIn (v := 6) (off := 107) (tgt := 108) c25 dX12_one_1 (by decide) (by decide)) ?_
            refine ao_s (st_lload_n dX12_one_108 rfl rfl) ?_
            refine ao_s (st_lload_n dX12_one_109 rfl rfl) ?_
            refine ao_s (st_lcmp dX12_one_110) ?_
            refine ao_br (br_if_ge (tgt := 118) dX12_one_111 (by decide)) (fun c36 => ?_) (fun c36 => ?_)
            · refine ao_s (st_lconst dX12_one_118 lc_0) ?_
              exact ao_lr dX12_one_119 rfl
            · refine ao_s (st_lconst dX12_one_114 lc_1) ?_
              refine ao_s (st_goto 119 dX12_one_115 (by decide)) ?_
              exact ao_lr dX12_one_119 rfl
          · refine ao_ite (fun c26 => ?_) (fun c26 => ?_)
            · refine ao_s (st_tabIn (v := 7) (off := 119) (tgt := 120) c26 dX12_one_1 (by decide) (by decide)) ?_
              refine ao_s (st_lload_n dX12_one_120 rfl rfl) ?_
              refine ao_s (st_lload_n dX12_one_121 rfl rfl) ?_
              refine ao_s (st_lcmp dX12_one_122) ?_
              refine ao_br (br_if_gt (tgt := 130) dX12_one_123 (by decide)) (fun c37 => ?_) (fun c37 => ?_)
              · refine ao_s (st_lconst dX12_one_130 lc_0) ?_
                exact ao_lr dX12_one_131 rfl
              · refine ao_s (st_lconst dX12_one_126 lc_1) ?_
                refine ao_s (st_goto 131 dX12_one_127 (by decide)) ?_
                exact ao_lr dX12_one_131 rfl
            · refine ao_ite (fun c27 => ?_) (fun c27 => ?_)
              · refine ao_s (st_tabIn (v := 8) (off := 131) (tgt := 132) c27 dX12_one_1 (by decide) (by decide)) ?_
                refine ao_s (st_lload_n dX12_one_132 rfl rfl) ?_
                refine ao_s (st_lload_n dX12_one_133 rfl rfl) ?_
                refine ao_s (st_lcmp dX12_one_134) ?_
                refine ao_br (br_if_ne (tgt := 142) dX12_one_135 (by decide)) (fun c38 => ?_) (fun c38 => ?_)
                · refine ao_s (st_lconst dX12_one_138 lc_1) ?_
                  refine ao_s (st_goto 143 dX12_one_139 (by decide)) ?_
                  exact ao_lr dX12_one_143 rfl
                · refine ao_s (st_lconst dX12_one_142 lc_0) ?_
                  exact ao_lr dX12_one_143 rfl
              · refine ao_ite (fun c28 => ?_) (fun c28 => ?_)
                · refine ao_s (st_tabIn (v := 9) (off := 143) (tgt := 144) c28 dX12_one_1 (by decide) (by decide)) ?_
                  refine ao_s (st_lload_n dX12_one_144 rfl rfl) ?_
                  refine ao_s (st_lload_n dX12_one_145 rfl rfl) ?_
                  refine ao_s (st_lcmp dX12_one_146) ?_
                  refine ao_br (br_if_lt (tgt := 154) dX12_one_147 (by decide)) (fun c39 => ?_) (fun c39 => ?_)
                  · refine ao_s (st_lconst dX12_one_154 lc_0) ?_
                    exact ao_lr dX12_one_155 rfl
                  · refine ao_s (st_lconst dX12_one_150 lc_1) ?_
                    refine ao_s (st_goto 155 dX12_one_151 (by decide)) ?_
                    exact ao_lr dX12_one_155 rfl
                · refine ao_ite (fun c29 => ?_) (fun c29 => ?_)
                  · refine ao_s (st_tabIn (v := 10) (off := 155) (tgt := 156) c29 dX12_one_1 (by decide) (by decide)) ?_
                    refine ao_s (st_lload_n dX12_one_156 rfl rfl) ?_
                    refine ao_s (st_lload_n dX12_one_157 rfl rfl) ?_
                    refine ao_s (st_lcmp dX12_one_158) ?_
                    refine ao_br (br_if_le (tgt := 166) dX12_one_159 (by decide)) (fun c40 => ?_) (fun c40 => ?_)
                    · refine ao_s (st_lconst dX12_one_166 lc_0) ?_
                      exact ao_lr dX12_one_167 rfl
                    · refine ao_s (st_lconst dX12_one_162 lc_1) ?_
                      refine ao_s (st_goto 167 dX12_one_163 (by decide)) ?_
                      exact ao_lr dX12_one_167 rfl
                  · refine ao_ite (fun c30 => ?_) (fun c30 => ?_)
                    · refine ao_s (st_tabIn (v := 11) (off := 171) (tgt := 172) c30 dX12_one_1 (by decide) (by decide)) ?_
                      refine ao_s (st_lload_n dX12_one_172 rfl rfl) ?_
                      refine ao_s (st_lload_n dX12_one_173 rfl rfl) ?_
                      refine ao_s (st_lor dX12_one_174) ?_
                      exact ao_lr dX12_one_175 rfl
                    · refine ao_ite (fun c31 => ?_) (fun c31 => ?_)
                      · refine ao_s (st_tabIn (v := 12) (off := 167) (tgt := 168) c31 dX12_one_1 (by decide) (by decide)) ?_
                        refine ao_s (st_lload_n dX12_one_168 rfl rfl) ?_
                        refine ao_s (st_lload_n dX12_one_169 rfl rfl) ?_
                        refine ao_s (st_land dX12_one_170) ?_
                        exact ao_lr dX12_one_171 rfl
                      · refine ao_ite (fun c32 => ?_) (fun c32 => ?_)
                        · refine ao_s (st_tabIn (v := 13) (off := 171) (tgt := 172) c32 dX12_one_1 (by decide) (by decide)) ?_
                          refine ao_s (st_lload_n dX12_one_172 rfl rfl) ?_
                          refine ao_s (st_lload_n dX12_one_173 rfl rfl) ?_
                          refine ao_s (st_lor dX12_one_174) ?_
                          exact ao_lr dX12_one_175 rfl
                        · refine ao_ite (fun c33 => ?_) (fun c33 => ?_)
                          · refine ao_s (st_tabIn (v := 14) (off := 93) (tgt := 94) c33 dX12_one_1 (by decide) (by decide)) ?_
                            refine ao_s (st_lload_n dX12_one_94 rfl rfl) ?_
                            refine ao_s (st_lconst dX12_one_95 lc_0) ?_
                            refine ao_s (st_lcmp dX12_one_96) ?_
                            refine ao_br (br_if_ne (tgt := 104) dX12_one_97 (by decide)) (fun c42 => ?_) (fun c42 => ?_)
                            · refine ao_s (st_lconst dX12_one_100 lc_0) ?_
                              refine ao_s (st_goto 107 dX12_one_101 (by decide)) ?_
                              exact ao_lr dX12_one_107 rfl
                            · refine ao_s (st_lload_n dX12_one_104 rfl rfl) ?_
                              refine ao_s (st_lload_n dX12_one_105 rfl rfl) ?_
                              refine ao_ite (fun _ => ao_none) (fun c41 => ?_)
                              refine ao_s (st_lrem dX12_one_106 c41) ?_
                              exact ao_lr dX12_one_107 rfl
                          · refine ao_s (st_tabOut (tgt := 172) dX12_one_1 (by have q0 := lv_neT c21 (show (2 : Int32).toInt = 2 by decide); have q1 := lv_neT c22 (show (3 : Int32).toInt = 3 by decide); have q2 := lv_neT c23 (show (4 : Int32).toInt = 4 by decide); have q3 := lv_neT c24 (show (5 : Int32).toInt = 5 by decide); have q4 := lv_neT c25 (show (6 : Int32).toInt = 6 by decide); have q5 := lv_neT c26 (show (7 : Int32).toInt = 7 by decide); have q6 := lv_neT c27 (show (8 : Int32).toInt = 8 by decide); have q7 := lv_neT c28 (show (9 : Int32).toInt = 9 by decide); have q8 := lv_neT c29 (show (10 : Int32).toInt = 10 by decide); have q9 := lv_neT c30 (show (11 : Int32).toInt = 11 by decide); have q10 := lv_neT c31 (show (12 : Int32).toInt = 12 by decide); have q11 := lv_neT c32 (show (13 : Int32).toInt = 13 by decide); have q12 := lv_neT c33 (show (14 : Int32).toInt = 14 by decide); omega) (by decide)) ?_
                            refine ao_s (st_lload_n dX12_one_172 rfl rfl) ?_
                            refine ao_s (st_lload_n dX12_one_173 rfl rfl) ?_
                            refine ao_s (st_lor dX12_one_174) ?_
                            exact ao_lr dX12_one_175 rfl
def b_X12_reckons_129 (k8 : aH → Nat → Int32 → Int32 → Int32 → Option (Int64 × aH)) (h : aH) (a0 : Nat) (x1 : Int32) (x3 : Int32) (x4 : Int32) : Option (Int64 × aH) :=
k8 h a0 x1 x3 (x4 + 1)
set_option maxHeartbeats 2000000 in
theorem t_X12_reckons_129 {k8 : aH → Nat → Int32 → Int32 → Int32 → Option (Int64 × aH)} (hk8 : ∀ (h : aH) (a0 : Nat) (x1 : Int32) (x3 : Int32) (x4 : Int32) {z2 : Option Value} {z5 : Option Value} {z6 : Option Value} {z7 : Option Value} {z8 : Option Value} {z9 : Option Value} {z10 : Option Value}, AO eL 3 kX12_reckons 8 [some (.ref a0), some (.int x1), z2, some (.int x3), some (.int x4), z5, z6, z7, z8, z9, z10] [] h (k8 h a0 x1 x3 x4)) (h : aH) (a0 : Nat) (x1 : Int32) (x3 : Int32) (x4 : Int32) {z2 : Option Value} {z5 : Option Value} {z6 : Option Value} {z7 : Option Value} {z8 : Option Value} {z9 : Option Value} {z10 : Option Value} : AO eL 3 kX12_reckons 129 [some (.ref a0), some (.int x1), z2, some (.int x3), some (.int x4), z5, z6, z7, z8, z9, z10] [] h (b_X12_reckons_129 k8 h a0 x1 x3 x4) := by
  unfold b_X12_reckons_129
  refine ao_s (st_iinc (lv' := [some (.ref a0), some (.int x1), z2, some (.int x3), some (.int (x4 + 1)), z5, z6, z7, z8, z9, z10]) dX12_reckons_129 rfl nc_1 (by decide) rfl) ?_
  refine ao_s (st_goto 8 dX12_reckons_132 (by decide)) ?_
  exact hk8 h a0 x1 x3 (x4 + 1)
def b_X12_reckons_8 (k8 : aH → Nat → Int32 → Int32 → Int32 → Option (Int64 × aH)) (h : aH) (a0 : Nat) (x1 : Int32) (x3 : Int32) (x4 : Int32) : Option (Int64 × aH) :=
(if x3 ≤ x4 then
(if (sh a0).1 = 19 then
(aBind (f_X12_pop h a0) fun r22 h23 =>
some (r22, h23))
else none)
else
(if (sh a0).1 = 19 then
((hR h a0 3).bind fun b25 =>
(aLet ((400 * x1) + x4) fun x26 =>
(if (sh b25).1 = 0 then
(if aIn x26 (sh b25).2 then
(aLet ((hI h b25 x26.toNatClampNeg) &&& 15) fun x28 =>
((hR h a0 3).bind fun b29 =>
(aLet ((400 * x1) + x4) fun x30 =>
(if (sh b29).1 = 0 then
(if aIn x30 (sh b29).2 then
(aLet ((hI h b29 x30.toNatClampNeg) >>> (4 &&& 31)) fun x32 =>
(if x28 = 0 then
(aBind (f_X12_push h a0 x32.toInt64) fun r33 h34 =>
b_X12_reckons_129 k8 h34 a0 x1 x3 x4)
else
(if x28 = 1 then
((hR h a0 19).bind fun b35 =>
(if (sh b35).1 = 3 then
(if aIn x32 (sh b35).2 then
(aBind (f_X12_push h a0 (hL h b35 x32.toNatClampNeg)) fun r37 h38 =>
b_X12_reckons_129 k8 h38 a0 x1 x3 x4)
else none)
else none))
else
(if x28 = 11 then
(aBind (f_X12_pop h a0) fun r39 h40 =>
(aBind (f_X12_push h40 a0 (1 - r39)) fun r41 h42 =>
b_X12_reckons_129 k8 h42 a0 x1 x3 x4))
else
(aBind (f_X12_pop h a0) fun r43 h44 =>
(aBind (f_X12_pop h44 a0) fun r45 h46 =>
(aBind (f_X12_one h46 x28 r45 r43) fun r47 h48 =>
(aBind (f_X12_push h48 a0 r47) fun r49 h50 =>
b_X12_reckons_129 k8 h50 a0 x1 x3 x4))))))))
else none)
else none))))
else none)
else none)))
else none))
set_option maxHeartbeats 2000000 in
theorem t_X12_reckons_8 {k8 : aH → Nat → Int32 → Int32 → Int32 → Option (Int64 × aH)} (hk8 : ∀ (h : aH) (a0 : Nat) (x1 : Int32) (x3 : Int32) (x4 : Int32) {z2 : Option Value} {z5 : Option Value} {z6 : Option Value} {z7 : Option Value} {z8 : Option Value} {z9 : Option Value} {z10 : Option Value}, AO eL 3 kX12_reckons 8 [some (.ref a0), some (.int x1), z2, some (.int x3), some (.int x4), z5, z6, z7, z8, z9, z10] [] h (k8 h a0 x1 x3 x4)) (h : aH) (a0 : Nat) (x1 : Int32) (x3 : Int32) (x4 : Int32) {z2 : Option Value} {z5 : Option Value} {z6 : Option Value} {z7 : Option Value} {z8 : Option Value} {z9 : Option Value} {z10 : Option Value} : AO eL 3 kX12_reckons 8 [some (.ref a0), some (.int x1), z2, some (.int x3), some (.int x4), z5, z6, z7, z8, z9, z10] [] h (b_X12_reckons_8 k8 h a0 x1 x3 x4) := by
  unfold b_X12_reckons_8
  refine ao_s (st_iload dX12_reckons_8 rfl) ?_
  refine ao_s (st_iload_n dX12_reckons_10 rfl rfl) ?_
  refine ao_br (br_icmp_ge (tgt := 135) dX12_reckons_11 (by decide)) (fun c54 => ?_) (fun c54 => ?_)
  · refine ao_s (st_aload_n dX12_reckons_135 rfl rfl) ?_
    refine ao_chk (fun e21 => ?_)
    refine ao_cVl (As := []) (st := []) dX12_reckons_136 ml_X12_289 mv_X12_pop rfl e21 (by decide) rfl rfl (Nat.le_of_ble_eq_true rfl) (by decide) (s_X12_pop h a0) (fun r22 h23 => ?_)
    exact ao_lr dX12_reckons_139 rfl
  · refine ao_s (st_aload_n dX12_reckons_14 rfl rfl) ?_
    refine ao_chk (fun e24 => ?_)
    refine ao_getR dX12_reckons_15 fl_X12_13 rfl e24 (fun b25 => ?_)
    refine ao_s (st_sipush dX12_reckons_18 sp_400) ?_
    refine ao_s (st_iload_n dX12_reckons_21 rfl rfl) ?_
    refine ao_s (st_imul dX12_reckons_22) ?_
    refine ao_s (st_iload dX12_reckons_23 rfl) ?_
    refine ao_s (st_iadd dX12_reckons_25) ?_
    refine ao_letI (fun x26 => ?_)
    refine ao_chk (fun e27 => ?_)
    refine ao_iald dX12_reckons_26 e27 ?_
    refine ao_s (st_bipush dX12_reckons_27 bp_15) ?_
    refine ao_s (st_iand dX12_reckons_29) ?_
    refine ao_letI (fun x28 => ?_)
    refine ao_s (st_istore (lv' := [some (.ref a0), some (.int x1), z2, some (.int x3), some (.int x4), some (.int x28), z6, z7, z8, z9, z10]) dX12_reckons_30 (by decide) rfl) ?_
    refine ao_s (st_aload_n dX12_reckons_32 rfl rfl) ?_
    refine ao_getR dX12_reckons_33 fl_X12_13 rfl e24 (fun b29 => ?_)
    refine ao_s (st_sipush dX12_reckons_36 sp_400) ?_
    refine ao_s (st_iload_n dX12_reckons_39 rfl rfl) ?_
    refine ao_s (st_imul dX12_reckons_40) ?_
    refine ao_s (st_iload dX12_reckons_41 rfl) ?_
    refine ao_s (st_iadd dX12_reckons_43) ?_
    refine ao_letI (fun x30 => ?_)
    refine ao_chk (fun e31 => ?_)
    refine ao_iald dX12_reckons_44 e31 ?_
    refine ao_s (st_iconst dX12_reckons_45 ic_4) ?_
    refine ao_s (st_ishr dX12_reckons_46) ?_
    refine ao_letI (fun x32 => ?_)
    refine ao_s (st_istore (lv' := [some (.ref a0), some (.int x1), z2, some (.int x3), some (.int x4), some (.int x28), some (.int x32), z7, z8, z9, z10]) dX12_reckons_47 (by decide) rfl) ?_
    refine ao_s (st_iload dX12_reckons_49 rfl) ?_
    refine ao_br (br_if_ne (tgt := 64) dX12_reckons_51 (by decide)) (fun c53 => ?_) (fun c53 => ?_)
    · refine ao_s (st_aload_n dX12_reckons_54 rfl rfl) ?_
      refine ao_s (st_iload dX12_reckons_55 rfl) ?_
      refine ao_s (st_i2l dX12_reckons_57) ?_
      refine ao_cVv (As := [.long x32.toInt64]) (st := []) dX12_reckons_58 ml_X12_285 mv_X12_push rfl e24 (by decide) rfl rfl (Nat.le_of_ble_eq_true rfl) (by decide) (s_X12_push h a0 x32.toInt64) (fun r33 h34 => ?_)
      refine ao_s (st_goto 129 dX12_reckons_61 (by decide)) ?_
      exact t_X12_reckons_129 hk8 h34 a0 x1 x3 x4
    · refine ao_s (st_iload dX12_reckons_64 rfl) ?_
      refine ao_s (st_iconst dX12_reckons_66 ic_1) ?_
      refine ao_br (br_icmp_ne (tgt := 84) dX12_reckons_67 (by decide)) (fun c52 => ?_) (fun c52 => ?_)
      · refine ao_s (st_aload_n dX12_reckons_70 rfl rfl) ?_
        refine ao_s (st_aload_n dX12_reckons_71 rfl rfl) ?_
        refine ao_getR dX12_reckons_72 fl_X12_36 rfl e24 (fun b35 => ?_)
        refine ao_s (st_iload dX12_reckons_75 rfl) ?_
        refine ao_chk (fun e36 => ?_)
        refine ao_lald dX12_reckons_77 e36 ?_
        refine ao_cVv (As := [.long (hL h b35 x32.toNatClampNeg)]) (st := []) dX12_reckons_78 ml_X12_285 mv_X12_push rfl e24 (by decide) rfl rfl (Nat.le_of_ble_eq_true rfl) (by decide) (s_X12_push h a0 (hL h b35 x32.toNatClampNeg)) (fun r37 h38 => ?_)
        refine ao_s (st_goto 129 dX12_reckons_81 (by decide)) ?_
        exact t_X12_reckons_129 hk8 h38 a0 x1 x3 x4
      · refine ao_s (st_iload dX12_reckons_84 rfl) ?_
        refine ao_s (st_bipush dX12_reckons_86 bp_11) ?_
        refine ao_br (br_icmp_ne (tgt := 104) dX12_reckons_88 (by decide)) (fun c51 => ?_) (fun c51 => ?_)
        · refine ao_s (st_aload_n dX12_reckons_91 rfl rfl) ?_
          refine ao_s (st_lconst dX12_reckons_92 lc_1) ?_
          refine ao_s (st_aload_n dX12_reckons_93 rfl rfl) ?_
          refine ao_cVl (As := []) (st := [.long 1, .ref a0]) dX12_reckons_94 ml_X12_289 mv_X12_pop rfl e24 (by decide) rfl rfl (Nat.le_of_ble_eq_true rfl) (by decide) (s_X12_pop h a0) (fun r39 h40 => ?_)
          refine ao_s (st_lsub dX12_reckons_97) ?_
          refine ao_cVv (As := [.long (1 - r39)]) (st := []) dX12_reckons_98 ml_X12_285 mv_X12_push rfl e24 (by decide) rfl rfl (Nat.le_of_ble_eq_true rfl) (by decide) (s_X12_push h40 a0 (1 - r39)) (fun r41 h42 => ?_)
          refine ao_s (st_goto 129 dX12_reckons_101 (by decide)) ?_
          exact t_X12_reckons_129 hk8 h42 a0 x1 x3 x4
        · refine ao_s (st_aload_n dX12_reckons_104 rfl rfl) ?_
          refine ao_cVl (As := []) (st := []) dX12_reckons_105 ml_X12_289 mv_X12_pop rfl e24 (by decide) rfl rfl (Nat.le_of_ble_eq_true rfl) (by decide) (s_X12_pop h a0) (fun r43 h44 => ?_)
          refine ao_s (st_lstore (lv' := [some (.ref a0), some (.int x1), z2, some (.int x3), some (.int x4), some (.int x28), some (.int x32), some (.long r43), none, z9, z10]) dX12_reckons_108 (by decide) rfl) ?_
          refine ao_s (st_aload_n dX12_reckons_110 rfl rfl) ?_
          refine ao_cVl (As := []) (st := []) dX12_reckons_111 ml_X12_289 mv_X12_pop rfl e24 (by decide) rfl rfl (Nat.le_of_ble_eq_true rfl) (by decide) (s_X12_pop h44 a0) (fun r45 h46 => ?_)
          refine ao_s (st_lstore (lv' := [some (.ref a0), some (.int x1), z2, some (.int x3), some (.int x4), some (.int x28), some (.int x32), some (.long r43), none, some (.long r45), none]) dX12_reckons_114 (by decide) rfl) ?_
          refine ao_s (st_aload_n dX12_reckons_116 rfl rfl) ?_
          refine ao_s (st_iload dX12_reckons_117 rfl) ?_
          refine ao_s (st_lload dX12_reckons_119 rfl) ?_
          refine ao_s (st_lload dX12_reckons_121 rfl) ?_
          refine ao_cSl (As := [.int x28, .long r45, .long r43]) (st := [.ref a0]) dX12_reckons_123 ml_X12_293 ms_X12_one rfl rfl (Nat.le_of_ble_eq_true rfl) (by decide) (s_X12_one h46 x28 r45 r43) (fun r47 h48 => ?_)
          refine ao_cVv (As := [.long r47]) (st := []) dX12_reckons_126 ml_X12_285 mv_X12_push rfl e24 (by decide) rfl rfl (Nat.le_of_ble_eq_true rfl) (by decide) (s_X12_push h48 a0 r47) (fun r49 h50 => ?_)
          exact t_X12_reckons_129 hk8 h50 a0 x1 x3 x4
def f_X12_reckons_8 (n : Nat) : aH → Nat → Int32 → Int32 → Int32 → Option (Int64 × aH) := aIt (fun _ _ _ _ _ => none) (fun k => b_X12_reckons_8 k) n
theorem l_X12_reckons_8 (n : Nat) : ∀ (h : aH) (a0 : Nat) (x1 : Int32) (x3 : Int32) (x4 : Int32) {z2 : Option Value} {z5 : Option Value} {z6 : Option Value} {z7 : Option Value} {z8 : Option Value} {z9 : Option Value} {z10 : Option Value}, AO eL 3 kX12_reckons 8 [some (.ref a0), some (.int x1), z2, some (.int x3), some (.int x4), z5, z6, z7, z8, z9, z10] [] h (f_X12_reckons_8 n h a0 x1 x3 x4) := by
  induction n with
  | zero => intros; exact ao_none
  | succ n ih =>
    intro h a0 x1 x3 x4 z2 z5 z6 z7 z8 z9 z10
    exact t_X12_reckons_8 ih h a0 x1 x3 x4
def f_X12_reckons (h : aH) (a0 : Nat) (x1 : Int32) (x2 : Int32) (x3 : Int32) : Option (Int64 × aH) :=
(if (sh a0).1 = 19 then
(aLet (pI h a0 18 0) fun h22 =>
f_X12_reckons_8 2000 h22 a0 x1 x3 x2)
else none)
set_option maxHeartbeats 2000000 in
theorem s_X12_reckons (h : aH) (a0 : Nat) (x1 : Int32) (x2 : Int32) (x3 : Int32) : SO eL 3 kX12_reckons [.ref a0, .int x1, .int x2, .int x3] h (f_X12_reckons h a0 x1 x2 x3) := by
  refine so_of (lv0 := [some (.ref a0), some (.int x1), some (.int x2), some (.int x3), none, none, none, none, none, none, none]) pn_X12 (Nat.le_of_ble_eq_true rfl) rfl ?_
  unfold f_X12_reckons
  refine ao_s (st_aload_n dX12_reckons_0 rfl rfl) ?_
  refine ao_s (st_iconst dX12_reckons_1 ic_0) ?_
  refine ao_chk (fun e21 => ?_)
  refine ao_putI dX12_reckons_2 fl_X12_282 rfl rfl rfl rfl e21 ?_
  refine ao_letH (fun h22 => ?_)
  refine ao_s (st_iload_n dX12_reckons_5 rfl rfl) ?_
  refine ao_s (st_istore (lv' := [some (.ref a0), some (.int x1), some (.int x2), some (.int x3), some (.int x2), none, none, none, none, none, none]) dX12_reckons_6 (by decide) rfl) ?_
  exact l_X12_reckons_8 2000 h22 a0 x1 x3 x2
def f_X12_isIsle (h : aH) (a0 : Nat) : Option (Int32 × aH) :=
(if (sh a0).1 = 19 then
((hR h a0 20).bind fun b22 =>
(if (sh b22).1 = 0 then
(if aIn 0 (sh b22).2 then
(if hI h b22 (0 : Int32).toNatClampNeg = 1 then
some (1, h)
else
some (0, h))
else none)
else none))
else none)
set_option maxHeartbeats 2000000 in
theorem s_X12_isIsle (h : aH) (a0 : Nat) : SO eI 2 kX12_isIsle [.ref a0] h (f_X12_isIsle h a0) := by
  refine so_of (lv0 := [some (.ref a0)]) pn_X12 (Nat.le_of_ble_eq_true rfl) rfl ?_
  unfold f_X12_isIsle
  refine ao_s (st_aload_n dX12_isIsle_0 rfl rfl) ?_
  refine ao_chk (fun e21 => ?_)
  refine ao_getR dX12_isIsle_1 fl_X12_39 rfl e21 (fun b22 => ?_)
  refine ao_s (st_iconst dX12_isIsle_4 ic_0) ?_
  refine ao_chk (fun e23 => ?_)
  refine ao_iald dX12_isIsle_5 e23 ?_
  refine ao_s (st_iconst dX12_isIsle_6 ic_1) ?_
  refine ao_br (br_icmp_ne (tgt := 14) dX12_isIsle_7 (by decide)) (fun c24 => ?_) (fun c24 => ?_)
  · refine ao_s (st_iconst dX12_isIsle_10 ic_1) ?_
    refine ao_s (st_goto 15 dX12_isIsle_11 (by decide)) ?_
    exact ao_ir dX12_isIsle_15 rfl (by decide)
  · refine ao_s (st_iconst dX12_isIsle_14 ic_0) ?_
    exact ao_ir dX12_isIsle_15 rfl (by decide)
def f_X12_isEast (h : aH) (a0 : Nat) (x1 : Int32) : Option (Int32 × aH) :=
(if x1 < 0 then
some (0, h)
else
(if (sh a0).1 = 19 then
((hR h a0 20).bind fun b22 =>
(if (sh b22).1 = 0 then
(if aIn 3 (sh b22).2 then
(if hI h b22 (3 : Int32).toNatClampNeg ≤ x1 then
some (0, h)
else
some (1, h))
else none)
else none))
else none))
set_option maxHeartbeats 2000000 in
theorem s_X12_isEast (h : aH) (a0 : Nat) (x1 : Int32) : SO eI 2 kX12_isEast [.ref a0, .int x1] h (f_X12_isEast h a0 x1) := by
  refine so_of (lv0 := [some (.ref a0), some (.int x1)]) pn_X12 (Nat.le_of_ble_eq_true rfl) rfl ?_
  unfold f_X12_isEast
  refine ao_s (st_iload_n dX12_isEast_0 rfl rfl) ?_
  refine ao_br (br_if_lt (tgt := 18) dX12_isEast_1 (by decide)) (fun c25 => ?_) (fun c25 => ?_)
  · refine ao_s (st_iconst dX12_isEast_18 ic_0) ?_
    exact ao_ir dX12_isEast_19 rfl (by decide)
  · refine ao_s (st_iload_n dX12_isEast_4 rfl rfl) ?_
    refine ao_s (st_aload_n dX12_isEast_5 rfl rfl) ?_
    refine ao_chk (fun e21 => ?_)
    refine ao_getR dX12_isEast_6 fl_X12_39 rfl e21 (fun b22 => ?_)
    refine ao_s (st_iconst dX12_isEast_9 ic_3) ?_
    refine ao_chk (fun e23 => ?_)
    refine ao_iald dX12_isEast_10 e23 ?_
    refine ao_br (br_icmp_ge (tgt := 18) dX12_isEast_11 (by decide)) (fun c24 => ?_) (fun c24 => ?_)
    · refine ao_s (st_iconst dX12_isEast_18 ic_0) ?_
      exact ao_ir dX12_isEast_19 rfl (by decide)
    · refine ao_s (st_iconst dX12_isEast_14 ic_1) ?_
      refine ao_s (st_goto 19 dX12_isEast_15 (by decide)) ?_
      exact ao_ir dX12_isEast_19 rfl (by decide)
def f_X12_isWest (h : aH) (a0 : Nat) (x1 : Int32) : Option (Int32 × aH) :=
(if x1 < 0 then
some (0, h)
else
(if (sh a0).1 = 19 then
((hR h a0 20).bind fun b22 =>
(if (sh b22).1 = 0 then
(if aIn 4 (sh b22).2 then
(if hI h b22 (4 : Int32).toNatClampNeg ≤ x1 then
some (0, h)
else
some (1, h))
else none)
else none))
else none))
set_option maxHeartbeats 2000000 in
theorem s_X12_isWest (h : aH) (a0 : Nat) (x1 : Int32) : SO eI 2 kX12_isWest [.ref a0, .int x1] h (f_X12_isWest h a0 x1) := by
  refine so_of (lv0 := [some (.ref a0), some (.int x1)]) pn_X12 (Nat.le_of_ble_eq_true rfl) rfl ?_
  unfold f_X12_isWest
  refine ao_s (st_iload_n dX12_isWest_0 rfl rfl) ?_
  refine ao_br (br_if_lt (tgt := 18) dX12_isWest_1 (by decide)) (fun c25 => ?_) (fun c25 => ?_)
  · refine ao_s (st_iconst dX12_isWest_18 ic_0) ?_
    exact ao_ir dX12_isWest_19 rfl (by decide)
  · refine ao_s (st_iload_n dX12_isWest_4 rfl rfl) ?_
    refine ao_s (st_aload_n dX12_isWest_5 rfl rfl) ?_
    refine ao_chk (fun e21 => ?_)
    refine ao_getR dX12_isWest_6 fl_X12_39 rfl e21 (fun b22 => ?_)
    refine ao_s (st_iconst dX12_isWest_9 ic_4) ?_
    refine ao_chk (fun e23 => ?_)
    refine ao_iald dX12_isWest_10 e23 ?_
    refine ao_br (br_icmp_ge (tgt := 18) dX12_isWest_11 (by decide)) (fun c24 => ?_) (fun c24 => ?_)
    · refine ao_s (st_iconst dX12_isWest_18 ic_0) ?_
      exact ao_ir dX12_isWest_19 rfl (by decide)
    · refine ao_s (st_iconst dX12_isWest_14 ic_1) ?_
      refine ao_s (st_goto 19 dX12_isWest_15 (by decide)) ?_
      exact ao_ir dX12_isWest_19 rfl (by decide)
def f_X12_placeOf (h : aH) (x0 : Int32) (x1 : Int32) : Option (Int32 × aH) :=
some ((11 + (16 * x0)) + (4 * x1), h)
set_option maxHeartbeats 2000000 in
theorem s_X12_placeOf (h : aH) (x0 : Int32) (x1 : Int32) : SO eI 2 kX12_placeOf [.int x0, .int x1] h (f_X12_placeOf h x0 x1) := by
  refine so_of (lv0 := [some (.int x0), some (.int x1)]) pn_X12 (Nat.le_of_ble_eq_true rfl) rfl ?_
  unfold f_X12_placeOf
  refine ao_s (st_bipush dX12_placeOf_0 bp_11) ?_
  refine ao_s (st_bipush dX12_placeOf_2 bp_16) ?_
  refine ao_s (st_iload_n dX12_placeOf_4 rfl rfl) ?_
  refine ao_s (st_imul dX12_placeOf_5) ?_
  refine ao_s (st_iadd dX12_placeOf_6) ?_
  refine ao_s (st_iconst dX12_placeOf_7 ic_4) ?_
  refine ao_s (st_iload_n dX12_placeOf_8 rfl rfl) ?_
  refine ao_s (st_imul dX12_placeOf_9) ?_
  refine ao_s (st_iadd dX12_placeOf_10) ?_
  exact ao_ir dX12_placeOf_11 rfl rfl
def f_X12_personOf (h : aH) (a0 : Nat) (x1 : Int32) (x2 : Int32) (x3 : Int32) : Option (Int32 × aH) :=
(if (sh a0).1 = 19 then
((hR h a0 20).bind fun b22 =>
(aBind (f_X12_placeOf h x1 x2) fun r23 h24 =>
(aLet (r23 + x3) fun x25 =>
(if (sh b22).1 = 0 then
(if aIn x25 (sh b22).2 then
some (hI h24 b22 x25.toNatClampNeg, h24)
else none)
else none))))
else none)
set_option maxHeartbeats 2000000 in
theorem s_X12_personOf (h : aH) (a0 : Nat) (x1 : Int32) (x2 : Int32) (x3 : Int32) : SO eI 3 kX12_personOf [.ref a0, .int x1, .int x2, .int x3] h (f_X12_personOf h a0 x1 x2 x3) := by
  refine so_of (lv0 := [some (.ref a0), some (.int x1), some (.int x2), some (.int x3)]) pn_X12 (Nat.le_of_ble_eq_true rfl) rfl ?_
  unfold f_X12_personOf
  refine ao_s (st_aload_n dX12_personOf_0 rfl rfl) ?_
  refine ao_chk (fun e21 => ?_)
  refine ao_getR dX12_personOf_1 fl_X12_39 rfl e21 (fun b22 => ?_)
  refine ao_s (st_iload_n dX12_personOf_4 rfl rfl) ?_
  refine ao_s (st_iload_n dX12_personOf_5 rfl rfl) ?_
  refine ao_cSi (As := [.int x1, .int x2]) (st := [.ref b22]) dX12_personOf_6 ml_X12_297 ms_X12_placeOf rfl rfl (Nat.le_of_ble_eq_true rfl) (by decide) (s_X12_placeOf h x1 x2) (fun r23 h24 => ?_)
  refine ao_s (st_iload_n dX12_personOf_9 rfl rfl) ?_
  refine ao_s (st_iadd dX12_personOf_10) ?_
  refine ao_letI (fun x25 => ?_)
  refine ao_chk (fun e26 => ?_)
  refine ao_iald dX12_personOf_11 e26 ?_
  exact ao_ir dX12_personOf_12 rfl rfl
def f_X12_isFree (h : aH) (a0 : Nat) (x1 : Int32) (x2 : Int32) : Option (Int32 × aH) :=
(if (sh a0).1 = 19 then
(aBind (f_X12_personOf h a0 x1 x2 1) fun r22 h23 =>
(if 0 ≤ r22 then
some (0, h23)
else
some (1, h23)))
else none)
set_option maxHeartbeats 2000000 in
theorem s_X12_isFree (h : aH) (a0 : Nat) (x1 : Int32) (x2 : Int32) : SO eI 4 kX12_isFree [.ref a0, .int x1, .int x2] h (f_X12_isFree h a0 x1 x2) := by
  refine so_of (lv0 := [some (.ref a0), some (.int x1), some (.int x2)]) pn_X12 (Nat.le_of_ble_eq_true rfl) rfl ?_
  unfold f_X12_isFree
  refine ao_s (st_aload_n dX12_isFree_0 rfl rfl) ?_
  refine ao_s (st_iload_n dX12_isFree_1 rfl rfl) ?_
  refine ao_s (st_iload_n dX12_isFree_2 rfl rfl) ?_
  refine ao_s (st_iconst dX12_isFree_3 ic_1) ?_
  refine ao_chk (fun e21 => ?_)
  refine ao_cVi (As := [.int x1, .int x2, .int 1]) (st := []) dX12_isFree_4 ml_X12_301 mv_X12_personOf rfl e21 (by decide) rfl rfl (Nat.le_of_ble_eq_true rfl) (by decide) (s_X12_personOf h a0 x1 x2 1) (fun r22 h23 => ?_)
  refine ao_br (br_if_ge (tgt := 14) dX12_isFree_7 (by decide)) (fun c24 => ?_) (fun c24 => ?_)
  · refine ao_s (st_iconst dX12_isFree_14 ic_0) ?_
    exact ao_ir dX12_isFree_15 rfl (by decide)
  · refine ao_s (st_iconst dX12_isFree_10 ic_1) ?_
    refine ao_s (st_goto 15 dX12_isFree_11 (by decide)) ?_
    exact ao_ir dX12_isFree_15 rfl (by decide)
def f_X12_likesOf (h : aH) (a0 : Nat) (x1 : Int32) (x2 : Int32) (x3 : Int32) : Option (Int32 × aH) :=
(if (sh a0).1 = 19 then
((hR h a0 20).bind fun b22 =>
(if x1 = 0 then
(aLet ((43 + (16 * x1)) + ((4 * x2) + x3)) fun x23 =>
(if (sh b22).1 = 0 then
(if aIn x23 (sh b22).2 then
some (hI h b22 x23.toNatClampNeg, h)
else none)
else none))
else
(aLet ((43 + (16 * x1)) + ((4 * x3) + x2)) fun x25 =>
(if (sh b22).1 = 0 then
(if aIn x25 (sh b22).2 then
some (hI h b22 x25.toNatClampNeg, h)
else none)
else none))))
else none)
set_option maxHeartbeats 2000000 in
theorem s_X12_likesOf (h : aH) (a0 : Nat) (x1 : Int32) (x2 : Int32) (x3 : Int32) : SO eI 2 kX12_likesOf [.ref a0, .int x1, .int x2, .int x3] h (f_X12_likesOf h a0 x1 x2 x3) := by
  refine so_of (lv0 := [some (.ref a0), some (.int x1), some (.int x2), some (.int x3)]) pn_X12 (Nat.le_of_ble_eq_true rfl) rfl ?_
  unfold f_X12_likesOf
  refine ao_s (st_aload_n dX12_likesOf_0 rfl rfl) ?_
  refine ao_chk (fun e21 => ?_)
  refine ao_getR dX12_likesOf_1 fl_X12_39 rfl e21 (fun b22 => ?_)
  refine ao_s (st_bipush dX12_likesOf_4 bp_43) ?_
  refine ao_s (st_bipush dX12_likesOf_6 bp_16) ?_
  refine ao_s (st_iload_n dX12_likesOf_8 rfl rfl) ?_
  refine ao_s (st_imul dX12_likesOf_9) ?_
  refine ao_s (st_iadd dX12_likesOf_10) ?_
  refine ao_s (st_iload_n dX12_likesOf_11 rfl rfl) ?_
  refine ao_br (br_if_ne (tgt := 23) dX12_likesOf_12 (by decide)) (fun c27 => ?_) (fun c27 => ?_)
  · refine ao_s (st_iconst dX12_likesOf_15 ic_4) ?_
    refine ao_s (st_iload_n dX12_likesOf_16 rfl rfl) ?_
    refine ao_s (st_imul dX12_likesOf_17) ?_
    refine ao_s (st_iload_n dX12_likesOf_18 rfl rfl) ?_
    refine ao_s (st_iadd dX12_likesOf_19) ?_
    refine ao_s (st_goto 28 dX12_likesOf_20 (by decide)) ?_
    refine ao_s (st_iadd dX12_likesOf_28) ?_
    refine ao_letI (fun x23 => ?_)
    refine ao_chk (fun e24 => ?_)
    refine ao_iald dX12_likesOf_29 e24 ?_
    exact ao_ir dX12_likesOf_30 rfl rfl
  · refine ao_s (st_iconst dX12_likesOf_23 ic_4) ?_
    refine ao_s (st_iload_n dX12_likesOf_24 rfl rfl) ?_
    refine ao_s (st_imul dX12_likesOf_25) ?_
    refine ao_s (st_iload_n dX12_likesOf_26 rfl rfl) ?_
    refine ao_s (st_iadd dX12_likesOf_27) ?_
    refine ao_s (st_iadd dX12_likesOf_28) ?_
    refine ao_letI (fun x25 => ?_)
    refine ao_chk (fun e26 => ?_)
    refine ao_iald dX12_likesOf_29 e26 ?_
    exact ao_ir dX12_likesOf_30 rfl rfl
def f_X12_areFond (h : aH) (a0 : Nat) (x1 : Int32) (x2 : Int32) : Option (Int32 × aH) :=
(if (sh a0).1 = 19 then
(aBind (f_X12_likesOf h a0 0 x1 x2) fun r22 h23 =>
(if r22 ≤ 0 then
some (0, h23)
else
(aBind (f_X12_likesOf h23 a0 1 x2 x1) fun r24 h25 =>
(if r24 ≤ 0 then
some (0, h25)
else
some (1, h25)))))
else none)
set_option maxHeartbeats 2000000 in
theorem s_X12_areFond (h : aH) (a0 : Nat) (x1 : Int32) (x2 : Int32) : SO eI 3 kX12_areFond [.ref a0, .int x1, .int x2] h (f_X12_areFond h a0 x1 x2) := by
  refine so_of (lv0 := [some (.ref a0), some (.int x1), some (.int x2)]) pn_X12 (Nat.le_of_ble_eq_true rfl) rfl ?_
  unfold f_X12_areFond
  refine ao_s (st_aload_n dX12_areFond_0 rfl rfl) ?_
  refine ao_s (st_iconst dX12_areFond_1 ic_0) ?_
  refine ao_s (st_iload_n dX12_areFond_2 rfl rfl) ?_
  refine ao_s (st_iload_n dX12_areFond_3 rfl rfl) ?_
  refine ao_chk (fun e21 => ?_)
  refine ao_cVi (As := [.int 0, .int x1, .int x2]) (st := []) dX12_areFond_4 ml_X12_305 mv_X12_likesOf rfl e21 (by decide) rfl rfl (Nat.le_of_ble_eq_true rfl) (by decide) (s_X12_likesOf h a0 0 x1 x2) (fun r22 h23 => ?_)
  refine ao_br (br_if_le (tgt := 24) dX12_areFond_7 (by decide)) (fun c27 => ?_) (fun c27 => ?_)
  · refine ao_s (st_iconst dX12_areFond_24 ic_0) ?_
    exact ao_ir dX12_areFond_25 rfl (by decide)
  · refine ao_s (st_aload_n dX12_areFond_10 rfl rfl) ?_
    refine ao_s (st_iconst dX12_areFond_11 ic_1) ?_
    refine ao_s (st_iload_n dX12_areFond_12 rfl rfl) ?_
    refine ao_s (st_iload_n dX12_areFond_13 rfl rfl) ?_
    refine ao_cVi (As := [.int 1, .int x2, .int x1]) (st := []) dX12_areFond_14 ml_X12_305 mv_X12_likesOf rfl e21 (by decide) rfl rfl (Nat.le_of_ble_eq_true rfl) (by decide) (s_X12_likesOf h23 a0 1 x2 x1) (fun r24 h25 => ?_)
    refine ao_br (br_if_le (tgt := 24) dX12_areFond_17 (by decide)) (fun c26 => ?_) (fun c26 => ?_)
    · refine ao_s (st_iconst dX12_areFond_24 ic_0) ?_
      exact ao_ir dX12_areFond_25 rfl (by decide)
    · refine ao_s (st_iconst dX12_areFond_20 ic_1) ?_
      refine ao_s (st_goto 25 dX12_areFond_21 (by decide)) ?_
      exact ao_ir dX12_areFond_25 rfl (by decide)
def f_X12_isLate (h : aH) (a0 : Nat) (x1 : Int32) : Option (Int32 × aH) :=
(if 60 < x1 then
some (0, h)
else
(if (sh a0).1 = 19 then
((hR h a0 20).bind fun b22 =>
(aLet (75 + (x1 / 21)) fun x23 =>
(if (sh b22).1 = 0 then
(if aIn x23 (sh b22).2 then
(aBind (f_X12_isOf h (hI h b22 x23.toNatClampNeg) (x1 - x1 / 21 * 21)) fun r25 h26 =>
(if r25 = 0 then
some (0, h26)
else
some (1, h26)))
else none)
else none)))
else none))
set_option maxHeartbeats 2000000 in
theorem s_X12_isLate (h : aH) (a0 : Nat) (x1 : Int32) : SO eI 3 kX12_isLate [.ref a0, .int x1] h (f_X12_isLate h a0 x1) := by
  refine so_of (lv0 := [some (.ref a0), some (.int x1)]) pn_X12 (Nat.le_of_ble_eq_true rfl) rfl ?_
  unfold f_X12_isLate
  refine ao_s (st_iload_n dX12_isLate_0 rfl rfl) ?_
  refine ao_s (st_bipush dX12_isLate_1 bp_60) ?_
  refine ao_br (br_icmp_gt (tgt := 32) dX12_isLate_3 (by decide)) (fun c28 => ?_) (fun c28 => ?_)
  · refine ao_s (st_iconst dX12_isLate_32 ic_0) ?_
    exact ao_ir dX12_isLate_33 rfl (by decide)
  · refine ao_s (st_aload_n dX12_isLate_6 rfl rfl) ?_
    refine ao_chk (fun e21 => ?_)
    refine ao_getR dX12_isLate_7 fl_X12_39 rfl e21 (fun b22 => ?_)
    refine ao_s (st_bipush dX12_isLate_10 bp_75) ?_
    refine ao_s (st_iload_n dX12_isLate_12 rfl rfl) ?_
    refine ao_s (st_bipush dX12_isLate_13 bp_21) ?_
    refine ao_s (st_idiv dX12_isLate_15 (by decide)) ?_
    refine ao_s (st_iadd dX12_isLate_16) ?_
    refine ao_letI (fun x23 => ?_)
    refine ao_chk (fun e24 => ?_)
    refine ao_iald dX12_isLate_17 e24 ?_
    refine ao_s (st_iload_n dX12_isLate_18 rfl rfl) ?_
    refine ao_s (st_bipush dX12_isLate_19 bp_21) ?_
    refine ao_s (st_irem dX12_isLate_21 (by decide)) ?_
    refine ao_cSi (As := [.int (hI h b22 x23.toNatClampNeg), .int (x1 - x1 / 21 * 21)]) (st := []) dX12_isLate_22 ml_X12_308 ms_X12_isOf rfl rfl (Nat.le_of_ble_eq_true rfl) (by decide) (s_X12_isOf h (hI h b22 x23.toNatClampNeg) (x1 - x1 / 21 * 21)) (fun r25 h26 => ?_)
    refine ao_br (br_if_eq (tgt := 32) dX12_isLate_25 (by decide)) (fun c27 => ?_) (fun c27 => ?_)
    · refine ao_s (st_iconst dX12_isLate_32 ic_0) ?_
      exact ao_ir dX12_isLate_33 rfl (by decide)
    · refine ao_s (st_iconst dX12_isLate_28 ic_1) ?_
      refine ao_s (st_goto 33 dX12_isLate_29 (by decide)) ?_
      exact ao_ir dX12_isLate_33 rfl (by decide)
def f_X12_isLateNow (h : aH) (a0 : Nat) : Option (Int32 × aH) :=
(if (sh a0).1 = 19 then
(if hI h a0 23 = 0 then
((hR h a0 20).bind fun b22 =>
(if (sh b22).1 = 0 then
(if aIn 10 (sh b22).2 then
(aBind (f_X12_isLate h a0 (hI h b22 (10 : Int32).toNatClampNeg)) fun r24 h25 =>
(if r24 = 0 then
some (0, h25)
else
some (1, h25)))
else none)
else none))
else
some (1, h))
else none)
set_option maxHeartbeats 2000000 in
theorem s_X12_isLateNow (h : aH) (a0 : Nat) : SO eI 4 kX12_isLateNow [.ref a0] h (f_X12_isLateNow h a0) := by
  refine so_of (lv0 := [some (.ref a0)]) pn_X12 (Nat.le_of_ble_eq_true rfl) rfl ?_
  unfold f_X12_isLateNow
  refine ao_s (st_aload_n dX12_isLateNow_0 rfl rfl) ?_
  refine ao_chk (fun e21 => ?_)
  refine ao_getI dX12_isLateNow_1 fl_X12_311 rfl e21 ?_
  refine ao_br (br_if_ne (tgt := 21) dX12_isLateNow_4 (by decide)) (fun c27 => ?_) (fun c27 => ?_)
  · refine ao_s (st_aload_n dX12_isLateNow_7 rfl rfl) ?_
    refine ao_s (st_aload_n dX12_isLateNow_8 rfl rfl) ?_
    refine ao_getR dX12_isLateNow_9 fl_X12_39 rfl e21 (fun b22 => ?_)
    refine ao_s (st_bipush dX12_isLateNow_12 bp_10) ?_
    refine ao_chk (fun e23 => ?_)
    refine ao_iald dX12_isLateNow_14 e23 ?_
    refine ao_cVi (As := [.int (hI h b22 (10 : Int32).toNatClampNeg)]) (st := []) dX12_isLateNow_15 ml_X12_315 mv_X12_isLate rfl e21 (by decide) rfl rfl (Nat.le_of_ble_eq_true rfl) (by decide) (s_X12_isLate h a0 (hI h b22 (10 : Int32).toNatClampNeg)) (fun r24 h25 => ?_)
    refine ao_br (br_if_eq (tgt := 25) dX12_isLateNow_18 (by decide)) (fun c26 => ?_) (fun c26 => ?_)
    · refine ao_s (st_iconst dX12_isLateNow_25 ic_0) ?_
      exact ao_ir dX12_isLateNow_26 rfl (by decide)
    · refine ao_s (st_iconst dX12_isLateNow_21 ic_1) ?_
      refine ao_s (st_goto 26 dX12_isLateNow_22 (by decide)) ?_
      exact ao_ir dX12_isLateNow_26 rfl (by decide)
  · refine ao_s (st_iconst dX12_isLateNow_21 ic_1) ?_
    refine ao_s (st_goto 26 dX12_isLateNow_22 (by decide)) ?_
    exact ao_ir dX12_isLateNow_26 rfl (by decide)
