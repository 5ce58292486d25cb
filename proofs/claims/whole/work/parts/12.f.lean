def f_X3_combined (h : aH) (a0 : Nat) (x1 : Int32) (x2 : Int64) (x4 : Int64) : Option (Int64 × aH) :=
(if x1 = 2 then
some (x2 + x4, h)
else
(if x1 = 3 then
some (x2 - x4, h)
else
(if x1 = 4 then
some (x2 * x4, h)
else
(if x1 = 5 then
(if lg_cmp x4 0 = 0 then
some (0, h)
else
(if x4 = 0 then none else
some (x2 / x4, h)))
else
(if x1 = 6 then
(if lg_cmp x4 0 = 0 then
some (0, h)
else
(if x4 = 0 then none else
some (x2 - x2 / x4 * x4, h)))
else
(if x1 = 7 then
(if 0 ≤ lg_cmp x2 x4 then
some (0, h)
else
some (1, h))
else
(if x1 = 8 then
(if 0 < lg_cmp x2 x4 then
some (0, h)
else
some (1, h))
else
(if x1 = 9 then
(if lg_cmp x2 x4 = 0 then
some (1, h)
else
some (0, h))
else
(if x1 = 10 then
(if lg_cmp x2 x4 < 0 then
some (0, h)
else
some (1, h))
else
(if x1 = 11 then
(if lg_cmp x2 x4 ≤ 0 then
some (0, h)
else
some (1, h))
else
(if x1 = 12 then
some (x2 &&& x4, h)
else
some (x2 ||| x4, h))))))))))))
set_option maxHeartbeats 2000000 in
theorem s_X3_combined (h : aH) (a0 : Nat) (x1 : Int32) (x2 : Int64) (x4 : Int64) : SO eL 2 kX3_combined [.ref a0, .int x1, .long x2, .long x4] h (f_X3_combined h a0 x1 x2 x4) := by
  refine so_of (lv0 := [some (.ref a0), some (.int x1), some (.long x2), none, some (.long x4), none]) pn_X3 (Nat.le_of_ble_eq_true rfl) rfl ?_
  unfold f_X3_combined
  refine ao_s (st_iload_n dX3_combined_0 rfl rfl) ?_
  refine ao_ite (fun c21 => ?_) (fun c21 => ?_)
  · refine ao_s (st_tabIn (v := 2) (off := 59) (tgt := 60) c21 dX3_combined_1 (by decide) (by decide)) ?_
    refine ao_s (st_lload_n dX3_combined_60 rfl rfl) ?_
    refine ao_s (st_lload dX3_combined_61 rfl) ?_
    refine ao_s (st_ladd dX3_combined_63) ?_
    exact ao_lr dX3_combined_64 rfl
  · refine ao_ite (fun c22 => ?_) (fun c22 => ?_)
    · refine ao_s (st_tabIn (v := 3) (off := 64) (tgt := 65) c22 dX3_combined_1 (by decide) (by decide)) ?_
      refine ao_s (st_lload_n dX3_combined_65 rfl rfl) ?_
      refine ao_s (st_lload dX3_combined_66 rfl) ?_
      refine ao_s (st_lsub dX3_combined_68) ?_
      exact ao_lr dX3_combined_69 rfl
    · refine ao_ite (fun c23 => ?_) (fun c23 => ?_)
      · refine ao_s (st_tabIn (v := 4) (off := 69) (tgt := 70) c23 dX3_combined_1 (by decide) (by decide)) ?_
        refine ao_s (st_lload_n dX3_combined_70 rfl rfl) ?_
        refine ao_s (st_lload dX3_combined_71 rfl) ?_
        refine ao_s (st_lmul dX3_combined_73) ?_
        exact ao_lr dX3_combined_74 rfl
      · refine ao_ite (fun c24 => ?_) (fun c24 => ?_)
        · refine ao_s (st_tabIn (v := 5) (off := 74) (tgt := 75) c24 dX3_combined_1 (by decide) (by decide)) ?_
          refine ao_s (st_lload dX3_combined_75 rfl) ?_
          refine ao_s (st_lconst dX3_combined_77 lc_0) ?_
          refine ao_s (st_lcmp dX3_combined_78) ?_
          refine ao_br (br_if_ne (tgt := 86) dX3_combined_79 (by decide)) (fun c33 => ?_) (fun c33 => ?_)
          · refine ao_s (st_lconst dX3_combined_82 lc_0) ?_
            refine ao_s (st_goto 90 dX3_combined_83 (by decide)) ?_
            exact ao_lr dX3_combined_90 rfl
          · refine ao_s (st_lload_n dX3_combined_86 rfl rfl) ?_
            refine ao_s (st_lload dX3_combined_87 rfl) ?_
            refine ao_ite (fun _ => ao_none) (fun c32 => ?_)
            refine ao_s (st_ldiv dX3_combined_89 c32) ?_
            exact ao_lr dX3_combined_90 rfl
        · refine ao_ite (fun c25 => ?_) (fun c25 => ?_)
          · refine ao_s (st_tabIn (v := 6) (off := 90) (tgt := 91) c25 dX3_combined_1 (by decide) (by decide)) ?_
            refine ao_s (st_lload dX3_combined_91 rfl) ?_
            refine ao_s (st_lconst dX3_combined_93 lc_0) ?_
            refine ao_s (st_lcmp dX3_combined_94) ?_
            refine ao_br (br_if_ne (tgt := 102) dX3_combined_95 (by decide)) (fun c35 => ?_) (fun c35 => ?_)
            · refine ao_s (st_lconst dX3_combined_98 lc_0) ?_
              refine ao_s (st_goto 106 dX3_combined_99 (by decide)) ?_
              exact ao_lr dX3_combined_106 rfl
            · refine ao_s (st_lload_n dX3_combined_102 rfl rfl) ?_
              refine ao_s (st_lload dX3_combined_103 rfl) ?_
              refine ao_ite (fun _ => ao_none) (fun c34 => ?_)
              refine ao_s (st_lrem dX3_combined_105 c34) ?_
              exact ao_lr dX3_combined_106 rfl
          · refine ao_ite (fun c26 => ?_) (fun c26 => ?_)
            · refine ao_s (st_tabIn (v := 7) (off := 106) (tgt := 107) c26 dX3_combined_1 (by decide) (by decide)) ?_
              refine ao_s (st_lload_n dX3_combined_107 rfl rfl) ?_
              refine ao_s (st_lload dX3_combined_108 rfl) ?_
              refine ao_s (st_lcmp dX3_combined_110) ?_
              refine ao_br (br_if_ge (tgt := 118) dX3_combined_111 (by decide)) (fun c36 => ?_) (fun c36 => ?_)
              · refine ao_s (st_lconst dX3_combined_118 lc_0) ?_
                exact ao_lr dX3_combined_119 rfl
              · refine ao_s (st_lconst dX3_combined_114 lc_1) ?_
                refine ao_s (st_goto 119 dX3_combined_115 (by decide)) ?_
                exact ao_lr dX3_combined_119 rfl
            · refine ao_ite (fun c27 => ?_) (fun c27 => ?_)
              · refine ao_s (st_tabIn (v := 8) (off := 119) (tgt := 120) c27 dX3_combined_1 (by decide) (by decide)) ?_
                refine ao_s (st_lload_n dX3_combined_120 rfl rfl) ?_
                refine ao_s (st_lload dX3_combined_121 rfl) ?_
                refine ao_s (st_lcmp dX3_combined_123) ?_
                refine ao_br (br_if_gt (tgt := 131) dX3_combined_124 (by decide)) (fun c37 => ?_) (fun c37 => ?_)
                · refine ao_s (st_lconst dX3_combined_131 lc_0) ?_
                  exact ao_lr dX3_combined_132 rfl
                · refine ao_s (st_lconst dX3_combined_127 lc_1) ?_
                  refine ao_s (st_goto 132 dX3_combined_128 (by decide)) ?_
                  exact ao_lr dX3_combined_132 rfl
              · refine ao_ite (fun c28 => ?_) (fun c28 => ?_)
                · refine ao_s (st_tabIn (v := 9) (off := 132) (tgt := 133) c28 dX3_combined_1 (by decide) (by decide)) ?_
                  refine ao_s (st_lload_n dX3_combined_133 rfl rfl) ?_
                  refine ao_s (st_lload dX3_combined_134 rfl) ?_
                  refine ao_s (st_lcmp dX3_combined_136) ?_
                  refine ao_br (br_if_ne (tgt := 144) dX3_combined_137 (by decide)) (fun c38 => ?_) (fun c38 => ?_)
                  · refine ao_s (st_lconst dX3_combined_140 lc_1) ?_
                    refine ao_s (st_goto 145 dX3_combined_141 (by decide)) ?_
                    exact ao_lr dX3_combined_145 rfl
                  · refine ao_s (st_lconst dX3_combined_144 lc_0) ?_
                    exact ao_lr dX3_combined_145 rfl
                · refine ao_ite (fun c29 => ?_) (fun c29 => ?_)
                  · refine ao_s (st_tabIn (v := 10) (off := 145) (tgt := 146) c29 dX3_combined_1 (by decide) (by decide)) ?_
                    refine ao_s (st_lload_n dX3_combined_146 rfl rfl) ?_
                    refine ao_s (st_lload dX3_combined_147 rfl) ?_
                    refine ao_s (st_lcmp dX3_combined_149) ?_
                    refine ao_br (br_if_lt (tgt := 157) dX3_combined_150 (by decide)) (fun c39 => ?_) (fun c39 => ?_)
                    · refine ao_s (st_lconst dX3_combined_157 lc_0) ?_
                      exact ao_lr dX3_combined_158 rfl
                    · refine ao_s (st_lconst dX3_combined_153 lc_1) ?_
                      refine ao_s (st_goto 158 dX3_combined_154 (by decide)) ?_
                      exact ao_lr dX3_combined_158 rfl
                  · refine ao_ite (fun c30 => ?_) (fun c30 => ?_)
                    · refine ao_s (st_tabIn (v := 11) (off := 158) (tgt := 159) c30 dX3_combined_1 (by decide) (by decide)) ?_
                      refine ao_s (st_lload_n dX3_combined_159 rfl rfl) ?_
                      refine ao_s (st_lload dX3_combined_160 rfl) ?_
                      refine ao_s (st_lcmp dX3_combined_162) ?_
                      refine ao_br (br_if_le (tgt := 170) dX3_combined_163 (by decide)) (fun c40 => ?_) (fun c40 => ?_)
                      · refine ao_s (st_lconst dX3_combined_170 lc_0) ?_
                        exact ao_lr dX3_combined_171 rfl
                      · refine ao_s (st_lconst dX3_combined_166 lc_1) ?_
                        refine ao_s (st_goto 171 dX3_combined_167 (by decide)) ?_
                        exact ao_lr dX3_combined_171 rfl
                    · refine ao_ite (fun c31 => ?_) (fun c31 => ?_)
                      · refine ao_s (st_tabIn (v := 12) (off := 171) (tgt := 172) c31 dX3_combined_1 (by decide) (by decide)) ?_
                        refine ao_s (st_lload_n dX3_combined_172 rfl rfl) ?_
                        refine ao_s (st_lload dX3_combined_173 rfl) ?_
                        refine ao_s (st_land dX3_combined_175) ?_
                        exact ao_lr dX3_combined_176 rfl
                      · refine ao_s (st_tabOut (tgt := 177) dX3_combined_1 (by have q0 := lv_neT c21 (show (2 : Int32).toInt = 2 by decide); have q1 := lv_neT c22 (show (3 : Int32).toInt = 3 by decide); have q2 := lv_neT c23 (show (4 : Int32).toInt = 4 by decide); have q3 := lv_neT c24 (show (5 : Int32).toInt = 5 by decide); have q4 := lv_neT c25 (show (6 : Int32).toInt = 6 by decide); have q5 := lv_neT c26 (show (7 : Int32).toInt = 7 by decide); have q6 := lv_neT c27 (show (8 : Int32).toInt = 8 by decide); have q7 := lv_neT c28 (show (9 : Int32).toInt = 9 by decide); have q8 := lv_neT c29 (show (10 : Int32).toInt = 10 by decide); have q9 := lv_neT c30 (show (11 : Int32).toInt = 11 by decide); have q10 := lv_neT c31 (show (12 : Int32).toInt = 12 by decide); omega) (by decide)) ?_
                        refine ao_s (st_lload_n dX3_combined_177 rfl rfl) ?_
                        refine ao_s (st_lload dX3_combined_178 rfl) ?_
                        refine ao_s (st_lor dX3_combined_180) ?_
                        exact ao_lr dX3_combined_181 rfl
def f_X3_wordValue (h : aH) (a0 : Nat) (x1 : Int32) : Option (Int64 × aH) :=
(if x1 < 0 then
some (0, h)
else
(if 11 ≤ x1 then
some (0, h)
else
(if (sh a0).1 = 10 then
((hR h a0 0).bind fun b22 =>
(if (sh b22).1 = 3 then
(if aIn x1 (sh b22).2 then
some (hL h b22 x1.toNatClampNeg, h)
else none)
else none))
else none)))
set_option maxHeartbeats 2000000 in
theorem s_X3_wordValue (h : aH) (a0 : Nat) (x1 : Int32) : SO eL 2 kX3_wordValue [.ref a0, .int x1] h (f_X3_wordValue h a0 x1) := by
  refine so_of (lv0 := [some (.ref a0), some (.int x1)]) pn_X3 (Nat.le_of_ble_eq_true rfl) rfl ?_
  unfold f_X3_wordValue
  refine ao_s (st_iload_n dX3_wordValue_0 rfl rfl) ?_
  refine ao_br (br_if_lt (tgt := 19) dX3_wordValue_1 (by decide)) (fun c25 => ?_) (fun c25 => ?_)
  · refine ao_s (st_lconst dX3_wordValue_19 lc_0) ?_
    exact ao_lr dX3_wordValue_20 rfl
  · refine ao_s (st_iload_n dX3_wordValue_4 rfl rfl) ?_
    refine ao_s (st_bipush dX3_wordValue_5 bp_11) ?_
    refine ao_br (br_icmp_ge (tgt := 19) dX3_wordValue_7 (by decide)) (fun c24 => ?_) (fun c24 => ?_)
    · refine ao_s (st_lconst dX3_wordValue_19 lc_0) ?_
      exact ao_lr dX3_wordValue_20 rfl
    · refine ao_s (st_aload_n dX3_wordValue_10 rfl rfl) ?_
      refine ao_chk (fun e21 => ?_)
      refine ao_getR dX3_wordValue_11 fl_X3_11 rfl e21 (fun b22 => ?_)
      refine ao_s (st_iload_n dX3_wordValue_14 rfl rfl) ?_
      refine ao_chk (fun e23 => ?_)
      refine ao_lald dX3_wordValue_15 e23 ?_
      refine ao_s (st_goto 20 dX3_wordValue_16 (by decide)) ?_
      exact ao_lr dX3_wordValue_20 rfl
def b_X3_value_169 (k6 : aH → Nat → Nat → Int32 → Int32 → Int32 → Option (Int64 × aH)) (h : aH) (a0 : Nat) (a1 : Nat) (x3 : Int32) (x4 : Int32) (x5 : Int32) : Option (Int64 × aH) :=
k6 h a0 a1 x3 x4 (x5 + 1)
set_option maxHeartbeats 2000000 in
theorem t_X3_value_169 {k6 : aH → Nat → Nat → Int32 → Int32 → Int32 → Option (Int64 × aH)} (hk6 : ∀ (h : aH) (a0 : Nat) (a1 : Nat) (x3 : Int32) (x4 : Int32) (x5 : Int32), AO eL 3 kX3_value 6 [some (.ref a0), some (.ref a1), none, some (.int x3), some (.int x4), some (.int x5), none, none] [] h (k6 h a0 a1 x3 x4 x5)) (h : aH) (a0 : Nat) (a1 : Nat) (x3 : Int32) (x4 : Int32) (x5 : Int32) : AO eL 3 kX3_value 169 [some (.ref a0), some (.ref a1), none, some (.int x3), some (.int x4), some (.int x5), none, none] [] h (b_X3_value_169 k6 h a0 a1 x3 x4 x5) := by
  unfold b_X3_value_169
  refine ao_s (st_iinc (lv' := [some (.ref a0), some (.ref a1), none, some (.int x3), some (.int x4), some (.int (x5 + 1)), none, none]) dX3_value_169 rfl nc_1 (by decide) rfl) ?_
  refine ao_s (st_goto 6 dX3_value_172 (by decide)) ?_
  exact ao_w (sb_s (sb_s (sb_n (sb_s (sb_s (sb_s (sb_n (sb_n sb_0)))))))) (hk6 h a0 a1 x3 x4 (x5 + 1))
def b_X3_value_76 (k6 : aH → Nat → Nat → Int32 → Int32 → Int32 → Option (Int64 × aH)) (h : aH) (a0 : Nat) (a1 : Nat) (x3 : Int32) (x4 : Int32) (x5 : Int32) (s0 : Int64) (s1 : Int32) (s2 : Nat) : Option (Int64 × aH) :=
(if (sh s2).1 = 3 then
(if aIn s1 (sh s2).2 then
(aLet (pL h s2 s1.toNatClampNeg s0) fun h22 =>
b_X3_value_169 k6 h22 a0 a1 x3 (x4 + 1) x5)
else none)
else none)
set_option maxHeartbeats 2000000 in
theorem t_X3_value_76 {k6 : aH → Nat → Nat → Int32 → Int32 → Int32 → Option (Int64 × aH)} (hk6 : ∀ (h : aH) (a0 : Nat) (a1 : Nat) (x3 : Int32) (x4 : Int32) (x5 : Int32), AO eL 3 kX3_value 6 [some (.ref a0), some (.ref a1), none, some (.int x3), some (.int x4), some (.int x5), none, none] [] h (k6 h a0 a1 x3 x4 x5)) (h : aH) (a0 : Nat) (a1 : Nat) (x3 : Int32) (x4 : Int32) (x5 : Int32) (s0 : Int64) (s1 : Int32) (s2 : Nat) : AO eL 3 kX3_value 76 [some (.ref a0), some (.ref a1), none, some (.int x3), some (.int x4), some (.int x5), none, none] [.long s0, .int s1, .ref s2] h (b_X3_value_76 k6 h a0 a1 x3 x4 x5 s0 s1 s2) := by
  unfold b_X3_value_76
  refine ao_chk (fun e21 => ?_)
  refine ao_last dX3_value_76 e21 ?_
  refine ao_letH (fun h22 => ?_)
  refine ao_s (st_iinc (lv' := [some (.ref a0), some (.ref a1), none, some (.int x3), some (.int (x4 + 1)), some (.int x5), none, none]) dX3_value_77 rfl nc_1 (by decide) rfl) ?_
  refine ao_s (st_goto 169 dX3_value_80 (by decide)) ?_
  exact ao_w (sb_s (sb_s (sb_n (sb_s (sb_s (sb_s (sb_n (sb_n sb_0)))))))) (t_X3_value_169 hk6 h22 a0 a1 x3 (x4 + 1) x5)
def b_X3_value_46 (k6 : aH → Nat → Nat → Int32 → Int32 → Int32 → Option (Int64 × aH)) (h : aH) (a0 : Nat) (a1 : Nat) (x3 : Int32) (x4 : Int32) (x5 : Int32) (x6 : Int32) (x7 : Int32) : Option (Int64 × aH) :=
(if 64 ≤ x4 then
b_X3_value_169 k6 h a0 a1 x3 x4 x5
else
(if (sh a0).1 = 10 then
((hR h a0 1).bind fun b22 =>
(if x6 = 0 then
b_X3_value_76 k6 h a0 a1 x3 x4 x5 x7.toInt64 x4 b22
else
(aBind (f_X3_wordValue h a0 x7) fun r23 h24 =>
b_X3_value_76 k6 h24 a0 a1 x3 x4 x5 r23 x4 b22)))
else none))
set_option maxHeartbeats 2000000 in
theorem t_X3_value_46 {k6 : aH → Nat → Nat → Int32 → Int32 → Int32 → Option (Int64 × aH)} (hk6 : ∀ (h : aH) (a0 : Nat) (a1 : Nat) (x3 : Int32) (x4 : Int32) (x5 : Int32), AO eL 3 kX3_value 6 [some (.ref a0), some (.ref a1), none, some (.int x3), some (.int x4), some (.int x5), none, none] [] h (k6 h a0 a1 x3 x4 x5)) (h : aH) (a0 : Nat) (a1 : Nat) (x3 : Int32) (x4 : Int32) (x5 : Int32) (x6 : Int32) (x7 : Int32) : AO eL 3 kX3_value 46 [some (.ref a0), some (.ref a1), none, some (.int x3), some (.int x4), some (.int x5), some (.int x6), some (.int x7)] [] h (b_X3_value_46 k6 h a0 a1 x3 x4 x5 x6 x7) := by
  unfold b_X3_value_46
  refine ao_s (st_iload dX3_value_46 rfl) ?_
  refine ao_s (st_bipush dX3_value_48 bp_64) ?_
  refine ao_br (br_icmp_ge (tgt := 169) dX3_value_50 (by decide)) (fun c26 => ?_) (fun c26 => ?_)
  · exact ao_w (sb_s (sb_s (sb_n (sb_s (sb_s (sb_s (sb_n (sb_n sb_0)))))))) (t_X3_value_169 hk6 h a0 a1 x3 x4 x5)
  · refine ao_s (st_aload_n dX3_value_53 rfl rfl) ?_
    refine ao_chk (fun e21 => ?_)
    refine ao_getR dX3_value_54 fl_X3_15 rfl e21 (fun b22 => ?_)
    refine ao_s (st_iload dX3_value_57 rfl) ?_
    refine ao_s (st_iload dX3_value_59 rfl) ?_
    refine ao_br (br_if_ne (tgt := 70) dX3_value_61 (by decide)) (fun c25 => ?_) (fun c25 => ?_)
    · refine ao_s (st_iload dX3_value_64 rfl) ?_
      refine ao_s (st_i2l dX3_value_66) ?_
      refine ao_s (st_goto 76 dX3_value_67 (by decide)) ?_
      exact ao_w (sb_s (sb_s (sb_n (sb_s (sb_s (sb_s (sb_n (sb_n sb_0)))))))) (t_X3_value_76 hk6 h a0 a1 x3 x4 x5 x7.toInt64 x4 b22)
    · refine ao_s (st_aload_n dX3_value_70 rfl rfl) ?_
      refine ao_s (st_iload dX3_value_71 rfl) ?_
      refine ao_cVl (Kc := kX3_wordValue) (As := [.int x7]) (st := [.int x4, .ref b22]) dX3_value_73 ml_X3_73 mv_X3_wordValue rfl e21 (by decide) rfl rfl (Nat.le_of_ble_eq_true rfl) (by decide) (s_X3_wordValue h a0 x7) (fun r23 h24 => ?_)
      exact ao_w (sb_s (sb_s (sb_n (sb_s (sb_s (sb_s (sb_n (sb_n sb_0)))))))) (t_X3_value_76 hk6 h24 a0 a1 x3 x4 x5 r23 x4 b22)
def b_X3_value_123 (k6 : aH → Nat → Nat → Int32 → Int32 → Int32 → Option (Int64 × aH)) (h : aH) (a0 : Nat) (a1 : Nat) (x3 : Int32) (x4 : Int32) (x5 : Int32) (s0 : Int64) (s1 : Int32) (s2 : Nat) : Option (Int64 × aH) :=
(if (sh s2).1 = 3 then
(if aIn s1 (sh s2).2 then
(aLet (pL h s2 s1.toNatClampNeg s0) fun h22 =>
b_X3_value_169 k6 h22 a0 a1 x3 x4 x5)
else none)
else none)
set_option maxHeartbeats 2000000 in
theorem t_X3_value_123 {k6 : aH → Nat → Nat → Int32 → Int32 → Int32 → Option (Int64 × aH)} (hk6 : ∀ (h : aH) (a0 : Nat) (a1 : Nat) (x3 : Int32) (x4 : Int32) (x5 : Int32), AO eL 3 kX3_value 6 [some (.ref a0), some (.ref a1), none, some (.int x3), some (.int x4), some (.int x5), none, none] [] h (k6 h a0 a1 x3 x4 x5)) (h : aH) (a0 : Nat) (a1 : Nat) (x3 : Int32) (x4 : Int32) (x5 : Int32) (s0 : Int64) (s1 : Int32) (s2 : Nat) : AO eL 3 kX3_value 123 [some (.ref a0), some (.ref a1), none, some (.int x3), some (.int x4), some (.int x5), none, none] [.long s0, .int s1, .ref s2] h (b_X3_value_123 k6 h a0 a1 x3 x4 x5 s0 s1 s2) := by
  unfold b_X3_value_123
  refine ao_chk (fun e21 => ?_)
  refine ao_last dX3_value_123 e21 ?_
  refine ao_letH (fun h22 => ?_)
  refine ao_s (st_goto 169 dX3_value_124 (by decide)) ?_
  exact ao_w (sb_s (sb_s (sb_n (sb_s (sb_s (sb_s (sb_n (sb_n sb_0)))))))) (t_X3_value_169 hk6 h22 a0 a1 x3 x4 x5)
def b_X3_value_6 (k6 : aH → Nat → Nat → Int32 → Int32 → Int32 → Option (Int64 × aH)) (h : aH) (a0 : Nat) (a1 : Nat) (x3 : Int32) (x4 : Int32) (x5 : Int32) : Option (Int64 × aH) :=
(if x3 ≤ x5 then
(if (sh a0).1 = 10 then
((hR h a0 1).bind fun b22 =>
(if (sh b22).1 = 3 then
(if aIn 0 (sh b22).2 then
some (hL h b22 (0 : Int32).toNatClampNeg, h)
else none)
else none))
else none)
else
(if (sh a1).1 = 12 then
((hR h a1 0).bind fun b25 =>
(if (sh b25).1 = 0 then
(if aIn x5 (sh b25).2 then
(aLet ((hI h b25 x5.toNatClampNeg) &&& 15) fun x27 =>
((hR h a1 0).bind fun b28 =>
(if (sh b28).1 = 0 then
(if aIn x5 (sh b28).2 then
(aLet ((hI h b28 x5.toNatClampNeg) >>> (4 &&& 31)) fun x30 =>
(if x27 = 0 then
b_X3_value_46 k6 h a0 a1 x3 x4 x5 x27 x30
else
(if x27 = 1 then
b_X3_value_46 k6 h a0 a1 x3 x4 x5 x27 x30
else
(if x27 = 14 then
(if x4 < 1 then
b_X3_value_169 k6 h a0 a1 x3 x4 x5
else
(if (sh a0).1 = 10 then
((hR h a0 1).bind fun b32 =>
((hR h a0 1).bind fun b33 =>
(aLet (x4 - 1) fun x34 =>
(if (sh b33).1 = 3 then
(if aIn x34 (sh b33).2 then
(if lg_cmp (hL h b33 x34.toNatClampNeg) 0 = 0 then
b_X3_value_123 k6 h a0 a1 x3 x4 x5 1 (x4 - 1) b32
else
b_X3_value_123 k6 h a0 a1 x3 x4 x5 0 (x4 - 1) b32)
else none)
else none))))
else none))
else
(if x4 < 2 then
b_X3_value_169 k6 h a0 a1 x3 x4 x5
else
(if (sh a0).1 = 10 then
((hR h a0 1).bind fun b39 =>
((hR h a0 1).bind fun b40 =>
(aLet (x4 - 2) fun x41 =>
(if (sh b40).1 = 3 then
(if aIn x41 (sh b40).2 then
((hR h a0 1).bind fun b43 =>
(aLet (x4 - 1) fun x44 =>
(if (sh b43).1 = 3 then
(if aIn x44 (sh b43).2 then
(aBind (f_X3_combined h a0 x27 (hL h b40 x41.toNatClampNeg) (hL h b43 x44.toNatClampNeg)) fun r46 h47 =>
(aLet (x4 - 2) fun x48 =>
(if (sh b39).1 = 3 then
(if aIn x48 (sh b39).2 then
(aLet (pL h47 b39 x48.toNatClampNeg r46) fun h50 =>
b_X3_value_169 k6 h50 a0 a1 x3 (x4 + (-1)) x5)
else none)
else none)))
else none)
else none)))
else none)
else none))))
else none))))))
else none)
else none)))
else none)
else none))
else none))
set_option maxHeartbeats 2000000 in
theorem t_X3_value_6 {k6 : aH → Nat → Nat → Int32 → Int32 → Int32 → Option (Int64 × aH)} (hk6 : ∀ (h : aH) (a0 : Nat) (a1 : Nat) (x3 : Int32) (x4 : Int32) (x5 : Int32), AO eL 3 kX3_value 6 [some (.ref a0), some (.ref a1), none, some (.int x3), some (.int x4), some (.int x5), none, none] [] h (k6 h a0 a1 x3 x4 x5)) (h : aH) (a0 : Nat) (a1 : Nat) (x3 : Int32) (x4 : Int32) (x5 : Int32) : AO eL 3 kX3_value 6 [some (.ref a0), some (.ref a1), none, some (.int x3), some (.int x4), some (.int x5), none, none] [] h (b_X3_value_6 k6 h a0 a1 x3 x4 x5) := by
  unfold b_X3_value_6
  refine ao_s (st_iload dX3_value_6 rfl) ?_
  refine ao_s (st_iload_n dX3_value_8 rfl rfl) ?_
  refine ao_br (br_icmp_ge (tgt := 175) dX3_value_9 (by decide)) (fun c55 => ?_) (fun c55 => ?_)
  · refine ao_s (st_aload_n dX3_value_175 rfl rfl) ?_
    refine ao_chk (fun e21 => ?_)
    refine ao_getR dX3_value_176 fl_X3_15 rfl e21 (fun b22 => ?_)
    refine ao_s (st_iconst dX3_value_179 ic_0) ?_
    refine ao_chk (fun e23 => ?_)
    refine ao_lald dX3_value_180 e23 ?_
    exact ao_lr dX3_value_181 rfl
  · refine ao_s (st_aload_n dX3_value_12 rfl rfl) ?_
    refine ao_chk (fun e24 => ?_)
    refine ao_getR dX3_value_13 fl_X3_70 rfl e24 (fun b25 => ?_)
    refine ao_s (st_iload dX3_value_16 rfl) ?_
    refine ao_chk (fun e26 => ?_)
    refine ao_iald dX3_value_18 e26 ?_
    refine ao_s (st_bipush dX3_value_19 bp_15) ?_
    refine ao_s (st_iand dX3_value_21) ?_
    refine ao_letI (fun x27 => ?_)
    refine ao_s (st_istore (lv' := [some (.ref a0), some (.ref a1), none, some (.int x3), some (.int x4), some (.int x5), some (.int x27), none]) dX3_value_22 (by decide) rfl) ?_
    refine ao_s (st_aload_n dX3_value_24 rfl rfl) ?_
    refine ao_getR dX3_value_25 fl_X3_70 rfl e24 (fun b28 => ?_)
    refine ao_s (st_iload dX3_value_28 rfl) ?_
    refine ao_chk (fun e29 => ?_)
    refine ao_iald dX3_value_30 e29 ?_
    refine ao_s (st_iconst dX3_value_31 ic_4) ?_
    refine ao_s (st_ishr dX3_value_32) ?_
    refine ao_letI (fun x30 => ?_)
    refine ao_s (st_istore (lv' := [some (.ref a0), some (.ref a1), none, some (.int x3), some (.int x4), some (.int x5), some (.int x27), some (.int x30)]) dX3_value_33 (by decide) rfl) ?_
    refine ao_s (st_iload dX3_value_35 rfl) ?_
    refine ao_br (br_if_eq (tgt := 46) dX3_value_37 (by decide)) (fun c54 => ?_) (fun c54 => ?_)
    · exact ao_w (sb_s (sb_s (sb_n (sb_s (sb_s (sb_s (sb_s (sb_s sb_0)))))))) (t_X3_value_46 hk6 h a0 a1 x3 x4 x5 x27 x30)
    · refine ao_s (st_iload dX3_value_40 rfl) ?_
      refine ao_s (st_iconst dX3_value_42 ic_1) ?_
      refine ao_br (br_icmp_ne (tgt := 83) dX3_value_43 (by decide)) (fun c53 => ?_) (fun c53 => ?_)
      · exact ao_w (sb_s (sb_s (sb_n (sb_s (sb_s (sb_s (sb_s (sb_s sb_0)))))))) (t_X3_value_46 hk6 h a0 a1 x3 x4 x5 x27 x30)
      · refine ao_s (st_iload dX3_value_83 rfl) ?_
        refine ao_s (st_bipush dX3_value_85 bp_14) ?_
        refine ao_br (br_icmp_ne (tgt := 127) dX3_value_87 (by decide)) (fun c52 => ?_) (fun c52 => ?_)
        · refine ao_s (st_iload dX3_value_90 rfl) ?_
          refine ao_s (st_iconst dX3_value_92 ic_1) ?_
          refine ao_br (br_icmp_lt (tgt := 169) dX3_value_93 (by decide)) (fun c37 => ?_) (fun c37 => ?_)
          · exact ao_w (sb_s (sb_s (sb_n (sb_s (sb_s (sb_s (sb_n (sb_n sb_0)))))))) (t_X3_value_169 hk6 h a0 a1 x3 x4 x5)
          · refine ao_s (st_aload_n dX3_value_96 rfl rfl) ?_
            refine ao_chk (fun e31 => ?_)
            refine ao_getR dX3_value_97 fl_X3_15 rfl e31 (fun b32 => ?_)
            refine ao_s (st_iload dX3_value_100 rfl) ?_
            refine ao_s (st_iconst dX3_value_102 ic_1) ?_
            refine ao_s (st_isub dX3_value_103) ?_
            refine ao_s (st_aload_n dX3_value_104 rfl rfl) ?_
            refine ao_getR dX3_value_105 fl_X3_15 rfl e31 (fun b33 => ?_)
            refine ao_s (st_iload dX3_value_108 rfl) ?_
            refine ao_s (st_iconst dX3_value_110 ic_1) ?_
            refine ao_s (st_isub dX3_value_111) ?_
            refine ao_letI (fun x34 => ?_)
            refine ao_chk (fun e35 => ?_)
            refine ao_lald dX3_value_112 e35 ?_
            refine ao_s (st_lconst dX3_value_113 lc_0) ?_
            refine ao_s (st_lcmp dX3_value_114) ?_
            refine ao_br (br_if_ne (tgt := 122) dX3_value_115 (by decide)) (fun c36 => ?_) (fun c36 => ?_)
            · refine ao_s (st_lconst dX3_value_118 lc_1) ?_
              refine ao_s (st_goto 123 dX3_value_119 (by decide)) ?_
              exact ao_w (sb_s (sb_s (sb_n (sb_s (sb_s (sb_s (sb_n (sb_n sb_0)))))))) (t_X3_value_123 hk6 h a0 a1 x3 x4 x5 1 (x4 - 1) b32)
            · refine ao_s (st_lconst dX3_value_122 lc_0) ?_
              exact ao_w (sb_s (sb_s (sb_n (sb_s (sb_s (sb_s (sb_n (sb_n sb_0)))))))) (t_X3_value_123 hk6 h a0 a1 x3 x4 x5 0 (x4 - 1) b32)
        · refine ao_s (st_iload dX3_value_127 rfl) ?_
          refine ao_s (st_iconst dX3_value_129 ic_2) ?_
          refine ao_br (br_icmp_lt (tgt := 169) dX3_value_130 (by decide)) (fun c51 => ?_) (fun c51 => ?_)
          · exact ao_w (sb_s (sb_s (sb_n (sb_s (sb_s (sb_s (sb_n (sb_n sb_0)))))))) (t_X3_value_169 hk6 h a0 a1 x3 x4 x5)
          · refine ao_s (st_aload_n dX3_value_133 rfl rfl) ?_
            refine ao_chk (fun e38 => ?_)
            refine ao_getR dX3_value_134 fl_X3_15 rfl e38 (fun b39 => ?_)
            refine ao_s (st_iload dX3_value_137 rfl) ?_
            refine ao_s (st_iconst dX3_value_139 ic_2) ?_
            refine ao_s (st_isub dX3_value_140) ?_
            refine ao_s (st_aload_n dX3_value_141 rfl rfl) ?_
            refine ao_s (st_iload dX3_value_142 rfl) ?_
            refine ao_s (st_aload_n dX3_value_144 rfl rfl) ?_
            refine ao_getR dX3_value_145 fl_X3_15 rfl e38 (fun b40 => ?_)
            refine ao_s (st_iload dX3_value_148 rfl) ?_
            refine ao_s (st_iconst dX3_value_150 ic_2) ?_
            refine ao_s (st_isub dX3_value_151) ?_
            refine ao_letI (fun x41 => ?_)
            refine ao_chk (fun e42 => ?_)
            refine ao_lald dX3_value_152 e42 ?_
            refine ao_s (st_aload_n dX3_value_153 rfl rfl) ?_
            refine ao_getR dX3_value_154 fl_X3_15 rfl e38 (fun b43 => ?_)
            refine ao_s (st_iload dX3_value_157 rfl) ?_
            refine ao_s (st_iconst dX3_value_159 ic_1) ?_
            refine ao_s (st_isub dX3_value_160) ?_
            refine ao_letI (fun x44 => ?_)
            refine ao_chk (fun e45 => ?_)
            refine ao_lald dX3_value_161 e45 ?_
            refine ao_cVl (Kc := kX3_combined) (As := [.int x27, .long (hL h b40 x41.toNatClampNeg), .long (hL h b43 x44.toNatClampNeg)]) (st := [.int (x4 - 2), .ref b39]) dX3_value_162 ml_X3_77 mv_X3_combined rfl e38 (by decide) rfl rfl (Nat.le_of_ble_eq_true rfl) (by decide) (s_X3_combined h a0 x27 (hL h b40 x41.toNatClampNeg) (hL h b43 x44.toNatClampNeg)) (fun r46 h47 => ?_)
            refine ao_let2 (fun x48 => ?_)
            refine ao_chk (fun e49 => ?_)
            refine ao_last dX3_value_165 e49 ?_
            refine ao_letH (fun h50 => ?_)
            refine ao_s (st_iinc (lv' := [some (.ref a0), some (.ref a1), none, some (.int x3), some (.int (x4 + (-1))), some (.int x5), some (.int x27), some (.int x30)]) dX3_value_166 rfl nc_m1 (by decide) rfl) ?_
            exact ao_w (sb_s (sb_s (sb_n (sb_s (sb_s (sb_s (sb_n (sb_n sb_0)))))))) (t_X3_value_169 hk6 h50 a0 a1 x3 (x4 + (-1)) x5)
def f_X3_value_6 (n : Nat) : aH → Nat → Nat → Int32 → Int32 → Int32 → Option (Int64 × aH) := aIt (fun _ _ _ _ _ _ => none) (fun k => b_X3_value_6 k) n
theorem l_X3_value_6 (n : Nat) : ∀ (h : aH) (a0 : Nat) (a1 : Nat) (x3 : Int32) (x4 : Int32) (x5 : Int32), AO eL 3 kX3_value 6 [some (.ref a0), some (.ref a1), none, some (.int x3), some (.int x4), some (.int x5), none, none] [] h (f_X3_value_6 n h a0 a1 x3 x4 x5) := by
  induction n with
  | zero => intros; exact ao_none
  | succ n ih =>
    intro h a0 a1 x3 x4 x5
    exact t_X3_value_6 ih h a0 a1 x3 x4 x5
def f_X3_value (h : aH) (a0 : Nat) (a1 : Nat) (x2 : Int32) (x3 : Int32) : Option (Int64 × aH) :=
f_X3_value_6 2000 h a0 a1 x3 0 x2
set_option maxHeartbeats 2000000 in
theorem s_X3_value (h : aH) (a0 : Nat) (a1 : Nat) (x2 : Int32) (x3 : Int32) : SO eL 3 kX3_value [.ref a0, .ref a1, .int x2, .int x3] h (f_X3_value h a0 a1 x2 x3) := by
  refine so_of (lv0 := [some (.ref a0), some (.ref a1), some (.int x2), some (.int x3), none, none, none, none]) pn_X3 (Nat.le_of_ble_eq_true rfl) rfl ?_
  unfold f_X3_value
  refine ao_s (st_iconst dX3_value_0 ic_0) ?_
  refine ao_s (st_istore (lv' := [some (.ref a0), some (.ref a1), some (.int x2), some (.int x3), some (.int 0), none, none, none]) dX3_value_1 (by decide) rfl) ?_
  refine ao_s (st_iload_n dX3_value_3 rfl rfl) ?_
  refine ao_s (st_istore (lv' := [some (.ref a0), some (.ref a1), some (.int x2), some (.int x3), some (.int 0), some (.int x2), none, none]) dX3_value_4 (by decide) rfl) ?_
  exact ao_w (sb_s (sb_s (sb_n (sb_s (sb_s (sb_s (sb_n (sb_n sb_0)))))))) (l_X3_value_6 2000 h a0 a1 x3 0 x2)
def b_X3_stays_87 (h : aH) (a0 : Nat) (a2 : Nat) (x6 : Int32) (x7 : Int32) : Option (Int32 × aH) :=
(if (sh a2).1 = 12 then
((hR h a2 1).bind fun b22 =>
(if (sh b22).1 = 0 then
(if aIn x6 (sh b22).2 then
(if (sh a0).1 = 10 then
(aBind (f_X3_value h a0 a2 (hI h b22 x6.toNatClampNeg) x7) fun r25 h26 =>
(if lg_cmp r25 0 ≤ 0 then
some (0, h26)
else
some (1, h26)))
else none)
else none)
else none))
else none)
set_option maxHeartbeats 2000000 in
theorem t_X3_stays_87 (h : aH) (a0 : Nat) (a2 : Nat) (x6 : Int32) (x7 : Int32) : AO eI 4 kX3_stays 87 [some (.ref a0), none, some (.ref a2), none, none, none, some (.int x6), some (.int x7), none] [] h (b_X3_stays_87 h a0 a2 x6 x7) := by
  unfold b_X3_stays_87
  refine ao_s (st_aload_n dX3_stays_87 rfl rfl) ?_
  refine ao_s (st_aload_n dX3_stays_88 rfl rfl) ?_
  refine ao_s (st_aload_n dX3_stays_89 rfl rfl) ?_
  refine ao_chk (fun e21 => ?_)
  refine ao_getR dX3_stays_90 fl_X3_48 rfl e21 (fun b22 => ?_)
  refine ao_s (st_iload dX3_stays_93 rfl) ?_
  refine ao_chk (fun e23 => ?_)
  refine ao_iald dX3_stays_95 e23 ?_
  refine ao_s (st_iload dX3_stays_96 rfl) ?_
  refine ao_chk (fun e24 => ?_)
  refine ao_cVl (Kc := kX3_value) (As := [.ref a2, .int (hI h b22 x6.toNatClampNeg), .int x7]) (st := []) dX3_stays_98 ml_X3_44 mv_X3_value rfl e24 (by decide) rfl rfl (Nat.le_of_ble_eq_true rfl) (by decide) (s_X3_value h a0 a2 (hI h b22 x6.toNatClampNeg) x7) (fun r25 h26 => ?_)
  refine ao_s (st_lconst dX3_stays_101 lc_0) ?_
  refine ao_s (st_lcmp dX3_stays_102) ?_
  refine ao_br (br_if_le (tgt := 110) dX3_stays_103 (by decide)) (fun c27 => ?_) (fun c27 => ?_)
  · refine ao_s (st_iconst dX3_stays_110 ic_0) ?_
    exact ao_ir dX3_stays_111 rfl (by decide)
  · refine ao_s (st_iconst dX3_stays_106 ic_1) ?_
    refine ao_s (st_goto 111 dX3_stays_107 (by decide)) ?_
    exact ao_ir dX3_stays_111 rfl (by decide)
def b_X3_stays_39 (k39 : aH → Nat → Nat → Int32 → Option (Int32 × aH)) (h : aH) (a0 : Nat) (a2 : Nat) (x6 : Int32) : Option (Int32 × aH) :=
(if (sh a2).1 = 12 then
(if hI h a2 5 ≤ x6 then
some (0, h)
else
((hR h a2 2).bind fun b22 =>
(if (sh b22).1 = 0 then
(if aIn x6 (sh b22).2 then
(aLet (hI h b22 x6.toNatClampNeg) fun x24 =>
((hR h a2 3).bind fun b25 =>
(if (sh b25).1 = 0 then
(if aIn x6 (sh b25).2 then
(aLet (hI h b25 x6.toNatClampNeg) fun x27 =>
(if x24 = x27 then
b_X3_stays_87 h a0 a2 x6 x24
else
(if (sh a0).1 = 10 then
(aBind (f_X3_value h a0 a2 x24 x27) fun r29 h30 =>
(if lg_cmp r29 0 = 0 then
k39 h30 a0 a2 (x6 + 1)
else
b_X3_stays_87 h30 a0 a2 x6 x24))
else none)))
else none)
else none)))
else none)
else none)))
else none)
set_option maxHeartbeats 2000000 in
theorem t_X3_stays_39 {k39 : aH → Nat → Nat → Int32 → Option (Int32 × aH)} (hk39 : ∀ (h : aH) (a0 : Nat) (a2 : Nat) (x6 : Int32), AO eI 4 kX3_stays 39 [some (.ref a0), none, some (.ref a2), none, none, none, some (.int x6), none, none] [] h (k39 h a0 a2 x6)) (h : aH) (a0 : Nat) (a2 : Nat) (x6 : Int32) : AO eI 4 kX3_stays 39 [some (.ref a0), none, some (.ref a2), none, none, none, some (.int x6), none, none] [] h (b_X3_stays_39 k39 h a0 a2 x6) := by
  unfold b_X3_stays_39
  refine ao_s (st_iload dX3_stays_39 rfl) ?_
  refine ao_s (st_aload_n dX3_stays_41 rfl rfl) ?_
  refine ao_chk (fun e21 => ?_)
  refine ao_getI dX3_stays_42 fl_X3_32 rfl e21 ?_
  refine ao_br (br_icmp_ge (tgt := 118) dX3_stays_45 (by decide)) (fun c33 => ?_) (fun c33 => ?_)
  · refine ao_s (st_iconst dX3_stays_118 ic_0) ?_
    exact ao_ir dX3_stays_119 rfl (by decide)
  · refine ao_s (st_aload_n dX3_stays_48 rfl rfl) ?_
    refine ao_getR dX3_stays_49 fl_X3_37 rfl e21 (fun b22 => ?_)
    refine ao_s (st_iload dX3_stays_52 rfl) ?_
    refine ao_chk (fun e23 => ?_)
    refine ao_iald dX3_stays_54 e23 ?_
    refine ao_letI (fun x24 => ?_)
    refine ao_s (st_istore (lv' := [some (.ref a0), none, some (.ref a2), none, none, none, some (.int x6), some (.int x24), none]) dX3_stays_55 (by decide) rfl) ?_
    refine ao_s (st_aload_n dX3_stays_57 rfl rfl) ?_
    refine ao_getR dX3_stays_58 fl_X3_41 rfl e21 (fun b25 => ?_)
    refine ao_s (st_iload dX3_stays_61 rfl) ?_
    refine ao_chk (fun e26 => ?_)
    refine ao_iald dX3_stays_63 e26 ?_
    refine ao_letI (fun x27 => ?_)
    refine ao_s (st_istore (lv' := [some (.ref a0), none, some (.ref a2), none, none, none, some (.int x6), some (.int x24), some (.int x27)]) dX3_stays_64 (by decide) rfl) ?_
    refine ao_s (st_iload dX3_stays_66 rfl) ?_
    refine ao_s (st_iload dX3_stays_68 rfl) ?_
    refine ao_br (br_icmp_eq (tgt := 87) dX3_stays_70 (by decide)) (fun c32 => ?_) (fun c32 => ?_)
    · exact ao_w (sb_s (sb_n (sb_s (sb_n (sb_n (sb_n (sb_s (sb_s (sb_n sb_0))))))))) (t_X3_stays_87 h a0 a2 x6 x24)
    · refine ao_s (st_aload_n dX3_stays_73 rfl rfl) ?_
      refine ao_s (st_aload_n dX3_stays_74 rfl rfl) ?_
      refine ao_s (st_iload dX3_stays_75 rfl) ?_
      refine ao_s (st_iload dX3_stays_77 rfl) ?_
      refine ao_chk (fun e28 => ?_)
      refine ao_cVl (Kc := kX3_value) (As := [.ref a2, .int x24, .int x27]) (st := []) dX3_stays_79 ml_X3_44 mv_X3_value rfl e28 (by decide) rfl rfl (Nat.le_of_ble_eq_true rfl) (by decide) (s_X3_value h a0 a2 x24 x27) (fun r29 h30 => ?_)
      refine ao_s (st_lconst dX3_stays_82 lc_0) ?_
      refine ao_s (st_lcmp dX3_stays_83) ?_
      refine ao_br (br_if_eq (tgt := 112) dX3_stays_84 (by decide)) (fun c31 => ?_) (fun c31 => ?_)
      · refine ao_s (st_iinc (lv' := [some (.ref a0), none, some (.ref a2), none, none, none, some (.int (x6 + 1)), some (.int x24), some (.int x27)]) dX3_stays_112 rfl nc_1 (by decide) rfl) ?_
        refine ao_s (st_goto 39 dX3_stays_115 (by decide)) ?_
        exact ao_w (sb_s (sb_n (sb_s (sb_n (sb_n (sb_n (sb_s (sb_n (sb_n sb_0))))))))) (hk39 h30 a0 a2 (x6 + 1))
      · exact ao_w (sb_s (sb_n (sb_s (sb_n (sb_n (sb_n (sb_s (sb_s (sb_n sb_0))))))))) (t_X3_stays_87 h30 a0 a2 x6 x24)
def f_X3_stays_39 (n : Nat) : aH → Nat → Nat → Int32 → Option (Int32 × aH) := aIt (fun _ _ _ _ => none) (fun k => b_X3_stays_39 k) n
theorem l_X3_stays_39 (n : Nat) : ∀ (h : aH) (a0 : Nat) (a2 : Nat) (x6 : Int32), AO eI 4 kX3_stays 39 [some (.ref a0), none, some (.ref a2), none, none, none, some (.int x6), none, none] [] h (f_X3_stays_39 n h a0 a2 x6) := by
  induction n with
  | zero => intros; exact ao_none
  | succ n ih =>
    intro h a0 a2 x6
    exact t_X3_stays_39 ih h a0 a2 x6
def f_X3_stays (h : aH) (a0 : Nat) (a1 : Nat) (a2 : Option Nat) (x3 : Int32) (x4 : Int32) (x5 : Int32) : Option (Int32 × aH) :=
(match a2 with
| none =>
(if (sh a1).1 = 15 then
(aBind (f_X8_like h a1 x3 x4 x5) fun r26 h27 =>
(if r26 < hI h27 a1 2 then
some (0, h27)
else
some (1, h27)))
else none)
| some b21 =>
(if (sh a0).1 = 10 then
(aBind (f_X3_lookAt h a0 a1 x3 x4 x5) fun r23 h24 =>
f_X3_stays_39 2000 h24 a0 b21 0)
else none))
set_option maxHeartbeats 2000000 in
theorem s_X3_stays (h : aH) (a0 : Nat) (a1 : Nat) (a2 : Option Nat) (x3 : Int32) (x4 : Int32) (x5 : Int32) : SO eI 4 kX3_stays [.ref a0, .ref a1, va_rf a2, .int x3, .int x4, .int x5] h (f_X3_stays h a0 a1 a2 x3 x4 x5) := by
  refine so_of (lv0 := [some (.ref a0), some (.ref a1), some (va_rf a2), some (.int x3), some (.int x4), some (.int x5), none, none, none]) pn_X3 (by simp [aEn, aEnt, aCatN, aCatR, aCatQ, aCatL]) (by simp [aEn, aEnt, aCatN, aCatR, aCatQ, aCatL]) ?_
  unfold f_X3_stays
  refine ao_s (st_aload_nQ dX3_stays_0 rfl rfl) ?_
  cases a2 with
  | none =>
    refine ao_s (st_nnullN dX3_stays_1) ?_
    refine ao_s (st_aload_n dX3_stays_4 rfl rfl) ?_
    refine ao_s (st_iload_n dX3_stays_5 rfl rfl) ?_
    refine ao_s (st_iload dX3_stays_6 rfl) ?_
    refine ao_s (st_iload dX3_stays_8 rfl) ?_
    refine ao_chk (fun e25 => ?_)
    refine ao_cVi (Kc := kX8_like) (As := [.int x3, .int x4, .int x5]) (st := []) dX3_stays_10 ml_X3_18 mv_X8_like rfl e25 (by decide) rfl rfl (Nat.le_of_ble_eq_true rfl) (by decide) (s_X8_like h a1 x3 x4 x5) (fun r26 h27 => ?_)
    refine ao_s (st_aload_n dX3_stays_13 rfl rfl) ?_
    refine ao_getI dX3_stays_14 fl_X3_24 rfl e25 ?_
    refine ao_br (br_icmp_lt (tgt := 24) dX3_stays_17 (by decide)) (fun c28 => ?_) (fun c28 => ?_)
    · refine ao_s (st_iconst dX3_stays_24 ic_0) ?_
      exact ao_ir dX3_stays_25 rfl (by decide)
    · refine ao_s (st_iconst dX3_stays_20 ic_1) ?_
      refine ao_s (st_goto 25 dX3_stays_21 (by decide)) ?_
      exact ao_ir dX3_stays_25 rfl (by decide)
  | some b21 =>
    refine ao_s (st_nnull (tgt := 26) dX3_stays_1 (by decide)) ?_
    refine ao_s (st_aload_n dX3_stays_26 rfl rfl) ?_
    refine ao_s (st_aload_n dX3_stays_27 rfl rfl) ?_
    refine ao_s (st_iload_n dX3_stays_28 rfl rfl) ?_
    refine ao_s (st_iload dX3_stays_29 rfl) ?_
    refine ao_s (st_iload dX3_stays_31 rfl) ?_
    refine ao_chk (fun e22 => ?_)
    refine ao_cVv (Kc := kX3_lookAt) (As := [.ref a1, .int x3, .int x4, .int x5]) (st := []) dX3_stays_33 ml_X3_28 mv_X3_lookAt rfl e22 (by decide) rfl rfl (Nat.le_of_ble_eq_true rfl) (by decide) (s_X3_lookAt h a0 a1 x3 x4 x5) (fun r23 h24 => ?_)
    refine ao_s (st_iconst dX3_stays_36 ic_0) ?_
    refine ao_s (st_istore (lv' := [some (.ref a0), some (.ref a1), some (.ref b21), some (.int x3), some (.int x4), some (.int x5), some (.int 0), none, none]) dX3_stays_37 (by decide) rfl) ?_
    exact ao_w (sb_s (sb_n (sb_s (sb_n (sb_n (sb_n (sb_s (sb_n (sb_n sb_0))))))))) (l_X3_stays_39 2000 h24 a0 b21 0)
def f_X8_partnerOf (h : aH) (a0 : Nat) (x1 : Int32) (x2 : Int32) : Option (Int32 × aH) :=
(if (sh a0).1 = 15 then
((hR h a0 8).bind fun b22 =>
(aLet ((x1 * 4) + x2) fun x23 =>
(if (sh b22).1 = 0 then
(if aIn x23 (sh b22).2 then
some (hI h b22 x23.toNatClampNeg, h)
else none)
else none)))
else none)
set_option maxHeartbeats 2000000 in
theorem s_X8_partnerOf (h : aH) (a0 : Nat) (x1 : Int32) (x2 : Int32) : SO eI 2 kX8_partnerOf [.ref a0, .int x1, .int x2] h (f_X8_partnerOf h a0 x1 x2) := by
  refine so_of (lv0 := [some (.ref a0), some (.int x1), some (.int x2)]) pn_X8 (Nat.le_of_ble_eq_true rfl) rfl ?_
  unfold f_X8_partnerOf
  refine ao_s (st_aload_n dX8_partnerOf_0 rfl rfl) ?_
  refine ao_chk (fun e21 => ?_)
  refine ao_getR dX8_partnerOf_1 fl_X8_39 rfl e21 (fun b22 => ?_)
  refine ao_s (st_iload_n dX8_partnerOf_4 rfl rfl) ?_
  refine ao_s (st_iconst dX8_partnerOf_5 ic_4) ?_
  refine ao_s (st_imul dX8_partnerOf_6) ?_
  refine ao_s (st_iload_n dX8_partnerOf_7 rfl rfl) ?_
  refine ao_s (st_iadd dX8_partnerOf_8) ?_
  refine ao_letI (fun x23 => ?_)
  refine ao_chk (fun e24 => ?_)
  refine ao_iald dX8_partnerOf_9 e24 ?_
  exact ao_ir dX8_partnerOf_10 rfl rfl
