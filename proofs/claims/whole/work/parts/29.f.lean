def f_X11_boats (h : aH) (a0 : Nat) (x1 : Int32) (x2 : Int32) : Option (Int32 × aH) :=
(if (sh a0).1 = 18 then
((hR h a0 5).bind fun b22 =>
(if (sh b22).1 = 17 then
((hR h b22 1).bind fun b24 =>
(if (sh b24).1 = 15 then
(if hI h b24 0 = 0 then
some ((-3), h)
else
(aBind (f_X11_isRuleOrNone h a0 x1) fun r26 h27 =>
(if r26 = 0 then
some ((-3), h27)
else
(if x2 < 0 then
some ((-3), h27)
else
(if x2 ≤ 2 then
((hR h27 a0 14).bind fun b28 =>
((hR h27 a0 5).bind fun b29 =>
(aBind (f_X11_ruleOf h27 a0 x1) fun r30 h31 =>
(if (sh b28).1 = 11 then
(aBind (f_X4_searchBoats h31 b28 b29 r30) fun r33 h34 =>
(if x2 = 0 then
((hR h34 a0 14).bind fun b37 =>
(if (sh b37).1 = 11 then
some (hI h34 b37 4, h34)
else none))
else
(if x2 = 1 then
((hR h34 a0 14).bind fun b39 =>
(if (sh b39).1 = 11 then
some (hI h34 b39 5, h34)
else none))
else
((hR h34 a0 14).bind fun b41 =>
(if (sh b41).1 = 11 then
some (hI h34 b41 6, h34)
else none)))))
else none))))
else
some ((-3), h27))))))
else none))
else none))
else none)
set_option maxHeartbeats 2000000 in
theorem s_X11_boats (h : aH) (a0 : Nat) (x1 : Int32) (x2 : Int32) : SO eI 9 kX11_boats [.ref a0, .int x1, .int x2] h (f_X11_boats h a0 x1 x2) := by
  refine so_of (lv0 := [some (.ref a0), some (.int x1), some (.int x2)]) pn_X11 (Nat.le_of_ble_eq_true rfl) rfl ?_
  unfold f_X11_boats
  refine ao_s (st_aload_n dX11_boats_0 rfl rfl) ?_
  refine ao_chk (fun e21 => ?_)
  refine ao_getR dX11_boats_1 fl_X11_45 rfl e21 (fun b22 => ?_)
  refine ao_chk (fun e23 => ?_)
  refine ao_getR dX11_boats_4 fl_X11_119 rfl e23 (fun b24 => ?_)
  refine ao_chk (fun e25 => ?_)
  refine ao_getI dX11_boats_7 fl_X11_191 rfl e25 ?_
  refine ao_br (br_if_eq (tgt := 30) dX11_boats_10 (by decide)) (fun c46 => ?_) (fun c46 => ?_)
  · refine ao_s (st_bipush dX11_boats_30 bp_m3) ?_
    exact ao_ir dX11_boats_32 rfl rfl
  · refine ao_s (st_aload_n dX11_boats_13 rfl rfl) ?_
    refine ao_s (st_iload_n dX11_boats_14 rfl rfl) ?_
    refine ao_cVi (Kc := kX11_isRuleOrNone) (As := [.int x1]) (st := []) dX11_boats_15 ml_X11_131 mv_X11_isRuleOrNone rfl e21 (by decide) rfl rfl (Nat.le_of_ble_eq_true rfl) (by decide) (s_X11_isRuleOrNone h a0 x1) (fun r26 h27 => ?_)
    refine ao_br (br_if_eq (tgt := 30) dX11_boats_18 (by decide)) (fun c45 => ?_) (fun c45 => ?_)
    · refine ao_s (st_bipush dX11_boats_30 bp_m3) ?_
      exact ao_ir dX11_boats_32 rfl rfl
    · refine ao_s (st_iload_n dX11_boats_21 rfl rfl) ?_
      refine ao_br (br_if_lt (tgt := 30) dX11_boats_22 (by decide)) (fun c44 => ?_) (fun c44 => ?_)
      · refine ao_s (st_bipush dX11_boats_30 bp_m3) ?_
        exact ao_ir dX11_boats_32 rfl rfl
      · refine ao_s (st_iload_n dX11_boats_25 rfl rfl) ?_
        refine ao_s (st_iconst dX11_boats_26 ic_2) ?_
        refine ao_br (br_icmp_le (tgt := 33) dX11_boats_27 (by decide)) (fun c43 => ?_) (fun c43 => ?_)
        · refine ao_s (st_aload_n dX11_boats_33 rfl rfl) ?_
          refine ao_getR dX11_boats_34 fl_X11_96 rfl e21 (fun b28 => ?_)
          refine ao_s (st_aload_n dX11_boats_37 rfl rfl) ?_
          refine ao_getR dX11_boats_38 fl_X11_45 rfl e21 (fun b29 => ?_)
          refine ao_s (st_aload_n dX11_boats_41 rfl rfl) ?_
          refine ao_s (st_iload_n dX11_boats_42 rfl rfl) ?_
          refine ao_cVq (Kc := kX11_ruleOf) (As := [.int x1]) (st := [.ref b29, .ref b28]) dX11_boats_43 ml_X11_138 mv_X11_ruleOf rfl e21 (by decide) rfl rfl (Nat.le_of_ble_eq_true rfl) (by decide) (s_X11_ruleOf h27 a0 x1) (fun r30 h31 => ?_)
          refine ao_chk (fun e32 => ?_)
          refine ao_cVv (Kc := kX4_searchBoats) (As := [.ref b29, va_rf r30]) (st := []) dX11_boats_46 ml_X11_290 mv_X4_searchBoats rfl e32 (by decide) rfl rfl (Nat.le_of_ble_eq_true rfl) (by decide) (s_X4_searchBoats h31 b28 b29 r30) (fun r33 h34 => ?_)
          refine ao_s (st_iload_n dX11_boats_49 rfl rfl) ?_
          refine ao_ite (fun c35 => ?_) (fun c35 => ?_)
          · refine ao_s (st_look (off := 26) (tgt := 76) dX11_boats_50 (by decide) (by rw [c35]; decide) (by decide)) ?_
            refine ao_s (st_aload_n dX11_boats_76 rfl rfl) ?_
            refine ao_getR dX11_boats_77 fl_X11_96 rfl e21 (fun b37 => ?_)
            refine ao_chk (fun e38 => ?_)
            refine ao_getI dX11_boats_80 fl_X11_294 rfl e38 ?_
            exact ao_ir dX11_boats_83 rfl rfl
          · refine ao_ite (fun c36 => ?_) (fun c36 => ?_)
            · refine ao_s (st_look (off := 34) (tgt := 84) dX11_boats_50 (by decide) (by rw [c36]; decide) (by decide)) ?_
              refine ao_s (st_aload_n dX11_boats_84 rfl rfl) ?_
              refine ao_getR dX11_boats_85 fl_X11_96 rfl e21 (fun b39 => ?_)
              refine ao_chk (fun e40 => ?_)
              refine ao_getI dX11_boats_88 fl_X11_297 rfl e40 ?_
              exact ao_ir dX11_boats_91 rfl rfl
            · refine ao_s (st_look (off := 42) (tgt := 92) dX11_boats_50 (by decide) (by rw [lv_osw c35 (show (0 : Int32).toInt = 0 by decide), lv_osw c36 (show (1 : Int32).toInt = 1 by decide)]; rfl) (by decide)) ?_
              refine ao_s (st_aload_n dX11_boats_92 rfl rfl) ?_
              refine ao_getR dX11_boats_93 fl_X11_96 rfl e21 (fun b41 => ?_)
              refine ao_chk (fun e42 => ?_)
              refine ao_getI dX11_boats_96 fl_X11_300 rfl e42 ?_
              exact ao_ir dX11_boats_99 rfl rfl
        · refine ao_s (st_bipush dX11_boats_30 bp_m3) ?_
          exact ao_ir dX11_boats_32 rfl rfl
def b_X11_look_43 (k43 : aH → Nat → Int32 → Int32 → Int32 → Option (Int32 × aH)) (h : aH) (a0 : Nat) (x1 : Int32) (x2 : Int32) (x3 : Int32) : Option (Int32 × aH) :=
(if (sh a0).1 = 18 then
(if hI h a0 4 ≤ x3 then
((hR h a0 14).bind fun b22 =>
((hR h a0 5).bind fun b23 =>
(if (sh b23).1 = 17 then
((hR h b23 1).bind fun b25 =>
(if (sh b25).1 = 15 then
(if (sh b22).1 = 11 then
(aBind (f_X4_chooseLook h b22 (hI h b25 3)) fun r28 h29 =>
(if x2 = 0 then
((hR h29 a0 14).bind fun b30 =>
(if (sh b30).1 = 11 then
some (hI h29 b30 7, h29)
else none))
else
((hR h29 a0 14).bind fun b32 =>
(if (sh b32).1 = 11 then
some (hI h29 b32 8, h29)
else none))))
else none)
else none))
else none)))
else
((hR h a0 14).bind fun b35 =>
((hR h a0 5).bind fun b36 =>
(aBind (f_X11_ruleOf h a0 x3) fun r37 h38 =>
(if (sh b35).1 = 11 then
(aBind (f_X4_addToLook h38 b35 b36 r37 x1) fun r40 h41 =>
k43 h41 a0 x1 x2 (x3 + 1))
else none)))))
else none)
set_option maxHeartbeats 2000000 in
theorem t_X11_look_43 {k43 : aH → Nat → Int32 → Int32 → Int32 → Option (Int32 × aH)} (hk43 : ∀ (h : aH) (a0 : Nat) (x1 : Int32) (x2 : Int32) (x3 : Int32), AO eI 9 kX11_look 43 [some (.ref a0), some (.int x1), some (.int x2), some (.int x3)] [] h (k43 h a0 x1 x2 x3)) (h : aH) (a0 : Nat) (x1 : Int32) (x2 : Int32) (x3 : Int32) : AO eI 9 kX11_look 43 [some (.ref a0), some (.int x1), some (.int x2), some (.int x3)] [] h (b_X11_look_43 k43 h a0 x1 x2 x3) := by
  unfold b_X11_look_43
  refine ao_s (st_iload_n dX11_look_43 rfl rfl) ?_
  refine ao_s (st_aload_n dX11_look_44 rfl rfl) ?_
  refine ao_chk (fun e21 => ?_)
  refine ao_getI dX11_look_45 fl_X11_38 rfl e21 ?_
  refine ao_br (br_icmp_ge (tgt := 74) dX11_look_48 (by decide)) (fun c42 => ?_) (fun c42 => ?_)
  · refine ao_s (st_aload_n dX11_look_74 rfl rfl) ?_
    refine ao_getR dX11_look_75 fl_X11_96 rfl e21 (fun b22 => ?_)
    refine ao_s (st_aload_n dX11_look_78 rfl rfl) ?_
    refine ao_getR dX11_look_79 fl_X11_45 rfl e21 (fun b23 => ?_)
    refine ao_chk (fun e24 => ?_)
    refine ao_getR dX11_look_82 fl_X11_119 rfl e24 (fun b25 => ?_)
    refine ao_chk (fun e26 => ?_)
    refine ao_getI dX11_look_85 fl_X11_125 rfl e26 ?_
    refine ao_chk (fun e27 => ?_)
    refine ao_cVv (Kc := kX4_chooseLook) (As := [.int (hI h b25 3)]) (st := []) dX11_look_88 ml_X11_310 mv_X4_chooseLook rfl e27 (by decide) rfl rfl (Nat.le_of_ble_eq_true rfl) (by decide) (s_X4_chooseLook h b22 (hI h b25 3)) (fun r28 h29 => ?_)
    refine ao_s (st_iload_n dX11_look_91 rfl rfl) ?_
    refine ao_br (br_if_ne (tgt := 105) dX11_look_92 (by decide)) (fun c34 => ?_) (fun c34 => ?_)
    · refine ao_s (st_aload_n dX11_look_95 rfl rfl) ?_
      refine ao_getR dX11_look_96 fl_X11_96 rfl e21 (fun b30 => ?_)
      refine ao_chk (fun e31 => ?_)
      refine ao_getI dX11_look_99 fl_X11_313 rfl e31 ?_
      refine ao_s (st_goto 112 dX11_look_102 (by decide)) ?_
      exact ao_ir dX11_look_112 rfl rfl
    · refine ao_s (st_aload_n dX11_look_105 rfl rfl) ?_
      refine ao_getR dX11_look_106 fl_X11_96 rfl e21 (fun b32 => ?_)
      refine ao_chk (fun e33 => ?_)
      refine ao_getI dX11_look_109 fl_X11_316 rfl e33 ?_
      exact ao_ir dX11_look_112 rfl rfl
  · refine ao_s (st_aload_n dX11_look_51 rfl rfl) ?_
    refine ao_getR dX11_look_52 fl_X11_96 rfl e21 (fun b35 => ?_)
    refine ao_s (st_aload_n dX11_look_55 rfl rfl) ?_
    refine ao_getR dX11_look_56 fl_X11_45 rfl e21 (fun b36 => ?_)
    refine ao_s (st_aload_n dX11_look_59 rfl rfl) ?_
    refine ao_s (st_iload_n dX11_look_60 rfl rfl) ?_
    refine ao_cVq (Kc := kX11_ruleOf) (As := [.int x3]) (st := [.ref b36, .ref b35]) dX11_look_61 ml_X11_138 mv_X11_ruleOf rfl e21 (by decide) rfl rfl (Nat.le_of_ble_eq_true rfl) (by decide) (s_X11_ruleOf h a0 x3) (fun r37 h38 => ?_)
    refine ao_s (st_iload_n dX11_look_64 rfl rfl) ?_
    refine ao_chk (fun e39 => ?_)
    refine ao_cVv (Kc := kX4_addToLook) (As := [.ref b36, va_rf r37, .int x1]) (st := []) dX11_look_65 ml_X11_306 mv_X4_addToLook rfl e39 (by decide) rfl rfl (Nat.le_of_ble_eq_true rfl) (by decide) (s_X4_addToLook h38 b35 b36 r37 x1) (fun r40 h41 => ?_)
    refine ao_s (st_iinc (lv' := [some (.ref a0), some (.int x1), some (.int x2), some (.int (x3 + 1))]) dX11_look_68 rfl nc_1 (by decide) rfl) ?_
    refine ao_s (st_goto 43 dX11_look_71 (by decide)) ?_
    exact ao_w (sb_s (sb_s (sb_s (sb_s sb_0)))) (hk43 h41 a0 x1 x2 (x3 + 1))
def f_X11_look_43 (n : Nat) : aH → Nat → Int32 → Int32 → Int32 → Option (Int32 × aH) := aIt (fun _ _ _ _ _ => none) (fun k => b_X11_look_43 k) n
theorem l_X11_look_43 (n : Nat) : ∀ (h : aH) (a0 : Nat) (x1 : Int32) (x2 : Int32) (x3 : Int32), AO eI 9 kX11_look 43 [some (.ref a0), some (.int x1), some (.int x2), some (.int x3)] [] h (f_X11_look_43 n h a0 x1 x2 x3) := by
  induction n with
  | zero => intros; exact ao_none
  | succ n ih =>
    intro h a0 x1 x2 x3
    exact t_X11_look_43 ih h a0 x1 x2 x3
def f_X11_look (h : aH) (a0 : Nat) (x1 : Int32) (x2 : Int32) : Option (Int32 × aH) :=
(if (sh a0).1 = 18 then
((hR h a0 5).bind fun b22 =>
(if (sh b22).1 = 17 then
((hR h b22 1).bind fun b24 =>
(if (sh b24).1 = 15 then
(if hI h b24 0 = 0 then
some ((-1), h)
else
(if x1 < 0 then
some ((-1), h)
else
(if 30 < x1 then
some ((-1), h)
else
(if x2 < 0 then
some ((-1), h)
else
(if x2 ≤ 1 then
((hR h a0 14).bind fun b26 =>
(if (sh b26).1 = 11 then
(aBind (f_X4_startLook h b26) fun r28 h29 =>
f_X11_look_43 2000 h29 a0 x1 x2 (-1))
else none))
else
some ((-1), h))))))
else none))
else none))
else none)
set_option maxHeartbeats 2000000 in
theorem s_X11_look (h : aH) (a0 : Nat) (x1 : Int32) (x2 : Int32) : SO eI 9 kX11_look [.ref a0, .int x1, .int x2] h (f_X11_look h a0 x1 x2) := by
  refine so_of (lv0 := [some (.ref a0), some (.int x1), some (.int x2), none]) pn_X11 (Nat.le_of_ble_eq_true rfl) rfl ?_
  unfold f_X11_look
  refine ao_s (st_aload_n dX11_look_0 rfl rfl) ?_
  refine ao_chk (fun e21 => ?_)
  refine ao_getR dX11_look_1 fl_X11_45 rfl e21 (fun b22 => ?_)
  refine ao_chk (fun e23 => ?_)
  refine ao_getR dX11_look_4 fl_X11_119 rfl e23 (fun b24 => ?_)
  refine ao_chk (fun e25 => ?_)
  refine ao_getI dX11_look_7 fl_X11_191 rfl e25 ?_
  refine ao_br (br_if_eq (tgt := 32) dX11_look_10 (by decide)) (fun c34 => ?_) (fun c34 => ?_)
  · refine ao_s (st_iconst dX11_look_32 ic_m1) ?_
    exact ao_ir dX11_look_33 rfl rfl
  · refine ao_s (st_iload_n dX11_look_13 rfl rfl) ?_
    refine ao_br (br_if_lt (tgt := 32) dX11_look_14 (by decide)) (fun c33 => ?_) (fun c33 => ?_)
    · refine ao_s (st_iconst dX11_look_32 ic_m1) ?_
      exact ao_ir dX11_look_33 rfl rfl
    · refine ao_s (st_iload_n dX11_look_17 rfl rfl) ?_
      refine ao_s (st_bipush dX11_look_18 bp_30) ?_
      refine ao_br (br_icmp_gt (tgt := 32) dX11_look_20 (by decide)) (fun c32 => ?_) (fun c32 => ?_)
      · refine ao_s (st_iconst dX11_look_32 ic_m1) ?_
        exact ao_ir dX11_look_33 rfl rfl
      · refine ao_s (st_iload_n dX11_look_23 rfl rfl) ?_
        refine ao_br (br_if_lt (tgt := 32) dX11_look_24 (by decide)) (fun c31 => ?_) (fun c31 => ?_)
        · refine ao_s (st_iconst dX11_look_32 ic_m1) ?_
          exact ao_ir dX11_look_33 rfl rfl
        · refine ao_s (st_iload_n dX11_look_27 rfl rfl) ?_
          refine ao_s (st_iconst dX11_look_28 ic_1) ?_
          refine ao_br (br_icmp_le (tgt := 34) dX11_look_29 (by decide)) (fun c30 => ?_) (fun c30 => ?_)
          · refine ao_s (st_aload_n dX11_look_34 rfl rfl) ?_
            refine ao_getR dX11_look_35 fl_X11_96 rfl e21 (fun b26 => ?_)
            refine ao_chk (fun e27 => ?_)
            refine ao_cVv (Kc := kX4_startLook) (As := []) (st := []) dX11_look_38 ml_X11_303 mv_X4_startLook rfl e27 (by decide) rfl rfl (Nat.le_of_ble_eq_true rfl) (by decide) (s_X4_startLook h b26) (fun r28 h29 => ?_)
            refine ao_s (st_iconst dX11_look_41 ic_m1) ?_
            refine ao_s (st_istore_n (lv' := [some (.ref a0), some (.int x1), some (.int x2), some (.int (-1))]) dX11_look_42 rfl (by decide) rfl) ?_
            exact ao_w (sb_s (sb_s (sb_s (sb_s sb_0)))) (l_X11_look_43 2000 h29 a0 x1 x2 (-1))
          · refine ao_s (st_iconst dX11_look_32 ic_m1) ?_
            exact ao_ir dX11_look_33 rfl rfl
def f_X11_seed (h : aH) (a0 : Nat) (x1 : Int32) : Option (Int32 × aH) :=
(if 0 ≤ x1 then
(if (sh a0).1 = 18 then
((hR h a0 5).bind fun b22 =>
(if (sh b22).1 = 17 then
(aLet (hI h b22 7) fun x24 =>
((hR h a0 5).bind fun b25 =>
(if (sh b25).1 = 17 then
(aLet (pI h b25 7 x1) fun h27 =>
some (x24, h27))
else none)))
else none))
else none)
else
some ((-1), h))
set_option maxHeartbeats 2000000 in
theorem s_X11_seed (h : aH) (a0 : Nat) (x1 : Int32) : SO eI 2 kX11_seed [.ref a0, .int x1] h (f_X11_seed h a0 x1) := by
  refine so_of (lv0 := [some (.ref a0), some (.int x1), none]) pn_X11 (Nat.le_of_ble_eq_true rfl) rfl ?_
  unfold f_X11_seed
  refine ao_s (st_iload_n dX11_seed_0 rfl rfl) ?_
  refine ao_br (br_if_ge (tgt := 6) dX11_seed_1 (by decide)) (fun c28 => ?_) (fun c28 => ?_)
  · refine ao_s (st_aload_n dX11_seed_6 rfl rfl) ?_
    refine ao_chk (fun e21 => ?_)
    refine ao_getR dX11_seed_7 fl_X11_45 rfl e21 (fun b22 => ?_)
    refine ao_chk (fun e23 => ?_)
    refine ao_getI dX11_seed_10 fl_X11_188 rfl e23 ?_
    refine ao_letI (fun x24 => ?_)
    refine ao_s (st_istore_n (lv' := [some (.ref a0), some (.int x1), some (.int x24)]) dX11_seed_13 rfl (by decide) rfl) ?_
    refine ao_s (st_aload_n dX11_seed_14 rfl rfl) ?_
    refine ao_getR dX11_seed_15 fl_X11_45 rfl e21 (fun b25 => ?_)
    refine ao_s (st_iload_n dX11_seed_18 rfl rfl) ?_
    refine ao_chk (fun e26 => ?_)
    refine ao_putI dX11_seed_19 fl_X11_188 rfl rfl rfl rfl e26 ?_
    refine ao_letH (fun h27 => ?_)
    refine ao_s (st_iload_n dX11_seed_22 rfl rfl) ?_
    exact ao_ir dX11_seed_23 rfl rfl
  · refine ao_s (st_iconst dX11_seed_4 ic_m1) ?_
    exact ao_ir dX11_seed_5 rfl rfl
def b_X11_isles_87 (k87 : aH → Nat → Int32 → Int32 → Int32 → Int32 → Int32 → Option (Int32 × aH)) (h : aH) (a0 : Nat) (x1 : Int32) (x2 : Int32) (x3 : Int32) (x4 : Int32) (x6 : Int32) : Option (Int32 × aH) :=
(if x1 ≤ x6 then
(if x4 = 0 then
(if (sh a0).1 = 18 then
((hR h a0 12).bind fun b22 =>
(if (sh b22).1 = 8 then
some (hI h b22 4, h)
else none))
else none)
else
(if (sh a0).1 = 18 then
((hR h a0 12).bind fun b25 =>
(if (sh b25).1 = 8 then
some (hI h b25 5, h)
else none))
else none))
else
(if (sh a0).1 = 18 then
((hR h a0 12).bind fun b29 =>
((hR h a0 5).bind fun b30 =>
(if (sh b30).1 = 17 then
((hR h b30 1).bind fun b32 =>
(aBind (f_X11_ruleInForce h a0) fun r33 h34 =>
(if (sh b29).1 = 8 then
(aBind (f_X1_drawIsle h34 b29 b32 r33 x2 x3) fun r36 h37 =>
k87 h37 a0 x1 x2 x3 x4 (x6 + 1))
else none)))
else none)))
else none))
set_option maxHeartbeats 2000000 in
theorem t_X11_isles_87 {k87 : aH → Nat → Int32 → Int32 → Int32 → Int32 → Int32 → Option (Int32 × aH)} (hk87 : ∀ (h : aH) (a0 : Nat) (x1 : Int32) (x2 : Int32) (x3 : Int32) (x4 : Int32) (x6 : Int32), AO eI 8 kX11_isles 87 [some (.ref a0), some (.int x1), some (.int x2), some (.int x3), some (.int x4), none, some (.int x6)] [] h (k87 h a0 x1 x2 x3 x4 x6)) (h : aH) (a0 : Nat) (x1 : Int32) (x2 : Int32) (x3 : Int32) (x4 : Int32) (x6 : Int32) : AO eI 8 kX11_isles 87 [some (.ref a0), some (.int x1), some (.int x2), some (.int x3), some (.int x4), none, some (.int x6)] [] h (b_X11_isles_87 k87 h a0 x1 x2 x3 x4 x6) := by
  unfold b_X11_isles_87
  refine ao_s (st_iload dX11_isles_87 rfl) ?_
  refine ao_s (st_iload_n dX11_isles_89 rfl rfl) ?_
  refine ao_br (br_icmp_ge (tgt := 119) dX11_isles_90 (by decide)) (fun c38 => ?_) (fun c38 => ?_)
  · refine ao_s (st_iload dX11_isles_119 rfl) ?_
    refine ao_br (br_if_ne (tgt := 134) dX11_isles_121 (by decide)) (fun c27 => ?_) (fun c27 => ?_)
    · refine ao_s (st_aload_n dX11_isles_124 rfl rfl) ?_
      refine ao_chk (fun e21 => ?_)
      refine ao_getR dX11_isles_125 fl_X11_82 rfl e21 (fun b22 => ?_)
      refine ao_chk (fun e23 => ?_)
      refine ao_getI dX11_isles_128 fl_X11_325 rfl e23 ?_
      refine ao_s (st_goto 141 dX11_isles_131 (by decide)) ?_
      exact ao_ir dX11_isles_141 rfl rfl
    · refine ao_s (st_aload_n dX11_isles_134 rfl rfl) ?_
      refine ao_chk (fun e24 => ?_)
      refine ao_getR dX11_isles_135 fl_X11_82 rfl e24 (fun b25 => ?_)
      refine ao_chk (fun e26 => ?_)
      refine ao_getI dX11_isles_138 fl_X11_328 rfl e26 ?_
      exact ao_ir dX11_isles_141 rfl rfl
  · refine ao_s (st_aload_n dX11_isles_93 rfl rfl) ?_
    refine ao_chk (fun e28 => ?_)
    refine ao_getR dX11_isles_94 fl_X11_82 rfl e28 (fun b29 => ?_)
    refine ao_s (st_aload_n dX11_isles_97 rfl rfl) ?_
    refine ao_getR dX11_isles_98 fl_X11_45 rfl e28 (fun b30 => ?_)
    refine ao_chk (fun e31 => ?_)
    refine ao_getR dX11_isles_101 fl_X11_119 rfl e31 (fun b32 => ?_)
    refine ao_s (st_aload_n dX11_isles_104 rfl rfl) ?_
    refine ao_cVq (Kc := kX11_ruleInForce) (As := []) (st := [.ref b32, .ref b29]) dX11_isles_105 ml_X11_198 mv_X11_ruleInForce rfl e28 (by decide) rfl rfl (Nat.le_of_ble_eq_true rfl) (by decide) (s_X11_ruleInForce h a0) (fun r33 h34 => ?_)
    refine ao_s (st_iload_n dX11_isles_108 rfl rfl) ?_
    refine ao_s (st_iload_n dX11_isles_109 rfl rfl) ?_
    refine ao_chk (fun e35 => ?_)
    refine ao_cVv (Kc := kX1_drawIsle) (As := [.ref b32, va_rf r33, .int x2, .int x3]) (st := []) dX11_isles_110 ml_X11_322 mv_X1_drawIsle rfl e35 (by decide) rfl rfl (Nat.le_of_ble_eq_true rfl) (by decide) (s_X1_drawIsle h34 b29 b32 r33 x2 x3) (fun r36 h37 => ?_)
    refine ao_s (st_iinc (lv' := [some (.ref a0), some (.int x1), some (.int x2), some (.int x3), some (.int x4), none, some (.int (x6 + 1))]) dX11_isles_113 rfl nc_1 (by decide) rfl) ?_
    refine ao_s (st_goto 87 dX11_isles_116 (by decide)) ?_
    exact ao_w (sb_s (sb_s (sb_s (sb_s (sb_s (sb_n (sb_s sb_0))))))) (hk87 h37 a0 x1 x2 x3 x4 (x6 + 1))
def f_X11_isles_87 (n : Nat) : aH → Nat → Int32 → Int32 → Int32 → Int32 → Int32 → Option (Int32 × aH) := aIt (fun _ _ _ _ _ _ _ => none) (fun k => b_X11_isles_87 k) n
theorem l_X11_isles_87 (n : Nat) : ∀ (h : aH) (a0 : Nat) (x1 : Int32) (x2 : Int32) (x3 : Int32) (x4 : Int32) (x6 : Int32), AO eI 8 kX11_isles 87 [some (.ref a0), some (.int x1), some (.int x2), some (.int x3), some (.int x4), none, some (.int x6)] [] h (f_X11_isles_87 n h a0 x1 x2 x3 x4 x6) := by
  induction n with
  | zero => intros; exact ao_none
  | succ n ih =>
    intro h a0 x1 x2 x3 x4 x6
    exact t_X11_isles_87 ih h a0 x1 x2 x3 x4 x6
def b_X11_isles_37 (h : aH) (a0 : Nat) (x1 : Int32) (x2 : Int32) (x3 : Int32) (x4 : Int32) (s0 : Int32) : Option (Int32 × aH) :=
(if (sh a0).1 = 18 then
((hR h a0 5).bind fun b22 =>
(if (sh b22).1 = 17 then
((hR h b22 1).bind fun b24 =>
(if (sh b24).1 = 15 then
(if hI h b24 0 = 0 then
some ((-1), h)
else
(if s0 = 0 then
some ((-1), h)
else
(if x4 < 0 then
some ((-1), h)
else
(if x4 ≤ 1 then
((hR h a0 12).bind fun b26 =>
((hR h a0 5).bind fun b27 =>
(if (sh b27).1 = 17 then
(if (sh b26).1 = 8 then
(aBind (f_X1_startDraws h b26 (hI h b27 7)) fun r30 h31 =>
f_X11_isles_87 2000 h31 a0 x1 x2 x3 x4 0)
else none)
else none)))
else
some ((-1), h)))))
else none))
else none))
else none)
set_option maxHeartbeats 2000000 in
theorem t_X11_isles_37 (h : aH) (a0 : Nat) (x1 : Int32) (x2 : Int32) (x3 : Int32) (x4 : Int32) (s0 : Int32) : AO eI 8 kX11_isles 37 [some (.ref a0), some (.int x1), some (.int x2), some (.int x3), some (.int x4), none, none] [.int s0] h (b_X11_isles_37 h a0 x1 x2 x3 x4 s0) := by
  unfold b_X11_isles_37
  refine ao_s (st_istore (lv' := [some (.ref a0), some (.int x1), some (.int x2), some (.int x3), some (.int x4), some (.int s0), none]) dX11_isles_37 (by decide) rfl) ?_
  refine ao_s (st_aload_n dX11_isles_39 rfl rfl) ?_
  refine ao_chk (fun e21 => ?_)
  refine ao_getR dX11_isles_40 fl_X11_45 rfl e21 (fun b22 => ?_)
  refine ao_chk (fun e23 => ?_)
  refine ao_getR dX11_isles_43 fl_X11_119 rfl e23 (fun b24 => ?_)
  refine ao_chk (fun e25 => ?_)
  refine ao_getI dX11_isles_46 fl_X11_191 rfl e25 ?_
  refine ao_br (br_if_eq (tgt := 68) dX11_isles_49 (by decide)) (fun c35 => ?_) (fun c35 => ?_)
  · refine ao_s (st_iconst dX11_isles_68 ic_m1) ?_
    exact ao_ir dX11_isles_69 rfl rfl
  · refine ao_s (st_iload dX11_isles_52 rfl) ?_
    refine ao_br (br_if_eq (tgt := 68) dX11_isles_54 (by decide)) (fun c34 => ?_) (fun c34 => ?_)
    · refine ao_s (st_iconst dX11_isles_68 ic_m1) ?_
      exact ao_ir dX11_isles_69 rfl rfl
    · refine ao_s (st_iload dX11_isles_57 rfl) ?_
      refine ao_br (br_if_lt (tgt := 68) dX11_isles_59 (by decide)) (fun c33 => ?_) (fun c33 => ?_)
      · refine ao_s (st_iconst dX11_isles_68 ic_m1) ?_
        exact ao_ir dX11_isles_69 rfl rfl
      · refine ao_s (st_iload dX11_isles_62 rfl) ?_
        refine ao_s (st_iconst dX11_isles_64 ic_1) ?_
        refine ao_br (br_icmp_le (tgt := 70) dX11_isles_65 (by decide)) (fun c32 => ?_) (fun c32 => ?_)
        · refine ao_s (st_aload_n dX11_isles_70 rfl rfl) ?_
          refine ao_getR dX11_isles_71 fl_X11_82 rfl e21 (fun b26 => ?_)
          refine ao_s (st_aload_n dX11_isles_74 rfl rfl) ?_
          refine ao_getR dX11_isles_75 fl_X11_45 rfl e21 (fun b27 => ?_)
          refine ao_chk (fun e28 => ?_)
          refine ao_getI dX11_isles_78 fl_X11_188 rfl e28 ?_
          refine ao_chk (fun e29 => ?_)
          refine ao_cVv (Kc := kX1_startDraws) (As := [.int (hI h b27 7)]) (st := []) dX11_isles_81 ml_X11_319 mv_X1_startDraws rfl e29 (by decide) rfl rfl (Nat.le_of_ble_eq_true rfl) (by decide) (s_X1_startDraws h b26 (hI h b27 7)) (fun r30 h31 => ?_)
          refine ao_s (st_iconst dX11_isles_84 ic_0) ?_
          refine ao_s (st_istore (lv' := [some (.ref a0), some (.int x1), some (.int x2), some (.int x3), some (.int x4), some (.int s0), some (.int 0)]) dX11_isles_85 (by decide) rfl) ?_
          exact ao_w (sb_s (sb_s (sb_s (sb_s (sb_s (sb_n (sb_s sb_0))))))) (l_X11_isles_87 2000 h31 a0 x1 x2 x3 x4 0)
        · refine ao_s (st_iconst dX11_isles_68 ic_m1) ?_
          exact ao_ir dX11_isles_69 rfl rfl
def b_X11_isles_36 (h : aH) (a0 : Nat) (x1 : Int32) (x2 : Int32) (x3 : Int32) (x4 : Int32) : Option (Int32 × aH) :=
b_X11_isles_37 h a0 x1 x2 x3 x4 0
set_option maxHeartbeats 2000000 in
theorem t_X11_isles_36 (h : aH) (a0 : Nat) (x1 : Int32) (x2 : Int32) (x3 : Int32) (x4 : Int32) : AO eI 8 kX11_isles 36 [some (.ref a0), some (.int x1), some (.int x2), some (.int x3), some (.int x4), none, none] [] h (b_X11_isles_36 h a0 x1 x2 x3 x4) := by
  unfold b_X11_isles_36
  refine ao_s (st_iconst dX11_isles_36 ic_0) ?_
  exact ao_w (sb_s (sb_s (sb_s (sb_s (sb_s (sb_n (sb_n sb_0))))))) (t_X11_isles_37 h a0 x1 x2 x3 x4 0)
def f_X11_isles (h : aH) (a0 : Nat) (x1 : Int32) (x2 : Int32) (x3 : Int32) (x4 : Int32) : Option (Int32 × aH) :=
(if x1 < 1 then
b_X11_isles_36 h a0 x1 x2 x3 x4
else
(if 10 < x1 then
b_X11_isles_36 h a0 x1 x2 x3 x4
else
(if x2 < 1 then
b_X11_isles_36 h a0 x1 x2 x3 x4
else
(if 30 < x2 then
b_X11_isles_36 h a0 x1 x2 x3 x4
else
(if x3 < 0 then
b_X11_isles_36 h a0 x1 x2 x3 x4
else
(if 100 < x3 then
b_X11_isles_36 h a0 x1 x2 x3 x4
else
b_X11_isles_37 h a0 x1 x2 x3 x4 1))))))
set_option maxHeartbeats 2000000 in
theorem s_X11_isles (h : aH) (a0 : Nat) (x1 : Int32) (x2 : Int32) (x3 : Int32) (x4 : Int32) : SO eI 8 kX11_isles [.ref a0, .int x1, .int x2, .int x3, .int x4] h (f_X11_isles h a0 x1 x2 x3 x4) := by
  refine so_of (lv0 := [some (.ref a0), some (.int x1), some (.int x2), some (.int x3), some (.int x4), none, none]) pn_X11 (Nat.le_of_ble_eq_true rfl) rfl ?_
  unfold f_X11_isles
  refine ao_s (st_iload_n dX11_isles_0 rfl rfl) ?_
  refine ao_s (st_iconst dX11_isles_1 ic_1) ?_
  refine ao_br (br_icmp_lt (tgt := 36) dX11_isles_2 (by decide)) (fun c26 => ?_) (fun c26 => ?_)
  · exact ao_w (sb_s (sb_s (sb_s (sb_s (sb_s (sb_n (sb_n sb_0))))))) (t_X11_isles_36 h a0 x1 x2 x3 x4)
  · refine ao_s (st_iload_n dX11_isles_5 rfl rfl) ?_
    refine ao_s (st_bipush dX11_isles_6 bp_10) ?_
    refine ao_br (br_icmp_gt (tgt := 36) dX11_isles_8 (by decide)) (fun c25 => ?_) (fun c25 => ?_)
    · exact ao_w (sb_s (sb_s (sb_s (sb_s (sb_s (sb_n (sb_n sb_0))))))) (t_X11_isles_36 h a0 x1 x2 x3 x4)
    · refine ao_s (st_iload_n dX11_isles_11 rfl rfl) ?_
      refine ao_s (st_iconst dX11_isles_12 ic_1) ?_
      refine ao_br (br_icmp_lt (tgt := 36) dX11_isles_13 (by decide)) (fun c24 => ?_) (fun c24 => ?_)
      · exact ao_w (sb_s (sb_s (sb_s (sb_s (sb_s (sb_n (sb_n sb_0))))))) (t_X11_isles_36 h a0 x1 x2 x3 x4)
      · refine ao_s (st_iload_n dX11_isles_16 rfl rfl) ?_
        refine ao_s (st_bipush dX11_isles_17 bp_30) ?_
        refine ao_br (br_icmp_gt (tgt := 36) dX11_isles_19 (by decide)) (fun c23 => ?_) (fun c23 => ?_)
        · exact ao_w (sb_s (sb_s (sb_s (sb_s (sb_s (sb_n (sb_n sb_0))))))) (t_X11_isles_36 h a0 x1 x2 x3 x4)
        · refine ao_s (st_iload_n dX11_isles_22 rfl rfl) ?_
          refine ao_br (br_if_lt (tgt := 36) dX11_isles_23 (by decide)) (fun c22 => ?_) (fun c22 => ?_)
          · exact ao_w (sb_s (sb_s (sb_s (sb_s (sb_s (sb_n (sb_n sb_0))))))) (t_X11_isles_36 h a0 x1 x2 x3 x4)
          · refine ao_s (st_iload_n dX11_isles_26 rfl rfl) ?_
            refine ao_s (st_bipush dX11_isles_27 bp_100) ?_
            refine ao_br (br_icmp_gt (tgt := 36) dX11_isles_29 (by decide)) (fun c21 => ?_) (fun c21 => ?_)
            · exact ao_w (sb_s (sb_s (sb_s (sb_s (sb_s (sb_n (sb_n sb_0))))))) (t_X11_isles_36 h a0 x1 x2 x3 x4)
            · refine ao_s (st_iconst dX11_isles_32 ic_1) ?_
              refine ao_s (st_goto 37 dX11_isles_33 (by decide)) ?_
              exact ao_w (sb_s (sb_s (sb_s (sb_s (sb_s (sb_n (sb_n sb_0))))))) (t_X11_isles_37 h a0 x1 x2 x3 x4 1)
def f_X11_image (h : aH) (a0 : Nat) (x1 : Int32) : Option (Int32 × aH) :=
(if x1 < 0 then
some ((-1), h)
else
(if x1 < 4 then
(if (sh a0).1 = 18 then
((hR h a0 6).bind fun b22 =>
(if (sh b22).1 = 6 then
(if aIn x1 (sh b22).2 then (hR h b22 x1.toNatClampNeg).bind fun b24 =>
((hR h a0 5).bind fun b25 =>
(if (sh b24).1 = 17 then
(aBind (f_X10_copyFrom h b24 b25) fun r27 h28 =>
((hR h28 a0 6).bind fun b29 =>
(if (sh b29).1 = 6 then
(if aIn x1 (sh b29).2 then (hR h28 b29 x1.toNatClampNeg).bind fun b31 =>
(if (sh b31).1 = 17 then
(aLet (pI h28 b31 8 1) fun h33 =>
((hR h33 a0 5).bind fun b34 =>
(if (sh b34).1 = 17 then
((hR h33 b34 1).bind fun b36 =>
(if (sh b36).1 = 15 then
some (hI h33 b36 5, h33)
else none))
else none)))
else none)
else none)
else none)))
else none))
else none)
else none))
else none)
else
some ((-1), h)))
set_option maxHeartbeats 2000000 in
theorem s_X11_image (h : aH) (a0 : Nat) (x1 : Int32) : SO eI 4 kX11_image [.ref a0, .int x1] h (f_X11_image h a0 x1) := by
  refine so_of (lv0 := [some (.ref a0), some (.int x1)]) pn_X11 (Nat.le_of_ble_eq_true rfl) rfl ?_
  unfold f_X11_image
  refine ao_s (st_iload_n dX11_image_0 rfl rfl) ?_
  refine ao_br (br_if_lt (tgt := 9) dX11_image_1 (by decide)) (fun c39 => ?_) (fun c39 => ?_)
  · refine ao_s (st_iconst dX11_image_9 ic_m1) ?_
    exact ao_ir dX11_image_10 rfl rfl
  · refine ao_s (st_iload_n dX11_image_4 rfl rfl) ?_
    refine ao_s (st_iconst dX11_image_5 ic_4) ?_
    refine ao_br (br_icmp_lt (tgt := 11) dX11_image_6 (by decide)) (fun c38 => ?_) (fun c38 => ?_)
    · refine ao_s (st_aload_n dX11_image_11 rfl rfl) ?_
      refine ao_chk (fun e21 => ?_)
      refine ao_getR dX11_image_12 fl_X11_49 rfl e21 (fun b22 => ?_)
      refine ao_s (st_iload_n dX11_image_15 rfl rfl) ?_
      refine ao_chk (fun e23 => ?_)
      refine ao_aald6 dX11_image_16 e23 (fun b24 => ?_)
      refine ao_s (st_aload_n dX11_image_17 rfl rfl) ?_
      refine ao_getR dX11_image_18 fl_X11_45 rfl e21 (fun b25 => ?_)
      refine ao_chk (fun e26 => ?_)
      refine ao_cVv (Kc := kX10_copyFrom) (As := [.ref b25]) (st := []) dX11_image_21 ml_X11_331 mv_X10_copyFrom rfl e26 (by decide) rfl rfl (Nat.le_of_ble_eq_true rfl) (by decide) (s_X10_copyFrom h b24 b25) (fun r27 h28 => ?_)
      refine ao_s (st_aload_n dX11_image_24 rfl rfl) ?_
      refine ao_getR dX11_image_25 fl_X11_49 rfl e21 (fun b29 => ?_)
      refine ao_s (st_iload_n dX11_image_28 rfl rfl) ?_
      refine ao_chk (fun e30 => ?_)
      refine ao_aald6 dX11_image_29 e30 (fun b31 => ?_)
      refine ao_s (st_iconst dX11_image_30 ic_1) ?_
      refine ao_chk (fun e32 => ?_)
      refine ao_putI dX11_image_31 fl_X11_334 rfl rfl (by decide) (by decide) e32 ?_
      refine ao_letH (fun h33 => ?_)
      refine ao_s (st_aload_n dX11_image_34 rfl rfl) ?_
      refine ao_getR dX11_image_35 fl_X11_45 rfl e21 (fun b34 => ?_)
      refine ao_chk (fun e35 => ?_)
      refine ao_getR dX11_image_38 fl_X11_119 rfl e35 (fun b36 => ?_)
      refine ao_chk (fun e37 => ?_)
      refine ao_getI dX11_image_41 fl_X11_167 rfl e37 ?_
      exact ao_ir dX11_image_44 rfl rfl
    · refine ao_s (st_iconst dX11_image_9 ic_m1) ?_
      exact ao_ir dX11_image_10 rfl rfl
def f_X11_back (h : aH) (a0 : Nat) (x1 : Int32) : Option (Int32 × aH) :=
(if x1 < 0 then
some ((-1), h)
else
(if 4 ≤ x1 then
some ((-1), h)
else
(if (sh a0).1 = 18 then
((hR h a0 6).bind fun b22 =>
(if (sh b22).1 = 6 then
(if aIn x1 (sh b22).2 then (hR h b22 x1.toNatClampNeg).bind fun b24 =>
(if (sh b24).1 = 17 then
(if hI h b24 8 = 0 then
some ((-1), h)
else
((hR h a0 5).bind fun b26 =>
((hR h a0 6).bind fun b27 =>
(if (sh b27).1 = 6 then
(if aIn x1 (sh b27).2 then (hR h b27 x1.toNatClampNeg).bind fun b29 =>
(if (sh b26).1 = 17 then
(aBind (f_X10_copyFrom h b26 b29) fun r31 h32 =>
(aLet (pI h32 a0 9 0) fun h33 =>
((hR h33 a0 5).bind fun b34 =>
(if (sh b34).1 = 17 then
((hR h33 b34 1).bind fun b36 =>
(if (sh b36).1 = 15 then
some (hI h33 b36 5, h33)
else none))
else none))))
else none)
else none)
else none))))
else none)
else none)
else none))
else none)))
set_option maxHeartbeats 2000000 in
theorem s_X11_back (h : aH) (a0 : Nat) (x1 : Int32) : SO eI 4 kX11_back [.ref a0, .int x1] h (f_X11_back h a0 x1) := by
  refine so_of (lv0 := [some (.ref a0), some (.int x1)]) pn_X11 (Nat.le_of_ble_eq_true rfl) rfl ?_
  unfold f_X11_back
  refine ao_s (st_iload_n dX11_back_0 rfl rfl) ?_
  refine ao_br (br_if_lt (tgt := 21) dX11_back_1 (by decide)) (fun c40 => ?_) (fun c40 => ?_)
  · refine ao_s (st_iconst dX11_back_21 ic_m1) ?_
    exact ao_ir dX11_back_22 rfl rfl
  · refine ao_s (st_iload_n dX11_back_4 rfl rfl) ?_
    refine ao_s (st_iconst dX11_back_5 ic_4) ?_
    refine ao_br (br_icmp_ge (tgt := 21) dX11_back_6 (by decide)) (fun c39 => ?_) (fun c39 => ?_)
    · refine ao_s (st_iconst dX11_back_21 ic_m1) ?_
      exact ao_ir dX11_back_22 rfl rfl
    · refine ao_s (st_aload_n dX11_back_9 rfl rfl) ?_
      refine ao_chk (fun e21 => ?_)
      refine ao_getR dX11_back_10 fl_X11_49 rfl e21 (fun b22 => ?_)
      refine ao_s (st_iload_n dX11_back_13 rfl rfl) ?_
      refine ao_chk (fun e23 => ?_)
      refine ao_aald6 dX11_back_14 e23 (fun b24 => ?_)
      refine ao_chk (fun e25 => ?_)
      refine ao_getI dX11_back_15 fl_X11_334 rfl e25 ?_
      refine ao_br (br_if_ne (tgt := 23) dX11_back_18 (by decide)) (fun c38 => ?_) (fun c38 => ?_)
      · refine ao_s (st_iconst dX11_back_21 ic_m1) ?_
        exact ao_ir dX11_back_22 rfl rfl
      · refine ao_s (st_aload_n dX11_back_23 rfl rfl) ?_
        refine ao_getR dX11_back_24 fl_X11_45 rfl e21 (fun b26 => ?_)
        refine ao_s (st_aload_n dX11_back_27 rfl rfl) ?_
        refine ao_getR dX11_back_28 fl_X11_49 rfl e21 (fun b27 => ?_)
        refine ao_s (st_iload_n dX11_back_31 rfl rfl) ?_
        refine ao_chk (fun e28 => ?_)
        refine ao_aald6 dX11_back_32 e28 (fun b29 => ?_)
        refine ao_chk (fun e30 => ?_)
        refine ao_cVv (Kc := kX10_copyFrom) (As := [.ref b29]) (st := []) dX11_back_33 ml_X11_331 mv_X10_copyFrom rfl e30 (by decide) rfl rfl (Nat.le_of_ble_eq_true rfl) (by decide) (s_X10_copyFrom h b26 b29) (fun r31 h32 => ?_)
        refine ao_s (st_aload_n dX11_back_36 rfl rfl) ?_
        refine ao_s (st_iconst dX11_back_37 ic_0) ?_
        refine ao_putI dX11_back_38 fl_X11_62 rfl rfl rfl rfl e21 ?_
        refine ao_letH (fun h33 => ?_)
        refine ao_s (st_aload_n dX11_back_41 rfl rfl) ?_
        refine ao_getR dX11_back_42 fl_X11_45 rfl e21 (fun b34 => ?_)
        refine ao_chk (fun e35 => ?_)
        refine ao_getR dX11_back_45 fl_X11_119 rfl e35 (fun b36 => ?_)
        refine ao_chk (fun e37 => ?_)
        refine ao_getI dX11_back_48 fl_X11_167 rfl e37 ?_
        exact ao_ir dX11_back_51 rfl rfl
def f_X12_in (h : aH) (x0 : Int64) (x2 : Int64) (x4 : Int64) : Option (Int32 × aH) :=
(if lg_cmp x0 x2 < 0 then
some (0, h)
else
(if 0 < lg_cmp x0 x4 then
some (0, h)
else
some (1, h)))
set_option maxHeartbeats 2000000 in
theorem s_X12_in (h : aH) (x0 : Int64) (x2 : Int64) (x4 : Int64) : SO eI 2 kX12_in [.long x0, .long x2, .long x4] h (f_X12_in h x0 x2 x4) := by
  refine so_of (lv0 := [some (.long x0), none, some (.long x2), none, some (.long x4), none]) pn_X12 (Nat.le_of_ble_eq_true rfl) rfl ?_
  unfold f_X12_in
  refine ao_s (st_lload_n dX12_in_0 rfl rfl) ?_
  refine ao_s (st_lload_n dX12_in_1 rfl rfl) ?_
  refine ao_s (st_lcmp dX12_in_2) ?_
  refine ao_br (br_if_lt (tgt := 17) dX12_in_3 (by decide)) (fun c22 => ?_) (fun c22 => ?_)
  · refine ao_s (st_iconst dX12_in_17 ic_0) ?_
    exact ao_ir dX12_in_18 rfl (by decide)
  · refine ao_s (st_lload_n dX12_in_6 rfl rfl) ?_
    refine ao_s (st_lload dX12_in_7 rfl) ?_
    refine ao_s (st_lcmp dX12_in_9) ?_
    refine ao_br (br_if_gt (tgt := 17) dX12_in_10 (by decide)) (fun c21 => ?_) (fun c21 => ?_)
    · refine ao_s (st_iconst dX12_in_17 ic_0) ?_
      exact ao_ir dX12_in_18 rfl (by decide)
    · refine ao_s (st_iconst dX12_in_13 ic_1) ?_
      refine ao_s (st_goto 18 dX12_in_14 (by decide)) ?_
      exact ao_ir dX12_in_18 rfl (by decide)
def f_X12_isOf (h : aH) (x0 : Int32) (x1 : Int32) : Option (Int32 × aH) :=
(if (x0 >>> (x1 &&& 31)) &&& 1 = 1 then
some (1, h)
else
some (0, h))
set_option maxHeartbeats 2000000 in
theorem s_X12_isOf (h : aH) (x0 : Int32) (x1 : Int32) : SO eI 2 kX12_isOf [.int x0, .int x1] h (f_X12_isOf h x0 x1) := by
  refine so_of (lv0 := [some (.int x0), some (.int x1)]) pn_X12 (Nat.le_of_ble_eq_true rfl) rfl ?_
  unfold f_X12_isOf
  refine ao_s (st_iload_n dX12_isOf_0 rfl rfl) ?_
  refine ao_s (st_iload_n dX12_isOf_1 rfl rfl) ?_
  refine ao_s (st_ishr dX12_isOf_2) ?_
  refine ao_s (st_iconst dX12_isOf_3 ic_1) ?_
  refine ao_s (st_iand dX12_isOf_4) ?_
  refine ao_s (st_iconst dX12_isOf_5 ic_1) ?_
  refine ao_br (br_icmp_ne (tgt := 13) dX12_isOf_6 (by decide)) (fun c21 => ?_) (fun c21 => ?_)
  · refine ao_s (st_iconst dX12_isOf_9 ic_1) ?_
    refine ao_s (st_goto 14 dX12_isOf_10 (by decide)) ?_
    exact ao_ir dX12_isOf_14 rfl (by decide)
  · refine ao_s (st_iconst dX12_isOf_13 ic_0) ?_
    exact ao_ir dX12_isOf_14 rfl (by decide)
def b_X12_bits_4 (k4 : aH → Int32 → Int32 → Option (Int32 × aH)) (h : aH) (x1 : Int32) (x2 : Int32) : Option (Int32 × aH) :=
(if x2 = 0 then
some (x1, h)
else
(aLet (x2 &&& (x2 - 1)) fun x21 =>
k4 h (x1 + 1) x21))
set_option maxHeartbeats 2000000 in
theorem t_X12_bits_4 {k4 : aH → Int32 → Int32 → Option (Int32 × aH)} (hk4 : ∀ (h : aH) (x1 : Int32) (x2 : Int32), AO eI 2 kX12_bits 4 [none, some (.int x1), some (.int x2)] [] h (k4 h x1 x2)) (h : aH) (x1 : Int32) (x2 : Int32) : AO eI 2 kX12_bits 4 [none, some (.int x1), some (.int x2)] [] h (b_X12_bits_4 k4 h x1 x2) := by
  unfold b_X12_bits_4
  refine ao_s (st_iload_n dX12_bits_4 rfl rfl) ?_
  refine ao_br (br_if_eq (tgt := 20) dX12_bits_5 (by decide)) (fun c22 => ?_) (fun c22 => ?_)
  · refine ao_s (st_iload_n dX12_bits_20 rfl rfl) ?_
    exact ao_ir dX12_bits_21 rfl rfl
  · refine ao_s (st_iinc (lv' := [none, some (.int (x1 + 1)), some (.int x2)]) dX12_bits_8 rfl nc_1 (by decide) rfl) ?_
    refine ao_s (st_iload_n dX12_bits_11 rfl rfl) ?_
    refine ao_s (st_iload_n dX12_bits_12 rfl rfl) ?_
    refine ao_s (st_iconst dX12_bits_13 ic_1) ?_
    refine ao_s (st_isub dX12_bits_14) ?_
    refine ao_s (st_iand dX12_bits_15) ?_
    refine ao_letI (fun x21 => ?_)
    refine ao_s (st_istore_n (lv' := [none, some (.int (x1 + 1)), some (.int x21)]) dX12_bits_16 rfl (by decide) rfl) ?_
    refine ao_s (st_goto 4 dX12_bits_17 (by decide)) ?_
    exact ao_w (sb_n (sb_s (sb_s sb_0))) (hk4 h (x1 + 1) x21)
def f_X12_bits_4 (n : Nat) : aH → Int32 → Int32 → Option (Int32 × aH) := aIt (fun _ _ _ => none) (fun k => b_X12_bits_4 k) n
theorem l_X12_bits_4 (n : Nat) : ∀ (h : aH) (x1 : Int32) (x2 : Int32), AO eI 2 kX12_bits 4 [none, some (.int x1), some (.int x2)] [] h (f_X12_bits_4 n h x1 x2) := by
  induction n with
  | zero => intros; exact ao_none
  | succ n ih =>
    intro h x1 x2
    exact t_X12_bits_4 ih h x1 x2
def f_X12_bits (h : aH) (x0 : Int32) : Option (Int32 × aH) :=
f_X12_bits_4 2000 h 0 x0
set_option maxHeartbeats 2000000 in
theorem s_X12_bits (h : aH) (x0 : Int32) : SO eI 2 kX12_bits [.int x0] h (f_X12_bits h x0) := by
  refine so_of (lv0 := [some (.int x0), none, none]) pn_X12 (Nat.le_of_ble_eq_true rfl) rfl ?_
  unfold f_X12_bits
  refine ao_s (st_iconst dX12_bits_0 ic_0) ?_
  refine ao_s (st_istore_n (lv' := [some (.int x0), some (.int 0), none]) dX12_bits_1 rfl (by decide) rfl) ?_
  refine ao_s (st_iload_n dX12_bits_2 rfl rfl) ?_
  refine ao_s (st_istore_n (lv' := [some (.int x0), some (.int 0), some (.int x0)]) dX12_bits_3 rfl (by decide) rfl) ?_
  exact ao_w (sb_n (sb_s (sb_s sb_0))) (l_X12_bits_4 2000 h 0 x0)
