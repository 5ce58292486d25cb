def b_X12_keep_93 (k58 : aH → Nat → Int32 → Int32 → Int32 → Int32 → Int32 → Int32 → Option (Int32 × aH)) (h : aH) (a0 : Nat) (x1 : Int32) (x2 : Int32) (x3 : Int32) (x4 : Int32) (x5 : Int32) (x6 : Int32) : Option (Int32 × aH) :=
(if (sh a0).1 = 19 then
(aBind (f_X12_laysBack h a0) fun r22 h23 =>
k58 h23 a0 x1 x2 x3 x4 x5 (x6 + 1))
else none)
set_option maxHeartbeats 2000000 in
theorem t_X12_keep_93 {k58 : aH → Nat → Int32 → Int32 → Int32 → Int32 → Int32 → Int32 → Option (Int32 × aH)} (hk58 : ∀ (h : aH) (a0 : Nat) (x1 : Int32) (x2 : Int32) (x3 : Int32) (x4 : Int32) (x5 : Int32) (x6 : Int32), AO eI 9 kX12_keep 58 [some (.ref a0), some (.int x1), some (.int x2), some (.int x3), some (.int x4), some (.int x5), some (.int x6)] [] h (k58 h a0 x1 x2 x3 x4 x5 x6)) (h : aH) (a0 : Nat) (x1 : Int32) (x2 : Int32) (x3 : Int32) (x4 : Int32) (x5 : Int32) (x6 : Int32) : AO eI 9 kX12_keep 93 [some (.ref a0), some (.int x1), some (.int x2), some (.int x3), some (.int x4), some (.int x5), some (.int x6)] [] h (b_X12_keep_93 k58 h a0 x1 x2 x3 x4 x5 x6) := by
  unfold b_X12_keep_93
  refine ao_s (st_aload_n dX12_keep_93 rfl rfl) ?_
  refine ao_chk (fun e21 => ?_)
  refine ao_cVv (Kc := kX12_laysBack) (As := []) (st := []) dX12_keep_94 ml_X12_397 mv_X12_laysBack rfl e21 (by decide) rfl rfl (Nat.le_of_ble_eq_true rfl) (by decide) (s_X12_laysBack h a0) (fun r22 h23 => ?_)
  refine ao_s (st_iinc (lv' := [some (.ref a0), some (.int x1), some (.int x2), some (.int x3), some (.int x4), some (.int x5), some (.int (x6 + 1))]) dX12_keep_97 rfl nc_1 (by decide) rfl) ?_
  refine ao_s (st_goto 58 dX12_keep_100 (by decide)) ?_
  exact ao_w (sb_s (sb_s (sb_s (sb_s (sb_s (sb_s (sb_s sb_0))))))) (hk58 h23 a0 x1 x2 x3 x4 x5 (x6 + 1))
def b_X12_keep_103 (h : aH) (a0 : Nat) (x3 : Int32) (x5 : Int32) : Option (Int32 × aH) :=
(if (sh a0).1 = 19 then
((hR h a0 20).bind fun b22 =>
(if (sh b22).1 = 0 then
(if aIn 1 (sh b22).2 then
(aLet (pI h b22 (1 : Int32).toNatClampNeg x3) fun h24 =>
some (x5, h24))
else none)
else none))
else none)
set_option maxHeartbeats 2000000 in
theorem t_X12_keep_103 (h : aH) (a0 : Nat) (x3 : Int32) (x5 : Int32) : AO eI 9 kX12_keep 103 [some (.ref a0), none, none, some (.int x3), none, some (.int x5), none] [] h (b_X12_keep_103 h a0 x3 x5) := by
  unfold b_X12_keep_103
  refine ao_s (st_aload_n dX12_keep_103 rfl rfl) ?_
  refine ao_chk (fun e21 => ?_)
  refine ao_getR dX12_keep_104 fl_X12_39 rfl e21 (fun b22 => ?_)
  refine ao_s (st_iconst dX12_keep_107 ic_1) ?_
  refine ao_s (st_iload_n dX12_keep_108 rfl rfl) ?_
  refine ao_chk (fun e23 => ?_)
  refine ao_iast dX12_keep_109 e23 ?_
  refine ao_letH (fun h24 => ?_)
  refine ao_s (st_iload dX12_keep_110 rfl) ?_
  exact ao_ir dX12_keep_112 rfl rfl
def b_X12_keep_58 (k58 : aH → Nat → Int32 → Int32 → Int32 → Int32 → Int32 → Int32 → Option (Int32 × aH)) (h : aH) (a0 : Nat) (x1 : Int32) (x2 : Int32) (x3 : Int32) (x4 : Int32) (x5 : Int32) (x6 : Int32) : Option (Int32 × aH) :=
(if 100 ≤ x6 then
b_X12_keep_103 h a0 x3 x5
else
(if 0 ≤ x5 then
b_X12_keep_103 h a0 x3 x5
else
(if (sh a0).1 = 19 then
((hR h a0 20).bind fun b22 =>
(if (sh b22).1 = 0 then
(if aIn 1 (sh b22).2 then
(aLet (pI h b22 (1 : Int32).toNatClampNeg x6) fun h24 =>
(aBind (f_X12_areKept h24 a0 x1 x4 x2) fun r25 h26 =>
(if r25 = 0 then
b_X12_keep_93 k58 h26 a0 x1 x2 x3 x4 x5 x6
else
b_X12_keep_93 k58 h26 a0 x1 x2 x3 x4 x6 x6)))
else none)
else none))
else none)))
set_option maxHeartbeats 2000000 in
theorem t_X12_keep_58 {k58 : aH → Nat → Int32 → Int32 → Int32 → Int32 → Int32 → Int32 → Option (Int32 × aH)} (hk58 : ∀ (h : aH) (a0 : Nat) (x1 : Int32) (x2 : Int32) (x3 : Int32) (x4 : Int32) (x5 : Int32) (x6 : Int32), AO eI 9 kX12_keep 58 [some (.ref a0), some (.int x1), some (.int x2), some (.int x3), some (.int x4), some (.int x5), some (.int x6)] [] h (k58 h a0 x1 x2 x3 x4 x5 x6)) (h : aH) (a0 : Nat) (x1 : Int32) (x2 : Int32) (x3 : Int32) (x4 : Int32) (x5 : Int32) (x6 : Int32) : AO eI 9 kX12_keep 58 [some (.ref a0), some (.int x1), some (.int x2), some (.int x3), some (.int x4), some (.int x5), some (.int x6)] [] h (b_X12_keep_58 k58 h a0 x1 x2 x3 x4 x5 x6) := by
  unfold b_X12_keep_58
  refine ao_s (st_iload dX12_keep_58 rfl) ?_
  refine ao_s (st_bipush dX12_keep_60 bp_100) ?_
  refine ao_br (br_icmp_ge (tgt := 103) dX12_keep_62 (by decide)) (fun c29 => ?_) (fun c29 => ?_)
  · exact ao_w (sb_s (sb_n (sb_n (sb_s (sb_n (sb_s (sb_n sb_0))))))) (t_X12_keep_103 h a0 x3 x5)
  · refine ao_s (st_iload dX12_keep_65 rfl) ?_
    refine ao_br (br_if_ge (tgt := 103) dX12_keep_67 (by decide)) (fun c28 => ?_) (fun c28 => ?_)
    · exact ao_w (sb_s (sb_n (sb_n (sb_s (sb_n (sb_s (sb_n sb_0))))))) (t_X12_keep_103 h a0 x3 x5)
    · refine ao_s (st_aload_n dX12_keep_70 rfl rfl) ?_
      refine ao_chk (fun e21 => ?_)
      refine ao_getR dX12_keep_71 fl_X12_39 rfl e21 (fun b22 => ?_)
      refine ao_s (st_iconst dX12_keep_74 ic_1) ?_
      refine ao_s (st_iload dX12_keep_75 rfl) ?_
      refine ao_chk (fun e23 => ?_)
      refine ao_iast dX12_keep_77 e23 ?_
      refine ao_letH (fun h24 => ?_)
      refine ao_s (st_aload_n dX12_keep_78 rfl rfl) ?_
      refine ao_s (st_iload_n dX12_keep_79 rfl rfl) ?_
      refine ao_s (st_iload dX12_keep_80 rfl) ?_
      refine ao_s (st_iload_n dX12_keep_82 rfl rfl) ?_
      refine ao_cVi (Kc := kX12_areKept) (As := [.int x1, .int x4, .int x2]) (st := []) dX12_keep_83 ml_X12_426 mv_X12_areKept rfl e21 (by decide) rfl rfl (Nat.le_of_ble_eq_true rfl) (by decide) (s_X12_areKept h24 a0 x1 x4 x2) (fun r25 h26 => ?_)
      refine ao_br (br_if_eq (tgt := 93) dX12_keep_86 (by decide)) (fun c27 => ?_) (fun c27 => ?_)
      · exact ao_w (sb_s (sb_s (sb_s (sb_s (sb_s (sb_s (sb_s sb_0))))))) (t_X12_keep_93 hk58 h26 a0 x1 x2 x3 x4 x5 x6)
      · refine ao_s (st_iload dX12_keep_89 rfl) ?_
        refine ao_s (st_istore (lv' := [some (.ref a0), some (.int x1), some (.int x2), some (.int x3), some (.int x4), some (.int x6), some (.int x6)]) dX12_keep_91 (by decide) rfl) ?_
        exact ao_w (sb_s (sb_s (sb_s (sb_s (sb_s (sb_s (sb_s sb_0))))))) (t_X12_keep_93 hk58 h26 a0 x1 x2 x3 x4 x6 x6)
def f_X12_keep_58 (n : Nat) : aH → Nat → Int32 → Int32 → Int32 → Int32 → Int32 → Int32 → Option (Int32 × aH) := aIt (fun _ _ _ _ _ _ _ _ => none) (fun k => b_X12_keep_58 k) n
theorem l_X12_keep_58 (n : Nat) : ∀ (h : aH) (a0 : Nat) (x1 : Int32) (x2 : Int32) (x3 : Int32) (x4 : Int32) (x5 : Int32) (x6 : Int32), AO eI 9 kX12_keep 58 [some (.ref a0), some (.int x1), some (.int x2), some (.int x3), some (.int x4), some (.int x5), some (.int x6)] [] h (f_X12_keep_58 n h a0 x1 x2 x3 x4 x5 x6) := by
  induction n with
  | zero => intros; exact ao_none
  | succ n ih =>
    intro h a0 x1 x2 x3 x4 x5 x6
    exact t_X12_keep_58 ih h a0 x1 x2 x3 x4 x5 x6
def f_X12_keep (h : aH) (a0 : Nat) (x1 : Int32) (x2 : Int32) : Option (Int32 × aH) :=
(if (sh a0).1 = 19 then
(aBind (f_X12_isEast h a0 x1) fun r22 h23 =>
(if r22 = 0 then
some ((-1), h23)
else
(aBind (f_X12_isFree h23 a0 0 x1) fun r24 h25 =>
(if r24 = 0 then
(aBind (f_X12_in h25 x2.toInt64 1 30) fun r26 h27 =>
(if r26 = 0 then
some ((-1), h27)
else
((hR h27 a0 20).bind fun b28 =>
(if (sh b28).1 = 0 then
(if aIn 1 (sh b28).2 then
(aLet (hI h27 b28 (1 : Int32).toNatClampNeg) fun x30 =>
(aBind (f_X12_personOf h27 a0 0 x1 1) fun r31 h32 =>
(aBind (f_X12_keeps h32 a0) fun r33 h34 =>
f_X12_keep_58 2000 h34 a0 x1 x2 x30 r31 (-2) 0)))
else none)
else none))))
else
some ((-1), h25)))))
else none)
set_option maxHeartbeats 2000000 in
theorem s_X12_keep (h : aH) (a0 : Nat) (x1 : Int32) (x2 : Int32) : SO eI 9 kX12_keep [.ref a0, .int x1, .int x2] h (f_X12_keep h a0 x1 x2) := by
  refine so_of (lv0 := [some (.ref a0), some (.int x1), some (.int x2), none, none, none, none]) pn_X12 (Nat.le_of_ble_eq_true rfl) rfl ?_
  unfold f_X12_keep
  refine ao_s (st_aload_n dX12_keep_0 rfl rfl) ?_
  refine ao_s (st_iload_n dX12_keep_1 rfl rfl) ?_
  refine ao_chk (fun e21 => ?_)
  refine ao_cVi (Kc := kX12_isEast) (As := [.int x1]) (st := []) dX12_keep_2 ml_X12_324 mv_X12_isEast rfl e21 (by decide) rfl rfl (Nat.le_of_ble_eq_true rfl) (by decide) (s_X12_isEast h a0 x1) (fun r22 h23 => ?_)
  refine ao_br (br_if_eq (tgt := 29) dX12_keep_5 (by decide)) (fun c37 => ?_) (fun c37 => ?_)
  · refine ao_s (st_iconst dX12_keep_29 ic_m1) ?_
    exact ao_ir dX12_keep_30 rfl rfl
  · refine ao_s (st_aload_n dX12_keep_8 rfl rfl) ?_
    refine ao_s (st_iconst dX12_keep_9 ic_0) ?_
    refine ao_s (st_iload_n dX12_keep_10 rfl rfl) ?_
    refine ao_cVi (Kc := kX12_isFree) (As := [.int 0, .int x1]) (st := []) dX12_keep_11 ml_X12_318 mv_X12_isFree rfl e21 (by decide) rfl rfl (Nat.le_of_ble_eq_true rfl) (by decide) (s_X12_isFree h23 a0 0 x1) (fun r24 h25 => ?_)
    refine ao_br (br_if_ne (tgt := 29) dX12_keep_14 (by decide)) (fun c36 => ?_) (fun c36 => ?_)
    · refine ao_s (st_iload_n dX12_keep_17 rfl rfl) ?_
      refine ao_s (st_i2l dX12_keep_18) ?_
      refine ao_s (st_lconst dX12_keep_19 lc_1) ?_
      refine ao_s (st_ldc2 dX12_keep_20 cl_X12_417) ?_
      refine ao_cSi (Kc := kX12_in) (As := [.long x2.toInt64, .long 1, .long 30]) (st := []) dX12_keep_23 ml_X12_127 ms_X12_in rfl rfl (Nat.le_of_ble_eq_true rfl) (by decide) (s_X12_in h25 x2.toInt64 1 30) (fun r26 h27 => ?_)
      refine ao_br (br_if_ne (tgt := 31) dX12_keep_26 (by decide)) (fun c35 => ?_) (fun c35 => ?_)
      · refine ao_s (st_iconst dX12_keep_29 ic_m1) ?_
        exact ao_ir dX12_keep_30 rfl rfl
      · refine ao_s (st_aload_n dX12_keep_31 rfl rfl) ?_
        refine ao_getR dX12_keep_32 fl_X12_39 rfl e21 (fun b28 => ?_)
        refine ao_s (st_iconst dX12_keep_35 ic_1) ?_
        refine ao_chk (fun e29 => ?_)
        refine ao_iald dX12_keep_36 e29 ?_
        refine ao_letI (fun x30 => ?_)
        refine ao_s (st_istore_n (lv' := [some (.ref a0), some (.int x1), some (.int x2), some (.int x30), none, none, none]) dX12_keep_37 rfl (by decide) rfl) ?_
        refine ao_s (st_aload_n dX12_keep_38 rfl rfl) ?_
        refine ao_s (st_iconst dX12_keep_39 ic_0) ?_
        refine ao_s (st_iload_n dX12_keep_40 rfl rfl) ?_
        refine ao_s (st_iconst dX12_keep_41 ic_1) ?_
        refine ao_cVi (Kc := kX12_personOf) (As := [.int 0, .int x1, .int 1]) (st := []) dX12_keep_42 ml_X12_301 mv_X12_personOf rfl e21 (by decide) rfl rfl (Nat.le_of_ble_eq_true rfl) (by decide) (s_X12_personOf h27 a0 0 x1 1) (fun r31 h32 => ?_)
        refine ao_s (st_istore (lv' := [some (.ref a0), some (.int x1), some (.int x2), some (.int x30), some (.int r31), none, none]) dX12_keep_45 (by decide) rfl) ?_
        refine ao_s (st_bipush dX12_keep_47 bp_m2) ?_
        refine ao_s (st_istore (lv' := [some (.ref a0), some (.int x1), some (.int x2), some (.int x30), some (.int r31), some (.int (-2)), none]) dX12_keep_49 (by decide) rfl) ?_
        refine ao_s (st_aload_n dX12_keep_51 rfl rfl) ?_
        refine ao_cVv (Kc := kX12_keeps) (As := []) (st := []) dX12_keep_52 ml_X12_391 mv_X12_keeps rfl e21 (by decide) rfl rfl (Nat.le_of_ble_eq_true rfl) (by decide) (s_X12_keeps h32 a0) (fun r33 h34 => ?_)
        refine ao_s (st_iconst dX12_keep_55 ic_0) ?_
        refine ao_s (st_istore (lv' := [some (.ref a0), some (.int x1), some (.int x2), some (.int x30), some (.int r31), some (.int (-2)), some (.int 0)]) dX12_keep_56 (by decide) rfl) ?_
        exact ao_w (sb_s (sb_s (sb_s (sb_s (sb_s (sb_s (sb_s sb_0))))))) (l_X12_keep_58 2000 h34 a0 x1 x2 x30 r31 (-2) 0)
    · refine ao_s (st_iconst dX12_keep_29 ic_m1) ?_
      exact ao_ir dX12_keep_30 rfl rfl
def b_X12_note_49 (h : aH) (a0 : Nat) (x1 : Int32) (x2 : Int32) (x3 : Int32) : Option (Int32 × aH) :=
(if (sh a0).1 = 19 then
((hR h a0 20).bind fun b22 =>
(if (sh b22).1 = 0 then
(if aIn 183 (sh b22).2 then
(if hI h b22 (183 : Int32).toNatClampNeg = 10 then
some ((-2), h)
else
((hR h a0 20).bind fun b24 =>
(if (sh b24).1 = 0 then
(if aIn 183 (sh b24).2 then
(aLet (153 + (3 * (hI h b24 (183 : Int32).toNatClampNeg))) fun x26 =>
((hR h a0 20).bind fun b27 =>
(if (sh b27).1 = 0 then
(if aIn x26 (sh b27).2 then
(aLet (pI h b27 x26.toNatClampNeg x1) fun h29 =>
((hR h29 a0 20).bind fun b30 =>
(aLet (x26 + 1) fun x31 =>
(if (sh b30).1 = 0 then
(if aIn x31 (sh b30).2 then
(aLet (pI h29 b30 x31.toNatClampNeg x2) fun h33 =>
((hR h33 a0 20).bind fun b34 =>
(aLet (x26 + 2) fun x35 =>
(if (sh b34).1 = 0 then
(if aIn x35 (sh b34).2 then
(aLet (pI h33 b34 x35.toNatClampNeg x3) fun h37 =>
((hR h37 a0 20).bind fun b38 =>
(if (sh b38).1 = 0 then
(if aIn 183 (sh b38).2 then
(if aIn 183 (sh b38).2 then
(aLet (pI h37 b38 (183 : Int32).toNatClampNeg ((hI h37 b38 (183 : Int32).toNatClampNeg) + 1)) fun h40 =>
((hR h40 a0 20).bind fun b41 =>
(if (sh b41).1 = 0 then
(if aIn 183 (sh b41).2 then
some (hI h40 b41 (183 : Int32).toNatClampNeg, h40)
else none)
else none)))
else none)
else none)
else none)))
else none)
else none))))
else none)
else none))))
else none)
else none)))
else none)
else none)))
else none)
else none))
else none)
set_option maxHeartbeats 2000000 in
theorem t_X12_note_49 (h : aH) (a0 : Nat) (x1 : Int32) (x2 : Int32) (x3 : Int32) : AO eI 3 kX12_note 49 [some (.ref a0), some (.int x1), some (.int x2), some (.int x3), none] [] h (b_X12_note_49 h a0 x1 x2 x3) := by
  unfold b_X12_note_49
  refine ao_s (st_aload_n dX12_note_49 rfl rfl) ?_
  refine ao_chk (fun e21 => ?_)
  refine ao_getR dX12_note_50 fl_X12_39 rfl e21 (fun b22 => ?_)
  refine ao_s (st_sipush dX12_note_53 sp_183) ?_
  refine ao_chk (fun e23 => ?_)
  refine ao_iald dX12_note_56 e23 ?_
  refine ao_s (st_bipush dX12_note_57 bp_10) ?_
  refine ao_br (br_icmp_ne (tgt := 65) dX12_note_59 (by decide)) (fun c43 => ?_) (fun c43 => ?_)
  · refine ao_s (st_bipush dX12_note_62 bp_m2) ?_
    exact ao_ir dX12_note_64 rfl rfl
  · refine ao_s (st_sipush dX12_note_65 sp_153) ?_
    refine ao_s (st_iconst dX12_note_68 ic_3) ?_
    refine ao_s (st_aload_n dX12_note_69 rfl rfl) ?_
    refine ao_getR dX12_note_70 fl_X12_39 rfl e21 (fun b24 => ?_)
    refine ao_s (st_sipush dX12_note_73 sp_183) ?_
    refine ao_chk (fun e25 => ?_)
    refine ao_iald dX12_note_76 e25 ?_
    refine ao_s (st_imul dX12_note_77) ?_
    refine ao_s (st_iadd dX12_note_78) ?_
    refine ao_letI (fun x26 => ?_)
    refine ao_s (st_istore (lv' := [some (.ref a0), some (.int x1), some (.int x2), some (.int x3), some (.int x26)]) dX12_note_79 (by decide) rfl) ?_
    refine ao_s (st_aload_n dX12_note_81 rfl rfl) ?_
    refine ao_getR dX12_note_82 fl_X12_39 rfl e21 (fun b27 => ?_)
    refine ao_s (st_iload dX12_note_85 rfl) ?_
    refine ao_s (st_iload_n dX12_note_87 rfl rfl) ?_
    refine ao_chk (fun e28 => ?_)
    refine ao_iast dX12_note_88 e28 ?_
    refine ao_letH (fun h29 => ?_)
    refine ao_s (st_aload_n dX12_note_89 rfl rfl) ?_
    refine ao_getR dX12_note_90 fl_X12_39 rfl e21 (fun b30 => ?_)
    refine ao_s (st_iload dX12_note_93 rfl) ?_
    refine ao_s (st_iconst dX12_note_95 ic_1) ?_
    refine ao_s (st_iadd dX12_note_96) ?_
    refine ao_s (st_iload_n dX12_note_97 rfl rfl) ?_
    refine ao_let2 (fun x31 => ?_)
    refine ao_chk (fun e32 => ?_)
    refine ao_iast dX12_note_98 e32 ?_
    refine ao_letH (fun h33 => ?_)
    refine ao_s (st_aload_n dX12_note_99 rfl rfl) ?_
    refine ao_getR dX12_note_100 fl_X12_39 rfl e21 (fun b34 => ?_)
    refine ao_s (st_iload dX12_note_103 rfl) ?_
    refine ao_s (st_iconst dX12_note_105 ic_2) ?_
    refine ao_s (st_iadd dX12_note_106) ?_
    refine ao_s (st_iload_n dX12_note_107 rfl rfl) ?_
    refine ao_let2 (fun x35 => ?_)
    refine ao_chk (fun e36 => ?_)
    refine ao_iast dX12_note_108 e36 ?_
    refine ao_letH (fun h37 => ?_)
    refine ao_s (st_aload_n dX12_note_109 rfl rfl) ?_
    refine ao_getR dX12_note_110 fl_X12_39 rfl e21 (fun b38 => ?_)
    refine ao_s (st_sipush dX12_note_113 sp_183) ?_
    refine ao_s (st_dup2 dX12_note_116 rfl rfl) ?_
    refine ao_chk (fun e39 => ?_)
    refine ao_iald dX12_note_117 e39 ?_
    refine ao_s (st_iconst dX12_note_118 ic_1) ?_
    refine ao_s (st_iadd dX12_note_119) ?_
    refine ao_iast dX12_note_120 e39 ?_
    refine ao_letH (fun h40 => ?_)
    refine ao_s (st_aload_n dX12_note_121 rfl rfl) ?_
    refine ao_getR dX12_note_122 fl_X12_39 rfl e21 (fun b41 => ?_)
    refine ao_s (st_sipush dX12_note_125 sp_183) ?_
    refine ao_chk (fun e42 => ?_)
    refine ao_iald dX12_note_128 e42 ?_
    exact ao_ir dX12_note_129 rfl rfl
def f_X12_note (h : aH) (a0 : Nat) (x1 : Int32) (x2 : Int32) (x3 : Int32) : Option (Int32 × aH) :=
(if x1 = (-1) then
(if (sh a0).1 = 19 then
((hR h a0 20).bind fun b22 =>
(if (sh b22).1 = 0 then
(if aIn 183 (sh b22).2 then
(aLet (pI h b22 (183 : Int32).toNatClampNeg 0) fun h24 =>
some (0, h24))
else none)
else none))
else none)
else
(aBind (f_X12_in h x1.toInt64 0 30) fun r25 h26 =>
(if r25 = 0 then
some ((-2), h26)
else
(if (sh a0).1 = 19 then
(aBind (f_X12_isEast h26 a0 x2) fun r28 h29 =>
(if r28 = 0 then
some ((-2), h29)
else
(if x3 = (-1) then
b_X12_note_49 h29 a0 x1 x2 x3
else
(aBind (f_X12_isWest h29 a0 x3) fun r30 h31 =>
(if r30 = 0 then
some ((-2), h31)
else
b_X12_note_49 h31 a0 x1 x2 x3)))))
else none))))
set_option maxHeartbeats 2000000 in
theorem s_X12_note (h : aH) (a0 : Nat) (x1 : Int32) (x2 : Int32) (x3 : Int32) : SO eI 3 kX12_note [.ref a0, .int x1, .int x2, .int x3] h (f_X12_note h a0 x1 x2 x3) := by
  refine so_of (lv0 := [some (.ref a0), some (.int x1), some (.int x2), some (.int x3), none]) pn_X12 (Nat.le_of_ble_eq_true rfl) rfl ?_
  unfold f_X12_note
  refine ao_s (st_iload_n dX12_note_0 rfl rfl) ?_
  refine ao_s (st_iconst dX12_note_1 ic_m1) ?_
  refine ao_br (br_icmp_ne (tgt := 16) dX12_note_2 (by decide)) (fun c36 => ?_) (fun c36 => ?_)
  · refine ao_s (st_aload_n dX12_note_5 rfl rfl) ?_
    refine ao_chk (fun e21 => ?_)
    refine ao_getR dX12_note_6 fl_X12_39 rfl e21 (fun b22 => ?_)
    refine ao_s (st_sipush dX12_note_9 sp_183) ?_
    refine ao_s (st_iconst dX12_note_12 ic_0) ?_
    refine ao_chk (fun e23 => ?_)
    refine ao_iast dX12_note_13 e23 ?_
    refine ao_letH (fun h24 => ?_)
    refine ao_s (st_iconst dX12_note_14 ic_0) ?_
    exact ao_ir dX12_note_15 rfl rfl
  · refine ao_s (st_iload_n dX12_note_16 rfl rfl) ?_
    refine ao_s (st_i2l dX12_note_17) ?_
    refine ao_s (st_lconst dX12_note_18 lc_0) ?_
    refine ao_s (st_ldc2 dX12_note_19 cl_X12_417) ?_
    refine ao_cSi (Kc := kX12_in) (As := [.long x1.toInt64, .long 0, .long 30]) (st := []) dX12_note_22 ml_X12_127 ms_X12_in rfl rfl (Nat.le_of_ble_eq_true rfl) (by decide) (s_X12_in h x1.toInt64 0 30) (fun r25 h26 => ?_)
    refine ao_br (br_if_eq (tgt := 62) dX12_note_25 (by decide)) (fun c35 => ?_) (fun c35 => ?_)
    · refine ao_s (st_bipush dX12_note_62 bp_m2) ?_
      exact ao_ir dX12_note_64 rfl rfl
    · refine ao_s (st_aload_n dX12_note_28 rfl rfl) ?_
      refine ao_s (st_iload_n dX12_note_29 rfl rfl) ?_
      refine ao_chk (fun e27 => ?_)
      refine ao_cVi (Kc := kX12_isEast) (As := [.int x2]) (st := []) dX12_note_30 ml_X12_324 mv_X12_isEast rfl e27 (by decide) rfl rfl (Nat.le_of_ble_eq_true rfl) (by decide) (s_X12_isEast h26 a0 x2) (fun r28 h29 => ?_)
      refine ao_br (br_if_eq (tgt := 62) dX12_note_33 (by decide)) (fun c34 => ?_) (fun c34 => ?_)
      · refine ao_s (st_bipush dX12_note_62 bp_m2) ?_
        exact ao_ir dX12_note_64 rfl rfl
      · refine ao_s (st_iload_n dX12_note_36 rfl rfl) ?_
        refine ao_s (st_iconst dX12_note_37 ic_m1) ?_
        refine ao_br (br_icmp_eq (tgt := 49) dX12_note_38 (by decide)) (fun c33 => ?_) (fun c33 => ?_)
        · exact ao_w (sb_s (sb_s (sb_s (sb_s (sb_n sb_0))))) (t_X12_note_49 h29 a0 x1 x2 x3)
        · refine ao_s (st_aload_n dX12_note_41 rfl rfl) ?_
          refine ao_s (st_iload_n dX12_note_42 rfl rfl) ?_
          refine ao_cVi (Kc := kX12_isWest) (As := [.int x3]) (st := []) dX12_note_43 ml_X12_329 mv_X12_isWest rfl e27 (by decide) rfl rfl (Nat.le_of_ble_eq_true rfl) (by decide) (s_X12_isWest h29 a0 x3) (fun r30 h31 => ?_)
          refine ao_br (br_if_eq (tgt := 62) dX12_note_46 (by decide)) (fun c32 => ?_) (fun c32 => ?_)
          · refine ao_s (st_bipush dX12_note_62 bp_m2) ?_
            exact ao_ir dX12_note_64 rfl rfl
          · exact ao_w (sb_s (sb_s (sb_s (sb_s (sb_n sb_0))))) (t_X12_note_49 h31 a0 x1 x2 x3)
def b_X12_areNotesSo_65 (k2 : aH → Nat → Int32 → Int32 → Option (Int32 × aH)) (h : aH) (a0 : Nat) (x1 : Int32) (x2 : Int32) : Option (Int32 × aH) :=
k2 h a0 x1 (x2 + 3)
set_option maxHeartbeats 2000000 in
theorem t_X12_areNotesSo_65 {k2 : aH → Nat → Int32 → Int32 → Option (Int32 × aH)} (hk2 : ∀ (h : aH) (a0 : Nat) (x1 : Int32) (x2 : Int32), AO eI 4 kX12_areNotesSo 2 [some (.ref a0), some (.int x1), some (.int x2)] [] h (k2 h a0 x1 x2)) (h : aH) (a0 : Nat) (x1 : Int32) (x2 : Int32) : AO eI 4 kX12_areNotesSo 65 [some (.ref a0), some (.int x1), some (.int x2)] [] h (b_X12_areNotesSo_65 k2 h a0 x1 x2) := by
  unfold b_X12_areNotesSo_65
  refine ao_s (st_iinc (lv' := [some (.ref a0), some (.int x1), some (.int (x2 + 3))]) dX12_areNotesSo_65 rfl nc_3 (by decide) rfl) ?_
  refine ao_s (st_goto 2 dX12_areNotesSo_68 (by decide)) ?_
  exact ao_w (sb_s (sb_s (sb_s sb_0))) (hk2 h a0 x1 (x2 + 3))
def b_X12_areNotesSo_2 (k2 : aH → Nat → Int32 → Int32 → Option (Int32 × aH)) (h : aH) (a0 : Nat) (x1 : Int32) (x2 : Int32) : Option (Int32 × aH) :=
(if (sh a0).1 = 19 then
((hR h a0 20).bind fun b22 =>
(if (sh b22).1 = 0 then
(if aIn 183 (sh b22).2 then
(if 3 * (hI h b22 (183 : Int32).toNatClampNeg) ≤ x2 then
some (1, h)
else
((hR h a0 20).bind fun b24 =>
(aLet (153 + x2) fun x25 =>
(if (sh b24).1 = 0 then
(if aIn x25 (sh b24).2 then
(if hI h b24 x25.toNatClampNeg = x1 then
((hR h a0 20).bind fun b27 =>
(aLet ((153 + x2) + 1) fun x28 =>
(if (sh b27).1 = 0 then
(if aIn x28 (sh b27).2 then
(aBind (f_X12_personOf h a0 0 (hI h b27 x28.toNatClampNeg) 1) fun r30 h31 =>
((hR h31 a0 20).bind fun b32 =>
(aLet ((153 + x2) + 2) fun x33 =>
(if (sh b32).1 = 0 then
(if aIn x33 (sh b32).2 then
(if r30 = hI h31 b32 x33.toNatClampNeg then
b_X12_areNotesSo_65 k2 h31 a0 x1 x2
else
some (0, h31))
else none)
else none))))
else none)
else none)))
else
b_X12_areNotesSo_65 k2 h a0 x1 x2)
else none)
else none))))
else none)
else none))
else none)
set_option maxHeartbeats 2000000 in
theorem t_X12_areNotesSo_2 {k2 : aH → Nat → Int32 → Int32 → Option (Int32 × aH)} (hk2 : ∀ (h : aH) (a0 : Nat) (x1 : Int32) (x2 : Int32), AO eI 4 kX12_areNotesSo 2 [some (.ref a0), some (.int x1), some (.int x2)] [] h (k2 h a0 x1 x2)) (h : aH) (a0 : Nat) (x1 : Int32) (x2 : Int32) : AO eI 4 kX12_areNotesSo 2 [some (.ref a0), some (.int x1), some (.int x2)] [] h (b_X12_areNotesSo_2 k2 h a0 x1 x2) := by
  unfold b_X12_areNotesSo_2
  refine ao_s (st_iload_n dX12_areNotesSo_2 rfl rfl) ?_
  refine ao_s (st_iconst dX12_areNotesSo_3 ic_3) ?_
  refine ao_s (st_aload_n dX12_areNotesSo_4 rfl rfl) ?_
  refine ao_chk (fun e21 => ?_)
  refine ao_getR dX12_areNotesSo_5 fl_X12_39 rfl e21 (fun b22 => ?_)
  refine ao_s (st_sipush dX12_areNotesSo_8 sp_183) ?_
  refine ao_chk (fun e23 => ?_)
  refine ao_iald dX12_areNotesSo_11 e23 ?_
  refine ao_s (st_imul dX12_areNotesSo_12) ?_
  refine ao_br (br_icmp_ge (tgt := 71) dX12_areNotesSo_13 (by decide)) (fun c37 => ?_) (fun c37 => ?_)
  · refine ao_s (st_iconst dX12_areNotesSo_71 ic_1) ?_
    exact ao_ir dX12_areNotesSo_72 rfl (by decide)
  · refine ao_s (st_aload_n dX12_areNotesSo_16 rfl rfl) ?_
    refine ao_getR dX12_areNotesSo_17 fl_X12_39 rfl e21 (fun b24 => ?_)
    refine ao_s (st_sipush dX12_areNotesSo_20 sp_153) ?_
    refine ao_s (st_iload_n dX12_areNotesSo_23 rfl rfl) ?_
    refine ao_s (st_iadd dX12_areNotesSo_24) ?_
    refine ao_letI (fun x25 => ?_)
    refine ao_chk (fun e26 => ?_)
    refine ao_iald dX12_areNotesSo_25 e26 ?_
    refine ao_s (st_iload_n dX12_areNotesSo_26 rfl rfl) ?_
    refine ao_br (br_icmp_ne (tgt := 65) dX12_areNotesSo_27 (by decide)) (fun c36 => ?_) (fun c36 => ?_)
    · refine ao_s (st_aload_n dX12_areNotesSo_30 rfl rfl) ?_
      refine ao_s (st_iconst dX12_areNotesSo_31 ic_0) ?_
      refine ao_s (st_aload_n dX12_areNotesSo_32 rfl rfl) ?_
      refine ao_getR dX12_areNotesSo_33 fl_X12_39 rfl e21 (fun b27 => ?_)
      refine ao_s (st_sipush dX12_areNotesSo_36 sp_153) ?_
      refine ao_s (st_iload_n dX12_areNotesSo_39 rfl rfl) ?_
      refine ao_s (st_iadd dX12_areNotesSo_40) ?_
      refine ao_s (st_iconst dX12_areNotesSo_41 ic_1) ?_
      refine ao_s (st_iadd dX12_areNotesSo_42) ?_
      refine ao_letI (fun x28 => ?_)
      refine ao_chk (fun e29 => ?_)
      refine ao_iald dX12_areNotesSo_43 e29 ?_
      refine ao_s (st_iconst dX12_areNotesSo_44 ic_1) ?_
      refine ao_cVi (Kc := kX12_personOf) (As := [.int 0, .int (hI h b27 x28.toNatClampNeg), .int 1]) (st := []) dX12_areNotesSo_45 ml_X12_301 mv_X12_personOf rfl e21 (by decide) rfl rfl (Nat.le_of_ble_eq_true rfl) (by decide) (s_X12_personOf h a0 0 (hI h b27 x28.toNatClampNeg) 1) (fun r30 h31 => ?_)
      refine ao_s (st_aload_n dX12_areNotesSo_48 rfl rfl) ?_
      refine ao_getR dX12_areNotesSo_49 fl_X12_39 rfl e21 (fun b32 => ?_)
      refine ao_s (st_sipush dX12_areNotesSo_52 sp_153) ?_
      refine ao_s (st_iload_n dX12_areNotesSo_55 rfl rfl) ?_
      refine ao_s (st_iadd dX12_areNotesSo_56) ?_
      refine ao_s (st_iconst dX12_areNotesSo_57 ic_2) ?_
      refine ao_s (st_iadd dX12_areNotesSo_58) ?_
      refine ao_letI (fun x33 => ?_)
      refine ao_chk (fun e34 => ?_)
      refine ao_iald dX12_areNotesSo_59 e34 ?_
      refine ao_br (br_icmp_eq (tgt := 65) dX12_areNotesSo_60 (by decide)) (fun c35 => ?_) (fun c35 => ?_)
      · exact ao_w (sb_s (sb_s (sb_s sb_0))) (t_X12_areNotesSo_65 hk2 h31 a0 x1 x2)
      · refine ao_s (st_iconst dX12_areNotesSo_63 ic_0) ?_
        exact ao_ir dX12_areNotesSo_64 rfl (by decide)
    · exact ao_w (sb_s (sb_s (sb_s sb_0))) (t_X12_areNotesSo_65 hk2 h a0 x1 x2)
def f_X12_areNotesSo_2 (n : Nat) : aH → Nat → Int32 → Int32 → Option (Int32 × aH) := aIt (fun _ _ _ _ => none) (fun k => b_X12_areNotesSo_2 k) n
theorem l_X12_areNotesSo_2 (n : Nat) : ∀ (h : aH) (a0 : Nat) (x1 : Int32) (x2 : Int32), AO eI 4 kX12_areNotesSo 2 [some (.ref a0), some (.int x1), some (.int x2)] [] h (f_X12_areNotesSo_2 n h a0 x1 x2) := by
  induction n with
  | zero => intros; exact ao_none
  | succ n ih =>
    intro h a0 x1 x2
    exact t_X12_areNotesSo_2 ih h a0 x1 x2
def f_X12_areNotesSo (h : aH) (a0 : Nat) (x1 : Int32) : Option (Int32 × aH) :=
f_X12_areNotesSo_2 2000 h a0 x1 0
set_option maxHeartbeats 2000000 in
theorem s_X12_areNotesSo (h : aH) (a0 : Nat) (x1 : Int32) : SO eI 4 kX12_areNotesSo [.ref a0, .int x1] h (f_X12_areNotesSo h a0 x1) := by
  refine so_of (lv0 := [some (.ref a0), some (.int x1), none]) pn_X12 (Nat.le_of_ble_eq_true rfl) rfl ?_
  unfold f_X12_areNotesSo
  refine ao_s (st_iconst dX12_areNotesSo_0 ic_0) ?_
  refine ao_s (st_istore_n (lv' := [some (.ref a0), some (.int x1), some (.int 0)]) dX12_areNotesSo_1 rfl (by decide) rfl) ?_
  exact ao_w (sb_s (sb_s (sb_s sb_0))) (l_X12_areNotesSo_2 2000 h a0 x1 0)
def b_X12_isSo_76 (k5 : aH → Nat → Int32 → Int32 → Int32 → Int32 → Option (Int32 × aH)) (h : aH) (a0 : Nat) (x1 : Int32) (x2 : Int32) (x3 : Int32) (x4 : Int32) : Option (Int32 × aH) :=
k5 h a0 x1 x2 x3 (x4 + 1)
set_option maxHeartbeats 2000000 in
theorem t_X12_isSo_76 {k5 : aH → Nat → Int32 → Int32 → Int32 → Int32 → Option (Int32 × aH)} (hk5 : ∀ (h : aH) (a0 : Nat) (x1 : Int32) (x2 : Int32) (x3 : Int32) (x4 : Int32), AO eI 8 kX12_isSo 5 [some (.ref a0), some (.int x1), some (.int x2), some (.int x3), some (.int x4), none] [] h (k5 h a0 x1 x2 x3 x4)) (h : aH) (a0 : Nat) (x1 : Int32) (x2 : Int32) (x3 : Int32) (x4 : Int32) : AO eI 8 kX12_isSo 76 [some (.ref a0), some (.int x1), some (.int x2), some (.int x3), some (.int x4), none] [] h (b_X12_isSo_76 k5 h a0 x1 x2 x3 x4) := by
  unfold b_X12_isSo_76
  refine ao_s (st_iinc (lv' := [some (.ref a0), some (.int x1), some (.int x2), some (.int x3), some (.int (x4 + 1)), none]) dX12_isSo_76 rfl nc_1 (by decide) rfl) ?_
  refine ao_s (st_goto 5 dX12_isSo_79 (by decide)) ?_
  exact ao_w (sb_s (sb_s (sb_s (sb_s (sb_s (sb_n sb_0)))))) (hk5 h a0 x1 x2 x3 (x4 + 1))
def b_X12_isSo_39 (k5 : aH → Nat → Int32 → Int32 → Int32 → Int32 → Option (Int32 × aH)) (k39 : aH → Nat → Int32 → Int32 → Int32 → Int32 → Int32 → Option (Int32 × aH)) (h : aH) (a0 : Nat) (x1 : Int32) (x2 : Int32) (x3 : Int32) (x4 : Int32) (x5 : Int32) : Option (Int32 × aH) :=
(if 4 ≤ x5 then
b_X12_isSo_76 k5 h a0 x1 x2 x3 x4
else
(if x4 = x2 then
(if (sh a0).1 = 19 then
((hR h a0 34).bind fun b22 =>
(aBind (f_X12_personOf h a0 0 x5 1) fun r23 h24 =>
(aLet ((4 * x1) + x5) fun x25 =>
(if (sh b22).1 = 0 then
(if aIn x25 (sh b22).2 then
(aLet (pI h24 b22 x25.toNatClampNeg r23) fun h27 =>
k39 h27 a0 x1 x2 x3 x4 (x5 + 1))
else none)
else none))))
else none)
else
b_X12_isSo_76 k5 h a0 x1 x2 x3 x4))
set_option maxHeartbeats 2000000 in
theorem t_X12_isSo_39 {k5 : aH → Nat → Int32 → Int32 → Int32 → Int32 → Option (Int32 × aH)} (hk5 : ∀ (h : aH) (a0 : Nat) (x1 : Int32) (x2 : Int32) (x3 : Int32) (x4 : Int32), AO eI 8 kX12_isSo 5 [some (.ref a0), some (.int x1), some (.int x2), some (.int x3), some (.int x4), none] [] h (k5 h a0 x1 x2 x3 x4)) {k39 : aH → Nat → Int32 → Int32 → Int32 → Int32 → Int32 → Option (Int32 × aH)} (hk39 : ∀ (h : aH) (a0 : Nat) (x1 : Int32) (x2 : Int32) (x3 : Int32) (x4 : Int32) (x5 : Int32), AO eI 8 kX12_isSo 39 [some (.ref a0), some (.int x1), some (.int x2), some (.int x3), some (.int x4), some (.int x5)] [] h (k39 h a0 x1 x2 x3 x4 x5)) (h : aH) (a0 : Nat) (x1 : Int32) (x2 : Int32) (x3 : Int32) (x4 : Int32) (x5 : Int32) : AO eI 8 kX12_isSo 39 [some (.ref a0), some (.int x1), some (.int x2), some (.int x3), some (.int x4), some (.int x5)] [] h (b_X12_isSo_39 k5 k39 h a0 x1 x2 x3 x4 x5) := by
  unfold b_X12_isSo_39
  refine ao_s (st_iload dX12_isSo_39 rfl) ?_
  refine ao_s (st_iconst dX12_isSo_41 ic_4) ?_
  refine ao_br (br_icmp_ge (tgt := 76) dX12_isSo_42 (by decide)) (fun c29 => ?_) (fun c29 => ?_)
  · exact ao_w (sb_s (sb_s (sb_s (sb_s (sb_s (sb_n sb_0)))))) (t_X12_isSo_76 hk5 h a0 x1 x2 x3 x4)
  · refine ao_s (st_iload dX12_isSo_45 rfl) ?_
    refine ao_s (st_iload_n dX12_isSo_47 rfl rfl) ?_
    refine ao_br (br_icmp_ne (tgt := 76) dX12_isSo_48 (by decide)) (fun c28 => ?_) (fun c28 => ?_)
    · refine ao_s (st_aload_n dX12_isSo_51 rfl rfl) ?_
      refine ao_chk (fun e21 => ?_)
      refine ao_getR dX12_isSo_52 fl_X12_74 rfl e21 (fun b22 => ?_)
      refine ao_s (st_iconst dX12_isSo_55 ic_4) ?_
      refine ao_s (st_iload_n dX12_isSo_56 rfl rfl) ?_
      refine ao_s (st_imul dX12_isSo_57) ?_
      refine ao_s (st_iload dX12_isSo_58 rfl) ?_
      refine ao_s (st_iadd dX12_isSo_60) ?_
      refine ao_s (st_aload_n dX12_isSo_61 rfl rfl) ?_
      refine ao_s (st_iconst dX12_isSo_62 ic_0) ?_
      refine ao_s (st_iload dX12_isSo_63 rfl) ?_
      refine ao_s (st_iconst dX12_isSo_65 ic_1) ?_
      refine ao_cVi (Kc := kX12_personOf) (As := [.int 0, .int x5, .int 1]) (st := [.int ((4 * x1) + x5), .ref b22]) dX12_isSo_66 ml_X12_301 mv_X12_personOf rfl e21 (by decide) rfl rfl (Nat.le_of_ble_eq_true rfl) (by decide) (s_X12_personOf h a0 0 x5 1) (fun r23 h24 => ?_)
      refine ao_let2 (fun x25 => ?_)
      refine ao_chk (fun e26 => ?_)
      refine ao_iast dX12_isSo_69 e26 ?_
      refine ao_letH (fun h27 => ?_)
      refine ao_s (st_iinc (lv' := [some (.ref a0), some (.int x1), some (.int x2), some (.int x3), some (.int x4), some (.int (x5 + 1))]) dX12_isSo_70 rfl nc_1 (by decide) rfl) ?_
      refine ao_s (st_goto 39 dX12_isSo_73 (by decide)) ?_
      exact ao_w (sb_s (sb_s (sb_s (sb_s (sb_s (sb_s sb_0)))))) (hk39 h27 a0 x1 x2 x3 x4 (x5 + 1))
    · exact ao_w (sb_s (sb_s (sb_s (sb_s (sb_s (sb_n sb_0)))))) (t_X12_isSo_76 hk5 h a0 x1 x2 x3 x4)
def f_X12_isSo_39 (k5 : aH → Nat → Int32 → Int32 → Int32 → Int32 → Option (Int32 × aH)) (n : Nat) : aH → Nat → Int32 → Int32 → Int32 → Int32 → Int32 → Option (Int32 × aH) := aIt (fun _ _ _ _ _ _ _ => none) (fun k => b_X12_isSo_39 k5 k) n
theorem l_X12_isSo_39 {k5 : aH → Nat → Int32 → Int32 → Int32 → Int32 → Option (Int32 × aH)} (hk5 : ∀ (h : aH) (a0 : Nat) (x1 : Int32) (x2 : Int32) (x3 : Int32) (x4 : Int32), AO eI 8 kX12_isSo 5 [some (.ref a0), some (.int x1), some (.int x2), some (.int x3), some (.int x4), none] [] h (k5 h a0 x1 x2 x3 x4)) (n : Nat) : ∀ (h : aH) (a0 : Nat) (x1 : Int32) (x2 : Int32) (x3 : Int32) (x4 : Int32) (x5 : Int32), AO eI 8 kX12_isSo 39 [some (.ref a0), some (.int x1), some (.int x2), some (.int x3), some (.int x4), some (.int x5)] [] h (f_X12_isSo_39 k5 n h a0 x1 x2 x3 x4 x5) := by
  induction n with
  | zero => intros; exact ao_none
  | succ n ih =>
    intro h a0 x1 x2 x3 x4 x5
    exact t_X12_isSo_39 hk5 ih h a0 x1 x2 x3 x4 x5
def b_X12_isSo_35 (k5 : aH → Nat → Int32 → Int32 → Int32 → Int32 → Option (Int32 × aH)) (h : aH) (a0 : Nat) (x1 : Int32) (x2 : Int32) (x4 : Int32) (s0 : Int32) : Option (Int32 × aH) :=
f_X12_isSo_39 k5 2000 h a0 x1 x2 s0 x4 0
set_option maxHeartbeats 2000000 in
theorem t_X12_isSo_35 {k5 : aH → Nat → Int32 → Int32 → Int32 → Int32 → Option (Int32 × aH)} (hk5 : ∀ (h : aH) (a0 : Nat) (x1 : Int32) (x2 : Int32) (x3 : Int32) (x4 : Int32), AO eI 8 kX12_isSo 5 [some (.ref a0), some (.int x1), some (.int x2), some (.int x3), some (.int x4), none] [] h (k5 h a0 x1 x2 x3 x4)) (h : aH) (a0 : Nat) (x1 : Int32) (x2 : Int32) (x4 : Int32) (s0 : Int32) : AO eI 8 kX12_isSo 35 [some (.ref a0), some (.int x1), some (.int x2), none, some (.int x4), none] [.int s0] h (b_X12_isSo_35 k5 h a0 x1 x2 x4 s0) := by
  unfold b_X12_isSo_35
  refine ao_s (st_istore_n (lv' := [some (.ref a0), some (.int x1), some (.int x2), some (.int s0), some (.int x4), none]) dX12_isSo_35 rfl (by decide) rfl) ?_
  refine ao_s (st_iconst dX12_isSo_36 ic_0) ?_
  refine ao_s (st_istore (lv' := [some (.ref a0), some (.int x1), some (.int x2), some (.int s0), some (.int x4), some (.int 0)]) dX12_isSo_37 (by decide) rfl) ?_
  exact ao_w (sb_s (sb_s (sb_s (sb_s (sb_s (sb_s sb_0)))))) (l_X12_isSo_39 hk5 2000 h a0 x1 x2 s0 x4 0)
def b_X12_isSo_34 (k5 : aH → Nat → Int32 → Int32 → Int32 → Int32 → Option (Int32 × aH)) (h : aH) (a0 : Nat) (x1 : Int32) (x2 : Int32) (x4 : Int32) : Option (Int32 × aH) :=
b_X12_isSo_35 k5 h a0 x1 x2 x4 0
set_option maxHeartbeats 2000000 in
theorem t_X12_isSo_34 {k5 : aH → Nat → Int32 → Int32 → Int32 → Int32 → Option (Int32 × aH)} (hk5 : ∀ (h : aH) (a0 : Nat) (x1 : Int32) (x2 : Int32) (x3 : Int32) (x4 : Int32), AO eI 8 kX12_isSo 5 [some (.ref a0), some (.int x1), some (.int x2), some (.int x3), some (.int x4), none] [] h (k5 h a0 x1 x2 x3 x4)) (h : aH) (a0 : Nat) (x1 : Int32) (x2 : Int32) (x4 : Int32) : AO eI 8 kX12_isSo 34 [some (.ref a0), some (.int x1), some (.int x2), none, some (.int x4), none] [] h (b_X12_isSo_34 k5 h a0 x1 x2 x4) := by
  unfold b_X12_isSo_34
  refine ao_s (st_iconst dX12_isSo_34 ic_0) ?_
  exact ao_w (sb_s (sb_s (sb_s (sb_n (sb_s (sb_n sb_0)))))) (t_X12_isSo_35 hk5 h a0 x1 x2 x4 0)
def b_X12_isSo_5 (k5 : aH → Nat → Int32 → Int32 → Int32 → Int32 → Option (Int32 × aH)) (h : aH) (a0 : Nat) (x1 : Int32) (x2 : Int32) (x3 : Int32) (x4 : Int32) : Option (Int32 × aH) :=
(if 30 < x4 then
(if x3 = 0 ∨ x3 = 1 then some (x3, h) else none)
else
(if (sh a0).1 = 19 then
(aBind (f_X12_passes h a0) fun r23 h24 =>
(if x3 = 0 then
b_X12_isSo_34 k5 h24 a0 x1 x2 x4
else
(aBind (f_X12_areNotesSo h24 a0 x4) fun r25 h26 =>
(if r25 = 0 then
b_X12_isSo_34 k5 h26 a0 x1 x2 x4
else
b_X12_isSo_35 k5 h26 a0 x1 x2 x4 1))))
else none))
set_option maxHeartbeats 2000000 in
theorem t_X12_isSo_5 {k5 : aH → Nat → Int32 → Int32 → Int32 → Int32 → Option (Int32 × aH)} (hk5 : ∀ (h : aH) (a0 : Nat) (x1 : Int32) (x2 : Int32) (x3 : Int32) (x4 : Int32), AO eI 8 kX12_isSo 5 [some (.ref a0), some (.int x1), some (.int x2), some (.int x3), some (.int x4), none] [] h (k5 h a0 x1 x2 x3 x4)) (h : aH) (a0 : Nat) (x1 : Int32) (x2 : Int32) (x3 : Int32) (x4 : Int32) : AO eI 8 kX12_isSo 5 [some (.ref a0), some (.int x1), some (.int x2), some (.int x3), some (.int x4), none] [] h (b_X12_isSo_5 k5 h a0 x1 x2 x3 x4) := by
  unfold b_X12_isSo_5
  refine ao_s (st_iload dX12_isSo_5 rfl) ?_
  refine ao_s (st_bipush dX12_isSo_7 bp_30) ?_
  refine ao_br (br_icmp_gt (tgt := 82) dX12_isSo_9 (by decide)) (fun c29 => ?_) (fun c29 => ?_)
  · refine ao_s (st_iload_n dX12_isSo_82 rfl rfl) ?_
    refine ao_chk (fun c21 => ?_)
    exact ao_ir dX12_isSo_83 rfl (nz c21).1
  · refine ao_s (st_aload_n dX12_isSo_12 rfl rfl) ?_
    refine ao_chk (fun e22 => ?_)
    refine ao_cVi (Kc := kX12_passes) (As := []) (st := []) dX12_isSo_13 ml_X12_374 mv_X12_passes rfl e22 (by decide) rfl rfl (Nat.le_of_ble_eq_true rfl) (by decide) (s_X12_passes h a0) (fun r23 h24 => ?_)
    refine ao_s (st_pop dX12_isSo_16 rfl) ?_
    refine ao_s (st_iload_n dX12_isSo_17 rfl rfl) ?_
    refine ao_br (br_if_eq (tgt := 34) dX12_isSo_18 (by decide)) (fun c28 => ?_) (fun c28 => ?_)
    · exact ao_w (sb_s (sb_s (sb_s (sb_n (sb_s (sb_n sb_0)))))) (t_X12_isSo_34 hk5 h24 a0 x1 x2 x4)
    · refine ao_s (st_aload_n dX12_isSo_21 rfl rfl) ?_
      refine ao_s (st_iload dX12_isSo_22 rfl) ?_
      refine ao_cVi (Kc := kX12_areNotesSo) (As := [.int x4]) (st := []) dX12_isSo_24 ml_X12_429 mv_X12_areNotesSo rfl e22 (by decide) rfl rfl (Nat.le_of_ble_eq_true rfl) (by decide) (s_X12_areNotesSo h24 a0 x4) (fun r25 h26 => ?_)
      refine ao_br (br_if_eq (tgt := 34) dX12_isSo_27 (by decide)) (fun c27 => ?_) (fun c27 => ?_)
      · exact ao_w (sb_s (sb_s (sb_s (sb_n (sb_s (sb_n sb_0)))))) (t_X12_isSo_34 hk5 h26 a0 x1 x2 x4)
      · refine ao_s (st_iconst dX12_isSo_30 ic_1) ?_
        refine ao_s (st_goto 35 dX12_isSo_31 (by decide)) ?_
        exact ao_w (sb_s (sb_s (sb_s (sb_n (sb_s (sb_n sb_0)))))) (t_X12_isSo_35 hk5 h26 a0 x1 x2 x4 1)
def f_X12_isSo_5 (n : Nat) : aH → Nat → Int32 → Int32 → Int32 → Int32 → Option (Int32 × aH) := aIt (fun _ _ _ _ _ _ => none) (fun k => b_X12_isSo_5 k) n
theorem l_X12_isSo_5 (n : Nat) : ∀ (h : aH) (a0 : Nat) (x1 : Int32) (x2 : Int32) (x3 : Int32) (x4 : Int32), AO eI 8 kX12_isSo 5 [some (.ref a0), some (.int x1), some (.int x2), some (.int x3), some (.int x4), none] [] h (f_X12_isSo_5 n h a0 x1 x2 x3 x4) := by
  induction n with
  | zero => intros; exact ao_none
  | succ n ih =>
    intro h a0 x1 x2 x3 x4
    exact t_X12_isSo_5 ih h a0 x1 x2 x3 x4
def f_X12_isSo (h : aH) (a0 : Nat) (x1 : Int32) (x2 : Int32) : Option (Int32 × aH) :=
f_X12_isSo_5 2000 h a0 x1 x2 1 0
set_option maxHeartbeats 2000000 in
theorem s_X12_isSo (h : aH) (a0 : Nat) (x1 : Int32) (x2 : Int32) : SO eI 8 kX12_isSo [.ref a0, .int x1, .int x2] h (f_X12_isSo h a0 x1 x2) := by
  refine so_of (lv0 := [some (.ref a0), some (.int x1), some (.int x2), none, none, none]) pn_X12 (Nat.le_of_ble_eq_true rfl) rfl ?_
  unfold f_X12_isSo
  refine ao_s (st_iconst dX12_isSo_0 ic_1) ?_
  refine ao_s (st_istore_n (lv' := [some (.ref a0), some (.int x1), some (.int x2), some (.int 1), none, none]) dX12_isSo_1 rfl (by decide) rfl) ?_
  refine ao_s (st_iconst dX12_isSo_2 ic_0) ?_
  refine ao_s (st_istore (lv' := [some (.ref a0), some (.int x1), some (.int x2), some (.int 1), some (.int 0), none]) dX12_isSo_3 (by decide) rfl) ?_
  exact ao_w (sb_s (sb_s (sb_s (sb_s (sb_s (sb_n sb_0)))))) (l_X12_isSo_5 2000 h a0 x1 x2 1 0)
