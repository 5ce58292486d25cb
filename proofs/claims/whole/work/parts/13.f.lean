def f_X8_partTwo (h : aH) (a0 : Nat) (x1 : Int32) : Option (Int32 × aH) :=
(if (sh a0).1 = 15 then
(aBind (f_X8_partnerOf h a0 0 x1) fun r22 h23 =>
(if 0 ≤ r22 then
(aLet (4 + r22) fun x24 =>
((hR h23 a0 7).bind fun b25 =>
(if (sh b25).1 = 0 then
(if aIn x24 (sh b25).2 then
(aLet (hI h23 b25 x24.toNatClampNeg) fun x27 =>
(aLet ((hI h23 a0 1) / 2) fun x28 =>
(aLet ((if x27 < x28 then x27 else x28)) fun x29 =>
(aBind (f_X8_give h23 a0 x24 x1 x29) fun r30 h31 =>
((hR h31 a0 8).bind fun b32 =>
(if (sh b32).1 = 0 then
(if aIn x24 (sh b32).2 then
(aLet (pI h31 b32 x24.toNatClampNeg (-1)) fun h34 =>
((hR h34 a0 8).bind fun b35 =>
(if (sh b35).1 = 0 then
(if aIn x1 (sh b35).2 then
(aLet (pI h34 b35 x1.toNatClampNeg (-1)) fun h37 =>
((hR h37 a0 10).bind fun b38 =>
(if (sh b38).1 = 0 then
(if aIn x1 (sh b38).2 then
(aLet (pI h37 b38 x1.toNatClampNeg 0) fun h40 =>
some (x29, h40))
else none)
else none)))
else none)
else none)))
else none)
else none))))))
else none)
else none)))
else
some (0, h23)))
else none)
set_option maxHeartbeats 2000000 in
theorem s_X8_partTwo (h : aH) (a0 : Nat) (x1 : Int32) : SO eI 3 kX8_partTwo [.ref a0, .int x1] h (f_X8_partTwo h a0 x1) := by
  refine so_of (lv0 := [some (.ref a0), some (.int x1), none, none, none, none]) pn_X8 (Nat.le_of_ble_eq_true rfl) rfl ?_
  unfold f_X8_partTwo
  refine ao_s (st_aload_n dX8_partTwo_0 rfl rfl) ?_
  refine ao_s (st_iconst dX8_partTwo_1 ic_0) ?_
  refine ao_s (st_iload_n dX8_partTwo_2 rfl rfl) ?_
  refine ao_chk (fun e21 => ?_)
  refine ao_cVi (Kc := kX8_partnerOf) (As := [.int 0, .int x1]) (st := []) dX8_partTwo_3 ml_X8_64 mv_X8_partnerOf rfl e21 (by decide) rfl rfl (Nat.le_of_ble_eq_true rfl) (by decide) (s_X8_partnerOf h a0 0 x1) (fun r22 h23 => ?_)
  refine ao_s (st_istore_n (lv' := [some (.ref a0), some (.int x1), some (.int r22), none, none, none]) dX8_partTwo_6 rfl (by decide) rfl) ?_
  refine ao_s (st_iload_n dX8_partTwo_7 rfl rfl) ?_
  refine ao_br (br_if_ge (tgt := 13) dX8_partTwo_8 (by decide)) (fun c41 => ?_) (fun c41 => ?_)
  · refine ao_s (st_iconst dX8_partTwo_13 ic_4) ?_
    refine ao_s (st_iload_n dX8_partTwo_14 rfl rfl) ?_
    refine ao_s (st_iadd dX8_partTwo_15) ?_
    refine ao_letI (fun x24 => ?_)
    refine ao_s (st_istore_n (lv' := [some (.ref a0), some (.int x1), some (.int r22), some (.int x24), none, none]) dX8_partTwo_16 rfl (by decide) rfl) ?_
    refine ao_s (st_iload_n dX8_partTwo_17 rfl rfl) ?_
    refine ao_s (st_istore (lv' := [some (.ref a0), some (.int x1), some (.int r22), some (.int x24), some (.int x1), none]) dX8_partTwo_18 (by decide) rfl) ?_
    refine ao_s (st_aload_n dX8_partTwo_20 rfl rfl) ?_
    refine ao_getI dX8_partTwo_21 fl_X8_15 rfl e21 ?_
    refine ao_s (st_iconst dX8_partTwo_24 ic_2) ?_
    refine ao_s (st_idiv dX8_partTwo_25 (by decide)) ?_
    refine ao_s (st_aload_n dX8_partTwo_26 rfl rfl) ?_
    refine ao_getR dX8_partTwo_27 fl_X8_35 rfl e21 (fun b25 => ?_)
    refine ao_s (st_iload_n dX8_partTwo_30 rfl rfl) ?_
    refine ao_chk (fun e26 => ?_)
    refine ao_iald dX8_partTwo_31 e26 ?_
    refine ao_letI (fun x27 => ?_)
    refine ao_let2 (fun x28 => ?_)
    refine ao_mmin dX8_partTwo_32 ml_X8_88 (Nat.le_of_ble_eq_true rfl) (by decide) ?_
    refine ao_letI (fun x29 => ?_)
    refine ao_s (st_istore (lv' := [some (.ref a0), some (.int x1), some (.int r22), some (.int x24), some (.int x1), some (.int x29)]) dX8_partTwo_35 (by decide) rfl) ?_
    refine ao_s (st_aload_n dX8_partTwo_37 rfl rfl) ?_
    refine ao_s (st_iload_n dX8_partTwo_38 rfl rfl) ?_
    refine ao_s (st_iload dX8_partTwo_39 rfl) ?_
    refine ao_s (st_iload dX8_partTwo_41 rfl) ?_
    refine ao_cVv (Kc := kX8_give) (As := [.int x24, .int x1, .int x29]) (st := []) dX8_partTwo_43 ml_X8_93 mv_X8_give rfl e21 (by decide) rfl rfl (Nat.le_of_ble_eq_true rfl) (by decide) (s_X8_give h23 a0 x24 x1 x29) (fun r30 h31 => ?_)
    refine ao_s (st_aload_n dX8_partTwo_46 rfl rfl) ?_
    refine ao_getR dX8_partTwo_47 fl_X8_39 rfl e21 (fun b32 => ?_)
    refine ao_s (st_iload_n dX8_partTwo_50 rfl rfl) ?_
    refine ao_s (st_iconst dX8_partTwo_51 ic_m1) ?_
    refine ao_chk (fun e33 => ?_)
    refine ao_iast dX8_partTwo_52 e33 ?_
    refine ao_letH (fun h34 => ?_)
    refine ao_s (st_aload_n dX8_partTwo_53 rfl rfl) ?_
    refine ao_getR dX8_partTwo_54 fl_X8_39 rfl e21 (fun b35 => ?_)
    refine ao_s (st_iload dX8_partTwo_57 rfl) ?_
    refine ao_s (st_iconst dX8_partTwo_59 ic_m1) ?_
    refine ao_chk (fun e36 => ?_)
    refine ao_iast dX8_partTwo_60 e36 ?_
    refine ao_letH (fun h37 => ?_)
    refine ao_s (st_aload_n dX8_partTwo_61 rfl rfl) ?_
    refine ao_getR dX8_partTwo_62 fl_X8_45 rfl e21 (fun b38 => ?_)
    refine ao_s (st_iload_n dX8_partTwo_65 rfl rfl) ?_
    refine ao_s (st_iconst dX8_partTwo_66 ic_0) ?_
    refine ao_chk (fun e39 => ?_)
    refine ao_iast dX8_partTwo_67 e39 ?_
    refine ao_letH (fun h40 => ?_)
    refine ao_s (st_iload dX8_partTwo_68 rfl) ?_
    exact ao_ir dX8_partTwo_70 rfl rfl
  · refine ao_s (st_iconst dX8_partTwo_11 ic_0) ?_
    exact ao_ir dX8_partTwo_12 rfl rfl
def b_X0_partThose_69 (k2 : aH → Nat → Nat → Option Nat → Int32 → Option (Unit × aH)) (h : aH) (a0 : Nat) (a1 : Nat) (a2 : Option Nat) (x3 : Int32) : Option (Unit × aH) :=
k2 h a0 a1 a2 (x3 + 1)
set_option maxHeartbeats 2000000 in
theorem t_X0_partThose_69 {k2 : aH → Nat → Nat → Option Nat → Int32 → Option (Unit × aH)} (hk2 : ∀ (h : aH) (a0 : Nat) (a1 : Nat) (a2 : Option Nat) (x3 : Int32), AO eV 5 kX0_partThose 2 [some (.ref a0), some (.ref a1), some (va_rf a2), some (.int x3), none] [] h (k2 h a0 a1 a2 x3)) (h : aH) (a0 : Nat) (a1 : Nat) (a2 : Option Nat) (x3 : Int32) : AO eV 5 kX0_partThose 69 [some (.ref a0), some (.ref a1), some (va_rf a2), some (.int x3), none] [] h (b_X0_partThose_69 k2 h a0 a1 a2 x3) := by
  unfold b_X0_partThose_69
  refine ao_s (st_iinc (lv' := [some (.ref a0), some (.ref a1), some (va_rf a2), some (.int (x3 + 1)), none]) dX0_partThose_69 rfl nc_1 (by decide) (by cases a2 <;> rfl)) ?_
  refine ao_s (st_goto 2 dX0_partThose_72 (by decide)) ?_
  exact ao_w (sb_s (sb_s (sb_s (sb_s (sb_n sb_0))))) (hk2 h a0 a1 a2 (x3 + 1))
def b_X0_partThose_63 (k2 : aH → Nat → Nat → Option Nat → Int32 → Option (Unit × aH)) (h : aH) (a0 : Nat) (a1 : Nat) (a2 : Option Nat) (x3 : Int32) : Option (Unit × aH) :=
(if (sh a1).1 = 15 then
(aBind (f_X8_partTwo h a1 x3) fun r22 h23 =>
b_X0_partThose_69 k2 h23 a0 a1 a2 x3)
else none)
set_option maxHeartbeats 2000000 in
theorem t_X0_partThose_63 {k2 : aH → Nat → Nat → Option Nat → Int32 → Option (Unit × aH)} (hk2 : ∀ (h : aH) (a0 : Nat) (a1 : Nat) (a2 : Option Nat) (x3 : Int32), AO eV 5 kX0_partThose 2 [some (.ref a0), some (.ref a1), some (va_rf a2), some (.int x3), none] [] h (k2 h a0 a1 a2 x3)) (h : aH) (a0 : Nat) (a1 : Nat) (a2 : Option Nat) (x3 : Int32) : AO eV 5 kX0_partThose 63 [some (.ref a0), some (.ref a1), some (va_rf a2), some (.int x3), none] [] h (b_X0_partThose_63 k2 h a0 a1 a2 x3) := by
  unfold b_X0_partThose_63
  refine ao_s (st_aload_n dX0_partThose_63 rfl rfl) ?_
  refine ao_s (st_iload_n dX0_partThose_64 rfl rfl) ?_
  refine ao_chk (fun e21 => ?_)
  refine ao_cVi (Kc := kX8_partTwo) (As := [.int x3]) (st := []) dX0_partThose_65 ml_X0_57 mv_X8_partTwo rfl e21 (by decide) rfl rfl (Nat.le_of_ble_eq_true rfl) (by decide) (s_X8_partTwo h a1 x3) (fun r22 h23 => ?_)
  refine ao_s (st_pop dX0_partThose_68 rfl) ?_
  exact ao_w (sb_s (sb_s (sb_s (sb_s (sb_n sb_0))))) (t_X0_partThose_69 hk2 h23 a0 a1 a2 x3)
def b_X0_partThose_2 (k2 : aH → Nat → Nat → Option Nat → Int32 → Option (Unit × aH)) (h : aH) (a0 : Nat) (a1 : Nat) (a2 : Option Nat) (x3 : Int32) : Option (Unit × aH) :=
(if (sh a1).1 = 15 then
(if hI h a1 3 ≤ x3 then
some ((), h)
else
(aBind (f_X8_partnerOf h a1 0 x3) fun r22 h23 =>
(if (sh a0).1 = 7 then
((hR h23 a0 1).bind fun b25 =>
(if (sh b25).1 = 0 then
(if aIn x3 (sh b25).2 then
(aLet (pI h23 b25 x3.toNatClampNeg r22) fun h27 =>
(if r22 < 0 then
b_X0_partThose_69 k2 h27 a0 a1 a2 x3
else
((hR h27 a0 0).bind fun b28 =>
(if (sh b28).1 = 10 then
(aBind (f_X3_stays h27 b28 a1 a2 0 x3 r22) fun r30 h31 =>
(if r30 = 0 then
b_X0_partThose_63 k2 h31 a0 a1 a2 x3
else
((hR h31 a0 0).bind fun b32 =>
(if (sh b32).1 = 10 then
(aBind (f_X3_stays h31 b32 a1 a2 1 x3 r22) fun r34 h35 =>
(if r34 = 0 then
b_X0_partThose_63 k2 h35 a0 a1 a2 x3
else
b_X0_partThose_69 k2 h35 a0 a1 a2 x3))
else none))))
else none))))
else none)
else none))
else none)))
else none)
set_option maxHeartbeats 2000000 in
theorem t_X0_partThose_2 {k2 : aH → Nat → Nat → Option Nat → Int32 → Option (Unit × aH)} (hk2 : ∀ (h : aH) (a0 : Nat) (a1 : Nat) (a2 : Option Nat) (x3 : Int32), AO eV 5 kX0_partThose 2 [some (.ref a0), some (.ref a1), some (va_rf a2), some (.int x3), none] [] h (k2 h a0 a1 a2 x3)) (h : aH) (a0 : Nat) (a1 : Nat) (a2 : Option Nat) (x3 : Int32) : AO eV 5 kX0_partThose 2 [some (.ref a0), some (.ref a1), some (va_rf a2), some (.int x3), none] [] h (b_X0_partThose_2 k2 h a0 a1 a2 x3) := by
  unfold b_X0_partThose_2
  refine ao_s (st_iload_n dX0_partThose_2 rfl rfl) ?_
  refine ao_s (st_aload_n dX0_partThose_3 rfl rfl) ?_
  refine ao_chk (fun e21 => ?_)
  refine ao_getI dX0_partThose_4 fl_X0_45 rfl e21 ?_
  refine ao_br (br_icmp_ge (tgt := 75) dX0_partThose_7 (by decide)) (fun c39 => ?_) (fun c39 => ?_)
  · exact ao_vr dX0_partThose_75 rfl
  · refine ao_s (st_aload_n dX0_partThose_10 rfl rfl) ?_
    refine ao_s (st_iconst dX0_partThose_11 ic_0) ?_
    refine ao_s (st_iload_n dX0_partThose_12 rfl rfl) ?_
    refine ao_cVi (Kc := kX8_partnerOf) (As := [.int 0, .int x3]) (st := []) dX0_partThose_13 ml_X0_49 mv_X8_partnerOf rfl e21 (by decide) rfl rfl (Nat.le_of_ble_eq_true rfl) (by decide) (s_X8_partnerOf h a1 0 x3) (fun r22 h23 => ?_)
    refine ao_s (st_istore (lv' := [some (.ref a0), some (.ref a1), some (va_rf a2), some (.int x3), some (.int r22)]) dX0_partThose_16 (by decide) rfl) ?_
    refine ao_s (st_aload_n dX0_partThose_18 rfl rfl) ?_
    refine ao_chk (fun e24 => ?_)
    refine ao_getR dX0_partThose_19 fl_X0_18 rfl e24 (fun b25 => ?_)
    refine ao_s (st_iload_n dX0_partThose_22 rfl rfl) ?_
    refine ao_s (st_iload dX0_partThose_23 rfl) ?_
    refine ao_chk (fun e26 => ?_)
    refine ao_iast dX0_partThose_25 e26 ?_
    refine ao_letH (fun h27 => ?_)
    refine ao_s (st_iload dX0_partThose_26 rfl) ?_
    refine ao_br (br_if_lt (tgt := 69) dX0_partThose_28 (by decide)) (fun c38 => ?_) (fun c38 => ?_)
    · exact ao_w (sb_s (sb_s (sb_s (sb_s (sb_n sb_0))))) (t_X0_partThose_69 hk2 h27 a0 a1 a2 x3)
    · refine ao_s (st_aload_n dX0_partThose_31 rfl rfl) ?_
      refine ao_getR dX0_partThose_32 fl_X0_12 rfl e24 (fun b28 => ?_)
      refine ao_s (st_aload_n dX0_partThose_35 rfl rfl) ?_
      refine ao_s (st_aload_nQ dX0_partThose_36 rfl rfl) ?_
      refine ao_s (st_iconst dX0_partThose_37 ic_0) ?_
      refine ao_s (st_iload_n dX0_partThose_38 rfl rfl) ?_
      refine ao_s (st_iload dX0_partThose_39 rfl) ?_
      refine ao_chk (fun e29 => ?_)
      refine ao_cVi (Kc := kX3_stays) (As := [.ref a1, va_rf a2, .int 0, .int x3, .int r22]) (st := []) dX0_partThose_41 ml_X0_53 mv_X3_stays rfl e29 (by decide) rfl rfl (Nat.le_of_ble_eq_true rfl) (by decide) (s_X3_stays h27 b28 a1 a2 0 x3 r22) (fun r30 h31 => ?_)
      refine ao_br (br_if_eq (tgt := 63) dX0_partThose_44 (by decide)) (fun c37 => ?_) (fun c37 => ?_)
      · exact ao_w (sb_s (sb_s (sb_s (sb_s (sb_n sb_0))))) (t_X0_partThose_63 hk2 h31 a0 a1 a2 x3)
      · refine ao_s (st_aload_n dX0_partThose_47 rfl rfl) ?_
        refine ao_getR dX0_partThose_48 fl_X0_12 rfl e24 (fun b32 => ?_)
        refine ao_s (st_aload_n dX0_partThose_51 rfl rfl) ?_
        refine ao_s (st_aload_nQ dX0_partThose_52 rfl rfl) ?_
        refine ao_s (st_iconst dX0_partThose_53 ic_1) ?_
        refine ao_s (st_iload_n dX0_partThose_54 rfl rfl) ?_
        refine ao_s (st_iload dX0_partThose_55 rfl) ?_
        refine ao_chk (fun e33 => ?_)
        refine ao_cVi (Kc := kX3_stays) (As := [.ref a1, va_rf a2, .int 1, .int x3, .int r22]) (st := []) dX0_partThose_57 ml_X0_53 mv_X3_stays rfl e33 (by decide) rfl rfl (Nat.le_of_ble_eq_true rfl) (by decide) (s_X3_stays h31 b32 a1 a2 1 x3 r22) (fun r34 h35 => ?_)
        refine ao_br (br_if_ne (tgt := 69) dX0_partThose_60 (by decide)) (fun c36 => ?_) (fun c36 => ?_)
        · exact ao_w (sb_s (sb_s (sb_s (sb_s (sb_n sb_0))))) (t_X0_partThose_63 hk2 h35 a0 a1 a2 x3)
        · exact ao_w (sb_s (sb_s (sb_s (sb_s (sb_n sb_0))))) (t_X0_partThose_69 hk2 h35 a0 a1 a2 x3)
def f_X0_partThose_2 (n : Nat) : aH → Nat → Nat → Option Nat → Int32 → Option (Unit × aH) := aIt (fun _ _ _ _ _ => none) (fun k => b_X0_partThose_2 k) n
theorem l_X0_partThose_2 (n : Nat) : ∀ (h : aH) (a0 : Nat) (a1 : Nat) (a2 : Option Nat) (x3 : Int32), AO eV 5 kX0_partThose 2 [some (.ref a0), some (.ref a1), some (va_rf a2), some (.int x3), none] [] h (f_X0_partThose_2 n h a0 a1 a2 x3) := by
  induction n with
  | zero => intros; exact ao_none
  | succ n ih =>
    intro h a0 a1 a2 x3
    exact t_X0_partThose_2 ih h a0 a1 a2 x3
def f_X0_partThose (h : aH) (a0 : Nat) (a1 : Nat) (a2 : Option Nat) : Option (Unit × aH) :=
f_X0_partThose_2 2000 h a0 a1 a2 0
set_option maxHeartbeats 2000000 in
theorem s_X0_partThose (h : aH) (a0 : Nat) (a1 : Nat) (a2 : Option Nat) : SO eV 5 kX0_partThose [.ref a0, .ref a1, va_rf a2] h (f_X0_partThose h a0 a1 a2) := by
  refine so_of (lv0 := [some (.ref a0), some (.ref a1), some (va_rf a2), none, none]) pn_X0 (by simp [aEn, aEnt, aCatN, aCatR, aCatQ, aCatL]) (by simp [aEn, aEnt, aCatN, aCatR, aCatQ, aCatL]) ?_
  unfold f_X0_partThose
  refine ao_s (st_iconst dX0_partThose_0 ic_0) ?_
  refine ao_s (st_istore_n (lv' := [some (.ref a0), some (.ref a1), some (va_rf a2), some (.int 0), none]) dX0_partThose_1 rfl (by decide) (by cases a2 <;> rfl)) ?_
  exact ao_w (sb_s (sb_s (sb_s (sb_s (sb_n sb_0))))) (l_X0_partThose_2 2000 h a0 a1 a2 0)
def f_X8_cell (h : aH) (x0 : Int32) (x1 : Int32) (x2 : Int32) : Option (Int32 × aH) :=
some (((x0 * 16) + (x1 * 4)) + x2, h)
set_option maxHeartbeats 2000000 in
theorem s_X8_cell (h : aH) (x0 : Int32) (x1 : Int32) (x2 : Int32) : SO eI 2 kX8_cell [.int x0, .int x1, .int x2] h (f_X8_cell h x0 x1 x2) := by
  refine so_of (lv0 := [some (.int x0), some (.int x1), some (.int x2)]) pn_X8 (Nat.le_of_ble_eq_true rfl) rfl ?_
  unfold f_X8_cell
  refine ao_s (st_iload_n dX8_cell_0 rfl rfl) ?_
  refine ao_s (st_bipush dX8_cell_1 bp_16) ?_
  refine ao_s (st_imul dX8_cell_3) ?_
  refine ao_s (st_iload_n dX8_cell_4 rfl rfl) ?_
  refine ao_s (st_iconst dX8_cell_5 ic_4) ?_
  refine ao_s (st_imul dX8_cell_6) ?_
  refine ao_s (st_iadd dX8_cell_7) ?_
  refine ao_s (st_iload_n dX8_cell_8 rfl rfl) ?_
  refine ao_s (st_iadd dX8_cell_9) ?_
  exact ao_ir dX8_cell_10 rfl rfl
def f_X8_learn (h : aH) (a0 : Nat) (x1 : Int32) : Option (Unit × aH) :=
(if (sh a0).1 = 15 then
((hR h a0 11).bind fun b22 =>
(if (sh b22).1 = 0 then
(if aIn x1 (sh b22).2 then
((hR h a0 12).bind fun b24 =>
(if (sh b24).1 = 0 then
(if aIn x1 (sh b24).2 then
(if hI h b24 x1.toNatClampNeg ≤ hI h b22 x1.toNatClampNeg then
((hR h a0 11).bind fun b26 =>
(if (sh b26).1 = 0 then
(if aIn x1 (sh b26).2 then
((hR h a0 12).bind fun b28 =>
(if (sh b28).1 = 0 then
(if aIn x1 (sh b28).2 then
(if hI h b26 x1.toNatClampNeg ≤ hI h b28 x1.toNatClampNeg then
some ((), h)
else
((hR h a0 11).bind fun b30 =>
(if (sh b30).1 = 0 then
(if aIn x1 (sh b30).2 then
(if aIn x1 (sh b30).2 then
(aLet (pI h b30 x1.toNatClampNeg ((hI h b30 x1.toNatClampNeg) - 1)) fun h32 =>
some ((), h32))
else none)
else none)
else none)))
else none)
else none))
else none)
else none))
else
((hR h a0 11).bind fun b34 =>
(if (sh b34).1 = 0 then
(if aIn x1 (sh b34).2 then
(if aIn x1 (sh b34).2 then
(aLet (pI h b34 x1.toNatClampNeg ((hI h b34 x1.toNatClampNeg) + 1)) fun h36 =>
some ((), h36))
else none)
else none)
else none)))
else none)
else none))
else none)
else none))
else none)
set_option maxHeartbeats 2000000 in
theorem s_X8_learn (h : aH) (a0 : Nat) (x1 : Int32) : SO eV 2 kX8_learn [.ref a0, .int x1] h (f_X8_learn h a0 x1) := by
  refine so_of (lv0 := [some (.ref a0), some (.int x1)]) pn_X8 (Nat.le_of_ble_eq_true rfl) rfl ?_
  unfold f_X8_learn
  refine ao_s (st_aload_n dX8_learn_0 rfl rfl) ?_
  refine ao_chk (fun e21 => ?_)
  refine ao_getR dX8_learn_1 fl_X8_48 rfl e21 (fun b22 => ?_)
  refine ao_s (st_iload_n dX8_learn_4 rfl rfl) ?_
  refine ao_chk (fun e23 => ?_)
  refine ao_iald dX8_learn_5 e23 ?_
  refine ao_s (st_aload_n dX8_learn_6 rfl rfl) ?_
  refine ao_getR dX8_learn_7 fl_X8_51 rfl e21 (fun b24 => ?_)
  refine ao_s (st_iload_n dX8_learn_10 rfl rfl) ?_
  refine ao_chk (fun e25 => ?_)
  refine ao_iald dX8_learn_11 e25 ?_
  refine ao_br (br_icmp_ge (tgt := 28) dX8_learn_12 (by decide)) (fun c37 => ?_) (fun c37 => ?_)
  · refine ao_s (st_aload_n dX8_learn_28 rfl rfl) ?_
    refine ao_getR dX8_learn_29 fl_X8_48 rfl e21 (fun b26 => ?_)
    refine ao_s (st_iload_n dX8_learn_32 rfl rfl) ?_
    refine ao_chk (fun e27 => ?_)
    refine ao_iald dX8_learn_33 e27 ?_
    refine ao_s (st_aload_n dX8_learn_34 rfl rfl) ?_
    refine ao_getR dX8_learn_35 fl_X8_51 rfl e21 (fun b28 => ?_)
    refine ao_s (st_iload_n dX8_learn_38 rfl rfl) ?_
    refine ao_chk (fun e29 => ?_)
    refine ao_iald dX8_learn_39 e29 ?_
    refine ao_br (br_icmp_le (tgt := 53) dX8_learn_40 (by decide)) (fun c33 => ?_) (fun c33 => ?_)
    · exact ao_vr dX8_learn_53 rfl
    · refine ao_s (st_aload_n dX8_learn_43 rfl rfl) ?_
      refine ao_getR dX8_learn_44 fl_X8_48 rfl e21 (fun b30 => ?_)
      refine ao_s (st_iload_n dX8_learn_47 rfl rfl) ?_
      refine ao_s (st_dup2 dX8_learn_48 rfl rfl) ?_
      refine ao_chk (fun e31 => ?_)
      refine ao_iald dX8_learn_49 e31 ?_
      refine ao_s (st_iconst dX8_learn_50 ic_1) ?_
      refine ao_s (st_isub dX8_learn_51) ?_
      refine ao_iast dX8_learn_52 e31 ?_
      refine ao_letH (fun h32 => ?_)
      exact ao_vr dX8_learn_53 rfl
  · refine ao_s (st_aload_n dX8_learn_15 rfl rfl) ?_
    refine ao_getR dX8_learn_16 fl_X8_48 rfl e21 (fun b34 => ?_)
    refine ao_s (st_iload_n dX8_learn_19 rfl rfl) ?_
    refine ao_s (st_dup2 dX8_learn_20 rfl rfl) ?_
    refine ao_chk (fun e35 => ?_)
    refine ao_iald dX8_learn_21 e35 ?_
    refine ao_s (st_iconst dX8_learn_22 ic_1) ?_
    refine ao_s (st_iadd dX8_learn_23) ?_
    refine ao_iast dX8_learn_24 e35 ?_
    refine ao_letH (fun h36 => ?_)
    refine ao_s (st_goto 53 dX8_learn_25 (by decide)) ?_
    exact ao_vr dX8_learn_53 rfl
def b_X8_passYear_51 (k2 : aH → Nat → Int32 → Option (Unit × aH)) (h : aH) (a0 : Nat) (x1 : Int32) : Option (Unit × aH) :=
k2 h a0 (x1 + 1)
set_option maxHeartbeats 2000000 in
theorem t_X8_passYear_51 {k2 : aH → Nat → Int32 → Option (Unit × aH)} (hk2 : ∀ (h : aH) (a0 : Nat) (x1 : Int32), AO eV 3 kX8_passYear 2 [some (.ref a0), some (.int x1), none] [] h (k2 h a0 x1)) (h : aH) (a0 : Nat) (x1 : Int32) : AO eV 3 kX8_passYear 51 [some (.ref a0), some (.int x1), none] [] h (b_X8_passYear_51 k2 h a0 x1) := by
  unfold b_X8_passYear_51
  refine ao_s (st_iinc (lv' := [some (.ref a0), some (.int (x1 + 1)), none]) dX8_passYear_51 rfl nc_1 (by decide) rfl) ?_
  refine ao_s (st_goto 2 dX8_passYear_54 (by decide)) ?_
  exact ao_w (sb_s (sb_s (sb_n sb_0))) (hk2 h a0 (x1 + 1))
def b_X8_passYear_2 (k2 : aH → Nat → Int32 → Option (Unit × aH)) (h : aH) (a0 : Nat) (x1 : Int32) : Option (Unit × aH) :=
(if (sh a0).1 = 15 then
(if hI h a0 3 ≤ x1 then
(aLet (pI h a0 5 ((hI h a0 5) + 1)) fun h22 =>
some ((), h22))
else
(aBind (f_X8_partnerOf h a0 0 x1) fun r23 h24 =>
(if r23 < 0 then
b_X8_passYear_51 k2 h24 a0 x1
else
((hR h24 a0 10).bind fun b25 =>
(if (sh b25).1 = 0 then
(if aIn x1 (sh b25).2 then
(if aIn x1 (sh b25).2 then
(aLet (pI h24 b25 x1.toNatClampNeg ((hI h24 b25 x1.toNatClampNeg) + 1)) fun h27 =>
(aBind (f_X8_cell h27 0 x1 r23) fun r28 h29 =>
(aBind (f_X8_learn h29 a0 r28) fun r30 h31 =>
(aBind (f_X8_cell h31 1 x1 r23) fun r32 h33 =>
(aBind (f_X8_learn h33 a0 r32) fun r34 h35 =>
b_X8_passYear_51 k2 h35 a0 x1)))))
else none)
else none)
else none)))))
else none)
set_option maxHeartbeats 2000000 in
theorem t_X8_passYear_2 {k2 : aH → Nat → Int32 → Option (Unit × aH)} (hk2 : ∀ (h : aH) (a0 : Nat) (x1 : Int32), AO eV 3 kX8_passYear 2 [some (.ref a0), some (.int x1), none] [] h (k2 h a0 x1)) (h : aH) (a0 : Nat) (x1 : Int32) : AO eV 3 kX8_passYear 2 [some (.ref a0), some (.int x1), none] [] h (b_X8_passYear_2 k2 h a0 x1) := by
  unfold b_X8_passYear_2
  refine ao_s (st_iload_n dX8_passYear_2 rfl rfl) ?_
  refine ao_s (st_aload_n dX8_passYear_3 rfl rfl) ?_
  refine ao_chk (fun e21 => ?_)
  refine ao_getI dX8_passYear_4 fl_X8_22 rfl e21 ?_
  refine ao_br (br_icmp_ge (tgt := 57) dX8_passYear_7 (by decide)) (fun c37 => ?_) (fun c37 => ?_)
  · refine ao_s (st_aload_n dX8_passYear_57 rfl rfl) ?_
    refine ao_s (st_dup dX8_passYear_58 rfl) ?_
    refine ao_getI dX8_passYear_59 fl_X8_28 rfl e21 ?_
    refine ao_s (st_iconst dX8_passYear_62 ic_1) ?_
    refine ao_s (st_iadd dX8_passYear_63) ?_
    refine ao_putI dX8_passYear_64 fl_X8_28 rfl rfl rfl rfl e21 ?_
    refine ao_letH (fun h22 => ?_)
    exact ao_vr dX8_passYear_67 rfl
  · refine ao_s (st_aload_n dX8_passYear_10 rfl rfl) ?_
    refine ao_s (st_iconst dX8_passYear_11 ic_0) ?_
    refine ao_s (st_iload_n dX8_passYear_12 rfl rfl) ?_
    refine ao_cVi (Kc := kX8_partnerOf) (As := [.int 0, .int x1]) (st := []) dX8_passYear_13 ml_X8_64 mv_X8_partnerOf rfl e21 (by decide) rfl rfl (Nat.le_of_ble_eq_true rfl) (by decide) (s_X8_partnerOf h a0 0 x1) (fun r23 h24 => ?_)
    refine ao_s (st_istore_n (lv' := [some (.ref a0), some (.int x1), some (.int r23)]) dX8_passYear_16 rfl (by decide) rfl) ?_
    refine ao_s (st_iload_n dX8_passYear_17 rfl rfl) ?_
    refine ao_br (br_if_lt (tgt := 51) dX8_passYear_18 (by decide)) (fun c36 => ?_) (fun c36 => ?_)
    · exact ao_w (sb_s (sb_s (sb_n sb_0))) (t_X8_passYear_51 hk2 h24 a0 x1)
    · refine ao_s (st_aload_n dX8_passYear_21 rfl rfl) ?_
      refine ao_getR dX8_passYear_22 fl_X8_45 rfl e21 (fun b25 => ?_)
      refine ao_s (st_iload_n dX8_passYear_25 rfl rfl) ?_
      refine ao_s (st_dup2 dX8_passYear_26 rfl rfl) ?_
      refine ao_chk (fun e26 => ?_)
      refine ao_iald dX8_passYear_27 e26 ?_
      refine ao_s (st_iconst dX8_passYear_28 ic_1) ?_
      refine ao_s (st_iadd dX8_passYear_29) ?_
      refine ao_iast dX8_passYear_30 e26 ?_
      refine ao_letH (fun h27 => ?_)
      refine ao_s (st_aload_n dX8_passYear_31 rfl rfl) ?_
      refine ao_s (st_iconst dX8_passYear_32 ic_0) ?_
      refine ao_s (st_iload_n dX8_passYear_33 rfl rfl) ?_
      refine ao_s (st_iload_n dX8_passYear_34 rfl rfl) ?_
      refine ao_cSi (Kc := kX8_cell) (As := [.int 0, .int x1, .int r23]) (st := [.ref a0]) dX8_passYear_35 ml_X8_97 ms_X8_cell rfl rfl (Nat.le_of_ble_eq_true rfl) (by decide) (s_X8_cell h27 0 x1 r23) (fun r28 h29 => ?_)
      refine ao_cVv (Kc := kX8_learn) (As := [.int r28]) (st := []) dX8_passYear_38 ml_X8_100 mv_X8_learn rfl e21 (by decide) rfl rfl (Nat.le_of_ble_eq_true rfl) (by decide) (s_X8_learn h29 a0 r28) (fun r30 h31 => ?_)
      refine ao_s (st_aload_n dX8_passYear_41 rfl rfl) ?_
      refine ao_s (st_iconst dX8_passYear_42 ic_1) ?_
      refine ao_s (st_iload_n dX8_passYear_43 rfl rfl) ?_
      refine ao_s (st_iload_n dX8_passYear_44 rfl rfl) ?_
      refine ao_cSi (Kc := kX8_cell) (As := [.int 1, .int x1, .int r23]) (st := [.ref a0]) dX8_passYear_45 ml_X8_97 ms_X8_cell rfl rfl (Nat.le_of_ble_eq_true rfl) (by decide) (s_X8_cell h31 1 x1 r23) (fun r32 h33 => ?_)
      refine ao_cVv (Kc := kX8_learn) (As := [.int r32]) (st := []) dX8_passYear_48 ml_X8_100 mv_X8_learn rfl e21 (by decide) rfl rfl (Nat.le_of_ble_eq_true rfl) (by decide) (s_X8_learn h33 a0 r32) (fun r34 h35 => ?_)
      exact ao_w (sb_s (sb_s (sb_n sb_0))) (t_X8_passYear_51 hk2 h35 a0 x1)
def f_X8_passYear_2 (n : Nat) : aH → Nat → Int32 → Option (Unit × aH) := aIt (fun _ _ _ => none) (fun k => b_X8_passYear_2 k) n
theorem l_X8_passYear_2 (n : Nat) : ∀ (h : aH) (a0 : Nat) (x1 : Int32), AO eV 3 kX8_passYear 2 [some (.ref a0), some (.int x1), none] [] h (f_X8_passYear_2 n h a0 x1) := by
  induction n with
  | zero => intros; exact ao_none
  | succ n ih =>
    intro h a0 x1
    exact t_X8_passYear_2 ih h a0 x1
def f_X8_passYear (h : aH) (a0 : Nat) : Option (Unit × aH) :=
f_X8_passYear_2 2000 h a0 0
set_option maxHeartbeats 2000000 in
theorem s_X8_passYear (h : aH) (a0 : Nat) : SO eV 3 kX8_passYear [.ref a0] h (f_X8_passYear h a0) := by
  refine so_of (lv0 := [some (.ref a0), none, none]) pn_X8 (Nat.le_of_ble_eq_true rfl) rfl ?_
  unfold f_X8_passYear
  refine ao_s (st_iconst dX8_passYear_0 ic_0) ?_
  refine ao_s (st_istore_n (lv' := [some (.ref a0), some (.int 0), none]) dX8_passYear_1 rfl (by decide) rfl) ?_
  exact ao_w (sb_s (sb_s (sb_n sb_0))) (l_X8_passYear_2 2000 h a0 0)
def b_X0_pass_25 (h : aH) (a1 : Nat) (x4 : Int32) : Option (Int32 × aH) :=
(if (sh a1).1 = 15 then
(aBind (f_X8_passYear h a1) fun r22 h23 =>
some (x4, h23))
else none)
set_option maxHeartbeats 2000000 in
theorem t_X0_pass_25 (h : aH) (a1 : Nat) (x4 : Int32) : AO eI 6 kX0_pass 25 [none, some (.ref a1), none, none, some (.int x4)] [] h (b_X0_pass_25 h a1 x4) := by
  unfold b_X0_pass_25
  refine ao_s (st_aload_n dX0_pass_25 rfl rfl) ?_
  refine ao_chk (fun e21 => ?_)
  refine ao_cVv (Kc := kX8_passYear) (As := []) (st := []) dX0_pass_26 ml_X0_40 mv_X8_passYear rfl e21 (by decide) rfl rfl (Nat.le_of_ble_eq_true rfl) (by decide) (s_X8_passYear h a1) (fun r22 h23 => ?_)
  refine ao_s (st_iload dX0_pass_29 rfl) ?_
  exact ao_ir dX0_pass_31 rfl rfl
def f_X0_pass (h : aH) (a0 : Nat) (a1 : Nat) (a2 : Option Nat) (x3 : Int32) : Option (Int32 × aH) :=
(if x3 = 0 then
(if (sh a0).1 = 7 then
(aBind (f_X0_partThose h a0 a1 a2) fun r22 h23 =>
(aBind (f_X0_askAround h23 a0 a1) fun r24 h25 =>
(aBind (f_X0_joinThoseAtHand h25 a0 a1) fun r26 h27 =>
b_X0_pass_25 h27 a1 r26)))
else none)
else
b_X0_pass_25 h a1 0)
set_option maxHeartbeats 2000000 in
theorem s_X0_pass (h : aH) (a0 : Nat) (a1 : Nat) (a2 : Option Nat) (x3 : Int32) : SO eI 6 kX0_pass [.ref a0, .ref a1, va_rf a2, .int x3] h (f_X0_pass h a0 a1 a2 x3) := by
  refine so_of (lv0 := [some (.ref a0), some (.ref a1), some (va_rf a2), some (.int x3), none]) pn_X0 (by simp [aEn, aEnt, aCatN, aCatR, aCatQ, aCatL]) (by simp [aEn, aEnt, aCatN, aCatR, aCatQ, aCatL]) ?_
  unfold f_X0_pass
  refine ao_s (st_iconst dX0_pass_0 ic_0) ?_
  refine ao_s (st_istore (lv' := [some (.ref a0), some (.ref a1), some (va_rf a2), some (.int x3), some (.int 0)]) dX0_pass_1 (by decide) rfl) ?_
  refine ao_s (st_iload_n dX0_pass_3 rfl rfl) ?_
  refine ao_br (br_if_ne (tgt := 25) dX0_pass_4 (by decide)) (fun c28 => ?_) (fun c28 => ?_)
  · refine ao_s (st_aload_n dX0_pass_7 rfl rfl) ?_
    refine ao_s (st_aload_n dX0_pass_8 rfl rfl) ?_
    refine ao_s (st_aload_nQ dX0_pass_9 rfl rfl) ?_
    refine ao_chk (fun e21 => ?_)
    refine ao_cVv (Kc := kX0_partThose) (As := [.ref a1, va_rf a2]) (st := []) dX0_pass_10 ml_X0_28 mv_X0_partThose rfl e21 (by decide) rfl rfl (Nat.le_of_ble_eq_true rfl) (by decide) (s_X0_partThose h a0 a1 a2) (fun r22 h23 => ?_)
    refine ao_s (st_aload_n dX0_pass_13 rfl rfl) ?_
    refine ao_s (st_aload_n dX0_pass_14 rfl rfl) ?_
    refine ao_cVv (Kc := kX0_askAround) (As := [.ref a1]) (st := []) dX0_pass_15 ml_X0_32 mv_X0_askAround rfl e21 (by decide) rfl rfl (Nat.le_of_ble_eq_true rfl) (by decide) (s_X0_askAround h23 a0 a1) (fun r24 h25 => ?_)
    refine ao_s (st_aload_n dX0_pass_18 rfl rfl) ?_
    refine ao_s (st_aload_n dX0_pass_19 rfl rfl) ?_
    refine ao_cVi (Kc := kX0_joinThoseAtHand) (As := [.ref a1]) (st := []) dX0_pass_20 ml_X0_36 mv_X0_joinThoseAtHand rfl e21 (by decide) rfl rfl (Nat.le_of_ble_eq_true rfl) (by decide) (s_X0_joinThoseAtHand h25 a0 a1) (fun r26 h27 => ?_)
    refine ao_s (st_istore (lv' := [some (.ref a0), some (.ref a1), some (va_rf a2), some (.int x3), some (.int r26)]) dX0_pass_23 (by decide) rfl) ?_
    exact ao_w (sb_n (sb_s (sb_n (sb_n (sb_s sb_0))))) (t_X0_pass_25 h27 a1 r26)
  · exact ao_w (sb_n (sb_s (sb_n (sb_n (sb_s sb_0))))) (t_X0_pass_25 h a1 0)
def f_X8_copyFrom (h : aH) (a0 : Nat) (a1 : Nat) : Option (Unit × aH) :=
(if (sh a1).1 = 15 then
(if (sh a0).1 = 15 then
(if hI h a1 0 = 0 ∨ hI h a1 0 = 1 then
(aLet (pI h a0 0 (hI h a1 0)) fun h24 =>
(aLet (pI h24 a0 1 (hI h24 a1 1)) fun h25 =>
(aLet (pI h25 a0 2 (hI h25 a1 2)) fun h26 =>
(aLet (pI h26 a0 3 (hI h26 a1 3)) fun h27 =>
(aLet (pI h27 a0 4 (hI h27 a1 4)) fun h28 =>
(aLet (pI h28 a0 5 (hI h28 a1 5)) fun h29 =>
(aLet (pL h29 a0 6 (hL h29 a1 6)) fun h30 =>
((hR h30 a1 7).bind fun b31 =>
((hR h30 a0 7).bind fun b32 =>
(if (sh b31).1 = 0 then
(if (sh b32).1 = 0 then
(if 8 ≤ (sh b31).2 ∧ 8 ≤ (sh b32).2 then
(aLet (wI h30 b32 (va_cpy (hI h30 b31) (hI h30 b32) (0 : Int32).toNatClampNeg (0 : Int32).toNatClampNeg (8 : Int32).toNatClampNeg)) fun h35 =>
((hR h35 a1 8).bind fun b36 =>
((hR h35 a0 8).bind fun b37 =>
(if (sh b36).1 = 0 then
(if (sh b37).1 = 0 then
(if 8 ≤ (sh b36).2 ∧ 8 ≤ (sh b37).2 then
(aLet (wI h35 b37 (va_cpy (hI h35 b36) (hI h35 b37) (0 : Int32).toNatClampNeg (0 : Int32).toNatClampNeg (8 : Int32).toNatClampNeg)) fun h40 =>
((hR h40 a1 9).bind fun b41 =>
((hR h40 a0 9).bind fun b42 =>
(if (sh b41).1 = 0 then
(if (sh b42).1 = 0 then
(if 8 ≤ (sh b41).2 ∧ 8 ≤ (sh b42).2 then
(aLet (wI h40 b42 (va_cpy (hI h40 b41) (hI h40 b42) (0 : Int32).toNatClampNeg (0 : Int32).toNatClampNeg (8 : Int32).toNatClampNeg)) fun h45 =>
((hR h45 a1 10).bind fun b46 =>
((hR h45 a0 10).bind fun b47 =>
(if (sh b46).1 = 0 then
(if (sh b47).1 = 0 then
(if 4 ≤ (sh b46).2 ∧ 4 ≤ (sh b47).2 then
(aLet (wI h45 b47 (va_cpy (hI h45 b46) (hI h45 b47) (0 : Int32).toNatClampNeg (0 : Int32).toNatClampNeg (4 : Int32).toNatClampNeg)) fun h50 =>
((hR h50 a1 11).bind fun b51 =>
((hR h50 a0 11).bind fun b52 =>
(if (sh b51).1 = 0 then
(if (sh b52).1 = 0 then
(if 32 ≤ (sh b51).2 ∧ 32 ≤ (sh b52).2 then
(aLet (wI h50 b52 (va_cpy (hI h50 b51) (hI h50 b52) (0 : Int32).toNatClampNeg (0 : Int32).toNatClampNeg (32 : Int32).toNatClampNeg)) fun h55 =>
((hR h55 a1 12).bind fun b56 =>
((hR h55 a0 12).bind fun b57 =>
(if (sh b56).1 = 0 then
(if (sh b57).1 = 0 then
(if 32 ≤ (sh b56).2 ∧ 32 ≤ (sh b57).2 then
(aLet (wI h55 b57 (va_cpy (hI h55 b56) (hI h55 b57) (0 : Int32).toNatClampNeg (0 : Int32).toNatClampNeg (32 : Int32).toNatClampNeg)) fun h60 =>
some ((), h60))
else none)
else none)
else none))))
else none)
else none)
else none))))
else none)
else none)
else none))))
else none)
else none)
else none))))
else none)
else none)
else none))))
else none)
else none)
else none))))))))))
else none)
else none)
else none)
set_option maxHeartbeats 2000000 in
theorem s_X8_copyFrom (h : aH) (a0 : Nat) (a1 : Nat) : SO eV 2 kX8_copyFrom [.ref a0, .ref a1] h (f_X8_copyFrom h a0 a1) := by
  refine so_of (lv0 := [some (.ref a0), some (.ref a1)]) pn_X8 (Nat.le_of_ble_eq_true rfl) rfl ?_
  unfold f_X8_copyFrom
  refine ao_s (st_aload_n dX8_copyFrom_0 rfl rfl) ?_
  refine ao_s (st_aload_n dX8_copyFrom_1 rfl rfl) ?_
  refine ao_chk (fun e21 => ?_)
  refine ao_getI dX8_copyFrom_2 fl_X8_9 rfl e21 ?_
  refine ao_chk (fun e22 => ?_)
  refine ao_chk (fun c23 => ?_)
  refine ao_putI dX8_copyFrom_5 fl_X8_9 rfl rfl (nz c23).1 (nz c23).2 e22 ?_
  refine ao_letH (fun h24 => ?_)
  refine ao_s (st_aload_n dX8_copyFrom_8 rfl rfl) ?_
  refine ao_s (st_aload_n dX8_copyFrom_9 rfl rfl) ?_
  refine ao_getI dX8_copyFrom_10 fl_X8_15 rfl e21 ?_
  refine ao_putI dX8_copyFrom_13 fl_X8_15 rfl rfl rfl rfl e22 ?_
  refine ao_letH (fun h25 => ?_)
  refine ao_s (st_aload_n dX8_copyFrom_16 rfl rfl) ?_
  refine ao_s (st_aload_n dX8_copyFrom_17 rfl rfl) ?_
  refine ao_getI dX8_copyFrom_18 fl_X8_19 rfl e21 ?_
  refine ao_putI dX8_copyFrom_21 fl_X8_19 rfl rfl rfl rfl e22 ?_
  refine ao_letH (fun h26 => ?_)
  refine ao_s (st_aload_n dX8_copyFrom_24 rfl rfl) ?_
  refine ao_s (st_aload_n dX8_copyFrom_25 rfl rfl) ?_
  refine ao_getI dX8_copyFrom_26 fl_X8_22 rfl e21 ?_
  refine ao_putI dX8_copyFrom_29 fl_X8_22 rfl rfl rfl rfl e22 ?_
  refine ao_letH (fun h27 => ?_)
  refine ao_s (st_aload_n dX8_copyFrom_32 rfl rfl) ?_
  refine ao_s (st_aload_n dX8_copyFrom_33 rfl rfl) ?_
  refine ao_getI dX8_copyFrom_34 fl_X8_25 rfl e21 ?_
  refine ao_putI dX8_copyFrom_37 fl_X8_25 rfl rfl rfl rfl e22 ?_
  refine ao_letH (fun h28 => ?_)
  refine ao_s (st_aload_n dX8_copyFrom_40 rfl rfl) ?_
  refine ao_s (st_aload_n dX8_copyFrom_41 rfl rfl) ?_
  refine ao_getI dX8_copyFrom_42 fl_X8_28 rfl e21 ?_
  refine ao_putI dX8_copyFrom_45 fl_X8_28 rfl rfl rfl rfl e22 ?_
  refine ao_letH (fun h29 => ?_)
  refine ao_s (st_aload_n dX8_copyFrom_48 rfl rfl) ?_
  refine ao_s (st_aload_n dX8_copyFrom_49 rfl rfl) ?_
  refine ao_getL dX8_copyFrom_50 fl_X8_31 rfl e21 ?_
  refine ao_putL dX8_copyFrom_53 fl_X8_31 rfl rfl rfl rfl e22 ?_
  refine ao_letH (fun h30 => ?_)
  refine ao_s (st_aload_n dX8_copyFrom_56 rfl rfl) ?_
  refine ao_getR dX8_copyFrom_57 fl_X8_35 rfl e21 (fun b31 => ?_)
  refine ao_s (st_iconst dX8_copyFrom_60 ic_0) ?_
  refine ao_s (st_aload_n dX8_copyFrom_61 rfl rfl) ?_
  refine ao_getR dX8_copyFrom_62 fl_X8_35 rfl e22 (fun b32 => ?_)
  refine ao_s (st_iconst dX8_copyFrom_65 ic_0) ?_
  refine ao_s (st_bipush dX8_copyFrom_66 bp_8) ?_
  refine ao_chk (fun e33 => ?_)
  refine ao_chk (fun e34 => ?_)
  refine ao_chk (fun c66 => ?_)
  refine ao_copy dX8_copyFrom_68 (wcp ml_X8_54) e33 e34 ⟨by decide, by decide, by decide, (cp_8 _ c66.1), (cp_8 _ c66.2)⟩ (Nat.le_of_ble_eq_true rfl) (by decide) ?_
  refine ao_letH (fun h35 => ?_)
  refine ao_s (st_aload_n dX8_copyFrom_71 rfl rfl) ?_
  refine ao_getR dX8_copyFrom_72 fl_X8_39 rfl e21 (fun b36 => ?_)
  refine ao_s (st_iconst dX8_copyFrom_75 ic_0) ?_
  refine ao_s (st_aload_n dX8_copyFrom_76 rfl rfl) ?_
  refine ao_getR dX8_copyFrom_77 fl_X8_39 rfl e22 (fun b37 => ?_)
  refine ao_s (st_iconst dX8_copyFrom_80 ic_0) ?_
  refine ao_s (st_bipush dX8_copyFrom_81 bp_8) ?_
  refine ao_chk (fun e38 => ?_)
  refine ao_chk (fun e39 => ?_)
  refine ao_chk (fun c65 => ?_)
  refine ao_copy dX8_copyFrom_83 (wcp ml_X8_54) e38 e39 ⟨by decide, by decide, by decide, (cp_8 _ c65.1), (cp_8 _ c65.2)⟩ (Nat.le_of_ble_eq_true rfl) (by decide) ?_
  refine ao_letH (fun h40 => ?_)
  refine ao_s (st_aload_n dX8_copyFrom_86 rfl rfl) ?_
  refine ao_getR dX8_copyFrom_87 fl_X8_42 rfl e21 (fun b41 => ?_)
  refine ao_s (st_iconst dX8_copyFrom_90 ic_0) ?_
  refine ao_s (st_aload_n dX8_copyFrom_91 rfl rfl) ?_
  refine ao_getR dX8_copyFrom_92 fl_X8_42 rfl e22 (fun b42 => ?_)
  refine ao_s (st_iconst dX8_copyFrom_95 ic_0) ?_
  refine ao_s (st_bipush dX8_copyFrom_96 bp_8) ?_
  refine ao_chk (fun e43 => ?_)
  refine ao_chk (fun e44 => ?_)
  refine ao_chk (fun c64 => ?_)
  refine ao_copy dX8_copyFrom_98 (wcp ml_X8_54) e43 e44 ⟨by decide, by decide, by decide, (cp_8 _ c64.1), (cp_8 _ c64.2)⟩ (Nat.le_of_ble_eq_true rfl) (by decide) ?_
  refine ao_letH (fun h45 => ?_)
  refine ao_s (st_aload_n dX8_copyFrom_101 rfl rfl) ?_
  refine ao_getR dX8_copyFrom_102 fl_X8_45 rfl e21 (fun b46 => ?_)
  refine ao_s (st_iconst dX8_copyFrom_105 ic_0) ?_
  refine ao_s (st_aload_n dX8_copyFrom_106 rfl rfl) ?_
  refine ao_getR dX8_copyFrom_107 fl_X8_45 rfl e22 (fun b47 => ?_)
  refine ao_s (st_iconst dX8_copyFrom_110 ic_0) ?_
  refine ao_s (st_iconst dX8_copyFrom_111 ic_4) ?_
  refine ao_chk (fun e48 => ?_)
  refine ao_chk (fun e49 => ?_)
  refine ao_chk (fun c63 => ?_)
  refine ao_copy dX8_copyFrom_112 (wcp ml_X8_54) e48 e49 ⟨by decide, by decide, by decide, (cp_4 _ c63.1), (cp_4 _ c63.2)⟩ (Nat.le_of_ble_eq_true rfl) (by decide) ?_
  refine ao_letH (fun h50 => ?_)
  refine ao_s (st_aload_n dX8_copyFrom_115 rfl rfl) ?_
  refine ao_getR dX8_copyFrom_116 fl_X8_48 rfl e21 (fun b51 => ?_)
  refine ao_s (st_iconst dX8_copyFrom_119 ic_0) ?_
  refine ao_s (st_aload_n dX8_copyFrom_120 rfl rfl) ?_
  refine ao_getR dX8_copyFrom_121 fl_X8_48 rfl e22 (fun b52 => ?_)
  refine ao_s (st_iconst dX8_copyFrom_124 ic_0) ?_
  refine ao_s (st_bipush dX8_copyFrom_125 bp_32) ?_
  refine ao_chk (fun e53 => ?_)
  refine ao_chk (fun e54 => ?_)
  refine ao_chk (fun c62 => ?_)
  refine ao_copy dX8_copyFrom_127 (wcp ml_X8_54) e53 e54 ⟨by decide, by decide, by decide, (cp_32 _ c62.1), (cp_32 _ c62.2)⟩ (Nat.le_of_ble_eq_true rfl) (by decide) ?_
  refine ao_letH (fun h55 => ?_)
  refine ao_s (st_aload_n dX8_copyFrom_130 rfl rfl) ?_
  refine ao_getR dX8_copyFrom_131 fl_X8_51 rfl e21 (fun b56 => ?_)
  refine ao_s (st_iconst dX8_copyFrom_134 ic_0) ?_
  refine ao_s (st_aload_n dX8_copyFrom_135 rfl rfl) ?_
  refine ao_getR dX8_copyFrom_136 fl_X8_51 rfl e22 (fun b57 => ?_)
  refine ao_s (st_iconst dX8_copyFrom_139 ic_0) ?_
  refine ao_s (st_bipush dX8_copyFrom_140 bp_32) ?_
  refine ao_chk (fun e58 => ?_)
  refine ao_chk (fun e59 => ?_)
  refine ao_chk (fun c61 => ?_)
  refine ao_copy dX8_copyFrom_142 (wcp ml_X8_54) e58 e59 ⟨by decide, by decide, by decide, (cp_32 _ c61.1), (cp_32 _ c61.2)⟩ (Nat.le_of_ble_eq_true rfl) (by decide) ?_
  refine ao_letH (fun h60 => ?_)
  exact ao_vr dX8_copyFrom_145 rfl
def f_X8_isLate (h : aH) (a0 : Nat) : Option (Int32 × aH) :=
(if (sh a0).1 = 15 then
(if 60 < hI h a0 5 then
some (0, h)
else
(if lg_cmp ((((hL h a0 6).toUInt64 >>> ((hI h a0 5).toInt64.toUInt64 &&& Int64.toUInt64 63)).toInt64) &&& 1) 0 = 0 then
some (0, h)
else
some (1, h)))
else none)
set_option maxHeartbeats 2000000 in
theorem s_X8_isLate (h : aH) (a0 : Nat) : SO eI 2 kX8_isLate [.ref a0] h (f_X8_isLate h a0) := by
  refine so_of (lv0 := [some (.ref a0)]) pn_X8 (Nat.le_of_ble_eq_true rfl) rfl ?_
  unfold f_X8_isLate
  refine ao_s (st_aload_n dX8_isLate_0 rfl rfl) ?_
  refine ao_chk (fun e21 => ?_)
  refine ao_getI dX8_isLate_1 fl_X8_28 rfl e21 ?_
  refine ao_s (st_bipush dX8_isLate_4 bp_60) ?_
  refine ao_br (br_icmp_gt (tgt := 29) dX8_isLate_6 (by decide)) (fun c23 => ?_) (fun c23 => ?_)
  · refine ao_s (st_iconst dX8_isLate_29 ic_0) ?_
    exact ao_ir dX8_isLate_30 rfl (by decide)
  · refine ao_s (st_aload_n dX8_isLate_9 rfl rfl) ?_
    refine ao_getL dX8_isLate_10 fl_X8_31 rfl e21 ?_
    refine ao_s (st_aload_n dX8_isLate_13 rfl rfl) ?_
    refine ao_getI dX8_isLate_14 fl_X8_28 rfl e21 ?_
    refine ao_s (st_lushr dX8_isLate_17) ?_
    refine ao_s (st_lconst dX8_isLate_18 lc_1) ?_
    refine ao_s (st_land dX8_isLate_19) ?_
    refine ao_s (st_lconst dX8_isLate_20 lc_0) ?_
    refine ao_s (st_lcmp dX8_isLate_21) ?_
    refine ao_br (br_if_eq (tgt := 29) dX8_isLate_22 (by decide)) (fun c22 => ?_) (fun c22 => ?_)
    · refine ao_s (st_iconst dX8_isLate_29 ic_0) ?_
      exact ao_ir dX8_isLate_30 rfl (by decide)
    · refine ao_s (st_iconst dX8_isLate_25 ic_1) ?_
      refine ao_s (st_goto 30 dX8_isLate_26 (by decide)) ?_
      exact ao_ir dX8_isLate_30 rfl (by decide)
