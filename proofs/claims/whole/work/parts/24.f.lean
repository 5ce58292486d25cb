def b_X7_choose_13 (rc : aH → Nat → Nat → Int32 → Option (Unit × aH)) (h : aH) (a0 : Nat) (a1 : Nat) : Option (Unit × aH) :=
(if (sh a0).1 = 14 then
(aBind (f_X7_takeIfSettled h a0 a1) fun r22 h23 =>
some ((), h23))
else none)
set_option maxHeartbeats 2000000 in
theorem t_X7_choose_13 {m0 : Nat} {rc : aH → Nat → Nat → Int32 → Option (Unit × aH)} (hrc : ∀ (h : aH) (a0 a1 : Nat) (x2 : Int32), SO eV (6 + m0) kX7_choose [.ref a0, .ref a1, .int x2] h (rc h a0 a1 x2)) (h : aH) (a0 : Nat) (a1 : Nat) : AO eV (6 + m0 + 1) kX7_choose 13 [some (.ref a0), some (.ref a1), none, none] [] h (b_X7_choose_13 rc h a0 a1) := by
  unfold b_X7_choose_13
  refine ao_s (st_aload_n dX7_choose_13 rfl rfl) ?_
  refine ao_s (st_aload_n dX7_choose_14 rfl rfl) ?_
  refine ao_chk (fun e21 => ?_)
  refine ao_cVv (Kc := kX7_takeIfSettled) (As := [.ref a1]) (st := []) dX7_choose_15 ml_X7_37 mv_X7_takeIfSettled rfl e21 (by decide) rfl rfl (Nat.le_of_ble_eq_true rfl) (by omega) (s_X7_takeIfSettled h a0 a1) (fun r22 h23 => ?_)
  exact ao_vr dX7_choose_18 rfl
def b_X7_choose_101 (rc : aH → Nat → Nat → Int32 → Option (Unit × aH)) (k39 : aH → Nat → Nat → Int32 → Int32 → Option (Unit × aH)) (h : aH) (a0 : Nat) (a1 : Nat) (x2 : Int32) (x3 : Int32) : Option (Unit × aH) :=
k39 h a0 a1 x2 (x3 + 1)
set_option maxHeartbeats 2000000 in
theorem t_X7_choose_101 {m0 : Nat} {rc : aH → Nat → Nat → Int32 → Option (Unit × aH)} (hrc : ∀ (h : aH) (a0 a1 : Nat) (x2 : Int32), SO eV (6 + m0) kX7_choose [.ref a0, .ref a1, .int x2] h (rc h a0 a1 x2)) {k39 : aH → Nat → Nat → Int32 → Int32 → Option (Unit × aH)} (hk39 : ∀ (h : aH) (a0 : Nat) (a1 : Nat) (x2 : Int32) (x3 : Int32), AO eV (6 + m0 + 1) kX7_choose 39 [some (.ref a0), some (.ref a1), some (.int x2), some (.int x3)] [] h (k39 h a0 a1 x2 x3)) (h : aH) (a0 : Nat) (a1 : Nat) (x2 : Int32) (x3 : Int32) : AO eV (6 + m0 + 1) kX7_choose 101 [some (.ref a0), some (.ref a1), some (.int x2), some (.int x3)] [] h (b_X7_choose_101 rc k39 h a0 a1 x2 x3) := by
  unfold b_X7_choose_101
  refine ao_s (st_iinc (lv' := [some (.ref a0), some (.ref a1), some (.int x2), some (.int (x3 + 1))]) dX7_choose_101 rfl nc_1 (by decide) rfl) ?_
  refine ao_s (st_goto 39 dX7_choose_104 (by decide)) ?_
  exact ao_w (sb_s (sb_s (sb_s (sb_s sb_0)))) (hk39 h a0 a1 x2 (x3 + 1))
def b_X7_choose_39 (rc : aH → Nat → Nat → Int32 → Option (Unit × aH)) (k39 : aH → Nat → Nat → Int32 → Int32 → Option (Unit × aH)) (h : aH) (a0 : Nat) (a1 : Nat) (x2 : Int32) (x3 : Int32) : Option (Unit × aH) :=
(if (sh a1).1 = 15 then
(if hI h a1 4 ≤ x3 then
some ((), h)
else
(if (sh a0).1 = 14 then
((hR h a0 1).bind fun b23 =>
(if (sh b23).1 = 0 then
(if aIn x3 (sh b23).2 then
(if 0 ≤ hI h b23 x3.toNatClampNeg then
b_X7_choose_101 rc k39 h a0 a1 x2 x3
else
(aBind (f_X8_couldJoin h a1 x2 x3) fun r25 h26 =>
(if r25 = 0 then
b_X7_choose_101 rc k39 h26 a0 a1 x2 x3
else
((hR h26 a0 0).bind fun b27 =>
(if (sh b27).1 = 0 then
(if aIn x2 (sh b27).2 then
(aLet (pI h26 b27 x2.toNatClampNeg x3) fun h29 =>
((hR h29 a0 1).bind fun b30 =>
(if (sh b30).1 = 0 then
(if aIn x3 (sh b30).2 then
(aLet (pI h29 b30 x3.toNatClampNeg x2) fun h32 =>
(aBind (rc h32 a0 a1 (x2 + 1)) fun r33 h34 =>
((hR h34 a0 0).bind fun b35 =>
(if (sh b35).1 = 0 then
(if aIn x2 (sh b35).2 then
(aLet (pI h34 b35 x2.toNatClampNeg (-1)) fun h37 =>
((hR h37 a0 1).bind fun b38 =>
(if (sh b38).1 = 0 then
(if aIn x3 (sh b38).2 then
(aLet (pI h37 b38 x3.toNatClampNeg (-1)) fun h40 =>
b_X7_choose_101 rc k39 h40 a0 a1 x2 x3)
else none)
else none)))
else none)
else none))))
else none)
else none)))
else none)
else none)))))
else none)
else none))
else none))
else none)
set_option maxHeartbeats 2000000 in
theorem t_X7_choose_39 {m0 : Nat} {rc : aH → Nat → Nat → Int32 → Option (Unit × aH)} (hrc : ∀ (h : aH) (a0 a1 : Nat) (x2 : Int32), SO eV (6 + m0) kX7_choose [.ref a0, .ref a1, .int x2] h (rc h a0 a1 x2)) {k39 : aH → Nat → Nat → Int32 → Int32 → Option (Unit × aH)} (hk39 : ∀ (h : aH) (a0 : Nat) (a1 : Nat) (x2 : Int32) (x3 : Int32), AO eV (6 + m0 + 1) kX7_choose 39 [some (.ref a0), some (.ref a1), some (.int x2), some (.int x3)] [] h (k39 h a0 a1 x2 x3)) (h : aH) (a0 : Nat) (a1 : Nat) (x2 : Int32) (x3 : Int32) : AO eV (6 + m0 + 1) kX7_choose 39 [some (.ref a0), some (.ref a1), some (.int x2), some (.int x3)] [] h (b_X7_choose_39 rc k39 h a0 a1 x2 x3) := by
  unfold b_X7_choose_39
  refine ao_s (st_iload_n dX7_choose_39 rfl rfl) ?_
  refine ao_s (st_aload_n dX7_choose_40 rfl rfl) ?_
  refine ao_chk (fun e21 => ?_)
  refine ao_getI dX7_choose_41 fl_X7_45 rfl e21 ?_
  refine ao_br (br_icmp_ge (tgt := 107) dX7_choose_44 (by decide)) (fun c43 => ?_) (fun c43 => ?_)
  · exact ao_vr dX7_choose_107 rfl
  · refine ao_s (st_aload_n dX7_choose_47 rfl rfl) ?_
    refine ao_chk (fun e22 => ?_)
    refine ao_getR dX7_choose_48 fl_X7_15 rfl e22 (fun b23 => ?_)
    refine ao_s (st_iload_n dX7_choose_51 rfl rfl) ?_
    refine ao_chk (fun e24 => ?_)
    refine ao_iald dX7_choose_52 e24 ?_
    refine ao_br (br_if_ge (tgt := 101) dX7_choose_53 (by decide)) (fun c42 => ?_) (fun c42 => ?_)
    · exact ao_w (sb_s (sb_s (sb_s (sb_s sb_0)))) (t_X7_choose_101 hrc hk39 h a0 a1 x2 x3)
    · refine ao_s (st_aload_n dX7_choose_56 rfl rfl) ?_
      refine ao_s (st_iload_n dX7_choose_57 rfl rfl) ?_
      refine ao_s (st_iload_n dX7_choose_58 rfl rfl) ?_
      refine ao_cVi (Kc := kX8_couldJoin) (As := [.int x2, .int x3]) (st := []) dX7_choose_59 ml_X7_48 mv_X8_couldJoin rfl e21 (by decide) rfl rfl (Nat.le_of_ble_eq_true rfl) (by omega) (s_X8_couldJoin h a1 x2 x3) (fun r25 h26 => ?_)
      refine ao_br (br_if_eq (tgt := 101) dX7_choose_62 (by decide)) (fun c41 => ?_) (fun c41 => ?_)
      · exact ao_w (sb_s (sb_s (sb_s (sb_s sb_0)))) (t_X7_choose_101 hrc hk39 h26 a0 a1 x2 x3)
      · refine ao_s (st_aload_n dX7_choose_65 rfl rfl) ?_
        refine ao_getR dX7_choose_66 fl_X7_9 rfl e22 (fun b27 => ?_)
        refine ao_s (st_iload_n dX7_choose_69 rfl rfl) ?_
        refine ao_s (st_iload_n dX7_choose_70 rfl rfl) ?_
        refine ao_chk (fun e28 => ?_)
        refine ao_iast dX7_choose_71 e28 ?_
        refine ao_letH (fun h29 => ?_)
        refine ao_s (st_aload_n dX7_choose_72 rfl rfl) ?_
        refine ao_getR dX7_choose_73 fl_X7_15 rfl e22 (fun b30 => ?_)
        refine ao_s (st_iload_n dX7_choose_76 rfl rfl) ?_
        refine ao_s (st_iload_n dX7_choose_77 rfl rfl) ?_
        refine ao_chk (fun e31 => ?_)
        refine ao_iast dX7_choose_78 e31 ?_
        refine ao_letH (fun h32 => ?_)
        refine ao_s (st_aload_n dX7_choose_79 rfl rfl) ?_
        refine ao_s (st_aload_n dX7_choose_80 rfl rfl) ?_
        refine ao_s (st_iload_n dX7_choose_81 rfl rfl) ?_
        refine ao_s (st_iconst dX7_choose_82 ic_1) ?_
        refine ao_s (st_iadd dX7_choose_83) ?_
        refine ao_cVv (Kc := kX7_choose) (As := [.ref a1, .int (x2 + 1)]) (st := []) dX7_choose_84 ml_X7_28 mv_X7_choose rfl e22 (by decide) rfl rfl (Nat.le_of_ble_eq_true rfl) (Nat.le_refl _) (hrc h32 a0 a1 (x2 + 1)) (fun r33 h34 => ?_)
        refine ao_s (st_aload_n dX7_choose_87 rfl rfl) ?_
        refine ao_getR dX7_choose_88 fl_X7_9 rfl e22 (fun b35 => ?_)
        refine ao_s (st_iload_n dX7_choose_91 rfl rfl) ?_
        refine ao_s (st_iconst dX7_choose_92 ic_m1) ?_
        refine ao_chk (fun e36 => ?_)
        refine ao_iast dX7_choose_93 e36 ?_
        refine ao_letH (fun h37 => ?_)
        refine ao_s (st_aload_n dX7_choose_94 rfl rfl) ?_
        refine ao_getR dX7_choose_95 fl_X7_15 rfl e22 (fun b38 => ?_)
        refine ao_s (st_iload_n dX7_choose_98 rfl rfl) ?_
        refine ao_s (st_iconst dX7_choose_99 ic_m1) ?_
        refine ao_chk (fun e39 => ?_)
        refine ao_iast dX7_choose_100 e39 ?_
        refine ao_letH (fun h40 => ?_)
        exact ao_w (sb_s (sb_s (sb_s (sb_s sb_0)))) (t_X7_choose_101 hrc hk39 h40 a0 a1 x2 x3)
def f_X7_choose_39 (rc : aH → Nat → Nat → Int32 → Option (Unit × aH)) (n : Nat) : aH → Nat → Nat → Int32 → Int32 → Option (Unit × aH) := aIt (fun _ _ _ _ _ => none) (fun k => b_X7_choose_39 rc k) n
theorem l_X7_choose_39 {m0 : Nat} {rc : aH → Nat → Nat → Int32 → Option (Unit × aH)} (hrc : ∀ (h : aH) (a0 a1 : Nat) (x2 : Int32), SO eV (6 + m0) kX7_choose [.ref a0, .ref a1, .int x2] h (rc h a0 a1 x2)) (n : Nat) : ∀ (h : aH) (a0 : Nat) (a1 : Nat) (x2 : Int32) (x3 : Int32), AO eV (6 + m0 + 1) kX7_choose 39 [some (.ref a0), some (.ref a1), some (.int x2), some (.int x3)] [] h (f_X7_choose_39 rc n h a0 a1 x2 x3) := by
  induction n with
  | zero => intros; exact ao_none
  | succ n ih =>
    intro h a0 a1 x2 x3
    exact t_X7_choose_39 hrc ih h a0 a1 x2 x3
def fb_X7_choose (rc : aH → Nat → Nat → Int32 → Option (Unit × aH)) (h : aH) (a0 : Nat) (a1 : Nat) (x2 : Int32) : Option (Unit × aH) :=
(if (sh a1).1 = 15 then
(if hI h a1 3 ≤ x2 then
b_X7_choose_13 rc h a0 a1
else
(if x2 < 4 then
(if (sh a0).1 = 14 then
(aBind (rc h a0 a1 (x2 + 1)) fun r23 h24 =>
(aBind (f_X8_isFree h24 a1 0 x2) fun r25 h26 =>
(if r25 = 0 then
some ((), h26)
else
f_X7_choose_39 rc 2000 h26 a0 a1 x2 0)))
else none)
else
b_X7_choose_13 rc h a0 a1))
else none)
set_option maxHeartbeats 2000000 in
theorem sb_X7_choose {m0 : Nat} {rc : aH → Nat → Nat → Int32 → Option (Unit × aH)} (hrc : ∀ (h : aH) (a0 a1 : Nat) (x2 : Int32), SO eV (6 + m0) kX7_choose [.ref a0, .ref a1, .int x2] h (rc h a0 a1 x2)) (h : aH) (a0 : Nat) (a1 : Nat) (x2 : Int32) : SO eV (6 + m0 + 1) kX7_choose [.ref a0, .ref a1, .int x2] h (fb_X7_choose rc h a0 a1 x2) := by
  refine so_of (lv0 := [some (.ref a0), some (.ref a1), some (.int x2), none]) pn_X7 (Nat.le_of_ble_eq_true rfl) rfl ?_
  unfold fb_X7_choose
  refine ao_s (st_iload_n dX7_choose_0 rfl rfl) ?_
  refine ao_s (st_aload_n dX7_choose_1 rfl rfl) ?_
  refine ao_chk (fun e21 => ?_)
  refine ao_getI dX7_choose_2 fl_X7_32 rfl e21 ?_
  refine ao_br (br_icmp_ge (tgt := 13) dX7_choose_5 (by decide)) (fun c29 => ?_) (fun c29 => ?_)
  · exact ao_w (sb_s (sb_s (sb_n (sb_n sb_0)))) (t_X7_choose_13 hrc h a0 a1)
  · refine ao_s (st_iload_n dX7_choose_8 rfl rfl) ?_
    refine ao_s (st_iconst dX7_choose_9 ic_4) ?_
    refine ao_br (br_icmp_lt (tgt := 19) dX7_choose_10 (by decide)) (fun c28 => ?_) (fun c28 => ?_)
    · refine ao_s (st_aload_n dX7_choose_19 rfl rfl) ?_
      refine ao_s (st_aload_n dX7_choose_20 rfl rfl) ?_
      refine ao_s (st_iload_n dX7_choose_21 rfl rfl) ?_
      refine ao_s (st_iconst dX7_choose_22 ic_1) ?_
      refine ao_s (st_iadd dX7_choose_23) ?_
      refine ao_chk (fun e22 => ?_)
      refine ao_cVv (Kc := kX7_choose) (As := [.ref a1, .int (x2 + 1)]) (st := []) dX7_choose_24 ml_X7_28 mv_X7_choose rfl e22 (by decide) rfl rfl (Nat.le_of_ble_eq_true rfl) (Nat.le_refl _) (hrc h a0 a1 (x2 + 1)) (fun r23 h24 => ?_)
      refine ao_s (st_aload_n dX7_choose_27 rfl rfl) ?_
      refine ao_s (st_iconst dX7_choose_28 ic_0) ?_
      refine ao_s (st_iload_n dX7_choose_29 rfl rfl) ?_
      refine ao_cVi (Kc := kX8_isFree) (As := [.int 0, .int x2]) (st := []) dX7_choose_30 ml_X7_41 mv_X8_isFree rfl e21 (by decide) rfl rfl (Nat.le_of_ble_eq_true rfl) (by omega) (s_X8_isFree h24 a1 0 x2) (fun r25 h26 => ?_)
      refine ao_br (br_if_ne (tgt := 37) dX7_choose_33 (by decide)) (fun c27 => ?_) (fun c27 => ?_)
      · exact ao_vr dX7_choose_36 rfl
      · refine ao_s (st_iconst dX7_choose_37 ic_0) ?_
        refine ao_s (st_istore_n (lv' := [some (.ref a0), some (.ref a1), some (.int x2), some (.int 0)]) dX7_choose_38 rfl (by decide) rfl) ?_
        exact ao_w (sb_s (sb_s (sb_s (sb_s sb_0)))) (l_X7_choose_39 hrc 2000 h26 a0 a1 x2 0)
    · exact ao_w (sb_s (sb_s (sb_n (sb_n sb_0)))) (t_X7_choose_13 hrc h a0 a1)
def fr_X7 : Nat → aH → Nat → Nat → Int32 → Option (Unit × aH)
  | 0 => fun _ _ _ _ => none
  | n + 1 => fb_X7_choose (fr_X7 n)
theorem sr_X7 (n : Nat) : ∀ (h : aH) (a0 a1 : Nat) (x2 : Int32), SO eV (6 + n) kX7_choose [.ref a0, .ref a1, .int x2] h (fr_X7 n h a0 a1 x2) := by
  induction n with
  | zero => exact fun _ _ _ _ => so_none
  | succ n ih => exact fun h a0 a1 x2 => sb_X7_choose ih h a0 a1 x2
def f_X7_choose (h : aH) (a0 a1 : Nat) (x2 : Int32) : Option (Unit × aH) := fr_X7 8 h a0 a1 x2
theorem s_X7_choose (h : aH) (a0 a1 : Nat) (x2 : Int32) : SO eV 14 kX7_choose [.ref a0, .ref a1, .int x2] h (f_X7_choose h a0 a1 x2) := sr_X7 8 h a0 a1 x2
def b_X7_search_12 (k12 : aH → Nat → Nat → Int32 → Option (Unit × aH)) (h : aH) (a0 : Nat) (a1 : Nat) (x2 : Int32) : Option (Unit × aH) :=
(if 4 ≤ x2 then
(if (sh a0).1 = 14 then
(aBind (f_X7_choose h a0 a1 0) fun r22 h23 =>
some ((), h23))
else none)
else
(if (sh a0).1 = 14 then
((hR h a0 0).bind fun b25 =>
(if (sh b25).1 = 0 then
(if aIn x2 (sh b25).2 then
(aLet (pI h b25 x2.toNatClampNeg (-1)) fun h27 =>
((hR h27 a0 1).bind fun b28 =>
(if (sh b28).1 = 0 then
(if aIn x2 (sh b28).2 then
(aLet (pI h27 b28 x2.toNatClampNeg (-1)) fun h30 =>
((hR h30 a0 2).bind fun b31 =>
(if (sh b31).1 = 0 then
(if aIn x2 (sh b31).2 then
(aLet (pI h30 b31 x2.toNatClampNeg (-1)) fun h33 =>
k12 h33 a0 a1 (x2 + 1))
else none)
else none)))
else none)
else none)))
else none)
else none))
else none))
set_option maxHeartbeats 2000000 in
theorem t_X7_search_12 {k12 : aH → Nat → Nat → Int32 → Option (Unit × aH)} (hk12 : ∀ (h : aH) (a0 : Nat) (a1 : Nat) (x2 : Int32), AO eV 15 kX7_search 12 [some (.ref a0), some (.ref a1), some (.int x2)] [] h (k12 h a0 a1 x2)) (h : aH) (a0 : Nat) (a1 : Nat) (x2 : Int32) : AO eV 15 kX7_search 12 [some (.ref a0), some (.ref a1), some (.int x2)] [] h (b_X7_search_12 k12 h a0 a1 x2) := by
  unfold b_X7_search_12
  refine ao_s (st_iload_n dX7_search_12 rfl rfl) ?_
  refine ao_s (st_iconst dX7_search_13 ic_4) ?_
  refine ao_br (br_icmp_ge (tgt := 44) dX7_search_14 (by decide)) (fun c34 => ?_) (fun c34 => ?_)
  · refine ao_s (st_aload_n dX7_search_44 rfl rfl) ?_
    refine ao_s (st_aload_n dX7_search_45 rfl rfl) ?_
    refine ao_s (st_iconst dX7_search_46 ic_0) ?_
    refine ao_chk (fun e21 => ?_)
    refine ao_cVv (Kc := kX7_choose) (As := [.ref a1, .int 0]) (st := []) dX7_search_47 ml_X7_28 mv_X7_choose rfl e21 (by decide) rfl rfl (Nat.le_of_ble_eq_true rfl) (by decide) (s_X7_choose h a0 a1 0) (fun r22 h23 => ?_)
    exact ao_vr dX7_search_50 rfl
  · refine ao_s (st_aload_n dX7_search_17 rfl rfl) ?_
    refine ao_chk (fun e24 => ?_)
    refine ao_getR dX7_search_18 fl_X7_9 rfl e24 (fun b25 => ?_)
    refine ao_s (st_iload_n dX7_search_21 rfl rfl) ?_
    refine ao_s (st_iconst dX7_search_22 ic_m1) ?_
    refine ao_chk (fun e26 => ?_)
    refine ao_iast dX7_search_23 e26 ?_
    refine ao_letH (fun h27 => ?_)
    refine ao_s (st_aload_n dX7_search_24 rfl rfl) ?_
    refine ao_getR dX7_search_25 fl_X7_15 rfl e24 (fun b28 => ?_)
    refine ao_s (st_iload_n dX7_search_28 rfl rfl) ?_
    refine ao_s (st_iconst dX7_search_29 ic_m1) ?_
    refine ao_chk (fun e29 => ?_)
    refine ao_iast dX7_search_30 e29 ?_
    refine ao_letH (fun h30 => ?_)
    refine ao_s (st_aload_n dX7_search_31 rfl rfl) ?_
    refine ao_getR dX7_search_32 fl_X7_18 rfl e24 (fun b31 => ?_)
    refine ao_s (st_iload_n dX7_search_35 rfl rfl) ?_
    refine ao_s (st_iconst dX7_search_36 ic_m1) ?_
    refine ao_chk (fun e32 => ?_)
    refine ao_iast dX7_search_37 e32 ?_
    refine ao_letH (fun h33 => ?_)
    refine ao_s (st_iinc (lv' := [some (.ref a0), some (.ref a1), some (.int (x2 + 1))]) dX7_search_38 rfl nc_1 (by decide) rfl) ?_
    refine ao_s (st_goto 12 dX7_search_41 (by decide)) ?_
    exact ao_w (sb_s (sb_s (sb_s sb_0))) (hk12 h33 a0 a1 (x2 + 1))
def f_X7_search_12 (n : Nat) : aH → Nat → Nat → Int32 → Option (Unit × aH) := aIt (fun _ _ _ _ => none) (fun k => b_X7_search_12 k) n
theorem l_X7_search_12 (n : Nat) : ∀ (h : aH) (a0 : Nat) (a1 : Nat) (x2 : Int32), AO eV 15 kX7_search 12 [some (.ref a0), some (.ref a1), some (.int x2)] [] h (f_X7_search_12 n h a0 a1 x2) := by
  induction n with
  | zero => intros; exact ao_none
  | succ n ih =>
    intro h a0 a1 x2
    exact t_X7_search_12 ih h a0 a1 x2
def f_X7_search (h : aH) (a0 : Nat) (a1 : Nat) : Option (Unit × aH) :=
(if (sh a0).1 = 14 then
(aLet (pI h a0 3 0) fun h22 =>
(aLet (pI h22 a0 4 0) fun h23 =>
f_X7_search_12 2000 h23 a0 a1 0))
else none)
set_option maxHeartbeats 2000000 in
theorem s_X7_search (h : aH) (a0 : Nat) (a1 : Nat) : SO eV 15 kX7_search [.ref a0, .ref a1] h (f_X7_search h a0 a1) := by
  refine so_of (lv0 := [some (.ref a0), some (.ref a1), none]) pn_X7 (Nat.le_of_ble_eq_true rfl) rfl ?_
  unfold f_X7_search
  refine ao_s (st_aload_n dX7_search_0 rfl rfl) ?_
  refine ao_s (st_iconst dX7_search_1 ic_0) ?_
  refine ao_chk (fun e21 => ?_)
  refine ao_putI dX7_search_2 fl_X7_21 rfl rfl rfl rfl e21 ?_
  refine ao_letH (fun h22 => ?_)
  refine ao_s (st_aload_n dX7_search_5 rfl rfl) ?_
  refine ao_s (st_iconst dX7_search_6 ic_0) ?_
  refine ao_putI dX7_search_7 fl_X7_25 rfl rfl rfl rfl e21 ?_
  refine ao_letH (fun h23 => ?_)
  refine ao_s (st_iconst dX7_search_10 ic_0) ?_
  refine ao_s (st_istore_n (lv' := [some (.ref a0), some (.ref a1), some (.int 0)]) dX7_search_11 rfl (by decide) rfl) ?_
  exact ao_w (sb_s (sb_s (sb_s sb_0))) (l_X7_search_12 2000 h23 a0 a1 0)
def f_X8_hasEast (h : aH) (a0 : Nat) (x1 : Int32) : Option (Int32 × aH) :=
(if x1 < 0 then
some (0, h)
else
(if (sh a0).1 = 15 then
(if hI h a0 3 ≤ x1 then
some (0, h)
else
some (1, h))
else none))
set_option maxHeartbeats 2000000 in
theorem s_X8_hasEast (h : aH) (a0 : Nat) (x1 : Int32) : SO eI 2 kX8_hasEast [.ref a0, .int x1] h (f_X8_hasEast h a0 x1) := by
  refine so_of (lv0 := [some (.ref a0), some (.int x1)]) pn_X8 (Nat.le_of_ble_eq_true rfl) rfl ?_
  unfold f_X8_hasEast
  refine ao_s (st_iload_n dX8_hasEast_0 rfl rfl) ?_
  refine ao_br (br_if_lt (tgt := 16) dX8_hasEast_1 (by decide)) (fun c23 => ?_) (fun c23 => ?_)
  · refine ao_s (st_iconst dX8_hasEast_16 ic_0) ?_
    exact ao_ir dX8_hasEast_17 rfl (by decide)
  · refine ao_s (st_iload_n dX8_hasEast_4 rfl rfl) ?_
    refine ao_s (st_aload_n dX8_hasEast_5 rfl rfl) ?_
    refine ao_chk (fun e21 => ?_)
    refine ao_getI dX8_hasEast_6 fl_X8_22 rfl e21 ?_
    refine ao_br (br_icmp_ge (tgt := 16) dX8_hasEast_9 (by decide)) (fun c22 => ?_) (fun c22 => ?_)
    · refine ao_s (st_iconst dX8_hasEast_16 ic_0) ?_
      exact ao_ir dX8_hasEast_17 rfl (by decide)
    · refine ao_s (st_iconst dX8_hasEast_12 ic_1) ?_
      refine ao_s (st_goto 17 dX8_hasEast_13 (by decide)) ?_
      exact ao_ir dX8_hasEast_17 rfl (by decide)
def f_X8_hasWest (h : aH) (a0 : Nat) (x1 : Int32) : Option (Int32 × aH) :=
(if x1 < 0 then
some (0, h)
else
(if (sh a0).1 = 15 then
(if hI h a0 4 ≤ x1 then
some (0, h)
else
some (1, h))
else none))
set_option maxHeartbeats 2000000 in
theorem s_X8_hasWest (h : aH) (a0 : Nat) (x1 : Int32) : SO eI 2 kX8_hasWest [.ref a0, .int x1] h (f_X8_hasWest h a0 x1) := by
  refine so_of (lv0 := [some (.ref a0), some (.int x1)]) pn_X8 (Nat.le_of_ble_eq_true rfl) rfl ?_
  unfold f_X8_hasWest
  refine ao_s (st_iload_n dX8_hasWest_0 rfl rfl) ?_
  refine ao_br (br_if_lt (tgt := 16) dX8_hasWest_1 (by decide)) (fun c23 => ?_) (fun c23 => ?_)
  · refine ao_s (st_iconst dX8_hasWest_16 ic_0) ?_
    exact ao_ir dX8_hasWest_17 rfl (by decide)
  · refine ao_s (st_iload_n dX8_hasWest_4 rfl rfl) ?_
    refine ao_s (st_aload_n dX8_hasWest_5 rfl rfl) ?_
    refine ao_chk (fun e21 => ?_)
    refine ao_getI dX8_hasWest_6 fl_X8_25 rfl e21 ?_
    refine ao_br (br_icmp_ge (tgt := 16) dX8_hasWest_9 (by decide)) (fun c22 => ?_) (fun c22 => ?_)
    · refine ao_s (st_iconst dX8_hasWest_16 ic_0) ?_
      exact ao_ir dX8_hasWest_17 rfl (by decide)
    · refine ao_s (st_iconst dX8_hasWest_12 ic_1) ?_
      refine ao_s (st_goto 17 dX8_hasWest_13 (by decide)) ?_
      exact ao_ir dX8_hasWest_17 rfl (by decide)
def f_X8_isJoinedEast (h : aH) (a0 : Nat) (x1 : Int32) : Option (Int32 × aH) :=
(if (sh a0).1 = 15 then
(aBind (f_X8_hasEast h a0 x1) fun r22 h23 =>
(if r22 = 0 then
some (0, h23)
else
(aBind (f_X8_partnerOf h23 a0 0 x1) fun r24 h25 =>
(if r24 < 0 then
some (0, h25)
else
some (1, h25)))))
else none)
set_option maxHeartbeats 2000000 in
theorem s_X8_isJoinedEast (h : aH) (a0 : Nat) (x1 : Int32) : SO eI 3 kX8_isJoinedEast [.ref a0, .int x1] h (f_X8_isJoinedEast h a0 x1) := by
  refine so_of (lv0 := [some (.ref a0), some (.int x1)]) pn_X8 (Nat.le_of_ble_eq_true rfl) rfl ?_
  unfold f_X8_isJoinedEast
  refine ao_s (st_aload_n dX8_isJoinedEast_0 rfl rfl) ?_
  refine ao_s (st_iload_n dX8_isJoinedEast_1 rfl rfl) ?_
  refine ao_chk (fun e21 => ?_)
  refine ao_cVi (Kc := kX8_hasEast) (As := [.int x1]) (st := []) dX8_isJoinedEast_2 ml_X8_60 mv_X8_hasEast rfl e21 (by decide) rfl rfl (Nat.le_of_ble_eq_true rfl) (by decide) (s_X8_hasEast h a0 x1) (fun r22 h23 => ?_)
  refine ao_br (br_if_eq (tgt := 21) dX8_isJoinedEast_5 (by decide)) (fun c27 => ?_) (fun c27 => ?_)
  · refine ao_s (st_iconst dX8_isJoinedEast_21 ic_0) ?_
    exact ao_ir dX8_isJoinedEast_22 rfl (by decide)
  · refine ao_s (st_aload_n dX8_isJoinedEast_8 rfl rfl) ?_
    refine ao_s (st_iconst dX8_isJoinedEast_9 ic_0) ?_
    refine ao_s (st_iload_n dX8_isJoinedEast_10 rfl rfl) ?_
    refine ao_cVi (Kc := kX8_partnerOf) (As := [.int 0, .int x1]) (st := []) dX8_isJoinedEast_11 ml_X8_64 mv_X8_partnerOf rfl e21 (by decide) rfl rfl (Nat.le_of_ble_eq_true rfl) (by decide) (s_X8_partnerOf h23 a0 0 x1) (fun r24 h25 => ?_)
    refine ao_br (br_if_lt (tgt := 21) dX8_isJoinedEast_14 (by decide)) (fun c26 => ?_) (fun c26 => ?_)
    · refine ao_s (st_iconst dX8_isJoinedEast_21 ic_0) ?_
      exact ao_ir dX8_isJoinedEast_22 rfl (by decide)
    · refine ao_s (st_iconst dX8_isJoinedEast_17 ic_1) ?_
      refine ao_s (st_goto 22 dX8_isJoinedEast_18 (by decide)) ?_
      exact ao_ir dX8_isJoinedEast_22 rfl (by decide)
def f_X8_isFreeEast (h : aH) (a0 : Nat) (x1 : Int32) : Option (Int32 × aH) :=
(if (sh a0).1 = 15 then
(aBind (f_X8_hasEast h a0 x1) fun r22 h23 =>
(if r22 = 0 then
some (0, h23)
else
(aBind (f_X8_partnerOf h23 a0 0 x1) fun r24 h25 =>
(if 0 ≤ r24 then
some (0, h25)
else
some (1, h25)))))
else none)
set_option maxHeartbeats 2000000 in
theorem s_X8_isFreeEast (h : aH) (a0 : Nat) (x1 : Int32) : SO eI 3 kX8_isFreeEast [.ref a0, .int x1] h (f_X8_isFreeEast h a0 x1) := by
  refine so_of (lv0 := [some (.ref a0), some (.int x1)]) pn_X8 (Nat.le_of_ble_eq_true rfl) rfl ?_
  unfold f_X8_isFreeEast
  refine ao_s (st_aload_n dX8_isFreeEast_0 rfl rfl) ?_
  refine ao_s (st_iload_n dX8_isFreeEast_1 rfl rfl) ?_
  refine ao_chk (fun e21 => ?_)
  refine ao_cVi (Kc := kX8_hasEast) (As := [.int x1]) (st := []) dX8_isFreeEast_2 ml_X8_60 mv_X8_hasEast rfl e21 (by decide) rfl rfl (Nat.le_of_ble_eq_true rfl) (by decide) (s_X8_hasEast h a0 x1) (fun r22 h23 => ?_)
  refine ao_br (br_if_eq (tgt := 21) dX8_isFreeEast_5 (by decide)) (fun c27 => ?_) (fun c27 => ?_)
  · refine ao_s (st_iconst dX8_isFreeEast_21 ic_0) ?_
    exact ao_ir dX8_isFreeEast_22 rfl (by decide)
  · refine ao_s (st_aload_n dX8_isFreeEast_8 rfl rfl) ?_
    refine ao_s (st_iconst dX8_isFreeEast_9 ic_0) ?_
    refine ao_s (st_iload_n dX8_isFreeEast_10 rfl rfl) ?_
    refine ao_cVi (Kc := kX8_partnerOf) (As := [.int 0, .int x1]) (st := []) dX8_isFreeEast_11 ml_X8_64 mv_X8_partnerOf rfl e21 (by decide) rfl rfl (Nat.le_of_ble_eq_true rfl) (by decide) (s_X8_partnerOf h23 a0 0 x1) (fun r24 h25 => ?_)
    refine ao_br (br_if_ge (tgt := 21) dX8_isFreeEast_14 (by decide)) (fun c26 => ?_) (fun c26 => ?_)
    · refine ao_s (st_iconst dX8_isFreeEast_21 ic_0) ?_
      exact ao_ir dX8_isFreeEast_22 rfl (by decide)
    · refine ao_s (st_iconst dX8_isFreeEast_17 ic_1) ?_
      refine ao_s (st_goto 22 dX8_isFreeEast_18 (by decide)) ?_
      exact ao_ir dX8_isFreeEast_22 rfl (by decide)
def f_X8_trueLike (h : aH) (a0 : Nat) (x1 : Int32) (x2 : Int32) (x3 : Int32) : Option (Int32 × aH) :=
(if (sh a0).1 = 15 then
((hR h a0 12).bind fun b22 =>
(aLet (((x1 * 16) + (x2 * 4)) + x3) fun x23 =>
(if (sh b22).1 = 0 then
(if aIn x23 (sh b22).2 then
some (hI h b22 x23.toNatClampNeg, h)
else none)
else none)))
else none)
set_option maxHeartbeats 2000000 in
theorem s_X8_trueLike (h : aH) (a0 : Nat) (x1 : Int32) (x2 : Int32) (x3 : Int32) : SO eI 2 kX8_trueLike [.ref a0, .int x1, .int x2, .int x3] h (f_X8_trueLike h a0 x1 x2 x3) := by
  refine so_of (lv0 := [some (.ref a0), some (.int x1), some (.int x2), some (.int x3)]) pn_X8 (Nat.le_of_ble_eq_true rfl) rfl ?_
  unfold f_X8_trueLike
  refine ao_s (st_aload_n dX8_trueLike_0 rfl rfl) ?_
  refine ao_chk (fun e21 => ?_)
  refine ao_getR dX8_trueLike_1 fl_X8_51 rfl e21 (fun b22 => ?_)
  refine ao_s (st_iload_n dX8_trueLike_4 rfl rfl) ?_
  refine ao_s (st_bipush dX8_trueLike_5 bp_16) ?_
  refine ao_s (st_imul dX8_trueLike_7) ?_
  refine ao_s (st_iload_n dX8_trueLike_8 rfl rfl) ?_
  refine ao_s (st_iconst dX8_trueLike_9 ic_4) ?_
  refine ao_s (st_imul dX8_trueLike_10) ?_
  refine ao_s (st_iadd dX8_trueLike_11) ?_
  refine ao_s (st_iload_n dX8_trueLike_12 rfl rfl) ?_
  refine ao_s (st_iadd dX8_trueLike_13) ?_
  refine ao_letI (fun x23 => ?_)
  refine ao_chk (fun e24 => ?_)
  refine ao_iald dX8_trueLike_14 e24 ?_
  exact ao_ir dX8_trueLike_15 rfl rfl
def b_X8_yearsOf_14 (h : aH) (a0 : Nat) (s0 : Int32) : Option (Int32 × aH) :=
(if 0 ≤ s0 then
(if (sh a0).1 = 15 then
((hR h a0 10).bind fun b22 =>
(if (sh b22).1 = 0 then
(if aIn s0 (sh b22).2 then
some (hI h b22 s0.toNatClampNeg, h)
else none)
else none))
else none)
else
some (0, h))
set_option maxHeartbeats 2000000 in
theorem t_X8_yearsOf_14 (h : aH) (a0 : Nat) (s0 : Int32) : AO eI 3 kX8_yearsOf 14 [some (.ref a0), none, none, none] [.int s0] h (b_X8_yearsOf_14 h a0 s0) := by
  unfold b_X8_yearsOf_14
  refine ao_s (st_istore_n (lv' := [some (.ref a0), none, none, some (.int s0)]) dX8_yearsOf_14 rfl (by decide) rfl) ?_
  refine ao_s (st_iload_n dX8_yearsOf_15 rfl rfl) ?_
  refine ao_br (br_if_ge (tgt := 23) dX8_yearsOf_16 (by decide)) (fun c24 => ?_) (fun c24 => ?_)
  · refine ao_s (st_aload_n dX8_yearsOf_23 rfl rfl) ?_
    refine ao_chk (fun e21 => ?_)
    refine ao_getR dX8_yearsOf_24 fl_X8_45 rfl e21 (fun b22 => ?_)
    refine ao_s (st_iload_n dX8_yearsOf_27 rfl rfl) ?_
    refine ao_chk (fun e23 => ?_)
    refine ao_iald dX8_yearsOf_28 e23 ?_
    exact ao_ir dX8_yearsOf_29 rfl rfl
  · refine ao_s (st_iconst dX8_yearsOf_19 ic_0) ?_
    refine ao_s (st_goto 29 dX8_yearsOf_20 (by decide)) ?_
    exact ao_ir dX8_yearsOf_29 rfl rfl
def f_X8_yearsOf (h : aH) (a0 : Nat) (x1 : Int32) (x2 : Int32) : Option (Int32 × aH) :=
(if x1 = 0 then
b_X8_yearsOf_14 h a0 x2
else
(if (sh a0).1 = 15 then
(aBind (f_X8_partnerOf h a0 1 x2) fun r22 h23 =>
b_X8_yearsOf_14 h23 a0 r22)
else none))
set_option maxHeartbeats 2000000 in
theorem s_X8_yearsOf (h : aH) (a0 : Nat) (x1 : Int32) (x2 : Int32) : SO eI 3 kX8_yearsOf [.ref a0, .int x1, .int x2] h (f_X8_yearsOf h a0 x1 x2) := by
  refine so_of (lv0 := [some (.ref a0), some (.int x1), some (.int x2), none]) pn_X8 (Nat.le_of_ble_eq_true rfl) rfl ?_
  unfold f_X8_yearsOf
  refine ao_s (st_iload_n dX8_yearsOf_0 rfl rfl) ?_
  refine ao_br (br_if_ne (tgt := 8) dX8_yearsOf_1 (by decide)) (fun c24 => ?_) (fun c24 => ?_)
  · refine ao_s (st_iload_n dX8_yearsOf_4 rfl rfl) ?_
    refine ao_s (st_goto 14 dX8_yearsOf_5 (by decide)) ?_
    exact ao_w (sb_s (sb_n (sb_n (sb_n sb_0)))) (t_X8_yearsOf_14 h a0 x2)
  · refine ao_s (st_aload_n dX8_yearsOf_8 rfl rfl) ?_
    refine ao_s (st_iconst dX8_yearsOf_9 ic_1) ?_
    refine ao_s (st_iload_n dX8_yearsOf_10 rfl rfl) ?_
    refine ao_chk (fun e21 => ?_)
    refine ao_cVi (Kc := kX8_partnerOf) (As := [.int 1, .int x2]) (st := []) dX8_yearsOf_11 ml_X8_64 mv_X8_partnerOf rfl e21 (by decide) rfl rfl (Nat.le_of_ble_eq_true rfl) (by decide) (s_X8_partnerOf h a0 1 x2) (fun r22 h23 => ?_)
    exact ao_w (sb_s (sb_n (sb_n (sb_n sb_0)))) (t_X8_yearsOf_14 h23 a0 r22)
def f_X8_fact (h : aH) (a0 : Nat) (x1 : Int32) (x2 : Int32) (x3 : Int32) : Option (Int32 × aH) :=
(if x3 = 0 then
(if (sh a0).1 = 15 then
(aBind (f_X8_purseOf h a0 x1 x2) fun r26 h27 =>
some (r26, h27))
else none)
else
(if x3 = 1 then
(if (sh a0).1 = 15 then
(aBind (f_X8_partnerOf h a0 x1 x2) fun r29 h30 =>
some (r29, h30))
else none)
else
(if x3 = 2 then
(if (sh a0).1 = 15 then
(aBind (f_X8_yearsOf h a0 x1 x2) fun r32 h33 =>
some (r32, h33))
else none)
else
(if x3 = 3 then
(if (sh a0).1 = 15 then
(aBind (f_X8_joiningsOf h a0 x1 x2) fun r35 h36 =>
some (r35, h36))
else none)
else
some ((-2), h)))))
set_option maxHeartbeats 2000000 in
theorem s_X8_fact (h : aH) (a0 : Nat) (x1 : Int32) (x2 : Int32) (x3 : Int32) : SO eI 4 kX8_fact [.ref a0, .int x1, .int x2, .int x3] h (f_X8_fact h a0 x1 x2 x3) := by
  refine so_of (lv0 := [some (.ref a0), some (.int x1), some (.int x2), some (.int x3)]) pn_X8 (Nat.le_of_ble_eq_true rfl) rfl ?_
  unfold f_X8_fact
  refine ao_s (st_iload_n dX8_fact_0 rfl rfl) ?_
  refine ao_ite (fun c21 => ?_) (fun c21 => ?_)
  · refine ao_s (st_tabIn (v := 0) (off := 31) (tgt := 32) c21 dX8_fact_1 (by decide) (by decide)) ?_
    refine ao_s (st_aload_n dX8_fact_32 rfl rfl) ?_
    refine ao_s (st_iload_n dX8_fact_33 rfl rfl) ?_
    refine ao_s (st_iload_n dX8_fact_34 rfl rfl) ?_
    refine ao_chk (fun e25 => ?_)
    refine ao_cVi (Kc := kX8_purseOf) (As := [.int x1, .int x2]) (st := []) dX8_fact_35 ml_X8_79 mv_X8_purseOf rfl e25 (by decide) rfl rfl (Nat.le_of_ble_eq_true rfl) (by decide) (s_X8_purseOf h a0 x1 x2) (fun r26 h27 => ?_)
    exact ao_ir dX8_fact_38 rfl rfl
  · refine ao_ite (fun c22 => ?_) (fun c22 => ?_)
    · refine ao_s (st_tabIn (v := 1) (off := 38) (tgt := 39) c22 dX8_fact_1 (by decide) (by decide)) ?_
      refine ao_s (st_aload_n dX8_fact_39 rfl rfl) ?_
      refine ao_s (st_iload_n dX8_fact_40 rfl rfl) ?_
      refine ao_s (st_iload_n dX8_fact_41 rfl rfl) ?_
      refine ao_chk (fun e28 => ?_)
      refine ao_cVi (Kc := kX8_partnerOf) (As := [.int x1, .int x2]) (st := []) dX8_fact_42 ml_X8_64 mv_X8_partnerOf rfl e28 (by decide) rfl rfl (Nat.le_of_ble_eq_true rfl) (by decide) (s_X8_partnerOf h a0 x1 x2) (fun r29 h30 => ?_)
      exact ao_ir dX8_fact_45 rfl rfl
    · refine ao_ite (fun c23 => ?_) (fun c23 => ?_)
      · refine ao_s (st_tabIn (v := 2) (off := 45) (tgt := 46) c23 dX8_fact_1 (by decide) (by decide)) ?_
        refine ao_s (st_aload_n dX8_fact_46 rfl rfl) ?_
        refine ao_s (st_iload_n dX8_fact_47 rfl rfl) ?_
        refine ao_s (st_iload_n dX8_fact_48 rfl rfl) ?_
        refine ao_chk (fun e31 => ?_)
        refine ao_cVi (Kc := kX8_yearsOf) (As := [.int x1, .int x2]) (st := []) dX8_fact_49 ml_X8_82 mv_X8_yearsOf rfl e31 (by decide) rfl rfl (Nat.le_of_ble_eq_true rfl) (by decide) (s_X8_yearsOf h a0 x1 x2) (fun r32 h33 => ?_)
        exact ao_ir dX8_fact_52 rfl rfl
      · refine ao_ite (fun c24 => ?_) (fun c24 => ?_)
        · refine ao_s (st_tabIn (v := 3) (off := 52) (tgt := 53) c24 dX8_fact_1 (by decide) (by decide)) ?_
          refine ao_s (st_aload_n dX8_fact_53 rfl rfl) ?_
          refine ao_s (st_iload_n dX8_fact_54 rfl rfl) ?_
          refine ao_s (st_iload_n dX8_fact_55 rfl rfl) ?_
          refine ao_chk (fun e34 => ?_)
          refine ao_cVi (Kc := kX8_joiningsOf) (As := [.int x1, .int x2]) (st := []) dX8_fact_56 ml_X8_85 mv_X8_joiningsOf rfl e34 (by decide) rfl rfl (Nat.le_of_ble_eq_true rfl) (by decide) (s_X8_joiningsOf h a0 x1 x2) (fun r35 h36 => ?_)
          exact ao_ir dX8_fact_59 rfl rfl
        · refine ao_s (st_tabOut (tgt := 60) dX8_fact_1 (by have q0 := lv_neT c21 (show (0 : Int32).toInt = 0 by decide); have q1 := lv_neT c22 (show (1 : Int32).toInt = 1 by decide); have q2 := lv_neT c23 (show (2 : Int32).toInt = 2 by decide); have q3 := lv_neT c24 (show (3 : Int32).toInt = 3 by decide); omega) (by decide)) ?_
          refine ao_s (st_bipush dX8_fact_60 bp_m2) ?_
          exact ao_ir dX8_fact_62 rfl rfl
def b_X9_append_3 (k3 : aH → Nat → Int32 → Int32 → Option (Unit × aH)) (h : aH) (a0 : Nat) (x1 : Int32) (x2 : Int32) : Option (Unit × aH) :=
(if x2 < 0 then
some ((), h)
else
(if (sh a0).1 = 16 then
(if 400 ≤ hI h a0 1 then
some ((), h)
else
((hR h a0 0).bind fun b22 =>
(aLet (hI h a0 1) fun x23 =>
(if (sh b22).1 = 1 then
(if aIn x23 (sh b22).2 then
(aLet (pI h b22 x23.toNatClampNeg (vp_nar .byte ((x1 >>> (x2 &&& 31)).toInt8.toInt32))) fun h25 =>
(aLet (pI h25 a0 1 ((hI h25 a0 1) + 1)) fun h26 =>
k3 h26 a0 x1 (x2 + (-8))))
else none)
else none))))
else none))
set_option maxHeartbeats 2000000 in
theorem t_X9_append_3 {k3 : aH → Nat → Int32 → Int32 → Option (Unit × aH)} (hk3 : ∀ (h : aH) (a0 : Nat) (x1 : Int32) (x2 : Int32), AO eV 2 kX9_append 3 [some (.ref a0), some (.int x1), some (.int x2)] [] h (k3 h a0 x1 x2)) (h : aH) (a0 : Nat) (x1 : Int32) (x2 : Int32) : AO eV 2 kX9_append 3 [some (.ref a0), some (.int x1), some (.int x2)] [] h (b_X9_append_3 k3 h a0 x1 x2) := by
  unfold b_X9_append_3
  refine ao_s (st_iload_n dX9_append_3 rfl rfl) ?_
  refine ao_br (br_if_lt (tgt := 46) dX9_append_4 (by decide)) (fun c28 => ?_) (fun c28 => ?_)
  · exact ao_vr dX9_append_46 rfl
  · refine ao_s (st_aload_n dX9_append_7 rfl rfl) ?_
    refine ao_chk (fun e21 => ?_)
    refine ao_getI dX9_append_8 fl_X9_15 rfl e21 ?_
    refine ao_s (st_sipush dX9_append_11 sp_400) ?_
    refine ao_br (br_icmp_ge (tgt := 46) dX9_append_14 (by decide)) (fun c27 => ?_) (fun c27 => ?_)
    · exact ao_vr dX9_append_46 rfl
    · refine ao_s (st_aload_n dX9_append_17 rfl rfl) ?_
      refine ao_getR dX9_append_18 fl_X9_9 rfl e21 (fun b22 => ?_)
      refine ao_s (st_aload_n dX9_append_21 rfl rfl) ?_
      refine ao_getI dX9_append_22 fl_X9_15 rfl e21 ?_
      refine ao_s (st_iload_n dX9_append_25 rfl rfl) ?_
      refine ao_s (st_iload_n dX9_append_26 rfl rfl) ?_
      refine ao_s (st_ishr dX9_append_27) ?_
      refine ao_s (st_i2b dX9_append_28) ?_
      refine ao_let2 (fun x23 => ?_)
      refine ao_chk (fun e24 => ?_)
      refine ao_bast dX9_append_29 e24 ?_
      refine ao_letH (fun h25 => ?_)
      refine ao_s (st_aload_n dX9_append_30 rfl rfl) ?_
      refine ao_s (st_dup dX9_append_31 rfl) ?_
      refine ao_getI dX9_append_32 fl_X9_15 rfl e21 ?_
      refine ao_s (st_iconst dX9_append_35 ic_1) ?_
      refine ao_s (st_iadd dX9_append_36) ?_
      refine ao_putI dX9_append_37 fl_X9_15 rfl rfl rfl rfl e21 ?_
      refine ao_letH (fun h26 => ?_)
      refine ao_s (st_iinc (lv' := [some (.ref a0), some (.int x1), some (.int (x2 + (-8)))]) dX9_append_40 rfl nc_m8 (by decide) rfl) ?_
      refine ao_s (st_goto 3 dX9_append_43 (by decide)) ?_
      exact ao_w (sb_s (sb_s (sb_s sb_0))) (hk3 h26 a0 x1 (x2 + (-8)))
def f_X9_append_3 (n : Nat) : aH → Nat → Int32 → Int32 → Option (Unit × aH) := aIt (fun _ _ _ _ => none) (fun k => b_X9_append_3 k) n
theorem l_X9_append_3 (n : Nat) : ∀ (h : aH) (a0 : Nat) (x1 : Int32) (x2 : Int32), AO eV 2 kX9_append 3 [some (.ref a0), some (.int x1), some (.int x2)] [] h (f_X9_append_3 n h a0 x1 x2) := by
  induction n with
  | zero => intros; exact ao_none
  | succ n ih =>
    intro h a0 x1 x2
    exact t_X9_append_3 ih h a0 x1 x2
def f_X9_append (h : aH) (a0 : Nat) (x1 : Int32) : Option (Unit × aH) :=
f_X9_append_3 2000 h a0 x1 24
set_option maxHeartbeats 2000000 in
theorem s_X9_append (h : aH) (a0 : Nat) (x1 : Int32) : SO eV 2 kX9_append [.ref a0, .int x1] h (f_X9_append h a0 x1) := by
  refine so_of (lv0 := [some (.ref a0), some (.int x1), none]) pn_X9 (Nat.le_of_ble_eq_true rfl) rfl ?_
  unfold f_X9_append
  refine ao_s (st_bipush dX9_append_0 bp_24) ?_
  refine ao_s (st_istore_n (lv' := [some (.ref a0), some (.int x1), some (.int 24)]) dX9_append_2 rfl (by decide) rfl) ?_
  exact ao_w (sb_s (sb_s (sb_s sb_0))) (l_X9_append_3 2000 h a0 x1 24)
