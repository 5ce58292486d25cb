def b_X12_passes_100 (k42 : aH → Nat → Int32 → Option (Int32 × aH)) (h : aH) (a0 : Nat) (x2 : Int32) : Option (Int32 × aH) :=
k42 h a0 (x2 + 1)
set_option maxHeartbeats 2000000 in
theorem t_X12_passes_100 {k42 : aH → Nat → Int32 → Option (Int32 × aH)} (hk42 : ∀ (h : aH) (a0 : Nat) (x2 : Int32), AO eI 7 kX12_passes 42 [some (.ref a0), none, some (.int x2), none, none] [] h (k42 h a0 x2)) (h : aH) (a0 : Nat) (x2 : Int32) : AO eI 7 kX12_passes 100 [some (.ref a0), none, some (.int x2), none, none] [] h (b_X12_passes_100 k42 h a0 x2) := by
  unfold b_X12_passes_100
  refine ao_s (st_iinc (lv' := [some (.ref a0), none, some (.int (x2 + 1)), none, none]) dX12_passes_100 rfl nc_1 (by decide) rfl) ?_
  refine ao_s (st_goto 42 dX12_passes_103 (by decide)) ?_
  exact ao_w (sb_s (sb_n (sb_s (sb_n (sb_n sb_0))))) (hk42 h a0 (x2 + 1))
def b_X12_passes_94 (k42 : aH → Nat → Int32 → Option (Int32 × aH)) (h : aH) (a0 : Nat) (x2 : Int32) : Option (Int32 × aH) :=
(if (sh a0).1 = 19 then
(aBind (f_X12_partsFrom h a0 x2) fun r22 h23 =>
b_X12_passes_100 k42 h23 a0 x2)
else none)
set_option maxHeartbeats 2000000 in
theorem t_X12_passes_94 {k42 : aH → Nat → Int32 → Option (Int32 × aH)} (hk42 : ∀ (h : aH) (a0 : Nat) (x2 : Int32), AO eI 7 kX12_passes 42 [some (.ref a0), none, some (.int x2), none, none] [] h (k42 h a0 x2)) (h : aH) (a0 : Nat) (x2 : Int32) : AO eI 7 kX12_passes 94 [some (.ref a0), none, some (.int x2), none, none] [] h (b_X12_passes_94 k42 h a0 x2) := by
  unfold b_X12_passes_94
  refine ao_s (st_aload_n dX12_passes_94 rfl rfl) ?_
  refine ao_s (st_iload_n dX12_passes_95 rfl rfl) ?_
  refine ao_chk (fun e21 => ?_)
  refine ao_cVi (Kc := kX12_partsFrom) (As := [.int x2]) (st := []) dX12_passes_96 ml_X12_359 mv_X12_partsFrom rfl e21 (by decide) rfl rfl (Nat.le_of_ble_eq_true rfl) (by decide) (s_X12_partsFrom h a0 x2) (fun r22 h23 => ?_)
  refine ao_s (st_pop dX12_passes_99 rfl) ?_
  exact ao_w (sb_s (sb_n (sb_s (sb_n (sb_n sb_0))))) (t_X12_passes_100 hk42 h23 a0 x2)
def b_X12_passes_113 (k113 : aH → Nat → Int32 → Int32 → Option (Int32 × aH)) (h : aH) (a0 : Nat) (x1 : Int32) (x2 : Int32) : Option (Int32 × aH) :=
(if (sh a0).1 = 19 then
((hR h a0 20).bind fun b22 =>
(if (sh b22).1 = 0 then
(if aIn 3 (sh b22).2 then
(if hI h b22 (3 : Int32).toNatClampNeg ≤ x2 then
((hR h a0 20).bind fun b24 =>
(if (sh b24).1 = 0 then
(if aIn 10 (sh b24).2 then
(if aIn 10 (sh b24).2 then
(aLet (pI h b24 (10 : Int32).toNatClampNeg ((hI h b24 (10 : Int32).toNatClampNeg) + 1)) fun h26 =>
some (x1, h26))
else none)
else none)
else none))
else
(aBind (f_X12_learns h a0 x2) fun r27 h28 =>
k113 h28 a0 x1 (x2 + 1)))
else none)
else none))
else none)
set_option maxHeartbeats 2000000 in
theorem t_X12_passes_113 {k113 : aH → Nat → Int32 → Int32 → Option (Int32 × aH)} (hk113 : ∀ (h : aH) (a0 : Nat) (x1 : Int32) (x2 : Int32), AO eI 7 kX12_passes 113 [some (.ref a0), some (.int x1), some (.int x2), none, none] [] h (k113 h a0 x1 x2)) (h : aH) (a0 : Nat) (x1 : Int32) (x2 : Int32) : AO eI 7 kX12_passes 113 [some (.ref a0), some (.int x1), some (.int x2), none, none] [] h (b_X12_passes_113 k113 h a0 x1 x2) := by
  unfold b_X12_passes_113
  refine ao_s (st_iload_n dX12_passes_113 rfl rfl) ?_
  refine ao_s (st_aload_n dX12_passes_114 rfl rfl) ?_
  refine ao_chk (fun e21 => ?_)
  refine ao_getR dX12_passes_115 fl_X12_39 rfl e21 (fun b22 => ?_)
  refine ao_s (st_iconst dX12_passes_118 ic_3) ?_
  refine ao_chk (fun e23 => ?_)
  refine ao_iald dX12_passes_119 e23 ?_
  refine ao_br (br_icmp_ge (tgt := 134) dX12_passes_120 (by decide)) (fun c29 => ?_) (fun c29 => ?_)
  · refine ao_s (st_aload_n dX12_passes_134 rfl rfl) ?_
    refine ao_getR dX12_passes_135 fl_X12_39 rfl e21 (fun b24 => ?_)
    refine ao_s (st_bipush dX12_passes_138 bp_10) ?_
    refine ao_s (st_dup2 dX12_passes_140 rfl rfl) ?_
    refine ao_chk (fun e25 => ?_)
    refine ao_iald dX12_passes_141 e25 ?_
    refine ao_s (st_iconst dX12_passes_142 ic_1) ?_
    refine ao_s (st_iadd dX12_passes_143) ?_
    refine ao_iast dX12_passes_144 e25 ?_
    refine ao_letH (fun h26 => ?_)
    refine ao_s (st_iload_n dX12_passes_145 rfl rfl) ?_
    exact ao_ir dX12_passes_146 rfl rfl
  · refine ao_s (st_aload_n dX12_passes_123 rfl rfl) ?_
    refine ao_s (st_iload_n dX12_passes_124 rfl rfl) ?_
    refine ao_cVv (Kc := kX12_learns) (As := [.int x2]) (st := []) dX12_passes_125 ml_X12_365 mv_X12_learns rfl e21 (by decide) rfl rfl (Nat.le_of_ble_eq_true rfl) (by decide) (s_X12_learns h a0 x2) (fun r27 h28 => ?_)
    refine ao_s (st_iinc (lv' := [some (.ref a0), some (.int x1), some (.int (x2 + 1)), none, none]) dX12_passes_128 rfl nc_1 (by decide) rfl) ?_
    refine ao_s (st_goto 113 dX12_passes_131 (by decide)) ?_
    exact ao_w (sb_s (sb_s (sb_s (sb_n (sb_n sb_0))))) (hk113 h28 a0 x1 (x2 + 1))
def f_X12_passes_113 (n : Nat) : aH → Nat → Int32 → Int32 → Option (Int32 × aH) := aIt (fun _ _ _ _ => none) (fun k => b_X12_passes_113 k) n
theorem l_X12_passes_113 (n : Nat) : ∀ (h : aH) (a0 : Nat) (x1 : Int32) (x2 : Int32), AO eI 7 kX12_passes 113 [some (.ref a0), some (.int x1), some (.int x2), none, none] [] h (f_X12_passes_113 n h a0 x1 x2) := by
  induction n with
  | zero => intros; exact ao_none
  | succ n ih =>
    intro h a0 x1 x2
    exact t_X12_passes_113 ih h a0 x1 x2
def b_X12_passes_111 (h : aH) (a0 : Nat) (x1 : Int32) : Option (Int32 × aH) :=
f_X12_passes_113 2000 h a0 x1 0
set_option maxHeartbeats 2000000 in
theorem t_X12_passes_111 (h : aH) (a0 : Nat) (x1 : Int32) : AO eI 7 kX12_passes 111 [some (.ref a0), some (.int x1), none, none, none] [] h (b_X12_passes_111 h a0 x1) := by
  unfold b_X12_passes_111
  refine ao_s (st_iconst dX12_passes_111 ic_0) ?_
  refine ao_s (st_istore_n (lv' := [some (.ref a0), some (.int x1), some (.int 0), none, none]) dX12_passes_112 rfl (by decide) rfl) ?_
  exact ao_w (sb_s (sb_s (sb_s (sb_n (sb_n sb_0))))) (l_X12_passes_113 2000 h a0 x1 0)
def b_X12_passes_42 (k42 : aH → Nat → Int32 → Option (Int32 × aH)) (h : aH) (a0 : Nat) (x2 : Int32) : Option (Int32 × aH) :=
(if (sh a0).1 = 19 then
((hR h a0 20).bind fun b22 =>
(if (sh b22).1 = 0 then
(if aIn 3 (sh b22).2 then
(if hI h b22 (3 : Int32).toNatClampNeg ≤ x2 then
(aBind (f_X12_joinsAll h a0) fun r24 h25 =>
b_X12_passes_111 h25 a0 r24)
else
(aBind (f_X12_isFree h a0 0 x2) fun r26 h27 =>
(if r26 = 0 then
(aBind (f_X12_stays h27 a0 0 x2) fun r28 h29 =>
(aBind (f_X12_personOf h29 a0 0 x2 1) fun r30 h31 =>
(aBind (f_X12_stays h31 a0 1 r30) fun r32 h33 =>
(if r28 = 0 then
b_X12_passes_94 k42 h33 a0 x2
else
(if r32 = 0 then
b_X12_passes_94 k42 h33 a0 x2
else
b_X12_passes_100 k42 h33 a0 x2)))))
else
b_X12_passes_100 k42 h27 a0 x2)))
else none)
else none))
else none)
set_option maxHeartbeats 2000000 in
theorem t_X12_passes_42 {k42 : aH → Nat → Int32 → Option (Int32 × aH)} (hk42 : ∀ (h : aH) (a0 : Nat) (x2 : Int32), AO eI 7 kX12_passes 42 [some (.ref a0), none, some (.int x2), none, none] [] h (k42 h a0 x2)) (h : aH) (a0 : Nat) (x2 : Int32) : AO eI 7 kX12_passes 42 [some (.ref a0), none, some (.int x2), none, none] [] h (b_X12_passes_42 k42 h a0 x2) := by
  unfold b_X12_passes_42
  refine ao_s (st_iload_n dX12_passes_42 rfl rfl) ?_
  refine ao_s (st_aload_n dX12_passes_43 rfl rfl) ?_
  refine ao_chk (fun e21 => ?_)
  refine ao_getR dX12_passes_44 fl_X12_39 rfl e21 (fun b22 => ?_)
  refine ao_s (st_iconst dX12_passes_47 ic_3) ?_
  refine ao_chk (fun e23 => ?_)
  refine ao_iald dX12_passes_48 e23 ?_
  refine ao_br (br_icmp_ge (tgt := 106) dX12_passes_49 (by decide)) (fun c37 => ?_) (fun c37 => ?_)
  · refine ao_s (st_aload_n dX12_passes_106 rfl rfl) ?_
    refine ao_cVi (Kc := kX12_joinsAll) (As := []) (st := []) dX12_passes_107 ml_X12_362 mv_X12_joinsAll rfl e21 (by decide) rfl rfl (Nat.le_of_ble_eq_true rfl) (by decide) (s_X12_joinsAll h a0) (fun r24 h25 => ?_)
    refine ao_s (st_istore_n (lv' := [some (.ref a0), some (.int r24), some (.int x2), none, none]) dX12_passes_110 rfl (by decide) rfl) ?_
    exact ao_w (sb_s (sb_s (sb_n (sb_n (sb_n sb_0))))) (t_X12_passes_111 h25 a0 r24)
  · refine ao_s (st_aload_n dX12_passes_52 rfl rfl) ?_
    refine ao_s (st_iconst dX12_passes_53 ic_0) ?_
    refine ao_s (st_iload_n dX12_passes_54 rfl rfl) ?_
    refine ao_cVi (Kc := kX12_isFree) (As := [.int 0, .int x2]) (st := []) dX12_passes_55 ml_X12_318 mv_X12_isFree rfl e21 (by decide) rfl rfl (Nat.le_of_ble_eq_true rfl) (by decide) (s_X12_isFree h a0 0 x2) (fun r26 h27 => ?_)
    refine ao_br (br_if_eq (tgt := 64) dX12_passes_58 (by decide)) (fun c36 => ?_) (fun c36 => ?_)
    · refine ao_s (st_aload_n dX12_passes_64 rfl rfl) ?_
      refine ao_s (st_iconst dX12_passes_65 ic_0) ?_
      refine ao_s (st_iload_n dX12_passes_66 rfl rfl) ?_
      refine ao_cVi (Kc := kX12_stays) (As := [.int 0, .int x2]) (st := []) dX12_passes_67 ml_X12_356 mv_X12_stays rfl e21 (by decide) rfl rfl (Nat.le_of_ble_eq_true rfl) (by decide) (s_X12_stays h27 a0 0 x2) (fun r28 h29 => ?_)
      refine ao_s (st_istore_n (lv' := [some (.ref a0), none, some (.int x2), some (.int r28), none]) dX12_passes_70 rfl (by decide) rfl) ?_
      refine ao_s (st_aload_n dX12_passes_71 rfl rfl) ?_
      refine ao_s (st_iconst dX12_passes_72 ic_1) ?_
      refine ao_s (st_aload_n dX12_passes_73 rfl rfl) ?_
      refine ao_s (st_iconst dX12_passes_74 ic_0) ?_
      refine ao_s (st_iload_n dX12_passes_75 rfl rfl) ?_
      refine ao_s (st_iconst dX12_passes_76 ic_1) ?_
      refine ao_cVi (Kc := kX12_personOf) (As := [.int 0, .int x2, .int 1]) (st := [.int 1, .ref a0]) dX12_passes_77 ml_X12_301 mv_X12_personOf rfl e21 (by decide) rfl rfl (Nat.le_of_ble_eq_true rfl) (by decide) (s_X12_personOf h29 a0 0 x2 1) (fun r30 h31 => ?_)
      refine ao_cVi (Kc := kX12_stays) (As := [.int 1, .int r30]) (st := []) dX12_passes_80 ml_X12_356 mv_X12_stays rfl e21 (by decide) rfl rfl (Nat.le_of_ble_eq_true rfl) (by decide) (s_X12_stays h31 a0 1 r30) (fun r32 h33 => ?_)
      refine ao_s (st_istore (lv' := [some (.ref a0), none, some (.int x2), some (.int r28), some (.int r32)]) dX12_passes_83 (by decide) rfl) ?_
      refine ao_s (st_iload_n dX12_passes_85 rfl rfl) ?_
      refine ao_br (br_if_eq (tgt := 94) dX12_passes_86 (by decide)) (fun c35 => ?_) (fun c35 => ?_)
      · exact ao_w (sb_s (sb_n (sb_s (sb_n (sb_n sb_0))))) (t_X12_passes_94 hk42 h33 a0 x2)
      · refine ao_s (st_iload dX12_passes_89 rfl) ?_
        refine ao_br (br_if_ne (tgt := 100) dX12_passes_91 (by decide)) (fun c34 => ?_) (fun c34 => ?_)
        · exact ao_w (sb_s (sb_n (sb_s (sb_n (sb_n sb_0))))) (t_X12_passes_94 hk42 h33 a0 x2)
        · exact ao_w (sb_s (sb_n (sb_s (sb_n (sb_n sb_0))))) (t_X12_passes_100 hk42 h33 a0 x2)
    · refine ao_s (st_goto 100 dX12_passes_61 (by decide)) ?_
      exact ao_w (sb_s (sb_n (sb_s (sb_n (sb_n sb_0))))) (t_X12_passes_100 hk42 h27 a0 x2)
def f_X12_passes_42 (n : Nat) : aH → Nat → Int32 → Option (Int32 × aH) := aIt (fun _ _ _ => none) (fun k => b_X12_passes_42 k) n
theorem l_X12_passes_42 (n : Nat) : ∀ (h : aH) (a0 : Nat) (x2 : Int32), AO eI 7 kX12_passes 42 [some (.ref a0), none, some (.int x2), none, none] [] h (f_X12_passes_42 n h a0 x2) := by
  induction n with
  | zero => intros; exact ao_none
  | succ n ih =>
    intro h a0 x2
    exact t_X12_passes_42 ih h a0 x2
def b_X12_passes_11 (k11 : aH → Nat → Int32 → Option (Int32 × aH)) (h : aH) (a0 : Nat) (x2 : Int32) : Option (Int32 × aH) :=
(if (sh a0).1 = 19 then
((hR h a0 20).bind fun b22 =>
(if (sh b22).1 = 0 then
(if aIn 3 (sh b22).2 then
(if hI h b22 (3 : Int32).toNatClampNeg ≤ x2 then
f_X12_passes_42 2000 h a0 0
else
((hR h a0 24).bind fun b24 =>
(aBind (f_X12_personOf h a0 0 x2 1) fun r25 h26 =>
(if (sh b24).1 = 0 then
(if aIn x2 (sh b24).2 then
(aLet (pI h26 b24 x2.toNatClampNeg r25) fun h28 =>
k11 h28 a0 (x2 + 1))
else none)
else none))))
else none)
else none))
else none)
set_option maxHeartbeats 2000000 in
theorem t_X12_passes_11 {k11 : aH → Nat → Int32 → Option (Int32 × aH)} (hk11 : ∀ (h : aH) (a0 : Nat) (x2 : Int32), AO eI 7 kX12_passes 11 [some (.ref a0), none, some (.int x2), none, none] [] h (k11 h a0 x2)) (h : aH) (a0 : Nat) (x2 : Int32) : AO eI 7 kX12_passes 11 [some (.ref a0), none, some (.int x2), none, none] [] h (b_X12_passes_11 k11 h a0 x2) := by
  unfold b_X12_passes_11
  refine ao_s (st_iload_n dX12_passes_11 rfl rfl) ?_
  refine ao_s (st_aload_n dX12_passes_12 rfl rfl) ?_
  refine ao_chk (fun e21 => ?_)
  refine ao_getR dX12_passes_13 fl_X12_39 rfl e21 (fun b22 => ?_)
  refine ao_s (st_iconst dX12_passes_16 ic_3) ?_
  refine ao_chk (fun e23 => ?_)
  refine ao_iald dX12_passes_17 e23 ?_
  refine ao_br (br_icmp_ge (tgt := 40) dX12_passes_18 (by decide)) (fun c29 => ?_) (fun c29 => ?_)
  · refine ao_s (st_iconst dX12_passes_40 ic_0) ?_
    refine ao_s (st_istore_n (lv' := [some (.ref a0), none, some (.int 0), none, none]) dX12_passes_41 rfl (by decide) rfl) ?_
    exact ao_w (sb_s (sb_n (sb_s (sb_n (sb_n sb_0))))) (l_X12_passes_42 2000 h a0 0)
  · refine ao_s (st_aload_n dX12_passes_21 rfl rfl) ?_
    refine ao_getR dX12_passes_22 fl_X12_46 rfl e21 (fun b24 => ?_)
    refine ao_s (st_iload_n dX12_passes_25 rfl rfl) ?_
    refine ao_s (st_aload_n dX12_passes_26 rfl rfl) ?_
    refine ao_s (st_iconst dX12_passes_27 ic_0) ?_
    refine ao_s (st_iload_n dX12_passes_28 rfl rfl) ?_
    refine ao_s (st_iconst dX12_passes_29 ic_1) ?_
    refine ao_cVi (Kc := kX12_personOf) (As := [.int 0, .int x2, .int 1]) (st := [.int x2, .ref b24]) dX12_passes_30 ml_X12_301 mv_X12_personOf rfl e21 (by decide) rfl rfl (Nat.le_of_ble_eq_true rfl) (by decide) (s_X12_personOf h a0 0 x2 1) (fun r25 h26 => ?_)
    refine ao_chk (fun e27 => ?_)
    refine ao_iast dX12_passes_33 e27 ?_
    refine ao_letH (fun h28 => ?_)
    refine ao_s (st_iinc (lv' := [some (.ref a0), none, some (.int (x2 + 1)), none, none]) dX12_passes_34 rfl nc_1 (by decide) rfl) ?_
    refine ao_s (st_goto 11 dX12_passes_37 (by decide)) ?_
    exact ao_w (sb_s (sb_n (sb_s (sb_n (sb_n sb_0))))) (hk11 h28 a0 (x2 + 1))
def f_X12_passes_11 (n : Nat) : aH → Nat → Int32 → Option (Int32 × aH) := aIt (fun _ _ _ => none) (fun k => b_X12_passes_11 k) n
theorem l_X12_passes_11 (n : Nat) : ∀ (h : aH) (a0 : Nat) (x2 : Int32), AO eI 7 kX12_passes 11 [some (.ref a0), none, some (.int x2), none, none] [] h (f_X12_passes_11 n h a0 x2) := by
  induction n with
  | zero => intros; exact ao_none
  | succ n ih =>
    intro h a0 x2
    exact t_X12_passes_11 ih h a0 x2
def f_X12_passes (h : aH) (a0 : Nat) : Option (Int32 × aH) :=
(if (sh a0).1 = 19 then
(aBind (f_X12_isLateNow h a0) fun r22 h23 =>
(if r22 = 0 then
f_X12_passes_11 2000 h23 a0 0
else
b_X12_passes_111 h23 a0 0))
else none)
set_option maxHeartbeats 2000000 in
theorem s_X12_passes (h : aH) (a0 : Nat) : SO eI 7 kX12_passes [.ref a0] h (f_X12_passes h a0) := by
  refine so_of (lv0 := [some (.ref a0), none, none, none, none]) pn_X12 (Nat.le_of_ble_eq_true rfl) rfl ?_
  unfold f_X12_passes
  refine ao_s (st_iconst dX12_passes_0 ic_0) ?_
  refine ao_s (st_istore_n (lv' := [some (.ref a0), some (.int 0), none, none, none]) dX12_passes_1 rfl (by decide) rfl) ?_
  refine ao_s (st_aload_n dX12_passes_2 rfl rfl) ?_
  refine ao_chk (fun e21 => ?_)
  refine ao_cVi (Kc := kX12_isLateNow) (As := []) (st := []) dX12_passes_3 ml_X12_353 mv_X12_isLateNow rfl e21 (by decide) rfl rfl (Nat.le_of_ble_eq_true rfl) (by decide) (s_X12_isLateNow h a0) (fun r22 h23 => ?_)
  refine ao_br (br_if_ne (tgt := 111) dX12_passes_6 (by decide)) (fun c24 => ?_) (fun c24 => ?_)
  · refine ao_s (st_iconst dX12_passes_9 ic_0) ?_
    refine ao_s (st_istore_n (lv' := [some (.ref a0), some (.int 0), some (.int 0), none, none]) dX12_passes_10 rfl (by decide) rfl) ?_
    exact ao_w (sb_s (sb_n (sb_s (sb_n (sb_n sb_0))))) (l_X12_passes_11 2000 h23 a0 0)
  · exact ao_w (sb_s (sb_s (sb_n (sb_n (sb_n sb_0))))) (t_X12_passes_111 h23 a0 0)
def b_X12_keepsAct_52 (k52 : aH → Nat → Int32 → Option (Unit × aH)) (h : aH) (a0 : Nat) (x1 : Int32) : Option (Unit × aH) :=
(if 68 ≤ x1 then
(if (sh a0).1 = 19 then
(aLet (pI h a0 29 ((hI h a0 29) + 1)) fun h22 =>
some ((), h22))
else none)
else
(if (sh a0).1 = 19 then
((hR h a0 28).bind fun b24 =>
((hR h a0 20).bind fun b25 =>
(aLet (10 + x1) fun x26 =>
(if (sh b25).1 = 0 then
(if aIn x26 (sh b25).2 then
(aLet ((68 * (hI h a0 29)) + x1) fun x28 =>
(if (sh b24).1 = 0 then
(if aIn x28 (sh b24).2 then
(aLet (pI h b24 x28.toNatClampNeg (hI h b25 x26.toNatClampNeg)) fun h30 =>
k52 h30 a0 (x1 + 1))
else none)
else none))
else none)
else none))))
else none))
set_option maxHeartbeats 2000000 in
theorem t_X12_keepsAct_52 {k52 : aH → Nat → Int32 → Option (Unit × aH)} (hk52 : ∀ (h : aH) (a0 : Nat) (x1 : Int32), AO eV 2 kX12_keepsAct 52 [some (.ref a0), some (.int x1)] [] h (k52 h a0 x1)) (h : aH) (a0 : Nat) (x1 : Int32) : AO eV 2 kX12_keepsAct 52 [some (.ref a0), some (.int x1)] [] h (b_X12_keepsAct_52 k52 h a0 x1) := by
  unfold b_X12_keepsAct_52
  refine ao_s (st_iload_n dX12_keepsAct_52 rfl rfl) ?_
  refine ao_s (st_bipush dX12_keepsAct_53 bp_68) ?_
  refine ao_br (br_icmp_ge (tgt := 87) dX12_keepsAct_55 (by decide)) (fun c31 => ?_) (fun c31 => ?_)
  · refine ao_s (st_aload_n dX12_keepsAct_87 rfl rfl) ?_
    refine ao_s (st_dup dX12_keepsAct_88 rfl) ?_
    refine ao_chk (fun e21 => ?_)
    refine ao_getI dX12_keepsAct_89 fl_X12_279 rfl e21 ?_
    refine ao_s (st_iconst dX12_keepsAct_92 ic_1) ?_
    refine ao_s (st_iadd dX12_keepsAct_93) ?_
    refine ao_putI dX12_keepsAct_94 fl_X12_279 rfl rfl rfl rfl e21 ?_
    refine ao_letH (fun h22 => ?_)
    exact ao_vr dX12_keepsAct_97 rfl
  · refine ao_s (st_aload_n dX12_keepsAct_58 rfl rfl) ?_
    refine ao_chk (fun e23 => ?_)
    refine ao_getR dX12_keepsAct_59 fl_X12_59 rfl e23 (fun b24 => ?_)
    refine ao_s (st_bipush dX12_keepsAct_62 bp_68) ?_
    refine ao_s (st_aload_n dX12_keepsAct_64 rfl rfl) ?_
    refine ao_getI dX12_keepsAct_65 fl_X12_279 rfl e23 ?_
    refine ao_s (st_imul dX12_keepsAct_68) ?_
    refine ao_s (st_iload_n dX12_keepsAct_69 rfl rfl) ?_
    refine ao_s (st_iadd dX12_keepsAct_70) ?_
    refine ao_s (st_aload_n dX12_keepsAct_71 rfl rfl) ?_
    refine ao_getR dX12_keepsAct_72 fl_X12_39 rfl e23 (fun b25 => ?_)
    refine ao_s (st_bipush dX12_keepsAct_75 bp_10) ?_
    refine ao_s (st_iload_n dX12_keepsAct_77 rfl rfl) ?_
    refine ao_s (st_iadd dX12_keepsAct_78) ?_
    refine ao_letI (fun x26 => ?_)
    refine ao_chk (fun e27 => ?_)
    refine ao_iald dX12_keepsAct_79 e27 ?_
    refine ao_let2 (fun x28 => ?_)
    refine ao_chk (fun e29 => ?_)
    refine ao_iast dX12_keepsAct_80 e29 ?_
    refine ao_letH (fun h30 => ?_)
    refine ao_s (st_iinc (lv' := [some (.ref a0), some (.int (x1 + 1))]) dX12_keepsAct_81 rfl nc_1 (by decide) rfl) ?_
    refine ao_s (st_goto 52 dX12_keepsAct_84 (by decide)) ?_
    exact ao_w (sb_s (sb_s sb_0)) (hk52 h30 a0 (x1 + 1))
def f_X12_keepsAct_52 (n : Nat) : aH → Nat → Int32 → Option (Unit × aH) := aIt (fun _ _ _ => none) (fun k => b_X12_keepsAct_52 k) n
theorem l_X12_keepsAct_52 (n : Nat) : ∀ (h : aH) (a0 : Nat) (x1 : Int32), AO eV 2 kX12_keepsAct 52 [some (.ref a0), some (.int x1)] [] h (f_X12_keepsAct_52 n h a0 x1) := by
  induction n with
  | zero => intros; exact ao_none
  | succ n ih =>
    intro h a0 x1
    exact t_X12_keepsAct_52 ih h a0 x1
def b_X12_keepsAct_50 (h : aH) (a0 : Nat) : Option (Unit × aH) :=
f_X12_keepsAct_52 2000 h a0 0
set_option maxHeartbeats 2000000 in
theorem t_X12_keepsAct_50 (h : aH) (a0 : Nat) : AO eV 2 kX12_keepsAct 50 [some (.ref a0), none] [] h (b_X12_keepsAct_50 h a0) := by
  unfold b_X12_keepsAct_50
  refine ao_s (st_iconst dX12_keepsAct_50 ic_0) ?_
  refine ao_s (st_istore_n (lv' := [some (.ref a0), some (.int 0)]) dX12_keepsAct_51 rfl (by decide) rfl) ?_
  exact ao_w (sb_s (sb_s sb_0)) (l_X12_keepsAct_52 2000 h a0 0)
def b_X12_keepsAct_12 (k12 : aH → Nat → Int32 → Option (Unit × aH)) (h : aH) (a0 : Nat) (x1 : Int32) : Option (Unit × aH) :=
(if 1360 ≤ x1 then
(if (sh a0).1 = 19 then
(aLet (pI h a0 29 ((hI h a0 29) - 1)) fun h22 =>
b_X12_keepsAct_50 h22 a0)
else none)
else
(if (sh a0).1 = 19 then
((hR h a0 28).bind fun b24 =>
((hR h a0 28).bind fun b25 =>
(if (sh b25).1 = 0 then
(if aIn x1 (sh b25).2 then
(aLet (x1 - 68) fun x27 =>
(if (sh b24).1 = 0 then
(if aIn x27 (sh b24).2 then
(aLet (pI h b24 x27.toNatClampNeg (hI h b25 x1.toNatClampNeg)) fun h29 =>
k12 h29 a0 (x1 + 1))
else none)
else none))
else none)
else none)))
else none))
set_option maxHeartbeats 2000000 in
theorem t_X12_keepsAct_12 {k12 : aH → Nat → Int32 → Option (Unit × aH)} (hk12 : ∀ (h : aH) (a0 : Nat) (x1 : Int32), AO eV 2 kX12_keepsAct 12 [some (.ref a0), some (.int x1)] [] h (k12 h a0 x1)) (h : aH) (a0 : Nat) (x1 : Int32) : AO eV 2 kX12_keepsAct 12 [some (.ref a0), some (.int x1)] [] h (b_X12_keepsAct_12 k12 h a0 x1) := by
  unfold b_X12_keepsAct_12
  refine ao_s (st_iload_n dX12_keepsAct_12 rfl rfl) ?_
  refine ao_s (st_sipush dX12_keepsAct_13 sp_1360) ?_
  refine ao_br (br_icmp_ge (tgt := 40) dX12_keepsAct_16 (by decide)) (fun c30 => ?_) (fun c30 => ?_)
  · refine ao_s (st_aload_n dX12_keepsAct_40 rfl rfl) ?_
    refine ao_s (st_dup dX12_keepsAct_41 rfl) ?_
    refine ao_chk (fun e21 => ?_)
    refine ao_getI dX12_keepsAct_42 fl_X12_279 rfl e21 ?_
    refine ao_s (st_iconst dX12_keepsAct_45 ic_1) ?_
    refine ao_s (st_isub dX12_keepsAct_46) ?_
    refine ao_putI dX12_keepsAct_47 fl_X12_279 rfl rfl rfl rfl e21 ?_
    refine ao_letH (fun h22 => ?_)
    exact ao_w (sb_s (sb_n sb_0)) (t_X12_keepsAct_50 h22 a0)
  · refine ao_s (st_aload_n dX12_keepsAct_19 rfl rfl) ?_
    refine ao_chk (fun e23 => ?_)
    refine ao_getR dX12_keepsAct_20 fl_X12_59 rfl e23 (fun b24 => ?_)
    refine ao_s (st_iload_n dX12_keepsAct_23 rfl rfl) ?_
    refine ao_s (st_bipush dX12_keepsAct_24 bp_68) ?_
    refine ao_s (st_isub dX12_keepsAct_26) ?_
    refine ao_s (st_aload_n dX12_keepsAct_27 rfl rfl) ?_
    refine ao_getR dX12_keepsAct_28 fl_X12_59 rfl e23 (fun b25 => ?_)
    refine ao_s (st_iload_n dX12_keepsAct_31 rfl rfl) ?_
    refine ao_chk (fun e26 => ?_)
    refine ao_iald dX12_keepsAct_32 e26 ?_
    refine ao_let2 (fun x27 => ?_)
    refine ao_chk (fun e28 => ?_)
    refine ao_iast dX12_keepsAct_33 e28 ?_
    refine ao_letH (fun h29 => ?_)
    refine ao_s (st_iinc (lv' := [some (.ref a0), some (.int (x1 + 1))]) dX12_keepsAct_34 rfl nc_1 (by decide) rfl) ?_
    refine ao_s (st_goto 12 dX12_keepsAct_37 (by decide)) ?_
    exact ao_w (sb_s (sb_s sb_0)) (hk12 h29 a0 (x1 + 1))
def f_X12_keepsAct_12 (n : Nat) : aH → Nat → Int32 → Option (Unit × aH) := aIt (fun _ _ _ => none) (fun k => b_X12_keepsAct_12 k) n
theorem l_X12_keepsAct_12 (n : Nat) : ∀ (h : aH) (a0 : Nat) (x1 : Int32), AO eV 2 kX12_keepsAct 12 [some (.ref a0), some (.int x1)] [] h (f_X12_keepsAct_12 n h a0 x1) := by
  induction n with
  | zero => intros; exact ao_none
  | succ n ih =>
    intro h a0 x1
    exact t_X12_keepsAct_12 ih h a0 x1
def f_X12_keepsAct (h : aH) (a0 : Nat) : Option (Unit × aH) :=
(if (sh a0).1 = 19 then
(if hI h a0 29 = 20 then
f_X12_keepsAct_12 2000 h a0 68
else
b_X12_keepsAct_50 h a0)
else none)
set_option maxHeartbeats 2000000 in
theorem s_X12_keepsAct (h : aH) (a0 : Nat) : SO eV 2 kX12_keepsAct [.ref a0] h (f_X12_keepsAct h a0) := by
  refine so_of (lv0 := [some (.ref a0), none]) pn_X12 (Nat.le_of_ble_eq_true rfl) rfl ?_
  unfold f_X12_keepsAct
  refine ao_s (st_aload_n dX12_keepsAct_0 rfl rfl) ?_
  refine ao_chk (fun e21 => ?_)
  refine ao_getI dX12_keepsAct_1 fl_X12_279 rfl e21 ?_
  refine ao_s (st_bipush dX12_keepsAct_4 bp_20) ?_
  refine ao_br (br_icmp_ne (tgt := 50) dX12_keepsAct_6 (by decide)) (fun c22 => ?_) (fun c22 => ?_)
  · refine ao_s (st_bipush dX12_keepsAct_9 bp_68) ?_
    refine ao_s (st_istore_n (lv' := [some (.ref a0), some (.int 68)]) dX12_keepsAct_11 rfl (by decide) rfl) ?_
    exact ao_w (sb_s (sb_s sb_0)) (l_X12_keepsAct_12 2000 h a0 68)
  · exact ao_w (sb_s (sb_n sb_0)) (t_X12_keepsAct_50 h a0)
def b_X12_undo_21 (k21 : aH → Nat → Int32 → Option (Int32 × aH)) (h : aH) (a0 : Nat) (x1 : Int32) : Option (Int32 × aH) :=
(if 68 ≤ x1 then
(if (sh a0).1 = 19 then
some (hI h a0 29, h)
else none)
else
(if (sh a0).1 = 19 then
((hR h a0 20).bind fun b23 =>
((hR h a0 28).bind fun b24 =>
(aLet ((68 * (hI h a0 29)) + x1) fun x25 =>
(if (sh b24).1 = 0 then
(if aIn x25 (sh b24).2 then
(aLet (10 + x1) fun x27 =>
(if (sh b23).1 = 0 then
(if aIn x27 (sh b23).2 then
(aLet (pI h b23 x27.toNatClampNeg (hI h b24 x25.toNatClampNeg)) fun h29 =>
k21 h29 a0 (x1 + 1))
else none)
else none))
else none)
else none))))
else none))
set_option maxHeartbeats 2000000 in
theorem t_X12_undo_21 {k21 : aH → Nat → Int32 → Option (Int32 × aH)} (hk21 : ∀ (h : aH) (a0 : Nat) (x1 : Int32), AO eI 2 kX12_undo 21 [some (.ref a0), some (.int x1)] [] h (k21 h a0 x1)) (h : aH) (a0 : Nat) (x1 : Int32) : AO eI 2 kX12_undo 21 [some (.ref a0), some (.int x1)] [] h (b_X12_undo_21 k21 h a0 x1) := by
  unfold b_X12_undo_21
  refine ao_s (st_iload_n dX12_undo_21 rfl rfl) ?_
  refine ao_s (st_bipush dX12_undo_22 bp_68) ?_
  refine ao_br (br_icmp_ge (tgt := 56) dX12_undo_24 (by decide)) (fun c30 => ?_) (fun c30 => ?_)
  · refine ao_s (st_aload_n dX12_undo_56 rfl rfl) ?_
    refine ao_chk (fun e21 => ?_)
    refine ao_getI dX12_undo_57 fl_X12_279 rfl e21 ?_
    exact ao_ir dX12_undo_60 rfl rfl
  · refine ao_s (st_aload_n dX12_undo_27 rfl rfl) ?_
    refine ao_chk (fun e22 => ?_)
    refine ao_getR dX12_undo_28 fl_X12_39 rfl e22 (fun b23 => ?_)
    refine ao_s (st_bipush dX12_undo_31 bp_10) ?_
    refine ao_s (st_iload_n dX12_undo_33 rfl rfl) ?_
    refine ao_s (st_iadd dX12_undo_34) ?_
    refine ao_s (st_aload_n dX12_undo_35 rfl rfl) ?_
    refine ao_getR dX12_undo_36 fl_X12_59 rfl e22 (fun b24 => ?_)
    refine ao_s (st_bipush dX12_undo_39 bp_68) ?_
    refine ao_s (st_aload_n dX12_undo_41 rfl rfl) ?_
    refine ao_getI dX12_undo_42 fl_X12_279 rfl e22 ?_
    refine ao_s (st_imul dX12_undo_45) ?_
    refine ao_s (st_iload_n dX12_undo_46 rfl rfl) ?_
    refine ao_s (st_iadd dX12_undo_47) ?_
    refine ao_letI (fun x25 => ?_)
    refine ao_chk (fun e26 => ?_)
    refine ao_iald dX12_undo_48 e26 ?_
    refine ao_let2 (fun x27 => ?_)
    refine ao_chk (fun e28 => ?_)
    refine ao_iast dX12_undo_49 e28 ?_
    refine ao_letH (fun h29 => ?_)
    refine ao_s (st_iinc (lv' := [some (.ref a0), some (.int (x1 + 1))]) dX12_undo_50 rfl nc_1 (by decide) rfl) ?_
    refine ao_s (st_goto 21 dX12_undo_53 (by decide)) ?_
    exact ao_w (sb_s (sb_s sb_0)) (hk21 h29 a0 (x1 + 1))
def f_X12_undo_21 (n : Nat) : aH → Nat → Int32 → Option (Int32 × aH) := aIt (fun _ _ _ => none) (fun k => b_X12_undo_21 k) n
theorem l_X12_undo_21 (n : Nat) : ∀ (h : aH) (a0 : Nat) (x1 : Int32), AO eI 2 kX12_undo 21 [some (.ref a0), some (.int x1)] [] h (f_X12_undo_21 n h a0 x1) := by
  induction n with
  | zero => intros; exact ao_none
  | succ n ih =>
    intro h a0 x1
    exact t_X12_undo_21 ih h a0 x1
def f_X12_undo (h : aH) (a0 : Nat) : Option (Int32 × aH) :=
(if (sh a0).1 = 19 then
(if hI h a0 29 = 0 then
some ((-1), h)
else
(aLet (pI h a0 29 ((hI h a0 29) - 1)) fun h22 =>
f_X12_undo_21 2000 h22 a0 0))
else none)
set_option maxHeartbeats 2000000 in
theorem s_X12_undo (h : aH) (a0 : Nat) : SO eI 2 kX12_undo [.ref a0] h (f_X12_undo h a0) := by
  refine so_of (lv0 := [some (.ref a0), none]) pn_X12 (Nat.le_of_ble_eq_true rfl) rfl ?_
  unfold f_X12_undo
  refine ao_s (st_aload_n dX12_undo_0 rfl rfl) ?_
  refine ao_chk (fun e21 => ?_)
  refine ao_getI dX12_undo_1 fl_X12_279 rfl e21 ?_
  refine ao_br (br_if_ne (tgt := 9) dX12_undo_4 (by decide)) (fun c23 => ?_) (fun c23 => ?_)
  · refine ao_s (st_iconst dX12_undo_7 ic_m1) ?_
    exact ao_ir dX12_undo_8 rfl rfl
  · refine ao_s (st_aload_n dX12_undo_9 rfl rfl) ?_
    refine ao_s (st_dup dX12_undo_10 rfl) ?_
    refine ao_getI dX12_undo_11 fl_X12_279 rfl e21 ?_
    refine ao_s (st_iconst dX12_undo_14 ic_1) ?_
    refine ao_s (st_isub dX12_undo_15) ?_
    refine ao_putI dX12_undo_16 fl_X12_279 rfl rfl rfl rfl e21 ?_
    refine ao_letH (fun h22 => ?_)
    refine ao_s (st_iconst dX12_undo_19 ic_0) ?_
    refine ao_s (st_istore_n (lv' := [some (.ref a0), some (.int 0)]) dX12_undo_20 rfl (by decide) rfl) ?_
    exact ao_w (sb_s (sb_s sb_0)) (l_X12_undo_21 2000 h22 a0 0)
def f_X12_fair (h : aH) (a0 : Nat) : Option (Int32 × aH) :=
(if (sh a0).1 = 19 then
(aBind (f_X12_isIsle h a0) fun r22 h23 =>
(if r22 = 0 then
some ((-1), h23)
else
((hR h23 a0 20).bind fun b24 =>
(if (sh b24).1 = 0 then
(if aIn 10 (sh b24).2 then
(if hI h23 b24 (10 : Int32).toNatClampNeg = 999 then
some ((-1), h23)
else
(aBind (f_X12_keepsAct h23 a0) fun r26 h27 =>
(aBind (f_X12_passes h27 a0) fun r28 h29 =>
some (r28, h29))))
else none)
else none))))
else none)
set_option maxHeartbeats 2000000 in
theorem s_X12_fair (h : aH) (a0 : Nat) : SO eI 8 kX12_fair [.ref a0] h (f_X12_fair h a0) := by
  refine so_of (lv0 := [some (.ref a0)]) pn_X12 (Nat.le_of_ble_eq_true rfl) rfl ?_
  unfold f_X12_fair
  refine ao_s (st_aload_n dX12_fair_0 rfl rfl) ?_
  refine ao_chk (fun e21 => ?_)
  refine ao_cVi (Kc := kX12_isIsle) (As := []) (st := []) dX12_fair_1 ml_X12_368 mv_X12_isIsle rfl e21 (by decide) rfl rfl (Nat.le_of_ble_eq_true rfl) (by decide) (s_X12_isIsle h a0) (fun r22 h23 => ?_)
  refine ao_br (br_if_eq (tgt := 20) dX12_fair_4 (by decide)) (fun c31 => ?_) (fun c31 => ?_)
  · refine ao_s (st_iconst dX12_fair_20 ic_m1) ?_
    exact ao_ir dX12_fair_21 rfl rfl
  · refine ao_s (st_aload_n dX12_fair_7 rfl rfl) ?_
    refine ao_getR dX12_fair_8 fl_X12_39 rfl e21 (fun b24 => ?_)
    refine ao_s (st_bipush dX12_fair_11 bp_10) ?_
    refine ao_chk (fun e25 => ?_)
    refine ao_iald dX12_fair_13 e25 ?_
    refine ao_s (st_sipush dX12_fair_14 sp_999) ?_
    refine ao_br (br_icmp_ne (tgt := 22) dX12_fair_17 (by decide)) (fun c30 => ?_) (fun c30 => ?_)
    · refine ao_s (st_iconst dX12_fair_20 ic_m1) ?_
      exact ao_ir dX12_fair_21 rfl rfl
    · refine ao_s (st_aload_n dX12_fair_22 rfl rfl) ?_
      refine ao_cVv (Kc := kX12_keepsAct) (As := []) (st := []) dX12_fair_23 ml_X12_371 mv_X12_keepsAct rfl e21 (by decide) rfl rfl (Nat.le_of_ble_eq_true rfl) (by decide) (s_X12_keepsAct h23 a0) (fun r26 h27 => ?_)
      refine ao_s (st_aload_n dX12_fair_26 rfl rfl) ?_
      refine ao_cVi (Kc := kX12_passes) (As := []) (st := []) dX12_fair_27 ml_X12_374 mv_X12_passes rfl e21 (by decide) rfl rfl (Nat.le_of_ble_eq_true rfl) (by decide) (s_X12_passes h27 a0) (fun r28 h29 => ?_)
      exact ao_ir dX12_fair_30 rfl rfl
def f_X12_canJoin (h : aH) (a0 : Nat) (x1 : Int32) (x2 : Int32) : Option (Int32 × aH) :=
(if (sh a0).1 = 19 then
(aBind (f_X12_isFree h a0 0 x1) fun r22 h23 =>
(if r22 = 0 then
some (0, h23)
else
(aBind (f_X12_isFree h23 a0 1 x2) fun r24 h25 =>
(if r24 = 0 then
some (0, h25)
else
(aBind (f_X12_areFond h25 a0 x1 x2) fun r26 h27 =>
(if r26 = 0 then
some (0, h27)
else
some (1, h27)))))))
else none)
set_option maxHeartbeats 2000000 in
theorem s_X12_canJoin (h : aH) (a0 : Nat) (x1 : Int32) (x2 : Int32) : SO eI 5 kX12_canJoin [.ref a0, .int x1, .int x2] h (f_X12_canJoin h a0 x1 x2) := by
  refine so_of (lv0 := [some (.ref a0), some (.int x1), some (.int x2)]) pn_X12 (Nat.le_of_ble_eq_true rfl) rfl ?_
  unfold f_X12_canJoin
  refine ao_s (st_aload_n dX12_canJoin_0 rfl rfl) ?_
  refine ao_s (st_iconst dX12_canJoin_1 ic_0) ?_
  refine ao_s (st_iload_n dX12_canJoin_2 rfl rfl) ?_
  refine ao_chk (fun e21 => ?_)
  refine ao_cVi (Kc := kX12_isFree) (As := [.int 0, .int x1]) (st := []) dX12_canJoin_3 ml_X12_318 mv_X12_isFree rfl e21 (by decide) rfl rfl (Nat.le_of_ble_eq_true rfl) (by decide) (s_X12_isFree h a0 0 x1) (fun r22 h23 => ?_)
  refine ao_br (br_if_eq (tgt := 31) dX12_canJoin_6 (by decide)) (fun c30 => ?_) (fun c30 => ?_)
  · refine ao_s (st_iconst dX12_canJoin_31 ic_0) ?_
    exact ao_ir dX12_canJoin_32 rfl (by decide)
  · refine ao_s (st_aload_n dX12_canJoin_9 rfl rfl) ?_
    refine ao_s (st_iconst dX12_canJoin_10 ic_1) ?_
    refine ao_s (st_iload_n dX12_canJoin_11 rfl rfl) ?_
    refine ao_cVi (Kc := kX12_isFree) (As := [.int 1, .int x2]) (st := []) dX12_canJoin_12 ml_X12_318 mv_X12_isFree rfl e21 (by decide) rfl rfl (Nat.le_of_ble_eq_true rfl) (by decide) (s_X12_isFree h23 a0 1 x2) (fun r24 h25 => ?_)
    refine ao_br (br_if_eq (tgt := 31) dX12_canJoin_15 (by decide)) (fun c29 => ?_) (fun c29 => ?_)
    · refine ao_s (st_iconst dX12_canJoin_31 ic_0) ?_
      exact ao_ir dX12_canJoin_32 rfl (by decide)
    · refine ao_s (st_aload_n dX12_canJoin_18 rfl rfl) ?_
      refine ao_s (st_iload_n dX12_canJoin_19 rfl rfl) ?_
      refine ao_s (st_iload_n dX12_canJoin_20 rfl rfl) ?_
      refine ao_cVi (Kc := kX12_areFond) (As := [.int x1, .int x2]) (st := []) dX12_canJoin_21 ml_X12_377 mv_X12_areFond rfl e21 (by decide) rfl rfl (Nat.le_of_ble_eq_true rfl) (by decide) (s_X12_areFond h25 a0 x1 x2) (fun r26 h27 => ?_)
      refine ao_br (br_if_eq (tgt := 31) dX12_canJoin_24 (by decide)) (fun c28 => ?_) (fun c28 => ?_)
      · refine ao_s (st_iconst dX12_canJoin_31 ic_0) ?_
        exact ao_ir dX12_canJoin_32 rfl (by decide)
      · refine ao_s (st_iconst dX12_canJoin_27 ic_1) ?_
        refine ao_s (st_goto 32 dX12_canJoin_28 (by decide)) ?_
        exact ao_ir dX12_canJoin_32 rfl (by decide)
def f_X12_join (h : aH) (a0 : Nat) (x1 : Int32) (x2 : Int32) : Option (Int32 × aH) :=
(if (sh a0).1 = 19 then
(aBind (f_X12_isEast h a0 x1) fun r22 h23 =>
(if r22 = 0 then
some ((-1), h23)
else
(aBind (f_X12_isWest h23 a0 x2) fun r24 h25 =>
(if r24 = 0 then
some ((-1), h25)
else
(aBind (f_X12_canJoin h25 a0 x1 x2) fun r26 h27 =>
(if r26 = 0 then
some ((-1), h27)
else
(aBind (f_X12_keepsAct h27 a0) fun r28 h29 =>
(aBind (f_X12_joins h29 a0 x1 x2) fun r30 h31 =>
some (r30, h31)))))))))
else none)
set_option maxHeartbeats 2000000 in
theorem s_X12_join (h : aH) (a0 : Nat) (x1 : Int32) (x2 : Int32) : SO eI 6 kX12_join [.ref a0, .int x1, .int x2] h (f_X12_join h a0 x1 x2) := by
  refine so_of (lv0 := [some (.ref a0), some (.int x1), some (.int x2)]) pn_X12 (Nat.le_of_ble_eq_true rfl) rfl ?_
  unfold f_X12_join
  refine ao_s (st_aload_n dX12_join_0 rfl rfl) ?_
  refine ao_s (st_iload_n dX12_join_1 rfl rfl) ?_
  refine ao_chk (fun e21 => ?_)
  refine ao_cVi (Kc := kX12_isEast) (As := [.int x1]) (st := []) dX12_join_2 ml_X12_324 mv_X12_isEast rfl e21 (by decide) rfl rfl (Nat.le_of_ble_eq_true rfl) (by decide) (s_X12_isEast h a0 x1) (fun r22 h23 => ?_)
  refine ao_br (br_if_eq (tgt := 25) dX12_join_5 (by decide)) (fun c34 => ?_) (fun c34 => ?_)
  · refine ao_s (st_iconst dX12_join_25 ic_m1) ?_
    exact ao_ir dX12_join_26 rfl rfl
  · refine ao_s (st_aload_n dX12_join_8 rfl rfl) ?_
    refine ao_s (st_iload_n dX12_join_9 rfl rfl) ?_
    refine ao_cVi (Kc := kX12_isWest) (As := [.int x2]) (st := []) dX12_join_10 ml_X12_329 mv_X12_isWest rfl e21 (by decide) rfl rfl (Nat.le_of_ble_eq_true rfl) (by decide) (s_X12_isWest h23 a0 x2) (fun r24 h25 => ?_)
    refine ao_br (br_if_eq (tgt := 25) dX12_join_13 (by decide)) (fun c33 => ?_) (fun c33 => ?_)
    · refine ao_s (st_iconst dX12_join_25 ic_m1) ?_
      exact ao_ir dX12_join_26 rfl rfl
    · refine ao_s (st_aload_n dX12_join_16 rfl rfl) ?_
      refine ao_s (st_iload_n dX12_join_17 rfl rfl) ?_
      refine ao_s (st_iload_n dX12_join_18 rfl rfl) ?_
      refine ao_cVi (Kc := kX12_canJoin) (As := [.int x1, .int x2]) (st := []) dX12_join_19 ml_X12_380 mv_X12_canJoin rfl e21 (by decide) rfl rfl (Nat.le_of_ble_eq_true rfl) (by decide) (s_X12_canJoin h25 a0 x1 x2) (fun r26 h27 => ?_)
      refine ao_br (br_if_ne (tgt := 27) dX12_join_22 (by decide)) (fun c32 => ?_) (fun c32 => ?_)
      · refine ao_s (st_iconst dX12_join_25 ic_m1) ?_
        exact ao_ir dX12_join_26 rfl rfl
      · refine ao_s (st_aload_n dX12_join_27 rfl rfl) ?_
        refine ao_cVv (Kc := kX12_keepsAct) (As := []) (st := []) dX12_join_28 ml_X12_371 mv_X12_keepsAct rfl e21 (by decide) rfl rfl (Nat.le_of_ble_eq_true rfl) (by decide) (s_X12_keepsAct h27 a0) (fun r28 h29 => ?_)
        refine ao_s (st_aload_n dX12_join_31 rfl rfl) ?_
        refine ao_s (st_iload_n dX12_join_32 rfl rfl) ?_
        refine ao_s (st_iload_n dX12_join_33 rfl rfl) ?_
        refine ao_cVi (Kc := kX12_joins) (As := [.int x1, .int x2]) (st := []) dX12_join_34 ml_X12_350 mv_X12_joins rfl e21 (by decide) rfl rfl (Nat.le_of_ble_eq_true rfl) (by decide) (s_X12_joins h29 a0 x1 x2) (fun r30 h31 => ?_)
        exact ao_ir dX12_join_37 rfl rfl
def f_X12_part (h : aH) (a0 : Nat) (x1 : Int32) : Option (Int32 × aH) :=
(if (sh a0).1 = 19 then
(aBind (f_X12_isEast h a0 x1) fun r22 h23 =>
(if r22 = 0 then
some ((-1), h23)
else
(aBind (f_X12_isFree h23 a0 0 x1) fun r24 h25 =>
(if r24 = 0 then
(aBind (f_X12_keepsAct h25 a0) fun r26 h27 =>
(aBind (f_X12_partsFrom h27 a0 x1) fun r28 h29 =>
some (r28, h29)))
else
some ((-1), h25)))))
else none)
set_option maxHeartbeats 2000000 in
theorem s_X12_part (h : aH) (a0 : Nat) (x1 : Int32) : SO eI 5 kX12_part [.ref a0, .int x1] h (f_X12_part h a0 x1) := by
  refine so_of (lv0 := [some (.ref a0), some (.int x1)]) pn_X12 (Nat.le_of_ble_eq_true rfl) rfl ?_
  unfold f_X12_part
  refine ao_s (st_aload_n dX12_part_0 rfl rfl) ?_
  refine ao_s (st_iload_n dX12_part_1 rfl rfl) ?_
  refine ao_chk (fun e21 => ?_)
  refine ao_cVi (Kc := kX12_isEast) (As := [.int x1]) (st := []) dX12_part_2 ml_X12_324 mv_X12_isEast rfl e21 (by decide) rfl rfl (Nat.le_of_ble_eq_true rfl) (by decide) (s_X12_isEast h a0 x1) (fun r22 h23 => ?_)
  refine ao_br (br_if_eq (tgt := 17) dX12_part_5 (by decide)) (fun c31 => ?_) (fun c31 => ?_)
  · refine ao_s (st_iconst dX12_part_17 ic_m1) ?_
    exact ao_ir dX12_part_18 rfl rfl
  · refine ao_s (st_aload_n dX12_part_8 rfl rfl) ?_
    refine ao_s (st_iconst dX12_part_9 ic_0) ?_
    refine ao_s (st_iload_n dX12_part_10 rfl rfl) ?_
    refine ao_cVi (Kc := kX12_isFree) (As := [.int 0, .int x1]) (st := []) dX12_part_11 ml_X12_318 mv_X12_isFree rfl e21 (by decide) rfl rfl (Nat.le_of_ble_eq_true rfl) (by decide) (s_X12_isFree h23 a0 0 x1) (fun r24 h25 => ?_)
    refine ao_br (br_if_eq (tgt := 19) dX12_part_14 (by decide)) (fun c30 => ?_) (fun c30 => ?_)
    · refine ao_s (st_aload_n dX12_part_19 rfl rfl) ?_
      refine ao_cVv (Kc := kX12_keepsAct) (As := []) (st := []) dX12_part_20 ml_X12_371 mv_X12_keepsAct rfl e21 (by decide) rfl rfl (Nat.le_of_ble_eq_true rfl) (by decide) (s_X12_keepsAct h25 a0) (fun r26 h27 => ?_)
      refine ao_s (st_aload_n dX12_part_23 rfl rfl) ?_
      refine ao_s (st_iload_n dX12_part_24 rfl rfl) ?_
      refine ao_cVi (Kc := kX12_partsFrom) (As := [.int x1]) (st := []) dX12_part_25 ml_X12_359 mv_X12_partsFrom rfl e21 (by decide) rfl rfl (Nat.le_of_ble_eq_true rfl) (by decide) (s_X12_partsFrom h27 a0 x1) (fun r28 h29 => ?_)
      exact ao_ir dX12_part_28 rfl rfl
    · refine ao_s (st_iconst dX12_part_17 ic_m1) ?_
      exact ao_ir dX12_part_18 rfl rfl
