def b_X12_joinedOf_33 (k4 : aH → Nat → Int32 → Int32 → Int32 → Option (Int32 × aH)) (h : aH) (a0 : Nat) (x1 : Int32) (x3 : Int32) (s0 : Int32) (s1 : Int32) : Option (Int32 × aH) :=
(aLet (s1 ||| s0) fun x21 =>
k4 h a0 x1 x21 (x3 + 1))
set_option maxHeartbeats 2000000 in
theorem t_X12_joinedOf_33 {k4 : aH → Nat → Int32 → Int32 → Int32 → Option (Int32 × aH)} (hk4 : ∀ (h : aH) (a0 : Nat) (x1 : Int32) (x2 : Int32) (x3 : Int32), AO eI 5 kX12_joinedOf 4 [some (.ref a0), some (.int x1), some (.int x2), some (.int x3)] [] h (k4 h a0 x1 x2 x3)) (h : aH) (a0 : Nat) (x1 : Int32) (x3 : Int32) (s0 : Int32) (s1 : Int32) {z2 : Option Value} : AO eI 5 kX12_joinedOf 33 [some (.ref a0), some (.int x1), z2, some (.int x3)] [.int s0, .int s1] h (b_X12_joinedOf_33 k4 h a0 x1 x3 s0 s1) := by
  unfold b_X12_joinedOf_33
  refine ao_s (st_ior dX12_joinedOf_33) ?_
  refine ao_letI (fun x21 => ?_)
  refine ao_s (st_istore_n (lv' := [some (.ref a0), some (.int x1), some (.int x21), some (.int x3)]) dX12_joinedOf_34 rfl (by decide) rfl) ?_
  refine ao_s (st_iinc (lv' := [some (.ref a0), some (.int x1), some (.int x21), some (.int (x3 + 1))]) dX12_joinedOf_35 rfl nc_1 (by decide) rfl) ?_
  refine ao_s (st_goto 4 dX12_joinedOf_38 (by decide)) ?_
  exact hk4 h a0 x1 x21 (x3 + 1)
def b_X12_joinedOf_4 (k4 : aH → Nat → Int32 → Int32 → Int32 → Option (Int32 × aH)) (h : aH) (a0 : Nat) (x1 : Int32) (x2 : Int32) (x3 : Int32) : Option (Int32 × aH) :=
(if (sh a0).1 = 19 then
((hR h a0 20).bind fun b22 =>
(aLet (3 + x1) fun x23 =>
(if (sh b22).1 = 0 then
(if aIn x23 (sh b22).2 then
(if hI h b22 x23.toNatClampNeg ≤ x3 then
some (x2, h)
else
(aBind (f_X12_isFree h a0 x1 x3) fun r25 h26 =>
(if r25 = 0 then
b_X12_joinedOf_33 k4 h26 a0 x1 x3 (1 <<< (x3 &&& 31)) x2
else
b_X12_joinedOf_33 k4 h26 a0 x1 x3 0 x2)))
else none)
else none)))
else none)
set_option maxHeartbeats 2000000 in
theorem t_X12_joinedOf_4 {k4 : aH → Nat → Int32 → Int32 → Int32 → Option (Int32 × aH)} (hk4 : ∀ (h : aH) (a0 : Nat) (x1 : Int32) (x2 : Int32) (x3 : Int32), AO eI 5 kX12_joinedOf 4 [some (.ref a0), some (.int x1), some (.int x2), some (.int x3)] [] h (k4 h a0 x1 x2 x3)) (h : aH) (a0 : Nat) (x1 : Int32) (x2 : Int32) (x3 : Int32) : AO eI 5 kX12_joinedOf 4 [some (.ref a0), some (.int x1), some (.int x2), some (.int x3)] [] h (b_X12_joinedOf_4 k4 h a0 x1 x2 x3) := by
  unfold b_X12_joinedOf_4
  refine ao_s (st_iload_n dX12_joinedOf_4 rfl rfl) ?_
  refine ao_s (st_aload_n dX12_joinedOf_5 rfl rfl) ?_
  refine ao_chk (fun e21 => ?_)
  refine ao_getR dX12_joinedOf_6 fl_X12_39 rfl e21 (fun b22 => ?_)
  refine ao_s (st_iconst dX12_joinedOf_9 ic_3) ?_
  refine ao_s (st_iload_n dX12_joinedOf_10 rfl rfl) ?_
  refine ao_s (st_iadd dX12_joinedOf_11) ?_
  refine ao_letI (fun x23 => ?_)
  refine ao_chk (fun e24 => ?_)
  refine ao_iald dX12_joinedOf_12 e24 ?_
  refine ao_br (br_icmp_ge (tgt := 41) dX12_joinedOf_13 (by decide)) (fun c28 => ?_) (fun c28 => ?_)
  · refine ao_s (st_iload_n dX12_joinedOf_41 rfl rfl) ?_
    exact ao_ir dX12_joinedOf_42 rfl rfl
  · refine ao_s (st_iload_n dX12_joinedOf_16 rfl rfl) ?_
    refine ao_s (st_aload_n dX12_joinedOf_17 rfl rfl) ?_
    refine ao_s (st_iload_n dX12_joinedOf_18 rfl rfl) ?_
    refine ao_s (st_iload_n dX12_joinedOf_19 rfl rfl) ?_
    refine ao_cVi (As := [.int x1, .int x3]) (st := [.int x2]) dX12_joinedOf_20 ml_X12_318 mv_X12_isFree rfl e21 (by decide) rfl rfl (Nat.le_of_ble_eq_true rfl) (by decide) (s_X12_isFree h a0 x1 x3) (fun r25 h26 => ?_)
    refine ao_br (br_if_eq (tgt := 30) dX12_joinedOf_23 (by decide)) (fun c27 => ?_) (fun c27 => ?_)
    · refine ao_s (st_iconst dX12_joinedOf_30 ic_1) ?_
      refine ao_s (st_iload_n dX12_joinedOf_31 rfl rfl) ?_
      refine ao_s (st_ishl dX12_joinedOf_32) ?_
      exact t_X12_joinedOf_33 hk4 h26 a0 x1 x3 (1 <<< (x3 &&& 31)) x2
    · refine ao_s (st_iconst dX12_joinedOf_26 ic_0) ?_
      refine ao_s (st_goto 33 dX12_joinedOf_27 (by decide)) ?_
      exact t_X12_joinedOf_33 hk4 h26 a0 x1 x3 0 x2
def f_X12_joinedOf_4 (n : Nat) : aH → Nat → Int32 → Int32 → Int32 → Option (Int32 × aH) := aIt (fun _ _ _ _ _ => none) (fun k => b_X12_joinedOf_4 k) n
theorem l_X12_joinedOf_4 (n : Nat) : ∀ (h : aH) (a0 : Nat) (x1 : Int32) (x2 : Int32) (x3 : Int32), AO eI 5 kX12_joinedOf 4 [some (.ref a0), some (.int x1), some (.int x2), some (.int x3)] [] h (f_X12_joinedOf_4 n h a0 x1 x2 x3) := by
  induction n with
  | zero => intros; exact ao_none
  | succ n ih =>
    intro h a0 x1 x2 x3
    exact t_X12_joinedOf_4 ih h a0 x1 x2 x3
def f_X12_joinedOf (h : aH) (a0 : Nat) (x1 : Int32) : Option (Int32 × aH) :=
f_X12_joinedOf_4 2000 h a0 x1 0 0
set_option maxHeartbeats 2000000 in
theorem s_X12_joinedOf (h : aH) (a0 : Nat) (x1 : Int32) : SO eI 5 kX12_joinedOf [.ref a0, .int x1] h (f_X12_joinedOf h a0 x1) := by
  refine so_of (lv0 := [some (.ref a0), some (.int x1), none, none]) pn_X12 (Nat.le_of_ble_eq_true rfl) rfl ?_
  unfold f_X12_joinedOf
  refine ao_s (st_iconst dX12_joinedOf_0 ic_0) ?_
  refine ao_s (st_istore_n (lv' := [some (.ref a0), some (.int x1), some (.int 0), none]) dX12_joinedOf_1 rfl (by decide) rfl) ?_
  refine ao_s (st_iconst dX12_joinedOf_2 ic_0) ?_
  refine ao_s (st_istore_n (lv' := [some (.ref a0), some (.int x1), some (.int 0), some (.int 0)]) dX12_joinedOf_3 rfl (by decide) rfl) ?_
  exact l_X12_joinedOf_4 2000 h a0 x1 0 0
def b_X12_force_16 (h : aH) (a0 : Nat) (x1 : Int32) : Option (Int32 × aH) :=
(if (sh a0).1 = 19 then
(aLet (hI h a0 21) fun x22 =>
(aLet (pI h a0 21 x1) fun h23 =>
some (x22, h23)))
else none)
set_option maxHeartbeats 2000000 in
theorem t_X12_force_16 (h : aH) (a0 : Nat) (x1 : Int32) {z2 : Option Value} : AO eI 3 kX12_force 16 [some (.ref a0), some (.int x1), z2] [] h (b_X12_force_16 h a0 x1) := by
  unfold b_X12_force_16
  refine ao_s (st_aload_n dX12_force_16 rfl rfl) ?_
  refine ao_chk (fun e21 => ?_)
  refine ao_getI dX12_force_17 fl_X12_42 rfl e21 ?_
  refine ao_letI (fun x22 => ?_)
  refine ao_s (st_istore_n (lv' := [some (.ref a0), some (.int x1), some (.int x22)]) dX12_force_20 rfl (by decide) rfl) ?_
  refine ao_s (st_aload_n dX12_force_21 rfl rfl) ?_
  refine ao_s (st_iload_n dX12_force_22 rfl rfl) ?_
  refine ao_putI dX12_force_23 fl_X12_42 rfl rfl rfl rfl e21 ?_
  refine ao_letH (fun h23 => ?_)
  refine ao_s (st_iload_n dX12_force_26 rfl rfl) ?_
  exact ao_ir dX12_force_27 rfl rfl
def f_X12_force (h : aH) (a0 : Nat) (x1 : Int32) : Option (Int32 × aH) :=
(if x1 = (-1) then
b_X12_force_16 h a0 x1
else
(if (sh a0).1 = 19 then
(aBind (f_X12_isRule h a0 x1) fun r22 h23 =>
(if r22 = 0 then
some ((-2), h23)
else
b_X12_force_16 h23 a0 x1))
else none))
set_option maxHeartbeats 2000000 in
theorem s_X12_force (h : aH) (a0 : Nat) (x1 : Int32) : SO eI 3 kX12_force [.ref a0, .int x1] h (f_X12_force h a0 x1) := by
  refine so_of (lv0 := [some (.ref a0), some (.int x1), none]) pn_X12 (Nat.le_of_ble_eq_true rfl) rfl ?_
  unfold f_X12_force
  refine ao_s (st_iload_n dX12_force_0 rfl rfl) ?_
  refine ao_s (st_iconst dX12_force_1 ic_m1) ?_
  refine ao_br (br_icmp_eq (tgt := 16) dX12_force_2 (by decide)) (fun c25 => ?_) (fun c25 => ?_)
  · exact t_X12_force_16 h a0 x1
  · refine ao_s (st_aload_n dX12_force_5 rfl rfl) ?_
    refine ao_s (st_iload_n dX12_force_6 rfl rfl) ?_
    refine ao_chk (fun e21 => ?_)
    refine ao_cVi (As := [.int x1]) (st := []) dX12_force_7 ml_X12_321 mv_X12_isRule rfl e21 (by decide) rfl rfl (Nat.le_of_ble_eq_true rfl) (by decide) (s_X12_isRule h a0 x1) (fun r22 h23 => ?_)
    refine ao_br (br_if_ne (tgt := 16) dX12_force_10 (by decide)) (fun c24 => ?_) (fun c24 => ?_)
    · refine ao_s (st_bipush dX12_force_13 bp_m2) ?_
      exact ao_ir dX12_force_15 rfl rfl
    · exact t_X12_force_16 h23 a0 x1
def f_X12_east (h : aH) (a0 : Nat) (x1 : Int32) (x2 : Int32) : Option (Int32 × aH) :=
(if (sh a0).1 = 19 then
(aBind (f_X12_isEast h a0 x1) fun r22 h23 =>
(if r22 = 0 then
some ((-2), h23)
else
(aBind (f_X12_in h23 x2.toInt64 0 3) fun r24 h25 =>
(if r24 = 0 then
some ((-2), h25)
else
(aBind (f_X12_personOf h25 a0 0 x1 x2) fun r26 h27 =>
some (r26, h27))))))
else none)
set_option maxHeartbeats 2000000 in
theorem s_X12_east (h : aH) (a0 : Nat) (x1 : Int32) (x2 : Int32) : SO eI 4 kX12_east [.ref a0, .int x1, .int x2] h (f_X12_east h a0 x1 x2) := by
  refine so_of (lv0 := [some (.ref a0), some (.int x1), some (.int x2)]) pn_X12 (Nat.le_of_ble_eq_true rfl) rfl ?_
  unfold f_X12_east
  refine ao_s (st_aload_n dX12_east_0 rfl rfl) ?_
  refine ao_s (st_iload_n dX12_east_1 rfl rfl) ?_
  refine ao_chk (fun e21 => ?_)
  refine ao_cVi (As := [.int x1]) (st := []) dX12_east_2 ml_X12_324 mv_X12_isEast rfl e21 (by decide) rfl rfl (Nat.le_of_ble_eq_true rfl) (by decide) (s_X12_isEast h a0 x1) (fun r22 h23 => ?_)
  refine ao_br (br_if_eq (tgt := 30) dX12_east_5 (by decide)) (fun c29 => ?_) (fun c29 => ?_)
  · refine ao_s (st_bipush dX12_east_30 bp_m2) ?_
    exact ao_ir dX12_east_32 rfl rfl
  · refine ao_s (st_iload_n dX12_east_8 rfl rfl) ?_
    refine ao_s (st_i2l dX12_east_9) ?_
    refine ao_s (st_lconst dX12_east_10 lc_0) ?_
    refine ao_s (st_ldc2 dX12_east_11 cl_X12_327) ?_
    refine ao_cSi (As := [.long x2.toInt64, .long 0, .long 3]) (st := []) dX12_east_14 ml_X12_127 ms_X12_in rfl rfl (Nat.le_of_ble_eq_true rfl) (by decide) (s_X12_in h23 x2.toInt64 0 3) (fun r24 h25 => ?_)
    refine ao_br (br_if_eq (tgt := 30) dX12_east_17 (by decide)) (fun c28 => ?_) (fun c28 => ?_)
    · refine ao_s (st_bipush dX12_east_30 bp_m2) ?_
      exact ao_ir dX12_east_32 rfl rfl
    · refine ao_s (st_aload_n dX12_east_20 rfl rfl) ?_
      refine ao_s (st_iconst dX12_east_21 ic_0) ?_
      refine ao_s (st_iload_n dX12_east_22 rfl rfl) ?_
      refine ao_s (st_iload_n dX12_east_23 rfl rfl) ?_
      refine ao_cVi (As := [.int 0, .int x1, .int x2]) (st := []) dX12_east_24 ml_X12_301 mv_X12_personOf rfl e21 (by decide) rfl rfl (Nat.le_of_ble_eq_true rfl) (by decide) (s_X12_personOf h25 a0 0 x1 x2) (fun r26 h27 => ?_)
      refine ao_s (st_goto 32 dX12_east_27 (by decide)) ?_
      exact ao_ir dX12_east_32 rfl rfl
def f_X12_west (h : aH) (a0 : Nat) (x1 : Int32) (x2 : Int32) : Option (Int32 × aH) :=
(if (sh a0).1 = 19 then
(aBind (f_X12_isWest h a0 x1) fun r22 h23 =>
(if r22 = 0 then
some ((-2), h23)
else
(aBind (f_X12_in h23 x2.toInt64 0 3) fun r24 h25 =>
(if r24 = 0 then
some ((-2), h25)
else
(aBind (f_X12_personOf h25 a0 1 x1 x2) fun r26 h27 =>
some (r26, h27))))))
else none)
set_option maxHeartbeats 2000000 in
theorem s_X12_west (h : aH) (a0 : Nat) (x1 : Int32) (x2 : Int32) : SO eI 4 kX12_west [.ref a0, .int x1, .int x2] h (f_X12_west h a0 x1 x2) := by
  refine so_of (lv0 := [some (.ref a0), some (.int x1), some (.int x2)]) pn_X12 (Nat.le_of_ble_eq_true rfl) rfl ?_
  unfold f_X12_west
  refine ao_s (st_aload_n dX12_west_0 rfl rfl) ?_
  refine ao_s (st_iload_n dX12_west_1 rfl rfl) ?_
  refine ao_chk (fun e21 => ?_)
  refine ao_cVi (As := [.int x1]) (st := []) dX12_west_2 ml_X12_329 mv_X12_isWest rfl e21 (by decide) rfl rfl (Nat.le_of_ble_eq_true rfl) (by decide) (s_X12_isWest h a0 x1) (fun r22 h23 => ?_)
  refine ao_br (br_if_eq (tgt := 30) dX12_west_5 (by decide)) (fun c29 => ?_) (fun c29 => ?_)
  · refine ao_s (st_bipush dX12_west_30 bp_m2) ?_
    exact ao_ir dX12_west_32 rfl rfl
  · refine ao_s (st_iload_n dX12_west_8 rfl rfl) ?_
    refine ao_s (st_i2l dX12_west_9) ?_
    refine ao_s (st_lconst dX12_west_10 lc_0) ?_
    refine ao_s (st_ldc2 dX12_west_11 cl_X12_327) ?_
    refine ao_cSi (As := [.long x2.toInt64, .long 0, .long 3]) (st := []) dX12_west_14 ml_X12_127 ms_X12_in rfl rfl (Nat.le_of_ble_eq_true rfl) (by decide) (s_X12_in h23 x2.toInt64 0 3) (fun r24 h25 => ?_)
    refine ao_br (br_if_eq (tgt := 30) dX12_west_17 (by decide)) (fun c28 => ?_) (fun c28 => ?_)
    · refine ao_s (st_bipush dX12_west_30 bp_m2) ?_
      exact ao_ir dX12_west_32 rfl rfl
    · refine ao_s (st_aload_n dX12_west_20 rfl rfl) ?_
      refine ao_s (st_iconst dX12_west_21 ic_1) ?_
      refine ao_s (st_iload_n dX12_west_22 rfl rfl) ?_
      refine ao_s (st_iload_n dX12_west_23 rfl rfl) ?_
      refine ao_cVi (As := [.int 1, .int x1, .int x2]) (st := []) dX12_west_24 ml_X12_301 mv_X12_personOf rfl e21 (by decide) rfl rfl (Nat.le_of_ble_eq_true rfl) (by decide) (s_X12_personOf h25 a0 1 x1 x2) (fun r26 h27 => ?_)
      refine ao_s (st_goto 32 dX12_west_27 (by decide)) ?_
      exact ao_ir dX12_west_32 rfl rfl
def b_X12_likes_46 (h : aH) (x1 : Int32) (x2 : Int32) (x3 : Int32) (s0 : Int32) (s1 : Nat) : Option (Int32 × aH) :=
(aLet (((s0 + (16 * (x3 - x3 / 2 * 2))) + (4 * x1)) + x2) fun x21 =>
(if (sh s1).1 = 0 then
(if aIn x21 (sh s1).2 then
some (hI h s1 x21.toNatClampNeg, h)
else none)
else none))
set_option maxHeartbeats 2000000 in
theorem t_X12_likes_46 (h : aH) (x1 : Int32) (x2 : Int32) (x3 : Int32) (s0 : Int32) (s1 : Nat) {z0 : Option Value} : AO eI 3 kX12_likes 46 [z0, some (.int x1), some (.int x2), some (.int x3)] [.int s0, .ref s1] h (b_X12_likes_46 h x1 x2 x3 s0 s1) := by
  unfold b_X12_likes_46
  refine ao_s (st_bipush dX12_likes_46 bp_16) ?_
  refine ao_s (st_iload_n dX12_likes_48 rfl rfl) ?_
  refine ao_s (st_iconst dX12_likes_49 ic_2) ?_
  refine ao_s (st_irem dX12_likes_50 (by decide)) ?_
  refine ao_s (st_imul dX12_likes_51) ?_
  refine ao_s (st_iadd dX12_likes_52) ?_
  refine ao_s (st_iconst dX12_likes_53 ic_4) ?_
  refine ao_s (st_iload_n dX12_likes_54 rfl rfl) ?_
  refine ao_s (st_imul dX12_likes_55) ?_
  refine ao_s (st_iadd dX12_likes_56) ?_
  refine ao_s (st_iload_n dX12_likes_57 rfl rfl) ?_
  refine ao_s (st_iadd dX12_likes_58) ?_
  refine ao_letI (fun x21 => ?_)
  refine ao_chk (fun e22 => ?_)
  refine ao_iald dX12_likes_59 e22 ?_
  exact ao_ir dX12_likes_60 rfl rfl
def f_X12_likes (h : aH) (a0 : Nat) (x1 : Int32) (x2 : Int32) (x3 : Int32) : Option (Int32 × aH) :=
(if (sh a0).1 = 19 then
(aBind (f_X12_isEast h a0 x1) fun r22 h23 =>
(if r22 = 0 then
some ((-1), h23)
else
(aBind (f_X12_isWest h23 a0 x2) fun r24 h25 =>
(if r24 = 0 then
some ((-1), h25)
else
(aBind (f_X12_in h25 x3.toInt64 0 3) fun r26 h27 =>
(if r26 = 0 then
some ((-1), h27)
else
((hR h27 a0 20).bind fun b28 =>
(if 2 ≤ x3 then
b_X12_likes_46 h27 x1 x2 x3 78 b28
else
b_X12_likes_46 h27 x1 x2 x3 43 b28))))))))
else none)
set_option maxHeartbeats 2000000 in
theorem s_X12_likes (h : aH) (a0 : Nat) (x1 : Int32) (x2 : Int32) (x3 : Int32) : SO eI 3 kX12_likes [.ref a0, .int x1, .int x2, .int x3] h (f_X12_likes h a0 x1 x2 x3) := by
  refine so_of (lv0 := [some (.ref a0), some (.int x1), some (.int x2), some (.int x3)]) pn_X12 (Nat.le_of_ble_eq_true rfl) rfl ?_
  unfold f_X12_likes
  refine ao_s (st_aload_n dX12_likes_0 rfl rfl) ?_
  refine ao_s (st_iload_n dX12_likes_1 rfl rfl) ?_
  refine ao_chk (fun e21 => ?_)
  refine ao_cVi (As := [.int x1]) (st := []) dX12_likes_2 ml_X12_324 mv_X12_isEast rfl e21 (by decide) rfl rfl (Nat.le_of_ble_eq_true rfl) (by decide) (s_X12_isEast h a0 x1) (fun r22 h23 => ?_)
  refine ao_br (br_if_eq (tgt := 28) dX12_likes_5 (by decide)) (fun c32 => ?_) (fun c32 => ?_)
  · refine ao_s (st_iconst dX12_likes_28 ic_m1) ?_
    exact ao_ir dX12_likes_29 rfl rfl
  · refine ao_s (st_aload_n dX12_likes_8 rfl rfl) ?_
    refine ao_s (st_iload_n dX12_likes_9 rfl rfl) ?_
    refine ao_cVi (As := [.int x2]) (st := []) dX12_likes_10 ml_X12_329 mv_X12_isWest rfl e21 (by decide) rfl rfl (Nat.le_of_ble_eq_true rfl) (by decide) (s_X12_isWest h23 a0 x2) (fun r24 h25 => ?_)
    refine ao_br (br_if_eq (tgt := 28) dX12_likes_13 (by decide)) (fun c31 => ?_) (fun c31 => ?_)
    · refine ao_s (st_iconst dX12_likes_28 ic_m1) ?_
      exact ao_ir dX12_likes_29 rfl rfl
    · refine ao_s (st_iload_n dX12_likes_16 rfl rfl) ?_
      refine ao_s (st_i2l dX12_likes_17) ?_
      refine ao_s (st_lconst dX12_likes_18 lc_0) ?_
      refine ao_s (st_ldc2 dX12_likes_19 cl_X12_327) ?_
      refine ao_cSi (As := [.long x3.toInt64, .long 0, .long 3]) (st := []) dX12_likes_22 ml_X12_127 ms_X12_in rfl rfl (Nat.le_of_ble_eq_true rfl) (by decide) (s_X12_in h25 x3.toInt64 0 3) (fun r26 h27 => ?_)
      refine ao_br (br_if_ne (tgt := 30) dX12_likes_25 (by decide)) (fun c30 => ?_) (fun c30 => ?_)
      · refine ao_s (st_iconst dX12_likes_28 ic_m1) ?_
        exact ao_ir dX12_likes_29 rfl rfl
      · refine ao_s (st_aload_n dX12_likes_30 rfl rfl) ?_
        refine ao_getR dX12_likes_31 fl_X12_39 rfl e21 (fun b28 => ?_)
        refine ao_s (st_iload_n dX12_likes_34 rfl rfl) ?_
        refine ao_s (st_iconst dX12_likes_35 ic_2) ?_
        refine ao_br (br_icmp_ge (tgt := 44) dX12_likes_36 (by decide)) (fun c29 => ?_) (fun c29 => ?_)
        · refine ao_s (st_bipush dX12_likes_44 bp_78) ?_
          exact t_X12_likes_46 h27 x1 x2 x3 78 b28
        · refine ao_s (st_bipush dX12_likes_39 bp_43) ?_
          refine ao_s (st_goto 46 dX12_likes_41 (by decide)) ?_
          exact t_X12_likes_46 h27 x1 x2 x3 43 b28
def b_X12_pays_43 (h : aH) (s0 : Int32) (s1 : Int32) (s2 : Nat) : Option (Unit × aH) :=
(if (sh s2).1 = 0 then
(if aIn s1 (sh s2).2 then
(aLet (pI h s2 s1.toNatClampNeg s0) fun h22 =>
some ((), h22))
else none)
else none)
set_option maxHeartbeats 2000000 in
theorem t_X12_pays_43 (h : aH) (s0 : Int32) (s1 : Int32) (s2 : Nat) {z0 : Option Value} {z1 : Option Value} {z2 : Option Value} {z3 : Option Value} : AO eV 2 kX12_pays 43 [z0, z1, z2, z3] [.int s0, .int s1, .ref s2] h (b_X12_pays_43 h s0 s1 s2) := by
  unfold b_X12_pays_43
  refine ao_chk (fun e21 => ?_)
  refine ao_iast dX12_pays_43 e21 ?_
  refine ao_letH (fun h22 => ?_)
  exact ao_vr dX12_pays_44 rfl
def f_X12_pays (h : aH) (a0 : Nat) (x1 : Int32) (x2 : Int32) (x3 : Int32) : Option (Unit × aH) :=
(if (sh a0).1 = 19 then
((hR h a0 20).bind fun b22 =>
(if (sh b22).1 = 0 then
(if aIn x1 (sh b22).2 then
(if aIn x1 (sh b22).2 then
(aLet (pI h b22 x1.toNatClampNeg ((hI h b22 x1.toNatClampNeg) - x3)) fun h24 =>
((hR h24 a0 20).bind fun b25 =>
((hR h24 a0 20).bind fun b26 =>
(if (sh b26).1 = 0 then
(if aIn x2 (sh b26).2 then
(if (hI h24 b26 x2.toNatClampNeg) + x3 ≤ 9999 then
((hR h24 a0 20).bind fun b28 =>
(if (sh b28).1 = 0 then
(if aIn x2 (sh b28).2 then
b_X12_pays_43 h24 ((hI h24 b28 x2.toNatClampNeg) + x3) x2 b25
else none)
else none))
else
b_X12_pays_43 h24 9999 x2 b25)
else none)
else none))))
else none)
else none)
else none))
else none)
set_option maxHeartbeats 2000000 in
theorem s_X12_pays (h : aH) (a0 : Nat) (x1 : Int32) (x2 : Int32) (x3 : Int32) : SO eV 2 kX12_pays [.ref a0, .int x1, .int x2, .int x3] h (f_X12_pays h a0 x1 x2 x3) := by
  refine so_of (lv0 := [some (.ref a0), some (.int x1), some (.int x2), some (.int x3)]) pn_X12 (Nat.le_of_ble_eq_true rfl) rfl ?_
  unfold f_X12_pays
  refine ao_s (st_aload_n dX12_pays_0 rfl rfl) ?_
  refine ao_chk (fun e21 => ?_)
  refine ao_getR dX12_pays_1 fl_X12_39 rfl e21 (fun b22 => ?_)
  refine ao_s (st_iload_n dX12_pays_4 rfl rfl) ?_
  refine ao_s (st_dup2 dX12_pays_5 rfl rfl) ?_
  refine ao_chk (fun e23 => ?_)
  refine ao_iald dX12_pays_6 e23 ?_
  refine ao_s (st_iload_n dX12_pays_7 rfl rfl) ?_
  refine ao_s (st_isub dX12_pays_8) ?_
  refine ao_iast dX12_pays_9 e23 ?_
  refine ao_letH (fun h24 => ?_)
  refine ao_s (st_aload_n dX12_pays_10 rfl rfl) ?_
  refine ao_getR dX12_pays_11 fl_X12_39 rfl e21 (fun b25 => ?_)
  refine ao_s (st_iload_n dX12_pays_14 rfl rfl) ?_
  refine ao_s (st_aload_n dX12_pays_15 rfl rfl) ?_
  refine ao_getR dX12_pays_16 fl_X12_39 rfl e21 (fun b26 => ?_)
  refine ao_s (st_iload_n dX12_pays_19 rfl rfl) ?_
  refine ao_chk (fun e27 => ?_)
  refine ao_iald dX12_pays_20 e27 ?_
  refine ao_s (st_iload_n dX12_pays_21 rfl rfl) ?_
  refine ao_s (st_iadd dX12_pays_22) ?_
  refine ao_s (st_sipush dX12_pays_23 sp_9999) ?_
  refine ao_br (br_icmp_le (tgt := 35) dX12_pays_26 (by decide)) (fun c30 => ?_) (fun c30 => ?_)
  · refine ao_s (st_aload_n dX12_pays_35 rfl rfl) ?_
    refine ao_getR dX12_pays_36 fl_X12_39 rfl e21 (fun b28 => ?_)
    refine ao_s (st_iload_n dX12_pays_39 rfl rfl) ?_
    refine ao_chk (fun e29 => ?_)
    refine ao_iald dX12_pays_40 e29 ?_
    refine ao_s (st_iload_n dX12_pays_41 rfl rfl) ?_
    refine ao_s (st_iadd dX12_pays_42) ?_
    exact t_X12_pays_43 h24 ((hI h24 b28 x2.toNatClampNeg) + x3) x2 b25
  · refine ao_s (st_sipush dX12_pays_29 sp_9999) ?_
    refine ao_s (st_goto 43 dX12_pays_32 (by decide)) ?_
    exact t_X12_pays_43 h24 9999 x2 b25
def b_X12_joins_43 (h : aH) (a0 : Nat) (x1 : Int32) (x2 : Int32) (x3 : Int32) (x4 : Int32) (s0 : Int32) : Option (Int32 × aH) :=
(if (sh a0).1 = 19 then
(aBind (f_X12_pays h a0 x3 x4 s0) fun r22 h23 =>
((hR h23 a0 20).bind fun b24 =>
(aLet (x3 + 1) fun x25 =>
(if (sh b24).1 = 0 then
(if aIn x25 (sh b24).2 then
(aLet (pI h23 b24 x25.toNatClampNeg x2) fun h27 =>
((hR h27 a0 20).bind fun b28 =>
(aLet (x4 + 1) fun x29 =>
(if (sh b28).1 = 0 then
(if aIn x29 (sh b28).2 then
(aLet (pI h27 b28 x29.toNatClampNeg x1) fun h31 =>
((hR h31 a0 20).bind fun b32 =>
(aLet (x3 + 2) fun x33 =>
(if (sh b32).1 = 0 then
(if aIn x33 (sh b32).2 then
(aLet (pI h31 b32 x33.toNatClampNeg 0) fun h35 =>
((hR h35 a0 20).bind fun b36 =>
(aLet (x4 + 2) fun x37 =>
(if (sh b36).1 = 0 then
(if aIn x37 (sh b36).2 then
(aLet (pI h35 b36 x37.toNatClampNeg 0) fun h39 =>
((hR h39 a0 20).bind fun b40 =>
(aLet (x3 + 3) fun x41 =>
(if (sh b40).1 = 0 then
(if aIn x41 (sh b40).2 then
(if aIn x41 (sh b40).2 then
(aLet (pI h39 b40 x41.toNatClampNeg ((hI h39 b40 x41.toNatClampNeg) + 1)) fun h43 =>
((hR h43 a0 20).bind fun b44 =>
(aLet (x4 + 3) fun x45 =>
(if (sh b44).1 = 0 then
(if aIn x45 (sh b44).2 then
(if aIn x45 (sh b44).2 then
(aLet (pI h43 b44 x45.toNatClampNeg ((hI h43 b44 x45.toNatClampNeg) + 1)) fun h47 =>
some (s0, h47))
else none)
else none)
else none))))
else none)
else none)
else none))))
else none)
else none))))
else none)
else none))))
else none)
else none))))
else none)
else none))))
else none)
set_option maxHeartbeats 2000000 in
theorem t_X12_joins_43 (h : aH) (a0 : Nat) (x1 : Int32) (x2 : Int32) (x3 : Int32) (x4 : Int32) (s0 : Int32) {z5 : Option Value} : AO eI 3 kX12_joins 43 [some (.ref a0), some (.int x1), some (.int x2), some (.int x3), some (.int x4), z5] [.int s0] h (b_X12_joins_43 h a0 x1 x2 x3 x4 s0) := by
  unfold b_X12_joins_43
  refine ao_s (st_istore (lv' := [some (.ref a0), some (.int x1), some (.int x2), some (.int x3), some (.int x4), some (.int s0)]) dX12_joins_43 (by decide) rfl) ?_
  refine ao_s (st_aload_n dX12_joins_45 rfl rfl) ?_
  refine ao_s (st_iload_n dX12_joins_46 rfl rfl) ?_
  refine ao_s (st_iload dX12_joins_47 rfl) ?_
  refine ao_s (st_iload dX12_joins_49 rfl) ?_
  refine ao_chk (fun e21 => ?_)
  refine ao_cVv (As := [.int x3, .int x4, .int s0]) (st := []) dX12_joins_51 ml_X12_332 mv_X12_pays rfl e21 (by decide) rfl rfl (Nat.le_of_ble_eq_true rfl) (by decide) (s_X12_pays h a0 x3 x4 s0) (fun r22 h23 => ?_)
  refine ao_s (st_aload_n dX12_joins_54 rfl rfl) ?_
  refine ao_getR dX12_joins_55 fl_X12_39 rfl e21 (fun b24 => ?_)
  refine ao_s (st_iload_n dX12_joins_58 rfl rfl) ?_
  refine ao_s (st_iconst dX12_joins_59 ic_1) ?_
  refine ao_s (st_iadd dX12_joins_60) ?_
  refine ao_s (st_iload_n dX12_joins_61 rfl rfl) ?_
  refine ao_let2 (fun x25 => ?_)
  refine ao_chk (fun e26 => ?_)
  refine ao_iast dX12_joins_62 e26 ?_
  refine ao_letH (fun h27 => ?_)
  refine ao_s (st_aload_n dX12_joins_63 rfl rfl) ?_
  refine ao_getR dX12_joins_64 fl_X12_39 rfl e21 (fun b28 => ?_)
  refine ao_s (st_iload dX12_joins_67 rfl) ?_
  refine ao_s (st_iconst dX12_joins_69 ic_1) ?_
  refine ao_s (st_iadd dX12_joins_70) ?_
  refine ao_s (st_iload_n dX12_joins_71 rfl rfl) ?_
  refine ao_let2 (fun x29 => ?_)
  refine ao_chk (fun e30 => ?_)
  refine ao_iast dX12_joins_72 e30 ?_
  refine ao_letH (fun h31 => ?_)
  refine ao_s (st_aload_n dX12_joins_73 rfl rfl) ?_
  refine ao_getR dX12_joins_74 fl_X12_39 rfl e21 (fun b32 => ?_)
  refine ao_s (st_iload_n dX12_joins_77 rfl rfl) ?_
  refine ao_s (st_iconst dX12_joins_78 ic_2) ?_
  refine ao_s (st_iadd dX12_joins_79) ?_
  refine ao_s (st_iconst dX12_joins_80 ic_0) ?_
  refine ao_let2 (fun x33 => ?_)
  refine ao_chk (fun e34 => ?_)
  refine ao_iast dX12_joins_81 e34 ?_
  refine ao_letH (fun h35 => ?_)
  refine ao_s (st_aload_n dX12_joins_82 rfl rfl) ?_
  refine ao_getR dX12_joins_83 fl_X12_39 rfl e21 (fun b36 => ?_)
  refine ao_s (st_iload dX12_joins_86 rfl) ?_
  refine ao_s (st_iconst dX12_joins_88 ic_2) ?_
  refine ao_s (st_iadd dX12_joins_89) ?_
  refine ao_s (st_iconst dX12_joins_90 ic_0) ?_
  refine ao_let2 (fun x37 => ?_)
  refine ao_chk (fun e38 => ?_)
  refine ao_iast dX12_joins_91 e38 ?_
  refine ao_letH (fun h39 => ?_)
  refine ao_s (st_aload_n dX12_joins_92 rfl rfl) ?_
  refine ao_getR dX12_joins_93 fl_X12_39 rfl e21 (fun b40 => ?_)
  refine ao_s (st_iload_n dX12_joins_96 rfl rfl) ?_
  refine ao_s (st_iconst dX12_joins_97 ic_3) ?_
  refine ao_s (st_iadd dX12_joins_98) ?_
  refine ao_letI (fun x41 => ?_)
  refine ao_s (st_dup2 dX12_joins_99 rfl rfl) ?_
  refine ao_chk (fun e42 => ?_)
  refine ao_iald dX12_joins_100 e42 ?_
  refine ao_s (st_iconst dX12_joins_101 ic_1) ?_
  refine ao_s (st_iadd dX12_joins_102) ?_
  refine ao_iast dX12_joins_103 e42 ?_
  refine ao_letH (fun h43 => ?_)
  refine ao_s (st_aload_n dX12_joins_104 rfl rfl) ?_
  refine ao_getR dX12_joins_105 fl_X12_39 rfl e21 (fun b44 => ?_)
  refine ao_s (st_iload dX12_joins_108 rfl) ?_
  refine ao_s (st_iconst dX12_joins_110 ic_3) ?_
  refine ao_s (st_iadd dX12_joins_111) ?_
  refine ao_letI (fun x45 => ?_)
  refine ao_s (st_dup2 dX12_joins_112 rfl rfl) ?_
  refine ao_chk (fun e46 => ?_)
  refine ao_iald dX12_joins_113 e46 ?_
  refine ao_s (st_iconst dX12_joins_114 ic_1) ?_
  refine ao_s (st_iadd dX12_joins_115) ?_
  refine ao_iast dX12_joins_116 e46 ?_
  refine ao_letH (fun h47 => ?_)
  refine ao_s (st_iload dX12_joins_117 rfl) ?_
  exact ao_ir dX12_joins_119 rfl rfl
def f_X12_joins (h : aH) (a0 : Nat) (x1 : Int32) (x2 : Int32) : Option (Int32 × aH) :=
(aBind (f_X12_placeOf h 0 x1) fun r21 h22 =>
(aBind (f_X12_placeOf h22 1 x2) fun r23 h24 =>
(if (sh a0).1 = 19 then
((hR h24 a0 20).bind fun b26 =>
(if (sh b26).1 = 0 then
(if aIn r21 (sh b26).2 then
((hR h24 a0 20).bind fun b28 =>
(if (sh b28).1 = 0 then
(if aIn 1 (sh b28).2 then
(if hI h24 b28 (1 : Int32).toNatClampNeg ≤ hI h24 b26 r21.toNatClampNeg then
((hR h24 a0 20).bind fun b30 =>
(if (sh b30).1 = 0 then
(if aIn 1 (sh b30).2 then
b_X12_joins_43 h24 a0 x1 x2 r21 r23 (hI h24 b30 (1 : Int32).toNatClampNeg)
else none)
else none))
else
((hR h24 a0 20).bind fun b32 =>
(if (sh b32).1 = 0 then
(if aIn r21 (sh b32).2 then
b_X12_joins_43 h24 a0 x1 x2 r21 r23 (hI h24 b32 r21.toNatClampNeg)
else none)
else none)))
else none)
else none))
else none)
else none))
else none)))
set_option maxHeartbeats 2000000 in
theorem s_X12_joins (h : aH) (a0 : Nat) (x1 : Int32) (x2 : Int32) : SO eI 3 kX12_joins [.ref a0, .int x1, .int x2] h (f_X12_joins h a0 x1 x2) := by
  refine so_of (lv0 := [some (.ref a0), some (.int x1), some (.int x2), none, none, none]) pn_X12 (Nat.le_of_ble_eq_true rfl) rfl ?_
  unfold f_X12_joins
  refine ao_s (st_iconst dX12_joins_0 ic_0) ?_
  refine ao_s (st_iload_n dX12_joins_1 rfl rfl) ?_
  refine ao_cSi (As := [.int 0, .int x1]) (st := []) dX12_joins_2 ml_X12_297 ms_X12_placeOf rfl rfl (Nat.le_of_ble_eq_true rfl) (by decide) (s_X12_placeOf h 0 x1) (fun r21 h22 => ?_)
  refine ao_s (st_istore_n (lv' := [some (.ref a0), some (.int x1), some (.int x2), some (.int r21), none, none]) dX12_joins_5 rfl (by decide) rfl) ?_
  refine ao_s (st_iconst dX12_joins_6 ic_1) ?_
  refine ao_s (st_iload_n dX12_joins_7 rfl rfl) ?_
  refine ao_cSi (As := [.int 1, .int x2]) (st := []) dX12_joins_8 ml_X12_297 ms_X12_placeOf rfl rfl (Nat.le_of_ble_eq_true rfl) (by decide) (s_X12_placeOf h22 1 x2) (fun r23 h24 => ?_)
  refine ao_s (st_istore (lv' := [some (.ref a0), some (.int x1), some (.int x2), some (.int r21), some (.int r23), none]) dX12_joins_11 (by decide) rfl) ?_
  refine ao_s (st_aload_n dX12_joins_13 rfl rfl) ?_
  refine ao_chk (fun e25 => ?_)
  refine ao_getR dX12_joins_14 fl_X12_39 rfl e25 (fun b26 => ?_)
  refine ao_s (st_iload_n dX12_joins_17 rfl rfl) ?_
  refine ao_chk (fun e27 => ?_)
  refine ao_iald dX12_joins_18 e27 ?_
  refine ao_s (st_aload_n dX12_joins_19 rfl rfl) ?_
  refine ao_getR dX12_joins_20 fl_X12_39 rfl e25 (fun b28 => ?_)
  refine ao_s (st_iconst dX12_joins_23 ic_1) ?_
  refine ao_chk (fun e29 => ?_)
  refine ao_iald dX12_joins_24 e29 ?_
  refine ao_br (br_icmp_ge (tgt := 37) dX12_joins_25 (by decide)) (fun c34 => ?_) (fun c34 => ?_)
  · refine ao_s (st_aload_n dX12_joins_37 rfl rfl) ?_
    refine ao_getR dX12_joins_38 fl_X12_39 rfl e25 (fun b30 => ?_)
    refine ao_s (st_iconst dX12_joins_41 ic_1) ?_
    refine ao_chk (fun e31 => ?_)
    refine ao_iald dX12_joins_42 e31 ?_
    exact t_X12_joins_43 h24 a0 x1 x2 r21 r23 (hI h24 b30 (1 : Int32).toNatClampNeg)
  · refine ao_s (st_aload_n dX12_joins_28 rfl rfl) ?_
    refine ao_getR dX12_joins_29 fl_X12_39 rfl e25 (fun b32 => ?_)
    refine ao_s (st_iload_n dX12_joins_32 rfl rfl) ?_
    refine ao_chk (fun e33 => ?_)
    refine ao_iald dX12_joins_33 e33 ?_
    refine ao_s (st_goto 43 dX12_joins_34 (by decide)) ?_
    exact t_X12_joins_43 h24 a0 x1 x2 r21 r23 (hI h24 b32 r21.toNatClampNeg)
def b_X12_partsFrom_53 (h : aH) (a0 : Nat) (x2 : Int32) (x3 : Int32) (s0 : Int32) : Option (Int32 × aH) :=
(if (sh a0).1 = 19 then
(aBind (f_X12_pays h a0 x3 x2 s0) fun r22 h23 =>
((hR h23 a0 20).bind fun b24 =>
(aLet (x2 + 1) fun x25 =>
(if (sh b24).1 = 0 then
(if aIn x25 (sh b24).2 then
(aLet (pI h23 b24 x25.toNatClampNeg (-1)) fun h27 =>
((hR h27 a0 20).bind fun b28 =>
(aLet (x3 + 1) fun x29 =>
(if (sh b28).1 = 0 then
(if aIn x29 (sh b28).2 then
(aLet (pI h27 b28 x29.toNatClampNeg (-1)) fun h31 =>
((hR h31 a0 20).bind fun b32 =>
(aLet (x2 + 2) fun x33 =>
(if (sh b32).1 = 0 then
(if aIn x33 (sh b32).2 then
(aLet (pI h31 b32 x33.toNatClampNeg 0) fun h35 =>
((hR h35 a0 20).bind fun b36 =>
(aLet (x3 + 2) fun x37 =>
(if (sh b36).1 = 0 then
(if aIn x37 (sh b36).2 then
(aLet (pI h35 b36 x37.toNatClampNeg 0) fun h39 =>
some (s0, h39))
else none)
else none))))
else none)
else none))))
else none)
else none))))
else none)
else none))))
else none)
set_option maxHeartbeats 2000000 in
theorem t_X12_partsFrom_53 (h : aH) (a0 : Nat) (x2 : Int32) (x3 : Int32) (s0 : Int32) {z1 : Option Value} {z4 : Option Value} : AO eI 3 kX12_partsFrom 53 [some (.ref a0), z1, some (.int x2), some (.int x3), z4] [.int s0] h (b_X12_partsFrom_53 h a0 x2 x3 s0) := by
  unfold b_X12_partsFrom_53
  refine ao_s (st_istore (lv' := [some (.ref a0), z1, some (.int x2), some (.int x3), some (.int s0)]) dX12_partsFrom_53 (by decide) rfl) ?_
  refine ao_s (st_aload_n dX12_partsFrom_55 rfl rfl) ?_
  refine ao_s (st_iload_n dX12_partsFrom_56 rfl rfl) ?_
  refine ao_s (st_iload_n dX12_partsFrom_57 rfl rfl) ?_
  refine ao_s (st_iload dX12_partsFrom_58 rfl) ?_
  refine ao_chk (fun e21 => ?_)
  refine ao_cVv (As := [.int x3, .int x2, .int s0]) (st := []) dX12_partsFrom_60 ml_X12_332 mv_X12_pays rfl e21 (by decide) rfl rfl (Nat.le_of_ble_eq_true rfl) (by decide) (s_X12_pays h a0 x3 x2 s0) (fun r22 h23 => ?_)
  refine ao_s (st_aload_n dX12_partsFrom_63 rfl rfl) ?_
  refine ao_getR dX12_partsFrom_64 fl_X12_39 rfl e21 (fun b24 => ?_)
  refine ao_s (st_iload_n dX12_partsFrom_67 rfl rfl) ?_
  refine ao_s (st_iconst dX12_partsFrom_68 ic_1) ?_
  refine ao_s (st_iadd dX12_partsFrom_69) ?_
  refine ao_s (st_iconst dX12_partsFrom_70 ic_m1) ?_
  refine ao_let2 (fun x25 => ?_)
  refine ao_chk (fun e26 => ?_)
  refine ao_iast dX12_partsFrom_71 e26 ?_
  refine ao_letH (fun h27 => ?_)
  refine ao_s (st_aload_n dX12_partsFrom_72 rfl rfl) ?_
  refine ao_getR dX12_partsFrom_73 fl_X12_39 rfl e21 (fun b28 => ?_)
  refine ao_s (st_iload_n dX12_partsFrom_76 rfl rfl) ?_
  refine ao_s (st_iconst dX12_partsFrom_77 ic_1) ?_
  refine ao_s (st_iadd dX12_partsFrom_78) ?_
  refine ao_s (st_iconst dX12_partsFrom_79 ic_m1) ?_
  refine ao_let2 (fun x29 => ?_)
  refine ao_chk (fun e30 => ?_)
  refine ao_iast dX12_partsFrom_80 e30 ?_
  refine ao_letH (fun h31 => ?_)
  refine ao_s (st_aload_n dX12_partsFrom_81 rfl rfl) ?_
  refine ao_getR dX12_partsFrom_82 fl_X12_39 rfl e21 (fun b32 => ?_)
  refine ao_s (st_iload_n dX12_partsFrom_85 rfl rfl) ?_
  refine ao_s (st_iconst dX12_partsFrom_86 ic_2) ?_
  refine ao_s (st_iadd dX12_partsFrom_87) ?_
  refine ao_s (st_iconst dX12_partsFrom_88 ic_0) ?_
  refine ao_let2 (fun x33 => ?_)
  refine ao_chk (fun e34 => ?_)
  refine ao_iast dX12_partsFrom_89 e34 ?_
  refine ao_letH (fun h35 => ?_)
  refine ao_s (st_aload_n dX12_partsFrom_90 rfl rfl) ?_
  refine ao_getR dX12_partsFrom_91 fl_X12_39 rfl e21 (fun b36 => ?_)
  refine ao_s (st_iload_n dX12_partsFrom_94 rfl rfl) ?_
  refine ao_s (st_iconst dX12_partsFrom_95 ic_2) ?_
  refine ao_s (st_iadd dX12_partsFrom_96) ?_
  refine ao_s (st_iconst dX12_partsFrom_97 ic_0) ?_
  refine ao_let2 (fun x37 => ?_)
  refine ao_chk (fun e38 => ?_)
  refine ao_iast dX12_partsFrom_98 e38 ?_
  refine ao_letH (fun h39 => ?_)
  refine ao_s (st_iload dX12_partsFrom_99 rfl) ?_
  exact ao_ir dX12_partsFrom_101 rfl rfl
def f_X12_partsFrom (h : aH) (a0 : Nat) (x1 : Int32) : Option (Int32 × aH) :=
(aBind (f_X12_placeOf h 0 x1) fun r21 h22 =>
(if (sh a0).1 = 19 then
((hR h22 a0 20).bind fun b24 =>
(aLet (r21 + 1) fun x25 =>
(if (sh b24).1 = 0 then
(if aIn x25 (sh b24).2 then
(aBind (f_X12_placeOf h22 1 (hI h22 b24 x25.toNatClampNeg)) fun r27 h28 =>
((hR h28 a0 20).bind fun b29 =>
(if (sh b29).1 = 0 then
(if aIn r27 (sh b29).2 then
((hR h28 a0 20).bind fun b31 =>
(if (sh b31).1 = 0 then
(if aIn 1 (sh b31).2 then
(if (hI h28 b31 (1 : Int32).toNatClampNeg) / 2 ≤ hI h28 b29 r27.toNatClampNeg then
((hR h28 a0 20).bind fun b33 =>
(if (sh b33).1 = 0 then
(if aIn 1 (sh b33).2 then
b_X12_partsFrom_53 h28 a0 r21 r27 ((hI h28 b33 (1 : Int32).toNatClampNeg) / 2)
else none)
else none))
else
((hR h28 a0 20).bind fun b35 =>
(if (sh b35).1 = 0 then
(if aIn r27 (sh b35).2 then
b_X12_partsFrom_53 h28 a0 r21 r27 (hI h28 b35 r27.toNatClampNeg)
else none)
else none)))
else none)
else none))
else none)
else none)))
else none)
else none)))
else none))
set_option maxHeartbeats 2000000 in
theorem s_X12_partsFrom (h : aH) (a0 : Nat) (x1 : Int32) : SO eI 3 kX12_partsFrom [.ref a0, .int x1] h (f_X12_partsFrom h a0 x1) := by
  refine so_of (lv0 := [some (.ref a0), some (.int x1), none, none, none]) pn_X12 (Nat.le_of_ble_eq_true rfl) rfl ?_
  unfold f_X12_partsFrom
  refine ao_s (st_iconst dX12_partsFrom_0 ic_0) ?_
  refine ao_s (st_iload_n dX12_partsFrom_1 rfl rfl) ?_
  refine ao_cSi (As := [.int 0, .int x1]) (st := []) dX12_partsFrom_2 ml_X12_297 ms_X12_placeOf rfl rfl (Nat.le_of_ble_eq_true rfl) (by decide) (s_X12_placeOf h 0 x1) (fun r21 h22 => ?_)
  refine ao_s (st_istore_n (lv' := [some (.ref a0), some (.int x1), some (.int r21), none, none]) dX12_partsFrom_5 rfl (by decide) rfl) ?_
  refine ao_s (st_iconst dX12_partsFrom_6 ic_1) ?_
  refine ao_s (st_aload_n dX12_partsFrom_7 rfl rfl) ?_
  refine ao_chk (fun e23 => ?_)
  refine ao_getR dX12_partsFrom_8 fl_X12_39 rfl e23 (fun b24 => ?_)
  refine ao_s (st_iload_n dX12_partsFrom_11 rfl rfl) ?_
  refine ao_s (st_iconst dX12_partsFrom_12 ic_1) ?_
  refine ao_s (st_iadd dX12_partsFrom_13) ?_
  refine ao_letI (fun x25 => ?_)
  refine ao_chk (fun e26 => ?_)
  refine ao_iald dX12_partsFrom_14 e26 ?_
  refine ao_cSi (As := [.int 1, .int (hI h22 b24 x25.toNatClampNeg)]) (st := []) dX12_partsFrom_15 ml_X12_297 ms_X12_placeOf rfl rfl (Nat.le_of_ble_eq_true rfl) (by decide) (s_X12_placeOf h22 1 (hI h22 b24 x25.toNatClampNeg)) (fun r27 h28 => ?_)
  refine ao_s (st_istore_n (lv' := [some (.ref a0), some (.int x1), some (.int r21), some (.int r27), none]) dX12_partsFrom_18 rfl (by decide) rfl) ?_
  refine ao_s (st_aload_n dX12_partsFrom_19 rfl rfl) ?_
  refine ao_getR dX12_partsFrom_20 fl_X12_39 rfl e23 (fun b29 => ?_)
  refine ao_s (st_iload_n dX12_partsFrom_23 rfl rfl) ?_
  refine ao_chk (fun e30 => ?_)
  refine ao_iald dX12_partsFrom_24 e30 ?_
  refine ao_s (st_aload_n dX12_partsFrom_25 rfl rfl) ?_
  refine ao_getR dX12_partsFrom_26 fl_X12_39 rfl e23 (fun b31 => ?_)
  refine ao_s (st_iconst dX12_partsFrom_29 ic_1) ?_
  refine ao_chk (fun e32 => ?_)
  refine ao_iald dX12_partsFrom_30 e32 ?_
  refine ao_s (st_iconst dX12_partsFrom_31 ic_2) ?_
  refine ao_s (st_idiv dX12_partsFrom_32 (by decide)) ?_
  refine ao_br (br_icmp_ge (tgt := 45) dX12_partsFrom_33 (by decide)) (fun c37 => ?_) (fun c37 => ?_)
  · refine ao_s (st_aload_n dX12_partsFrom_45 rfl rfl) ?_
    refine ao_getR dX12_partsFrom_46 fl_X12_39 rfl e23 (fun b33 => ?_)
    refine ao_s (st_iconst dX12_partsFrom_49 ic_1) ?_
    refine ao_chk (fun e34 => ?_)
    refine ao_iald dX12_partsFrom_50 e34 ?_
    refine ao_s (st_iconst dX12_partsFrom_51 ic_2) ?_
    refine ao_s (st_idiv dX12_partsFrom_52 (by decide)) ?_
    exact t_X12_partsFrom_53 h28 a0 r21 r27 ((hI h28 b33 (1 : Int32).toNatClampNeg) / 2)
  · refine ao_s (st_aload_n dX12_partsFrom_36 rfl rfl) ?_
    refine ao_getR dX12_partsFrom_37 fl_X12_39 rfl e23 (fun b35 => ?_)
    refine ao_s (st_iload_n dX12_partsFrom_40 rfl rfl) ?_
    refine ao_chk (fun e36 => ?_)
    refine ao_iald dX12_partsFrom_41 e36 ?_
    refine ao_s (st_goto 53 dX12_partsFrom_42 (by decide)) ?_
    exact t_X12_partsFrom_53 h28 a0 r21 r27 (hI h28 b35 r27.toNatClampNeg)
