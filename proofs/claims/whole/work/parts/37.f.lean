def f_X12_isIsle (h : aH) (a0 : Nat) : Option (Int32 × aH) :=
(if (sh a0).1 = 19 then
((hR h a0 20).bind fun b22 =>
(if (sh b22).1 = 0 then
(if aIn 0 (sh b22).2 then
(if hI h b22 (0 : Int32).toNatClampNeg = 1 then
some (1, h)
else
some (0, h))
else none)
else none))
else none)
set_option maxHeartbeats 2000000 in
theorem s_X12_isIsle (h : aH) (a0 : Nat) : SO eI 2 kX12_isIsle [.ref a0] h (f_X12_isIsle h a0) := by
  refine so_of (lv0 := [some (.ref a0)]) pn_X12 (Nat.le_of_ble_eq_true rfl) rfl ?_
  unfold f_X12_isIsle
  refine ao_s (st_aload_n dX12_isIsle_0 rfl rfl) ?_
  refine ao_chk (fun e21 => ?_)
  refine ao_getR dX12_isIsle_1 fl_X12_39 rfl e21 (fun b22 => ?_)
  refine ao_s (st_iconst dX12_isIsle_4 ic_0) ?_
  refine ao_chk (fun e23 => ?_)
  refine ao_iald dX12_isIsle_5 e23 ?_
  refine ao_s (st_iconst dX12_isIsle_6 ic_1) ?_
  refine ao_br (br_icmp_ne (tgt := 14) dX12_isIsle_7 (by decide)) (fun c24 => ?_) (fun c24 => ?_)
  · refine ao_s (st_iconst dX12_isIsle_10 ic_1) ?_
    refine ao_s (st_goto 15 dX12_isIsle_11 (by decide)) ?_
    exact ao_ir dX12_isIsle_15 rfl (by decide)
  · refine ao_s (st_iconst dX12_isIsle_14 ic_0) ?_
    exact ao_ir dX12_isIsle_15 rfl (by decide)
def f_X12_isEast (h : aH) (a0 : Nat) (x1 : Int32) : Option (Int32 × aH) :=
(if x1 < 0 then
some (0, h)
else
(if (sh a0).1 = 19 then
((hR h a0 20).bind fun b22 =>
(if (sh b22).1 = 0 then
(if aIn 3 (sh b22).2 then
(if hI h b22 (3 : Int32).toNatClampNeg ≤ x1 then
some (0, h)
else
some (1, h))
else none)
else none))
else none))
set_option maxHeartbeats 2000000 in
theorem s_X12_isEast (h : aH) (a0 : Nat) (x1 : Int32) : SO eI 2 kX12_isEast [.ref a0, .int x1] h (f_X12_isEast h a0 x1) := by
  refine so_of (lv0 := [some (.ref a0), some (.int x1)]) pn_X12 (Nat.le_of_ble_eq_true rfl) rfl ?_
  unfold f_X12_isEast
  refine ao_s (st_iload_n dX12_isEast_0 rfl rfl) ?_
  refine ao_br (br_if_lt (tgt := 18) dX12_isEast_1 (by decide)) (fun c25 => ?_) (fun c25 => ?_)
  · refine ao_s (st_iconst dX12_isEast_18 ic_0) ?_
    exact ao_ir dX12_isEast_19 rfl (by decide)
  · refine ao_s (st_iload_n dX12_isEast_4 rfl rfl) ?_
    refine ao_s (st_aload_n dX12_isEast_5 rfl rfl) ?_
    refine ao_chk (fun e21 => ?_)
    refine ao_getR dX12_isEast_6 fl_X12_39 rfl e21 (fun b22 => ?_)
    refine ao_s (st_iconst dX12_isEast_9 ic_3) ?_
    refine ao_chk (fun e23 => ?_)
    refine ao_iald dX12_isEast_10 e23 ?_
    refine ao_br (br_icmp_ge (tgt := 18) dX12_isEast_11 (by decide)) (fun c24 => ?_) (fun c24 => ?_)
    · refine ao_s (st_iconst dX12_isEast_18 ic_0) ?_
      exact ao_ir dX12_isEast_19 rfl (by decide)
    · refine ao_s (st_iconst dX12_isEast_14 ic_1) ?_
      refine ao_s (st_goto 19 dX12_isEast_15 (by decide)) ?_
      exact ao_ir dX12_isEast_19 rfl (by decide)
def f_X12_isWest (h : aH) (a0 : Nat) (x1 : Int32) : Option (Int32 × aH) :=
(if x1 < 0 then
some (0, h)
else
(if (sh a0).1 = 19 then
((hR h a0 20).bind fun b22 =>
(if (sh b22).1 = 0 then
(if aIn 4 (sh b22).2 then
(if hI h b22 (4 : Int32).toNatClampNeg ≤ x1 then
some (0, h)
else
some (1, h))
else none)
else none))
else none))
set_option maxHeartbeats 2000000 in
theorem s_X12_isWest (h : aH) (a0 : Nat) (x1 : Int32) : SO eI 2 kX12_isWest [.ref a0, .int x1] h (f_X12_isWest h a0 x1) := by
  refine so_of (lv0 := [some (.ref a0), some (.int x1)]) pn_X12 (Nat.le_of_ble_eq_true rfl) rfl ?_
  unfold f_X12_isWest
  refine ao_s (st_iload_n dX12_isWest_0 rfl rfl) ?_
  refine ao_br (br_if_lt (tgt := 18) dX12_isWest_1 (by decide)) (fun c25 => ?_) (fun c25 => ?_)
  · refine ao_s (st_iconst dX12_isWest_18 ic_0) ?_
    exact ao_ir dX12_isWest_19 rfl (by decide)
  · refine ao_s (st_iload_n dX12_isWest_4 rfl rfl) ?_
    refine ao_s (st_aload_n dX12_isWest_5 rfl rfl) ?_
    refine ao_chk (fun e21 => ?_)
    refine ao_getR dX12_isWest_6 fl_X12_39 rfl e21 (fun b22 => ?_)
    refine ao_s (st_iconst dX12_isWest_9 ic_4) ?_
    refine ao_chk (fun e23 => ?_)
    refine ao_iald dX12_isWest_10 e23 ?_
    refine ao_br (br_icmp_ge (tgt := 18) dX12_isWest_11 (by decide)) (fun c24 => ?_) (fun c24 => ?_)
    · refine ao_s (st_iconst dX12_isWest_18 ic_0) ?_
      exact ao_ir dX12_isWest_19 rfl (by decide)
    · refine ao_s (st_iconst dX12_isWest_14 ic_1) ?_
      refine ao_s (st_goto 19 dX12_isWest_15 (by decide)) ?_
      exact ao_ir dX12_isWest_19 rfl (by decide)
def f_X12_placeOf (h : aH) (x0 : Int32) (x1 : Int32) : Option (Int32 × aH) :=
some ((11 + (16 * x0)) + (4 * x1), h)
set_option maxHeartbeats 2000000 in
theorem s_X12_placeOf (h : aH) (x0 : Int32) (x1 : Int32) : SO eI 2 kX12_placeOf [.int x0, .int x1] h (f_X12_placeOf h x0 x1) := by
  refine so_of (lv0 := [some (.int x0), some (.int x1)]) pn_X12 (Nat.le_of_ble_eq_true rfl) rfl ?_
  unfold f_X12_placeOf
  refine ao_s (st_bipush dX12_placeOf_0 bp_11) ?_
  refine ao_s (st_bipush dX12_placeOf_2 bp_16) ?_
  refine ao_s (st_iload_n dX12_placeOf_4 rfl rfl) ?_
  refine ao_s (st_imul dX12_placeOf_5) ?_
  refine ao_s (st_iadd dX12_placeOf_6) ?_
  refine ao_s (st_iconst dX12_placeOf_7 ic_4) ?_
  refine ao_s (st_iload_n dX12_placeOf_8 rfl rfl) ?_
  refine ao_s (st_imul dX12_placeOf_9) ?_
  refine ao_s (st_iadd dX12_placeOf_10) ?_
  exact ao_ir dX12_placeOf_11 rfl rfl
def f_X12_personOf (h : aH) (a0 : Nat) (x1 : Int32) (x2 : Int32) (x3 : Int32) : Option (Int32 × aH) :=
(if (sh a0).1 = 19 then
((hR h a0 20).bind fun b22 =>
(aBind (f_X12_placeOf h x1 x2) fun r23 h24 =>
(aLet (r23 + x3) fun x25 =>
(if (sh b22).1 = 0 then
(if aIn x25 (sh b22).2 then
some (hI h24 b22 x25.toNatClampNeg, h24)
else none)
else none))))
else none)
set_option maxHeartbeats 2000000 in
theorem s_X12_personOf (h : aH) (a0 : Nat) (x1 : Int32) (x2 : Int32) (x3 : Int32) : SO eI 3 kX12_personOf [.ref a0, .int x1, .int x2, .int x3] h (f_X12_personOf h a0 x1 x2 x3) := by
  refine so_of (lv0 := [some (.ref a0), some (.int x1), some (.int x2), some (.int x3)]) pn_X12 (Nat.le_of_ble_eq_true rfl) rfl ?_
  unfold f_X12_personOf
  refine ao_s (st_aload_n dX12_personOf_0 rfl rfl) ?_
  refine ao_chk (fun e21 => ?_)
  refine ao_getR dX12_personOf_1 fl_X12_39 rfl e21 (fun b22 => ?_)
  refine ao_s (st_iload_n dX12_personOf_4 rfl rfl) ?_
  refine ao_s (st_iload_n dX12_personOf_5 rfl rfl) ?_
  refine ao_cSi (Kc := kX12_placeOf) (As := [.int x1, .int x2]) (st := [.ref b22]) dX12_personOf_6 ml_X12_297 ms_X12_placeOf rfl rfl (Nat.le_of_ble_eq_true rfl) (by decide) (s_X12_placeOf h x1 x2) (fun r23 h24 => ?_)
  refine ao_s (st_iload_n dX12_personOf_9 rfl rfl) ?_
  refine ao_s (st_iadd dX12_personOf_10) ?_
  refine ao_letI (fun x25 => ?_)
  refine ao_chk (fun e26 => ?_)
  refine ao_iald dX12_personOf_11 e26 ?_
  exact ao_ir dX12_personOf_12 rfl rfl
def f_X12_isFree (h : aH) (a0 : Nat) (x1 : Int32) (x2 : Int32) : Option (Int32 × aH) :=
(if (sh a0).1 = 19 then
(aBind (f_X12_personOf h a0 x1 x2 1) fun r22 h23 =>
(if 0 ≤ r22 then
some (0, h23)
else
some (1, h23)))
else none)
set_option maxHeartbeats 2000000 in
theorem s_X12_isFree (h : aH) (a0 : Nat) (x1 : Int32) (x2 : Int32) : SO eI 4 kX12_isFree [.ref a0, .int x1, .int x2] h (f_X12_isFree h a0 x1 x2) := by
  refine so_of (lv0 := [some (.ref a0), some (.int x1), some (.int x2)]) pn_X12 (Nat.le_of_ble_eq_true rfl) rfl ?_
  unfold f_X12_isFree
  refine ao_s (st_aload_n dX12_isFree_0 rfl rfl) ?_
  refine ao_s (st_iload_n dX12_isFree_1 rfl rfl) ?_
  refine ao_s (st_iload_n dX12_isFree_2 rfl rfl) ?_
  refine ao_s (st_iconst dX12_isFree_3 ic_1) ?_
  refine ao_chk (fun e21 => ?_)
  refine ao_cVi (Kc := kX12_personOf) (As := [.int x1, .int x2, .int 1]) (st := []) dX12_isFree_4 ml_X12_301 mv_X12_personOf rfl e21 (by decide) rfl rfl (Nat.le_of_ble_eq_true rfl) (by decide) (s_X12_personOf h a0 x1 x2 1) (fun r22 h23 => ?_)
  refine ao_br (br_if_ge (tgt := 14) dX12_isFree_7 (by decide)) (fun c24 => ?_) (fun c24 => ?_)
  · refine ao_s (st_iconst dX12_isFree_14 ic_0) ?_
    exact ao_ir dX12_isFree_15 rfl (by decide)
  · refine ao_s (st_iconst dX12_isFree_10 ic_1) ?_
    refine ao_s (st_goto 15 dX12_isFree_11 (by decide)) ?_
    exact ao_ir dX12_isFree_15 rfl (by decide)
def f_X12_likesOf (h : aH) (a0 : Nat) (x1 : Int32) (x2 : Int32) (x3 : Int32) : Option (Int32 × aH) :=
(if (sh a0).1 = 19 then
((hR h a0 20).bind fun b22 =>
(if x1 = 0 then
(aLet ((43 + (16 * x1)) + ((4 * x2) + x3)) fun x23 =>
(if (sh b22).1 = 0 then
(if aIn x23 (sh b22).2 then
some (hI h b22 x23.toNatClampNeg, h)
else none)
else none))
else
(aLet ((43 + (16 * x1)) + ((4 * x3) + x2)) fun x25 =>
(if (sh b22).1 = 0 then
(if aIn x25 (sh b22).2 then
some (hI h b22 x25.toNatClampNeg, h)
else none)
else none))))
else none)
set_option maxHeartbeats 2000000 in
theorem s_X12_likesOf (h : aH) (a0 : Nat) (x1 : Int32) (x2 : Int32) (x3 : Int32) : SO eI 2 kX12_likesOf [.ref a0, .int x1, .int x2, .int x3] h (f_X12_likesOf h a0 x1 x2 x3) := by
  refine so_of (lv0 := [some (.ref a0), some (.int x1), some (.int x2), some (.int x3)]) pn_X12 (Nat.le_of_ble_eq_true rfl) rfl ?_
  unfold f_X12_likesOf
  refine ao_s (st_aload_n dX12_likesOf_0 rfl rfl) ?_
  refine ao_chk (fun e21 => ?_)
  refine ao_getR dX12_likesOf_1 fl_X12_39 rfl e21 (fun b22 => ?_)
  refine ao_s (st_bipush dX12_likesOf_4 bp_43) ?_
  refine ao_s (st_bipush dX12_likesOf_6 bp_16) ?_
  refine ao_s (st_iload_n dX12_likesOf_8 rfl rfl) ?_
  refine ao_s (st_imul dX12_likesOf_9) ?_
  refine ao_s (st_iadd dX12_likesOf_10) ?_
  refine ao_s (st_iload_n dX12_likesOf_11 rfl rfl) ?_
  refine ao_br (br_if_ne (tgt := 23) dX12_likesOf_12 (by decide)) (fun c27 => ?_) (fun c27 => ?_)
  · refine ao_s (st_iconst dX12_likesOf_15 ic_4) ?_
    refine ao_s (st_iload_n dX12_likesOf_16 rfl rfl) ?_
    refine ao_s (st_imul dX12_likesOf_17) ?_
    refine ao_s (st_iload_n dX12_likesOf_18 rfl rfl) ?_
    refine ao_s (st_iadd dX12_likesOf_19) ?_
    refine ao_s (st_goto 28 dX12_likesOf_20 (by decide)) ?_
    refine ao_s (st_iadd dX12_likesOf_28) ?_
    refine ao_letI (fun x23 => ?_)
    refine ao_chk (fun e24 => ?_)
    refine ao_iald dX12_likesOf_29 e24 ?_
    exact ao_ir dX12_likesOf_30 rfl rfl
  · refine ao_s (st_iconst dX12_likesOf_23 ic_4) ?_
    refine ao_s (st_iload_n dX12_likesOf_24 rfl rfl) ?_
    refine ao_s (st_imul dX12_likesOf_25) ?_
    refine ao_s (st_iload_n dX12_likesOf_26 rfl rfl) ?_
    refine ao_s (st_iadd dX12_likesOf_27) ?_
    refine ao_s (st_iadd dX12_likesOf_28) ?_
    refine ao_letI (fun x25 => ?_)
    refine ao_chk (fun e26 => ?_)
    refine ao_iald dX12_likesOf_29 e26 ?_
    exact ao_ir dX12_likesOf_30 rfl rfl
def f_X12_areFond (h : aH) (a0 : Nat) (x1 : Int32) (x2 : Int32) : Option (Int32 × aH) :=
(if (sh a0).1 = 19 then
(aBind (f_X12_likesOf h a0 0 x1 x2) fun r22 h23 =>
(if r22 ≤ 0 then
some (0, h23)
else
(aBind (f_X12_likesOf h23 a0 1 x2 x1) fun r24 h25 =>
(if r24 ≤ 0 then
some (0, h25)
else
some (1, h25)))))
else none)
set_option maxHeartbeats 2000000 in
theorem s_X12_areFond (h : aH) (a0 : Nat) (x1 : Int32) (x2 : Int32) : SO eI 3 kX12_areFond [.ref a0, .int x1, .int x2] h (f_X12_areFond h a0 x1 x2) := by
  refine so_of (lv0 := [some (.ref a0), some (.int x1), some (.int x2)]) pn_X12 (Nat.le_of_ble_eq_true rfl) rfl ?_
  unfold f_X12_areFond
  refine ao_s (st_aload_n dX12_areFond_0 rfl rfl) ?_
  refine ao_s (st_iconst dX12_areFond_1 ic_0) ?_
  refine ao_s (st_iload_n dX12_areFond_2 rfl rfl) ?_
  refine ao_s (st_iload_n dX12_areFond_3 rfl rfl) ?_
  refine ao_chk (fun e21 => ?_)
  refine ao_cVi (Kc := kX12_likesOf) (As := [.int 0, .int x1, .int x2]) (st := []) dX12_areFond_4 ml_X12_305 mv_X12_likesOf rfl e21 (by decide) rfl rfl (Nat.le_of_ble_eq_true rfl) (by decide) (s_X12_likesOf h a0 0 x1 x2) (fun r22 h23 => ?_)
  refine ao_br (br_if_le (tgt := 24) dX12_areFond_7 (by decide)) (fun c27 => ?_) (fun c27 => ?_)
  · refine ao_s (st_iconst dX12_areFond_24 ic_0) ?_
    exact ao_ir dX12_areFond_25 rfl (by decide)
  · refine ao_s (st_aload_n dX12_areFond_10 rfl rfl) ?_
    refine ao_s (st_iconst dX12_areFond_11 ic_1) ?_
    refine ao_s (st_iload_n dX12_areFond_12 rfl rfl) ?_
    refine ao_s (st_iload_n dX12_areFond_13 rfl rfl) ?_
    refine ao_cVi (Kc := kX12_likesOf) (As := [.int 1, .int x2, .int x1]) (st := []) dX12_areFond_14 ml_X12_305 mv_X12_likesOf rfl e21 (by decide) rfl rfl (Nat.le_of_ble_eq_true rfl) (by decide) (s_X12_likesOf h23 a0 1 x2 x1) (fun r24 h25 => ?_)
    refine ao_br (br_if_le (tgt := 24) dX12_areFond_17 (by decide)) (fun c26 => ?_) (fun c26 => ?_)
    · refine ao_s (st_iconst dX12_areFond_24 ic_0) ?_
      exact ao_ir dX12_areFond_25 rfl (by decide)
    · refine ao_s (st_iconst dX12_areFond_20 ic_1) ?_
      refine ao_s (st_goto 25 dX12_areFond_21 (by decide)) ?_
      exact ao_ir dX12_areFond_25 rfl (by decide)
def f_X12_isLate (h : aH) (a0 : Nat) (x1 : Int32) : Option (Int32 × aH) :=
(if 60 < x1 then
some (0, h)
else
(if (sh a0).1 = 19 then
((hR h a0 20).bind fun b22 =>
(aLet (75 + (x1 / 21)) fun x23 =>
(if (sh b22).1 = 0 then
(if aIn x23 (sh b22).2 then
(aBind (f_X12_isOf h (hI h b22 x23.toNatClampNeg) (x1 - x1 / 21 * 21)) fun r25 h26 =>
(if r25 = 0 then
some (0, h26)
else
some (1, h26)))
else none)
else none)))
else none))
set_option maxHeartbeats 2000000 in
theorem s_X12_isLate (h : aH) (a0 : Nat) (x1 : Int32) : SO eI 3 kX12_isLate [.ref a0, .int x1] h (f_X12_isLate h a0 x1) := by
  refine so_of (lv0 := [some (.ref a0), some (.int x1)]) pn_X12 (Nat.le_of_ble_eq_true rfl) rfl ?_
  unfold f_X12_isLate
  refine ao_s (st_iload_n dX12_isLate_0 rfl rfl) ?_
  refine ao_s (st_bipush dX12_isLate_1 bp_60) ?_
  refine ao_br (br_icmp_gt (tgt := 32) dX12_isLate_3 (by decide)) (fun c28 => ?_) (fun c28 => ?_)
  · refine ao_s (st_iconst dX12_isLate_32 ic_0) ?_
    exact ao_ir dX12_isLate_33 rfl (by decide)
  · refine ao_s (st_aload_n dX12_isLate_6 rfl rfl) ?_
    refine ao_chk (fun e21 => ?_)
    refine ao_getR dX12_isLate_7 fl_X12_39 rfl e21 (fun b22 => ?_)
    refine ao_s (st_bipush dX12_isLate_10 bp_75) ?_
    refine ao_s (st_iload_n dX12_isLate_12 rfl rfl) ?_
    refine ao_s (st_bipush dX12_isLate_13 bp_21) ?_
    refine ao_s (st_idiv dX12_isLate_15 (by decide)) ?_
    refine ao_s (st_iadd dX12_isLate_16) ?_
    refine ao_letI (fun x23 => ?_)
    refine ao_chk (fun e24 => ?_)
    refine ao_iald dX12_isLate_17 e24 ?_
    refine ao_s (st_iload_n dX12_isLate_18 rfl rfl) ?_
    refine ao_s (st_bipush dX12_isLate_19 bp_21) ?_
    refine ao_s (st_irem dX12_isLate_21 (by decide)) ?_
    refine ao_cSi (Kc := kX12_isOf) (As := [.int (hI h b22 x23.toNatClampNeg), .int (x1 - x1 / 21 * 21)]) (st := []) dX12_isLate_22 ml_X12_308 ms_X12_isOf rfl rfl (Nat.le_of_ble_eq_true rfl) (by decide) (s_X12_isOf h (hI h b22 x23.toNatClampNeg) (x1 - x1 / 21 * 21)) (fun r25 h26 => ?_)
    refine ao_br (br_if_eq (tgt := 32) dX12_isLate_25 (by decide)) (fun c27 => ?_) (fun c27 => ?_)
    · refine ao_s (st_iconst dX12_isLate_32 ic_0) ?_
      exact ao_ir dX12_isLate_33 rfl (by decide)
    · refine ao_s (st_iconst dX12_isLate_28 ic_1) ?_
      refine ao_s (st_goto 33 dX12_isLate_29 (by decide)) ?_
      exact ao_ir dX12_isLate_33 rfl (by decide)
def f_X12_isLateNow (h : aH) (a0 : Nat) : Option (Int32 × aH) :=
(if (sh a0).1 = 19 then
(if hI h a0 23 = 0 then
((hR h a0 20).bind fun b22 =>
(if (sh b22).1 = 0 then
(if aIn 10 (sh b22).2 then
(aBind (f_X12_isLate h a0 (hI h b22 (10 : Int32).toNatClampNeg)) fun r24 h25 =>
(if r24 = 0 then
some (0, h25)
else
some (1, h25)))
else none)
else none))
else
some (1, h))
else none)
set_option maxHeartbeats 2000000 in
theorem s_X12_isLateNow (h : aH) (a0 : Nat) : SO eI 4 kX12_isLateNow [.ref a0] h (f_X12_isLateNow h a0) := by
  refine so_of (lv0 := [some (.ref a0)]) pn_X12 (Nat.le_of_ble_eq_true rfl) rfl ?_
  unfold f_X12_isLateNow
  refine ao_s (st_aload_n dX12_isLateNow_0 rfl rfl) ?_
  refine ao_chk (fun e21 => ?_)
  refine ao_getI dX12_isLateNow_1 fl_X12_311 rfl e21 ?_
  refine ao_br (br_if_ne (tgt := 21) dX12_isLateNow_4 (by decide)) (fun c27 => ?_) (fun c27 => ?_)
  · refine ao_s (st_aload_n dX12_isLateNow_7 rfl rfl) ?_
    refine ao_s (st_aload_n dX12_isLateNow_8 rfl rfl) ?_
    refine ao_getR dX12_isLateNow_9 fl_X12_39 rfl e21 (fun b22 => ?_)
    refine ao_s (st_bipush dX12_isLateNow_12 bp_10) ?_
    refine ao_chk (fun e23 => ?_)
    refine ao_iald dX12_isLateNow_14 e23 ?_
    refine ao_cVi (Kc := kX12_isLate) (As := [.int (hI h b22 (10 : Int32).toNatClampNeg)]) (st := []) dX12_isLateNow_15 ml_X12_315 mv_X12_isLate rfl e21 (by decide) rfl rfl (Nat.le_of_ble_eq_true rfl) (by decide) (s_X12_isLate h a0 (hI h b22 (10 : Int32).toNatClampNeg)) (fun r24 h25 => ?_)
    refine ao_br (br_if_eq (tgt := 25) dX12_isLateNow_18 (by decide)) (fun c26 => ?_) (fun c26 => ?_)
    · refine ao_s (st_iconst dX12_isLateNow_25 ic_0) ?_
      exact ao_ir dX12_isLateNow_26 rfl (by decide)
    · refine ao_s (st_iconst dX12_isLateNow_21 ic_1) ?_
      refine ao_s (st_goto 26 dX12_isLateNow_22 (by decide)) ?_
      exact ao_ir dX12_isLateNow_26 rfl (by decide)
  · refine ao_s (st_iconst dX12_isLateNow_21 ic_1) ?_
    refine ao_s (st_goto 26 dX12_isLateNow_22 (by decide)) ?_
    exact ao_ir dX12_isLateNow_26 rfl (by decide)
def b_X12_joinedOf_33 (k4 : aH → Nat → Int32 → Int32 → Int32 → Option (Int32 × aH)) (h : aH) (a0 : Nat) (x1 : Int32) (x3 : Int32) (s0 : Int32) (s1 : Int32) : Option (Int32 × aH) :=
(aLet (s1 ||| s0) fun x21 =>
k4 h a0 x1 x21 (x3 + 1))
set_option maxHeartbeats 2000000 in
theorem t_X12_joinedOf_33 {k4 : aH → Nat → Int32 → Int32 → Int32 → Option (Int32 × aH)} (hk4 : ∀ (h : aH) (a0 : Nat) (x1 : Int32) (x2 : Int32) (x3 : Int32), AO eI 5 kX12_joinedOf 4 [some (.ref a0), some (.int x1), some (.int x2), some (.int x3)] [] h (k4 h a0 x1 x2 x3)) (h : aH) (a0 : Nat) (x1 : Int32) (x3 : Int32) (s0 : Int32) (s1 : Int32) : AO eI 5 kX12_joinedOf 33 [some (.ref a0), some (.int x1), none, some (.int x3)] [.int s0, .int s1] h (b_X12_joinedOf_33 k4 h a0 x1 x3 s0 s1) := by
  unfold b_X12_joinedOf_33
  refine ao_s (st_ior dX12_joinedOf_33) ?_
  refine ao_letI (fun x21 => ?_)
  refine ao_s (st_istore_n (lv' := [some (.ref a0), some (.int x1), some (.int x21), some (.int x3)]) dX12_joinedOf_34 rfl (by decide) rfl) ?_
  refine ao_s (st_iinc (lv' := [some (.ref a0), some (.int x1), some (.int x21), some (.int (x3 + 1))]) dX12_joinedOf_35 rfl nc_1 (by decide) rfl) ?_
  refine ao_s (st_goto 4 dX12_joinedOf_38 (by decide)) ?_
  exact ao_w (sb_s (sb_s (sb_s (sb_s sb_0)))) (hk4 h a0 x1 x21 (x3 + 1))
def b_X12_joinedOf_4 (k4 : aH → Nat → Int32 → Int32 → Int32 → Option (Int32 × aH)) (h : aH) (a0 : Nat) (x1 : Int32) (x2 : Int32) (x3 : Int32) : Option (Int32 × aH) :=
(if (sh a0).1 = 19 then
((hR h a0 20).bind fun b22 =>
(aLet (3 + x1) fun x23 =>
(if (sh b22).1 = 0 then
(if aIn x23 (sh b22).2 then
(if hI h b22 x23.toNatClampNeg ≤ x3 then
some (x2, h)
else
(aBind (f_X12_isFree h a0 x1 x3) fun r25 h26 =>
(if r25 = 0 then
b_X12_joinedOf_33 k4 h26 a0 x1 x3 (1 <<< (x3 &&& 31)) x2
else
b_X12_joinedOf_33 k4 h26 a0 x1 x3 0 x2)))
else none)
else none)))
else none)
set_option maxHeartbeats 2000000 in
theorem t_X12_joinedOf_4 {k4 : aH → Nat → Int32 → Int32 → Int32 → Option (Int32 × aH)} (hk4 : ∀ (h : aH) (a0 : Nat) (x1 : Int32) (x2 : Int32) (x3 : Int32), AO eI 5 kX12_joinedOf 4 [some (.ref a0), some (.int x1), some (.int x2), some (.int x3)] [] h (k4 h a0 x1 x2 x3)) (h : aH) (a0 : Nat) (x1 : Int32) (x2 : Int32) (x3 : Int32) : AO eI 5 kX12_joinedOf 4 [some (.ref a0), some (.int x1), some (.int x2), some (.int x3)] [] h (b_X12_joinedOf_4 k4 h a0 x1 x2 x3) := by
  unfold b_X12_joinedOf_4
  refine ao_s (st_iload_n dX12_joinedOf_4 rfl rfl) ?_
  refine ao_s (st_aload_n dX12_joinedOf_5 rfl rfl) ?_
  refine ao_chk (fun e21 => ?_)
  refine ao_getR dX12_joinedOf_6 fl_X12_39 rfl e21 (fun b22 => ?_)
  refine ao_s (st_iconst dX12_joinedOf_9 ic_3) ?_
  refine ao_s (st_iload_n dX12_joinedOf_10 rfl rfl) ?_
  refine ao_s (st_iadd dX12_joinedOf_11) ?_
  refine ao_letI (fun x23 => ?_)
  refine ao_chk (fun e24 => ?_)
  refine ao_iald dX12_joinedOf_12 e24 ?_
  refine ao_br (br_icmp_ge (tgt := 41) dX12_joinedOf_13 (by decide)) (fun c28 => ?_) (fun c28 => ?_)
  · refine ao_s (st_iload_n dX12_joinedOf_41 rfl rfl) ?_
    exact ao_ir dX12_joinedOf_42 rfl rfl
  · refine ao_s (st_iload_n dX12_joinedOf_16 rfl rfl) ?_
    refine ao_s (st_aload_n dX12_joinedOf_17 rfl rfl) ?_
    refine ao_s (st_iload_n dX12_joinedOf_18 rfl rfl) ?_
    refine ao_s (st_iload_n dX12_joinedOf_19 rfl rfl) ?_
    refine ao_cVi (Kc := kX12_isFree) (As := [.int x1, .int x3]) (st := [.int x2]) dX12_joinedOf_20 ml_X12_318 mv_X12_isFree rfl e21 (by decide) rfl rfl (Nat.le_of_ble_eq_true rfl) (by decide) (s_X12_isFree h a0 x1 x3) (fun r25 h26 => ?_)
    refine ao_br (br_if_eq (tgt := 30) dX12_joinedOf_23 (by decide)) (fun c27 => ?_) (fun c27 => ?_)
    · refine ao_s (st_iconst dX12_joinedOf_30 ic_1) ?_
      refine ao_s (st_iload_n dX12_joinedOf_31 rfl rfl) ?_
      refine ao_s (st_ishl dX12_joinedOf_32) ?_
      exact ao_w (sb_s (sb_s (sb_n (sb_s sb_0)))) (t_X12_joinedOf_33 hk4 h26 a0 x1 x3 (1 <<< (x3 &&& 31)) x2)
    · refine ao_s (st_iconst dX12_joinedOf_26 ic_0) ?_
      refine ao_s (st_goto 33 dX12_joinedOf_27 (by decide)) ?_
      exact ao_w (sb_s (sb_s (sb_n (sb_s sb_0)))) (t_X12_joinedOf_33 hk4 h26 a0 x1 x3 0 x2)
def f_X12_joinedOf_4 (n : Nat) : aH → Nat → Int32 → Int32 → Int32 → Option (Int32 × aH) := aIt (fun _ _ _ _ _ => none) (fun k => b_X12_joinedOf_4 k) n
theorem l_X12_joinedOf_4 (n : Nat) : ∀ (h : aH) (a0 : Nat) (x1 : Int32) (x2 : Int32) (x3 : Int32), AO eI 5 kX12_joinedOf 4 [some (.ref a0), some (.int x1), some (.int x2), some (.int x3)] [] h (f_X12_joinedOf_4 n h a0 x1 x2 x3) := by
  induction n with
  | zero => intros; exact ao_none
  | succ n ih =>
    intro h a0 x1 x2 x3
    exact t_X12_joinedOf_4 ih h a0 x1 x2 x3
def f_X12_joinedOf (h : aH) (a0 : Nat) (x1 : Int32) : Option (Int32 × aH) :=
f_X12_joinedOf_4 2000 h a0 x1 0 0
set_option maxHeartbeats 2000000 in
theorem s_X12_joinedOf (h : aH) (a0 : Nat) (x1 : Int32) : SO eI 5 kX12_joinedOf [.ref a0, .int x1] h (f_X12_joinedOf h a0 x1) := by
  refine so_of (lv0 := [some (.ref a0), some (.int x1), none, none]) pn_X12 (Nat.le_of_ble_eq_true rfl) rfl ?_
  unfold f_X12_joinedOf
  refine ao_s (st_iconst dX12_joinedOf_0 ic_0) ?_
  refine ao_s (st_istore_n (lv' := [some (.ref a0), some (.int x1), some (.int 0), none]) dX12_joinedOf_1 rfl (by decide) rfl) ?_
  refine ao_s (st_iconst dX12_joinedOf_2 ic_0) ?_
  refine ao_s (st_istore_n (lv' := [some (.ref a0), some (.int x1), some (.int 0), some (.int 0)]) dX12_joinedOf_3 rfl (by decide) rfl) ?_
  exact ao_w (sb_s (sb_s (sb_s (sb_s sb_0)))) (l_X12_joinedOf_4 2000 h a0 x1 0 0)
def b_X12_force_16 (h : aH) (a0 : Nat) (x1 : Int32) : Option (Int32 × aH) :=
(if (sh a0).1 = 19 then
(aLet (hI h a0 21) fun x22 =>
(aLet (pI h a0 21 x1) fun h23 =>
some (x22, h23)))
else none)
set_option maxHeartbeats 2000000 in
theorem t_X12_force_16 (h : aH) (a0 : Nat) (x1 : Int32) : AO eI 3 kX12_force 16 [some (.ref a0), some (.int x1), none] [] h (b_X12_force_16 h a0 x1) := by
  unfold b_X12_force_16
  refine ao_s (st_aload_n dX12_force_16 rfl rfl) ?_
  refine ao_chk (fun e21 => ?_)
  refine ao_getI dX12_force_17 fl_X12_42 rfl e21 ?_
  refine ao_letI (fun x22 => ?_)
  refine ao_s (st_istore_n (lv' := [some (.ref a0), some (.int x1), some (.int x22)]) dX12_force_20 rfl (by decide) rfl) ?_
  refine ao_s (st_aload_n dX12_force_21 rfl rfl) ?_
  refine ao_s (st_iload_n dX12_force_22 rfl rfl) ?_
  refine ao_putI dX12_force_23 fl_X12_42 rfl rfl rfl rfl e21 ?_
  refine ao_letH (fun h23 => ?_)
  refine ao_s (st_iload_n dX12_force_26 rfl rfl) ?_
  exact ao_ir dX12_force_27 rfl rfl
def f_X12_force (h : aH) (a0 : Nat) (x1 : Int32) : Option (Int32 × aH) :=
(if x1 = (-1) then
b_X12_force_16 h a0 x1
else
(if (sh a0).1 = 19 then
(aBind (f_X12_isRule h a0 x1) fun r22 h23 =>
(if r22 = 0 then
some ((-2), h23)
else
b_X12_force_16 h23 a0 x1))
else none))
set_option maxHeartbeats 2000000 in
theorem s_X12_force (h : aH) (a0 : Nat) (x1 : Int32) : SO eI 3 kX12_force [.ref a0, .int x1] h (f_X12_force h a0 x1) := by
  refine so_of (lv0 := [some (.ref a0), some (.int x1), none]) pn_X12 (Nat.le_of_ble_eq_true rfl) rfl ?_
  unfold f_X12_force
  refine ao_s (st_iload_n dX12_force_0 rfl rfl) ?_
  refine ao_s (st_iconst dX12_force_1 ic_m1) ?_
  refine ao_br (br_icmp_eq (tgt := 16) dX12_force_2 (by decide)) (fun c25 => ?_) (fun c25 => ?_)
  · exact ao_w (sb_s (sb_s (sb_n sb_0))) (t_X12_force_16 h a0 x1)
  · refine ao_s (st_aload_n dX12_force_5 rfl rfl) ?_
    refine ao_s (st_iload_n dX12_force_6 rfl rfl) ?_
    refine ao_chk (fun e21 => ?_)
    refine ao_cVi (Kc := kX12_isRule) (As := [.int x1]) (st := []) dX12_force_7 ml_X12_321 mv_X12_isRule rfl e21 (by decide) rfl rfl (Nat.le_of_ble_eq_true rfl) (by decide) (s_X12_isRule h a0 x1) (fun r22 h23 => ?_)
    refine ao_br (br_if_ne (tgt := 16) dX12_force_10 (by decide)) (fun c24 => ?_) (fun c24 => ?_)
    · refine ao_s (st_bipush dX12_force_13 bp_m2) ?_
      exact ao_ir dX12_force_15 rfl rfl
    · exact ao_w (sb_s (sb_s (sb_n sb_0))) (t_X12_force_16 h23 a0 x1)
def f_X12_east (h : aH) (a0 : Nat) (x1 : Int32) (x2 : Int32) : Option (Int32 × aH) :=
(if (sh a0).1 = 19 then
(aBind (f_X12_isEast h a0 x1) fun r22 h23 =>
(if r22 = 0 then
some ((-2), h23)
else
(aBind (f_X12_in h23 x2.toInt64 0 3) fun r24 h25 =>
(if r24 = 0 then
some ((-2), h25)
else
(aBind (f_X12_personOf h25 a0 0 x1 x2) fun r26 h27 =>
some (r26, h27))))))
else none)
set_option maxHeartbeats 2000000 in
theorem s_X12_east (h : aH) (a0 : Nat) (x1 : Int32) (x2 : Int32) : SO eI 4 kX12_east [.ref a0, .int x1, .int x2] h (f_X12_east h a0 x1 x2) := by
  refine so_of (lv0 := [some (.ref a0), some (.int x1), some (.int x2)]) pn_X12 (Nat.le_of_ble_eq_true rfl) rfl ?_
  unfold f_X12_east
  refine ao_s (st_aload_n dX12_east_0 rfl rfl) ?_
  refine ao_s (st_iload_n dX12_east_1 rfl rfl) ?_
  refine ao_chk (fun e21 => ?_)
  refine ao_cVi (Kc := kX12_isEast) (As := [.int x1]) (st := []) dX12_east_2 ml_X12_324 mv_X12_isEast rfl e21 (by decide) rfl rfl (Nat.le_of_ble_eq_true rfl) (by decide) (s_X12_isEast h a0 x1) (fun r22 h23 => ?_)
  refine ao_br (br_if_eq (tgt := 30) dX12_east_5 (by decide)) (fun c29 => ?_) (fun c29 => ?_)
  · refine ao_s (st_bipush dX12_east_30 bp_m2) ?_
    exact ao_ir dX12_east_32 rfl rfl
  · refine ao_s (st_iload_n dX12_east_8 rfl rfl) ?_
    refine ao_s (st_i2l dX12_east_9) ?_
    refine ao_s (st_lconst dX12_east_10 lc_0) ?_
    refine ao_s (st_ldc2 dX12_east_11 cl_X12_327) ?_
    refine ao_cSi (Kc := kX12_in) (As := [.long x2.toInt64, .long 0, .long 3]) (st := []) dX12_east_14 ml_X12_127 ms_X12_in rfl rfl (Nat.le_of_ble_eq_true rfl) (by decide) (s_X12_in h23 x2.toInt64 0 3) (fun r24 h25 => ?_)
    refine ao_br (br_if_eq (tgt := 30) dX12_east_17 (by decide)) (fun c28 => ?_) (fun c28 => ?_)
    · refine ao_s (st_bipush dX12_east_30 bp_m2) ?_
      exact ao_ir dX12_east_32 rfl rfl
    · refine ao_s (st_aload_n dX12_east_20 rfl rfl) ?_
      refine ao_s (st_iconst dX12_east_21 ic_0) ?_
      refine ao_s (st_iload_n dX12_east_22 rfl rfl) ?_
      refine ao_s (st_iload_n dX12_east_23 rfl rfl) ?_
      refine ao_cVi (Kc := kX12_personOf) (As := [.int 0, .int x1, .int x2]) (st := []) dX12_east_24 ml_X12_301 mv_X12_personOf rfl e21 (by decide) rfl rfl (Nat.le_of_ble_eq_true rfl) (by decide) (s_X12_personOf h25 a0 0 x1 x2) (fun r26 h27 => ?_)
      refine ao_s (st_goto 32 dX12_east_27 (by decide)) ?_
      exact ao_ir dX12_east_32 rfl rfl
def f_X12_west (h : aH) (a0 : Nat) (x1 : Int32) (x2 : Int32) : Option (Int32 × aH) :=
(if (sh a0).1 = 19 then
(aBind (f_X12_isWest h a0 x1) fun r22 h23 =>
(if r22 = 0 then
some ((-2), h23)
else
(aBind (f_X12_in h23 x2.toInt64 0 3) fun r24 h25 =>
(if r24 = 0 then
some ((-2), h25)
else
(aBind (f_X12_personOf h25 a0 1 x1 x2) fun r26 h27 =>
some (r26, h27))))))
else none)
set_option maxHeartbeats 2000000 in
theorem s_X12_west (h : aH) (a0 : Nat) (x1 : Int32) (x2 : Int32) : SO eI 4 kX12_west [.ref a0, .int x1, .int x2] h (f_X12_west h a0 x1 x2) := by
  refine so_of (lv0 := [some (.ref a0), some (.int x1), some (.int x2)]) pn_X12 (Nat.le_of_ble_eq_true rfl) rfl ?_
  unfold f_X12_west
  refine ao_s (st_aload_n dX12_west_0 rfl rfl) ?_
  refine ao_s (st_iload_n dX12_west_1 rfl rfl) ?_
  refine ao_chk (fun e21 => ?_)
  refine ao_cVi (Kc := kX12_isWest) (As := [.int x1]) (st := []) dX12_west_2 ml_X12_329 mv_X12_isWest rfl e21 (by decide) rfl rfl (Nat.le_of_ble_eq_true rfl) (by decide) (s_X12_isWest h a0 x1) (fun r22 h23 => ?_)
  refine ao_br (br_if_eq (tgt := 30) dX12_west_5 (by decide)) (fun c29 => ?_) (fun c29 => ?_)
  · refine ao_s (st_bipush dX12_west_30 bp_m2) ?_
    exact ao_ir dX12_west_32 rfl rfl
  · refine ao_s (st_iload_n dX12_west_8 rfl rfl) ?_
    refine ao_s (st_i2l dX12_west_9) ?_
    refine ao_s (st_lconst dX12_west_10 lc_0) ?_
    refine ao_s (st_ldc2 dX12_west_11 cl_X12_327) ?_
    refine ao_cSi (Kc := kX12_in) (As := [.long x2.toInt64, .long 0, .long 3]) (st := []) dX12_west_14 ml_X12_127 ms_X12_in rfl rfl (Nat.le_of_ble_eq_true rfl) (by decide) (s_X12_in h23 x2.toInt64 0 3) (fun r24 h25 => ?_)
    refine ao_br (br_if_eq (tgt := 30) dX12_west_17 (by decide)) (fun c28 => ?_) (fun c28 => ?_)
    · refine ao_s (st_bipush dX12_west_30 bp_m2) ?_
      exact ao_ir dX12_west_32 rfl rfl
    · refine ao_s (st_aload_n dX12_west_20 rfl rfl) ?_
      refine ao_s (st_iconst dX12_west_21 ic_1) ?_
      refine ao_s (st_iload_n dX12_west_22 rfl rfl) ?_
      refine ao_s (st_iload_n dX12_west_23 rfl rfl) ?_
      refine ao_cVi (Kc := kX12_personOf) (As := [.int 1, .int x1, .int x2]) (st := []) dX12_west_24 ml_X12_301 mv_X12_personOf rfl e21 (by decide) rfl rfl (Nat.le_of_ble_eq_true rfl) (by decide) (s_X12_personOf h25 a0 1 x1 x2) (fun r26 h27 => ?_)
      refine ao_s (st_goto 32 dX12_west_27 (by decide)) ?_
      exact ao_ir dX12_west_32 rfl rfl
def b_X12_likes_46 (h : aH) (x1 : Int32) (x2 : Int32) (x3 : Int32) (s0 : Int32) (s1 : Nat) : Option (Int32 × aH) :=
(aLet (((s0 + (16 * (x3 - x3 / 2 * 2))) + (4 * x1)) + x2) fun x21 =>
(if (sh s1).1 = 0 then
(if aIn x21 (sh s1).2 then
some (hI h s1 x21.toNatClampNeg, h)
else none)
else none))
set_option maxHeartbeats 2000000 in
theorem t_X12_likes_46 (h : aH) (x1 : Int32) (x2 : Int32) (x3 : Int32) (s0 : Int32) (s1 : Nat) : AO eI 3 kX12_likes 46 [none, some (.int x1), some (.int x2), some (.int x3)] [.int s0, .ref s1] h (b_X12_likes_46 h x1 x2 x3 s0 s1) := by
  unfold b_X12_likes_46
  refine ao_s (st_bipush dX12_likes_46 bp_16) ?_
  refine ao_s (st_iload_n dX12_likes_48 rfl rfl) ?_
  refine ao_s (st_iconst dX12_likes_49 ic_2) ?_
  refine ao_s (st_irem dX12_likes_50 (by decide)) ?_
  refine ao_s (st_imul dX12_likes_51) ?_
  refine ao_s (st_iadd dX12_likes_52) ?_
  refine ao_s (st_iconst dX12_likes_53 ic_4) ?_
  refine ao_s (st_iload_n dX12_likes_54 rfl rfl) ?_
  refine ao_s (st_imul dX12_likes_55) ?_
  refine ao_s (st_iadd dX12_likes_56) ?_
  refine ao_s (st_iload_n dX12_likes_57 rfl rfl) ?_
  refine ao_s (st_iadd dX12_likes_58) ?_
  refine ao_letI (fun x21 => ?_)
  refine ao_chk (fun e22 => ?_)
  refine ao_iald dX12_likes_59 e22 ?_
  exact ao_ir dX12_likes_60 rfl rfl
def f_X12_likes (h : aH) (a0 : Nat) (x1 : Int32) (x2 : Int32) (x3 : Int32) : Option (Int32 × aH) :=
(if (sh a0).1 = 19 then
(aBind (f_X12_isEast h a0 x1) fun r22 h23 =>
(if r22 = 0 then
some ((-1), h23)
else
(aBind (f_X12_isWest h23 a0 x2) fun r24 h25 =>
(if r24 = 0 then
some ((-1), h25)
else
(aBind (f_X12_in h25 x3.toInt64 0 3) fun r26 h27 =>
(if r26 = 0 then
some ((-1), h27)
else
((hR h27 a0 20).bind fun b28 =>
(if 2 ≤ x3 then
b_X12_likes_46 h27 x1 x2 x3 78 b28
else
b_X12_likes_46 h27 x1 x2 x3 43 b28))))))))
else none)
set_option maxHeartbeats 2000000 in
theorem s_X12_likes (h : aH) (a0 : Nat) (x1 : Int32) (x2 : Int32) (x3 : Int32) : SO eI 3 kX12_likes [.ref a0, .int x1, .int x2, .int x3] h (f_X12_likes h a0 x1 x2 x3) := by
  refine so_of (lv0 := [some (.ref a0), some (.int x1), some (.int x2), some (.int x3)]) pn_X12 (Nat.le_of_ble_eq_true rfl) rfl ?_
  unfold f_X12_likes
  refine ao_s (st_aload_n dX12_likes_0 rfl rfl) ?_
  refine ao_s (st_iload_n dX12_likes_1 rfl rfl) ?_
  refine ao_chk (fun e21 => ?_)
  refine ao_cVi (Kc := kX12_isEast) (As := [.int x1]) (st := []) dX12_likes_2 ml_X12_324 mv_X12_isEast rfl e21 (by decide) rfl rfl (Nat.le_of_ble_eq_true rfl) (by decide) (s_X12_isEast h a0 x1) (fun r22 h23 => ?_)
  refine ao_br (br_if_eq (tgt := 28) dX12_likes_5 (by decide)) (fun c32 => ?_) (fun c32 => ?_)
  · refine ao_s (st_iconst dX12_likes_28 ic_m1) ?_
    exact ao_ir dX12_likes_29 rfl rfl
  · refine ao_s (st_aload_n dX12_likes_8 rfl rfl) ?_
    refine ao_s (st_iload_n dX12_likes_9 rfl rfl) ?_
    refine ao_cVi (Kc := kX12_isWest) (As := [.int x2]) (st := []) dX12_likes_10 ml_X12_329 mv_X12_isWest rfl e21 (by decide) rfl rfl (Nat.le_of_ble_eq_true rfl) (by decide) (s_X12_isWest h23 a0 x2) (fun r24 h25 => ?_)
    refine ao_br (br_if_eq (tgt := 28) dX12_likes_13 (by decide)) (fun c31 => ?_) (fun c31 => ?_)
    · refine ao_s (st_iconst dX12_likes_28 ic_m1) ?_
      exact ao_ir dX12_likes_29 rfl rfl
    · refine ao_s (st_iload_n dX12_likes_16 rfl rfl) ?_
      refine ao_s (st_i2l dX12_likes_17) ?_
      refine ao_s (st_lconst dX12_likes_18 lc_0) ?_
      refine ao_s (st_ldc2 dX12_likes_19 cl_X12_327) ?_
      refine ao_cSi (Kc := kX12_in) (As := [.long x3.toInt64, .long 0, .long 3]) (st := []) dX12_likes_22 ml_X12_127 ms_X12_in rfl rfl (Nat.le_of_ble_eq_true rfl) (by decide) (s_X12_in h25 x3.toInt64 0 3) (fun r26 h27 => ?_)
      refine ao_br (br_if_ne (tgt := 30) dX12_likes_25 (by decide)) (fun c30 => ?_) (fun c30 => ?_)
      · refine ao_s (st_iconst dX12_likes_28 ic_m1) ?_
        exact ao_ir dX12_likes_29 rfl rfl
      · refine ao_s (st_aload_n dX12_likes_30 rfl rfl) ?_
        refine ao_getR dX12_likes_31 fl_X12_39 rfl e21 (fun b28 => ?_)
        refine ao_s (st_iload_n dX12_likes_34 rfl rfl) ?_
        refine ao_s (st_iconst dX12_likes_35 ic_2) ?_
        refine ao_br (br_icmp_ge (tgt := 44) dX12_likes_36 (by decide)) (fun c29 => ?_) (fun c29 => ?_)
        · refine ao_s (st_bipush dX12_likes_44 bp_78) ?_
          exact ao_w (sb_n (sb_s (sb_s (sb_s sb_0)))) (t_X12_likes_46 h27 x1 x2 x3 78 b28)
        · refine ao_s (st_bipush dX12_likes_39 bp_43) ?_
          refine ao_s (st_goto 46 dX12_likes_41 (by decide)) ?_
          exact ao_w (sb_n (sb_s (sb_s (sb_s sb_0)))) (t_X12_likes_46 h27 x1 x2 x3 43 b28)
def b_X12_pays_43 (h : aH) (s0 : Int32) (s1 : Int32) (s2 : Nat) : Option (Unit × aH) :=
(if (sh s2).1 = 0 then
(if aIn s1 (sh s2).2 then
(aLet (pI h s2 s1.toNatClampNeg s0) fun h22 =>
some ((), h22))
else none)
else none)
set_option maxHeartbeats 2000000 in
theorem t_X12_pays_43 (h : aH) (s0 : Int32) (s1 : Int32) (s2 : Nat) : AO eV 2 kX12_pays 43 [none, none, none, none] [.int s0, .int s1, .ref s2] h (b_X12_pays_43 h s0 s1 s2) := by
  unfold b_X12_pays_43
  refine ao_chk (fun e21 => ?_)
  refine ao_iast dX12_pays_43 e21 ?_
  refine ao_letH (fun h22 => ?_)
  exact ao_vr dX12_pays_44 rfl
def f_X12_pays (h : aH) (a0 : Nat) (x1 : Int32) (x2 : Int32) (x3 : Int32) : Option (Unit × aH) :=
(if (sh a0).1 = 19 then
((hR h a0 20).bind fun b22 =>
(if (sh b22).1 = 0 then
(if aIn x1 (sh b22).2 then
(if aIn x1 (sh b22).2 then
(aLet (pI h b22 x1.toNatClampNeg ((hI h b22 x1.toNatClampNeg) - x3)) fun h24 =>
((hR h24 a0 20).bind fun b25 =>
((hR h24 a0 20).bind fun b26 =>
(if (sh b26).1 = 0 then
(if aIn x2 (sh b26).2 then
(if (hI h24 b26 x2.toNatClampNeg) + x3 ≤ 9999 then
((hR h24 a0 20).bind fun b28 =>
(if (sh b28).1 = 0 then
(if aIn x2 (sh b28).2 then
b_X12_pays_43 h24 ((hI h24 b28 x2.toNatClampNeg) + x3) x2 b25
else none)
else none))
else
b_X12_pays_43 h24 9999 x2 b25)
else none)
else none))))
else none)
else none)
else none))
else none)
set_option maxHeartbeats 2000000 in
theorem s_X12_pays (h : aH) (a0 : Nat) (x1 : Int32) (x2 : Int32) (x3 : Int32) : SO eV 2 kX12_pays [.ref a0, .int x1, .int x2, .int x3] h (f_X12_pays h a0 x1 x2 x3) := by
  refine so_of (lv0 := [some (.ref a0), some (.int x1), some (.int x2), some (.int x3)]) pn_X12 (Nat.le_of_ble_eq_true rfl) rfl ?_
  unfold f_X12_pays
  refine ao_s (st_aload_n dX12_pays_0 rfl rfl) ?_
  refine ao_chk (fun e21 => ?_)
  refine ao_getR dX12_pays_1 fl_X12_39 rfl e21 (fun b22 => ?_)
  refine ao_s (st_iload_n dX12_pays_4 rfl rfl) ?_
  refine ao_s (st_dup2 dX12_pays_5 rfl rfl) ?_
  refine ao_chk (fun e23 => ?_)
  refine ao_iald dX12_pays_6 e23 ?_
  refine ao_s (st_iload_n dX12_pays_7 rfl rfl) ?_
  refine ao_s (st_isub dX12_pays_8) ?_
  refine ao_iast dX12_pays_9 e23 ?_
  refine ao_letH (fun h24 => ?_)
  refine ao_s (st_aload_n dX12_pays_10 rfl rfl) ?_
  refine ao_getR dX12_pays_11 fl_X12_39 rfl e21 (fun b25 => ?_)
  refine ao_s (st_iload_n dX12_pays_14 rfl rfl) ?_
  refine ao_s (st_aload_n dX12_pays_15 rfl rfl) ?_
  refine ao_getR dX12_pays_16 fl_X12_39 rfl e21 (fun b26 => ?_)
  refine ao_s (st_iload_n dX12_pays_19 rfl rfl) ?_
  refine ao_chk (fun e27 => ?_)
  refine ao_iald dX12_pays_20 e27 ?_
  refine ao_s (st_iload_n dX12_pays_21 rfl rfl) ?_
  refine ao_s (st_iadd dX12_pays_22) ?_
  refine ao_s (st_sipush dX12_pays_23 sp_9999) ?_
  refine ao_br (br_icmp_le (tgt := 35) dX12_pays_26 (by decide)) (fun c30 => ?_) (fun c30 => ?_)
  · refine ao_s (st_aload_n dX12_pays_35 rfl rfl) ?_
    refine ao_getR dX12_pays_36 fl_X12_39 rfl e21 (fun b28 => ?_)
    refine ao_s (st_iload_n dX12_pays_39 rfl rfl) ?_
    refine ao_chk (fun e29 => ?_)
    refine ao_iald dX12_pays_40 e29 ?_
    refine ao_s (st_iload_n dX12_pays_41 rfl rfl) ?_
    refine ao_s (st_iadd dX12_pays_42) ?_
    exact ao_w (sb_n (sb_n (sb_n (sb_n sb_0)))) (t_X12_pays_43 h24 ((hI h24 b28 x2.toNatClampNeg) + x3) x2 b25)
  · refine ao_s (st_sipush dX12_pays_29 sp_9999) ?_
    refine ao_s (st_goto 43 dX12_pays_32 (by decide)) ?_
    exact ao_w (sb_n (sb_n (sb_n (sb_n sb_0)))) (t_X12_pays_43 h24 9999 x2 b25)
