theorem cw_X0_9 : Cond.classLink RX0 9 (cRn 3) ∈ aTb ∧ Cond.instantiable (cRn 3) (cN 3) ∈ aTb ∧ Cond.initialized (cRn 3) ∈ aTb := ⟨wm_360, wm_361, wi_X3⟩
theorem cw_X1_9 : Cond.classLink RX1 9 (cRn 8) ∈ aTb ∧ Cond.instantiable (cRn 8) (cN 8) ∈ aTb ∧ Cond.initialized (cRn 8) ∈ aTb := ⟨wm_393, wm_242, wi_X8⟩
theorem cw_X4_11 : Cond.classLink RX4 11 (cRn 8) ∈ aTb ∧ Cond.instantiable (cRn 8) (cN 8) ∈ aTb ∧ Cond.initialized (cRn 8) ∈ aTb := ⟨wm_452, wm_242, wi_X8⟩
theorem cw_X6_9 : Cond.classLink RX6 9 (cRn 5) ∈ aTb ∧ Cond.instantiable (cRn 5) (cN 5) ∈ aTb ∧ Cond.initialized (cRn 5) ∈ aTb := ⟨wm_191, wm_192, wi_X5⟩
theorem cw_X10_9 : Cond.classLink RX10 9 (cRn 8) ∈ aTb ∧ Cond.instantiable (cRn 8) (cN 8) ∈ aTb ∧ Cond.initialized (cRn 8) ∈ aTb := ⟨wm_241, wm_242, wi_X8⟩
theorem cw_X11_9 : Cond.classLink RX11 9 (cRn 9) ∈ aTb ∧ Cond.instantiable (cRn 9) (cN 9) ∈ aTb ∧ Cond.initialized (cRn 9) ∈ aTb := ⟨wm_150, wm_151, wi_X9⟩
theorem cw_X11_16 : Cond.classLink RX11 16 (cRn 2) ∈ aTb ∧ Cond.instantiable (cRn 2) (cN 2) ∈ aTb ∧ Cond.initialized (cRn 2) ∈ aTb := ⟨wm_175, wm_176, wi_X2⟩
theorem cw_X11_25 : Cond.classLink RX11 25 (cRn 6) ∈ aTb ∧ Cond.instantiable (cRn 6) (cN 6) ∈ aTb ∧ Cond.initialized (cRn 6) ∈ aTb := ⟨wm_185, wm_186, wi_X6⟩
theorem cw1_X11_32 : Cond.classLink RX11 32 RX5 ∈ aTb := wm_233
theorem cw_X11_42 : Cond.classLink RX11 42 (cRn 10) ∈ aTb ∧ Cond.instantiable (cRn 10) (cN 10) ∈ aTb ∧ Cond.initialized (cRn 10) ∈ aTb := ⟨wm_235, wm_236, wi_X10⟩
theorem cw1_X11_42 : Cond.classLink RX11 42 RX10 ∈ aTb := wm_235
theorem cw1_X11_53 : Cond.classLink RX11 53 RX8 ∈ aTb := wm_351
theorem cw_X11_53 : Cond.classLink RX11 53 (cRn 8) ∈ aTb ∧ Cond.instantiable (cRn 8) (cN 8) ∈ aTb ∧ Cond.initialized (cRn 8) ∈ aTb := ⟨wm_351, wm_242, wi_X8⟩
theorem cw_X11_70 : Cond.classLink RX11 70 (cRn 0) ∈ aTb ∧ Cond.instantiable (cRn 0) (cN 0) ∈ aTb ∧ Cond.initialized (cRn 0) ∈ aTb := ⟨wm_354, wm_355, wi_X0⟩
theorem cw_X11_77 : Cond.classLink RX11 77 (cRn 1) ∈ aTb ∧ Cond.instantiable (cRn 1) (cN 1) ∈ aTb ∧ Cond.initialized (cRn 1) ∈ aTb := ⟨wm_387, wm_388, wi_X1⟩
theorem cw_X11_86 : Cond.classLink RX11 86 (cRn 7) ∈ aTb ∧ Cond.instantiable (cRn 7) (cN 7) ∈ aTb ∧ Cond.initialized (cRn 7) ∈ aTb := ⟨wm_421, wm_422, wi_X7⟩
theorem cw_X11_93 : Cond.classLink RX11 93 (cRn 4) ∈ aTb ∧ Cond.instantiable (cRn 4) (cN 4) ∈ aTb ∧ Cond.initialized (cRn 4) ∈ aTb := ⟨wm_446, wm_447, wi_X4⟩
theorem cw_X11_32 : Cond.classLink RX11 32 (cRn 5) ∈ aTb ∧ Cond.instantiable (cRn 5) (cN 5) ∈ aTb ∧ Cond.initialized (cRn 5) ∈ aTb := ⟨wm_233, wm_192, wi_X5⟩
theorem cw_L_7 : Cond.classLink RL 7 (cRn 11) ∈ aTb ∧ Cond.instantiable (cRn 11) (cN 11) ∈ aTb ∧ Cond.initialized (cRn 11) ∈ aTb := ⟨wm_142, wm_143, wi_X11⟩
theorem cw_L_10 : Cond.classLink RL 10 (cRn 12) ∈ aTb ∧ Cond.instantiable (cRn 12) (cN 12) ∈ aTb ∧ Cond.initialized (cRn 12) ∈ aTb := ⟨wm_1197, wm_1198, wi_X12⟩
theorem aoc_w {Φ : aG → State → Prop} {ρ : Type} {E : ρ → Option Value} {d : Nat} {K : aM} {pc : Nat} {lv lv' : List (Option Value)} {st : List Value} {h : aH} {o : Option (ρ × aH)} (hs : aSub lv' lv) (k : AOc Φ E d K pc lv' st h o) : AOc Φ E d K pc lv st h o := fun g r h' e => ⟨(k g r h' e).1, aw_w hs (k g r h' e).2⟩
def f_X3_init (h : aH) (a0 : Nat) : Option (Unit × aH) :=
(if sh h.1 = (3, 11) ∧ h.1 < aSB then
(aLet (aN h) fun h21 =>
(if a0 < h21.1 ∧ (sh a0).1 = 10 then
(aLet (pR h21 a0 0 (some h.1)) fun h23 =>
(if sh h23.1 = (3, 64) ∧ h23.1 < aSB then
(aLet (aN h23) fun h24 =>
(if a0 < h24.1 ∧ (sh a0).1 = 10 then
(aLet (pR h24 a0 1 (some h23.1)) fun h26 =>
some ((), h26))
else none))
else none))
else none))
else none)
set_option maxHeartbeats 2000000 in
theorem s_X3_init (h : aH) (a0 : Nat) : SOc eV 1 kX3_init [.ref a0] h (f_X3_init h a0) := by
  refine soc_of (lv0 := [some (.ref a0)]) pn_X3 (Nat.le_of_ble_eq_true rfl) rfl ?_
  unfold f_X3_init
  refine aoc_s (st_aload_n dX3_init_0 rfl rfl) ?_
  refine aoc_obj dX3_init_1 ml_X3_3 (Nat.le_of_ble_eq_true rfl) (by decide) ?_
  refine aoc_s (st_aload_n dX3_init_4 rfl rfl) ?_
  refine aoc_s (st_bipush dX3_init_5 bp_11) ?_
  refine aoc_newa3 (N := 11) dX3_init_7 (by decide) ?_
  refine aoc_letH (fun h21 => ?_)
  refine aoc_chk (fun e22 => ?_)
  refine aoc_putR dX3_init_9 fl_X3_11 rfl (Or.inr ⟨rfl, rfl, rfl⟩) e22 ?_
  refine aoc_letH (fun h23 => ?_)
  refine aoc_s (st_aload_n dX3_init_12 rfl rfl) ?_
  refine aoc_s (st_bipush dX3_init_13 bp_64) ?_
  refine aoc_newa3 (N := 64) dX3_init_15 (by decide) ?_
  refine aoc_letH (fun h24 => ?_)
  refine aoc_chk (fun e25 => ?_)
  refine aoc_putR dX3_init_17 fl_X3_15 rfl (Or.inr ⟨rfl, rfl, rfl⟩) e25 ?_
  refine aoc_letH (fun h26 => ?_)
  exact aoc_vr dX3_init_20 rfl
def f_X0_init (h : aH) (a0 : Nat) : Option (Unit × aH) :=
(if sh h.1 = (3 + 7, cN 3) ∧ h.1 < aSB then
(aLet (aN h) fun h21 =>
(aBind (f_X3_init h21 h.1) fun r22 h23 =>
(if a0 < h23.1 ∧ (sh a0).1 = 7 then
(aLet (pR h23 a0 0 (some h.1)) fun h25 =>
(if sh h25.1 = (0, 4) ∧ h25.1 < aSB then
(aLet (aN h25) fun h26 =>
(if a0 < h26.1 ∧ (sh a0).1 = 7 then
(aLet (pR h26 a0 1 (some h25.1)) fun h28 =>
(if sh h28.1 = (0, 4) ∧ h28.1 < aSB then
(aLet (aN h28) fun h29 =>
(if a0 < h29.1 ∧ (sh a0).1 = 7 then
(aLet (pR h29 a0 2 (some h28.1)) fun h31 =>
(if sh h31.1 = (0, 4) ∧ h31.1 < aSB then
(aLet (aN h31) fun h32 =>
(if a0 < h32.1 ∧ (sh a0).1 = 7 then
(aLet (pR h32 a0 3 (some h31.1)) fun h34 =>
some ((), h34))
else none))
else none))
else none))
else none))
else none))
else none))
else none)))
else none)
set_option maxHeartbeats 2000000 in
theorem s_X0_init (h : aH) (a0 : Nat) : SOc eV 2 kX0_init [.ref a0] h (f_X0_init h a0) := by
  refine soc_of (lv0 := [some (.ref a0)]) pn_X0 (Nat.le_of_ble_eq_true rfl) rfl ?_
  unfold f_X0_init
  refine aoc_s (st_aload_n dX0_init_0 rfl rfl) ?_
  refine aoc_obj dX0_init_1 ml_X0_3 (Nat.le_of_ble_eq_true rfl) (by decide) ?_
  refine aoc_s (st_aload_n dX0_init_4 rfl rfl) ?_
  refine aoc_new (ci := 3) dX0_init_5 cw_X0_9 (by decide) ?_
  refine aoc_letH (fun h21 => ?_)
  refine aoc_s (st_dup dX0_init_8 rfl) ?_
  refine aoc_callI (Kc := kX3_init) (As := []) (st := [.ref h.1, .ref a0]) dX0_init_9 (Or.inr (by decide +kernel)) mi_X3_init mn_X3_init rfl rfl rfl rfl (Nat.le_of_ble_eq_true rfl) (by decide) (s_X3_init h21 h.1) (fun r22 h23 => ?_)
  refine aoc_chk (fun e24 => ?_)
  refine aoc_putR dX0_init_12 fl_X0_12 rfl (Or.inr ⟨rfl, rfl, rfl⟩) e24 ?_
  refine aoc_letH (fun h25 => ?_)
  refine aoc_s (st_aload_n dX0_init_15 rfl rfl) ?_
  refine aoc_s (st_iconst dX0_init_16 ic_4) ?_
  refine aoc_newa0 (N := 4) dX0_init_17 (by decide) ?_
  refine aoc_letH (fun h26 => ?_)
  refine aoc_chk (fun e27 => ?_)
  refine aoc_putR dX0_init_19 fl_X0_18 rfl (Or.inr ⟨rfl, rfl, rfl⟩) e27 ?_
  refine aoc_letH (fun h28 => ?_)
  refine aoc_s (st_aload_n dX0_init_22 rfl rfl) ?_
  refine aoc_s (st_iconst dX0_init_23 ic_4) ?_
  refine aoc_newa0 (N := 4) dX0_init_24 (by decide) ?_
  refine aoc_letH (fun h29 => ?_)
  refine aoc_chk (fun e30 => ?_)
  refine aoc_putR dX0_init_26 fl_X0_22 rfl (Or.inr ⟨rfl, rfl, rfl⟩) e30 ?_
  refine aoc_letH (fun h31 => ?_)
  refine aoc_s (st_aload_n dX0_init_29 rfl rfl) ?_
  refine aoc_s (st_iconst dX0_init_30 ic_4) ?_
  refine aoc_newa0 (N := 4) dX0_init_31 (by decide) ?_
  refine aoc_letH (fun h32 => ?_)
  refine aoc_chk (fun e33 => ?_)
  refine aoc_putR dX0_init_33 fl_X0_25 rfl (Or.inr ⟨rfl, rfl, rfl⟩) e33 ?_
  refine aoc_letH (fun h34 => ?_)
  exact aoc_vr dX0_init_36 rfl
def f_X8_init (h : aH) (a0 : Nat) : Option (Unit × aH) :=
(if a0 < h.1 ∧ (sh a0).1 = 15 then
(aLet (pI h a0 0 0) fun h22 =>
(if a0 < h22.1 ∧ (sh a0).1 = 15 then
(aLet (pI h22 a0 1 0) fun h24 =>
(if a0 < h24.1 ∧ (sh a0).1 = 15 then
(aLet (pI h24 a0 2 0) fun h26 =>
(if a0 < h26.1 ∧ (sh a0).1 = 15 then
(aLet (pI h26 a0 3 0) fun h28 =>
(if a0 < h28.1 ∧ (sh a0).1 = 15 then
(aLet (pI h28 a0 4 0) fun h30 =>
(if a0 < h30.1 ∧ (sh a0).1 = 15 then
(aLet (pI h30 a0 5 0) fun h32 =>
(if a0 < h32.1 ∧ (sh a0).1 = 15 then
(aLet (pL h32 a0 6 0) fun h34 =>
(if sh h34.1 = (0, 8) ∧ h34.1 < aSB then
(aLet (aN h34) fun h35 =>
(if a0 < h35.1 ∧ (sh a0).1 = 15 then
(aLet (pR h35 a0 7 (some h34.1)) fun h37 =>
(if sh h37.1 = (0, 8) ∧ h37.1 < aSB then
(aLet (aN h37) fun h38 =>
(if a0 < h38.1 ∧ (sh a0).1 = 15 then
(aLet (pR h38 a0 8 (some h37.1)) fun h40 =>
(if sh h40.1 = (0, 8) ∧ h40.1 < aSB then
(aLet (aN h40) fun h41 =>
(if a0 < h41.1 ∧ (sh a0).1 = 15 then
(aLet (pR h41 a0 9 (some h40.1)) fun h43 =>
(if sh h43.1 = (0, 4) ∧ h43.1 < aSB then
(aLet (aN h43) fun h44 =>
(if a0 < h44.1 ∧ (sh a0).1 = 15 then
(aLet (pR h44 a0 10 (some h43.1)) fun h46 =>
(if sh h46.1 = (0, 32) ∧ h46.1 < aSB then
(aLet (aN h46) fun h47 =>
(if a0 < h47.1 ∧ (sh a0).1 = 15 then
(aLet (pR h47 a0 11 (some h46.1)) fun h49 =>
(if sh h49.1 = (0, 32) ∧ h49.1 < aSB then
(aLet (aN h49) fun h50 =>
(if a0 < h50.1 ∧ (sh a0).1 = 15 then
(aLet (pR h50 a0 12 (some h49.1)) fun h52 =>
some ((), h52))
else none))
else none))
else none))
else none))
else none))
else none))
else none))
else none))
else none))
else none))
else none))
else none))
else none))
else none))
else none))
else none))
else none))
else none))
else none)
set_option maxHeartbeats 2000000 in
theorem s_X8_init (h : aH) (a0 : Nat) : SOc eV 1 kX8_init [.ref a0] h (f_X8_init h a0) := by
  refine soc_of (lv0 := [some (.ref a0)]) pn_X8 (Nat.le_of_ble_eq_true rfl) rfl ?_
  unfold f_X8_init
  refine aoc_s (st_aload_n dX8_init_0 rfl rfl) ?_
  refine aoc_obj dX8_init_1 ml_X8_3 (Nat.le_of_ble_eq_true rfl) (by decide) ?_
  refine aoc_s (st_aload_n dX8_init_4 rfl rfl) ?_
  refine aoc_s (st_iconst dX8_init_5 ic_0) ?_
  refine aoc_chk (fun e21 => ?_)
  refine aoc_putI dX8_init_6 fl_X8_9 rfl rfl (by decide) (by decide) e21 ?_
  refine aoc_letH (fun h22 => ?_)
  refine aoc_s (st_aload_n dX8_init_9 rfl rfl) ?_
  refine aoc_s (st_iconst dX8_init_10 ic_0) ?_
  refine aoc_chk (fun e23 => ?_)
  refine aoc_putI dX8_init_11 fl_X8_15 rfl rfl rfl rfl e23 ?_
  refine aoc_letH (fun h24 => ?_)
  refine aoc_s (st_aload_n dX8_init_14 rfl rfl) ?_
  refine aoc_s (st_iconst dX8_init_15 ic_0) ?_
  refine aoc_chk (fun e25 => ?_)
  refine aoc_putI dX8_init_16 fl_X8_19 rfl rfl rfl rfl e25 ?_
  refine aoc_letH (fun h26 => ?_)
  refine aoc_s (st_aload_n dX8_init_19 rfl rfl) ?_
  refine aoc_s (st_iconst dX8_init_20 ic_0) ?_
  refine aoc_chk (fun e27 => ?_)
  refine aoc_putI dX8_init_21 fl_X8_22 rfl rfl rfl rfl e27 ?_
  refine aoc_letH (fun h28 => ?_)
  refine aoc_s (st_aload_n dX8_init_24 rfl rfl) ?_
  refine aoc_s (st_iconst dX8_init_25 ic_0) ?_
  refine aoc_chk (fun e29 => ?_)
  refine aoc_putI dX8_init_26 fl_X8_25 rfl rfl rfl rfl e29 ?_
  refine aoc_letH (fun h30 => ?_)
  refine aoc_s (st_aload_n dX8_init_29 rfl rfl) ?_
  refine aoc_s (st_iconst dX8_init_30 ic_0) ?_
  refine aoc_chk (fun e31 => ?_)
  refine aoc_putI dX8_init_31 fl_X8_28 rfl rfl rfl rfl e31 ?_
  refine aoc_letH (fun h32 => ?_)
  refine aoc_s (st_aload_n dX8_init_34 rfl rfl) ?_
  refine aoc_s (st_lconst dX8_init_35 lc_0) ?_
  refine aoc_chk (fun e33 => ?_)
  refine aoc_putL dX8_init_36 fl_X8_31 rfl rfl rfl rfl e33 ?_
  refine aoc_letH (fun h34 => ?_)
  refine aoc_s (st_aload_n dX8_init_39 rfl rfl) ?_
  refine aoc_s (st_bipush dX8_init_40 bp_8) ?_
  refine aoc_newa0 (N := 8) dX8_init_42 (by decide) ?_
  refine aoc_letH (fun h35 => ?_)
  refine aoc_chk (fun e36 => ?_)
  refine aoc_putR dX8_init_44 fl_X8_35 rfl (Or.inr ⟨rfl, rfl, rfl⟩) e36 ?_
  refine aoc_letH (fun h37 => ?_)
  refine aoc_s (st_aload_n dX8_init_47 rfl rfl) ?_
  refine aoc_s (st_bipush dX8_init_48 bp_8) ?_
  refine aoc_newa0 (N := 8) dX8_init_50 (by decide) ?_
  refine aoc_letH (fun h38 => ?_)
  refine aoc_chk (fun e39 => ?_)
  refine aoc_putR dX8_init_52 fl_X8_39 rfl (Or.inr ⟨rfl, rfl, rfl⟩) e39 ?_
  refine aoc_letH (fun h40 => ?_)
  refine aoc_s (st_aload_n dX8_init_55 rfl rfl) ?_
  refine aoc_s (st_bipush dX8_init_56 bp_8) ?_
  refine aoc_newa0 (N := 8) dX8_init_58 (by decide) ?_
  refine aoc_letH (fun h41 => ?_)
  refine aoc_chk (fun e42 => ?_)
  refine aoc_putR dX8_init_60 fl_X8_42 rfl (Or.inr ⟨rfl, rfl, rfl⟩) e42 ?_
  refine aoc_letH (fun h43 => ?_)
  refine aoc_s (st_aload_n dX8_init_63 rfl rfl) ?_
  refine aoc_s (st_iconst dX8_init_64 ic_4) ?_
  refine aoc_newa0 (N := 4) dX8_init_65 (by decide) ?_
  refine aoc_letH (fun h44 => ?_)
  refine aoc_chk (fun e45 => ?_)
  refine aoc_putR dX8_init_67 fl_X8_45 rfl (Or.inr ⟨rfl, rfl, rfl⟩) e45 ?_
  refine aoc_letH (fun h46 => ?_)
  refine aoc_s (st_aload_n dX8_init_70 rfl rfl) ?_
  refine aoc_s (st_bipush dX8_init_71 bp_32) ?_
  refine aoc_newa0 (N := 32) dX8_init_73 (by decide) ?_
  refine aoc_letH (fun h47 => ?_)
  refine aoc_chk (fun e48 => ?_)
  refine aoc_putR dX8_init_75 fl_X8_48 rfl (Or.inr ⟨rfl, rfl, rfl⟩) e48 ?_
  refine aoc_letH (fun h49 => ?_)
  refine aoc_s (st_aload_n dX8_init_78 rfl rfl) ?_
  refine aoc_s (st_bipush dX8_init_79 bp_32) ?_
  refine aoc_newa0 (N := 32) dX8_init_81 (by decide) ?_
  refine aoc_letH (fun h50 => ?_)
  refine aoc_chk (fun e51 => ?_)
  refine aoc_putR dX8_init_83 fl_X8_51 rfl (Or.inr ⟨rfl, rfl, rfl⟩) e51 ?_
  refine aoc_letH (fun h52 => ?_)
  exact aoc_vr dX8_init_86 rfl
def f_X1_init (h : aH) (a0 : Nat) (a1 : Nat) : Option (Unit × aH) :=
(if sh h.1 = (8 + 7, cN 8) ∧ h.1 < aSB then
(aLet (aN h) fun h21 =>
(aBind (f_X8_init h21 h.1) fun r22 h23 =>
(if a0 < h23.1 ∧ (sh a0).1 = 8 then
(aLet (pR h23 a0 1 (some h.1)) fun h25 =>
(if a0 < h25.1 ∧ (sh a0).1 = 8 then
(aLet (pI h25 a0 2 (-1)) fun h27 =>
(if a0 < h27.1 ∧ (sh a0).1 = 8 then
(aLet (pI h27 a0 3 0) fun h29 =>
(if a0 < h29.1 ∧ (sh a0).1 = 8 then
(aLet (pI h29 a0 4 0) fun h31 =>
(if a0 < h31.1 ∧ (sh a0).1 = 8 then
(aLet (pI h31 a0 5 0) fun h33 =>
(if a0 < h33.1 ∧ (sh a0).1 = 8 then
(aLet (pL h33 a0 6 0) fun h35 =>
(if a0 < h35.1 ∧ (sh a0).1 = 8 then
(aLet (pR h35 a0 0 (some a1)) fun h37 =>
some ((), h37))
else none))
else none))
else none))
else none))
else none))
else none))
else none)))
else none)
set_option maxHeartbeats 2000000 in
theorem s_X1_init (h : aH) (a0 : Nat) (a1 : Nat) : SOc eV 2 kX1_init [.ref a0, .ref a1] h (f_X1_init h a0 a1) := by
  refine soc_of (lv0 := [some (.ref a0), some (.ref a1)]) pn_X1 (Nat.le_of_ble_eq_true rfl) rfl ?_
  unfold f_X1_init
  refine aoc_s (st_aload_n dX1_init_0 rfl rfl) ?_
  refine aoc_obj dX1_init_1 ml_X1_3 (Nat.le_of_ble_eq_true rfl) (by decide) ?_
  refine aoc_s (st_aload_n dX1_init_4 rfl rfl) ?_
  refine aoc_new (ci := 8) dX1_init_5 cw_X1_9 (by decide) ?_
  refine aoc_letH (fun h21 => ?_)
  refine aoc_s (st_dup dX1_init_8 rfl) ?_
  refine aoc_callI (Kc := kX8_init) (As := []) (st := [.ref h.1, .ref a0]) dX1_init_9 (Or.inr (by decide +kernel)) mi_X8_init mn_X8_init rfl rfl rfl rfl (Nat.le_of_ble_eq_true rfl) (by decide) (s_X8_init h21 h.1) (fun r22 h23 => ?_)
  refine aoc_chk (fun e24 => ?_)
  refine aoc_putR dX1_init_12 fl_X1_12 rfl (Or.inr ⟨rfl, rfl, rfl⟩) e24 ?_
  refine aoc_letH (fun h25 => ?_)
  refine aoc_s (st_aload_n dX1_init_15 rfl rfl) ?_
  refine aoc_s (st_iconst dX1_init_16 ic_m1) ?_
  refine aoc_chk (fun e26 => ?_)
  refine aoc_putI dX1_init_17 fl_X1_18 rfl rfl rfl rfl e26 ?_
  refine aoc_letH (fun h27 => ?_)
  refine aoc_s (st_aload_n dX1_init_20 rfl rfl) ?_
  refine aoc_s (st_iconst dX1_init_21 ic_0) ?_
  refine aoc_chk (fun e28 => ?_)
  refine aoc_putI dX1_init_22 fl_X1_22 rfl rfl rfl rfl e28 ?_
  refine aoc_letH (fun h29 => ?_)
  refine aoc_s (st_aload_n dX1_init_25 rfl rfl) ?_
  refine aoc_s (st_iconst dX1_init_26 ic_0) ?_
  refine aoc_chk (fun e30 => ?_)
  refine aoc_putI dX1_init_27 fl_X1_25 rfl rfl rfl rfl e30 ?_
  refine aoc_letH (fun h31 => ?_)
  refine aoc_s (st_aload_n dX1_init_30 rfl rfl) ?_
  refine aoc_s (st_iconst dX1_init_31 ic_0) ?_
  refine aoc_chk (fun e32 => ?_)
  refine aoc_putI dX1_init_32 fl_X1_28 rfl rfl rfl rfl e32 ?_
  refine aoc_letH (fun h33 => ?_)
  refine aoc_s (st_aload_n dX1_init_35 rfl rfl) ?_
  refine aoc_s (st_lconst dX1_init_36 lc_0) ?_
  refine aoc_chk (fun e34 => ?_)
  refine aoc_putL dX1_init_37 fl_X1_31 rfl rfl rfl rfl e34 ?_
  refine aoc_letH (fun h35 => ?_)
  refine aoc_s (st_aload_n dX1_init_40 rfl rfl) ?_
  refine aoc_s (st_aload_n dX1_init_41 rfl rfl) ?_
  refine aoc_chk (fun e36 => ?_)
  refine aoc_putR dX1_init_42 fl_X1_35 rfl (Or.inr ⟨rfl, rfl, rfl⟩) e36 ?_
  refine aoc_letH (fun h37 => ?_)
  exact aoc_vr dX1_init_45 rfl
def f_X2_init (h : aH) (a0 : Nat) (a1 : Nat) : Option (Unit × aH) :=
(if a0 < h.1 ∧ (sh a0).1 = 9 then
(aLet (pR h a0 0 (some a1)) fun h22 =>
some ((), h22))
else none)
set_option maxHeartbeats 2000000 in
theorem s_X2_init (h : aH) (a0 : Nat) (a1 : Nat) : SOc eV 1 kX2_init [.ref a0, .ref a1] h (f_X2_init h a0 a1) := by
  refine soc_of (lv0 := [some (.ref a0), some (.ref a1)]) pn_X2 (Nat.le_of_ble_eq_true rfl) rfl ?_
  unfold f_X2_init
  refine aoc_s (st_aload_n dX2_init_0 rfl rfl) ?_
  refine aoc_obj dX2_init_1 ml_X2_3 (Nat.le_of_ble_eq_true rfl) (by decide) ?_
  refine aoc_s (st_aload_n dX2_init_4 rfl rfl) ?_
  refine aoc_s (st_aload_n dX2_init_5 rfl rfl) ?_
  refine aoc_chk (fun e21 => ?_)
  refine aoc_putR dX2_init_6 fl_X2_9 rfl (Or.inr ⟨rfl, rfl, rfl⟩) e21 ?_
  refine aoc_letH (fun h22 => ?_)
  exact aoc_vr dX2_init_9 rfl
def f_X4_init (h : aH) (a0 : Nat) (a1 : Nat) : Option (Unit × aH) :=
(if sh h.1 = (8 + 7, cN 8) ∧ h.1 < aSB then
(aLet (aN h) fun h21 =>
(aBind (f_X8_init h21 h.1) fun r22 h23 =>
(if a0 < h23.1 ∧ (sh a0).1 = 11 then
(aLet (pR h23 a0 1 (some h.1)) fun h25 =>
(if sh h25.1 = (0, 28) ∧ h25.1 < aSB then
(aLet (aN h25) fun h26 =>
(if a0 < h26.1 ∧ (sh a0).1 = 11 then
(aLet (pR h26 a0 2 (some h25.1)) fun h28 =>
(if a0 < h28.1 ∧ (sh a0).1 = 11 then
(aLet (pI h28 a0 3 0) fun h30 =>
(if a0 < h30.1 ∧ (sh a0).1 = 11 then
(aLet (pI h30 a0 4 0) fun h32 =>
(if a0 < h32.1 ∧ (sh a0).1 = 11 then
(aLet (pI h32 a0 5 (-2)) fun h34 =>
(if a0 < h34.1 ∧ (sh a0).1 = 11 then
(aLet (pI h34 a0 6 0) fun h36 =>
(if a0 < h36.1 ∧ (sh a0).1 = 11 then
(aLet (pI h36 a0 7 (-2)) fun h38 =>
(if a0 < h38.1 ∧ (sh a0).1 = 11 then
(aLet (pI h38 a0 8 (-2)) fun h40 =>
(if a0 < h40.1 ∧ (sh a0).1 = 11 then
(aLet (pR h40 a0 0 (some a1)) fun h42 =>
some ((), h42))
else none))
else none))
else none))
else none))
else none))
else none))
else none))
else none))
else none))
else none)))
else none)
set_option maxHeartbeats 2000000 in
theorem s_X4_init (h : aH) (a0 : Nat) (a1 : Nat) : SOc eV 2 kX4_init [.ref a0, .ref a1] h (f_X4_init h a0 a1) := by
  refine soc_of (lv0 := [some (.ref a0), some (.ref a1)]) pn_X4 (Nat.le_of_ble_eq_true rfl) rfl ?_
  unfold f_X4_init
  refine aoc_s (st_aload_n dX4_init_0 rfl rfl) ?_
  refine aoc_obj dX4_init_1 ml_X4_5 (Nat.le_of_ble_eq_true rfl) (by decide) ?_
  refine aoc_s (st_aload_n dX4_init_4 rfl rfl) ?_
  refine aoc_new (ci := 8) dX4_init_5 cw_X4_11 (by decide) ?_
  refine aoc_letH (fun h21 => ?_)
  refine aoc_s (st_dup dX4_init_8 rfl) ?_
  refine aoc_callI (Kc := kX8_init) (As := []) (st := [.ref h.1, .ref a0]) dX4_init_9 (Or.inr (by decide +kernel)) mi_X8_init mn_X8_init rfl rfl rfl rfl (Nat.le_of_ble_eq_true rfl) (by decide) (s_X8_init h21 h.1) (fun r22 h23 => ?_)
  refine aoc_chk (fun e24 => ?_)
  refine aoc_putR dX4_init_12 fl_X4_14 rfl (Or.inr ⟨rfl, rfl, rfl⟩) e24 ?_
  refine aoc_letH (fun h25 => ?_)
  refine aoc_s (st_aload_n dX4_init_15 rfl rfl) ?_
  refine aoc_s (st_bipush dX4_init_16 bp_28) ?_
  refine aoc_newa0 (N := 28) dX4_init_18 (by decide) ?_
  refine aoc_letH (fun h26 => ?_)
  refine aoc_chk (fun e27 => ?_)
  refine aoc_putR dX4_init_20 fl_X4_18 rfl (Or.inr ⟨rfl, rfl, rfl⟩) e27 ?_
  refine aoc_letH (fun h28 => ?_)
  refine aoc_s (st_aload_n dX4_init_23 rfl rfl) ?_
  refine aoc_s (st_iconst dX4_init_24 ic_0) ?_
  refine aoc_chk (fun e29 => ?_)
  refine aoc_putI dX4_init_25 fl_X4_22 rfl rfl rfl rfl e29 ?_
  refine aoc_letH (fun h30 => ?_)
  refine aoc_s (st_aload_n dX4_init_28 rfl rfl) ?_
  refine aoc_s (st_iconst dX4_init_29 ic_0) ?_
  refine aoc_chk (fun e31 => ?_)
  refine aoc_putI dX4_init_30 fl_X4_26 rfl rfl rfl rfl e31 ?_
  refine aoc_letH (fun h32 => ?_)
  refine aoc_s (st_aload_n dX4_init_33 rfl rfl) ?_
  refine aoc_s (st_bipush dX4_init_34 bp_m2) ?_
  refine aoc_chk (fun e33 => ?_)
  refine aoc_putI dX4_init_36 fl_X4_29 rfl rfl rfl rfl e33 ?_
  refine aoc_letH (fun h34 => ?_)
  refine aoc_s (st_aload_n dX4_init_39 rfl rfl) ?_
  refine aoc_s (st_iconst dX4_init_40 ic_0) ?_
  refine aoc_chk (fun e35 => ?_)
  refine aoc_putI dX4_init_41 fl_X4_32 rfl rfl rfl rfl e35 ?_
  refine aoc_letH (fun h36 => ?_)
  refine aoc_s (st_aload_n dX4_init_44 rfl rfl) ?_
  refine aoc_s (st_bipush dX4_init_45 bp_m2) ?_
  refine aoc_chk (fun e37 => ?_)
  refine aoc_putI dX4_init_47 fl_X4_35 rfl rfl rfl rfl e37 ?_
  refine aoc_letH (fun h38 => ?_)
  refine aoc_s (st_aload_n dX4_init_50 rfl rfl) ?_
  refine aoc_s (st_bipush dX4_init_51 bp_m2) ?_
  refine aoc_chk (fun e39 => ?_)
  refine aoc_putI dX4_init_53 fl_X4_38 rfl rfl rfl rfl e39 ?_
  refine aoc_letH (fun h40 => ?_)
  refine aoc_s (st_aload_n dX4_init_56 rfl rfl) ?_
  refine aoc_s (st_aload_n dX4_init_57 rfl rfl) ?_
  refine aoc_chk (fun e41 => ?_)
  refine aoc_putR dX4_init_58 fl_X4_41 rfl (Or.inr ⟨rfl, rfl, rfl⟩) e41 ?_
  refine aoc_letH (fun h42 => ?_)
  exact aoc_vr dX4_init_61 rfl
def f_X5_init (h : aH) (a0 : Nat) : Option (Unit × aH) :=
(if sh h.1 = (0, 256) ∧ h.1 < aSB then
(aLet (aN h) fun h21 =>
(if a0 < h21.1 ∧ (sh a0).1 = 12 then
(aLet (pR h21 a0 0 (some h.1)) fun h23 =>
(if sh h23.1 = (0, 12) ∧ h23.1 < aSB then
(aLet (aN h23) fun h24 =>
(if a0 < h24.1 ∧ (sh a0).1 = 12 then
(aLet (pR h24 a0 1 (some h23.1)) fun h26 =>
(if sh h26.1 = (0, 12) ∧ h26.1 < aSB then
(aLet (aN h26) fun h27 =>
(if a0 < h27.1 ∧ (sh a0).1 = 12 then
(aLet (pR h27 a0 2 (some h26.1)) fun h29 =>
(if sh h29.1 = (0, 12) ∧ h29.1 < aSB then
(aLet (aN h29) fun h30 =>
(if a0 < h30.1 ∧ (sh a0).1 = 12 then
(aLet (pR h30 a0 3 (some h29.1)) fun h32 =>
(if a0 < h32.1 ∧ (sh a0).1 = 12 then
(aLet (pI h32 a0 4 0) fun h34 =>
(if a0 < h34.1 ∧ (sh a0).1 = 12 then
(aLet (pI h34 a0 5 0) fun h36 =>
some ((), h36))
else none))
else none))
else none))
else none))
else none))
else none))
else none))
else none))
else none))
else none)
set_option maxHeartbeats 2000000 in
theorem s_X5_init (h : aH) (a0 : Nat) : SOc eV 1 kX5_init [.ref a0] h (f_X5_init h a0) := by
  refine soc_of (lv0 := [some (.ref a0)]) pn_X5 (Nat.le_of_ble_eq_true rfl) rfl ?_
  unfold f_X5_init
  refine aoc_s (st_aload_n dX5_init_0 rfl rfl) ?_
  refine aoc_obj dX5_init_1 ml_X5_1 (Nat.le_of_ble_eq_true rfl) (by decide) ?_
  refine aoc_s (st_aload_n dX5_init_4 rfl rfl) ?_
  refine aoc_s (st_sipush dX5_init_5 sp_256) ?_
  refine aoc_newa0 (N := 256) dX5_init_8 (by decide) ?_
  refine aoc_letH (fun h21 => ?_)
  refine aoc_chk (fun e22 => ?_)
  refine aoc_putR dX5_init_10 fl_X5_9 rfl (Or.inr ⟨rfl, rfl, rfl⟩) e22 ?_
  refine aoc_letH (fun h23 => ?_)
  refine aoc_s (st_aload_n dX5_init_13 rfl rfl) ?_
  refine aoc_s (st_bipush dX5_init_14 bp_12) ?_
  refine aoc_newa0 (N := 12) dX5_init_16 (by decide) ?_
  refine aoc_letH (fun h24 => ?_)
  refine aoc_chk (fun e25 => ?_)
  refine aoc_putR dX5_init_18 fl_X5_13 rfl (Or.inr ⟨rfl, rfl, rfl⟩) e25 ?_
  refine aoc_letH (fun h26 => ?_)
  refine aoc_s (st_aload_n dX5_init_21 rfl rfl) ?_
  refine aoc_s (st_bipush dX5_init_22 bp_12) ?_
  refine aoc_newa0 (N := 12) dX5_init_24 (by decide) ?_
  refine aoc_letH (fun h27 => ?_)
  refine aoc_chk (fun e28 => ?_)
  refine aoc_putR dX5_init_26 fl_X5_16 rfl (Or.inr ⟨rfl, rfl, rfl⟩) e28 ?_
  refine aoc_letH (fun h29 => ?_)
  refine aoc_s (st_aload_n dX5_init_29 rfl rfl) ?_
  refine aoc_s (st_bipush dX5_init_30 bp_12) ?_
  refine aoc_newa0 (N := 12) dX5_init_32 (by decide) ?_
  refine aoc_letH (fun h30 => ?_)
  refine aoc_chk (fun e31 => ?_)
  refine aoc_putR dX5_init_34 fl_X5_19 rfl (Or.inr ⟨rfl, rfl, rfl⟩) e31 ?_
  refine aoc_letH (fun h32 => ?_)
  refine aoc_s (st_aload_n dX5_init_37 rfl rfl) ?_
  refine aoc_s (st_iconst dX5_init_38 ic_0) ?_
  refine aoc_chk (fun e33 => ?_)
  refine aoc_putI dX5_init_39 fl_X5_22 rfl rfl rfl rfl e33 ?_
  refine aoc_letH (fun h34 => ?_)
  refine aoc_s (st_aload_n dX5_init_42 rfl rfl) ?_
  refine aoc_s (st_iconst dX5_init_43 ic_0) ?_
  refine aoc_chk (fun e35 => ?_)
  refine aoc_putI dX5_init_44 fl_X5_26 rfl rfl rfl rfl e35 ?_
  refine aoc_letH (fun h36 => ?_)
  exact aoc_vr dX5_init_47 rfl
def f_X6_init (h : aH) (a0 : Nat) (a1 : Nat) : Option (Unit × aH) :=
(if sh h.1 = (5 + 7, cN 5) ∧ h.1 < aSB then
(aLet (aN h) fun h21 =>
(aBind (f_X5_init h21 h.1) fun r22 h23 =>
(if a0 < h23.1 ∧ (sh a0).1 = 13 then
(aLet (pR h23 a0 1 (some h.1)) fun h25 =>
(if a0 < h25.1 ∧ (sh a0).1 = 13 then
(aLet (pI h25 a0 2 0) fun h27 =>
(if a0 < h27.1 ∧ (sh a0).1 = 13 then
(aLet (pR h27 a0 0 (some a1)) fun h29 =>
some ((), h29))
else none))
else none))
else none)))
else none)
set_option maxHeartbeats 2000000 in
theorem s_X6_init (h : aH) (a0 : Nat) (a1 : Nat) : SOc eV 2 kX6_init [.ref a0, .ref a1] h (f_X6_init h a0 a1) := by
  refine soc_of (lv0 := [some (.ref a0), some (.ref a1)]) pn_X6 (Nat.le_of_ble_eq_true rfl) rfl ?_
  unfold f_X6_init
  refine aoc_s (st_aload_n dX6_init_0 rfl rfl) ?_
  refine aoc_obj dX6_init_1 ml_X6_3 (Nat.le_of_ble_eq_true rfl) (by decide) ?_
  refine aoc_s (st_aload_n dX6_init_4 rfl rfl) ?_
  refine aoc_new (ci := 5) dX6_init_5 cw_X6_9 (by decide) ?_
  refine aoc_letH (fun h21 => ?_)
  refine aoc_s (st_dup dX6_init_8 rfl) ?_
  refine aoc_callI (Kc := kX5_init) (As := []) (st := [.ref h.1, .ref a0]) dX6_init_9 (Or.inr (by decide +kernel)) mi_X5_init mn_X5_init rfl rfl rfl rfl (Nat.le_of_ble_eq_true rfl) (by decide) (s_X5_init h21 h.1) (fun r22 h23 => ?_)
  refine aoc_chk (fun e24 => ?_)
  refine aoc_putR dX6_init_12 fl_X6_12 rfl (Or.inl rfl) e24 ?_
  refine aoc_letH (fun h25 => ?_)
  refine aoc_s (st_aload_n dX6_init_15 rfl rfl) ?_
  refine aoc_s (st_iconst dX6_init_16 ic_0) ?_
  refine aoc_chk (fun e26 => ?_)
  refine aoc_putI dX6_init_17 fl_X6_18 rfl rfl rfl rfl e26 ?_
  refine aoc_letH (fun h27 => ?_)
  refine aoc_s (st_aload_n dX6_init_20 rfl rfl) ?_
  refine aoc_s (st_aload_n dX6_init_21 rfl rfl) ?_
  refine aoc_chk (fun e28 => ?_)
  refine aoc_putR dX6_init_22 fl_X6_22 rfl (Or.inr ⟨rfl, rfl, rfl⟩) e28 ?_
  refine aoc_letH (fun h29 => ?_)
  exact aoc_vr dX6_init_25 rfl
def f_X7_init (h : aH) (a0 : Nat) : Option (Unit × aH) :=
(if sh h.1 = (0, 4) ∧ h.1 < aSB then
(aLet (aN h) fun h21 =>
(if a0 < h21.1 ∧ (sh a0).1 = 14 then
(aLet (pR h21 a0 0 (some h.1)) fun h23 =>
(if sh h23.1 = (0, 4) ∧ h23.1 < aSB then
(aLet (aN h23) fun h24 =>
(if a0 < h24.1 ∧ (sh a0).1 = 14 then
(aLet (pR h24 a0 1 (some h23.1)) fun h26 =>
(if sh h26.1 = (0, 4) ∧ h26.1 < aSB then
(aLet (aN h26) fun h27 =>
(if a0 < h27.1 ∧ (sh a0).1 = 14 then
(aLet (pR h27 a0 2 (some h26.1)) fun h29 =>
(if a0 < h29.1 ∧ (sh a0).1 = 14 then
(aLet (pI h29 a0 3 0) fun h31 =>
(if a0 < h31.1 ∧ (sh a0).1 = 14 then
(aLet (pI h31 a0 4 0) fun h33 =>
some ((), h33))
else none))
else none))
else none))
else none))
else none))
else none))
else none))
else none)
set_option maxHeartbeats 2000000 in
theorem s_X7_init (h : aH) (a0 : Nat) : SOc eV 1 kX7_init [.ref a0] h (f_X7_init h a0) := by
  refine soc_of (lv0 := [some (.ref a0)]) pn_X7 (Nat.le_of_ble_eq_true rfl) rfl ?_
  unfold f_X7_init
  refine aoc_s (st_aload_n dX7_init_0 rfl rfl) ?_
  refine aoc_obj dX7_init_1 ml_X7_3 (Nat.le_of_ble_eq_true rfl) (by decide) ?_
  refine aoc_s (st_aload_n dX7_init_4 rfl rfl) ?_
  refine aoc_s (st_iconst dX7_init_5 ic_4) ?_
  refine aoc_newa0 (N := 4) dX7_init_6 (by decide) ?_
  refine aoc_letH (fun h21 => ?_)
  refine aoc_chk (fun e22 => ?_)
  refine aoc_putR dX7_init_8 fl_X7_9 rfl (Or.inr ⟨rfl, rfl, rfl⟩) e22 ?_
  refine aoc_letH (fun h23 => ?_)
  refine aoc_s (st_aload_n dX7_init_11 rfl rfl) ?_
  refine aoc_s (st_iconst dX7_init_12 ic_4) ?_
  refine aoc_newa0 (N := 4) dX7_init_13 (by decide) ?_
  refine aoc_letH (fun h24 => ?_)
  refine aoc_chk (fun e25 => ?_)
  refine aoc_putR dX7_init_15 fl_X7_15 rfl (Or.inr ⟨rfl, rfl, rfl⟩) e25 ?_
  refine aoc_letH (fun h26 => ?_)
  refine aoc_s (st_aload_n dX7_init_18 rfl rfl) ?_
  refine aoc_s (st_iconst dX7_init_19 ic_4) ?_
  refine aoc_newa0 (N := 4) dX7_init_20 (by decide) ?_
  refine aoc_letH (fun h27 => ?_)
  refine aoc_chk (fun e28 => ?_)
  refine aoc_putR dX7_init_22 fl_X7_18 rfl (Or.inr ⟨rfl, rfl, rfl⟩) e28 ?_
  refine aoc_letH (fun h29 => ?_)
  refine aoc_s (st_aload_n dX7_init_25 rfl rfl) ?_
  refine aoc_s (st_iconst dX7_init_26 ic_0) ?_
  refine aoc_chk (fun e30 => ?_)
  refine aoc_putI dX7_init_27 fl_X7_21 rfl rfl rfl rfl e30 ?_
  refine aoc_letH (fun h31 => ?_)
  refine aoc_s (st_aload_n dX7_init_30 rfl rfl) ?_
  refine aoc_s (st_iconst dX7_init_31 ic_0) ?_
  refine aoc_chk (fun e32 => ?_)
  refine aoc_putI dX7_init_32 fl_X7_25 rfl rfl rfl rfl e32 ?_
  refine aoc_letH (fun h33 => ?_)
  exact aoc_vr dX7_init_35 rfl
def f_X9_init (h : aH) (a0 : Nat) : Option (Unit × aH) :=
(if sh h.1 = (1, 400) ∧ h.1 < aSB then
(aLet (aN h) fun h21 =>
(if a0 < h21.1 ∧ (sh a0).1 = 16 then
(aLet (pR h21 a0 0 (some h.1)) fun h23 =>
(if a0 < h23.1 ∧ (sh a0).1 = 16 then
(aLet (pI h23 a0 1 0) fun h25 =>
(if a0 < h25.1 ∧ (sh a0).1 = 16 then
(aLet (pI h25 a0 2 0) fun h27 =>
(if a0 < h27.1 ∧ (sh a0).1 = 16 then
(aLet (pI h27 a0 3 0) fun h29 =>
some ((), h29))
else none))
else none))
else none))
else none))
else none)
set_option maxHeartbeats 2000000 in
theorem s_X9_init (h : aH) (a0 : Nat) : SOc eV 1 kX9_init [.ref a0] h (f_X9_init h a0) := by
  refine soc_of (lv0 := [some (.ref a0)]) pn_X9 (Nat.le_of_ble_eq_true rfl) rfl ?_
  unfold f_X9_init
  refine aoc_s (st_aload_n dX9_init_0 rfl rfl) ?_
  refine aoc_obj dX9_init_1 ml_X9_3 (Nat.le_of_ble_eq_true rfl) (by decide) ?_
  refine aoc_s (st_aload_n dX9_init_4 rfl rfl) ?_
  refine aoc_s (st_sipush dX9_init_5 sp_400) ?_
  refine aoc_newa1 (N := 400) dX9_init_8 (by decide) ?_
  refine aoc_letH (fun h21 => ?_)
  refine aoc_chk (fun e22 => ?_)
  refine aoc_putR dX9_init_10 fl_X9_9 rfl (Or.inr ⟨rfl, rfl, rfl⟩) e22 ?_
  refine aoc_letH (fun h23 => ?_)
  refine aoc_s (st_aload_n dX9_init_13 rfl rfl) ?_
  refine aoc_s (st_iconst dX9_init_14 ic_0) ?_
  refine aoc_chk (fun e24 => ?_)
  refine aoc_putI dX9_init_15 fl_X9_15 rfl rfl rfl rfl e24 ?_
  refine aoc_letH (fun h25 => ?_)
  refine aoc_s (st_aload_n dX9_init_18 rfl rfl) ?_
  refine aoc_s (st_iconst dX9_init_19 ic_0) ?_
  refine aoc_chk (fun e26 => ?_)
  refine aoc_putI dX9_init_20 fl_X9_19 rfl rfl rfl rfl e26 ?_
  refine aoc_letH (fun h27 => ?_)
  refine aoc_s (st_aload_n dX9_init_23 rfl rfl) ?_
  refine aoc_s (st_iconst dX9_init_24 ic_0) ?_
  refine aoc_chk (fun e28 => ?_)
  refine aoc_putI dX9_init_25 fl_X9_22 rfl rfl rfl rfl e28 ?_
  refine aoc_letH (fun h29 => ?_)
  exact aoc_vr dX9_init_28 rfl
def f_X10_init (h : aH) (a0 : Nat) : Option (Unit × aH) :=
(if sh h.1 = (8 + 7, cN 8) ∧ h.1 < aSB then
(aLet (aN h) fun h21 =>
(aBind (f_X8_init h21 h.1) fun r22 h23 =>
(if a0 < h23.1 ∧ (sh a0).1 = 17 then
(aLet (pR h23 a0 0 (some h.1)) fun h25 =>
(if sh h25.1 = (8 + 7, cN 8) ∧ h25.1 < aSB then
(aLet (aN h25) fun h26 =>
(aBind (f_X8_init h26 h25.1) fun r27 h28 =>
(if a0 < h28.1 ∧ (sh a0).1 = 17 then
(aLet (pR h28 a0 1 (some h25.1)) fun h30 =>
(if sh h30.1 = (0, 10) ∧ h30.1 < aSB then
(aLet (aN h30) fun h31 =>
(if a0 < h31.1 ∧ (sh a0).1 = 17 then
(aLet (pR h31 a0 2 (some h30.1)) fun h33 =>
(if sh h33.1 = (0, 10) ∧ h33.1 < aSB then
(aLet (aN h33) fun h34 =>
(if a0 < h34.1 ∧ (sh a0).1 = 17 then
(aLet (pR h34 a0 3 (some h33.1)) fun h36 =>
(if sh h36.1 = (0, 10) ∧ h36.1 < aSB then
(aLet (aN h36) fun h37 =>
(if a0 < h37.1 ∧ (sh a0).1 = 17 then
(aLet (pR h37 a0 4 (some h36.1)) fun h39 =>
(if a0 < h39.1 ∧ (sh a0).1 = 17 then
(aLet (pI h39 a0 5 0) fun h41 =>
(if a0 < h41.1 ∧ (sh a0).1 = 17 then
(aLet (pI h41 a0 6 (-1)) fun h43 =>
(if a0 < h43.1 ∧ (sh a0).1 = 17 then
(aLet (pI h43 a0 7 0) fun h45 =>
(if a0 < h45.1 ∧ (sh a0).1 = 17 then
(aLet (pI h45 a0 8 0) fun h47 =>
some ((), h47))
else none))
else none))
else none))
else none))
else none))
else none))
else none))
else none))
else none))
else none))
else none)))
else none))
else none)))
else none)
set_option maxHeartbeats 2000000 in
theorem s_X10_init (h : aH) (a0 : Nat) : SOc eV 2 kX10_init [.ref a0] h (f_X10_init h a0) := by
  refine soc_of (lv0 := [some (.ref a0)]) pn_X10 (Nat.le_of_ble_eq_true rfl) rfl ?_
  unfold f_X10_init
  refine aoc_s (st_aload_n dX10_init_0 rfl rfl) ?_
  refine aoc_obj dX10_init_1 ml_X10_3 (Nat.le_of_ble_eq_true rfl) (by decide) ?_
  refine aoc_s (st_aload_n dX10_init_4 rfl rfl) ?_
  refine aoc_new (ci := 8) dX10_init_5 cw_X10_9 (by decide) ?_
  refine aoc_letH (fun h21 => ?_)
  refine aoc_s (st_dup dX10_init_8 rfl) ?_
  refine aoc_callI (Kc := kX8_init) (As := []) (st := [.ref h.1, .ref a0]) dX10_init_9 (Or.inr (by decide +kernel)) mi_X8_init mn_X8_init rfl rfl rfl rfl (Nat.le_of_ble_eq_true rfl) (by decide) (s_X8_init h21 h.1) (fun r22 h23 => ?_)
  refine aoc_chk (fun e24 => ?_)
  refine aoc_putR dX10_init_12 fl_X10_12 rfl (Or.inr ⟨rfl, rfl, rfl⟩) e24 ?_
  refine aoc_letH (fun h25 => ?_)
  refine aoc_s (st_aload_n dX10_init_15 rfl rfl) ?_
  refine aoc_new (ci := 8) dX10_init_16 cw_X10_9 (by decide) ?_
  refine aoc_letH (fun h26 => ?_)
  refine aoc_s (st_dup dX10_init_19 rfl) ?_
  refine aoc_callI (Kc := kX8_init) (As := []) (st := [.ref h25.1, .ref a0]) dX10_init_20 (Or.inr (by decide +kernel)) mi_X8_init mn_X8_init rfl rfl rfl rfl (Nat.le_of_ble_eq_true rfl) (by decide) (s_X8_init h26 h25.1) (fun r27 h28 => ?_)
  refine aoc_chk (fun e29 => ?_)
  refine aoc_putR dX10_init_23 fl_X10_18 rfl (Or.inr ⟨rfl, rfl, rfl⟩) e29 ?_
  refine aoc_letH (fun h30 => ?_)
  refine aoc_s (st_aload_n dX10_init_26 rfl rfl) ?_
  refine aoc_s (st_bipush dX10_init_27 bp_10) ?_
  refine aoc_newa0 (N := 10) dX10_init_29 (by decide) ?_
  refine aoc_letH (fun h31 => ?_)
  refine aoc_chk (fun e32 => ?_)
  refine aoc_putR dX10_init_31 fl_X10_21 rfl (Or.inr ⟨rfl, rfl, rfl⟩) e32 ?_
  refine aoc_letH (fun h33 => ?_)
  refine aoc_s (st_aload_n dX10_init_34 rfl rfl) ?_
  refine aoc_s (st_bipush dX10_init_35 bp_10) ?_
  refine aoc_newa0 (N := 10) dX10_init_37 (by decide) ?_
  refine aoc_letH (fun h34 => ?_)
  refine aoc_chk (fun e35 => ?_)
  refine aoc_putR dX10_init_39 fl_X10_25 rfl (Or.inr ⟨rfl, rfl, rfl⟩) e35 ?_
  refine aoc_letH (fun h36 => ?_)
  refine aoc_s (st_aload_n dX10_init_42 rfl rfl) ?_
  refine aoc_s (st_bipush dX10_init_43 bp_10) ?_
  refine aoc_newa0 (N := 10) dX10_init_45 (by decide) ?_
  refine aoc_letH (fun h37 => ?_)
  refine aoc_chk (fun e38 => ?_)
  refine aoc_putR dX10_init_47 fl_X10_28 rfl (Or.inr ⟨rfl, rfl, rfl⟩) e38 ?_
  refine aoc_letH (fun h39 => ?_)
  refine aoc_s (st_aload_n dX10_init_50 rfl rfl) ?_
  refine aoc_s (st_iconst dX10_init_51 ic_0) ?_
  refine aoc_chk (fun e40 => ?_)
  refine aoc_putI dX10_init_52 fl_X10_31 rfl rfl rfl rfl e40 ?_
  refine aoc_letH (fun h41 => ?_)
  refine aoc_s (st_aload_n dX10_init_55 rfl rfl) ?_
  refine aoc_s (st_iconst dX10_init_56 ic_m1) ?_
  refine aoc_chk (fun e42 => ?_)
  refine aoc_putI dX10_init_57 fl_X10_35 rfl rfl rfl rfl e42 ?_
  refine aoc_letH (fun h43 => ?_)
  refine aoc_s (st_aload_n dX10_init_60 rfl rfl) ?_
  refine aoc_s (st_iconst dX10_init_61 ic_0) ?_
  refine aoc_chk (fun e44 => ?_)
  refine aoc_putI dX10_init_62 fl_X10_38 rfl rfl rfl rfl e44 ?_
  refine aoc_letH (fun h45 => ?_)
  refine aoc_s (st_aload_n dX10_init_65 rfl rfl) ?_
  refine aoc_s (st_iconst dX10_init_66 ic_0) ?_
  refine aoc_chk (fun e46 => ?_)
  refine aoc_putI dX10_init_67 fl_X10_41 rfl rfl (by decide) (by decide) e46 ?_
  refine aoc_letH (fun h47 => ?_)
  exact aoc_vr dX10_init_70 rfl
def b_X11_init_215 (k215 : aH → Nat → Int32 → Option (Unit × aH)) (h : aH) (a0 : Nat) (x1 : Int32) : Option (Unit × aH) :=
(if 20 ≤ x1 then
some ((), h)
else
(if a0 < h.1 ∧ (sh a0).1 = 18 then
((hR h a0 7).bind fun b22 =>
(if sh h.1 = (8 + 7, cN 8) ∧ h.1 < aSB then
(aLet (aN h) fun h23 =>
(aBind (f_X8_init h23 h.1) fun r24 h25 =>
(if b22 < h25.1 ∧ (sh b22).1 = 5 ∧ aIn x1 (sh b22).2 ∧ h.1 < h25.1 ∧ (sh h.1).1 = 8 + 7 then
(aLet (pR h25 b22 x1.toNatClampNeg (some h.1)) fun h26 =>
k215 h26 a0 (x1 + 1))
else none)))
else none))
else none))
set_option maxHeartbeats 2000000 in
theorem t_X11_init_215 {k215 : aH → Nat → Int32 → Option (Unit × aH)} (hk215 : ∀ (h : aH) (a0 : Nat) (x1 : Int32), AOc aTr eV 3 kX11_init 215 [some (.ref a0), some (.int x1)] [] h (k215 h a0 x1)) (h : aH) (a0 : Nat) (x1 : Int32) : AOc aTr eV 3 kX11_init 215 [some (.ref a0), some (.int x1)] [] h (b_X11_init_215 k215 h a0 x1) := by
  unfold b_X11_init_215
  refine aoc_s (st_iload_n dX11_init_215 rfl rfl) ?_
  refine aoc_s (st_bipush dX11_init_216 bp_20) ?_
  refine aoc_br (br_icmp_ge (tgt := 240) dX11_init_218 (by decide)) (fun c27 => ?_) (fun c27 => ?_)
  · exact aoc_vr dX11_init_240 rfl
  · refine aoc_s (st_aload_n dX11_init_221 rfl rfl) ?_
    refine aoc_chk (fun e21 => ?_)
    refine aoc_getR dX11_init_222 fl_X11_55 rfl e21 (fun b22 => ?_)
    refine aoc_s (st_iload_n dX11_init_225 rfl rfl) ?_
    refine aoc_new (ci := 8) dX11_init_226 cw_X11_53 (by decide) ?_
    refine aoc_letH (fun h23 => ?_)
    refine aoc_s (st_dup dX11_init_229 rfl) ?_
    refine aoc_callI (Kc := kX8_init) (As := []) (st := [.ref h.1, .int x1, .ref b22]) dX11_init_230 (Or.inr (by decide +kernel)) mi_X8_init mn_X8_init rfl rfl rfl rfl (Nat.le_of_ble_eq_true rfl) (by decide) (s_X8_init h23 h.1) (fun r24 h25 => ?_)
    refine aoc_aast5 (ci := 8) dX11_init_233 (by decide) rfl ?_
    refine aoc_letH (fun h26 => ?_)
    refine aoc_s (st_iinc (lv' := [some (.ref a0), some (.int (x1 + 1))]) dX11_init_234 rfl nc_1 (by decide) rfl) ?_
    refine aoc_s (st_goto 215 dX11_init_237 (by decide)) ?_
    exact aoc_w (sb_s (sb_s sb_0)) (hk215 h26 a0 (x1 + 1))
def f_X11_init_215 (n : Nat) : aH → Nat → Int32 → Option (Unit × aH) := aIt (fun _ _ _ => none) (fun k => b_X11_init_215 k) n
theorem l_X11_init_215 (n : Nat) : ∀ (h : aH) (a0 : Nat) (x1 : Int32), AOc aTr eV 3 kX11_init 215 [some (.ref a0), some (.int x1)] [] h (f_X11_init_215 n h a0 x1) := by
  induction n with
  | zero => intros; exact aoc_none
  | succ n ih =>
    intro h a0 x1
    exact t_X11_init_215 ih h a0 x1
def b_X11_init_189 (k189 : aH → Nat → Int32 → Option (Unit × aH)) (h : aH) (a0 : Nat) (x1 : Int32) : Option (Unit × aH) :=
(if 4 ≤ x1 then
f_X11_init_215 2000 h a0 0
else
(if a0 < h.1 ∧ (sh a0).1 = 18 then
((hR h a0 6).bind fun b22 =>
(if sh h.1 = (10 + 7, cN 10) ∧ h.1 < aSB then
(aLet (aN h) fun h23 =>
(aBind (f_X10_init h23 h.1) fun r24 h25 =>
(if b22 < h25.1 ∧ (sh b22).1 = 6 ∧ aIn x1 (sh b22).2 ∧ h.1 < h25.1 ∧ (sh h.1).1 = 10 + 7 then
(aLet (pR h25 b22 x1.toNatClampNeg (some h.1)) fun h26 =>
k189 h26 a0 (x1 + 1))
else none)))
else none))
else none))
set_option maxHeartbeats 2000000 in
theorem t_X11_init_189 {k189 : aH → Nat → Int32 → Option (Unit × aH)} (hk189 : ∀ (h : aH) (a0 : Nat) (x1 : Int32), AOc aTr eV 3 kX11_init 189 [some (.ref a0), some (.int x1)] [] h (k189 h a0 x1)) (h : aH) (a0 : Nat) (x1 : Int32) : AOc aTr eV 3 kX11_init 189 [some (.ref a0), some (.int x1)] [] h (b_X11_init_189 k189 h a0 x1) := by
  unfold b_X11_init_189
  refine aoc_s (st_iload_n dX11_init_189 rfl rfl) ?_
  refine aoc_s (st_iconst dX11_init_190 ic_4) ?_
  refine aoc_br (br_icmp_ge (tgt := 213) dX11_init_191 (by decide)) (fun c27 => ?_) (fun c27 => ?_)
  · refine aoc_s (st_iconst dX11_init_213 ic_0) ?_
    refine aoc_s (st_istore_n (lv' := [some (.ref a0), some (.int 0)]) dX11_init_214 rfl (by decide) rfl) ?_
    exact aoc_w (sb_s (sb_s sb_0)) (l_X11_init_215 2000 h a0 0)
  · refine aoc_s (st_aload_n dX11_init_194 rfl rfl) ?_
    refine aoc_chk (fun e21 => ?_)
    refine aoc_getR dX11_init_195 fl_X11_49 rfl e21 (fun b22 => ?_)
    refine aoc_s (st_iload_n dX11_init_198 rfl rfl) ?_
    refine aoc_new (ci := 10) dX11_init_199 cw_X11_42 (by decide) ?_
    refine aoc_letH (fun h23 => ?_)
    refine aoc_s (st_dup dX11_init_202 rfl) ?_
    refine aoc_callI (Kc := kX10_init) (As := []) (st := [.ref h.1, .int x1, .ref b22]) dX11_init_203 (Or.inr (by decide +kernel)) mi_X10_init mn_X10_init rfl rfl rfl rfl (Nat.le_of_ble_eq_true rfl) (by decide) (s_X10_init h23 h.1) (fun r24 h25 => ?_)
    refine aoc_aast6 (ci := 10) dX11_init_206 (by decide) rfl ?_
    refine aoc_letH (fun h26 => ?_)
    refine aoc_s (st_iinc (lv' := [some (.ref a0), some (.int (x1 + 1))]) dX11_init_207 rfl nc_1 (by decide) rfl) ?_
    refine aoc_s (st_goto 189 dX11_init_210 (by decide)) ?_
    exact aoc_w (sb_s (sb_s sb_0)) (hk189 h26 a0 (x1 + 1))
def f_X11_init_189 (n : Nat) : aH → Nat → Int32 → Option (Unit × aH) := aIt (fun _ _ _ => none) (fun k => b_X11_init_189 k) n
theorem l_X11_init_189 (n : Nat) : ∀ (h : aH) (a0 : Nat) (x1 : Int32), AOc aTr eV 3 kX11_init 189 [some (.ref a0), some (.int x1)] [] h (f_X11_init_189 n h a0 x1) := by
  induction n with
  | zero => intros; exact aoc_none
  | succ n ih =>
    intro h a0 x1
    exact t_X11_init_189 ih h a0 x1
def b_X11_init_162 (k162 : aH → Nat → Int32 → Option (Unit × aH)) (h : aH) (a0 : Nat) (x1 : Int32) : Option (Unit × aH) :=
(if 6 ≤ x1 then
f_X11_init_189 2000 h a0 0
else
(if a0 < h.1 ∧ (sh a0).1 = 18 then
((hR h a0 3).bind fun b22 =>
(if sh h.1 = (5 + 7, cN 5) ∧ h.1 < aSB then
(aLet (aN h) fun h23 =>
(aBind (f_X5_init h23 h.1) fun r24 h25 =>
(if b22 < h25.1 ∧ (sh b22).1 = 4 ∧ aIn x1 (sh b22).2 ∧ h.1 < h25.1 ∧ (sh h.1).1 = 5 + 7 then
(aLet (pR h25 b22 x1.toNatClampNeg (some h.1)) fun h26 =>
k162 h26 a0 (x1 + 1))
else none)))
else none))
else none))
set_option maxHeartbeats 2000000 in
theorem t_X11_init_162 {k162 : aH → Nat → Int32 → Option (Unit × aH)} (hk162 : ∀ (h : aH) (a0 : Nat) (x1 : Int32), AOc aTr eV 3 kX11_init 162 [some (.ref a0), some (.int x1)] [] h (k162 h a0 x1)) (h : aH) (a0 : Nat) (x1 : Int32) : AOc aTr eV 3 kX11_init 162 [some (.ref a0), some (.int x1)] [] h (b_X11_init_162 k162 h a0 x1) := by
  unfold b_X11_init_162
  refine aoc_s (st_iload_n dX11_init_162 rfl rfl) ?_
  refine aoc_s (st_bipush dX11_init_163 bp_6) ?_
  refine aoc_br (br_icmp_ge (tgt := 187) dX11_init_165 (by decide)) (fun c27 => ?_) (fun c27 => ?_)
  · refine aoc_s (st_iconst dX11_init_187 ic_0) ?_
    refine aoc_s (st_istore_n (lv' := [some (.ref a0), some (.int 0)]) dX11_init_188 rfl (by decide) rfl) ?_
    exact aoc_w (sb_s (sb_s sb_0)) (l_X11_init_189 2000 h a0 0)
  · refine aoc_s (st_aload_n dX11_init_168 rfl rfl) ?_
    refine aoc_chk (fun e21 => ?_)
    refine aoc_getR dX11_init_169 fl_X11_34 rfl e21 (fun b22 => ?_)
    refine aoc_s (st_iload_n dX11_init_172 rfl rfl) ?_
    refine aoc_new (ci := 5) dX11_init_173 cw_X11_32 (by decide) ?_
    refine aoc_letH (fun h23 => ?_)
    refine aoc_s (st_dup dX11_init_176 rfl) ?_
    refine aoc_callI (Kc := kX5_init) (As := []) (st := [.ref h.1, .int x1, .ref b22]) dX11_init_177 (Or.inr (by decide +kernel)) mi_X5_init mn_X5_init rfl rfl rfl rfl (Nat.le_of_ble_eq_true rfl) (by decide) (s_X5_init h23 h.1) (fun r24 h25 => ?_)
    refine aoc_aast4 (ci := 5) dX11_init_180 (by decide) rfl ?_
    refine aoc_letH (fun h26 => ?_)
    refine aoc_s (st_iinc (lv' := [some (.ref a0), some (.int (x1 + 1))]) dX11_init_181 rfl nc_1 (by decide) rfl) ?_
    refine aoc_s (st_goto 162 dX11_init_184 (by decide)) ?_
    exact aoc_w (sb_s (sb_s sb_0)) (hk162 h26 a0 (x1 + 1))
def f_X11_init_162 (n : Nat) : aH → Nat → Int32 → Option (Unit × aH) := aIt (fun _ _ _ => none) (fun k => b_X11_init_162 k) n
theorem l_X11_init_162 (n : Nat) : ∀ (h : aH) (a0 : Nat) (x1 : Int32), AOc aTr eV 3 kX11_init 162 [some (.ref a0), some (.int x1)] [] h (f_X11_init_162 n h a0 x1) := by
  induction n with
  | zero => intros; exact aoc_none
  | succ n ih =>
    intro h a0 x1
    exact t_X11_init_162 ih h a0 x1
def f_X11_init (h : aH) (a0 : Nat) : Option (Unit × aH) :=
(if sh h.1 = (9 + 7, cN 9) ∧ h.1 < aSB then
(aLet (aN h) fun h21 =>
(aBind (f_X9_init h21 h.1) fun r22 h23 =>
(if a0 < h23.1 ∧ (sh a0).1 = 18 then
(aLet (pR h23 a0 0 (some h.1)) fun h25 =>
(if sh h25.1 = (2 + 7, cN 2) ∧ h25.1 < aSB then
(aLet (aN h25) fun h26 =>
(if a0 < h26.1 ∧ (sh a0).1 = 18 then
((hR h26 a0 0).bind fun b28 =>
(aBind (f_X2_init h26 h25.1 b28) fun r29 h30 =>
(if a0 < h30.1 ∧ (sh a0).1 = 18 then
(aLet (pR h30 a0 1 (some h25.1)) fun h32 =>
(if sh h32.1 = (6 + 7, cN 6) ∧ h32.1 < aSB then
(aLet (aN h32) fun h33 =>
(if a0 < h33.1 ∧ (sh a0).1 = 18 then
((hR h33 a0 0).bind fun b35 =>
(aBind (f_X6_init h33 h32.1 b35) fun r36 h37 =>
(if a0 < h37.1 ∧ (sh a0).1 = 18 then
(aLet (pR h37 a0 2 (some h32.1)) fun h39 =>
(if sh h39.1 = (4, 6) ∧ h39.1 < aSB then
(aLet (aN h39) fun h40 =>
(if a0 < h40.1 ∧ (sh a0).1 = 18 then
(aLet (pR h40 a0 3 (some h39.1)) fun h42 =>
(if a0 < h42.1 ∧ (sh a0).1 = 18 then
(aLet (pI h42 a0 4 0) fun h44 =>
(if sh h44.1 = (10 + 7, cN 10) ∧ h44.1 < aSB then
(aLet (aN h44) fun h45 =>
(aBind (f_X10_init h45 h44.1) fun r46 h47 =>
(if a0 < h47.1 ∧ (sh a0).1 = 18 then
(aLet (pR h47 a0 5 (some h44.1)) fun h49 =>
(if sh h49.1 = (6, 4) ∧ h49.1 < aSB then
(aLet (aN h49) fun h50 =>
(if a0 < h50.1 ∧ (sh a0).1 = 18 then
(aLet (pR h50 a0 6 (some h49.1)) fun h52 =>
(if sh h52.1 = (5, 20) ∧ h52.1 < aSB then
(aLet (aN h52) fun h53 =>
(if a0 < h53.1 ∧ (sh a0).1 = 18 then
(aLet (pR h53 a0 7 (some h52.1)) fun h55 =>
(if a0 < h55.1 ∧ (sh a0).1 = 18 then
(aLet (pI h55 a0 8 0) fun h57 =>
(if a0 < h57.1 ∧ (sh a0).1 = 18 then
(aLet (pI h57 a0 9 0) fun h59 =>
(if sh h59.1 = (8 + 7, cN 8) ∧ h59.1 < aSB then
(aLet (aN h59) fun h60 =>
(aBind (f_X8_init h60 h59.1) fun r61 h62 =>
(if a0 < h62.1 ∧ (sh a0).1 = 18 then
(aLet (pR h62 a0 10 (some h59.1)) fun h64 =>
(if sh h64.1 = (0 + 7, cN 0) ∧ h64.1 < aSB then
(aLet (aN h64) fun h65 =>
(aBind (f_X0_init h65 h64.1) fun r66 h67 =>
(if a0 < h67.1 ∧ (sh a0).1 = 18 then
(aLet (pR h67 a0 11 (some h64.1)) fun h69 =>
(if sh h69.1 = (1 + 7, cN 1) ∧ h69.1 < aSB then
(aLet (aN h69) fun h70 =>
(if a0 < h70.1 ∧ (sh a0).1 = 18 then
((hR h70 a0 11).bind fun b72 =>
(aBind (f_X1_init h70 h69.1 b72) fun r73 h74 =>
(if a0 < h74.1 ∧ (sh a0).1 = 18 then
(aLet (pR h74 a0 12 (some h69.1)) fun h76 =>
(if sh h76.1 = (7 + 7, cN 7) ∧ h76.1 < aSB then
(aLet (aN h76) fun h77 =>
(aBind (f_X7_init h77 h76.1) fun r78 h79 =>
(if a0 < h79.1 ∧ (sh a0).1 = 18 then
(aLet (pR h79 a0 13 (some h76.1)) fun h81 =>
(if sh h81.1 = (4 + 7, cN 4) ∧ h81.1 < aSB then
(aLet (aN h81) fun h82 =>
(if a0 < h82.1 ∧ (sh a0).1 = 18 then
((hR h82 a0 11).bind fun b84 =>
(aBind (f_X4_init h82 h81.1 b84) fun r85 h86 =>
(if a0 < h86.1 ∧ (sh a0).1 = 18 then
(aLet (pR h86 a0 14 (some h81.1)) fun h88 =>
f_X11_init_162 2000 h88 a0 0)
else none)))
else none))
else none))
else none)))
else none))
else none)))
else none))
else none))
else none)))
else none))
else none)))
else none))
else none))
else none))
else none))
else none))
else none))
else none))
else none)))
else none))
else none))
else none))
else none))
else none)))
else none))
else none))
else none)))
else none))
else none))
else none)))
else none)
set_option maxHeartbeats 2000000 in
theorem s_X11_init (h : aH) (a0 : Nat) : SOc eV 3 kX11_init [.ref a0] h (f_X11_init h a0) := by
  refine soc_of (lv0 := [some (.ref a0), none]) pn_X11 (Nat.le_of_ble_eq_true rfl) rfl ?_
  unfold f_X11_init
  refine aoc_s (st_aload_n dX11_init_0 rfl rfl) ?_
  refine aoc_obj dX11_init_1 ml_X11_3 (Nat.le_of_ble_eq_true rfl) (by decide) ?_
  refine aoc_s (st_aload_n dX11_init_4 rfl rfl) ?_
  refine aoc_new (ci := 9) dX11_init_5 cw_X11_9 (by decide) ?_
  refine aoc_letH (fun h21 => ?_)
  refine aoc_s (st_dup dX11_init_8 rfl) ?_
  refine aoc_callI (Kc := kX9_init) (As := []) (st := [.ref h.1, .ref a0]) dX11_init_9 (Or.inr (by decide +kernel)) mi_X9_init mn_X9_init rfl rfl rfl rfl (Nat.le_of_ble_eq_true rfl) (by decide) (s_X9_init h21 h.1) (fun r22 h23 => ?_)
  refine aoc_chk (fun e24 => ?_)
  refine aoc_putR dX11_init_12 fl_X11_12 rfl (Or.inr ⟨rfl, rfl, rfl⟩) e24 ?_
  refine aoc_letH (fun h25 => ?_)
  refine aoc_s (st_aload_n dX11_init_15 rfl rfl) ?_
  refine aoc_new (ci := 2) dX11_init_16 cw_X11_16 (by decide) ?_
  refine aoc_letH (fun h26 => ?_)
  refine aoc_s (st_dup dX11_init_19 rfl) ?_
  refine aoc_s (st_aload_n dX11_init_20 rfl rfl) ?_
  refine aoc_chk (fun e27 => ?_)
  refine aoc_getR dX11_init_21 fl_X11_12 rfl e27 (fun b28 => ?_)
  refine aoc_callI (Kc := kX2_init) (As := [.ref b28]) (st := [.ref h25.1, .ref a0]) dX11_init_24 (Or.inl ml_X11_18) mi_X2_init mn_X2_init rfl rfl rfl rfl (Nat.le_of_ble_eq_true rfl) (by decide) (s_X2_init h26 h25.1 b28) (fun r29 h30 => ?_)
  refine aoc_chk (fun e31 => ?_)
  refine aoc_putR dX11_init_27 fl_X11_21 rfl (Or.inr ⟨rfl, rfl, rfl⟩) e31 ?_
  refine aoc_letH (fun h32 => ?_)
  refine aoc_s (st_aload_n dX11_init_30 rfl rfl) ?_
  refine aoc_new (ci := 6) dX11_init_31 cw_X11_25 (by decide) ?_
  refine aoc_letH (fun h33 => ?_)
  refine aoc_s (st_dup dX11_init_34 rfl) ?_
  refine aoc_s (st_aload_n dX11_init_35 rfl rfl) ?_
  refine aoc_chk (fun e34 => ?_)
  refine aoc_getR dX11_init_36 fl_X11_12 rfl e34 (fun b35 => ?_)
  refine aoc_callI (Kc := kX6_init) (As := [.ref b35]) (st := [.ref h32.1, .ref a0]) dX11_init_39 (Or.inl ml_X11_27) mi_X6_init mn_X6_init rfl rfl rfl rfl (Nat.le_of_ble_eq_true rfl) (by decide) (s_X6_init h33 h32.1 b35) (fun r36 h37 => ?_)
  refine aoc_chk (fun e38 => ?_)
  refine aoc_putR dX11_init_42 fl_X11_28 rfl (Or.inr ⟨rfl, rfl, rfl⟩) e38 ?_
  refine aoc_letH (fun h39 => ?_)
  refine aoc_s (st_aload_n dX11_init_45 rfl rfl) ?_
  refine aoc_s (st_bipush dX11_init_46 bp_6) ?_
  refine aoc_newq4 (N := 6) dX11_init_48 cw1_X11_32 (by decide) ?_
  refine aoc_letH (fun h40 => ?_)
  refine aoc_chk (fun e41 => ?_)
  refine aoc_putR dX11_init_51 fl_X11_34 rfl (Or.inr ⟨rfl, rfl, rfl⟩) e41 ?_
  refine aoc_letH (fun h42 => ?_)
  refine aoc_s (st_aload_n dX11_init_54 rfl rfl) ?_
  refine aoc_s (st_iconst dX11_init_55 ic_0) ?_
  refine aoc_chk (fun e43 => ?_)
  refine aoc_putI dX11_init_56 fl_X11_38 rfl rfl rfl rfl e43 ?_
  refine aoc_letH (fun h44 => ?_)
  refine aoc_s (st_aload_n dX11_init_59 rfl rfl) ?_
  refine aoc_new (ci := 10) dX11_init_60 cw_X11_42 (by decide) ?_
  refine aoc_letH (fun h45 => ?_)
  refine aoc_s (st_dup dX11_init_63 rfl) ?_
  refine aoc_callI (Kc := kX10_init) (As := []) (st := [.ref h44.1, .ref a0]) dX11_init_64 (Or.inr (by decide +kernel)) mi_X10_init mn_X10_init rfl rfl rfl rfl (Nat.le_of_ble_eq_true rfl) (by decide) (s_X10_init h45 h44.1) (fun r46 h47 => ?_)
  refine aoc_chk (fun e48 => ?_)
  refine aoc_putR dX11_init_67 fl_X11_45 rfl (Or.inr ⟨rfl, rfl, rfl⟩) e48 ?_
  refine aoc_letH (fun h49 => ?_)
  refine aoc_s (st_aload_n dX11_init_70 rfl rfl) ?_
  refine aoc_s (st_iconst dX11_init_71 ic_4) ?_
  refine aoc_newq6 (N := 4) dX11_init_72 cw1_X11_42 (by decide) ?_
  refine aoc_letH (fun h50 => ?_)
  refine aoc_chk (fun e51 => ?_)
  refine aoc_putR dX11_init_75 fl_X11_49 rfl (Or.inr ⟨rfl, rfl, rfl⟩) e51 ?_
  refine aoc_letH (fun h52 => ?_)
  refine aoc_s (st_aload_n dX11_init_78 rfl rfl) ?_
  refine aoc_s (st_bipush dX11_init_79 bp_20) ?_
  refine aoc_newq5 (N := 20) dX11_init_81 cw1_X11_53 (by decide) ?_
  refine aoc_letH (fun h53 => ?_)
  refine aoc_chk (fun e54 => ?_)
  refine aoc_putR dX11_init_84 fl_X11_55 rfl (Or.inr ⟨rfl, rfl, rfl⟩) e54 ?_
  refine aoc_letH (fun h55 => ?_)
  refine aoc_s (st_aload_n dX11_init_87 rfl rfl) ?_
  refine aoc_s (st_iconst dX11_init_88 ic_0) ?_
  refine aoc_chk (fun e56 => ?_)
  refine aoc_putI dX11_init_89 fl_X11_59 rfl rfl rfl rfl e56 ?_
  refine aoc_letH (fun h57 => ?_)
  refine aoc_s (st_aload_n dX11_init_92 rfl rfl) ?_
  refine aoc_s (st_iconst dX11_init_93 ic_0) ?_
  refine aoc_chk (fun e58 => ?_)
  refine aoc_putI dX11_init_94 fl_X11_62 rfl rfl rfl rfl e58 ?_
  refine aoc_letH (fun h59 => ?_)
  refine aoc_s (st_aload_n dX11_init_97 rfl rfl) ?_
  refine aoc_new (ci := 8) dX11_init_98 cw_X11_53 (by decide) ?_
  refine aoc_letH (fun h60 => ?_)
  refine aoc_s (st_dup dX11_init_101 rfl) ?_
  refine aoc_callI (Kc := kX8_init) (As := []) (st := [.ref h59.1, .ref a0]) dX11_init_102 (Or.inr (by decide +kernel)) mi_X8_init mn_X8_init rfl rfl rfl rfl (Nat.le_of_ble_eq_true rfl) (by decide) (s_X8_init h60 h59.1) (fun r61 h62 => ?_)
  refine aoc_chk (fun e63 => ?_)
  refine aoc_putR dX11_init_105 fl_X11_66 rfl (Or.inr ⟨rfl, rfl, rfl⟩) e63 ?_
  refine aoc_letH (fun h64 => ?_)
  refine aoc_s (st_aload_n dX11_init_108 rfl rfl) ?_
  refine aoc_new (ci := 0) dX11_init_109 cw_X11_70 (by decide) ?_
  refine aoc_letH (fun h65 => ?_)
  refine aoc_s (st_dup dX11_init_112 rfl) ?_
  refine aoc_callI (Kc := kX0_init) (As := []) (st := [.ref h64.1, .ref a0]) dX11_init_113 (Or.inr (by decide +kernel)) mi_X0_init mn_X0_init rfl rfl rfl rfl (Nat.le_of_ble_eq_true rfl) (by decide) (s_X0_init h65 h64.1) (fun r66 h67 => ?_)
  refine aoc_chk (fun e68 => ?_)
  refine aoc_putR dX11_init_116 fl_X11_73 rfl (Or.inr ⟨rfl, rfl, rfl⟩) e68 ?_
  refine aoc_letH (fun h69 => ?_)
  refine aoc_s (st_aload_n dX11_init_119 rfl rfl) ?_
  refine aoc_new (ci := 1) dX11_init_120 cw_X11_77 (by decide) ?_
  refine aoc_letH (fun h70 => ?_)
  refine aoc_s (st_dup dX11_init_123 rfl) ?_
  refine aoc_s (st_aload_n dX11_init_124 rfl rfl) ?_
  refine aoc_chk (fun e71 => ?_)
  refine aoc_getR dX11_init_125 fl_X11_73 rfl e71 (fun b72 => ?_)
  refine aoc_callI (Kc := kX1_init) (As := [.ref b72]) (st := [.ref h69.1, .ref a0]) dX11_init_128 (Or.inl ml_X11_79) mi_X1_init mn_X1_init rfl rfl rfl rfl (Nat.le_of_ble_eq_true rfl) (by decide) (s_X1_init h70 h69.1 b72) (fun r73 h74 => ?_)
  refine aoc_chk (fun e75 => ?_)
  refine aoc_putR dX11_init_131 fl_X11_82 rfl (Or.inr ⟨rfl, rfl, rfl⟩) e75 ?_
  refine aoc_letH (fun h76 => ?_)
  refine aoc_s (st_aload_n dX11_init_134 rfl rfl) ?_
  refine aoc_new (ci := 7) dX11_init_135 cw_X11_86 (by decide) ?_
  refine aoc_letH (fun h77 => ?_)
  refine aoc_s (st_dup dX11_init_138 rfl) ?_
  refine aoc_callI (Kc := kX7_init) (As := []) (st := [.ref h76.1, .ref a0]) dX11_init_139 (Or.inr (by decide +kernel)) mi_X7_init mn_X7_init rfl rfl rfl rfl (Nat.le_of_ble_eq_true rfl) (by decide) (s_X7_init h77 h76.1) (fun r78 h79 => ?_)
  refine aoc_chk (fun e80 => ?_)
  refine aoc_putR dX11_init_142 fl_X11_89 rfl (Or.inr ⟨rfl, rfl, rfl⟩) e80 ?_
  refine aoc_letH (fun h81 => ?_)
  refine aoc_s (st_aload_n dX11_init_145 rfl rfl) ?_
  refine aoc_new (ci := 4) dX11_init_146 cw_X11_93 (by decide) ?_
  refine aoc_letH (fun h82 => ?_)
  refine aoc_s (st_dup dX11_init_149 rfl) ?_
  refine aoc_s (st_aload_n dX11_init_150 rfl rfl) ?_
  refine aoc_chk (fun e83 => ?_)
  refine aoc_getR dX11_init_151 fl_X11_73 rfl e83 (fun b84 => ?_)
  refine aoc_callI (Kc := kX4_init) (As := [.ref b84]) (st := [.ref h81.1, .ref a0]) dX11_init_154 (Or.inl ml_X11_95) mi_X4_init mn_X4_init rfl rfl rfl rfl (Nat.le_of_ble_eq_true rfl) (by decide) (s_X4_init h82 h81.1 b84) (fun r85 h86 => ?_)
  refine aoc_chk (fun e87 => ?_)
  refine aoc_putR dX11_init_157 fl_X11_96 rfl (Or.inr ⟨rfl, rfl, rfl⟩) e87 ?_
  refine aoc_letH (fun h88 => ?_)
  refine aoc_s (st_iconst dX11_init_160 ic_0) ?_
  refine aoc_s (st_istore_n (lv' := [some (.ref a0), some (.int 0)]) dX11_init_161 rfl (by decide) rfl) ?_
  exact aoc_w (sb_s (sb_s sb_0)) (l_X11_init_162 2000 h88 a0 0)
def f_X12_init (h : aH) (a0 : Nat) : Option (Unit × aH) :=
(if sh h.1 = (1, 400) ∧ h.1 < aSB then
(aLet (aN h) fun h21 =>
(if a0 < h21.1 ∧ (sh a0).1 = 19 then
(aLet (pR h21 a0 0 (some h.1)) fun h23 =>
(if sh h23.1 = (0, 2400) ∧ h23.1 < aSB then
(aLet (aN h23) fun h24 =>
(if a0 < h24.1 ∧ (sh a0).1 = 19 then
(aLet (pR h24 a0 3 (some h23.1)) fun h26 =>
(if sh h26.1 = (0, 7) ∧ h26.1 < aSB then
(aLet (aN h26) fun h27 =>
(if a0 < h27.1 ∧ (sh a0).1 = 19 then
(aLet (pR h27 a0 4 (some h26.1)) fun h29 =>
(if sh h29.1 = (0, 288) ∧ h29.1 < aSB then
(aLet (aN h29) fun h30 =>
(if a0 < h30.1 ∧ (sh a0).1 = 19 then
(aLet (pR h30 a0 5 (some h29.1)) fun h32 =>
(if sh h32.1 = (0, 6) ∧ h32.1 < aSB then
(aLet (aN h32) fun h33 =>
(if a0 < h33.1 ∧ (sh a0).1 = 19 then
(aLet (pR h33 a0 6 (some h32.1)) fun h35 =>
(if sh h35.1 = (0, 153) ∧ h35.1 < aSB then
(aLet (aN h35) fun h36 =>
(if a0 < h36.1 ∧ (sh a0).1 = 19 then
(aLet (pR h36 a0 7 (some h35.1)) fun h38 =>
(if sh h38.1 = (0, 400) ∧ h38.1 < aSB then
(aLet (aN h38) fun h39 =>
(if a0 < h39.1 ∧ (sh a0).1 = 19 then
(aLet (pR h39 a0 15 (some h38.1)) fun h41 =>
(if sh h41.1 = (3, 64) ∧ h41.1 < aSB then
(aLet (aN h41) fun h42 =>
(if a0 < h42.1 ∧ (sh a0).1 = 19 then
(aLet (pR h42 a0 17 (some h41.1)) fun h44 =>
(if sh h44.1 = (3, 11) ∧ h44.1 < aSB then
(aLet (aN h44) fun h45 =>
(if a0 < h45.1 ∧ (sh a0).1 = 19 then
(aLet (pR h45 a0 19 (some h44.1)) fun h47 =>
(if sh h47.1 = (0, 184) ∧ h47.1 < aSB then
(aLet (aN h47) fun h48 =>
(if a0 < h48.1 ∧ (sh a0).1 = 19 then
(aLet (pR h48 a0 20 (some h47.1)) fun h50 =>
(if a0 < h50.1 ∧ (sh a0).1 = 19 then
(aLet (pI h50 a0 21 (-1)) fun h52 =>
(if sh h52.1 = (0, 4) ∧ h52.1 < aSB then
(aLet (aN h52) fun h53 =>
(if a0 < h53.1 ∧ (sh a0).1 = 19 then
(aLet (pR h53 a0 24 (some h52.1)) fun h55 =>
(if sh h55.1 = (0, 4) ∧ h55.1 < aSB then
(aLet (aN h55) fun h56 =>
(if a0 < h56.1 ∧ (sh a0).1 = 19 then
(aLet (pR h56 a0 25 (some h55.1)) fun h58 =>
(if sh h58.1 = (2, 4) ∧ h58.1 < aSB then
(aLet (aN h58) fun h59 =>
(if a0 < h59.1 ∧ (sh a0).1 = 19 then
(aLet (pR h59 a0 26 (some h58.1)) fun h61 =>
(if sh h61.1 = (0, 4) ∧ h61.1 < aSB then
(aLet (aN h61) fun h62 =>
(if a0 < h62.1 ∧ (sh a0).1 = 19 then
(aLet (pR h62 a0 27 (some h61.1)) fun h64 =>
(if sh h64.1 = (0, 1360) ∧ h64.1 < aSB then
(aLet (aN h64) fun h65 =>
(if a0 < h65.1 ∧ (sh a0).1 = 19 then
(aLet (pR h65 a0 28 (some h64.1)) fun h67 =>
(if sh h67.1 = (0, 68) ∧ h67.1 < aSB then
(aLet (aN h67) fun h68 =>
(if a0 < h68.1 ∧ (sh a0).1 = 19 then
(aLet (pR h68 a0 30 (some h67.1)) fun h70 =>
(if sh h70.1 = (0, 4) ∧ h70.1 < aSB then
(aLet (aN h70) fun h71 =>
(if a0 < h71.1 ∧ (sh a0).1 = 19 then
(aLet (pR h71 a0 31 (some h70.1)) fun h73 =>
(if sh h73.1 = (0, 4) ∧ h73.1 < aSB then
(aLet (aN h73) fun h74 =>
(if a0 < h74.1 ∧ (sh a0).1 = 19 then
(aLet (pR h74 a0 32 (some h73.1)) fun h76 =>
(if sh h76.1 = (2, 7) ∧ h76.1 < aSB then
(aLet (aN h76) fun h77 =>
(if a0 < h77.1 ∧ (sh a0).1 = 19 then
(aLet (pR h77 a0 33 (some h76.1)) fun h79 =>
(if sh h79.1 = (0, 28) ∧ h79.1 < aSB then
(aLet (aN h79) fun h80 =>
(if a0 < h80.1 ∧ (sh a0).1 = 19 then
(aLet (pR h80 a0 34 (some h79.1)) fun h82 =>
(if sh h82.1 = (0, 736) ∧ h82.1 < aSB then
(aLet (aN h82) fun h83 =>
(if a0 < h83.1 ∧ (sh a0).1 = 19 then
(aLet (pR h83 a0 36 (some h82.1)) fun h85 =>
(if sh h85.1 = (0, 4) ∧ h85.1 < aSB then
(aLet (aN h85) fun h86 =>
(if a0 < h86.1 ∧ (sh a0).1 = 19 then
(aLet (pR h86 a0 37 (some h85.1)) fun h88 =>
(if sh h88.1 = (0, 4) ∧ h88.1 < aSB then
(aLet (aN h88) fun h89 =>
(if a0 < h89.1 ∧ (sh a0).1 = 19 then
(aLet (pR h89 a0 38 (some h88.1)) fun h91 =>
(if sh h91.1 = (2, 4) ∧ h91.1 < aSB then
(aLet (aN h91) fun h92 =>
(if a0 < h92.1 ∧ (sh a0).1 = 19 then
(aLet (pR h92 a0 39 (some h91.1)) fun h94 =>
some ((), h94))
else none))
else none))
else none))
else none))
else none))
else none))
else none))
else none))
else none))
else none))
else none))
else none))
else none))
else none))
else none))
else none))
else none))
else none))
else none))
else none))
else none))
else none))
else none))
else none))
else none))
else none))
else none))
else none))
else none))
else none))
else none))
else none))
else none))
else none))
else none))
else none))
else none))
else none))
else none))
else none))
else none))
else none))
else none))
else none))
else none))
else none))
else none))
else none))
else none)
set_option maxHeartbeats 2000000 in
theorem s_X12_init (h : aH) (a0 : Nat) : SOc eV 1 kX12_init [.ref a0] h (f_X12_init h a0) := by
  refine soc_of (lv0 := [some (.ref a0)]) pn_X12 (Nat.le_of_ble_eq_true rfl) rfl ?_
  unfold f_X12_init
  refine aoc_s (st_aload_n dX12_init_0 rfl rfl) ?_
  refine aoc_obj dX12_init_1 ml_X12_1 (Nat.le_of_ble_eq_true rfl) (by decide) ?_
  refine aoc_s (st_aload_n dX12_init_4 rfl rfl) ?_
  refine aoc_s (st_sipush dX12_init_5 sp_400) ?_
  refine aoc_newa1 (N := 400) dX12_init_8 (by decide) ?_
  refine aoc_letH (fun h21 => ?_)
  refine aoc_chk (fun e22 => ?_)
  refine aoc_putR dX12_init_10 fl_X12_7 rfl (Or.inr ⟨rfl, rfl, rfl⟩) e22 ?_
  refine aoc_letH (fun h23 => ?_)
  refine aoc_s (st_aload_n dX12_init_13 rfl rfl) ?_
  refine aoc_s (st_sipush dX12_init_14 sp_2400) ?_
  refine aoc_newa0 (N := 2400) dX12_init_17 (by decide) ?_
  refine aoc_letH (fun h24 => ?_)
  refine aoc_chk (fun e25 => ?_)
  refine aoc_putR dX12_init_19 fl_X12_13 rfl (Or.inr ⟨rfl, rfl, rfl⟩) e25 ?_
  refine aoc_letH (fun h26 => ?_)
  refine aoc_s (st_aload_n dX12_init_22 rfl rfl) ?_
  refine aoc_s (st_bipush dX12_init_23 bp_7) ?_
  refine aoc_newa0 (N := 7) dX12_init_25 (by decide) ?_
  refine aoc_letH (fun h27 => ?_)
  refine aoc_chk (fun e28 => ?_)
  refine aoc_putR dX12_init_27 fl_X12_17 rfl (Or.inr ⟨rfl, rfl, rfl⟩) e28 ?_
  refine aoc_letH (fun h29 => ?_)
  refine aoc_s (st_aload_n dX12_init_30 rfl rfl) ?_
  refine aoc_s (st_sipush dX12_init_31 sp_288) ?_
  refine aoc_newa0 (N := 288) dX12_init_34 (by decide) ?_
  refine aoc_letH (fun h30 => ?_)
  refine aoc_chk (fun e31 => ?_)
  refine aoc_putR dX12_init_36 fl_X12_20 rfl (Or.inr ⟨rfl, rfl, rfl⟩) e31 ?_
  refine aoc_letH (fun h32 => ?_)
  refine aoc_s (st_aload_n dX12_init_39 rfl rfl) ?_
  refine aoc_s (st_bipush dX12_init_40 bp_6) ?_
  refine aoc_newa0 (N := 6) dX12_init_42 (by decide) ?_
  refine aoc_letH (fun h33 => ?_)
  refine aoc_chk (fun e34 => ?_)
  refine aoc_putR dX12_init_44 fl_X12_23 rfl (Or.inr ⟨rfl, rfl, rfl⟩) e34 ?_
  refine aoc_letH (fun h35 => ?_)
  refine aoc_s (st_aload_n dX12_init_47 rfl rfl) ?_
  refine aoc_s (st_sipush dX12_init_48 sp_153) ?_
  refine aoc_newa0 (N := 153) dX12_init_51 (by decide) ?_
  refine aoc_letH (fun h36 => ?_)
  refine aoc_chk (fun e37 => ?_)
  refine aoc_putR dX12_init_53 fl_X12_26 rfl (Or.inr ⟨rfl, rfl, rfl⟩) e37 ?_
  refine aoc_letH (fun h38 => ?_)
  refine aoc_s (st_aload_n dX12_init_56 rfl rfl) ?_
  refine aoc_s (st_sipush dX12_init_57 sp_400) ?_
  refine aoc_newa0 (N := 400) dX12_init_60 (by decide) ?_
  refine aoc_letH (fun h39 => ?_)
  refine aoc_chk (fun e40 => ?_)
  refine aoc_putR dX12_init_62 fl_X12_29 rfl (Or.inr ⟨rfl, rfl, rfl⟩) e40 ?_
  refine aoc_letH (fun h41 => ?_)
  refine aoc_s (st_aload_n dX12_init_65 rfl rfl) ?_
  refine aoc_s (st_bipush dX12_init_66 bp_64) ?_
  refine aoc_newa3 (N := 64) dX12_init_68 (by decide) ?_
  refine aoc_letH (fun h42 => ?_)
  refine aoc_chk (fun e43 => ?_)
  refine aoc_putR dX12_init_70 fl_X12_32 rfl (Or.inr ⟨rfl, rfl, rfl⟩) e43 ?_
  refine aoc_letH (fun h44 => ?_)
  refine aoc_s (st_aload_n dX12_init_73 rfl rfl) ?_
  refine aoc_s (st_bipush dX12_init_74 bp_11) ?_
  refine aoc_newa3 (N := 11) dX12_init_76 (by decide) ?_
  refine aoc_letH (fun h45 => ?_)
  refine aoc_chk (fun e46 => ?_)
  refine aoc_putR dX12_init_78 fl_X12_36 rfl (Or.inr ⟨rfl, rfl, rfl⟩) e46 ?_
  refine aoc_letH (fun h47 => ?_)
  refine aoc_s (st_aload_n dX12_init_81 rfl rfl) ?_
  refine aoc_s (st_sipush dX12_init_82 sp_184) ?_
  refine aoc_newa0 (N := 184) dX12_init_85 (by decide) ?_
  refine aoc_letH (fun h48 => ?_)
  refine aoc_chk (fun e49 => ?_)
  refine aoc_putR dX12_init_87 fl_X12_39 rfl (Or.inr ⟨rfl, rfl, rfl⟩) e49 ?_
  refine aoc_letH (fun h50 => ?_)
  refine aoc_s (st_aload_n dX12_init_90 rfl rfl) ?_
  refine aoc_s (st_iconst dX12_init_91 ic_m1) ?_
  refine aoc_chk (fun e51 => ?_)
  refine aoc_putI dX12_init_92 fl_X12_42 rfl rfl rfl rfl e51 ?_
  refine aoc_letH (fun h52 => ?_)
  refine aoc_s (st_aload_n dX12_init_95 rfl rfl) ?_
  refine aoc_s (st_iconst dX12_init_96 ic_4) ?_
  refine aoc_newa0 (N := 4) dX12_init_97 (by decide) ?_
  refine aoc_letH (fun h53 => ?_)
  refine aoc_chk (fun e54 => ?_)
  refine aoc_putR dX12_init_99 fl_X12_46 rfl (Or.inr ⟨rfl, rfl, rfl⟩) e54 ?_
  refine aoc_letH (fun h55 => ?_)
  refine aoc_s (st_aload_n dX12_init_102 rfl rfl) ?_
  refine aoc_s (st_iconst dX12_init_103 ic_4) ?_
  refine aoc_newa0 (N := 4) dX12_init_104 (by decide) ?_
  refine aoc_letH (fun h56 => ?_)
  refine aoc_chk (fun e57 => ?_)
  refine aoc_putR dX12_init_106 fl_X12_49 rfl (Or.inr ⟨rfl, rfl, rfl⟩) e57 ?_
  refine aoc_letH (fun h58 => ?_)
  refine aoc_s (st_aload_n dX12_init_109 rfl rfl) ?_
  refine aoc_s (st_iconst dX12_init_110 ic_4) ?_
  refine aoc_newa2 (N := 4) dX12_init_111 (by decide) ?_
  refine aoc_letH (fun h59 => ?_)
  refine aoc_chk (fun e60 => ?_)
  refine aoc_putR dX12_init_113 fl_X12_52 rfl (Or.inr ⟨rfl, rfl, rfl⟩) e60 ?_
  refine aoc_letH (fun h61 => ?_)
  refine aoc_s (st_aload_n dX12_init_116 rfl rfl) ?_
  refine aoc_s (st_iconst dX12_init_117 ic_4) ?_
  refine aoc_newa0 (N := 4) dX12_init_118 (by decide) ?_
  refine aoc_letH (fun h62 => ?_)
  refine aoc_chk (fun e63 => ?_)
  refine aoc_putR dX12_init_120 fl_X12_56 rfl (Or.inr ⟨rfl, rfl, rfl⟩) e63 ?_
  refine aoc_letH (fun h64 => ?_)
  refine aoc_s (st_aload_n dX12_init_123 rfl rfl) ?_
  refine aoc_s (st_sipush dX12_init_124 sp_1360) ?_
  refine aoc_newa0 (N := 1360) dX12_init_127 (by decide) ?_
  refine aoc_letH (fun h65 => ?_)
  refine aoc_chk (fun e66 => ?_)
  refine aoc_putR dX12_init_129 fl_X12_59 rfl (Or.inr ⟨rfl, rfl, rfl⟩) e66 ?_
  refine aoc_letH (fun h67 => ?_)
  refine aoc_s (st_aload_n dX12_init_132 rfl rfl) ?_
  refine aoc_s (st_bipush dX12_init_133 bp_68) ?_
  refine aoc_newa0 (N := 68) dX12_init_135 (by decide) ?_
  refine aoc_letH (fun h68 => ?_)
  refine aoc_chk (fun e69 => ?_)
  refine aoc_putR dX12_init_137 fl_X12_62 rfl (Or.inr ⟨rfl, rfl, rfl⟩) e69 ?_
  refine aoc_letH (fun h70 => ?_)
  refine aoc_s (st_aload_n dX12_init_140 rfl rfl) ?_
  refine aoc_s (st_iconst dX12_init_141 ic_4) ?_
  refine aoc_newa0 (N := 4) dX12_init_142 (by decide) ?_
  refine aoc_letH (fun h71 => ?_)
  refine aoc_chk (fun e72 => ?_)
  refine aoc_putR dX12_init_144 fl_X12_65 rfl (Or.inr ⟨rfl, rfl, rfl⟩) e72 ?_
  refine aoc_letH (fun h73 => ?_)
  refine aoc_s (st_aload_n dX12_init_147 rfl rfl) ?_
  refine aoc_s (st_iconst dX12_init_148 ic_4) ?_
  refine aoc_newa0 (N := 4) dX12_init_149 (by decide) ?_
  refine aoc_letH (fun h74 => ?_)
  refine aoc_chk (fun e75 => ?_)
  refine aoc_putR dX12_init_151 fl_X12_68 rfl (Or.inr ⟨rfl, rfl, rfl⟩) e75 ?_
  refine aoc_letH (fun h76 => ?_)
  refine aoc_s (st_aload_n dX12_init_154 rfl rfl) ?_
  refine aoc_s (st_bipush dX12_init_155 bp_7) ?_
  refine aoc_newa2 (N := 7) dX12_init_157 (by decide) ?_
  refine aoc_letH (fun h77 => ?_)
  refine aoc_chk (fun e78 => ?_)
  refine aoc_putR dX12_init_159 fl_X12_71 rfl (Or.inr ⟨rfl, rfl, rfl⟩) e78 ?_
  refine aoc_letH (fun h79 => ?_)
  refine aoc_s (st_aload_n dX12_init_162 rfl rfl) ?_
  refine aoc_s (st_bipush dX12_init_163 bp_28) ?_
  refine aoc_newa0 (N := 28) dX12_init_165 (by decide) ?_
  refine aoc_letH (fun h80 => ?_)
  refine aoc_chk (fun e81 => ?_)
  refine aoc_putR dX12_init_167 fl_X12_74 rfl (Or.inr ⟨rfl, rfl, rfl⟩) e81 ?_
  refine aoc_letH (fun h82 => ?_)
  refine aoc_s (st_aload_n dX12_init_170 rfl rfl) ?_
  refine aoc_s (st_sipush dX12_init_171 sp_736) ?_
  refine aoc_newa0 (N := 736) dX12_init_174 (by decide) ?_
  refine aoc_letH (fun h83 => ?_)
  refine aoc_chk (fun e84 => ?_)
  refine aoc_putR dX12_init_176 fl_X12_77 rfl (Or.inr ⟨rfl, rfl, rfl⟩) e84 ?_
  refine aoc_letH (fun h85 => ?_)
  refine aoc_s (st_aload_n dX12_init_179 rfl rfl) ?_
  refine aoc_s (st_iconst dX12_init_180 ic_4) ?_
  refine aoc_newa0 (N := 4) dX12_init_181 (by decide) ?_
  refine aoc_letH (fun h86 => ?_)
  refine aoc_chk (fun e87 => ?_)
  refine aoc_putR dX12_init_183 fl_X12_80 rfl (Or.inr ⟨rfl, rfl, rfl⟩) e87 ?_
  refine aoc_letH (fun h88 => ?_)
  refine aoc_s (st_aload_n dX12_init_186 rfl rfl) ?_
  refine aoc_s (st_iconst dX12_init_187 ic_4) ?_
  refine aoc_newa0 (N := 4) dX12_init_188 (by decide) ?_
  refine aoc_letH (fun h89 => ?_)
  refine aoc_chk (fun e90 => ?_)
  refine aoc_putR dX12_init_190 fl_X12_83 rfl (Or.inr ⟨rfl, rfl, rfl⟩) e90 ?_
  refine aoc_letH (fun h91 => ?_)
  refine aoc_s (st_aload_n dX12_init_193 rfl rfl) ?_
  refine aoc_s (st_iconst dX12_init_194 ic_4) ?_
  refine aoc_newa2 (N := 4) dX12_init_195 (by decide) ?_
  refine aoc_letH (fun h92 => ?_)
  refine aoc_chk (fun e93 => ?_)
  refine aoc_putR dX12_init_197 fl_X12_86 rfl (Or.inr ⟨rfl, rfl, rfl⟩) e93 ?_
  refine aoc_letH (fun h94 => ?_)
  exact aoc_vr dX12_init_200 rfl
