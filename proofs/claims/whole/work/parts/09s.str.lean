/-- the length of a String constant, by its number; a letter of it -/
def sLn (s : Nat) : Option Int32 := if aSB ≤ s ∧ s < aSB + 7 then some (Int32.ofNat (sLen.getD (s - aSB) 0)) else none
def sCh (s : Nat) (i : Int32) : Option Int32 := if aSB ≤ s ∧ s < aSB + 7 ∧ aIn i (sLen.getD (s - aSB) 0) then some ((sByt.getD (s - aSB) []).getD i.toNatClampNeg 0) else none
abbrev kJ3_checkIndex_8e157 : aM := (yJ3_checkIndex_8e157, cJ3_checkIndex_8e157, 3, (some .int))
theorem mi_J3_checkIndex_8e157 : aMI kJ3_checkIndex_8e157 3 := ⟨wi_J3, wm_612, by decide +kernel, by decide +kernel, by decide +kernel, by decide⟩
theorem ms_J3_checkIndex_8e157 : aMS kJ3_checkIndex_8e157 3 := ⟨mi_J3_checkIndex_8e157, wm_611⟩
theorem sf_value : Cond.fieldLink RJ0 9 "java/lang/String" "value" "[B" ∈ aTb := aTb_at 1796 (by decide +kernel) (by decide +kernel)
theorem sf_coder : Cond.fieldLink RJ0 15 "java/lang/String" "coder" "B" ∈ aTb := aTb_at 1797 (by decide +kernel) (by decide +kernel)
theorem sf_comp : Cond.fieldLink RJ0 38 "java/lang/String" "COMPACT_STRINGS" "Z" ∈ aTb := aTb_at 592 (by decide +kernel) (by decide +kernel)
theorem sf_form : Cond.fieldLink RJ0 1053 "jdk/internal/util/Preconditions" "SIOOBE_FORMATTER" "Ljava/util/function/BiFunction;" ∈ aTb := aTb_at 608 (by decide +kernel) (by decide +kernel)
theorem st_sval {K : aM} {pc : Nat} {lv : List (Option Value)} {st : List Value} {h : aH} {i : Nat} (hK : K.1.cls = RJ0) (hi : i < 7) (hd : decode K.2.1 pc = .ok (.getfield 9, 3)) : aStp K pc lv (.ref (aSB + i) :: st) h (pc + 3) lv (.ref (aSB + 10 + i) :: st) h := by
  intro Φ g d nf Q k p l e R s m args below meth c H locs n0 ls hΦ C hR hr hS h1 h2 hl
  have w := vk_getf (own := K.1.cls) (rest := st.map (cv g)) (ls := ls) (R := R) (l := l) (below := below) (e := e) (cells := h.1 - n0) (slots := aS h.1 - aS n0) (Q := MQ below (aQ g nf Q) args s (nf - n0) (aS nf - aS n0) (aA g)) C.1 C.2.1 (C.2.2.2.2.2.2.2.2.2.2.2.1.1 i hi).2.2.1 hS C.2.2.2.2.2.2.1 (by rw [hK]; exact C.2.2.2.2.2.2.2.1 _ sf_value) (fun _ h9 => h9) hd (by rw [← C.2.2.2.2.2.2.2.2.2.2.2.2.2.2.2.2.2.2.1 i hi]; exact (k p l e R s m args below meth c H locs n0 ls hΦ C hR hr hS h1 h2 hl))
  exact w
theorem st_scod {K : aM} {pc : Nat} {lv : List (Option Value)} {st : List Value} {h : aH} {i : Nat} (hK : K.1.cls = RJ0) (hi : i < 7) (hd : decode K.2.1 pc = .ok (.getfield 15, 3)) : aStp K pc lv (.ref (aSB + i) :: st) h (pc + 3) lv (.int 0 :: st) h := by
  intro Φ g d nf Q k p l e R s m args below meth c H locs n0 ls hΦ C hR hr hS h1 h2 hl
  exact vk_getf (own := K.1.cls) C.1 C.2.1 (C.2.2.2.2.2.2.2.2.2.2.2.1.1 i hi).2.1 hS C.2.2.2.2.2.2.1 (by rw [hK]; exact C.2.2.2.2.2.2.2.1 _ sf_coder) (fun _ h9 => h9) hd (k p l e R s m args below meth c H locs n0 ls hΦ C hR hr hS h1 h2 hl)
theorem st_scmp {K : aM} {pc : Nat} {lv : List (Option Value)} {st : List Value} {h : aH} (hK : K.1.cls = RJ0) (hd : decode K.2.1 pc = .ok (.getstatic 38, 3)) : aStp K pc lv st h (pc + 3) lv (.int 1 :: st) h := by
  intro Φ g d nf Q k p l e R s m args below meth c H locs n0 ls hΦ C hR hr hS h1 h2 hl
  exact va_gets (own := K.1.cls) C.1 C.2.1 C.2.2.2.2.2.2.2.2.2.2.2.2.2.1 hS C.2.2.2.2.2.2.1 (by rw [hK]; exact C.2.2.2.2.2.2.2.1 _ sf_comp) (fun _ h9 => h9) hd (k p l e R s m args below meth c H locs n0 ls hΦ C hR hr hS h1 h2 hl)
theorem aw_sfmt {Φ : aG → State → Prop} {g : aG} {d nf : Nat} {K : aM} {pc : Nat} {lv : List (Option Value)} {st : List Value} {h : aH} {Q : Option Value → aH → Prop} (hK : K.1.cls = RJ0) (hd : decode K.2.1 pc = .ok (.getstatic 1053, 3)) (k : ∀ v : Value, v.category = 1 → AW Φ g d K nf (pc + 3) lv (v :: st) h Q) : AW Φ g d K nf pc lv st h Q := by
  intro p l e R s m args below meth c H locs n0 ls hΦ C hR hr hS h1 h2 hl
  rcases C.2.2.2.2.2.2.2.2.2.2.2.2.2.2.2.2.2.2.2 with hz | hz
  · exact va_gets (own := K.1.cls) C.1 C.2.1 hz hS C.2.2.2.2.2.2.1 (by rw [hK]; exact C.2.2.2.2.2.2.2.1 _ sf_form) (fun _ h9 => h9) hd (k .null rfl p l e R s m args below meth c H locs n0 ls hΦ C hR hr hS h1 h2 hl)
  · exact va_gets (own := K.1.cls) C.1 C.2.1 hz hS C.2.2.2.2.2.2.1 (by rw [hK]; exact C.2.2.2.2.2.2.2.1 _ sf_form) (fun _ h9 => h9) hd (k (.ref (aSB + 20)) rfl p l e R s m args below meth c H locs n0 ls hΦ C hR hr hS h1 h2 hl)
theorem st_slen {K : aM} {pc : Nat} {lv : List (Option Value)} {st : List Value} {h : aH} {i : Nat} (hi : i < 7) (hd : decode K.2.1 pc = .ok (.arraylength, 1)) : aStp K pc lv (.ref (aSB + 10 + i) :: st) h (pc + 1) lv (.int (Int32.ofNat (sLen.getD i 0)) :: st) h := by
  intro Φ g d nf Q k p l e R s m args below meth c H locs n0 ls hΦ C hR hr hS h1 h2 hl
  have w := va_tlen (rest := st.map (cv g)) (ls := ls) (R := R) (l := l) (below := below) (e := e) (cells := h.1 - n0) (slots := aS h.1 - aS n0) (Q := MQ below (aQ g nf Q) args s (nf - n0) (aS nf - aS n0) (aA g)) C.1 C.2.1 (C.2.2.2.2.2.2.2.2.2.2.2.1.1 i hi).2.2.2 hS rfl hd (k p l e R s m args below meth c H locs n0 ls hΦ C hR hr hS h1 h2 hl)
  rw [← C.2.2.2.2.2.2.2.2.2.2.2.2.2.2.2.2.2.2.1 i hi] at w
  exact w
theorem st_sbald {K : aM} {pc : Nat} {lv : List (Option Value)} {st : List Value} {h : aH} {i : Nat} {j : Int32} (hi : i < 7) (hj : aIn j (sLen.getD i 0)) (hd : decode K.2.1 pc = .ok (.baload, 1)) : aStp K pc lv (.int j :: .ref (aSB + 10 + i) :: st) h (pc + 1) lv (.int ((sByt.getD i []).getD j.toNatClampNeg 0) :: st) h := by
  intro Φ g d nf Q k p l e R s m args below meth c H locs n0 ls hΦ C hR hr hS h1 h2 hl
  have w := va_tb (rest := st.map (cv g)) (ls := ls) (R := R) (l := l) (below := below) (e := e) (cells := h.1 - n0) (slots := aS h.1 - aS n0) (Q := MQ below (aQ g nf Q) args s (nf - n0) (aS nf - aS n0) (aA g)) C.1 C.2.1 (C.2.2.2.2.2.2.2.2.2.2.2.1.1 i hi).2.2.2 hS hj rfl hd (k p l e R s m args below meth c H locs n0 ls hΦ C hR hr hS h1 h2 hl)
  rw [← C.2.2.2.2.2.2.2.2.2.2.2.2.2.2.2.2.2.2.1 i hi] at w
  exact w
theorem st_i2c {K : aM} {pc : Nat} {lv : List (Option Value)} {st : List Value} {h : aH} {x : Int32} (hd : decode K.2.1 pc = .ok (.i2c, 1)) : aStp K pc lv (.int x :: st) h (pc + 1) lv (.int (x.toUInt32 % 65536).toInt32 :: st) h := by
  intro Φ g d nf Q k p l e R s m args below meth c H locs n0 ls hΦ C hR hr hS h1 h2 hl
  exact lv_i2c C.1 C.2.1 hd rfl (k p l e R s m args below meth c H locs n0 ls hΦ C hR hr hS h1 h2 hl)
theorem aw_callT {Φ : aG → State → Prop} {g : aG} {d d' nf nf' n : Nat} {K Kc : aM} {pc idx i : Nat} {lv : List (Option Value)} {st st0 As : List Value} {h : aH} {Q Qc : Option Value → aH → Prop} (hd : decode K.2.1 pc = .ok (.invokevirtual idx, 3)) (hw : Cond.methodLink K.1.cls idx Kc.1 ∈ aTb) (hm : aMV Kc n) (hn : As.length = n) (hi : i < 7) (hcl : "java/lang/String" = Kc.1.cls) (hst : st0 = As.reverse ++ .ref (aSB + i) :: st) (hcat : (st.map fun v => v.category).sum ≤ 8) (hdd : d' + 1 ≤ d) (hf2 : nf' ≤ nf)
    (hM : aSp g d' Kc nf' (.ref (aSB + i) :: As) h Qc) (kk : ∀ (r : Option Value) (h' : aH), Qc r h' → h'.1 = nf' → AW Φ g d K nf (pc + 3) lv (r.toList ++ st) h' Q) : AW Φ g d K nf pc lv st0 h Q := by
  intro p l e R s m args below meth c H locs n0 ls hΦ C hR hr hS h1 h2 hl
  have hts := C.2.2.2.2.2.2.2.1
  have m1 := aS_mono h1
  have m2 := aS_mono hM.1
  have m3 := aS_mono hf2
  have hf1 := hM.1
  obtain ⟨⟨i1, i2, i3, i4, i5, i6⟩, i7, i8⟩ := hm
  have hrec := vk_recv C.2.2.2.2.2.2.2.2.2.2.2.1 hi hS
  have hG : GoodIn aTb (wsV K.1.cls idx Kc.1.cls Kc.1 (Cond.code Kc.1 Kc.2.1 Kc.2.2.1 Kc.2.2.2 :: aTb)) := fun w hw' => by
    rcases List.mem_append.mp hw' with q | q
    · simp only [List.mem_cons, List.not_mem_nil, or_false] at q
      rcases q with rfl | rfl | rfl | rfl
      · exact aTb_good _ hw
      · exact aTb_good _ i7
      · exact aTb_good _ i8
      · exact aTb_good _ i1
    · exact aCode_good ⟨i1, i2, i3, i4, i5, i6⟩ w q
  refine aBack kk hM.1 hf2 hΦ C hR hS h1 hl (a := (Value.ref (g.2.1 (aSB + i)) :: As.map (cv g)).toArray) ?_
  refine va_runV (As := As.map (cv g)) (b := g.2.1 (aSB + i)) (C := Kc.1.cls) (n := n) ⟨C.1, C.2.1, C.2.2.1, C.2.2.2.2.2.2.1, hts⟩ (hM.2 l) (cwV n hts hG rfl rfl rfl ⟨rfl, i3, i4, i5⟩ (aRoomOk hdd i6 hR.1 hR.2.1)) ⟨aBlind, by rw [← hcl]; exact hrec, fun U hU hW => ⟨rfl, aPre C hr hS U hU hW⟩⟩ rfl (by rw [List.length_map]; exact hn) hl.1 ?_ (aCat hcat) hd ?_
  · show st0.map (cv g) = _
    rw [hst, List.map_append, List.map_reverse]
    rfl
  · constructor
    · have := hR.2.2.1; omega
    · have := hR.2.2.2; omega
section STRS
variable {Φ : aG → State → Prop} {ρ : Type} {E : ρ → Option Value} {d : Nat} {K : aM} {pc idx s : Nat} {lv : List (Option Value)} {st : List Value} {h : aH} {o : Option (ρ × aH)}
theorem ao_chkI {c : Prop} (inst : Decidable c) (k1 : c → AOx Φ E d K pc lv st h o) : AOx Φ E d K pc lv st h (@ite _ c inst o none) := ao_chk k1
theorem ao_brf {c : Prop} {tgt nx : Nat} {st0 : List Value} (hb : aBr K pc lv st0 h c tgt nx st) (hc : ¬ c) (k : AOx Φ E d K nx lv st h o) : AOx Φ E d K pc lv st0 h o := by
  intro g r h' e hN
  obtain ⟨a, b⟩ := k g r h' e hN
  exact ⟨a, hb Φ g d aNN _ (fun q => absurd q hc) (fun _ => b)⟩
theorem ao_brt {c : Prop} {tgt nx : Nat} {st0 : List Value} (hb : aBr K pc lv st0 h c tgt nx st) (hc : c) (k : AOx Φ E d K tgt lv st h o) : AOx Φ E d K pc lv st0 h o := by
  intro g r h' e hN
  obtain ⟨a, b⟩ := k g r h' e hN
  exact ⟨a, hb Φ g d aNN _ (fun _ => b) (fun q => absurd hc q)⟩
theorem ao_sfmt (hK : K.1.cls = RJ0) (hd : decode K.2.1 pc = .ok (.getstatic 1053, 3)) (k : ∀ v : Value, v.category = 1 → AOx Φ E d K (pc + 3) lv (v :: st) h o) : AOx Φ E d K pc lv st h o := by
  intro g r h' e hN
  exact ⟨(k .null rfl g r h' e hN).1, aw_sfmt hK hd (fun v hv => (k v hv g r h' e hN).2)⟩
theorem ao_callT {τ : Type} {E' : τ → Option Value} {d' n i : Nat} {Kc : aM} {st0 As : List Value} {o1 : Option (τ × aH)} {f : τ → aH → Option (ρ × aH)} (hd : decode K.2.1 pc = .ok (.invokevirtual idx, 3)) (hw : Cond.methodLink K.1.cls idx Kc.1 ∈ aTb) (hm : aMV Kc n) (hn : As.length = n) (hi : i < 7) (hcl : "java/lang/String" = Kc.1.cls) (hst : st0 = As.reverse ++ .ref (aSB + i) :: st) (hcat : (st.map fun v => v.category).sum ≤ 8) (hdd : d' + 1 ≤ d)
    (hM : SO E' d' Kc (.ref (aSB + i) :: As) h o1) (kk : ∀ (r : τ) (h' : aH), AOx Φ E d K (pc + 3) lv ((E' r).toList ++ st) h' (f r h')) : AOx Φ E d K pc lv st0 h (o1.bind (fun q => f q.1 q.2)) := by
  intro g r h' e hN
  cases ho : o1 with
  | none => rw [ho] at e; cases e
  | some q =>
    obtain ⟨r1, h1⟩ := q
    rw [ho] at e
    obtain ⟨a1, b1⟩ := hM g r1 h1 ho hN
    obtain ⟨a2, b2⟩ := kk r1 h1 g r h' e a1
    refine ⟨a2, aw_callT hd hw hm hn hi hcl hst hcat hdd (Nat.le_refl _) b1 ?_⟩
    rintro r2 h2 ⟨rfl, rfl⟩ _
    exact b2
end STRS
theorem s_coder (h : aH) (i : Nat) (hi : i < 7) : SO eI 1 kJ0_coder_7d493 [.ref (aSB + i)] h (some (0, h)) := by
  refine so_of (lv0 := [some (.ref (aSB + i))]) pn_J0 (Nat.le_of_ble_eq_true rfl) rfl ?_
  refine ao_s (st_scmp rfl dJ0_coder_7d493_0) ?_
  refine ao_brf (br_if_eq (tgt := 13) dJ0_coder_7d493_3 (by decide)) (by decide) ?_
  refine ao_s (st_aload_n dJ0_coder_7d493_6 rfl rfl) ?_
  refine ao_s (st_scod rfl hi dJ0_coder_7d493_7) ?_
  refine ao_s (st_goto 14 dJ0_coder_7d493_10 (by decide)) ?_
  exact ao_ir dJ0_coder_7d493_14 rfl (by decide)
theorem s_isLatin1 (h : aH) (i : Nat) (hi : i < 7) : SO eI 1 kJ0_isLatin1_aae02 [.ref (aSB + i)] h (some (1, h)) := by
  refine so_of (lv0 := [some (.ref (aSB + i))]) pn_J0 (Nat.le_of_ble_eq_true rfl) rfl ?_
  refine ao_s (st_scmp rfl dJ0_isLatin1_aae02_0) ?_
  refine ao_brf (br_if_eq (tgt := 17) dJ0_isLatin1_aae02_3 (by decide)) (by decide) ?_
  refine ao_s (st_aload_n dJ0_isLatin1_aae02_6 rfl rfl) ?_
  refine ao_s (st_scod rfl hi dJ0_isLatin1_aae02_7) ?_
  refine ao_brt (br_if_ne (tgt := 17) dJ0_isLatin1_aae02_10 (by decide)) (by decide) ?_
  refine ao_s (st_iconst dJ0_isLatin1_aae02_13 ic_1) ?_
  refine ao_s (st_goto 18 dJ0_isLatin1_aae02_14 (by decide)) ?_
  exact ao_ir dJ0_isLatin1_aae02_18 rfl (by decide)
theorem sLen_shr : ∀ i, i < 7 → Int32.ofNat (sLen.getD i 0) >>> ((0 : Int32) &&& 31) = Int32.ofNat (sLen.getD i 0) := by decide
theorem s_length (h : aH) (i : Nat) (hi : i < 7) : SO eI 2 kJ0_length_8abf5 [.ref (aSB + i)] h (some (Int32.ofNat (sLen.getD i 0), h)) := by
  refine so_of (lv0 := [some (.ref (aSB + i))]) pn_J0 (Nat.le_of_ble_eq_true rfl) rfl ?_
  refine ao_s (st_aload_n dJ0_length_8abf5_0 rfl rfl) ?_
  refine ao_s (st_sval rfl hi dJ0_length_8abf5_1) ?_
  refine ao_s (st_slen hi dJ0_length_8abf5_4) ?_
  refine ao_s (st_aload_n dJ0_length_8abf5_5 rfl rfl) ?_
  have w := ao_callT (Φ := aTr) (Kc := kJ0_coder_7d493) (E := eI) (d := 2) (K := kJ0_length_8abf5) (pc := 6) (lv := [some (.ref (aSB + i))]) (As := []) (st := [.int (Int32.ofNat (sLen.getD i 0))]) (f := fun r h' => some (Int32.ofNat (sLen.getD i 0) >>> (r &&& 31), h')) dJ0_length_8abf5_6 ml_J0_335 mv_J0_coder_7d493 rfl hi rfl rfl (Nat.le_of_ble_eq_true rfl) (by decide) (s_coder h i hi) (fun r h' => by
    refine ao_s (st_ishr dJ0_length_8abf5_9) ?_
    exact ao_ir dJ0_length_8abf5_10 rfl rfl)
  rw [Option.bind_some] at w
  dsimp only at w
  rw [sLen_shr i hi] at w
  exact w
theorem aCatI (x : Int32) : (Value.int x).category = 1 := rfl
theorem s_check3 (h : aH) (j n : Int32) (v : Value) (hv : v.category = 1) (h0 : ¬ j < 0) (hj : j < n) : SO eI 1 kJ3_checkIndex_8e157 [.int j, .int n, v] h (some (j, h)) := by
  refine so_of (lv0 := [some (.int j), some (.int n), some v]) pn_J3 (by simp [aEn, hv, aCatI]) (by simp [aEnt, aEn, hv, aCatI]) ?_
  refine ao_s (st_iload_n dJ3_checkIndex_8e157_0 rfl rfl) ?_
  refine ao_brf (br_if_lt (tgt := 9) dJ3_checkIndex_8e157_1 (by decide)) h0 ?_
  refine ao_s (st_iload_n dJ3_checkIndex_8e157_4 rfl rfl) ?_
  refine ao_s (st_iload_n dJ3_checkIndex_8e157_5 rfl rfl) ?_
  refine ao_brt (br_icmp_lt (tgt := 16) dJ3_checkIndex_8e157_6 (by decide)) hj ?_
  refine ao_s (st_iload_n dJ3_checkIndex_8e157_16 rfl rfl) ?_
  exact ao_ir dJ3_checkIndex_8e157_17 rfl rfl
theorem s_check0 (h : aH) (j n : Int32) (h0 : ¬ j < 0) (hj : j < n) : SO eV 2 kJ0_checkIndex_df160 [.int j, .int n] h (some ((), h)) := by
  refine so_of (lv0 := [some (.int j), some (.int n)]) pn_J0 (Nat.le_of_ble_eq_true rfl) rfl ?_
  refine ao_s (st_iload_n dJ0_checkIndex_df160_0 rfl rfl) ?_
  refine ao_s (st_iload_n dJ0_checkIndex_df160_1 rfl rfl) ?_
  refine ao_sfmt rfl dJ0_checkIndex_df160_2 (fun v hv => ?_)
  exact ao_callS (Φ := aTr) (Kc := kJ3_checkIndex_8e157) (E := eV) (d := 2) (K := kJ0_checkIndex_df160) (pc := 5) (lv := [some (.int j), some (.int n)]) (As := [.int j, .int n, v]) (st := []) (f := fun r h' => some ((), h')) dJ0_checkIndex_df160_5 ml_J0_1059 ms_J3_checkIndex_8e157 rfl rfl (Nat.le_of_ble_eq_true rfl) (by decide) (s_check3 h j n v hv h0 hj) (fun r h' => by
    refine ao_s (st_pop dJ0_checkIndex_df160_8 rfl) ?_
    exact ao_vr dJ0_checkIndex_df160_9 rfl)
theorem sByt_chr : ∀ i, i < 7 → ∀ j, j < sLen.getD i 0 → ((((sByt.getD i []).getD j 0) &&& 255).toUInt32 % 65536).toInt32 = (sByt.getD i []).getD j 0 ∧ narrow .char (.int ((sByt.getD i []).getD j 0)) = .int ((sByt.getD i []).getD j 0) := by decide +kernel
theorem aIn_lt {j : Int32} {n : Nat} (hn : n < 2 ^ 31) (h : aIn j n) : ¬ j < 0 ∧ j < Int32.ofNat n ∧ j.toNatClampNeg < n := by
  obtain ⟨q, hq, rfl⟩ := vp_in_of (x := j) (n := n) h hn
  refine ⟨nI_pos (by omega), nI_lt hq hn, ?_⟩
  rw [nI_clamp (by omega)]
  exact hq
theorem sLen_small : ∀ i, i < 7 → sLen.getD i 0 < 2 ^ 31 := by decide
theorem s_charAt1 (h : aH) (i : Nat) (j : Int32) (hi : i < 7) (hj : aIn j (sLen.getD i 0)) : SO eI 3 kJ1_charAt_3b067 [.ref (aSB + 10 + i), .int j] h (some ((sByt.getD i []).getD j.toNatClampNeg 0, h)) := by
  obtain ⟨q1, q2, q3⟩ := aIn_lt (sLen_small i hi) hj
  obtain ⟨c1, c2⟩ := sByt_chr i hi _ q3
  refine so_of (lv0 := [some (.ref (aSB + 10 + i)), some (.int j)]) pn_J1 (Nat.le_of_ble_eq_true rfl) rfl ?_
  refine ao_s (st_iload_n dJ1_charAt_3b067_0 rfl rfl) ?_
  refine ao_s (st_aload_n dJ1_charAt_3b067_1 rfl rfl) ?_
  refine ao_s (st_slen hi dJ1_charAt_3b067_2) ?_
  exact ao_callS (Φ := aTr) (Kc := kJ0_checkIndex_df160) (E := eI) (d := 3) (K := kJ1_charAt_3b067) (pc := 3) (lv := [some (.ref (aSB + 10 + i)), some (.int j)]) (As := [.int j, .int (Int32.ofNat (sLen.getD i 0))]) (st := []) (f := fun r h' => some ((sByt.getD i []).getD j.toNatClampNeg 0, h')) dJ1_charAt_3b067_3 ml_J1_9 ms_J0_checkIndex_df160 rfl rfl (Nat.le_of_ble_eq_true rfl) (by decide) (s_check0 h j _ q1 q2) (fun r h' => by
    refine ao_s (st_aload_n dJ1_charAt_3b067_6 rfl rfl) ?_
    refine ao_s (st_iload_n dJ1_charAt_3b067_7 rfl rfl) ?_
    refine ao_s (st_sbald hi hj dJ1_charAt_3b067_8) ?_
    refine ao_s (st_sipush dJ1_charAt_3b067_9 sp_255) ?_
    refine ao_s (st_iand dJ1_charAt_3b067_12) ?_
    refine ao_s (st_i2c dJ1_charAt_3b067_13) ?_
    rw [c1]
    exact ao_ir dJ1_charAt_3b067_14 rfl c2)
theorem s_charAt (h : aH) (i : Nat) (j : Int32) (hi : i < 7) (hj : aIn j (sLen.getD i 0)) : SO eI 4 kJ0_charAt_5068e [.ref (aSB + i), .int j] h (some ((sByt.getD i []).getD j.toNatClampNeg 0, h)) := by
  obtain ⟨q1, q2, q3⟩ := aIn_lt (sLen_small i hi) hj
  obtain ⟨c1, c2⟩ := sByt_chr i hi _ q3
  refine so_of (lv0 := [some (.ref (aSB + i)), some (.int j)]) pn_J0 (Nat.le_of_ble_eq_true rfl) rfl ?_
  refine ao_s (st_aload_n dJ0_charAt_5068e_0 rfl rfl) ?_
  have w := ao_callT (Φ := aTr) (Kc := kJ0_isLatin1_aae02) (E := eI) (d := 4) (K := kJ0_charAt_5068e) (pc := 1) (lv := [some (.ref (aSB + i)), some (.int j)]) (As := []) (st := []) (f := fun r h' => if r = 0 then none else some ((sByt.getD i []).getD j.toNatClampNeg 0, h')) dJ0_charAt_5068e_1 ml_J0_492 mv_J0_isLatin1_aae02 rfl hi rfl rfl (Nat.le_of_ble_eq_true rfl) (by decide) (s_isLatin1 h i hi) (fun r h' => by
    refine ao_br (br_if_eq (tgt := 16) dJ0_charAt_5068e_4 (by decide)) (fun _ => ao_none) (fun _ => ?_)
    refine ao_s (st_aload_n dJ0_charAt_5068e_7 rfl rfl) ?_
    refine ao_s (st_sval rfl hi dJ0_charAt_5068e_8) ?_
    refine ao_s (st_iload_n dJ0_charAt_5068e_11 rfl rfl) ?_
    exact ao_callS (Φ := aTr) (Kc := kJ1_charAt_3b067) (E := eI) (d := 4) (K := kJ0_charAt_5068e) (pc := 12) (lv := [some (.ref (aSB + i)), some (.int j)]) (As := [.ref (aSB + 10 + i), .int j]) (st := []) (f := fun r h' => if r = (sByt.getD i []).getD j.toNatClampNeg 0 then some (r, h') else none) dJ0_charAt_5068e_12 ml_J0_495 ms_J1_charAt_3b067 rfl rfl (Nat.le_of_ble_eq_true rfl) (by decide) (s_charAt1 h' i j hi hj) (fun r2 h2 => by
      refine ao_chk (fun e2 => ?_)
      rw [e2]
      exact ao_ir dJ0_charAt_5068e_15 rfl c2) |> (fun q => by
        rw [Option.bind_some, if_pos rfl] at q
        exact q))
  rw [Option.bind_some, if_neg (show ¬ (1 : Int32) = 0 by decide)] at w
  exact w
section STRS2
variable {Φ : aG → State → Prop} {ρ : Type} {E : ρ → Option Value} {d : Nat} {K : aM} {pc idx s : Nat} {lv : List (Option Value)} {st : List Value} {h : aH}
theorem ao_slen {f : Int32 → Option (ρ × aH)} (hd : decode K.2.1 pc = .ok (.invokevirtual idx, 3)) (hw : Cond.methodLink K.1.cls idx yJ0_length_8abf5 ∈ aTb) (hcat : (st.map fun v => v.category).sum ≤ 8) (hdd : 6 ≤ d) (kk : ∀ n, AOx Φ E d K (pc + 3) lv (.int n :: st) h (f n)) : AOx Φ E d K pc lv (.ref s :: st) h ((sLn s).bind f) := by
  unfold sLn
  by_cases hs : aSB ≤ s ∧ s < aSB + 7
  · rw [if_pos hs, Option.bind_some]
    obtain ⟨i, rfl⟩ : ∃ i, s = aSB + i := ⟨s - aSB, by omega⟩
    have hi : i < 7 := by omega
    rw [show aSB + i - aSB = i by omega]
    have w := ao_callT (Φ := Φ) (Kc := kJ0_length_8abf5) (E := E) (d := d) (K := K) (pc := pc) (lv := lv) (As := []) (st := st) (f := fun r h' => @ite _ (h' = h) (Classical.propDecidable _) (f r) none) hd hw mv_J0_length_8abf5 rfl hi rfl rfl hcat (show 2 + 1 ≤ d by omega) (s_length h i hi) (fun r h' => ao_chkI _ (fun e => by rw [e]; exact kk r))
    rw [Option.bind_some, if_pos rfl] at w
    exact w
  · rw [if_neg hs]
    exact ao_none
theorem ao_schr {f : Int32 → Option (ρ × aH)} {i : Int32} (hd : decode K.2.1 pc = .ok (.invokevirtual idx, 3)) (hw : Cond.methodLink K.1.cls idx yJ0_charAt_5068e ∈ aTb) (hcat : (st.map fun v => v.category).sum ≤ 8) (hdd : 6 ≤ d) (kk : ∀ n, AOx Φ E d K (pc + 3) lv (.int n :: st) h (f n)) : AOx Φ E d K pc lv (.int i :: .ref s :: st) h ((sCh s i).bind f) := by
  unfold sCh
  by_cases hs : aSB ≤ s ∧ s < aSB + 7 ∧ aIn i (sLen.getD (s - aSB) 0)
  · rw [if_pos hs, Option.bind_some]
    obtain ⟨k, rfl⟩ : ∃ k, s = aSB + k := ⟨s - aSB, by omega⟩
    have hk : k < 7 := by omega
    have e0 : aSB + k - aSB = k := by omega
    rw [e0] at hs ⊢
    have w := ao_callT (Φ := Φ) (Kc := kJ0_charAt_5068e) (E := E) (d := d) (K := K) (pc := pc) (lv := lv) (As := [.int i]) (st := st) (f := fun r h' => @ite _ (h' = h) (Classical.propDecidable _) (f r) none) hd hw mv_J0_charAt_5068e rfl hk rfl rfl hcat (show 4 + 1 ≤ d by omega) (s_charAt h k i hk hs.2.2) (fun r h' => ao_chkI _ (fun e => by rw [e]; exact kk r))
    rw [Option.bind_some, if_pos rfl] at w
    exact w
  · rw [if_neg hs]
    exact ao_none
end STRS2
