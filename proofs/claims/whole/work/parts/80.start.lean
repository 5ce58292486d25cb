/-! ===== from the law's function to the claim ===== -/
def aH0 : aH := (0, fun _ _ => 0, fun _ _ => 0, fun _ _ => none)
theorem inst_in : ∀ c, c < 13 → Cond.instantiable (cRn c) (cN c) ∈ aTb
  | 0, _ => wm_355
  | 1, _ => wm_388
  | 2, _ => wm_176
  | 3, _ => wm_361
  | 4, _ => wm_447
  | 5, _ => wm_192
  | 6, _ => wm_186
  | 7, _ => wm_422
  | 8, _ => wm_242
  | 9, _ => wm_151
  | 10, _ => wm_236
  | 11, _ => wm_143
  | 12, _ => wm_1198
  | n + 13, h => absurd h (by omega)
def tmS (i : Nat) : Term := .string (sOwn i) (sIdx i)
abbrev gvC : List Cond := flatC (Jvm.Cond.and given_1 narrow_1)
theorem sm_ex : ∀ i, i < 7 → Cond.exactly (tmS i) "java/lang/String" ∈ gvC := by decide +kernel
theorem sm_co : ∀ i, i < 7 → Cond.eq (.field (tmS i) "java/lang/String" "coder" "B") (.int 0) ∈ gvC := by decide +kernel
theorem sm_ar : ∀ i, i < 7 → Cond.arrayOf (.field (tmS i) "java/lang/String" "value" "[B") .byte ∈ gvC := by decide +kernel
theorem sm_le : ∀ i, i < 7 → Cond.eq (.length (.field (tmS i) "java/lang/String" "value" "[B")) (.int (Int32.ofNat (sLen.getD i 0))) ∈ gvC := by decide +kernel
theorem sm_el : ∀ i, i < 7 → ∀ j, j < sLen.getD i 0 → Cond.eq (.elem (.field (tmS i) "java/lang/String" "value" "[B") (.int (Int32.ofNat j))) (.int ((sByt.getD i []).getD j 0)) ∈ gvC := by decide +kernel
theorem sm_ne : ∀ i, i < 7 → ∀ j, j < 7 → i ≠ j → Cond.not (.eq (tmS i) (tmS j)) ∈ gvC ∨ Cond.not (.eq (tmS j) (tmS i)) ∈ gvC := by decide +kernel
theorem sm_rf : ∀ i, i < 7 → Cond.stringRef (sOwn i) (sIdx i) (sTx i) ∈ lw_tbl := by decide +kernel
theorem sm_nest : ∀ q ∈ aNest, Cond.methodLinkNest q.1 q.2.1 q.2.2 RX11 ∈ lw_tbl := by decide +kernel
theorem sm_ov : Cond.arrayOver (.object RX5) ∈ lw_tbl ∧ Cond.arrayOver (.object RX8) ∈ lw_tbl ∧ Cond.arrayOver (.object RX10) ∈ lw_tbl := by decide +kernel
theorem sm_cs : Cond.laysStatic "java/lang/String" "COMPACT_STRINGS" "Z" ∈ lw_tbl ∧ Cond.eq (.static "java/lang/String" "COMPACT_STRINGS" "Z") (.int 1) ∈ gvC := by decide +kernel
theorem sm_fm : Cond.laysStatic "jdk/internal/util/Preconditions" "SIOOBE_FORMATTER" "Ljava/util/function/BiFunction;" ∈ lw_tbl ∧ Cond.isRef (.static "jdk/internal/util/Preconditions" "SIOOBE_FORMATTER" "Ljava/util/function/BiFunction;") ∈ gvC := by decide +kernel
/-- the array classes -/
theorem arr_prim {A : Array Value} {s : State} {ty : FieldType} (h : (Cond.arrayClass ty).before A s = true) (hty : ∀ C, ty ≠ .object C) : ∃ cA : ClassId, ArrOfT s cA ty ∧ va_RA s cA ty := by
  obtain ⟨cA, kA, comp, h1, h2, h3⟩ := Cond.arrayClass_spec h
  refine ⟨cA, fun n z => ⟨(fun k q => by cases q), kA, h2, comp, h3⟩, ?_⟩
  cases ty with
  | object C => exact absurd rfl (hty C)
  | _ => exact h1
theorem arr_obj {A : Array Value} {s : State} {C : String} (h : (Cond.arrayOver (.object C)).before A s = true) : ∃ cA : ClassId, ArrOfT s cA (.object C) ∧ va_RA s cA (.object C) := by
  obtain ⟨comp, cA, k, h1, h2, h3, h4, h5⟩ := Cond.arrayOver_spec h
  exact ⟨cA, fun n z => ⟨(fun k q => by cases q), k, h3, comp, h4⟩, k, comp, h3, h4, h1, h5⟩
/-- the world at the law's entry -/
theorem world_at {A : Array Value} {s : State} {b : Nat} (hts : ∀ w ∈ lw_tbl, w.before A s = true) (hgv : (Jvm.Cond.and given_1 narrow_1).before A s = true) : ∃ g : aG, g.1 = s.heap.size ∧ g.2.1 1030 = b ∧ aWK g s := by
  have htb : ∀ w ∈ aTb, w.before A s = true := fun w hw => hts w (aTb_of hw)
  have hgc := flat_of_before _ hgv
  have hA : ∀ a : Nat, a < s.heap.size → ¬ (fun q : Nat => s.heap.size ≤ q) a := fun a h q => by have q' : s.heap.size ≤ a := q; omega
  have hk : ∀ c : Nat, ∃ q : ClassId × (Nat → Nat), c < 13 → u_Kn s (cRn c) (cT c) (cN c) q.1 q.2 := by
    intro c
    by_cases hc : c < 13
    · obtain ⟨cC, iS, h⟩ := u_known (n := cN c) htb (cT_in c hc) (htb _ (inst_in c hc))
      exact ⟨(cC, iS), fun _ => h⟩
    · exact ⟨(0, fun _ => 0), fun h => absurd h hc⟩
  obtain ⟨D, hD⟩ := Classical.axiomOfChoice hk
  obtain ⟨c0, a0⟩ := arr_prim (htb _ wm_222) (fun C q => by cases q)
  obtain ⟨c1, a1⟩ := arr_prim (htb _ wm_174) (fun C q => by cases q)
  obtain ⟨c2, a2⟩ := arr_prim (htb _ wm_1324) (fun C q => by cases q)
  obtain ⟨c3, a3⟩ := arr_prim (htb _ wm_373) (fun C q => by cases q)
  obtain ⟨c4, a4⟩ := arr_obj (hts _ sm_ov.1)
  obtain ⟨c5, a5⟩ := arr_obj (hts _ sm_ov.2.1)
  obtain ⟨c6, a6⟩ := arr_obj (hts _ sm_ov.2.2)
  obtain ⟨adK, adV, hS, hE⟩ := vk_Sof (s := s) (N := 7) (tm := tmS) (len := sLen) (byt := sByt) (A := fun q : Nat => s.heap.size ≤ q) sLen_small (fun i hi => hgc _ (sm_ex i hi)) (fun i hi => hgc _ (sm_co i hi)) (fun i hi => hgc _ (sm_ar i hi)) (fun i hi => hgc _ (sm_le i hi)) (fun i hi j hj => hgc _ (sm_el i hi j hj)) (fun i j hi hj hne => (sm_ne i hi j hj hne).imp (fun h => hgc _ h) (fun h => hgc _ h)) hA
  have hZ := va_Zof (A := fun q : Nat => s.heap.size ≤ q) (hts _ sm_cs.1) (htb _ wi_J0) (va_eqt (hgc _ sm_cs.2)) hA
  have hF := va_Zqof (A := fun q : Nat => s.heap.size ≤ q) (hts _ sm_fm.1) (htb _ wi_J3) (hgc _ sm_fm.2) hA
  obtain ⟨fm, hfm⟩ : ∃ fm : Nat, va_Z "jdk/internal/util/Preconditions" "SIOOBE_FORMATTER" "Ljava/util/function/BiFunction;" .null (fun q : Nat => s.heap.size ≤ q) s s.heap ∨ va_Z "jdk/internal/util/Preconditions" "SIOOBE_FORMATTER" "Ljava/util/function/BiFunction;" (.ref fm) (fun q : Nat => s.heap.size ≤ q) s s.heap := by
    rcases hF with h | ⟨t, h⟩
    · exact ⟨0, Or.inl h⟩
    · exact ⟨t, Or.inr h⟩
  refine ⟨(s.heap.size, fun a => if a < 1000 then s.heap.size + a else if a < 1007 then adK (a - 1000) else if a = 1030 then b else if a = 1020 then fm else adV (a - 1010), (fun c => (D c).1, fun c => (D c).2), fun k => if k = 0 then c0 else if k = 1 then c1 else if k = 2 then c2 else if k = 3 then c3 else if k = 4 then c4 else if k = 5 then c5 else c6, adV), rfl, rfl, ?_⟩
  have eK : ∀ i, i < 7 → (if (1000 + i) < 1000 then s.heap.size + (1000 + i) else if (1000 + i) < 1007 then adK (1000 + i - 1000) else if 1000 + i = 1030 then b else if 1000 + i = 1020 then fm else adV (1000 + i - 1010)) = adK i := by
    intro i hi
    rw [if_neg (by omega), if_pos (by omega), show 1000 + i - 1000 = i by omega]
  refine ⟨fun a ha => if_pos ha, ⟨fun c q hc => ?_, fun k q hq => ?_⟩, Nat.le_refl _, ?_, fun i hi => ?_, hZ, fun q hq => va_Nw.of rfl (hts _ (sm_nest q hq)), va_AO.of (hts _ sm_ov.1), va_AO.of (hts _ sm_ov.2.1), va_AO.of (hts _ sm_ov.2.2), fun i hi => ?_, hfm⟩
  · have hl : c < 13 := (List.getElem?_eq_some_iff.mp hc).1
    rw [acl_at c hl] at hc
    cases hc
    exact hD c hl
  · match k, hq with
    | 0, hq => cases hq; exact a0
    | 1, hq => cases hq; exact a1
    | 2, hq => cases hq; exact a2
    | 3, hq => cases hq; exact a3
    | 4, hq => cases hq; exact a4
    | 5, hq => cases hq; exact a5
    | 6, hq => cases hq; exact a6
    | k + 7, hq => simp [aTy] at hq
  · refine ⟨fun i hi => ?_, fun i j hi hj q => ?_⟩
    · have := hS.1 i hi
      rw [← eK i hi] at this
      exact this
    · have q' := q
      dsimp only at q'
      exact hS.2 i j hi hj ((eK i hi).symm.trans (q'.trans (eK j hj)))
  · have h2 := hE i hi
    rw [← eK i hi] at h2
    exact vk_R.of (hts _ (sm_rf i hi)) h2
  · show (if (1000 + 10 + i) < 1000 then _ else if (1000 + 10 + i) < 1007 then _ else if 1000 + 10 + i = 1030 then b else if 1000 + 10 + i = 1020 then fm else adV (1000 + 10 + i - 1010)) = adV i
    rw [if_neg (by omega), if_neg (by omega), if_neg (by omega), if_neg (by omega), show 1000 + 10 + i - 1010 = i by omega]
theorem aS_all : aS aNN ≤ 7302250 := by decide +kernel
/-- the law's walk, out of its function's answer -/
theorem whole_from {p : Program} {e : Env} {s : State} {m : MethodId} {below : List Frame} {meth : Method} {c : Code} (l : Launch) {b L : Nat} {xs : Nat → Int32} (C0 : lw_At p s m meth c b L xs) {h' : aH} (hf : f_L_law L xs aH0 = some (1, h')) (hN : h'.1 = aNN) : W p l e room_1 s m #[Value.ref b] below meth c s.heap [] 0 0 (lw_Z below #[Value.ref b] s) (entryFrame m ([Value.ref b] : List Value).toArray 4) := by
  obtain ⟨hx, hb, hr, hml, hown, hts, hX, hbl, hlocks, hgv, hnm⟩ := C0
  obtain ⟨g, hg1, hgb, hwk⟩ := world_at (b := b) hts hgv
  obtain ⟨-, k⟩ := s_L_law (L0 := L) (xs := xs) aH0 g 1 h' hf
  have hl1 := lv_entry ([Value.ref b]) (n := 4) (Nat.le_of_ble_eq_true rfl)
  rw [lg_entry_eq]
  generalize (lg_sl ([Value.ref b]) ++ List.replicate (4 - (lg_sl ([Value.ref b])).length) Slot.unset).toArray = ls at hl1 ⊢
  have w := k p l e room_1 s m #[Value.ref b] below meth c s.heap [] 0 ls ⟨by rw [hgb]; exact hX, by rw [hgb]; exact hbl, by rw [hgb]; show ¬ g.1 ≤ b; rw [hg1]; omega⟩ ⟨hx, hb, hml, hr, hnm, hlocks, hown, fun w hw => hts w (aTb_of hw), hwk⟩ (by
      rw [hN]
      refine ⟨by decide, by decide, by decide, ?_⟩
      show aS aNN - aS 0 ≤ 7302250
      exact Nat.le_trans (Nat.sub_le _ _) aS_all) ⟨by rw [hg1]; rfl, by decide, fun a ha => absurd ha (Nat.not_lt_zero a)⟩ va_S.rf (Nat.le_refl _) (Nat.zero_le _) ⟨hl1.1, rfl, hl1.2.1, fun i v hi => by
      match i, hi with
      | 0, hi =>
        cases hi
        show ls[0]? = some (.val (.ref (g.2.1 1030)))
        rw [hgb]
        exact hl1.2.2 (0, .ref b) (List.mem_cons_self)
      | 1, hi => simp at hi
      | 2, hi => simp at hi
      | 3, hi => simp at hi
      | i + 4, hi => simp at hi⟩
  intro T hT X
  obtain ⟨t, a1, o, q1, q2, ⟨⟨r, h2, e1, ⟨e2, e3⟩, -, -⟩, -⟩, Lc, ⟨f1, f2, f3⟩, q5⟩ := w T hT X
  refine ⟨t, a1, o, q1, q2, ?_, f1, f2, f3.weaken (fun y hy hlt => ?_) ?_ ?_⟩
  · rw [e1, e2]; rfl
  · have := q5 y hy
    have h9 : g.1 ≤ y.base := this
    rw [hg1] at h9
    exact absurd hlt (Nat.not_lt.mpr h9)
  · rw [hN]; decide
  · rw [hN]; exact Nat.le_trans (Nat.sub_le _ _) aS_all
