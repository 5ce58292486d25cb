abbrev aRr (h : aH) (a : Nat) : Nat → Option Nat := hR h a
theorem aN_1 (h : aH) : (aN h).1 = h.1 + 1 := rfl
def aFl : FieldType → Bool
  | .float => true
  | .double => true
  | _ => false
theorem cTy_nf : ∀ c, c < 13 → ∀ j, j < cN c → aFl (cTy c j) = false := by decide +kernel
theorem aF_default {g : aG} {ty : FieldType} (h : aFl ty = false) (j : Nat) : defaultValue ty = aF g (fun _ => 0) (fun _ => 0) (fun _ => none) ty j := by cases ty <;> first | rfl | (simp [aFl] at h)
theorem aE_aN (g : aG) (h : aH) : aE g (aN h) h.1 = aEc g (sh h.1).1 (sh h.1).2 (fun _ => 0) (fun _ => 0) (fun _ => none) := by
  unfold aE; rw [hI_aN, hL_aN, hR_aN, if_pos rfl, if_pos rfl, if_pos rfl]
theorem aGrow {g : aG} {s : State} {H H1 : Heap} {locs : List Loc} (hS : va_S (aA g) s.heap H locs) (z : H1.size = H.size + 1) (o : ∀ q, q < H.size → H1[q]? = H[q]?) : va_S (aA g) s.heap H1 locs :=
  ⟨Nat.le_trans hS.1 (by omega), fun x a b => (o x (Nat.lt_of_lt_of_le a hS.1)).trans (hS.2.1 x a b), hS.2.2⟩
theorem aw_new {Φ : aG → State → Prop} {g : aG} {d nf : Nat} {K : aM} {pc : Nat} {lv : List (Option Value)} {st : List Value} {h : aH} {Q : Option Value → aH → Prop} {ci idx : Nat} (hd : decode K.2.1 pc = .ok (.new idx, 3)) (hw : Cond.classLink K.1.cls idx (cRn ci) ∈ aTb ∧ Cond.instantiable (cRn ci) (cN ci) ∈ aTb ∧ Cond.initialized (cRn ci) ∈ aTb) (hc : ci < 13) (hs : sh h.1 = (ci + 7, cN ci)) (hb : h.1 < aSB) (hnf : h.1 + 1 ≤ nf) (k : AW Φ g d K nf (pc + 3) lv (.ref h.1 :: st) (aN h) Q) : AW Φ g d K nf pc lv st h Q := by
  intro p l e R s m args below meth c H locs n0 ls hΦ C hR hr hS h1 h2 hl
  have hts := C.2.2.2.2.2.2.2.1
  have hKn := C.2.2.2.2.2.2.2.2.2.1.1 ci _ (acl_at ci hc)
  have m1 := aS_mono h1
  have m2 := aS_mono hnf
  have m3 : aS (h.1 + 1) = aS h.1 + cN ci := by show aS h.1 + (sh h.1).2 = _; rw [hs]
  have hal : g.2.1 h.1 = g.1 + h.1 := C.2.2.2.2.2.2.2.2.1 h.1 hb
  refine W.newcK C.1 C.2.1 C.2.2.2.2.2.2.1 (hts _ hw.1) (hts _ hw.2.1) (hts _ hw.2.2) rfl hd (by omega) (by omega) hKn.2.1 hr.1 (fun H1 kC hkC e1 z1 o1 => ?_)
  have w := k p l e R s m args below meth c H1 locs n0 ls hΦ C hR (hr.new hb (by
      rw [aE_aN, hs]
      refine ⟨_, acl_at ci hc, (u_born (cTy ci) hts (cT_in ci hc) hKn hkC e1 (cT_ok ci hc)).to (fun j hj => ?_)⟩
      have hj' : j < cN ci := hj
      unfold vp_V
      rw [List.getD_eq_getElem?_getD, List.getElem?_map, List.getElem?_range hj']
      exact aF_default (cTy_nf ci hc j hj') j) (by rw [z1, hr.1]) (fun q hq => o1 q (by rw [← hr.1]; exact hq))) (aGrow hS (by rw [z1, hr.1]) (fun q hq => o1 q (by rw [← hr.1]; exact hq))) (Nat.le_succ_of_le h1) hnf hl
  have c1 : (aN h).1 - n0 = h.1 - n0 + 1 := by rw [aN_1]; omega
  have c2 : aS (aN h).1 - aS n0 = aS h.1 - aS n0 + cN ci := by rw [aN_1, m3]; omega
  rw [c1, c2] at w
  have es : (Value.ref h.1 :: st).map (cv g) = .ref (g.1 + h.1) :: st.map (cv g) := by rw [← hal]; rfl
  rw [es] at w
  exact w

theorem newa_small {N b : Nat} (h : N ≤ 65536) (hb : b ≤ 8) : N * b ≤ 536870912 := by
  have := Nat.mul_le_mul h hb
  omega
theorem aw_newa0 {Φ : aG → State → Prop} {g : aG} {d nf : Nat} {K : aM} {pc : Nat} {lv : List (Option Value)} {st : List Value} {h : aH} {Q : Option Value → aH → Prop} {n : Int32} {N : Nat} (hd : decode K.2.1 pc = .ok (.newarray .int, 2)) (hs : sh h.1 = (0, N)) (hn : ¬ n < 0 ∧ n.toNatClampNeg = N ∧ N ≤ 65536) (hb : h.1 < aSB) (hnf : h.1 + 1 ≤ nf) (k : AW Φ g d K nf (pc + 2) lv (.ref h.1 :: st) (aN h) Q) : AW Φ g d K nf pc lv (.int n :: st) h Q := by
  intro p l e R s m args below meth c H locs n0 ls hΦ C hR hr hS h1 h2 hl
  have hts := C.2.2.2.2.2.2.2.1
  have m1 := aS_mono h1
  have m2 := aS_mono hnf
  have m3 : aS (h.1 + 1) = aS h.1 + N := by show aS h.1 + (sh h.1).2 = _; rw [hs]
  have hal : g.2.1 h.1 = g.1 + h.1 := C.2.2.2.2.2.2.2.2.1 h.1 hb
  have ht : (aTy g)[0]? = some (g.2.2.2.1 0, .int) := rfl
  refine va_newaK C.1 C.2.1 (atype := .int) (hts _ wm_222) rfl hd rfl hn.1 hn.2.1 (newa_small hn.2.2 (by decide)) (by omega) (by omega) hr.1 (fun H1 cA e1 z1 o1 hAr hNm => ?_)
  have hcA : cA = g.2.2.2.1 0 := Option.some.inj (hNm.symm.trans (C.2.2.2.2.2.2.2.2.2.1.2 0 _ ht).2)
  subst hcA
  have w := k p l e R s m args below meth c H1 locs n0 ls hΦ C hR (hr.new hb (by
      rw [aE_aN, hs]
      show H1[g.1 + h.1]? = some (vp_cell (g.2.2.2.1 0) (N, .inl (fun _ => 0)))
      rw [vp_cell_i]
      exact e1) (by rw [z1, hr.1]) (fun q hq => o1 q (by rw [← hr.1]; exact hq))) (aGrow hS (by rw [z1, hr.1]) (fun q hq => o1 q (by rw [← hr.1]; exact hq))) (Nat.le_succ_of_le h1) hnf hl
  have c1 : (aN h).1 - n0 = h.1 - n0 + 1 := by rw [aN_1]; omega
  have c2 : aS (aN h).1 - aS n0 = aS h.1 - aS n0 + N := by rw [aN_1, m3]; omega
  rw [c1, c2] at w
  have es : (Value.ref h.1 :: st).map (cv g) = .ref (g.1 + h.1) :: st.map (cv g) := by rw [← hal]; rfl
  rw [es] at w
  exact w

theorem aw_newa1 {Φ : aG → State → Prop} {g : aG} {d nf : Nat} {K : aM} {pc : Nat} {lv : List (Option Value)} {st : List Value} {h : aH} {Q : Option Value → aH → Prop} {n : Int32} {N : Nat} (hd : decode K.2.1 pc = .ok (.newarray .byte, 2)) (hs : sh h.1 = (1, N)) (hn : ¬ n < 0 ∧ n.toNatClampNeg = N ∧ N ≤ 65536) (hb : h.1 < aSB) (hnf : h.1 + 1 ≤ nf) (k : AW Φ g d K nf (pc + 2) lv (.ref h.1 :: st) (aN h) Q) : AW Φ g d K nf pc lv (.int n :: st) h Q := by
  intro p l e R s m args below meth c H locs n0 ls hΦ C hR hr hS h1 h2 hl
  have hts := C.2.2.2.2.2.2.2.1
  have m1 := aS_mono h1
  have m2 := aS_mono hnf
  have m3 : aS (h.1 + 1) = aS h.1 + N := by show aS h.1 + (sh h.1).2 = _; rw [hs]
  have hal : g.2.1 h.1 = g.1 + h.1 := C.2.2.2.2.2.2.2.2.1 h.1 hb
  have ht : (aTy g)[1]? = some (g.2.2.2.1 1, .byte) := rfl
  refine va_newaK C.1 C.2.1 (atype := .byte) (hts _ wm_174) rfl hd rfl hn.1 hn.2.1 (newa_small hn.2.2 (by decide)) (by omega) (by omega) hr.1 (fun H1 cA e1 z1 o1 hAr hNm => ?_)
  have hcA : cA = g.2.2.2.1 1 := Option.some.inj (hNm.symm.trans (C.2.2.2.2.2.2.2.2.2.1.2 1 _ ht).2)
  subst hcA
  have w := k p l e R s m args below meth c H1 locs n0 ls hΦ C hR (hr.new hb (by
      rw [aE_aN, hs]
      show H1[g.1 + h.1]? = some (vp_cell (g.2.2.2.1 1) (N, .inl (fun _ => 0)))
      rw [vp_cell_i]
      exact e1) (by rw [z1, hr.1]) (fun q hq => o1 q (by rw [← hr.1]; exact hq))) (aGrow hS (by rw [z1, hr.1]) (fun q hq => o1 q (by rw [← hr.1]; exact hq))) (Nat.le_succ_of_le h1) hnf hl
  have c1 : (aN h).1 - n0 = h.1 - n0 + 1 := by rw [aN_1]; omega
  have c2 : aS (aN h).1 - aS n0 = aS h.1 - aS n0 + N := by rw [aN_1, m3]; omega
  rw [c1, c2] at w
  have es : (Value.ref h.1 :: st).map (cv g) = .ref (g.1 + h.1) :: st.map (cv g) := by rw [← hal]; rfl
  rw [es] at w
  exact w

theorem aw_newa2 {Φ : aG → State → Prop} {g : aG} {d nf : Nat} {K : aM} {pc : Nat} {lv : List (Option Value)} {st : List Value} {h : aH} {Q : Option Value → aH → Prop} {n : Int32} {N : Nat} (hd : decode K.2.1 pc = .ok (.newarray .boolean, 2)) (hs : sh h.1 = (2, N)) (hn : ¬ n < 0 ∧ n.toNatClampNeg = N ∧ N ≤ 65536) (hb : h.1 < aSB) (hnf : h.1 + 1 ≤ nf) (k : AW Φ g d K nf (pc + 2) lv (.ref h.1 :: st) (aN h) Q) : AW Φ g d K nf pc lv (.int n :: st) h Q := by
  intro p l e R s m args below meth c H locs n0 ls hΦ C hR hr hS h1 h2 hl
  have hts := C.2.2.2.2.2.2.2.1
  have m1 := aS_mono h1
  have m2 := aS_mono hnf
  have m3 : aS (h.1 + 1) = aS h.1 + N := by show aS h.1 + (sh h.1).2 = _; rw [hs]
  have hal : g.2.1 h.1 = g.1 + h.1 := C.2.2.2.2.2.2.2.2.1 h.1 hb
  have ht : (aTy g)[2]? = some (g.2.2.2.1 2, .boolean) := rfl
  refine va_newaK C.1 C.2.1 (atype := .boolean) (hts _ wm_1324) rfl hd rfl hn.1 hn.2.1 (newa_small hn.2.2 (by decide)) (by omega) (by omega) hr.1 (fun H1 cA e1 z1 o1 hAr hNm => ?_)
  have hcA : cA = g.2.2.2.1 2 := Option.some.inj (hNm.symm.trans (C.2.2.2.2.2.2.2.2.2.1.2 2 _ ht).2)
  subst hcA
  have w := k p l e R s m args below meth c H1 locs n0 ls hΦ C hR (hr.new hb (by
      rw [aE_aN, hs]
      show H1[g.1 + h.1]? = some (vp_cell (g.2.2.2.1 2) (N, .inl (fun _ => 0)))
      rw [vp_cell_i]
      exact e1) (by rw [z1, hr.1]) (fun q hq => o1 q (by rw [← hr.1]; exact hq))) (aGrow hS (by rw [z1, hr.1]) (fun q hq => o1 q (by rw [← hr.1]; exact hq))) (Nat.le_succ_of_le h1) hnf hl
  have c1 : (aN h).1 - n0 = h.1 - n0 + 1 := by rw [aN_1]; omega
  have c2 : aS (aN h).1 - aS n0 = aS h.1 - aS n0 + N := by rw [aN_1, m3]; omega
  rw [c1, c2] at w
  have es : (Value.ref h.1 :: st).map (cv g) = .ref (g.1 + h.1) :: st.map (cv g) := by rw [← hal]; rfl
  rw [es] at w
  exact w

theorem aw_newa3 {Φ : aG → State → Prop} {g : aG} {d nf : Nat} {K : aM} {pc : Nat} {lv : List (Option Value)} {st : List Value} {h : aH} {Q : Option Value → aH → Prop} {n : Int32} {N : Nat} (hd : decode K.2.1 pc = .ok (.newarray .long, 2)) (hs : sh h.1 = (3, N)) (hn : ¬ n < 0 ∧ n.toNatClampNeg = N ∧ N ≤ 65536) (hb : h.1 < aSB) (hnf : h.1 + 1 ≤ nf) (k : AW Φ g d K nf (pc + 2) lv (.ref h.1 :: st) (aN h) Q) : AW Φ g d K nf pc lv (.int n :: st) h Q := by
  intro p l e R s m args below meth c H locs n0 ls hΦ C hR hr hS h1 h2 hl
  have hts := C.2.2.2.2.2.2.2.1
  have m1 := aS_mono h1
  have m2 := aS_mono hnf
  have m3 : aS (h.1 + 1) = aS h.1 + N := by show aS h.1 + (sh h.1).2 = _; rw [hs]
  have hal : g.2.1 h.1 = g.1 + h.1 := C.2.2.2.2.2.2.2.2.1 h.1 hb
  have ht : (aTy g)[3]? = some (g.2.2.2.1 3, .long) := rfl
  refine va_newaK C.1 C.2.1 (atype := .long) (hts _ wm_373) rfl hd rfl hn.1 hn.2.1 (newa_small hn.2.2 (by decide)) (by omega) (by omega) hr.1 (fun H1 cA e1 z1 o1 hAr hNm => ?_)
  have hcA : cA = g.2.2.2.1 3 := Option.some.inj (hNm.symm.trans (C.2.2.2.2.2.2.2.2.2.1.2 3 _ ht).2)
  subst hcA
  have w := k p l e R s m args below meth c H1 locs n0 ls hΦ C hR (hr.new hb (by
      rw [aE_aN, hs]
      show H1[g.1 + h.1]? = some (vp_cell (g.2.2.2.1 3) (N, .inr <| .inl (fun _ => 0)))
      rw [vp_cell_l]
      exact e1) (by rw [z1, hr.1]) (fun q hq => o1 q (by rw [← hr.1]; exact hq))) (aGrow hS (by rw [z1, hr.1]) (fun q hq => o1 q (by rw [← hr.1]; exact hq))) (Nat.le_succ_of_le h1) hnf hl
  have c1 : (aN h).1 - n0 = h.1 - n0 + 1 := by rw [aN_1]; omega
  have c2 : aS (aN h).1 - aS n0 = aS h.1 - aS n0 + N := by rw [aN_1, m3]; omega
  rw [c1, c2] at w
  have es : (Value.ref h.1 :: st).map (cv g) = .ref (g.1 + h.1) :: st.map (cv g) := by rw [← hal]; rfl
  rw [es] at w
  exact w

theorem aw_newq4 {Φ : aG → State → Prop} {g : aG} {d nf : Nat} {K : aM} {pc : Nat} {lv : List (Option Value)} {st : List Value} {h : aH} {Q : Option Value → aH → Prop} {n : Int32} {N idx : Nat} (hd : decode K.2.1 pc = .ok (.anewarray idx, 3)) (hw : Cond.classLink K.1.cls idx RX5 ∈ aTb) (hs : sh h.1 = (4, N)) (hn : ¬ n < 0 ∧ n.toNatClampNeg = N ∧ N ≤ 65536) (hb : h.1 < aSB) (hnf : h.1 + 1 ≤ nf) (k : AW Φ g d K nf (pc + 3) lv (.ref h.1 :: st) (aN h) Q) : AW Φ g d K nf pc lv (.int n :: st) h Q := by
  intro p l e R s m args below meth c H locs n0 ls hΦ C hR hr hS h1 h2 hl
  have hts := C.2.2.2.2.2.2.2.1
  have m1 := aS_mono h1
  have m2 := aS_mono hnf
  have m3 : aS (h.1 + 1) = aS h.1 + N := by show aS h.1 + (sh h.1).2 = _; rw [hs]
  have hal : g.2.1 h.1 = g.1 + h.1 := C.2.2.2.2.2.2.2.2.1 h.1 hb
  have ht : (aTy g)[4]? = some (g.2.2.2.1 4, .object RX5) := rfl
  obtain ⟨hn1, hn2, hn3⟩ := hn
  refine W.anew C.1 C.2.1 C.2.2.2.2.2.2.1 (hts _ hw) (va_AO.use C.2.2.2.2.2.2.2.2.2.2.2.2.2.2.2.1) rfl hd rfl hn1 (by rw [hn2]; omega) (by omega) (by rw [hn2]; omega) (fun cA kA comp f1 f2 f3 f4 => ?_)
  obtain ⟨kA', comp', g1, g2, g3, g4⟩ := (C.2.2.2.2.2.2.2.2.2.1.2 4 _ ht).2
  have hcA : cA = g.2.2.2.1 4 := Option.some.inj (f1.symm.trans g4)
  subst hcA
  rw [hn2]
  generalize hH1 : H.push ({ cls := g.2.2.2.1 4, slots := Array.replicate N .null, vm := .none } : Cell) = H1
  have z1 : H1.size = H.size + 1 := by rw [← hH1, Array.size_push]
  have e1 : H1[H.size]? = some (arrV (g.2.2.2.1 4) N (fun _ => .null)) := by rw [← hH1, Array.getElem?_push_size, ← arrV_new]
  have o1 : ∀ q : Nat, q < H.size → H1[q]? = H[q]? := fun q hq => by rw [← hH1, Array.getElem?_push, if_neg (Nat.ne_of_lt hq)]
  have w := k p l e R s m args below meth c H1 locs n0 ls hΦ C hR (hr.new hb (by
      rw [aE_aN, hs]
      show H1[g.1 + h.1]? = some (vp_cell (g.2.2.2.1 4) (N, .inr (.inr (.inr (.inr (fun _ => none))))))
      rw [vp_cell_q, ← hr.1]
      exact e1) z1 o1) (aGrow hS z1 o1) (Nat.le_succ_of_le h1) hnf hl
  have c1 : (aN h).1 - n0 = h.1 - n0 + 1 := by rw [aN_1]; omega
  have c2 : aS (aN h).1 - aS n0 = aS h.1 - aS n0 + N := by rw [aN_1, m3]; omega
  rw [c1, c2] at w
  have es : (Value.ref h.1 :: st).map (cv g) = .ref H.size :: st.map (cv g) := by rw [hr.1, ← hal]; rfl
  rw [es] at w
  exact w
theorem st_aast4 {K : aM} {pc : Nat} {lv : List (Option Value)} {st : List Value} {h : aH} {a b ci : Nat} {i : Int32} (hd : decode K.2.1 pc = .ok (.aastore, 1)) (ha : a < h.1) (hs : (sh a).1 = 4) (hi : aIn i (sh a).2) (hb : b < h.1) (hsb : (sh b).1 = ci + 7) (hc : ci < 13) (hcl : cRn ci = RX5) : aStp K pc lv (.ref b :: .int i :: .ref a :: st) h (pc + 1) lv st (pR h a i.toNatClampNeg (some b)) := by
  intro Φ g d nf Q k p l e R s m args below meth c H locs n0 ls hΦ C hR hr hS h1 h2 hl
  have hc0 : H[g.1 + a]? = some (arrV (g.2.2.2.1 4) (sh a).2 (fun j => va_rf ((aRr h a j).map g.2.1))) := by
    have := hr.2.2 a ha
    rw [aE_4 hs] at this
    exact this
  have ht : (aTy g)[4]? = some (g.2.2.2.1 4, .object RX5) := rfl
  obtain ⟨r', f1, cellV, g1, g2, g3, -⟩ := (by have := hr.2.2 b hb; rw [aE_obj hsb] at this; exact this : va_at g.2.2.1 acl (g.1 + b, .inr (ci, _)) H)
  have hcls := (C.2.2.2.2.2.2.2.2.2.1.1 ci _ (acl_at ci hc)).2
  obtain ⟨kA, comp, k1, k2, k3, -⟩ := (C.2.2.2.2.2.2.2.2.2.1.2 4 _ ht).2
  have hcomp : comp = g.2.2.1.1 ci := Option.some.inj (k3.symm.trans (by rw [← hcl]; exact hcls.1))
  subst hcomp
  obtain ⟨kC, hkC, -⟩ := hcls.2
  obtain ⟨h0, hlt⟩ := (⟨fun q => hi (Or.inl q), Nat.not_le.mp fun q => hi (Or.inr q)⟩ : ¬ i < 0 ∧ i.toNatClampNeg < (sh a).2)
  show W p l e R s m args below meth c H locs (h.1 - n0) (aS h.1 - aS n0) (MQ below (aQ g nf Q) args s (nf - n0) (aS nf - aS n0) (aA g)) (F0 m pc ls (.ref (g.2.1 b) :: .int i :: .ref (g.2.1 a) :: st.map (cv g)))
  rw [C.al hr ha, C.al hr hb]
  refine W.aast C.1 C.2.1 hc0 (fun q z => by cases z) (fun z => by cases z) k1 k2 rfl hkC ⟨h0, by rw [arrV_size]; exact hlt⟩ g1 (fun q z => by rw [g3] at z; cases z) (by rw [g2]; exact hkC) (by rw [g2]; exact va_assign hcls) rfl rfl hd fun H1 e1 z oq => ?_
  refine k p l e R s m args below meth c H1 _ n0 ls hΦ C hR (hr.set (h' := pR h a i.toNatClampNeg (some b)) rfl (fun q hq => aE_wR q hq) ?_ z oq) (hS.put z oq (by show g.1 ≤ g.1 + a; omega)) h1 h2 hl
  rw [aE_4 hs]
  show H1[g.1 + a]? = some (vp_cell (g.2.2.2.1 4) ((sh a).2, .inr (.inr (.inr (.inr (fun j => (aRr (pR h a i.toNatClampNeg (some b)) a j).map g.2.1))))))
  rw [vp_cell_q, e1, arrV_store]
  congr 2
  funext q
  by_cases hq : q = i.toNatClampNeg
  · subst hq
    simp [updV, pR, hR_wR, va_up, va_rf, C.al hr hb]
  · simp [updV, pR, hR_wR, va_up, hq]

theorem aw_newq5 {Φ : aG → State → Prop} {g : aG} {d nf : Nat} {K : aM} {pc : Nat} {lv : List (Option Value)} {st : List Value} {h : aH} {Q : Option Value → aH → Prop} {n : Int32} {N idx : Nat} (hd : decode K.2.1 pc = .ok (.anewarray idx, 3)) (hw : Cond.classLink K.1.cls idx RX8 ∈ aTb) (hs : sh h.1 = (5, N)) (hn : ¬ n < 0 ∧ n.toNatClampNeg = N ∧ N ≤ 65536) (hb : h.1 < aSB) (hnf : h.1 + 1 ≤ nf) (k : AW Φ g d K nf (pc + 3) lv (.ref h.1 :: st) (aN h) Q) : AW Φ g d K nf pc lv (.int n :: st) h Q := by
  intro p l e R s m args below meth c H locs n0 ls hΦ C hR hr hS h1 h2 hl
  have hts := C.2.2.2.2.2.2.2.1
  have m1 := aS_mono h1
  have m2 := aS_mono hnf
  have m3 : aS (h.1 + 1) = aS h.1 + N := by show aS h.1 + (sh h.1).2 = _; rw [hs]
  have hal : g.2.1 h.1 = g.1 + h.1 := C.2.2.2.2.2.2.2.2.1 h.1 hb
  have ht : (aTy g)[5]? = some (g.2.2.2.1 5, .object RX8) := rfl
  obtain ⟨hn1, hn2, hn3⟩ := hn
  refine W.anew C.1 C.2.1 C.2.2.2.2.2.2.1 (hts _ hw) (va_AO.use C.2.2.2.2.2.2.2.2.2.2.2.2.2.2.2.2.1) rfl hd rfl hn1 (by rw [hn2]; omega) (by omega) (by rw [hn2]; omega) (fun cA kA comp f1 f2 f3 f4 => ?_)
  obtain ⟨kA', comp', g1, g2, g3, g4⟩ := (C.2.2.2.2.2.2.2.2.2.1.2 5 _ ht).2
  have hcA : cA = g.2.2.2.1 5 := Option.some.inj (f1.symm.trans g4)
  subst hcA
  rw [hn2]
  generalize hH1 : H.push ({ cls := g.2.2.2.1 5, slots := Array.replicate N .null, vm := .none } : Cell) = H1
  have z1 : H1.size = H.size + 1 := by rw [← hH1, Array.size_push]
  have e1 : H1[H.size]? = some (arrV (g.2.2.2.1 5) N (fun _ => .null)) := by rw [← hH1, Array.getElem?_push_size, ← arrV_new]
  have o1 : ∀ q : Nat, q < H.size → H1[q]? = H[q]? := fun q hq => by rw [← hH1, Array.getElem?_push, if_neg (Nat.ne_of_lt hq)]
  have w := k p l e R s m args below meth c H1 locs n0 ls hΦ C hR (hr.new hb (by
      rw [aE_aN, hs]
      show H1[g.1 + h.1]? = some (vp_cell (g.2.2.2.1 5) (N, .inr (.inr (.inr (.inr (fun _ => none))))))
      rw [vp_cell_q, ← hr.1]
      exact e1) z1 o1) (aGrow hS z1 o1) (Nat.le_succ_of_le h1) hnf hl
  have c1 : (aN h).1 - n0 = h.1 - n0 + 1 := by rw [aN_1]; omega
  have c2 : aS (aN h).1 - aS n0 = aS h.1 - aS n0 + N := by rw [aN_1, m3]; omega
  rw [c1, c2] at w
  have es : (Value.ref h.1 :: st).map (cv g) = .ref H.size :: st.map (cv g) := by rw [hr.1, ← hal]; rfl
  rw [es] at w
  exact w
theorem st_aast5 {K : aM} {pc : Nat} {lv : List (Option Value)} {st : List Value} {h : aH} {a b ci : Nat} {i : Int32} (hd : decode K.2.1 pc = .ok (.aastore, 1)) (ha : a < h.1) (hs : (sh a).1 = 5) (hi : aIn i (sh a).2) (hb : b < h.1) (hsb : (sh b).1 = ci + 7) (hc : ci < 13) (hcl : cRn ci = RX8) : aStp K pc lv (.ref b :: .int i :: .ref a :: st) h (pc + 1) lv st (pR h a i.toNatClampNeg (some b)) := by
  intro Φ g d nf Q k p l e R s m args below meth c H locs n0 ls hΦ C hR hr hS h1 h2 hl
  have hc0 : H[g.1 + a]? = some (arrV (g.2.2.2.1 5) (sh a).2 (fun j => va_rf ((aRr h a j).map g.2.1))) := by
    have := hr.2.2 a ha
    rw [aE_5 hs] at this
    exact this
  have ht : (aTy g)[5]? = some (g.2.2.2.1 5, .object RX8) := rfl
  obtain ⟨r', f1, cellV, g1, g2, g3, -⟩ := (by have := hr.2.2 b hb; rw [aE_obj hsb] at this; exact this : va_at g.2.2.1 acl (g.1 + b, .inr (ci, _)) H)
  have hcls := (C.2.2.2.2.2.2.2.2.2.1.1 ci _ (acl_at ci hc)).2
  obtain ⟨kA, comp, k1, k2, k3, -⟩ := (C.2.2.2.2.2.2.2.2.2.1.2 5 _ ht).2
  have hcomp : comp = g.2.2.1.1 ci := Option.some.inj (k3.symm.trans (by rw [← hcl]; exact hcls.1))
  subst hcomp
  obtain ⟨kC, hkC, -⟩ := hcls.2
  obtain ⟨h0, hlt⟩ := (⟨fun q => hi (Or.inl q), Nat.not_le.mp fun q => hi (Or.inr q)⟩ : ¬ i < 0 ∧ i.toNatClampNeg < (sh a).2)
  show W p l e R s m args below meth c H locs (h.1 - n0) (aS h.1 - aS n0) (MQ below (aQ g nf Q) args s (nf - n0) (aS nf - aS n0) (aA g)) (F0 m pc ls (.ref (g.2.1 b) :: .int i :: .ref (g.2.1 a) :: st.map (cv g)))
  rw [C.al hr ha, C.al hr hb]
  refine W.aast C.1 C.2.1 hc0 (fun q z => by cases z) (fun z => by cases z) k1 k2 rfl hkC ⟨h0, by rw [arrV_size]; exact hlt⟩ g1 (fun q z => by rw [g3] at z; cases z) (by rw [g2]; exact hkC) (by rw [g2]; exact va_assign hcls) rfl rfl hd fun H1 e1 z oq => ?_
  refine k p l e R s m args below meth c H1 _ n0 ls hΦ C hR (hr.set (h' := pR h a i.toNatClampNeg (some b)) rfl (fun q hq => aE_wR q hq) ?_ z oq) (hS.put z oq (by show g.1 ≤ g.1 + a; omega)) h1 h2 hl
  rw [aE_5 hs]
  show H1[g.1 + a]? = some (vp_cell (g.2.2.2.1 5) ((sh a).2, .inr (.inr (.inr (.inr (fun j => (aRr (pR h a i.toNatClampNeg (some b)) a j).map g.2.1))))))
  rw [vp_cell_q, e1, arrV_store]
  congr 2
  funext q
  by_cases hq : q = i.toNatClampNeg
  · subst hq
    simp [updV, pR, hR_wR, va_up, va_rf, C.al hr hb]
  · simp [updV, pR, hR_wR, va_up, hq]

theorem aw_newq6 {Φ : aG → State → Prop} {g : aG} {d nf : Nat} {K : aM} {pc : Nat} {lv : List (Option Value)} {st : List Value} {h : aH} {Q : Option Value → aH → Prop} {n : Int32} {N idx : Nat} (hd : decode K.2.1 pc = .ok (.anewarray idx, 3)) (hw : Cond.classLink K.1.cls idx RX10 ∈ aTb) (hs : sh h.1 = (6, N)) (hn : ¬ n < 0 ∧ n.toNatClampNeg = N ∧ N ≤ 65536) (hb : h.1 < aSB) (hnf : h.1 + 1 ≤ nf) (k : AW Φ g d K nf (pc + 3) lv (.ref h.1 :: st) (aN h) Q) : AW Φ g d K nf pc lv (.int n :: st) h Q := by
  intro p l e R s m args below meth c H locs n0 ls hΦ C hR hr hS h1 h2 hl
  have hts := C.2.2.2.2.2.2.2.1
  have m1 := aS_mono h1
  have m2 := aS_mono hnf
  have m3 : aS (h.1 + 1) = aS h.1 + N := by show aS h.1 + (sh h.1).2 = _; rw [hs]
  have hal : g.2.1 h.1 = g.1 + h.1 := C.2.2.2.2.2.2.2.2.1 h.1 hb
  have ht : (aTy g)[6]? = some (g.2.2.2.1 6, .object RX10) := rfl
  obtain ⟨hn1, hn2, hn3⟩ := hn
  refine W.anew C.1 C.2.1 C.2.2.2.2.2.2.1 (hts _ hw) (va_AO.use C.2.2.2.2.2.2.2.2.2.2.2.2.2.2.2.2.2.1) rfl hd rfl hn1 (by rw [hn2]; omega) (by omega) (by rw [hn2]; omega) (fun cA kA comp f1 f2 f3 f4 => ?_)
  obtain ⟨kA', comp', g1, g2, g3, g4⟩ := (C.2.2.2.2.2.2.2.2.2.1.2 6 _ ht).2
  have hcA : cA = g.2.2.2.1 6 := Option.some.inj (f1.symm.trans g4)
  subst hcA
  rw [hn2]
  generalize hH1 : H.push ({ cls := g.2.2.2.1 6, slots := Array.replicate N .null, vm := .none } : Cell) = H1
  have z1 : H1.size = H.size + 1 := by rw [← hH1, Array.size_push]
  have e1 : H1[H.size]? = some (arrV (g.2.2.2.1 6) N (fun _ => .null)) := by rw [← hH1, Array.getElem?_push_size, ← arrV_new]
  have o1 : ∀ q : Nat, q < H.size → H1[q]? = H[q]? := fun q hq => by rw [← hH1, Array.getElem?_push, if_neg (Nat.ne_of_lt hq)]
  have w := k p l e R s m args below meth c H1 locs n0 ls hΦ C hR (hr.new hb (by
      rw [aE_aN, hs]
      show H1[g.1 + h.1]? = some (vp_cell (g.2.2.2.1 6) (N, .inr (.inr (.inr (.inr (fun _ => none))))))
      rw [vp_cell_q, ← hr.1]
      exact e1) z1 o1) (aGrow hS z1 o1) (Nat.le_succ_of_le h1) hnf hl
  have c1 : (aN h).1 - n0 = h.1 - n0 + 1 := by rw [aN_1]; omega
  have c2 : aS (aN h).1 - aS n0 = aS h.1 - aS n0 + N := by rw [aN_1, m3]; omega
  rw [c1, c2] at w
  have es : (Value.ref h.1 :: st).map (cv g) = .ref H.size :: st.map (cv g) := by rw [hr.1, ← hal]; rfl
  rw [es] at w
  exact w
theorem st_aast6 {K : aM} {pc : Nat} {lv : List (Option Value)} {st : List Value} {h : aH} {a b ci : Nat} {i : Int32} (hd : decode K.2.1 pc = .ok (.aastore, 1)) (ha : a < h.1) (hs : (sh a).1 = 6) (hi : aIn i (sh a).2) (hb : b < h.1) (hsb : (sh b).1 = ci + 7) (hc : ci < 13) (hcl : cRn ci = RX10) : aStp K pc lv (.ref b :: .int i :: .ref a :: st) h (pc + 1) lv st (pR h a i.toNatClampNeg (some b)) := by
  intro Φ g d nf Q k p l e R s m args below meth c H locs n0 ls hΦ C hR hr hS h1 h2 hl
  have hc0 : H[g.1 + a]? = some (arrV (g.2.2.2.1 6) (sh a).2 (fun j => va_rf ((aRr h a j).map g.2.1))) := by
    have := hr.2.2 a ha
    rw [aE_6 hs] at this
    exact this
  have ht : (aTy g)[6]? = some (g.2.2.2.1 6, .object RX10) := rfl
  obtain ⟨r', f1, cellV, g1, g2, g3, -⟩ := (by have := hr.2.2 b hb; rw [aE_obj hsb] at this; exact this : va_at g.2.2.1 acl (g.1 + b, .inr (ci, _)) H)
  have hcls := (C.2.2.2.2.2.2.2.2.2.1.1 ci _ (acl_at ci hc)).2
  obtain ⟨kA, comp, k1, k2, k3, -⟩ := (C.2.2.2.2.2.2.2.2.2.1.2 6 _ ht).2
  have hcomp : comp = g.2.2.1.1 ci := Option.some.inj (k3.symm.trans (by rw [← hcl]; exact hcls.1))
  subst hcomp
  obtain ⟨kC, hkC, -⟩ := hcls.2
  obtain ⟨h0, hlt⟩ := (⟨fun q => hi (Or.inl q), Nat.not_le.mp fun q => hi (Or.inr q)⟩ : ¬ i < 0 ∧ i.toNatClampNeg < (sh a).2)
  show W p l e R s m args below meth c H locs (h.1 - n0) (aS h.1 - aS n0) (MQ below (aQ g nf Q) args s (nf - n0) (aS nf - aS n0) (aA g)) (F0 m pc ls (.ref (g.2.1 b) :: .int i :: .ref (g.2.1 a) :: st.map (cv g)))
  rw [C.al hr ha, C.al hr hb]
  refine W.aast C.1 C.2.1 hc0 (fun q z => by cases z) (fun z => by cases z) k1 k2 rfl hkC ⟨h0, by rw [arrV_size]; exact hlt⟩ g1 (fun q z => by rw [g3] at z; cases z) (by rw [g2]; exact hkC) (by rw [g2]; exact va_assign hcls) rfl rfl hd fun H1 e1 z oq => ?_
  refine k p l e R s m args below meth c H1 _ n0 ls hΦ C hR (hr.set (h' := pR h a i.toNatClampNeg (some b)) rfl (fun q hq => aE_wR q hq) ?_ z oq) (hS.put z oq (by show g.1 ≤ g.1 + a; omega)) h1 h2 hl
  rw [aE_6 hs]
  show H1[g.1 + a]? = some (vp_cell (g.2.2.2.1 6) ((sh a).2, .inr (.inr (.inr (.inr (fun j => (aRr (pR h a i.toNatClampNeg (some b)) a j).map g.2.1))))))
  rw [vp_cell_q, e1, arrV_store]
  congr 2
  funext q
  by_cases hq : q = i.toNatClampNeg
  · subst hq
    simp [updV, pR, hR_wR, va_up, va_rf, C.al hr hb]
  · simp [updV, pR, hR_wR, va_up, hq]

theorem aw_obj {Φ : aG → State → Prop} {g : aG} {d nf : Nat} {K : aM} {pc : Nat} {lv : List (Option Value)} {st : List Value} {h : aH} {Q : Option Value → aH → Prop} {idx a : Nat} (hd : decode K.2.1 pc = .ok (.invokespecial idx, 3)) (hw : Cond.methodLink K.1.cls idx Lib.objectInit ∈ aTb) (hcat : (st.map fun v => v.category).sum ≤ 8) (hdd : 1 ≤ d) (k : AW Φ g d K nf (pc + 3) lv st h Q) : AW Φ g d K nf pc lv (.ref a :: st) h Q := by
  intro p l e R s m args below meth c H locs n0 ls hΦ C hR hr hS h1 h2 hl
  have hts := C.2.2.2.2.2.2.2.1
  refine W.objInit C.1 C.2.1 C.2.2.2.2.2.2.1 (hts _ hw) (hts _ wm_148) (hts _ wm_149) rfl (hl.1.trans C.2.2.1.symm) (a := g.2.1 a) (rest := st.map (cv g)) rfl hd (by omega) ?_ (k p l e R s m args below meth c H locs n0 ls hΦ C hR hr hS h1 h2 hl)
  have e3 : (F0 m pc ls ((Value.ref a :: st).map (cv g))).monitorRoom = 0 := rfl
  rw [e3, cv_sum]
  omega
theorem aw_callI {Φ : aG → State → Prop} {g : aG} {d nf : Nat} {K : aM} {pc : Nat} {lv : List (Option Value)} {st : List Value} {h : aH} {Q : Option Value → aH → Prop} {d' nf' n idx b : Nat} {Kc : aM} {st0 As : List Value} {Qc : Option Value → aH → Prop} (hd : decode K.2.1 pc = .ok (.invokespecial idx, 3)) (hw : Cond.methodLink K.1.cls idx Kc.1 ∈ aTb ∨ (K.1.cls, idx, Kc.1) ∈ aNest) (hm : aMI Kc n) (hi : Cond.instanceMethod Kc.1 ∈ aTb) (hnm : Kc.1.name = "<init>") (hrt : Kc.2.2.2 = none) (hn : As.length = n) (hst : st0 = As.reverse ++ .ref b :: st) (hcat : (st.map fun v => v.category).sum ≤ 8) (hdd : d' + 1 ≤ d) (hf2 : nf' ≤ nf)
    (hM : aSp g d' Kc nf' (.ref b :: As) h Qc) (kk : ∀ (r : Option Value) (h' : aH), Qc r h' → h'.1 = nf' → AW Φ g d K nf (pc + 3) lv (r.toList ++ st) h' Q) : AW Φ g d K nf pc lv st0 h Q := by
  intro p l e R s m args below meth c H locs n0 ls hΦ C hR hr hS h1 h2 hl
  have hts := C.2.2.2.2.2.2.2.1
  have m1 := aS_mono h1
  have m2 := aS_mono hM.1
  have m3 := aS_mono hf2
  have hf1 := hM.1
  have i6 := hm.2.2.2.2.2
  obtain ⟨yc, cc, mL, rt⟩ := Kc
  dsimp only at hrt hnm hi hw
  subst hrt
  refine aBack kk hM.1 hf2 hΦ C hR hS h1 hl (a := (Value.ref (g.2.1 b) :: As.map (cv g)).toArray) ?_
  have hst' : st0.map (cv g) = (As.map (cv g)).reverse ++ .ref (g.2.1 b) :: st.map (cv g) := by
    rw [hst, List.map_append, List.map_reverse]
    rfl
  have hroom : h.1 - n0 + (nf' - h.1) ≤ R.cells ∧ aS h.1 - aS n0 + (aS nf' - aS h.1) ≤ R.slots := by
    have := hR.2.2.1
    have := hR.2.2.2
    omega
  rcases hw with hw | hw
  · exact va_runI (As := As.map (cv g)) (b := g.2.1 b) (n := n) ⟨C.1, C.2.1, C.2.2.1, C.2.2.2.2.2.2.1, hts⟩ (hM.2 l) ⟨callB_of n hts (aCode_good hm) rfl rfl rfl (hts _ hm.1) (hts _ hw) ⟨hm.2.2.1, hm.2.2.2.1, hm.2.2.2.2.1⟩ (aRoomOk hdd i6 hR.1 hR.2.1), hnm, hts _ hi⟩ ⟨aBlind, fun U hU hW => ⟨rfl, aPre C hr hS U hU hW⟩⟩ rfl (by rw [List.length_map]; exact hn) hl.1 hst' (aCat hcat) hd hroom
  · exact va_runIN (As := As.map (cv g)) (b := g.2.1 b) (n := n) (host := RX11) ⟨C.1, C.2.1, C.2.2.1, C.2.2.2.2.2.2.1, hts⟩ (hM.2 l) ⟨va_cnB n hts (aCode_good hm) rfl rfl rfl (C.2.2.2.2.2.2.2.2.2.2.2.2.2.2.1 _ hw) (hts _ hm.1) ⟨hm.2.2.1, hm.2.2.2.1, hm.2.2.2.2.1⟩ (aRoomOk hdd i6 hR.1 hR.2.1), hnm, hts _ hi⟩ ⟨aBlind, fun U hU hW => ⟨rfl, aPre C hr hS U hU hW⟩⟩ rfl (by rw [List.length_map]; exact hn) hl.1 hst' (aCat hcat) hd hroom
/-! ===== AOc: as AO, where cells are made ===== -/
def AOc (Φ : aG → State → Prop) {ρ : Type} (E : ρ → Option Value) (d : Nat) (K : aM) (pc : Nat) (lv : List (Option Value)) (st : List Value) (h : aH) (o : Option (ρ × aH)) : Prop :=
  ∀ (g : aG) (r : ρ) (h' : aH), o = some (r, h') → h.1 ≤ h'.1 ∧ AW Φ g d K h'.1 pc lv st h (fun r2 h2 => r2 = E r ∧ h2 = h')
def SOc {ρ : Type} (E : ρ → Option Value) (d : Nat) (K : aM) (as : List Value) (h : aH) (o : Option (ρ × aH)) : Prop :=
  ∀ (g : aG) (r : ρ) (h' : aH), o = some (r, h') → h.1 ≤ h'.1 ∧ aSp g d K h'.1 as h (fun r2 h2 => r2 = E r ∧ h2 = h')
section AOCC
variable {Φ : aG → State → Prop} {ρ : Type} {E : ρ → Option Value} {d : Nat} {K : aM} {pc : Nat} {lv : List (Option Value)} {st : List Value} {h : aH} {o : Option (ρ × aH)}
theorem soc_of {as : List Value} {lv0 : List (Option Value)} (hy : plainName K.1.cls = true) (hl : (aEn as).length ≤ K.2.2.1) (he : aEnt as K.2.2.1 = lv0) (k : AOc aTr E d K 0 lv0 [] h o) : SOc E d K as h o := by
  intro g r h' e
  obtain ⟨a, b⟩ := k g r h' e
  exact ⟨a, aSp_of a hy hl (by rw [he]; exact b)⟩
theorem aoc_none : AOc Φ E d K pc lv st h none := fun g r h' e => by cases e
theorem aoc_s {pc' : Nat} {lv' : List (Option Value)} {st' : List Value} {h2 : aH} (hs : aStp K pc lv st h pc' lv' st' h2) (k : AOc Φ E d K pc' lv' st' h2 o) (e1 : h2.1 = h.1 := by exact rfl) : AOc Φ E d K pc lv st h o := by
  intro g r h' e
  obtain ⟨a, b⟩ := k g r h' e
  exact ⟨by rw [← e1]; exact a, hs Φ g d h'.1 _ b⟩
theorem aoc_chk {c : Prop} [Decidable c] (k1 : c → AOc Φ E d K pc lv st h o) : AOc Φ E d K pc lv st h (if c then o else none) := by
  intro g r h' e
  by_cases hc : c
  · rw [if_pos hc] at e; exact k1 hc g r h' e
  · rw [if_neg hc] at e; cases e
theorem aoc_bnd {α : Type} {x : Option α} {f : α → Option (ρ × aH)} (k1 : ∀ b, x = some b → AOc Φ E d K pc lv st h (f b)) : AOc Φ E d K pc lv st h (x.bind f) := by
  intro g r h' e
  cases hx : x with
  | none => rw [hx] at e; cases e
  | some b => rw [hx] at e; exact k1 b hx g r h' e
theorem aoc_br {c : Prop} [Decidable c] {o1 o2 : Option (ρ × aH)} {tgt nx : Nat} {st0 : List Value} (hb : aBr K pc lv st0 h c tgt nx st) (k1 : c → AOc Φ E d K tgt lv st h o1) (k2 : ¬ c → AOc Φ E d K nx lv st h o2) : AOc Φ E d K pc lv st0 h (if c then o1 else o2) := by
  intro g r h' e
  by_cases hc : c
  · rw [if_pos hc] at e
    obtain ⟨a, b⟩ := k1 hc g r h' e
    exact ⟨a, hb Φ g d h'.1 _ (fun _ => b) (fun q => absurd hc q)⟩
  · rw [if_neg hc] at e
    obtain ⟨a, b⟩ := k2 hc g r h' e
    exact ⟨a, hb Φ g d h'.1 _ (fun q => absurd q hc) (fun _ => b)⟩
theorem aoc_letI {t : Int32} {f : Int32 → Option (ρ × aH)} (k : ∀ x, AOc Φ E d K pc lv (.int x :: st) h (f x)) : AOc Φ E d K pc lv (.int t :: st) h (aLet t f) := k t
theorem aoc_letH {f : aH → Option (ρ × aH)} (k : ∀ x, AOc Φ E d K pc lv st x (f x)) : AOc Φ E d K pc lv st h (aLet h f) := k h
theorem aoc_vr (hd : decode K.2.1 pc = .ok (.return_, 1)) (hty : K.2.2.2 = none) : AOc Φ eV d K pc lv [] h (some ((), h)) := by
  intro g r h' e
  cases e
  exact ⟨Nat.le_refl _, aw_vr hd hty ⟨rfl, rfl⟩⟩
theorem aoc_new {ci idx : Nat} (hd : decode K.2.1 pc = .ok (.new idx, 3)) (hw : Cond.classLink K.1.cls idx (cRn ci) ∈ aTb ∧ Cond.instantiable (cRn ci) (cN ci) ∈ aTb ∧ Cond.initialized (cRn ci) ∈ aTb) (hc : ci < 13) (k : AOc Φ E d K (pc + 3) lv (.ref h.1 :: st) (aN h) o) : AOc Φ E d K pc lv st h (if sh h.1 = (ci + 7, cN ci) ∧ h.1 < aSB then o else none) := aoc_chk fun q => by
  intro g r h' e
  obtain ⟨a, b⟩ := k g r h' e
  rw [aN_1] at a
  exact ⟨by omega, aw_new hd hw hc q.1 q.2 a b⟩
theorem aoc_obj {idx a : Nat} (hd : decode K.2.1 pc = .ok (.invokespecial idx, 3)) (hw : Cond.methodLink K.1.cls idx Lib.objectInit ∈ aTb) (hcat : (st.map fun v => v.category).sum ≤ 8) (hdd : 1 ≤ d) (k : AOc Φ E d K (pc + 3) lv st h o) : AOc Φ E d K pc lv (.ref a :: st) h o := by
  intro g r h' e
  obtain ⟨a, b⟩ := k g r h' e
  exact ⟨a, aw_obj hd hw hcat hdd b⟩
theorem aoc_callI {d' n idx b : Nat} {Kc : aM} {st0 As : List Value} {o1 : Option (Unit × aH)} {f : Unit → aH → Option (ρ × aH)} (hd : decode K.2.1 pc = .ok (.invokespecial idx, 3)) (hw : Cond.methodLink K.1.cls idx Kc.1 ∈ aTb ∨ (K.1.cls, idx, Kc.1) ∈ aNest) (hm : aMI Kc n) (hi : Cond.instanceMethod Kc.1 ∈ aTb) (hnm : Kc.1.name = "<init>") (hrt : Kc.2.2.2 = none) (hn : As.length = n) (hst : st0 = As.reverse ++ .ref b :: st) (hcat : (st.map fun v => v.category).sum ≤ 8) (hdd : d' + 1 ≤ d)
    (hM : SOc eV d' Kc (.ref b :: As) h o1) (kk : ∀ (r : Unit) (h' : aH), AOc Φ E d K (pc + 3) lv st h' (f r h')) : AOc Φ E d K pc lv st0 h (aBind o1 f) := by
  intro g r h' e
  unfold aBind at e
  cases ho : o1 with
  | none => rw [ho] at e; cases e
  | some q =>
    obtain ⟨r1, h1⟩ := q
    rw [ho] at e
    obtain ⟨a1, b1⟩ := hM g r1 h1 ho
    obtain ⟨a2, b2⟩ := kk r1 h1 g r h' e
    refine ⟨Nat.le_trans a1 a2, aw_callI hd hw hm hi hnm hrt hn hst hcat hdd a2 b1 ?_⟩
    rintro r2 h2 ⟨rfl, rfl⟩ _
    exact b2
theorem aoc_getR {f : Nat → Option (ρ × aH)} {idx ci k a : Nat} (hd : decode K.2.1 pc = .ok (.getfield idx, 3)) (hw : aFL K.1.cls idx ci k) (ht : aKd (cTy ci k) = 2) (hs : a < h.1 ∧ (sh a).1 = ci + 7) (kk : ∀ b, AOc Φ E d K (pc + 3) lv (.ref b :: st) h (f b)) : AOc Φ E d K pc lv (.ref a :: st) h ((hR h a k).bind f) := aoc_bnd fun b hb => aoc_s (st_getR hd hw ht hs.1 hs.2 hb) (kk b)
theorem aoc_putI {idx ci k a : Nat} {x : Int32} (hd : decode K.2.1 pc = .ok (.putfield idx, 3)) (hw : aFL K.1.cls idx ci k) (ht : aKd (cTy ci k) = 0) (hf : (cT ci k).2.2.2 = false) (hn : narrow (cTy ci k) (.int x) = .int x) (hfit : fits (cTy ci k) (.int x) = true) (hs : a < h.1 ∧ (sh a).1 = ci + 7) (kk : AOc Φ E d K (pc + 3) lv st (pI h a k x) o) : AOc Φ E d K pc lv (.int x :: .ref a :: st) h o := aoc_s (st_putI hd hw ht hf hn hfit hs.1 hs.2) kk
theorem aoc_putL {idx ci k a : Nat} {x : Int64} (hd : decode K.2.1 pc = .ok (.putfield idx, 3)) (hw : aFL K.1.cls idx ci k) (ht : aKd (cTy ci k) = 1) (hf : (cT ci k).2.2.2 = false) (hn : narrow (cTy ci k) (.long x) = .long x) (hfit : fits (cTy ci k) (.long x) = true) (hs : a < h.1 ∧ (sh a).1 = ci + 7) (kk : AOc Φ E d K (pc + 3) lv st (pL h a k x) o) : AOc Φ E d K pc lv (.long x :: .ref a :: st) h o := aoc_s (st_putL hd hw ht hf hn hfit hs.1 hs.2) kk
theorem aoc_putR {idx ci k a x : Nat} (hd : decode K.2.1 pc = .ok (.putfield idx, 3)) (hw : aFL K.1.cls idx ci k) (ht : aKd (cTy ci k) = 2) (hf : (cT ci k).2.2.2 = false ∨ ((cT ci k).2.2.2 = true ∧ K.1.name = "<init>" ∧ cRn ci = K.1.cls)) (hs : a < h.1 ∧ (sh a).1 = ci + 7) (kk : AOc Φ E d K (pc + 3) lv st (pR h a k (some x)) o) : AOc Φ E d K pc lv (.ref x :: .ref a :: st) h o := aoc_s (st_putR hd hw ht hf hs.1 hs.2) kk

theorem aoc_newa0 {n : Int32} {N : Nat} (hd : decode K.2.1 pc = .ok (.newarray .int, 2)) (hn : ¬ n < 0 ∧ n.toNatClampNeg = N ∧ N ≤ 65536) (k : AOc Φ E d K (pc + 2) lv (.ref h.1 :: st) (aN h) o) : AOc Φ E d K pc lv (.int n :: st) h (if sh h.1 = (0, N) ∧ h.1 < aSB then o else none) := aoc_chk fun q => by
  intro g r h' e
  obtain ⟨a, b⟩ := k g r h' e
  rw [aN_1] at a
  exact ⟨by omega, aw_newa0 hd q.1 hn q.2 a b⟩
theorem aoc_newa1 {n : Int32} {N : Nat} (hd : decode K.2.1 pc = .ok (.newarray .byte, 2)) (hn : ¬ n < 0 ∧ n.toNatClampNeg = N ∧ N ≤ 65536) (k : AOc Φ E d K (pc + 2) lv (.ref h.1 :: st) (aN h) o) : AOc Φ E d K pc lv (.int n :: st) h (if sh h.1 = (1, N) ∧ h.1 < aSB then o else none) := aoc_chk fun q => by
  intro g r h' e
  obtain ⟨a, b⟩ := k g r h' e
  rw [aN_1] at a
  exact ⟨by omega, aw_newa1 hd q.1 hn q.2 a b⟩
theorem aoc_newa2 {n : Int32} {N : Nat} (hd : decode K.2.1 pc = .ok (.newarray .boolean, 2)) (hn : ¬ n < 0 ∧ n.toNatClampNeg = N ∧ N ≤ 65536) (k : AOc Φ E d K (pc + 2) lv (.ref h.1 :: st) (aN h) o) : AOc Φ E d K pc lv (.int n :: st) h (if sh h.1 = (2, N) ∧ h.1 < aSB then o else none) := aoc_chk fun q => by
  intro g r h' e
  obtain ⟨a, b⟩ := k g r h' e
  rw [aN_1] at a
  exact ⟨by omega, aw_newa2 hd q.1 hn q.2 a b⟩
theorem aoc_newa3 {n : Int32} {N : Nat} (hd : decode K.2.1 pc = .ok (.newarray .long, 2)) (hn : ¬ n < 0 ∧ n.toNatClampNeg = N ∧ N ≤ 65536) (k : AOc Φ E d K (pc + 2) lv (.ref h.1 :: st) (aN h) o) : AOc Φ E d K pc lv (.int n :: st) h (if sh h.1 = (3, N) ∧ h.1 < aSB then o else none) := aoc_chk fun q => by
  intro g r h' e
  obtain ⟨a, b⟩ := k g r h' e
  rw [aN_1] at a
  exact ⟨by omega, aw_newa3 hd q.1 hn q.2 a b⟩
theorem aoc_newq4 {n : Int32} {N idx : Nat} (hd : decode K.2.1 pc = .ok (.anewarray idx, 3)) (hw : Cond.classLink K.1.cls idx RX5 ∈ aTb) (hn : ¬ n < 0 ∧ n.toNatClampNeg = N ∧ N ≤ 65536) (k : AOc Φ E d K (pc + 3) lv (.ref h.1 :: st) (aN h) o) : AOc Φ E d K pc lv (.int n :: st) h (if sh h.1 = (4, N) ∧ h.1 < aSB then o else none) := aoc_chk fun q => by
  intro g r h' e
  obtain ⟨a, b⟩ := k g r h' e
  rw [aN_1] at a
  exact ⟨by omega, aw_newq4 hd hw q.1 hn q.2 a b⟩
theorem aoc_aast4 {a b ci : Nat} {i : Int32} (hd : decode K.2.1 pc = .ok (.aastore, 1)) (hc : ci < 13) (hcl : cRn ci = RX5) (k : AOc Φ E d K (pc + 1) lv st (pR h a i.toNatClampNeg (some b)) o) : AOc Φ E d K pc lv (.ref b :: .int i :: .ref a :: st) h (if a < h.1 ∧ (sh a).1 = 4 ∧ aIn i (sh a).2 ∧ b < h.1 ∧ (sh b).1 = ci + 7 then o else none) := aoc_chk fun q => aoc_s (st_aast4 hd q.1 q.2.1 q.2.2.1 q.2.2.2.1 q.2.2.2.2 hc hcl) k
theorem aoc_newq5 {n : Int32} {N idx : Nat} (hd : decode K.2.1 pc = .ok (.anewarray idx, 3)) (hw : Cond.classLink K.1.cls idx RX8 ∈ aTb) (hn : ¬ n < 0 ∧ n.toNatClampNeg = N ∧ N ≤ 65536) (k : AOc Φ E d K (pc + 3) lv (.ref h.1 :: st) (aN h) o) : AOc Φ E d K pc lv (.int n :: st) h (if sh h.1 = (5, N) ∧ h.1 < aSB then o else none) := aoc_chk fun q => by
  intro g r h' e
  obtain ⟨a, b⟩ := k g r h' e
  rw [aN_1] at a
  exact ⟨by omega, aw_newq5 hd hw q.1 hn q.2 a b⟩
theorem aoc_aast5 {a b ci : Nat} {i : Int32} (hd : decode K.2.1 pc = .ok (.aastore, 1)) (hc : ci < 13) (hcl : cRn ci = RX8) (k : AOc Φ E d K (pc + 1) lv st (pR h a i.toNatClampNeg (some b)) o) : AOc Φ E d K pc lv (.ref b :: .int i :: .ref a :: st) h (if a < h.1 ∧ (sh a).1 = 5 ∧ aIn i (sh a).2 ∧ b < h.1 ∧ (sh b).1 = ci + 7 then o else none) := aoc_chk fun q => aoc_s (st_aast5 hd q.1 q.2.1 q.2.2.1 q.2.2.2.1 q.2.2.2.2 hc hcl) k
theorem aoc_newq6 {n : Int32} {N idx : Nat} (hd : decode K.2.1 pc = .ok (.anewarray idx, 3)) (hw : Cond.classLink K.1.cls idx RX10 ∈ aTb) (hn : ¬ n < 0 ∧ n.toNatClampNeg = N ∧ N ≤ 65536) (k : AOc Φ E d K (pc + 3) lv (.ref h.1 :: st) (aN h) o) : AOc Φ E d K pc lv (.int n :: st) h (if sh h.1 = (6, N) ∧ h.1 < aSB then o else none) := aoc_chk fun q => by
  intro g r h' e
  obtain ⟨a, b⟩ := k g r h' e
  rw [aN_1] at a
  exact ⟨by omega, aw_newq6 hd hw q.1 hn q.2 a b⟩
theorem aoc_aast6 {a b ci : Nat} {i : Int32} (hd : decode K.2.1 pc = .ok (.aastore, 1)) (hc : ci < 13) (hcl : cRn ci = RX10) (k : AOc Φ E d K (pc + 1) lv st (pR h a i.toNatClampNeg (some b)) o) : AOc Φ E d K pc lv (.ref b :: .int i :: .ref a :: st) h (if a < h.1 ∧ (sh a).1 = 6 ∧ aIn i (sh a).2 ∧ b < h.1 ∧ (sh b).1 = ci + 7 then o else none) := aoc_chk fun q => aoc_s (st_aast6 hd q.1 q.2.1 q.2.2.1 q.2.2.2.1 q.2.2.2.2 hc hcl) k
end AOCC
