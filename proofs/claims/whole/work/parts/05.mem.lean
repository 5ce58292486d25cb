def aKd : FieldType → Nat
  | .long => 1
  | .object _ => 2
  | .array _ => 2
  | _ => 0
theorem aF_i {g : aG} {fi : Nat → Int32} {fl : Nat → Int64} {fr : Nat → Option Nat} {ty : FieldType} (h : aKd ty = 0) (j : Nat) : aF g fi fl fr ty j = .int (fi j) := by cases ty <;> first | rfl | (simp [aKd] at h)
theorem aF_l {g : aG} {fi : Nat → Int32} {fl : Nat → Int64} {fr : Nat → Option Nat} {ty : FieldType} (h : aKd ty = 1) (j : Nat) : aF g fi fl fr ty j = .long (fl j) := by cases ty <;> first | rfl | (simp [aKd] at h)
theorem aF_r {g : aG} {fi : Nat → Int32} {fl : Nat → Int64} {fr : Nat → Option Nat} {ty : FieldType} (h : aKd ty = 2) (j : Nat) : aF g fi fl fr ty j = va_rf ((fr j).map g.2.1) := by cases ty <;> first | rfl | (simp [aKd] at h)
theorem aF_congr {g : aG} {fi fi' : Nat → Int32} {fl fl' : Nat → Int64} {fr fr' : Nat → Option Nat} {ty : FieldType} {j : Nat} (h1 : fi j = fi' j) (h2 : fl j = fl' j) (h3 : fr j = fr' j) : aF g fi fl fr ty j = aF g fi' fl' fr' ty j := by cases ty <;> simp [aF, h1, h2, h3]
/-- a field that a place of the pool names -/
def aFL (own : String) (idx ci k : Nat) : Prop := Cond.fieldLink own idx (cRn ci) (cT ci k).2.1 (cT ci k).2.2.1 ∈ aTb ∧ ci < 13 ∧ k < cN ci ∧ (cT ci k).1 = cRn ci
theorem aRep.P {g : aG} {h : aH} {H : Heap} {a : Nat} {e : va_E} (r : aRep g h H) (ha : a < h.1) (he : aE g h a = e) : va_P g.2.2.1 acl [(g.1 + a, e)] H := by
  intro k q hk
  match k, hk with
  | 0, hk => cases hk; rw [← he]; exact r.2.2 a ha
  | k + 1, hk => simp at hk
theorem aE_obj {g : aG} {h : aH} {a ci : Nat} (hs : (sh a).1 = ci + 7) : aE g h a = .inr (ci, (List.range (cN ci)).map (fun j => aF g (hI h a) (hL h a) (hR h a) (cTy ci j) j)) := by unfold aE; rw [hs]; rfl
theorem aE_0 {g : aG} {h : aH} {a : Nat} (hs : (sh a).1 = 0) : aE g h a = .inl (g.2.2.2.1 0, (sh a).2, .inl (hI h a)) := by unfold aE; rw [hs]; rfl
theorem aE_1 {g : aG} {h : aH} {a : Nat} (hs : (sh a).1 = 1) : aE g h a = .inl (g.2.2.2.1 1, (sh a).2, .inl (hI h a)) := by unfold aE; rw [hs]; rfl
theorem aE_2 {g : aG} {h : aH} {a : Nat} (hs : (sh a).1 = 2) : aE g h a = .inl (g.2.2.2.1 2, (sh a).2, .inl (hI h a)) := by unfold aE; rw [hs]; rfl
theorem aE_3 {g : aG} {h : aH} {a : Nat} (hs : (sh a).1 = 3) : aE g h a = .inl (g.2.2.2.1 3, (sh a).2, .inr (.inl (hL h a))) := by unfold aE; rw [hs]; rfl
theorem aE_4 {g : aG} {h : aH} {a : Nat} (hs : (sh a).1 = 4) : aE g h a = .inl (g.2.2.2.1 4, (sh a).2, .inr (.inr (.inr (.inr (fun j => (hR h a j).map g.2.1))))) := by unfold aE; rw [hs]; rfl
theorem aE_5 {g : aG} {h : aH} {a : Nat} (hs : (sh a).1 = 5) : aE g h a = .inl (g.2.2.2.1 5, (sh a).2, .inr (.inr (.inr (.inr (fun j => (hR h a j).map g.2.1))))) := by unfold aE; rw [hs]; rfl
theorem aE_6 {g : aG} {h : aH} {a : Nat} (hs : (sh a).1 = 6) : aE g h a = .inl (g.2.2.2.1 6, (sh a).2, .inr (.inr (.inr (.inr (fun j => (hR h a j).map g.2.1))))) := by unfold aE; rw [hs]; rfl
abbrev aIn (i : Int32) (n : Nat) : Prop := ¬ (i < 0 ∨ n ≤ i.toNatClampNeg)
theorem aSC.al {g : aG} {K : aM} {p : Program} {s : State} {m : MethodId} {args : Array Value} {meth : Method} {c : Code} (C : aSC g K p s m args meth c) {h : aH} {H : Heap} (r : aRep g h H) {a : Nat} (ha : a < h.1) : g.2.1 a = g.1 + a := C.2.2.2.2.2.2.2.2.1 a (Nat.lt_of_lt_of_le ha r.2.1)

theorem ac_get {g : aG} {K : aM} {p : Program} {l : Launch} {e : Env} {R : Room} {s : State} {m : MethodId} {args : Array Value} {below : List Frame} {meth : Method} {c : Code} {H : Heap} {locs : List Loc} {cells slots : Nat} {Q : State → Prop} {h : aH} {pc : Nat} {ls : Array Slot} {rest : List Value} (C : aSC g K p s m args meth c) (r : aRep g h H) {idx ci k a : Nat} (hw : aFL K.1.cls idx ci k) (ha : a < h.1) (hs : (sh a).1 = ci + 7) (hd : decode K.2.1 pc = .ok (.getfield idx, 3))
    (kk : W p l e R s m args below meth c H locs cells slots Q (F0 m (pc + 3) ls (aF g (hI h a) (hL h a) (hR h a) (cTy ci k) k :: rest))) : W p l e R s m args below meth c H locs cells slots Q (F0 m pc ls (.ref (g.2.1 a) :: rest)) := by
  obtain ⟨w1, w2, w3, w4⟩ := hw
  have hts := C.2.2.2.2.2.2.2.1
  rw [C.al r ha]
  exact va_get (ref := cRn ci) (C := cRn ci) (T := cT ci) (N := cN ci) (ci := ci) C.1 C.2.1 hts (cT_in ci w2) C.2.2.2.2.2.2.1 C.2.2.2.2.2.2.2.2.2.1 (r.P ha (aE_obj hs)) 0 rfl (acl_at ci w2) k w3 (hts _ w1) (fun x hx => by rw [w4] at hx; exact hx) (v := aF g (hI h a) (hL h a) (hR h a) (cTy ci k) k) (by rw [List.getElem?_map, List.getElem?_range w3]; rfl) hd kk
theorem ac_put {g : aG} {K : aM} {p : Program} {l : Launch} {e : Env} {R : Room} {s : State} {m : MethodId} {args : Array Value} {below : List Frame} {meth : Method} {c : Code} {H : Heap} {locs : List Loc} {cells slots : Nat} {Q : State → Prop} {h : aH} {pc : Nat} {ls : Array Slot} {rest : List Value} {h' : aH} {v : Value} (C : aSC g K p s m args meth c) (r : aRep g h H) (hS0 : va_S (aA g) s.heap H locs) {idx ci k a : Nat} (hw : aFL K.1.cls idx ci k) (ha : a < h.1) (hs : (sh a).1 = ci + 7)
    (hf : (cT ci k).2.2.2 = false ∨ ((cT ci k).2.2.2 = true ∧ K.1.name = "<init>" ∧ cRn ci = K.1.cls)) (hn : narrow (cTy ci k) v = v) (hfit : fits (cTy ci k) v = true) (hh : h'.1 = h.1) (hne : ∀ b, b ≠ a → aE g h' b = aE g h b)
    (hv : ∀ j, j < cN ci → aF g (hI h' a) (hL h' a) (hR h' a) (cTy ci j) j = if j = k then v else aF g (hI h a) (hL h a) (hR h a) (cTy ci j) j) (hd : decode K.2.1 pc = .ok (.putfield idx, 3))
    (kk : ∀ (H1 : Heap) (locs1 : List Loc), aRep g h' H1 → va_S (aA g) s.heap H1 locs1 → W p l e R s m args below meth c H1 locs1 cells slots Q (F0 m (pc + 3) ls rest)) : W p l e R s m args below meth c H locs cells slots Q (F0 m pc ls (v :: .ref (g.2.1 a) :: rest)) := by
  obtain ⟨w1, w2, w3, w4⟩ := hw
  have hts := C.2.2.2.2.2.2.2.1
  have hown := C.2.2.2.2.2.2.1
  have hK := C.2.2.2.2.2.2.2.2.2.1
  have hc := acl_at ci w2
  have hin := cT_in ci w2
  have hlink := hts _ w1
  rw [C.al r ha]
  have hap := va_apart (own := K.1.cls) hts hin (cTy ci) (cT_ok ci w2) (cT_nm ci w2) hK hc
  have hat := r.2.2 a ha
  rw [aE_obj hs] at hat
  obtain ⟨r', f1, cell, q1, q2, q3, q4⟩ := hat
  have hr' : r' = (cRn ci, cT ci, cN ci) := Option.some.inj (f1.symm.trans hc)
  subst hr'
  obtain ⟨hSl, hfc, kC, hkC, hkind⟩ := hK.1 ci _ hc
  obtain ⟨cf, kf, fi, f, hi, hsl⟩ := hSl k w3
  have hlay := hts _ (hin _ (u_in_lay w3))
  unfold u_lay at hlay
  have hst := (u_facts hfc hkC (u_lays hts hin w3) hi).1
  have hi2 := hi
  rw [w4] at hi2
  have fin : ∀ (H' : Heap) (q : Nat), H'[g.1 + a]? = some (cell.setSlot f.slot v) → H'.size = H.size → (∀ x, x ≠ g.1 + a → H'[x]? = H[x]?) → W p l e R s m args below meth c H' (locs ++ [⟨g.1 + a, q⟩]) cells slots Q (F0 m (pc + 3) ls rest) := by
    intro H' q e1 e2 e3
    rw [hsl] at e1
    refine kk H' _ (r.set hh hne ?_ e2 e3) (hS0.put e2 e3 (by show g.1 ≤ g.1 + a; omega))
    rw [aE_obj hs]
    refine ⟨_, hc, t_OB.to (V := updV (vp_V ((List.range (cN ci)).map (fun j => aF g (hI h a) (hL h a) (hR h a) (cTy ci j) j))) k v) ⟨_, e1, q2, q3, t_set q4 hap w3 v⟩ (fun j hj => ?_)⟩
    have hj' : j < cN ci := hj
    unfold updV vp_V
    rw [List.getD_eq_getElem?_getD, List.getD_eq_getElem?_getD, List.getElem?_map, List.getElem?_map, List.getElem?_range hj']
    show (if j = k then v else aF g (hI h a) (hL h a) (hR h a) (cTy ci j) j) = aF g (hI h' a) (hL h' a) (hR h' a) (cTy ci j) j
    exact (hv j hj').symm
  rcases hf with hf | ⟨hf, hnm, hcl⟩
  · rw [if_neg (by rw [hf]; decide)] at hlay
    have h6 := u_store hfc hkC hkind hlay hi (cT_ok ci w2 k w3) hn hfit
    exact W.putK C.1 C.2.1 (f := f) ⟨hown, hlink, ⟨_, _, _, hi2⟩, hst⟩ (by rw [q2]; exact h6) q1 q3 (by rw [hsl]; exact k2_hasslot (q4 k w3)) rfl rfl hd fun H' e1 e2 e3 => fin H' _ e1 e2 e3
  · rw [if_pos hf] at hlay
    have hcf : m.cls = cf := by
      obtain ⟨_, _, c', _, _, _, -, -, hf', -, -, -, hown2, -⟩ := Cond.laysFinal_spec hlay
      have e1 : c' = cf := by have := hi.symm.trans hf'; simp at this; exact this.1.symm
      rw [w4, hcl] at hown2
      rw [← e1]; exact Option.some.inj (hown.symm.trans hown2)
    have h6 := u_fits hfc hkC hkind (Or.inr hlay) hi (cT_ok ci w2 k w3) hn hfit
    exact W.putFinK C.1 C.2.1 hown hlink hi2 hst hcf (C.2.2.2.2.1.trans hnm) (by rw [q2]; exact h6) q1 q3 (by rw [hsl]; exact k2_hasslot (q4 k w3)) rfl rfl hd fun H' e1 e2 e3 => fin H' _ e1 e2 e3

theorem st_getI {K : aM} {pc : Nat} {lv : List (Option Value)} {st : List Value} {h : aH} {idx ci k a : Nat} (hd : decode K.2.1 pc = .ok (.getfield idx, 3)) (hw : aFL K.1.cls idx ci k) (ht : aKd (cTy ci k) = 0) (ha : a < h.1) (hs : (sh a).1 = ci + 7) : aStp K pc lv (.ref a :: st) h (pc + 3) lv (.int (hI h a k) :: st) h := by
  intro Φ g d nf Q kk p l e R s m args below meth c H locs n0 ls hΦ C hR hr hS h1 h2 hl
  refine ac_get C hr hw ha hs hd ?_
  rw [aF_i ht]
  exact (kk p l e R s m args below meth c H locs n0 ls hΦ C hR hr hS h1 h2 hl)
theorem st_getL {K : aM} {pc : Nat} {lv : List (Option Value)} {st : List Value} {h : aH} {idx ci k a : Nat} (hd : decode K.2.1 pc = .ok (.getfield idx, 3)) (hw : aFL K.1.cls idx ci k) (ht : aKd (cTy ci k) = 1) (ha : a < h.1) (hs : (sh a).1 = ci + 7) : aStp K pc lv (.ref a :: st) h (pc + 3) lv (.long (hL h a k) :: st) h := by
  intro Φ g d nf Q kk p l e R s m args below meth c H locs n0 ls hΦ C hR hr hS h1 h2 hl
  refine ac_get C hr hw ha hs hd ?_
  rw [aF_l ht]
  exact (kk p l e R s m args below meth c H locs n0 ls hΦ C hR hr hS h1 h2 hl)
theorem st_getR {K : aM} {pc : Nat} {lv : List (Option Value)} {st : List Value} {h : aH} {idx ci k a b : Nat} (hd : decode K.2.1 pc = .ok (.getfield idx, 3)) (hw : aFL K.1.cls idx ci k) (ht : aKd (cTy ci k) = 2) (ha : a < h.1) (hs : (sh a).1 = ci + 7) (hb : hR h a k = some b) : aStp K pc lv (.ref a :: st) h (pc + 3) lv (.ref b :: st) h := by
  intro Φ g d nf Q kk p l e R s m args below meth c H locs n0 ls hΦ C hR hr hS h1 h2 hl
  refine ac_get C hr hw ha hs hd ?_
  rw [aF_r ht, hb]
  exact (kk p l e R s m args below meth c H locs n0 ls hΦ C hR hr hS h1 h2 hl)
theorem st_putI {K : aM} {pc : Nat} {lv : List (Option Value)} {st : List Value} {h : aH} {idx ci k a : Nat} {x : Int32} (hd : decode K.2.1 pc = .ok (.putfield idx, 3)) (hw : aFL K.1.cls idx ci k) (ht : aKd (cTy ci k) = 0) (hf : (cT ci k).2.2.2 = false) (hn : narrow (cTy ci k) (.int x) = .int x) (hfit : fits (cTy ci k) (.int x) = true) (ha : a < h.1) (hs : (sh a).1 = ci + 7) : aStp K pc lv (.int x :: .ref a :: st) h (pc + 3) lv st (pI h a k x) := by
  intro Φ g d nf Q kk p l e R s m args below meth c H locs n0 ls hΦ C hR hr hS h1 h2 hl
  refine ac_put (h' := pI h a k x) C hr hS hw ha hs (Or.inl hf) hn hfit rfl (fun b hb => aE_wI b hb) (fun j hj => ?_) hd (fun H1 locs1 r1 s1 => kk p l e R s m args below meth c H1 locs1 n0 ls hΦ C hR r1 s1 h1 h2 hl)
  by_cases q : j = k
  · subst q
    rw [if_pos rfl, aF_i ht]
    simp [pI, hI_wI, upd, cv]
  · rw [if_neg q]
    refine aF_congr ?_ ?_ ?_ <;> simp [pI, hI_wI, hL_wI, hR_wI, upd, q]
theorem st_putL {K : aM} {pc : Nat} {lv : List (Option Value)} {st : List Value} {h : aH} {idx ci k a : Nat} {x : Int64} (hd : decode K.2.1 pc = .ok (.putfield idx, 3)) (hw : aFL K.1.cls idx ci k) (ht : aKd (cTy ci k) = 1) (hf : (cT ci k).2.2.2 = false) (hn : narrow (cTy ci k) (.long x) = .long x) (hfit : fits (cTy ci k) (.long x) = true) (ha : a < h.1) (hs : (sh a).1 = ci + 7) : aStp K pc lv (.long x :: .ref a :: st) h (pc + 3) lv st (pL h a k x) := by
  intro Φ g d nf Q kk p l e R s m args below meth c H locs n0 ls hΦ C hR hr hS h1 h2 hl
  refine ac_put (h' := pL h a k x) C hr hS hw ha hs (Or.inl hf) hn hfit rfl (fun b hb => aE_wL b hb) (fun j hj => ?_) hd (fun H1 locs1 r1 s1 => kk p l e R s m args below meth c H1 locs1 n0 ls hΦ C hR r1 s1 h1 h2 hl)
  by_cases q : j = k
  · subst q
    rw [if_pos rfl, aF_l ht]
    simp [pL, hL_wL, vp_updL, cv]
  · rw [if_neg q]
    refine aF_congr ?_ ?_ ?_ <;> simp [pL, hI_wL, hL_wL, hR_wL, vp_updL, q]
theorem st_putR {K : aM} {pc : Nat} {lv : List (Option Value)} {st : List Value} {h : aH} {idx ci k a x : Nat} (hd : decode K.2.1 pc = .ok (.putfield idx, 3)) (hw : aFL K.1.cls idx ci k) (ht : aKd (cTy ci k) = 2) (hf : (cT ci k).2.2.2 = false ∨ ((cT ci k).2.2.2 = true ∧ K.1.name = "<init>" ∧ cRn ci = K.1.cls)) (ha : a < h.1) (hs : (sh a).1 = ci + 7) : aStp K pc lv (.ref x :: .ref a :: st) h (pc + 3) lv st (pR h a k (some x)) := by
  intro Φ g d nf Q kk p l e R s m args below meth c H locs n0 ls hΦ C hR hr hS h1 h2 hl
  refine ac_put (h' := pR h a k (some x)) (v := .ref (g.2.1 x)) C hr hS hw ha hs hf ?_ ?_ rfl (fun b hb => aE_wR b hb) (fun j hj => ?_) hd (fun H1 locs1 r1 s1 => kk p l e R s m args below meth c H1 locs1 n0 ls hΦ C hR r1 s1 h1 h2 hl)
  · revert ht; cases cTy ci k <;> intro ht <;> first | rfl | (simp [aKd] at ht)
  · revert ht; cases cTy ci k <;> intro ht <;> first | rfl | (simp [aKd] at ht)
  by_cases q : j = k
  · subst q
    rw [if_pos rfl, aF_r ht]
    simp [pR, hR_wR, va_up, va_rf]
  · rw [if_neg q]
    refine aF_congr ?_ ?_ ?_ <;> simp [pR, hI_wR, hL_wR, hR_wR, va_up, q]
theorem st_iald {K : aM} {pc : Nat} {lv : List (Option Value)} {st : List Value} {h : aH} {a : Nat} {i : Int32} (hd : decode K.2.1 pc = .ok (.iaload, 1)) (ha : a < h.1) (hs : (sh a).1 = 0) (hi : aIn i (sh a).2) : aStp K pc lv (.int i :: .ref a :: st) h (pc + 1) lv (.int (hI h a i.toNatClampNeg) :: st) h := by
  intro Φ g d nf Q k p l e R s m args below meth c H locs n0 ls hΦ C hR hr hS h1 h2 hl
  have w := va_iald (rest := st.map (cv g)) C.1 C.2.1 C.2.2.2.2.2.2.2.2.2.1 (hr.P ha (aE_0 hs)) 0 0 rfl rfl hi hd (k p l e R s m args below meth c H locs n0 ls hΦ C hR hr hS h1 h2 hl)
  rw [← C.al hr ha] at w
  exact w
theorem st_bald {K : aM} {pc : Nat} {lv : List (Option Value)} {st : List Value} {h : aH} {a : Nat} {i : Int32} (hd : decode K.2.1 pc = .ok (.baload, 1)) (ha : a < h.1) (hs : (sh a).1 = 1) (hi : aIn i (sh a).2) : aStp K pc lv (.int i :: .ref a :: st) h (pc + 1) lv (.int (hI h a i.toNatClampNeg) :: st) h := by
  intro Φ g d nf Q k p l e R s m args below meth c H locs n0 ls hΦ C hR hr hS h1 h2 hl
  have w := va_bald (rest := st.map (cv g)) C.1 C.2.1 C.2.2.2.2.2.2.2.2.2.1 (hr.P ha (aE_1 hs)) 0 1 rfl rfl hi hd (k p l e R s m args below meth c H locs n0 ls hΦ C hR hr hS h1 h2 hl)
  rw [← C.al hr ha] at w
  exact w
theorem st_zald {K : aM} {pc : Nat} {lv : List (Option Value)} {st : List Value} {h : aH} {a : Nat} {i : Int32} (hd : decode K.2.1 pc = .ok (.baload, 1)) (ha : a < h.1) (hs : (sh a).1 = 2) (hi : aIn i (sh a).2) : aStp K pc lv (.int i :: .ref a :: st) h (pc + 1) lv (.int (hI h a i.toNatClampNeg) :: st) h := by
  intro Φ g d nf Q k p l e R s m args below meth c H locs n0 ls hΦ C hR hr hS h1 h2 hl
  have w := va_zald (rest := st.map (cv g)) C.1 C.2.1 C.2.2.2.2.2.2.2.2.2.1 (hr.P ha (aE_2 hs)) 0 2 rfl rfl hi hd (k p l e R s m args below meth c H locs n0 ls hΦ C hR hr hS h1 h2 hl)
  rw [← C.al hr ha] at w
  exact w
theorem st_lald {K : aM} {pc : Nat} {lv : List (Option Value)} {st : List Value} {h : aH} {a : Nat} {i : Int32} (hd : decode K.2.1 pc = .ok (.laload, 1)) (ha : a < h.1) (hs : (sh a).1 = 3) (hi : aIn i (sh a).2) : aStp K pc lv (.int i :: .ref a :: st) h (pc + 1) lv (.long (hL h a i.toNatClampNeg) :: st) h := by
  intro Φ g d nf Q k p l e R s m args below meth c H locs n0 ls hΦ C hR hr hS h1 h2 hl
  have w := va_lald (rest := st.map (cv g)) C.1 C.2.1 C.2.2.2.2.2.2.2.2.2.1 (hr.P ha (aE_3 hs)) 0 3 rfl rfl hi hd (k p l e R s m args below meth c H locs n0 ls hΦ C hR hr hS h1 h2 hl)
  rw [← C.al hr ha] at w
  exact w
theorem st_aald4 {K : aM} {pc : Nat} {lv : List (Option Value)} {st : List Value} {h : aH} {a b : Nat} {i : Int32} (hd : decode K.2.1 pc = .ok (.aaload, 1)) (ha : a < h.1) (hs : (sh a).1 = 4) (hi : aIn i (sh a).2) (hb : hR h a i.toNatClampNeg = some b) : aStp K pc lv (.int i :: .ref a :: st) h (pc + 1) lv (.ref b :: st) h := by
  intro Φ g d nf Q k p l e R s m args below meth c H locs n0 ls hΦ C hR hr hS h1 h2 hl
  have w := va_aldq (rest := st.map (cv g)) (locs := locs) (cells := h.1 - n0) (slots := aS h.1 - aS n0) (ls := ls) (R := R) (l := l) (below := below) (e := e) (Q := MQ below (aQ g nf Q) args s (nf - n0) (aS nf - aS n0) (aA g)) C.1 C.2.1 C.2.2.2.2.2.2.2.2.2.1 (hr.P ha (aE_4 hs)) 0 4 rfl rfl hi hd (by rw [hb]; exact (k p l e R s m args below meth c H locs n0 ls hΦ C hR hr hS h1 h2 hl))
  rw [← C.al hr ha] at w
  exact w
theorem st_aald5 {K : aM} {pc : Nat} {lv : List (Option Value)} {st : List Value} {h : aH} {a b : Nat} {i : Int32} (hd : decode K.2.1 pc = .ok (.aaload, 1)) (ha : a < h.1) (hs : (sh a).1 = 5) (hi : aIn i (sh a).2) (hb : hR h a i.toNatClampNeg = some b) : aStp K pc lv (.int i :: .ref a :: st) h (pc + 1) lv (.ref b :: st) h := by
  intro Φ g d nf Q k p l e R s m args below meth c H locs n0 ls hΦ C hR hr hS h1 h2 hl
  have w := va_aldq (rest := st.map (cv g)) (locs := locs) (cells := h.1 - n0) (slots := aS h.1 - aS n0) (ls := ls) (R := R) (l := l) (below := below) (e := e) (Q := MQ below (aQ g nf Q) args s (nf - n0) (aS nf - aS n0) (aA g)) C.1 C.2.1 C.2.2.2.2.2.2.2.2.2.1 (hr.P ha (aE_5 hs)) 0 5 rfl rfl hi hd (by rw [hb]; exact (k p l e R s m args below meth c H locs n0 ls hΦ C hR hr hS h1 h2 hl))
  rw [← C.al hr ha] at w
  exact w
theorem st_aald6 {K : aM} {pc : Nat} {lv : List (Option Value)} {st : List Value} {h : aH} {a b : Nat} {i : Int32} (hd : decode K.2.1 pc = .ok (.aaload, 1)) (ha : a < h.1) (hs : (sh a).1 = 6) (hi : aIn i (sh a).2) (hb : hR h a i.toNatClampNeg = some b) : aStp K pc lv (.int i :: .ref a :: st) h (pc + 1) lv (.ref b :: st) h := by
  intro Φ g d nf Q k p l e R s m args below meth c H locs n0 ls hΦ C hR hr hS h1 h2 hl
  have w := va_aldq (rest := st.map (cv g)) (locs := locs) (cells := h.1 - n0) (slots := aS h.1 - aS n0) (ls := ls) (R := R) (l := l) (below := below) (e := e) (Q := MQ below (aQ g nf Q) args s (nf - n0) (aS nf - aS n0) (aA g)) C.1 C.2.1 C.2.2.2.2.2.2.2.2.2.1 (hr.P ha (aE_6 hs)) 0 6 rfl rfl hi hd (by rw [hb]; exact (k p l e R s m args below meth c H locs n0 ls hΦ C hR hr hS h1 h2 hl))
  rw [← C.al hr ha] at w
  exact w
theorem st_iast {K : aM} {pc : Nat} {lv : List (Option Value)} {st : List Value} {h : aH} {a : Nat} {i : Int32} {x : Int32} (hd : decode K.2.1 pc = .ok (.iastore, 1)) (ha : a < h.1) (hs : (sh a).1 = 0) (hi : aIn i (sh a).2) : aStp K pc lv (.int x :: .int i :: .ref a :: st) h (pc + 1) lv st (pI h a i.toNatClampNeg x) := by
  intro Φ g d nf Q k p l e R s m args below meth c H locs n0 ls hΦ C hR hr hS h1 h2 hl
  have hc : H[g.1 + a]? = some (arrV (g.2.2.2.1 0) (sh a).2 (fun j => .int (hI h a j))) := by
    have := hr.2.2 a ha
    rw [aE_0 hs] at this
    exact this
  have ht : (aTy g)[0]? = some (g.2.2.2.1 0, .int) := rfl
  show W p l e R s m args below meth c H locs (h.1 - n0) (aS h.1 - aS n0) (MQ below (aQ g nf Q) args s (nf - n0) (aS nf - aS n0) (aA g)) (F0 m pc ls (.int x :: .int i :: .ref (g.2.1 a) :: st.map (cv g)))
  rw [C.al hr ha]
  refine W.iast C.1 C.2.1 hc ((C.2.2.2.2.2.2.2.2.2.1.2 0 _ ht).1 (sh a).2 (fun j => .int (hI h a j))) (fun q => by cases q) (by rw [arrV_size]; exact hi) rfl rfl hd (fun H1 e1 z oq => ?_)
  · refine k p l e R s m args below meth c H1 _ n0 ls hΦ C hR (hr.set (h' := pI h a i.toNatClampNeg x) rfl (fun b hb => aE_wI b hb) ?_ z oq) (hS.put z oq (by show g.1 ≤ g.1 + a; omega)) h1 h2 hl
    rw [aE_0 hs]
    show H1[g.1 + a]? = some (vp_cell (g.2.2.2.1 0) ((sh a).2, .inl (hI (pI h a i.toNatClampNeg x) a)))
    rw [vp_cell_i, e1, arrV_store]
    congr 2
    funext q
    by_cases hq : q = i.toNatClampNeg
    · subst hq
      simp [updV, pI, hI_wI, upd, vp_nar, narrow]
    · simp [updV, pI, hI_wI, upd, hq]
theorem st_bast {K : aM} {pc : Nat} {lv : List (Option Value)} {st : List Value} {h : aH} {a : Nat} {i : Int32} {x : Int32} (hd : decode K.2.1 pc = .ok (.bastore, 1)) (ha : a < h.1) (hs : (sh a).1 = 1) (hi : aIn i (sh a).2) : aStp K pc lv (.int x :: .int i :: .ref a :: st) h (pc + 1) lv st (pI h a i.toNatClampNeg (vp_nar .byte x)) := by
  intro Φ g d nf Q k p l e R s m args below meth c H locs n0 ls hΦ C hR hr hS h1 h2 hl
  have hc : H[g.1 + a]? = some (arrV (g.2.2.2.1 1) (sh a).2 (fun j => .int (hI h a j))) := by
    have := hr.2.2 a ha
    rw [aE_1 hs] at this
    exact this
  have ht : (aTy g)[1]? = some (g.2.2.2.1 1, .byte) := rfl
  show W p l e R s m args below meth c H locs (h.1 - n0) (aS h.1 - aS n0) (MQ below (aQ g nf Q) args s (nf - n0) (aS nf - aS n0) (aA g)) (F0 m pc ls (.int x :: .int i :: .ref (g.2.1 a) :: st.map (cv g)))
  rw [C.al hr ha]
  refine W.bast C.1 C.2.1 hc ((C.2.2.2.2.2.2.2.2.2.1.2 1 _ ht).1 (sh a).2 (fun j => .int (hI h a j))) (fun q => by cases q) (by rw [arrV_size]; exact hi) rfl rfl hd (fun H1 e1 z oq => ?_)
  · refine k p l e R s m args below meth c H1 _ n0 ls hΦ C hR (hr.set (h' := pI h a i.toNatClampNeg (vp_nar .byte x)) rfl (fun b hb => aE_wI b hb) ?_ z oq) (hS.put z oq (by show g.1 ≤ g.1 + a; omega)) h1 h2 hl
    rw [aE_1 hs]
    show H1[g.1 + a]? = some (vp_cell (g.2.2.2.1 1) ((sh a).2, .inl (hI (pI h a i.toNatClampNeg (vp_nar .byte x)) a)))
    rw [vp_cell_i, e1, arrV_store]
    congr 2
    funext q
    by_cases hq : q = i.toNatClampNeg
    · subst hq
      simp [updV, pI, hI_wI, upd, vp_nar, narrow]
    · simp [updV, pI, hI_wI, upd, hq]
theorem st_zast {K : aM} {pc : Nat} {lv : List (Option Value)} {st : List Value} {h : aH} {a : Nat} {i : Int32} {x : Int32} (hd : decode K.2.1 pc = .ok (.bastore, 1)) (ha : a < h.1) (hs : (sh a).1 = 2) (hi : aIn i (sh a).2) : aStp K pc lv (.int x :: .int i :: .ref a :: st) h (pc + 1) lv st (pI h a i.toNatClampNeg (vp_nar .boolean x)) := by
  intro Φ g d nf Q k p l e R s m args below meth c H locs n0 ls hΦ C hR hr hS h1 h2 hl
  have hc : H[g.1 + a]? = some (arrV (g.2.2.2.1 2) (sh a).2 (fun j => .int (hI h a j))) := by
    have := hr.2.2 a ha
    rw [aE_2 hs] at this
    exact this
  have ht : (aTy g)[2]? = some (g.2.2.2.1 2, .boolean) := rfl
  show W p l e R s m args below meth c H locs (h.1 - n0) (aS h.1 - aS n0) (MQ below (aQ g nf Q) args s (nf - n0) (aS nf - aS n0) (aA g)) (F0 m pc ls (.int x :: .int i :: .ref (g.2.1 a) :: st.map (cv g)))
  rw [C.al hr ha]
  refine W.zast C.1 C.2.1 hc ((C.2.2.2.2.2.2.2.2.2.1.2 2 _ ht).1 (sh a).2 (fun j => .int (hI h a j))) (fun q => by cases q) (by rw [arrV_size]; exact hi) rfl rfl hd (fun H1 e1 z oq => ?_)
  · refine k p l e R s m args below meth c H1 _ n0 ls hΦ C hR (hr.set (h' := pI h a i.toNatClampNeg (vp_nar .boolean x)) rfl (fun b hb => aE_wI b hb) ?_ z oq) (hS.put z oq (by show g.1 ≤ g.1 + a; omega)) h1 h2 hl
    rw [aE_2 hs]
    show H1[g.1 + a]? = some (vp_cell (g.2.2.2.1 2) ((sh a).2, .inl (hI (pI h a i.toNatClampNeg (vp_nar .boolean x)) a)))
    rw [vp_cell_i, e1, arrV_store]
    congr 2
    funext q
    by_cases hq : q = i.toNatClampNeg
    · subst hq
      simp [updV, pI, hI_wI, upd, vp_nar, narrow]
    · simp [updV, pI, hI_wI, upd, hq]
theorem st_last {K : aM} {pc : Nat} {lv : List (Option Value)} {st : List Value} {h : aH} {a : Nat} {i : Int32} {x : Int64} (hd : decode K.2.1 pc = .ok (.lastore, 1)) (ha : a < h.1) (hs : (sh a).1 = 3) (hi : aIn i (sh a).2) : aStp K pc lv (.long x :: .int i :: .ref a :: st) h (pc + 1) lv st (pL h a i.toNatClampNeg x) := by
  intro Φ g d nf Q k p l e R s m args below meth c H locs n0 ls hΦ C hR hr hS h1 h2 hl
  have hc : H[g.1 + a]? = some (arrV (g.2.2.2.1 3) (sh a).2 (fun j => .long (hL h a j))) := by
    have := hr.2.2 a ha
    rw [aE_3 hs] at this
    exact this
  have ht : (aTy g)[3]? = some (g.2.2.2.1 3, .long) := rfl
  show W p l e R s m args below meth c H locs (h.1 - n0) (aS h.1 - aS n0) (MQ below (aQ g nf Q) args s (nf - n0) (aS nf - aS n0) (aA g)) (F0 m pc ls (.long x :: .int i :: .ref (g.2.1 a) :: st.map (cv g)))
  rw [C.al hr ha]
  refine W.last C.1 C.2.1 hc ((C.2.2.2.2.2.2.2.2.2.1.2 3 _ ht).1 (sh a).2 (fun j => .long (hL h a j))) (fun q => by cases q) (by rw [arrV_size]; exact hi) rfl rfl hd (fun H1 e1 z oq => ?_)
  · refine k p l e R s m args below meth c H1 _ n0 ls hΦ C hR (hr.set (h' := pL h a i.toNatClampNeg x) rfl (fun b hb => aE_wL b hb) ?_ z oq) (hS.put z oq (by show g.1 ≤ g.1 + a; omega)) h1 h2 hl
    rw [aE_3 hs]
    show H1[g.1 + a]? = some (vp_cell (g.2.2.2.1 3) ((sh a).2, .inr <| .inl (hL (pL h a i.toNatClampNeg x) a)))
    rw [vp_cell_l, e1, arrV_store]
    congr 2
    funext q
    by_cases hq : q = i.toNatClampNeg
    · subst hq
      simp [updV, pL, hL_wL, vp_updL, vp_nar, narrow]
    · simp [updV, pL, hL_wL, vp_updL, hq]
theorem st_ldc2 {K : aM} {pc : Nat} {lv : List (Option Value)} {st : List Value} {h : aH} {idx : Nat} {v : Int64} (hd : decode K.2.1 pc = .ok (.ldc2_w idx, 3)) (hw : Cond.constantLong K.1.cls idx v ∈ aTb) : aStp K pc lv st h (pc + 3) lv (.long v :: st) h := by
  intro Φ g d nf Q k p l e R s m args below meth c H locs n0 ls hΦ C hR hr hS h1 h2 hl
  exact lv_ldc2 C.1 C.2.1 C.2.2.2.2.2.2.1 (C.2.2.2.2.2.2.2.1 _ hw) hd (k p l e R s m args below meth c H locs n0 ls hΦ C hR hr hS h1 h2 hl)
theorem st_ldcw {K : aM} {pc : Nat} {lv : List (Option Value)} {st : List Value} {h : aH} {idx : Nat} {v : Int32} (hd : decode K.2.1 pc = .ok (.ldc_w idx, 3)) (hw : Cond.constant K.1.cls idx v ∈ aTb) : aStp K pc lv st h (pc + 3) lv (.int v :: st) h := by
  intro Φ g d nf Q k p l e R s m args below meth c H locs n0 ls hΦ C hR hr hS h1 h2 hl
  exact lv_ldcw C.1 C.2.1 C.2.2.2.2.2.2.1 (C.2.2.2.2.2.2.2.1 _ hw) hd (k p l e R s m args below meth c H locs n0 ls hΦ C hR hr hS h1 h2 hl)
theorem st_ldc {K : aM} {pc : Nat} {lv : List (Option Value)} {st : List Value} {h : aH} {idx : Nat} {v : Int32} (hd : decode K.2.1 pc = .ok (.ldc idx, 2)) (hw : Cond.constant K.1.cls idx v ∈ aTb) : aStp K pc lv st h (pc + 2) lv (.int v :: st) h := by
  intro Φ g d nf Q k p l e R s m args below meth c H locs n0 ls hΦ C hR hr hS h1 h2 hl
  exact lv_ldc C.1 C.2.1 C.2.2.2.2.2.2.1 (C.2.2.2.2.2.2.2.1 _ hw) hd (k p l e R s m args below meth c H locs n0 ls hΦ C hR hr hS h1 h2 hl)
theorem st_ldcS {K : aM} {pc : Nat} {lv : List (Option Value)} {st : List Value} {h : aH} {idx i : Nat} (hd : decode K.2.1 pc = .ok (.ldc idx, 2)) (hi : i < 7) (h1' : sOwn i = K.1.cls) (h2' : sIdx i = idx) : aStp K pc lv st h (pc + 2) lv (.ref (aSB + i) :: st) h := by
  intro Φ g d nf Q k p l e R s m args below meth c H locs n0 ls hΦ C hR hr hS h1 h2 hl
  have hz := C.2.2.2.2.2.2.2.2.2.2.2.2.1 i hi
  rw [h1', h2'] at hz
  exact va_ldcS C.1 C.2.1 C.2.2.2.2.2.2.1 hz hd (k p l e R s m args below meth c H locs n0 ls hΦ C hR hr hS h1 h2 hl)
