/-! ===== the judgement AW: from this place of a method, with these locals, this stack, this heap, it comes to its end with Q ===== -/
def aLV (g : aG) (ls : Array Slot) (nL : Nat) (lv : List (Option Value)) : Prop := ls.size = nL ∧ lv.length = nL ∧ lv_wf ls ∧ ∀ (i : Nat) (v : Value), lv[i]? = some (some v) → ls[i]? = some (.val (cv g v))
def aPr (g : aG) (lv : List (Option Value)) : List (Nat × Value) := (List.range lv.length).filterMap fun i => match lv[i]? with
  | some (some v) => some (i, cv g v)
  | _ => none
theorem aPr_mem {g : aG} {lv : List (Option Value)} {q : Nat × Value} : q ∈ aPr g lv ↔ ∃ v, lv[q.1]? = some (some v) ∧ q.2 = cv g v := by
  unfold aPr
  rw [List.mem_filterMap]
  constructor
  · rintro ⟨i, -, hi⟩
    split at hi
    · rename_i v hv
      cases hi
      exact ⟨v, hv, rfl⟩
    · cases hi
  · rintro ⟨v, hv, e⟩
    refine ⟨q.1, List.mem_range.mpr (List.getElem?_eq_some_iff.mp hv).1, ?_⟩
    rw [hv]
    obtain ⟨a, b⟩ := q
    dsimp only at e ⊢
    rw [e]
theorem aLV.has {g : aG} {ls : Array Slot} {nL : Nat} {lv : List (Option Value)} (h : aLV g ls nL lv) : lv_has ls nL (aPr g lv) := ⟨h.1, h.2.2.1, fun q hq => by
  obtain ⟨v, hv, e⟩ := aPr_mem.mp hq
  rw [e]
  exact h.2.2.2 _ _ hv⟩
def aClr (lv : List (Option Value)) (i : Nat) : List (Option Value) := match i with
  | 0 => lv
  | j + 1 => match lv[j]? with
    | some (some (.long _)) => lv.set j none
    | some (some (.double _)) => lv.set j none
    | _ => lv
def aSet1 (lv : List (Option Value)) (i : Nat) (v : Value) : List (Option Value) := (aClr lv i).set i (some v)
def aSet2 (lv : List (Option Value)) (i : Nat) (v : Value) : List (Option Value) := ((aClr lv i).set i (some v)).set (i + 1) none
theorem aClr_len (lv : List (Option Value)) (i : Nat) : (aClr lv i).length = lv.length := by
  unfold aClr
  cases i with
  | zero => rfl
  | succ j =>
    dsimp only
    split <;> simp
theorem aClr_at {lv : List (Option Value)} {i j : Nat} {v : Value} (h : (aClr lv i)[j]? = some (some v)) : lv[j]? = some (some v) ∧ ¬ (j + 1 = i ∧ v.category = 2) := by
  unfold aClr at h
  cases i with
  | zero => exact ⟨h, fun q => by omega⟩
  | succ k =>
    dsimp only at h
    by_cases e : j = k
    · subst e
      split at h
      · rename_i w hw
        rw [List.getElem?_set_self (List.getElem?_eq_some_iff.mp hw).1] at h
        cases h
      · rename_i w hw
        rw [List.getElem?_set_self (List.getElem?_eq_some_iff.mp hw).1] at h
        cases h
      · rename_i h1 h2
        refine ⟨h, fun q => ?_⟩
        cases v with
        | long x => exact h1 x h
        | double x => exact h2 x h
        | _ => simp [Value.category] at q
    · have hne : k ≠ j := fun q => e q.symm
      split at h
      · rw [List.getElem?_set_ne hne] at h; exact ⟨h, fun q => e (by omega)⟩
      · rw [List.getElem?_set_ne hne] at h; exact ⟨h, fun q => e (by omega)⟩
      · exact ⟨h, fun q => e (by omega)⟩
theorem aLV.set1 {g : aG} {ls ls' : Array Slot} {nL : Nat} {lv : List (Option Value)} {i : Nat} {v : Value} (h : aLV g ls nL lv) (h' : lv_has ls' nL ((i, cv g v) :: (aPr g lv).filter (fun q => !(q.1 == i) && !(q.1 + 1 == i && q.2.category == 2)))) : aLV g ls' nL (aSet1 lv i v) := by
  refine ⟨h'.1, by rw [aSet1, List.length_set, aClr_len]; exact h.2.1, h'.2.1, fun j w hj => ?_⟩
  by_cases e : i = j
  · subst e
    have hl : i < (aClr lv i).length := by
      have := (List.getElem?_eq_some_iff.mp hj).1
      rw [aSet1, List.length_set] at this
      exact this
    rw [aSet1, List.getElem?_set_self hl] at hj
    cases hj
    exact h'.2.2 (i, cv g v) List.mem_cons_self
  · rw [aSet1, List.getElem?_set_ne e] at hj
    obtain ⟨h1, h2⟩ := aClr_at hj
    refine h'.2.2 (j, cv g w) (List.mem_cons_of_mem _ (List.mem_filter.mpr ⟨aPr_mem.mpr ⟨w, h1, rfl⟩, ?_⟩))
    have e2 : j ≠ i := fun q => e q.symm
    simp only [cv_cat, Bool.and_eq_true, Bool.not_eq_true', beq_eq_false_iff_ne, ne_eq, e2, not_false_eq_true, true_and, Bool.and_eq_false_imp, beq_iff_eq]
    exact fun q1 q2 => h2 ⟨q1, q2⟩
theorem aLV.set2 {g : aG} {ls ls' : Array Slot} {nL : Nat} {lv : List (Option Value)} {i : Nat} {v : Value} (h : aLV g ls nL lv) (h' : lv_has ls' nL ((i, cv g v) :: (aPr g lv).filter (fun q => !(q.1 == i) && (!(q.1 == i + 1) && !(q.1 + 1 == i && q.2.category == 2))))) : aLV g ls' nL (aSet2 lv i v) := by
  refine ⟨h'.1, by rw [aSet2, List.length_set, List.length_set, aClr_len]; exact h.2.1, h'.2.1, fun j w hj => ?_⟩
  have e1 : i + 1 ≠ j := by
    intro q
    subst q
    rw [aSet2] at hj
    have hl := (List.getElem?_eq_some_iff.mp hj).1
    rw [List.length_set] at hl
    rw [List.getElem?_set_self hl] at hj
    cases hj
  rw [aSet2, List.getElem?_set_ne e1] at hj
  by_cases e : i = j
  · subst e
    have hl : i < (aClr lv i).length := by
      have := (List.getElem?_eq_some_iff.mp hj).1
      rw [List.length_set] at this
      exact this
    rw [List.getElem?_set_self hl] at hj
    cases hj
    exact h'.2.2 (i, cv g v) List.mem_cons_self
  · rw [List.getElem?_set_ne e] at hj
    obtain ⟨h1, h2⟩ := aClr_at hj
    refine h'.2.2 (j, cv g w) (List.mem_cons_of_mem _ (List.mem_filter.mpr ⟨aPr_mem.mpr ⟨w, h1, rfl⟩, ?_⟩))
    have e2 : j ≠ i := fun q => e q.symm
    have e3 : j ≠ i + 1 := fun q => e1 q.symm
    simp only [cv_cat, Bool.and_eq_true, Bool.not_eq_true', beq_eq_false_iff_ne, ne_eq, e2, e3, not_false_eq_true, true_and, Bool.and_eq_false_imp, beq_iff_eq]
    exact fun q1 q2 => h2 ⟨q1, q2⟩
/-- a method's frame: the machine, the code, the words -/
def aSC (g : aG) (K : aM) (p : Program) (s : State) (m : MethodId) (args : Array Value) (meth : Method) (c : Code) : Prop :=
  p.tables.exec = Jvm.exec ∧ c.code = K.2.1 ∧ c.maxLocals = K.2.2.1 ∧ meth.sig.returnType = K.2.2.2 ∧ meth.name = K.1.name ∧ meth.locks = false ∧ s.vm.findClass K.1.cls = some m.cls ∧ (∀ w ∈ aTb, w.before args s = true) ∧ aWK g s
def aQ (g : aG) (nf : Nat) (Q : Option Value → aH → Prop) : Array Value → State → Outcome → State → Prop := fun _ st o t => (∃ (r : Option Value) (h' : aH), o = .returned (r.map (cv g)) ∧ Q r h' ∧ h'.1 = nf ∧ aRep g h' t.heap) ∧ va_F (aA g) st t
def aTr : aG → State → Prop := fun _ _ => True
def AW (Φ : aG → State → Prop) (g : aG) (d : Nat) (K : aM) (nf pc : Nat) (lv : List (Option Value)) (st : List Value) (h : aH) (Q : Option Value → aH → Prop) : Prop :=
  ∀ (p : Program) (l : Launch) (e : Env) (R : Room) (s : State) (m : MethodId) (args : Array Value) (below : List Frame) (meth : Method) (c : Code) (H : Heap) (locs : List Loc) (n0 : Nat) (ls : Array Slot),
    Φ g s → aSC g K p s m args meth c → (d ≤ R.frames ∧ 64 * d ≤ R.locals ∧ nf - n0 ≤ R.cells ∧ aS nf - aS n0 ≤ R.slots) → aRep g h H → va_S (aA g) s.heap H locs → n0 ≤ h.1 → h.1 ≤ nf → aLV g ls K.2.2.1 lv →
    W p l e R s m args below meth c H locs (h.1 - n0) (aS h.1 - aS n0) (MQ below (aQ g nf Q) args s (nf - n0) (aS nf - aS n0) (aA g)) (F0 m pc ls (st.map (cv g)))
def aStp (K : aM) (pc : Nat) (lv : List (Option Value)) (st : List Value) (h : aH) (pc' : Nat) (lv' : List (Option Value)) (st' : List Value) (h' : aH) : Prop :=
  ∀ (Φ : aG → State → Prop) (g : aG) (d nf : Nat) (Q : Option Value → aH → Prop), AW Φ g d K nf pc' lv' st' h' Q → AW Φ g d K nf pc lv st h Q
def aRoom (d c s : Nat) : Room := { frames := d, cells := c, slots := s, locals := 64 * d }
/-- a method's contract -/
def aSp (g : aG) (d : Nat) (K : aM) (nf : Nat) (as : List Value) (h : aH) (Q : Option Value → aH → Prop) : Prop :=
  h.1 ≤ nf ∧ ∀ l : Launch, Met l K.1 (.code K.1 K.2.1 K.2.2.1 K.2.2.2 :: aTb) (aRoom d (nf - h.1) (aS nf - aS h.1)) (va_Pc (as.map (cv g)) (fun U => aRep g h U.heap ∧ aWK g U)) (aQ g nf Q) (nf - h.1) (aS nf - aS h.1) (aA g)
def aEn : List Value → List (Option Value)
  | [] => []
  | v :: vs => if v.category = 2 then some v :: none :: aEn vs else some v :: aEn vs
def aEnt (as : List Value) (n : Nat) : List (Option Value) := aEn as ++ List.replicate (n - (aEn as).length) none
theorem aEn_len (g : aG) : ∀ vs : List Value, (lg_sl (vs.map (cv g))).length = (aEn vs).length
  | [] => rfl
  | v :: vs => by
    have ih := aEn_len g vs
    unfold lg_sl at ih ⊢
    rw [List.map_cons, List.flatMap_cons, List.length_append, ih, cv_cat]
    by_cases q : v.category = 2
    · simp only [aEn, q, if_true, List.length_cons, List.length_nil]; omega
    · simp only [aEn, q, if_false, List.length_cons, List.length_nil]; omega
theorem aEn_args (g : aG) : ∀ (vs : List Value) (o i : Nat) (v : Value), (aEn vs)[i]? = some (some v) → (o + i, cv g v) ∈ lv_args o (vs.map (cv g))
  | [], o, i, v, h => by simp [aEn] at h
  | w :: vs, o, i, v, h => by
    rw [List.map_cons]
    by_cases q : w.category = 2
    · simp only [aEn, q, if_true] at h
      match i, h with
      | 0, h => cases h; exact List.mem_cons_self
      | 1, h => cases h
      | i + 2, h =>
        have := aEn_args g vs (o + 2) i v h
        refine List.mem_cons_of_mem _ ?_
        rw [cv_cat, if_pos q]
        rw [show o + (i + 2) = o + 2 + i by omega]
        exact this
    · simp only [aEn, q, if_false] at h
      match i, h with
      | 0, h => cases h; exact List.mem_cons_self
      | i + 1, h =>
        have := aEn_args g vs (o + 1) i v h
        refine List.mem_cons_of_mem _ ?_
        rw [cv_cat, if_neg q]
        rw [show o + (i + 1) = o + 1 + i by omega]
        exact this
/-- a contract out of a walk -/
theorem aSp_of {g : aG} {d nf : Nat} {K : aM} {as : List Value} {h : aH} {Q : Option Value → aH → Prop} (hn : h.1 ≤ nf) (hy : plainName K.1.cls = true) (hl : (aEn as).length ≤ K.2.2.1) (k : AW aTr g d K nf 0 (aEnt as K.2.2.1) [] h Q) : aSp g d K nf as h Q := by
  refine ⟨hn, fun l => Met.ofW (cc := K.2.1) (maxL := K.2.2.1) (ret := K.2.2.2) hy rfl ?_⟩
  intro p e s m args below meth c s₁ B hml hv
  obtain ⟨rfl, hrep, hwk⟩ := hv
  have hts := atoms_spec (ws := Cond.code K.1 K.2.1 K.2.2.1 K.2.2.2 :: aTb) B.pre
  have hown : s.vm.findClass K.1.cls = some m.cls := findClass_of_methodNamed B.named
  have hl1 := lv_entry (as.map (cv g)) (n := K.2.2.1) (by rw [aEn_len]; exact hl)
  rw [lg_entry_eq]
  have e1 : (aS h.1 - aS h.1) = 0 := by omega
  have e2 : h.1 - h.1 = 0 := by omega
  have w := k p l e (headSpec (Cond.code K.1 K.2.1 K.2.2.1 K.2.2.2 :: aTb) (aRoom d (nf - h.1) (aS nf - aS h.1))).room s m (as.map (cv g)).toArray below meth c s.heap [] h.1 _ trivial ⟨B.exec, B.bytes, hml, B.returns, (name_of_methodNamed B.named B.method).1, B.notSynchronized, hown, fun w hw => hts w (List.mem_cons_of_mem _ hw), hwk⟩ ⟨Nat.le_refl _, Nat.le_refl _, Nat.le_refl _, Nat.le_refl _⟩ hrep va_S.rf (Nat.le_refl _) hn ⟨hl1.1, by
      rw [aEnt, List.length_append, List.length_replicate]; omega, hl1.2.1, fun i v hi => by
      have hi2 : (aEn as)[i]? = some (some v) := by
        rw [aEnt] at hi
        by_cases q : i < (aEn as).length
        · rw [List.getElem?_append_left q] at hi; exact hi
        · rw [List.getElem?_append_right (by omega), List.getElem?_replicate] at hi
          split at hi <;> cases hi
      have := aEn_args g as 0 i v hi2
      rw [Nat.zero_add] at this
      exact hl1.2.2 _ this⟩
  rw [e1, e2] at w
  exact w

theorem st_iconst {K : aM} {pc : Nat} {lv : List (Option Value)} {st : List Value} {h : aH} {n : Int} {v : Int32} (hd : decode K.2.1 pc = .ok (.iconst n, 1)) (hv : Int32.ofInt n = v) : aStp K pc lv (st) h (pc + 1) lv (.int v :: st) h := by
  intro Φ g d nf Q k p l e R s m args below meth c H locs n0 ls hΦ C hR hr hS h1 h2 hl
  exact lv_iconst C.1 C.2.1 hd hv (k p l e R s m args below meth c H locs n0 ls hΦ C hR hr hS h1 h2 hl)
theorem st_bipush {K : aM} {pc : Nat} {lv : List (Option Value)} {st : List Value} {h : aH} {n : Int} {v : Int32} (hd : decode K.2.1 pc = .ok (.bipush n, 2)) (hv : (Int8.ofInt n).toInt32 = v) : aStp K pc lv (st) h (pc + 2) lv (.int v :: st) h := by
  intro Φ g d nf Q k p l e R s m args below meth c H locs n0 ls hΦ C hR hr hS h1 h2 hl
  exact lv_bipush C.1 C.2.1 hd hv (k p l e R s m args below meth c H locs n0 ls hΦ C hR hr hS h1 h2 hl)
theorem st_sipush {K : aM} {pc : Nat} {lv : List (Option Value)} {st : List Value} {h : aH} {n : Int} {v : Int32} (hd : decode K.2.1 pc = .ok (.sipush n, 3)) (hv : (Int16.ofInt n).toInt32 = v) : aStp K pc lv (st) h (pc + 3) lv (.int v :: st) h := by
  intro Φ g d nf Q k p l e R s m args below meth c H locs n0 ls hΦ C hR hr hS h1 h2 hl
  exact lv_sipush C.1 C.2.1 hd hv (k p l e R s m args below meth c H locs n0 ls hΦ C hR hr hS h1 h2 hl)
theorem st_lconst {K : aM} {pc : Nat} {lv : List (Option Value)} {st : List Value} {h : aH} {n : Fin 2} {v : Int64} (hd : decode K.2.1 pc = .ok (.lconst n, 1)) (hv : Int64.ofNat (n : Nat) = v) : aStp K pc lv (st) h (pc + 1) lv (.long v :: st) h := by
  intro Φ g d nf Q k p l e R s m args below meth c H locs n0 ls hΦ C hR hr hS h1 h2 hl
  exact lv_lconst C.1 C.2.1 hd hv (k p l e R s m args below meth c H locs n0 ls hΦ C hR hr hS h1 h2 hl)
theorem st_iload_n {K : aM} {pc : Nat} {lv : List (Option Value)} {st : List Value} {h : aH} {n : Fin 4} {i : Nat} {x : Int32} (hd : decode K.2.1 pc = .ok (.iload_n n, 1)) (hi : (n : Nat) = i) (hx : lv[i]? = some (some (.int x))) : aStp K pc lv (st) h (pc + 1) lv (.int x :: st) h := by
  intro Φ g d nf Q k p l e R s m args below meth c H locs n0 ls hΦ C hR hr hS h1 h2 hl
  exact lv_iload_n C.1 C.2.1 hd hi (hl.2.2.2 _ _ hx) (k p l e R s m args below meth c H locs n0 ls hΦ C hR hr hS h1 h2 hl)
theorem st_iload {K : aM} {pc : Nat} {lv : List (Option Value)} {st : List Value} {h : aH} {i : Nat} {x : Int32} (hd : decode K.2.1 pc = .ok (.iload i, 2)) (hx : lv[i]? = some (some (.int x))) : aStp K pc lv (st) h (pc + 2) lv (.int x :: st) h := by
  intro Φ g d nf Q k p l e R s m args below meth c H locs n0 ls hΦ C hR hr hS h1 h2 hl
  exact lv_iload C.1 C.2.1 hd (hl.2.2.2 _ _ hx) (k p l e R s m args below meth c H locs n0 ls hΦ C hR hr hS h1 h2 hl)
theorem st_lload_n {K : aM} {pc : Nat} {lv : List (Option Value)} {st : List Value} {h : aH} {n : Fin 4} {i : Nat} {x : Int64} (hd : decode K.2.1 pc = .ok (.lload_n n, 1)) (hi : (n : Nat) = i) (hx : lv[i]? = some (some (.long x))) : aStp K pc lv (st) h (pc + 1) lv (.long x :: st) h := by
  intro Φ g d nf Q k p l e R s m args below meth c H locs n0 ls hΦ C hR hr hS h1 h2 hl
  exact lv_lload_n C.1 C.2.1 hd hi (hl.2.2.2 _ _ hx) (k p l e R s m args below meth c H locs n0 ls hΦ C hR hr hS h1 h2 hl)
theorem st_lload {K : aM} {pc : Nat} {lv : List (Option Value)} {st : List Value} {h : aH} {i : Nat} {x : Int64} (hd : decode K.2.1 pc = .ok (.lload i, 2)) (hx : lv[i]? = some (some (.long x))) : aStp K pc lv (st) h (pc + 2) lv (.long x :: st) h := by
  intro Φ g d nf Q k p l e R s m args below meth c H locs n0 ls hΦ C hR hr hS h1 h2 hl
  exact lv_lload C.1 C.2.1 hd (hl.2.2.2 _ _ hx) (k p l e R s m args below meth c H locs n0 ls hΦ C hR hr hS h1 h2 hl)
theorem st_aload_n {K : aM} {pc : Nat} {lv : List (Option Value)} {st : List Value} {h : aH} {n : Fin 4} {i x : Nat} (hd : decode K.2.1 pc = .ok (.aload_n n, 1)) (hi : (n : Nat) = i) (hx : lv[i]? = some (some (.ref x))) : aStp K pc lv (st) h (pc + 1) lv (.ref x :: st) h := by
  intro Φ g d nf Q k p l e R s m args below meth c H locs n0 ls hΦ C hR hr hS h1 h2 hl
  exact lv_aload_n C.1 C.2.1 hd hi (hl.2.2.2 _ _ hx) (k p l e R s m args below meth c H locs n0 ls hΦ C hR hr hS h1 h2 hl)
theorem st_aload {K : aM} {pc : Nat} {lv : List (Option Value)} {st : List Value} {h : aH} {i x : Nat} (hd : decode K.2.1 pc = .ok (.aload i, 2)) (hx : lv[i]? = some (some (.ref x))) : aStp K pc lv (st) h (pc + 2) lv (.ref x :: st) h := by
  intro Φ g d nf Q k p l e R s m args below meth c H locs n0 ls hΦ C hR hr hS h1 h2 hl
  exact lv_aload C.1 C.2.1 hd (hl.2.2.2 _ _ hx) (k p l e R s m args below meth c H locs n0 ls hΦ C hR hr hS h1 h2 hl)
theorem st_aload_nQ {K : aM} {pc : Nat} {lv : List (Option Value)} {st : List Value} {h : aH} {n : Fin 4} {i : Nat} {r : Option Nat} (hd : decode K.2.1 pc = .ok (.aload_n n, 1)) (hi : (n : Nat) = i) (hx : lv[i]? = some (some (va_rf r))) : aStp K pc lv st h (pc + 1) lv (va_rf r :: st) h := by
  intro Φ g d nf Q k p l e R s m args below meth c H locs n0 ls hΦ C hR hr hS h1 h2 hl
  have hx' := hl.2.2.2 _ _ hx
  cases r with
  | none => exact lv_aload_nN C.1 C.2.1 hd hi hx' (k p l e R s m args below meth c H locs n0 ls hΦ C hR hr hS h1 h2 hl)
  | some x => exact lv_aload_n C.1 C.2.1 hd hi hx' (k p l e R s m args below meth c H locs n0 ls hΦ C hR hr hS h1 h2 hl)
theorem st_aloadQ {K : aM} {pc : Nat} {lv : List (Option Value)} {st : List Value} {h : aH} {i : Nat} {r : Option Nat} (hd : decode K.2.1 pc = .ok (.aload i, 2)) (hx : lv[i]? = some (some (va_rf r))) : aStp K pc lv st h (pc + 2) lv (va_rf r :: st) h := by
  intro Φ g d nf Q k p l e R s m args below meth c H locs n0 ls hΦ C hR hr hS h1 h2 hl
  have hx' := hl.2.2.2 _ _ hx
  cases r with
  | none => exact lv_aloadN C.1 C.2.1 hd hx' (k p l e R s m args below meth c H locs n0 ls hΦ C hR hr hS h1 h2 hl)
  | some x => exact lv_aload C.1 C.2.1 hd hx' (k p l e R s m args below meth c H locs n0 ls hΦ C hR hr hS h1 h2 hl)
theorem st_null {K : aM} {pc : Nat} {lv : List (Option Value)} {st : List Value} {h : aH} (hd : decode K.2.1 pc = .ok (.aconst_null, 1)) : aStp K pc lv (st) h (pc + 1) lv (.null :: st) h := by
  intro Φ g d nf Q k p l e R s m args below meth c H locs n0 ls hΦ C hR hr hS h1 h2 hl
  exact lv_null C.1 C.2.1 hd (k p l e R s m args below meth c H locs n0 ls hΦ C hR hr hS h1 h2 hl)
theorem st_iadd {K : aM} {pc : Nat} {lv : List (Option Value)} {st : List Value} {h : aH} {x y : Int32} (hd : decode K.2.1 pc = .ok (.iadd, 1)) : aStp K pc lv (.int y :: .int x :: st) h (pc + 1) lv (.int (x + y) :: st) h := by
  intro Φ g d nf Q k p l e R s m args below meth c H locs n0 ls hΦ C hR hr hS h1 h2 hl
  exact lv_iadd C.1 C.2.1 hd (k p l e R s m args below meth c H locs n0 ls hΦ C hR hr hS h1 h2 hl)
theorem st_isub {K : aM} {pc : Nat} {lv : List (Option Value)} {st : List Value} {h : aH} {x y : Int32} (hd : decode K.2.1 pc = .ok (.isub, 1)) : aStp K pc lv (.int y :: .int x :: st) h (pc + 1) lv (.int (x - y) :: st) h := by
  intro Φ g d nf Q k p l e R s m args below meth c H locs n0 ls hΦ C hR hr hS h1 h2 hl
  exact lv_isub C.1 C.2.1 hd (k p l e R s m args below meth c H locs n0 ls hΦ C hR hr hS h1 h2 hl)
theorem st_imul {K : aM} {pc : Nat} {lv : List (Option Value)} {st : List Value} {h : aH} {x y : Int32} (hd : decode K.2.1 pc = .ok (.imul, 1)) : aStp K pc lv (.int y :: .int x :: st) h (pc + 1) lv (.int (x * y) :: st) h := by
  intro Φ g d nf Q k p l e R s m args below meth c H locs n0 ls hΦ C hR hr hS h1 h2 hl
  exact lv_imul C.1 C.2.1 hd (k p l e R s m args below meth c H locs n0 ls hΦ C hR hr hS h1 h2 hl)
theorem st_iand {K : aM} {pc : Nat} {lv : List (Option Value)} {st : List Value} {h : aH} {x y : Int32} (hd : decode K.2.1 pc = .ok (.iand, 1)) : aStp K pc lv (.int y :: .int x :: st) h (pc + 1) lv (.int (x &&& y) :: st) h := by
  intro Φ g d nf Q k p l e R s m args below meth c H locs n0 ls hΦ C hR hr hS h1 h2 hl
  exact lv_iand C.1 C.2.1 hd (k p l e R s m args below meth c H locs n0 ls hΦ C hR hr hS h1 h2 hl)
theorem st_ior {K : aM} {pc : Nat} {lv : List (Option Value)} {st : List Value} {h : aH} {x y : Int32} (hd : decode K.2.1 pc = .ok (.ior, 1)) : aStp K pc lv (.int y :: .int x :: st) h (pc + 1) lv (.int (x ||| y) :: st) h := by
  intro Φ g d nf Q k p l e R s m args below meth c H locs n0 ls hΦ C hR hr hS h1 h2 hl
  exact lv_ior C.1 C.2.1 hd (k p l e R s m args below meth c H locs n0 ls hΦ C hR hr hS h1 h2 hl)
theorem st_ishl {K : aM} {pc : Nat} {lv : List (Option Value)} {st : List Value} {h : aH} {x y : Int32} (hd : decode K.2.1 pc = .ok (.ishl, 1)) : aStp K pc lv (.int y :: .int x :: st) h (pc + 1) lv (.int (x <<< (y &&& 31)) :: st) h := by
  intro Φ g d nf Q k p l e R s m args below meth c H locs n0 ls hΦ C hR hr hS h1 h2 hl
  exact lv_ishl C.1 C.2.1 hd (k p l e R s m args below meth c H locs n0 ls hΦ C hR hr hS h1 h2 hl)
theorem st_ishr {K : aM} {pc : Nat} {lv : List (Option Value)} {st : List Value} {h : aH} {x y : Int32} (hd : decode K.2.1 pc = .ok (.ishr, 1)) : aStp K pc lv (.int y :: .int x :: st) h (pc + 1) lv (.int (x >>> (y &&& 31)) :: st) h := by
  intro Φ g d nf Q k p l e R s m args below meth c H locs n0 ls hΦ C hR hr hS h1 h2 hl
  exact lv_ishr C.1 C.2.1 hd (k p l e R s m args below meth c H locs n0 ls hΦ C hR hr hS h1 h2 hl)
theorem st_iushr {K : aM} {pc : Nat} {lv : List (Option Value)} {st : List Value} {h : aH} {x y : Int32} (hd : decode K.2.1 pc = .ok (.iushr, 1)) : aStp K pc lv (.int y :: .int x :: st) h (pc + 1) lv (.int ((x.toUInt32 >>> (y.toUInt32 &&& Int32.toUInt32 31)).toInt32) :: st) h := by
  intro Φ g d nf Q k p l e R s m args below meth c H locs n0 ls hΦ C hR hr hS h1 h2 hl
  exact lv_iushr C.1 C.2.1 hd rfl (k p l e R s m args below meth c H locs n0 ls hΦ C hR hr hS h1 h2 hl)
theorem st_ladd {K : aM} {pc : Nat} {lv : List (Option Value)} {st : List Value} {h : aH} {x y : Int64} (hd : decode K.2.1 pc = .ok (.ladd, 1)) : aStp K pc lv (.long y :: .long x :: st) h (pc + 1) lv (.long (x + y) :: st) h := by
  intro Φ g d nf Q k p l e R s m args below meth c H locs n0 ls hΦ C hR hr hS h1 h2 hl
  exact lv_ladd C.1 C.2.1 hd (k p l e R s m args below meth c H locs n0 ls hΦ C hR hr hS h1 h2 hl)
theorem st_lsub {K : aM} {pc : Nat} {lv : List (Option Value)} {st : List Value} {h : aH} {x y : Int64} (hd : decode K.2.1 pc = .ok (.lsub, 1)) : aStp K pc lv (.long y :: .long x :: st) h (pc + 1) lv (.long (x - y) :: st) h := by
  intro Φ g d nf Q k p l e R s m args below meth c H locs n0 ls hΦ C hR hr hS h1 h2 hl
  exact lv_lsub C.1 C.2.1 hd (k p l e R s m args below meth c H locs n0 ls hΦ C hR hr hS h1 h2 hl)
theorem st_lmul {K : aM} {pc : Nat} {lv : List (Option Value)} {st : List Value} {h : aH} {x y : Int64} (hd : decode K.2.1 pc = .ok (.lmul, 1)) : aStp K pc lv (.long y :: .long x :: st) h (pc + 1) lv (.long (x * y) :: st) h := by
  intro Φ g d nf Q k p l e R s m args below meth c H locs n0 ls hΦ C hR hr hS h1 h2 hl
  exact lv_lmul C.1 C.2.1 hd (k p l e R s m args below meth c H locs n0 ls hΦ C hR hr hS h1 h2 hl)
theorem st_land {K : aM} {pc : Nat} {lv : List (Option Value)} {st : List Value} {h : aH} {x y : Int64} (hd : decode K.2.1 pc = .ok (.land, 1)) : aStp K pc lv (.long y :: .long x :: st) h (pc + 1) lv (.long (x &&& y) :: st) h := by
  intro Φ g d nf Q k p l e R s m args below meth c H locs n0 ls hΦ C hR hr hS h1 h2 hl
  exact lv_land C.1 C.2.1 hd (k p l e R s m args below meth c H locs n0 ls hΦ C hR hr hS h1 h2 hl)
theorem st_lor {K : aM} {pc : Nat} {lv : List (Option Value)} {st : List Value} {h : aH} {x y : Int64} (hd : decode K.2.1 pc = .ok (.lor, 1)) : aStp K pc lv (.long y :: .long x :: st) h (pc + 1) lv (.long (x ||| y) :: st) h := by
  intro Φ g d nf Q k p l e R s m args below meth c H locs n0 ls hΦ C hR hr hS h1 h2 hl
  exact lv_lor C.1 C.2.1 hd (k p l e R s m args below meth c H locs n0 ls hΦ C hR hr hS h1 h2 hl)
theorem st_idiv {K : aM} {pc : Nat} {lv : List (Option Value)} {st : List Value} {h : aH} {x y : Int32} (hd : decode K.2.1 pc = .ok (.idiv, 1)) (hne : ¬ y = 0) : aStp K pc lv (.int y :: .int x :: st) h (pc + 1) lv (.int (x / y) :: st) h := by
  intro Φ g d nf Q k p l e R s m args below meth c H locs n0 ls hΦ C hR hr hS h1 h2 hl
  exact lv_idiv C.1 C.2.1 hd hne (k p l e R s m args below meth c H locs n0 ls hΦ C hR hr hS h1 h2 hl)
theorem st_irem {K : aM} {pc : Nat} {lv : List (Option Value)} {st : List Value} {h : aH} {x y : Int32} (hd : decode K.2.1 pc = .ok (.irem, 1)) (hne : ¬ y = 0) : aStp K pc lv (.int y :: .int x :: st) h (pc + 1) lv (.int (x - x / y * y) :: st) h := by
  intro Φ g d nf Q k p l e R s m args below meth c H locs n0 ls hΦ C hR hr hS h1 h2 hl
  exact lv_irem C.1 C.2.1 hd hne (k p l e R s m args below meth c H locs n0 ls hΦ C hR hr hS h1 h2 hl)
theorem st_ldiv {K : aM} {pc : Nat} {lv : List (Option Value)} {st : List Value} {h : aH} {x y : Int64} (hd : decode K.2.1 pc = .ok (.ldiv, 1)) (hne : ¬ y = 0) : aStp K pc lv (.long y :: .long x :: st) h (pc + 1) lv (.long (x / y) :: st) h := by
  intro Φ g d nf Q k p l e R s m args below meth c H locs n0 ls hΦ C hR hr hS h1 h2 hl
  exact lv_ldiv C.1 C.2.1 hd hne (k p l e R s m args below meth c H locs n0 ls hΦ C hR hr hS h1 h2 hl)
theorem st_lrem {K : aM} {pc : Nat} {lv : List (Option Value)} {st : List Value} {h : aH} {x y : Int64} (hd : decode K.2.1 pc = .ok (.lrem, 1)) (hne : ¬ y = 0) : aStp K pc lv (.long y :: .long x :: st) h (pc + 1) lv (.long (x - x / y * y) :: st) h := by
  intro Φ g d nf Q k p l e R s m args below meth c H locs n0 ls hΦ C hR hr hS h1 h2 hl
  exact lv_lrem C.1 C.2.1 hd hne (k p l e R s m args below meth c H locs n0 ls hΦ C hR hr hS h1 h2 hl)
theorem st_lshl {K : aM} {pc : Nat} {lv : List (Option Value)} {st : List Value} {h : aH} {x : Int64} {y : Int32} (hd : decode K.2.1 pc = .ok (.lshl, 1)) : aStp K pc lv (.int y :: .long x :: st) h (pc + 1) lv (.long (x <<< (y.toInt64 &&& 63)) :: st) h := by
  intro Φ g d nf Q k p l e R s m args below meth c H locs n0 ls hΦ C hR hr hS h1 h2 hl
  exact lv_lshl C.1 C.2.1 hd rfl (k p l e R s m args below meth c H locs n0 ls hΦ C hR hr hS h1 h2 hl)
theorem st_lushr {K : aM} {pc : Nat} {lv : List (Option Value)} {st : List Value} {h : aH} {x : Int64} {y : Int32} (hd : decode K.2.1 pc = .ok (.lushr, 1)) : aStp K pc lv (.int y :: .long x :: st) h (pc + 1) lv (.long ((x.toUInt64 >>> (y.toInt64.toUInt64 &&& Int64.toUInt64 63)).toInt64) :: st) h := by
  intro Φ g d nf Q k p l e R s m args below meth c H locs n0 ls hΦ C hR hr hS h1 h2 hl
  exact lv_lushr C.1 C.2.1 hd rfl (k p l e R s m args below meth c H locs n0 ls hΦ C hR hr hS h1 h2 hl)
theorem st_lcmp {K : aM} {pc : Nat} {lv : List (Option Value)} {st : List Value} {h : aH} {x y : Int64} (hd : decode K.2.1 pc = .ok (.lcmp, 1)) : aStp K pc lv (.long y :: .long x :: st) h (pc + 1) lv (.int (lg_cmp x y) :: st) h := by
  intro Φ g d nf Q k p l e R s m args below meth c H locs n0 ls hΦ C hR hr hS h1 h2 hl
  exact W.lcmp C.1 C.2.1 hd (k p l e R s m args below meth c H locs n0 ls hΦ C hR hr hS h1 h2 hl)
theorem st_i2l {K : aM} {pc : Nat} {lv : List (Option Value)} {st : List Value} {h : aH} {x : Int32} (hd : decode K.2.1 pc = .ok (.i2l, 1)) : aStp K pc lv (.int x :: st) h (pc + 1) lv (.long x.toInt64 :: st) h := by
  intro Φ g d nf Q k p l e R s m args below meth c H locs n0 ls hΦ C hR hr hS h1 h2 hl
  exact lv_i2l C.1 C.2.1 hd rfl (k p l e R s m args below meth c H locs n0 ls hΦ C hR hr hS h1 h2 hl)
theorem st_l2i {K : aM} {pc : Nat} {lv : List (Option Value)} {st : List Value} {h : aH} {x : Int64} (hd : decode K.2.1 pc = .ok (.l2i, 1)) : aStp K pc lv (.long x :: st) h (pc + 1) lv (.int x.toInt32 :: st) h := by
  intro Φ g d nf Q k p l e R s m args below meth c H locs n0 ls hΦ C hR hr hS h1 h2 hl
  exact lv_l2i C.1 C.2.1 hd rfl (k p l e R s m args below meth c H locs n0 ls hΦ C hR hr hS h1 h2 hl)
theorem st_i2b {K : aM} {pc : Nat} {lv : List (Option Value)} {st : List Value} {h : aH} {x : Int32} (hd : decode K.2.1 pc = .ok (.i2b, 1)) : aStp K pc lv (.int x :: st) h (pc + 1) lv (.int x.toInt8.toInt32 :: st) h := by
  intro Φ g d nf Q k p l e R s m args below meth c H locs n0 ls hΦ C hR hr hS h1 h2 hl
  exact lv_i2b C.1 C.2.1 hd rfl (k p l e R s m args below meth c H locs n0 ls hΦ C hR hr hS h1 h2 hl)
theorem st_dup {K : aM} {pc : Nat} {lv : List (Option Value)} {st : List Value} {h : aH} {v : Value} (hd : decode K.2.1 pc = .ok (.dup, 1)) (hv : v.category = 1) : aStp K pc lv (v :: st) h (pc + 1) lv (v :: v :: st) h := by
  intro Φ g d nf Q k p l e R s m args below meth c H locs n0 ls hΦ C hR hr hS h1 h2 hl
  exact lv_dup C.1 C.2.1 hd (by rw [cv_cat]; exact hv) (k p l e R s m args below meth c H locs n0 ls hΦ C hR hr hS h1 h2 hl)
theorem st_pop {K : aM} {pc : Nat} {lv : List (Option Value)} {st : List Value} {h : aH} {v : Value} (hd : decode K.2.1 pc = .ok (.pop, 1)) (hv : v.category = 1) : aStp K pc lv (v :: st) h (pc + 1) lv (st) h := by
  intro Φ g d nf Q k p l e R s m args below meth c H locs n0 ls hΦ C hR hr hS h1 h2 hl
  exact lv_pop C.1 C.2.1 hd (by rw [cv_cat]; exact hv) (k p l e R s m args below meth c H locs n0 ls hΦ C hR hr hS h1 h2 hl)
theorem st_dup2 {K : aM} {pc : Nat} {lv : List (Option Value)} {st : List Value} {h : aH} {v w : Value} (hd : decode K.2.1 pc = .ok (.dup2, 1)) (hv : v.category = 1) (hw : w.category = 1) : aStp K pc lv (v :: w :: st) h (pc + 1) lv (v :: w :: v :: w :: st) h := by
  intro Φ g d nf Q k p l e R s m args below meth c H locs n0 ls hΦ C hR hr hS h1 h2 hl
  exact lv_dup2_11 C.1 C.2.1 hd (by rw [cv_cat]; exact hv) (by rw [cv_cat]; exact hw) (k p l e R s m args below meth c H locs n0 ls hΦ C hR hr hS h1 h2 hl)
theorem st_goto {K : aM} {pc : Nat} {lv : List (Option Value)} {st : List Value} {h : aH} {off : Int} (tgt : Nat) (hd : decode K.2.1 pc = .ok (.goto off, 3)) (ht : (pc : Int) + off = (tgt : Int)) : aStp K pc lv st h tgt lv st h := by
  intro Φ g d nf Q k p l e R s m args below meth c H locs n0 ls hΦ C hR hr hS h1 h2 hl
  exact lv_goto C.1 C.2.1 hd ht (k p l e R s m args below meth c H locs n0 ls hΦ C hR hr hS h1 h2 hl)
theorem st_istore_n {K : aM} {pc : Nat} {lv : List (Option Value)} {st : List Value} {h : aH} {lv' : List (Option Value)} {n : Fin 4} {i : Nat} {x : Int32} (hd : decode K.2.1 pc = .ok (.istore_n n, 1)) (hi : (n : Nat) = i) (hn : i < K.2.2.1) (hs : aSet1 lv i (.int x) = lv') : aStp K pc lv (.int x :: st) h (pc + 1) lv' st h := by
  intro Φ g d nf Q k p l e R s m args below meth c H locs n0 ls hΦ C hR hr hS h1 h2 hl
  subst hs
  exact lv_istore_n C.1 C.2.1 hd hi hl.has hn rfl (fun ls' h' => k p l e R s m args below meth c H locs n0 ls' hΦ C hR hr hS h1 h2 (hl.set1 h'))
theorem st_istore {K : aM} {pc : Nat} {lv : List (Option Value)} {st : List Value} {h : aH} {lv' : List (Option Value)} {i : Nat} {x : Int32} (hd : decode K.2.1 pc = .ok (.istore i, 2)) (hn : i < K.2.2.1) (hs : aSet1 lv i (.int x) = lv') : aStp K pc lv (.int x :: st) h (pc + 2) lv' st h := by
  intro Φ g d nf Q k p l e R s m args below meth c H locs n0 ls hΦ C hR hr hS h1 h2 hl
  subst hs
  exact lv_istore C.1 C.2.1 hd hl.has hn rfl (fun ls' h' => k p l e R s m args below meth c H locs n0 ls' hΦ C hR hr hS h1 h2 (hl.set1 h'))
theorem st_lstore_n {K : aM} {pc : Nat} {lv : List (Option Value)} {st : List Value} {h : aH} {lv' : List (Option Value)} {n : Fin 4} {i : Nat} {x : Int64} (hd : decode K.2.1 pc = .ok (.lstore_n n, 1)) (hi : (n : Nat) = i) (hn : i + 1 < K.2.2.1) (hs : aSet2 lv i (.long x) = lv') : aStp K pc lv (.long x :: st) h (pc + 1) lv' st h := by
  intro Φ g d nf Q k p l e R s m args below meth c H locs n0 ls hΦ C hR hr hS h1 h2 hl
  subst hs
  exact lv_lstore_n C.1 C.2.1 hd hi hl.has hn rfl (fun ls' h' => k p l e R s m args below meth c H locs n0 ls' hΦ C hR hr hS h1 h2 (hl.set2 h'))
theorem st_lstore {K : aM} {pc : Nat} {lv : List (Option Value)} {st : List Value} {h : aH} {lv' : List (Option Value)} {i : Nat} {x : Int64} (hd : decode K.2.1 pc = .ok (.lstore i, 2)) (hn : i + 1 < K.2.2.1) (hs : aSet2 lv i (.long x) = lv') : aStp K pc lv (.long x :: st) h (pc + 2) lv' st h := by
  intro Φ g d nf Q k p l e R s m args below meth c H locs n0 ls hΦ C hR hr hS h1 h2 hl
  subst hs
  exact lv_lstore C.1 C.2.1 hd hl.has hn rfl (fun ls' h' => k p l e R s m args below meth c H locs n0 ls' hΦ C hR hr hS h1 h2 (hl.set2 h'))
theorem st_astore_n {K : aM} {pc : Nat} {lv : List (Option Value)} {st : List Value} {h : aH} {lv' : List (Option Value)} {n : Fin 4} {i : Nat} {x : Nat} (hd : decode K.2.1 pc = .ok (.astore_n n, 1)) (hi : (n : Nat) = i) (hn : i < K.2.2.1) (hs : aSet1 lv i (.ref x) = lv') : aStp K pc lv (.ref x :: st) h (pc + 1) lv' st h := by
  intro Φ g d nf Q k p l e R s m args below meth c H locs n0 ls hΦ C hR hr hS h1 h2 hl
  subst hs
  exact lv_astore_n C.1 C.2.1 hd hi hl.has hn rfl (fun ls' h' => k p l e R s m args below meth c H locs n0 ls' hΦ C hR hr hS h1 h2 (hl.set1 h'))
theorem st_astore {K : aM} {pc : Nat} {lv : List (Option Value)} {st : List Value} {h : aH} {lv' : List (Option Value)} {i : Nat} {x : Nat} (hd : decode K.2.1 pc = .ok (.astore i, 2)) (hn : i < K.2.2.1) (hs : aSet1 lv i (.ref x) = lv') : aStp K pc lv (.ref x :: st) h (pc + 2) lv' st h := by
  intro Φ g d nf Q k p l e R s m args below meth c H locs n0 ls hΦ C hR hr hS h1 h2 hl
  subst hs
  exact lv_astore C.1 C.2.1 hd hl.has hn rfl (fun ls' h' => k p l e R s m args below meth c H locs n0 ls' hΦ C hR hr hS h1 h2 (hl.set1 h'))
theorem aPr_at {g : aG} {lv : List (Option Value)} {i : Nat} {v : Value} (h : lv[i]? = some (some v)) : ∃ k : Nat, (aPr g lv)[k]? = some (i, cv g v) := List.getElem?_of_mem (aPr_mem.mpr ⟨v, h, rfl⟩)
theorem st_iinc {K : aM} {pc : Nat} {lv : List (Option Value)} {st : List Value} {h : aH} {lv' : List (Option Value)} {i : Nat} {n : Int} {x v : Int32} (hd : decode K.2.1 pc = .ok (.iinc i n, 3)) (hx : lv[i]? = some (some (.int x))) (hv : Int32.ofInt n = v) (hn : i < K.2.2.1) (hs : aSet1 lv i (.int (x + v)) = lv') : aStp K pc lv st h (pc + 3) lv' st h := by
  intro Φ g d nf Q k p l e R s m args below meth c H locs n0 ls hΦ C hR hr hS h1 h2 hl
  subst hs
  obtain ⟨q, hq⟩ := aPr_at (g := g) hx
  exact lv_iinc C.1 C.2.1 hd hl.has hq (by rw [hv]) hn rfl (fun ls' h' => k p l e R s m args below meth c H locs n0 ls' hΦ C hR hr hS h1 h2 (hl.set1 h'))
