def aBind {ρ τ : Type} (o : Option (τ × aH)) (f : τ → aH → Option (ρ × aH)) : Option (ρ × aH) := o.bind (fun q => f q.1 q.2)
section AOB
variable {Φ : aG → State → Prop} {ρ : Type} {E : ρ → Option Value} {d d' n idx ci b : Nat} {K Kc : aM} {pc : Nat} {lv : List (Option Value)} {st st0 As : List Value} {h : aH}
theorem ao_cVi {o1 : Option (Int32 × aH)} {f : Int32 → aH → Option (ρ × aH)} (hd : decode K.2.1 pc = .ok (.invokevirtual idx, 3)) (hw : Cond.methodLink K.1.cls idx Kc.1 ∈ aTb) (hm : aMV Kc n) (hn : As.length = n) (hs : (sh b).1 = ci + 7) (hc : ci < 13) (hcl : cRn ci = Kc.1.cls) (hst : st0 = As.reverse ++ .ref b :: st) (hcat : (st.map fun v => v.category).sum ≤ 8) (hdd : d' + 1 ≤ d) (hM : SO eI d' Kc (.ref b :: As) h o1) (kk : ∀ (r : Int32) (h' : aH), AOx Φ E d K (pc + 3) lv (.int r :: st) h' (f r h')) : AOx Φ E d K pc lv st0 h (aBind o1 f) := ao_callV hd hw hm hn hs hc hcl hst hcat hdd hM kk
theorem ao_cSi {o1 : Option (Int32 × aH)} {f : Int32 → aH → Option (ρ × aH)} (hd : decode K.2.1 pc = .ok (.invokestatic idx, 3)) (hw : Cond.methodLink K.1.cls idx Kc.1 ∈ aTb) (hm : aMS Kc n) (hn : As.length = n) (hst : st0 = As.reverse ++ st) (hcat : (st.map fun v => v.category).sum ≤ 8) (hdd : d' + 1 ≤ d) (hM : SO eI d' Kc As h o1) (kk : ∀ (r : Int32) (h' : aH), AOx Φ E d K (pc + 3) lv (.int r :: st) h' (f r h')) : AOx Φ E d K pc lv st0 h (aBind o1 f) := ao_callS hd hw hm hn hst hcat hdd hM kk
theorem ao_cVl {o1 : Option (Int64 × aH)} {f : Int64 → aH → Option (ρ × aH)} (hd : decode K.2.1 pc = .ok (.invokevirtual idx, 3)) (hw : Cond.methodLink K.1.cls idx Kc.1 ∈ aTb) (hm : aMV Kc n) (hn : As.length = n) (hs : (sh b).1 = ci + 7) (hc : ci < 13) (hcl : cRn ci = Kc.1.cls) (hst : st0 = As.reverse ++ .ref b :: st) (hcat : (st.map fun v => v.category).sum ≤ 8) (hdd : d' + 1 ≤ d) (hM : SO eL d' Kc (.ref b :: As) h o1) (kk : ∀ (r : Int64) (h' : aH), AOx Φ E d K (pc + 3) lv (.long r :: st) h' (f r h')) : AOx Φ E d K pc lv st0 h (aBind o1 f) := ao_callV hd hw hm hn hs hc hcl hst hcat hdd hM kk
theorem ao_cSl {o1 : Option (Int64 × aH)} {f : Int64 → aH → Option (ρ × aH)} (hd : decode K.2.1 pc = .ok (.invokestatic idx, 3)) (hw : Cond.methodLink K.1.cls idx Kc.1 ∈ aTb) (hm : aMS Kc n) (hn : As.length = n) (hst : st0 = As.reverse ++ st) (hcat : (st.map fun v => v.category).sum ≤ 8) (hdd : d' + 1 ≤ d) (hM : SO eL d' Kc As h o1) (kk : ∀ (r : Int64) (h' : aH), AOx Φ E d K (pc + 3) lv (.long r :: st) h' (f r h')) : AOx Φ E d K pc lv st0 h (aBind o1 f) := ao_callS hd hw hm hn hst hcat hdd hM kk
theorem ao_cVv {o1 : Option (Unit × aH)} {f : Unit → aH → Option (ρ × aH)} (hd : decode K.2.1 pc = .ok (.invokevirtual idx, 3)) (hw : Cond.methodLink K.1.cls idx Kc.1 ∈ aTb) (hm : aMV Kc n) (hn : As.length = n) (hs : (sh b).1 = ci + 7) (hc : ci < 13) (hcl : cRn ci = Kc.1.cls) (hst : st0 = As.reverse ++ .ref b :: st) (hcat : (st.map fun v => v.category).sum ≤ 8) (hdd : d' + 1 ≤ d) (hM : SO eV d' Kc (.ref b :: As) h o1) (kk : ∀ (r : Unit) (h' : aH), AOx Φ E d K (pc + 3) lv (st) h' (f r h')) : AOx Φ E d K pc lv st0 h (aBind o1 f) := ao_callV hd hw hm hn hs hc hcl hst hcat hdd hM kk
theorem ao_cSv {o1 : Option (Unit × aH)} {f : Unit → aH → Option (ρ × aH)} (hd : decode K.2.1 pc = .ok (.invokestatic idx, 3)) (hw : Cond.methodLink K.1.cls idx Kc.1 ∈ aTb) (hm : aMS Kc n) (hn : As.length = n) (hst : st0 = As.reverse ++ st) (hcat : (st.map fun v => v.category).sum ≤ 8) (hdd : d' + 1 ≤ d) (hM : SO eV d' Kc As h o1) (kk : ∀ (r : Unit) (h' : aH), AOx Φ E d K (pc + 3) lv (st) h' (f r h')) : AOx Φ E d K pc lv st0 h (aBind o1 f) := ao_callS hd hw hm hn hst hcat hdd hM kk
theorem ao_cVq {o1 : Option (Option Nat × aH)} {f : Option Nat → aH → Option (ρ × aH)} (hd : decode K.2.1 pc = .ok (.invokevirtual idx, 3)) (hw : Cond.methodLink K.1.cls idx Kc.1 ∈ aTb) (hm : aMV Kc n) (hn : As.length = n) (hs : (sh b).1 = ci + 7) (hc : ci < 13) (hcl : cRn ci = Kc.1.cls) (hst : st0 = As.reverse ++ .ref b :: st) (hcat : (st.map fun v => v.category).sum ≤ 8) (hdd : d' + 1 ≤ d) (hM : SO eQ d' Kc (.ref b :: As) h o1) (kk : ∀ (r : Option Nat) (h' : aH), AOx Φ E d K (pc + 3) lv (va_rf r :: st) h' (f r h')) : AOx Φ E d K pc lv st0 h (aBind o1 f) := ao_callV hd hw hm hn hs hc hcl hst hcat hdd hM kk
theorem ao_cSq {o1 : Option (Option Nat × aH)} {f : Option Nat → aH → Option (ρ × aH)} (hd : decode K.2.1 pc = .ok (.invokestatic idx, 3)) (hw : Cond.methodLink K.1.cls idx Kc.1 ∈ aTb) (hm : aMS Kc n) (hn : As.length = n) (hst : st0 = As.reverse ++ st) (hcat : (st.map fun v => v.category).sum ≤ 8) (hdd : d' + 1 ≤ d) (hM : SO eQ d' Kc As h o1) (kk : ∀ (r : Option Nat) (h' : aH), AOx Φ E d K (pc + 3) lv (va_rf r :: st) h' (f r h')) : AOx Φ E d K pc lv st0 h (aBind o1 f) := ao_callS hd hw hm hn hst hcat hdd hM kk
theorem ao_cVn {o1 : Option (Nat × aH)} {f : Nat → aH → Option (ρ × aH)} (hd : decode K.2.1 pc = .ok (.invokevirtual idx, 3)) (hw : Cond.methodLink K.1.cls idx Kc.1 ∈ aTb) (hm : aMV Kc n) (hn : As.length = n) (hs : (sh b).1 = ci + 7) (hc : ci < 13) (hcl : cRn ci = Kc.1.cls) (hst : st0 = As.reverse ++ .ref b :: st) (hcat : (st.map fun v => v.category).sum ≤ 8) (hdd : d' + 1 ≤ d) (hM : SO eN d' Kc (.ref b :: As) h o1) (kk : ∀ (r : Nat) (h' : aH), AOx Φ E d K (pc + 3) lv (.ref r :: st) h' (f r h')) : AOx Φ E d K pc lv st0 h (aBind o1 f) := ao_callV hd hw hm hn hs hc hcl hst hcat hdd hM kk
theorem ao_cSn {o1 : Option (Nat × aH)} {f : Nat → aH → Option (ρ × aH)} (hd : decode K.2.1 pc = .ok (.invokestatic idx, 3)) (hw : Cond.methodLink K.1.cls idx Kc.1 ∈ aTb) (hm : aMS Kc n) (hn : As.length = n) (hst : st0 = As.reverse ++ st) (hcat : (st.map fun v => v.category).sum ≤ 8) (hdd : d' + 1 ≤ d) (hM : SO eN d' Kc As h o1) (kk : ∀ (r : Nat) (h' : aH), AOx Φ E d K (pc + 3) lv (.ref r :: st) h' (f r h')) : AOx Φ E d K pc lv st0 h (aBind o1 f) := ao_callS hd hw hm hn hst hcat hdd hM kk
end AOB
theorem so_none {ρ : Type} {E : ρ → Option Value} {d : Nat} {K : aM} {as : List Value} {h : aH} : SO E d K as h none := fun _ _ _ e _ => by cases e
theorem aCatQ (r : Option Nat) : (va_rf r).category = 1 := by cases r <;> rfl
theorem aCatR (r : Nat) : (Value.ref r).category = 1 := rfl
theorem aCatL (r : Int64) : (Value.long r).category = 2 := rfl
theorem aCatN (r : Int32) : (Value.int r).category = 1 := rfl
/-- fewer known locals -/
def aSub : List (Option Value) → List (Option Value) → Prop
  | [], [] => True
  | none :: l, _ :: m => aSub l m
  | some v :: l, w :: m => w = some v ∧ aSub l m
  | _, _ => False
theorem sb_0 : aSub [] [] := trivial
theorem sb_n {l m : List (Option Value)} {w : Option Value} (h : aSub l m) : aSub (none :: l) (w :: m) := h
theorem sb_s {l m : List (Option Value)} {v : Value} (h : aSub l m) : aSub (some v :: l) (some v :: m) := ⟨rfl, h⟩
theorem aSub_len : ∀ {l m : List (Option Value)}, aSub l m → l.length = m.length
  | [], [], _ => rfl
  | none :: _, _ :: _, h => congrArg (· + 1) (aSub_len (show aSub _ _ from h))
  | some _ :: _, _ :: _, h => congrArg (· + 1) (aSub_len h.2)
  | [], _ :: _, h => absurd h (fun q => q)
  | none :: _, [], h => absurd h (fun q => q)
  | some _ :: _, [], h => absurd h (fun q => q)
theorem aSub_at : ∀ {l m : List (Option Value)} (i : Nat) (v : Value), aSub l m → l[i]? = some (some v) → m[i]? = some (some v)
  | [], _, i, v, _, h => by simp at h
  | none :: l, [], i, v, h, _ => absurd h (fun q => q)
  | some _ :: l, [], i, v, h, _ => absurd h (fun q => q)
  | none :: l, w :: m, 0, v, _, h => by simp at h
  | none :: l, w :: m, i + 1, v, h, q => by
    rw [List.getElem?_cons_succ] at q ⊢
    exact aSub_at i v (show aSub l m from h) q
  | some u :: l, w :: m, 0, v, h, q => by
    rw [List.getElem?_cons_zero] at q ⊢
    cases q
    rw [h.1]
  | some u :: l, w :: m, i + 1, v, h, q => by
    rw [List.getElem?_cons_succ] at q ⊢
    exact aSub_at i v h.2 q
theorem aw_w {Φ : aG → State → Prop} {g : aG} {d : Nat} {K : aM} {nf pc : Nat} {lv lv' : List (Option Value)} {st : List Value} {h : aH} {Q : Option Value → aH → Prop} (hs : aSub lv' lv) (k : AW Φ g d K nf pc lv' st h Q) : AW Φ g d K nf pc lv st h Q := by
  intro p l e R s m args below meth c H locs n0 ls hΦ C hR hr hS h1 h2 hl
  exact k p l e R s m args below meth c H locs n0 ls hΦ C hR hr hS h1 h2 ⟨hl.1, (aSub_len hs).trans hl.2.1, hl.2.2.1, fun i v hi => hl.2.2.2 i v (aSub_at i v hs hi)⟩
theorem ao_w {Φ : aG → State → Prop} {ρ : Type} {E : ρ → Option Value} {d : Nat} {K : aM} {pc : Nat} {lv lv' : List (Option Value)} {st : List Value} {h : aH} {o : Option (ρ × aH)} (hs : aSub lv' lv) (k : AOx Φ E d K pc lv' st h o) : AOx Φ E d K pc lv st h o := fun g r h' e hN => ⟨(k g r h' e hN).1, aw_w hs (k g r h' e hN).2⟩
theorem wc_max : Cond.code Lib.Math.max.name Lib.Math.max.code 2 (some .int) ∈ aTb := mi_J9_max_7cf53.2.1
theorem st_mmax {K : aM} {pc idx : Nat} {lv : List (Option Value)} {st : List Value} {h : aH} {x y : Int32} (hd : decode K.2.1 pc = .ok (.invokestatic idx, 3)) (hw : Cond.methodLink K.1.cls idx Lib.Math.max.name ∈ aTb) (hcat : (st.map fun v => v.category).sum ≤ 8) :
    ∀ (Φ : aG → State → Prop) (g : aG) (d nf : Nat) (Q : Option Value → aH → Prop), 1 ≤ d → AW Φ g d K nf (pc + 3) lv (.int (if x < y then y else x) :: st) h Q → AW Φ g d K nf pc lv (.int y :: .int x :: st) h Q := by
  intro Φ g d nf Q hd1 k p l e R s m args below meth c H locs n0 ls hΦ C hR hr hS h1 h2 hl
  have hts := C.2.2.2.2.2.2.2.1
  have m1 := aS_mono h1
  have m2 := aS_mono h2
  refine va_mmax (own := K.1.cls) C.1 C.2.1 (C.2.2.1.trans hl.1.symm) C.2.2.2.2.2.2.1 (hts _ hw) (hts _ ms_J9_max_7cf53.2) (hts _ wi_J9) (hts _ wc_max) (by omega) (by rw [cv_sum]; omega) (by omega) (by omega) hd (k p l e R s m args below meth c H locs n0 ls hΦ C hR hr hS h1 h2 hl)
theorem ao_mmax {Φ : aG → State → Prop} {ρ : Type} {E : ρ → Option Value} {d : Nat} {o : Option (ρ × aH)} {K : aM} {pc idx : Nat} {lv : List (Option Value)} {st : List Value} {h : aH} {x y : Int32} (hd : decode K.2.1 pc = .ok (.invokestatic idx, 3)) (hw : Cond.methodLink K.1.cls idx Lib.Math.max.name ∈ aTb) (hcat : (st.map fun v => v.category).sum ≤ 8) (hdd : 1 ≤ d) (kk : AOx Φ E d K (pc + 3) lv (.int (if x < y then y else x) :: st) h o) : AOx Φ E d K pc lv (.int y :: .int x :: st) h o := by
  intro g r h' e hN
  obtain ⟨a, b⟩ := kk g r h' e hN
  exact ⟨a, st_mmax hd hw hcat Φ g d aNN _ hdd b⟩
theorem wc_min : Cond.code Lib.Math.min.name Lib.Math.min.code 2 (some .int) ∈ aTb := mi_J9_min_7cf53.2.1
theorem st_mmin {K : aM} {pc idx : Nat} {lv : List (Option Value)} {st : List Value} {h : aH} {x y : Int32} (hd : decode K.2.1 pc = .ok (.invokestatic idx, 3)) (hw : Cond.methodLink K.1.cls idx Lib.Math.min.name ∈ aTb) (hcat : (st.map fun v => v.category).sum ≤ 8) :
    ∀ (Φ : aG → State → Prop) (g : aG) (d nf : Nat) (Q : Option Value → aH → Prop), 1 ≤ d → AW Φ g d K nf (pc + 3) lv (.int (if y < x then y else x) :: st) h Q → AW Φ g d K nf pc lv (.int y :: .int x :: st) h Q := by
  intro Φ g d nf Q hd1 k p l e R s m args below meth c H locs n0 ls hΦ C hR hr hS h1 h2 hl
  have hts := C.2.2.2.2.2.2.2.1
  have m1 := aS_mono h1
  have m2 := aS_mono h2
  refine va_mmin (own := K.1.cls) C.1 C.2.1 (C.2.2.1.trans hl.1.symm) C.2.2.2.2.2.2.1 (hts _ hw) (hts _ ms_J9_min_7cf53.2) (hts _ wi_J9) (hts _ wc_min) (by omega) (by rw [cv_sum]; omega) (by omega) (by omega) hd (k p l e R s m args below meth c H locs n0 ls hΦ C hR hr hS h1 h2 hl)
theorem ao_mmin {Φ : aG → State → Prop} {ρ : Type} {E : ρ → Option Value} {d : Nat} {o : Option (ρ × aH)} {K : aM} {pc idx : Nat} {lv : List (Option Value)} {st : List Value} {h : aH} {x y : Int32} (hd : decode K.2.1 pc = .ok (.invokestatic idx, 3)) (hw : Cond.methodLink K.1.cls idx Lib.Math.min.name ∈ aTb) (hcat : (st.map fun v => v.category).sum ≤ 8) (hdd : 1 ≤ d) (kk : AOx Φ E d K (pc + 3) lv (.int (if y < x then y else x) :: st) h o) : AOx Φ E d K pc lv (.int y :: .int x :: st) h o := by
  intro g r h' e hN
  obtain ⟨a, b⟩ := kk g r h' e hN
  exact ⟨a, st_mmin hd hw hcat Φ g d aNN _ hdd b⟩
theorem pn_X0 : plainName RX0 = true := by decide +kernel
theorem pn_X1 : plainName RX1 = true := by decide +kernel
theorem pn_X2 : plainName RX2 = true := by decide +kernel
theorem pn_X3 : plainName RX3 = true := by decide +kernel
theorem pn_X4 : plainName RX4 = true := by decide +kernel
theorem pn_X5 : plainName RX5 = true := by decide +kernel
theorem pn_X6 : plainName RX6 = true := by decide +kernel
theorem pn_X7 : plainName RX7 = true := by decide +kernel
theorem pn_X8 : plainName RX8 = true := by decide +kernel
theorem pn_X9 : plainName RX9 = true := by decide +kernel
theorem pn_X10 : plainName RX10 = true := by decide +kernel
theorem pn_X11 : plainName RX11 = true := by decide +kernel
theorem pn_X12 : plainName RX12 = true := by decide +kernel
theorem pn_J6 : plainName RJ6 = true := by decide +kernel
theorem pn_J13 : plainName RJ13 = true := by decide +kernel
theorem pn_J0 : plainName RJ0 = true := by decide +kernel
theorem pn_J1 : plainName RJ1 = true := by decide +kernel
theorem pn_J2 : plainName RJ2 = true := by decide +kernel
theorem pn_J10 : plainName RJ10 = true := by decide +kernel
theorem pn_J3 : plainName RJ3 = true := by decide +kernel
theorem pn_L : plainName RL = true := by decide +kernel
theorem cp_4 (m : Nat) (h : 4 ≤ m) : (0 : Int32).toNatClampNeg + (4 : Int32).toNatClampNeg ≤ m := by
  have e : (0 : Int32).toNatClampNeg + (4 : Int32).toNatClampNeg = 4 := by decide
  rw [e]; exact h
theorem cp_8 (m : Nat) (h : 8 ≤ m) : (0 : Int32).toNatClampNeg + (8 : Int32).toNatClampNeg ≤ m := by
  have e : (0 : Int32).toNatClampNeg + (8 : Int32).toNatClampNeg = 8 := by decide
  rw [e]; exact h
theorem cp_10 (m : Nat) (h : 10 ≤ m) : (0 : Int32).toNatClampNeg + (10 : Int32).toNatClampNeg ≤ m := by
  have e : (0 : Int32).toNatClampNeg + (10 : Int32).toNatClampNeg = 10 := by decide
  rw [e]; exact h
theorem cp_32 (m : Nat) (h : 32 ≤ m) : (0 : Int32).toNatClampNeg + (32 : Int32).toNatClampNeg ≤ m := by
  have e : (0 : Int32).toNatClampNeg + (32 : Int32).toNatClampNeg = 32 := by decide
  rw [e]; exact h
