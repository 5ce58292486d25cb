/-- a branch -/
def aBr (K : aM) (pc : Nat) (lv : List (Option Value)) (st0 : List Value) (h : aH) (c : Prop) (tgt nx : Nat) (st : List Value) : Prop :=
  ∀ (Φ : aG → State → Prop) (g : aG) (d nf : Nat) (Q : Option Value → aH → Prop), (c → AW Φ g d K nf tgt lv st h Q) → (¬ c → AW Φ g d K nf nx lv st h Q) → AW Φ g d K nf pc lv st0 h Q
theorem br_if_eq {K : aM} {pc : Nat} {lv : List (Option Value)} {st : List Value} {h : aH} {x : Int32} {off : Int} {tgt : Nat} (hd : decode K.2.1 pc = .ok (.ifCond .eq off, 3)) (ht : (pc : Int) + off = (tgt : Int)) : aBr K pc lv (.int x :: st) h (x = 0) tgt (pc + 3) st := by
  intro Φ g d nf Q k1 k2 p l e R s m args below meth c H locs n0 ls hΦ C hR hr hS h1 h2 hl
  exact lv_if_eq C.1 C.2.1 hd ht (fun q => (k1 q p l e R s m args below meth c H locs n0 ls hΦ C hR hr hS h1 h2 hl)) (fun q => (k2 q p l e R s m args below meth c H locs n0 ls hΦ C hR hr hS h1 h2 hl))
theorem br_icmp_eq {K : aM} {pc : Nat} {lv : List (Option Value)} {st : List Value} {h : aH} {x y : Int32} {off : Int} {tgt : Nat} (hd : decode K.2.1 pc = .ok (.if_icmp .eq off, 3)) (ht : (pc : Int) + off = (tgt : Int)) : aBr K pc lv (.int y :: .int x :: st) h (x = y) tgt (pc + 3) st := by
  intro Φ g d nf Q k1 k2 p l e R s m args below meth c H locs n0 ls hΦ C hR hr hS h1 h2 hl
  exact lv_icmp_eq C.1 C.2.1 hd ht (fun q => (k1 q p l e R s m args below meth c H locs n0 ls hΦ C hR hr hS h1 h2 hl)) (fun q => (k2 q p l e R s m args below meth c H locs n0 ls hΦ C hR hr hS h1 h2 hl))
theorem br_if_lt {K : aM} {pc : Nat} {lv : List (Option Value)} {st : List Value} {h : aH} {x : Int32} {off : Int} {tgt : Nat} (hd : decode K.2.1 pc = .ok (.ifCond .lt off, 3)) (ht : (pc : Int) + off = (tgt : Int)) : aBr K pc lv (.int x :: st) h (x < 0) tgt (pc + 3) st := by
  intro Φ g d nf Q k1 k2 p l e R s m args below meth c H locs n0 ls hΦ C hR hr hS h1 h2 hl
  exact lv_if_lt C.1 C.2.1 hd ht (fun q => (k1 q p l e R s m args below meth c H locs n0 ls hΦ C hR hr hS h1 h2 hl)) (fun q => (k2 q p l e R s m args below meth c H locs n0 ls hΦ C hR hr hS h1 h2 hl))
theorem br_icmp_lt {K : aM} {pc : Nat} {lv : List (Option Value)} {st : List Value} {h : aH} {x y : Int32} {off : Int} {tgt : Nat} (hd : decode K.2.1 pc = .ok (.if_icmp .lt off, 3)) (ht : (pc : Int) + off = (tgt : Int)) : aBr K pc lv (.int y :: .int x :: st) h (x < y) tgt (pc + 3) st := by
  intro Φ g d nf Q k1 k2 p l e R s m args below meth c H locs n0 ls hΦ C hR hr hS h1 h2 hl
  exact lv_icmp_lt C.1 C.2.1 hd ht (fun q => (k1 q p l e R s m args below meth c H locs n0 ls hΦ C hR hr hS h1 h2 hl)) (fun q => (k2 q p l e R s m args below meth c H locs n0 ls hΦ C hR hr hS h1 h2 hl))
theorem br_if_ge {K : aM} {pc : Nat} {lv : List (Option Value)} {st : List Value} {h : aH} {x : Int32} {off : Int} {tgt : Nat} (hd : decode K.2.1 pc = .ok (.ifCond .ge off, 3)) (ht : (pc : Int) + off = (tgt : Int)) : aBr K pc lv (.int x :: st) h (0 ≤ x) tgt (pc + 3) st := by
  intro Φ g d nf Q k1 k2 p l e R s m args below meth c H locs n0 ls hΦ C hR hr hS h1 h2 hl
  exact lv_if_ge C.1 C.2.1 hd ht (fun q => (k1 q p l e R s m args below meth c H locs n0 ls hΦ C hR hr hS h1 h2 hl)) (fun q => (k2 q p l e R s m args below meth c H locs n0 ls hΦ C hR hr hS h1 h2 hl))
theorem br_icmp_ge {K : aM} {pc : Nat} {lv : List (Option Value)} {st : List Value} {h : aH} {x y : Int32} {off : Int} {tgt : Nat} (hd : decode K.2.1 pc = .ok (.if_icmp .ge off, 3)) (ht : (pc : Int) + off = (tgt : Int)) : aBr K pc lv (.int y :: .int x :: st) h (y ≤ x) tgt (pc + 3) st := by
  intro Φ g d nf Q k1 k2 p l e R s m args below meth c H locs n0 ls hΦ C hR hr hS h1 h2 hl
  exact lv_icmp_ge C.1 C.2.1 hd ht (fun q => (k1 q p l e R s m args below meth c H locs n0 ls hΦ C hR hr hS h1 h2 hl)) (fun q => (k2 q p l e R s m args below meth c H locs n0 ls hΦ C hR hr hS h1 h2 hl))
theorem br_if_gt {K : aM} {pc : Nat} {lv : List (Option Value)} {st : List Value} {h : aH} {x : Int32} {off : Int} {tgt : Nat} (hd : decode K.2.1 pc = .ok (.ifCond .gt off, 3)) (ht : (pc : Int) + off = (tgt : Int)) : aBr K pc lv (.int x :: st) h (0 < x) tgt (pc + 3) st := by
  intro Φ g d nf Q k1 k2 p l e R s m args below meth c H locs n0 ls hΦ C hR hr hS h1 h2 hl
  exact lv_if_gt C.1 C.2.1 hd ht (fun q => (k1 q p l e R s m args below meth c H locs n0 ls hΦ C hR hr hS h1 h2 hl)) (fun q => (k2 q p l e R s m args below meth c H locs n0 ls hΦ C hR hr hS h1 h2 hl))
theorem br_icmp_gt {K : aM} {pc : Nat} {lv : List (Option Value)} {st : List Value} {h : aH} {x y : Int32} {off : Int} {tgt : Nat} (hd : decode K.2.1 pc = .ok (.if_icmp .gt off, 3)) (ht : (pc : Int) + off = (tgt : Int)) : aBr K pc lv (.int y :: .int x :: st) h (y < x) tgt (pc + 3) st := by
  intro Φ g d nf Q k1 k2 p l e R s m args below meth c H locs n0 ls hΦ C hR hr hS h1 h2 hl
  exact lv_icmp_gt C.1 C.2.1 hd ht (fun q => (k1 q p l e R s m args below meth c H locs n0 ls hΦ C hR hr hS h1 h2 hl)) (fun q => (k2 q p l e R s m args below meth c H locs n0 ls hΦ C hR hr hS h1 h2 hl))
theorem br_if_le {K : aM} {pc : Nat} {lv : List (Option Value)} {st : List Value} {h : aH} {x : Int32} {off : Int} {tgt : Nat} (hd : decode K.2.1 pc = .ok (.ifCond .le off, 3)) (ht : (pc : Int) + off = (tgt : Int)) : aBr K pc lv (.int x :: st) h (x ≤ 0) tgt (pc + 3) st := by
  intro Φ g d nf Q k1 k2 p l e R s m args below meth c H locs n0 ls hΦ C hR hr hS h1 h2 hl
  exact lv_if_le C.1 C.2.1 hd ht (fun q => (k1 q p l e R s m args below meth c H locs n0 ls hΦ C hR hr hS h1 h2 hl)) (fun q => (k2 q p l e R s m args below meth c H locs n0 ls hΦ C hR hr hS h1 h2 hl))
theorem br_icmp_le {K : aM} {pc : Nat} {lv : List (Option Value)} {st : List Value} {h : aH} {x y : Int32} {off : Int} {tgt : Nat} (hd : decode K.2.1 pc = .ok (.if_icmp .le off, 3)) (ht : (pc : Int) + off = (tgt : Int)) : aBr K pc lv (.int y :: .int x :: st) h (x ≤ y) tgt (pc + 3) st := by
  intro Φ g d nf Q k1 k2 p l e R s m args below meth c H locs n0 ls hΦ C hR hr hS h1 h2 hl
  exact lv_icmp_le C.1 C.2.1 hd ht (fun q => (k1 q p l e R s m args below meth c H locs n0 ls hΦ C hR hr hS h1 h2 hl)) (fun q => (k2 q p l e R s m args below meth c H locs n0 ls hΦ C hR hr hS h1 h2 hl))
theorem br_if_ne {K : aM} {pc : Nat} {lv : List (Option Value)} {st : List Value} {h : aH} {x : Int32} {off : Int} {tgt : Nat} (hd : decode K.2.1 pc = .ok (.ifCond .ne off, 3)) (ht : (pc : Int) + off = (tgt : Int)) : aBr K pc lv (.int x :: st) h (x = 0) (pc + 3) tgt st := by
  intro Φ g d nf Q k1 k2 p l e R s m args below meth c H locs n0 ls hΦ C hR hr hS h1 h2 hl
  exact lv_if_ne C.1 C.2.1 hd ht (fun q => (k2 q p l e R s m args below meth c H locs n0 ls hΦ C hR hr hS h1 h2 hl)) (fun q => (k1 q p l e R s m args below meth c H locs n0 ls hΦ C hR hr hS h1 h2 hl))
theorem br_icmp_ne {K : aM} {pc : Nat} {lv : List (Option Value)} {st : List Value} {h : aH} {x y : Int32} {off : Int} {tgt : Nat} (hd : decode K.2.1 pc = .ok (.if_icmp .ne off, 3)) (ht : (pc : Int) + off = (tgt : Int)) : aBr K pc lv (.int y :: .int x :: st) h (x = y) (pc + 3) tgt st := by
  intro Φ g d nf Q k1 k2 p l e R s m args below meth c H locs n0 ls hΦ C hR hr hS h1 h2 hl
  exact lv_icmp_ne C.1 C.2.1 hd ht (fun q => (k2 q p l e R s m args below meth c H locs n0 ls hΦ C hR hr hS h1 h2 hl)) (fun q => (k1 q p l e R s m args below meth c H locs n0 ls hΦ C hR hr hS h1 h2 hl))
theorem st_nnull {K : aM} {pc : Nat} {lv : List (Option Value)} {st : List Value} {h : aH} {x : Nat} {off : Int} {tgt : Nat} (hd : decode K.2.1 pc = .ok (.ifnonnull off, 3)) (ht : (pc : Int) + off = (tgt : Int)) : aStp K pc lv (.ref x :: st) h tgt lv st h := by
  intro Φ g d nf Q k p l e R s m args below meth c H locs n0 ls hΦ C hR hr hS h1 h2 hl
  exact lv_ifnonnull C.1 C.2.1 hd ht (k p l e R s m args below meth c H locs n0 ls hΦ C hR hr hS h1 h2 hl)
theorem st_nnullN {K : aM} {pc : Nat} {lv : List (Option Value)} {st : List Value} {h : aH} {off : Int} (hd : decode K.2.1 pc = .ok (.ifnonnull off, 3)) : aStp K pc lv (.null :: st) h (pc + 3) lv st h := by
  intro Φ g d nf Q k p l e R s m args below meth c H locs n0 ls hΦ C hR hr hS h1 h2 hl
  exact lv_ifnonnullN C.1 C.2.1 hd (k p l e R s m args below meth c H locs n0 ls hΦ C hR hr hS h1 h2 hl)
theorem st_tabIn {K : aM} {pc : Nat} {lv : List (Option Value)} {st : List Value} {h : aH} {dflt lo hi : Int} {offs : Array Int} {len : Nat} {x v : Int32} {off : Int} {tgt : Nat} (hx : x = v) (hd : decode K.2.1 pc = .ok (.tableswitch dflt lo hi offs, len)) (h1' : ¬ v.toInt < lo ∧ ¬ hi < v.toInt ∧ offs[(v.toInt - lo).toNat]? = some off) (ht : (pc : Int) + off = (tgt : Int)) : aStp K pc lv (.int x :: st) h tgt lv st h := by
  intro Φ g d nf Q k p l e R s m args below meth c H locs n0 ls hΦ C hR hr hS h1 h2 hl
  subst hx
  exact lv_tableIn C.1 C.2.1 hd h1'.1 h1'.2.1 h1'.2.2 ht (k p l e R s m args below meth c H locs n0 ls hΦ C hR hr hS h1 h2 hl)
theorem st_tabOut {K : aM} {pc : Nat} {lv : List (Option Value)} {st : List Value} {h : aH} {dflt lo hi : Int} {offs : Array Int} {len : Nat} {x : Int32} {tgt : Nat} (hd : decode K.2.1 pc = .ok (.tableswitch dflt lo hi offs, len)) (h' : x.toInt < lo ∨ hi < x.toInt) (ht : (pc : Int) + dflt = (tgt : Int)) : aStp K pc lv (.int x :: st) h tgt lv st h := by
  intro Φ g d nf Q k p l e R s m args below meth c H locs n0 ls hΦ C hR hr hS h1 h2 hl
  exact lv_tableOut C.1 C.2.1 hd h' ht (k p l e R s m args below meth c H locs n0 ls hΦ C hR hr hS h1 h2 hl)
theorem st_look {K : aM} {pc : Nat} {lv : List (Option Value)} {st : List Value} {h : aH} {dflt : Int} {ps : Array (Int × Int)} {len : Nat} {x : Int32} {off : Int} {tgt : Nat} (hd : decode K.2.1 pc = .ok (.lookupswitch dflt ps, len)) (hp : (ps.toList.zip (ps.toList.drop 1)).all (fun (a, next) => a.1 < next.1) = true) (ho : Op.lookupswitch.offset ps.toList dflt x.toInt = off) (ht : (pc : Int) + off = (tgt : Int)) : aStp K pc lv (.int x :: st) h tgt lv st h := by
  intro Φ g d nf Q k p l e R s m args below meth c H locs n0 ls hΦ C hR hr hS h1 h2 hl
  exact lv_lookup C.1 C.2.1 hd hp ho ht (k p l e R s m args below meth c H locs n0 ls hΦ C hR hr hS h1 h2 hl)
theorem aw_ir {Φ : aG → State → Prop} {g : aG} {d : Nat} {K : aM} {pc : Nat} {lv : List (Option Value)} {h : aH} {x : Int32} {ty : FieldType} {Q : Option Value → aH → Prop} (hd : decode K.2.1 pc = .ok (.ireturn, 1)) (hty : K.2.2.2 = some ty) (hn : narrow ty (.int x) = .int x) (hq : Q (some (.int x)) h) : AW Φ g d K h.1 pc lv [.int x] h Q := by
  intro p l e R s m args below meth c H locs n0 ls hΦ C hR hr hS h1 h2 hl
  exact W.zret C.1 C.2.1 (C.2.2.2.1.trans hty) hn (fun t ht hW => ⟨⟨some (.int x), h, rfl, hq, rfl, by rw [ht]; exact hr⟩, hS.F ht⟩) hS.2.2 hd C.2.2.2.2.2.1
theorem aw_lr {Φ : aG → State → Prop} {g : aG} {d : Nat} {K : aM} {pc : Nat} {lv : List (Option Value)} {h : aH} {x : Int64} {Q : Option Value → aH → Prop} (hd : decode K.2.1 pc = .ok (.lreturn, 1)) (hty : K.2.2.2 = some .long) (hq : Q (some (.long x)) h) : AW Φ g d K h.1 pc lv [.long x] h Q := by
  intro p l e R s m args below meth c H locs n0 ls hΦ C hR hr hS h1 h2 hl
  exact W.lret C.1 C.2.1 (C.2.2.2.1.trans hty) (fun t ht hW => ⟨⟨some (.long x), h, rfl, hq, rfl, by rw [ht]; exact hr⟩, hS.F ht⟩) hS.2.2 hd C.2.2.2.2.2.1
theorem aw_vr {Φ : aG → State → Prop} {g : aG} {d : Nat} {K : aM} {pc : Nat} {lv : List (Option Value)} {h : aH} {Q : Option Value → aH → Prop} (hd : decode K.2.1 pc = .ok (.return_, 1)) (hty : K.2.2.2 = none) (hq : Q (none) h) : AW Φ g d K h.1 pc lv [] h Q := by
  intro p l e R s m args below meth c H locs n0 ls hΦ C hR hr hS h1 h2 hl
  exact W.vret C.1 C.2.1 (C.2.2.2.1.trans hty) (fun t ht hW => ⟨⟨none, h, rfl, hq, rfl, by rw [ht]; exact hr⟩, hS.F ht⟩) hS.2.2 hd C.2.2.2.2.2.1
theorem aw_ar {Φ : aG → State → Prop} {g : aG} {d : Nat} {K : aM} {pc : Nat} {lv : List (Option Value)} {h : aH} {r : Option Nat} {nm : String} {Q : Option Value → aH → Prop} (hd : decode K.2.1 pc = .ok (.areturn, 1)) (hty : K.2.2.2 = some (.object nm)) (hq : Q (some (va_rf r)) h) : AW Φ g d K h.1 pc lv [va_rf r] h Q := by
  intro p l e R s m args below meth c H locs n0 ls hΦ C hR hr hS h1 h2 hl
  refine W.aret C.1 C.2.1 (C.2.2.2.1.trans hty) (Or.inl ⟨nm, rfl⟩) ?_ (fun t ht hW => ⟨⟨some (va_rf r), h, rfl, hq, rfl, by rw [ht]; exact hr⟩, hS.F ht⟩) hS.2.2 hd C.2.2.2.2.2.1
  cases r with
  | none => exact Or.inl rfl
  | some a => exact Or.inr ⟨_, rfl⟩
/-- what the tables say of a method -/
def aMI (Kc : aM) (n : Nat) : Prop := Cond.initialized Kc.1.cls ∈ aTb ∧ Cond.code Kc.1 Kc.2.1 Kc.2.2.1 Kc.2.2.2 ∈ aTb ∧ Kc.1.cls ≠ "java/lang/invoke/MethodHandle" ∧ Kc.1.cls ≠ "java/lang/invoke/VarHandle" ∧ (parseMethodDescriptor Kc.1.desc).map (fun d => d.parameters.length) = some n ∧ Kc.2.2.1 ≤ 45
def aMV (Kc : aM) (n : Nat) : Prop := aMI Kc n ∧ Cond.instanceMethod Kc.1 ∈ aTb ∧ Cond.selects Kc.1.cls Kc.1 Kc.1 ∈ aTb
def aMS (Kc : aM) (n : Nat) : Prop := aMI Kc n ∧ Cond.static Kc.1 ∈ aTb
theorem aCode_good {Kc : aM} {n : Nat} (h : aMI Kc n) : GoodIn aTb (Cond.code Kc.1 Kc.2.1 Kc.2.2.1 Kc.2.2.2 :: aTb) := fun w hw => by
  rcases List.mem_cons.mp hw with rfl | hw
  · exact aTb_good _ h.2.1
  · exact aTb_good _ hw
theorem aCat {g : aG} {st : List Value} {m : MethodId} {pc : Nat} {ls : Array Slot} {rest : List Value} (h : (st.map fun v => v.category).sum ≤ 8) : 2 * (F0 m pc ls rest).monitorRoom + (((st.map (cv g)).map fun v => v.category)).sum ≤ 8 := lv_room (by rw [cv_sum]; exact h)
/-- the callee's start, out of the caller's state -/
theorem aPre {g : aG} {K : aM} {p : Program} {s : State} {m : MethodId} {args : Array Value} {meth : Method} {c : Code} {h : aH} {H : Heap} {locs : List Loc} (C : aSC g K p s m args meth c) (r : aRep g h H) (hS : va_S (aA g) s.heap H locs) (U : State) (hU : U.heap = H) (hW : s.WarmedH U.vm) : aRep g h U.heap ∧ aWK g U :=
  ⟨by rw [hU]; exact r, C.2.2.2.2.2.2.2.2.moved hW (by rw [hU]; exact hS.1) (fun q h1 h2 => by rw [hU]; exact hS.2.1 q h1 h2)⟩
theorem aBlind {g : aG} {as : List Value} {h : aH} : FrameBlind (va_Pc as (fun U => aRep g h U.heap ∧ aWK g U)) := fun a U f mk q => ⟨q.1, q.2.1, q.2.2.calling f mk a⟩
/-- behind a call -/
theorem aBack {Φ : aG → State → Prop} {g : aG} {d : Nat} {K : aM} {nf nf' pc : Nat} {lv : List (Option Value)} {st : List Value} {h : aH} {Q Qc : Option Value → aH → Prop} (kk : ∀ (r : Option Value) (h' : aH), Qc r h' → h'.1 = nf' → AW Φ g d K nf (pc + 3) lv (r.toList ++ st) h' Q) (hf : h.1 ≤ nf') (hf2 : nf' ≤ nf)
    {p : Program} {l : Launch} {e : Env} {R : Room} {s : State} {m : MethodId} {args : Array Value} {below : List Frame} {meth : Method} {c : Code} {H : Heap} {locs : List Loc} {n0 : Nat} {ls : Array Slot} {st0 : List Value} {a : Array Value} (hΦ : Φ g s) (C : aSC g K p s m args meth c) (hR : d ≤ R.frames ∧ 64 * d ≤ R.locals ∧ nf - n0 ≤ R.cells ∧ aS nf - aS n0 ≤ R.slots) (hS : va_S (aA g) s.heap H locs) (h1 : n0 ≤ h.1) (hl : aLV g ls K.2.2.1 lv)
    (hrun : va_Run p l e R s m args below meth c H locs (h.1 - n0) (aS h.1 - aS n0) (nf' - h.1) (aS nf' - aS h.1) (F0 m pc ls st0) (st.map (cv g)) (aQ g nf' Qc a) (aA g)) :
    W p l e R s m args below meth c H locs (h.1 - n0) (aS h.1 - aS n0) (MQ below (aQ g nf Q) args s (nf - n0) (aS nf - aS n0) (aA g)) (F0 m pc ls st0) := by
  intro T hT X
  obtain ⟨v, st₀, t, T', L, q0, X', hL, e1, e2, ⟨⟨r, h', hv, hq, hn, hr'⟩, hz, hk⟩, stp⟩ := hrun T hT X
  have hv' : v = r.map (cv g) := by cases hv; rfl
  subst hv'
  rw [q0] at hz hk
  have c1 : h.1 - n0 + (nf' - h.1) = h'.1 - n0 := by omega
  have m1 := aS_mono h1
  have m2 := aS_mono hf
  have c2 : aS h.1 - aS n0 + (aS nf' - aS h.1) = aS h'.1 - aS n0 := by rw [hn]; omega
  rw [c1, c2] at X'
  have w := kk r h' hq hn p l e R s m args below meth c T'.heap (locs ++ L) n0 ls hΦ C hR (by rw [e1]; exact hr') ⟨Nat.le_trans hS.1 (by rw [e1]; exact hz), fun q g1 g2 => by
      rw [e1, hk q (Nat.lt_of_lt_of_le g1 hS.1) g2]; exact hS.2.1 q g1 g2, fun q hq => by
      rcases List.mem_append.mp hq with hq | hq
      · exact hS.2.2 q hq
      · exact hL q hq⟩ (by omega) (by omega) hl
  have es : (r.toList ++ st).map (cv g) = (r.map (cv g)).toList ++ st.map (cv g) := by cases r <;> rfl
  rw [es] at w
  obtain ⟨t2, a1, b1⟩ := w T' rfl X'
  exact ⟨t2, stp t2 a1, b1⟩
theorem aRoomOk {d d' mL c s : Nat} {R : Room} (hd : d' + 1 ≤ d) (hm : mL ≤ 45) (h1 : d ≤ R.frames) (h2 : 64 * d ≤ R.locals) : (aRoom d' c s).frames + 1 ≤ R.frames ∧ 8 + (mL + 11) + (aRoom d' c s).locals ≤ R.locals := by
  show d' + 1 ≤ R.frames ∧ 8 + (mL + 11) + 64 * d' ≤ R.locals
  omega
theorem aw_callV {Φ : aG → State → Prop} {g : aG} {d d' nf nf' n : Nat} {K Kc : aM} {pc idx ci b : Nat} {lv : List (Option Value)} {st st0 As : List Value} {h : aH} {Q Qc : Option Value → aH → Prop} (hd : decode K.2.1 pc = .ok (.invokevirtual idx, 3)) (hw : Cond.methodLink K.1.cls idx Kc.1 ∈ aTb) (hm : aMV Kc n) (hn : As.length = n) (hb : b < h.1) (hs : (sh b).1 = ci + 7) (hc : ci < 13) (hcl : cRn ci = Kc.1.cls) (hst : st0 = As.reverse ++ .ref b :: st) (hcat : (st.map fun v => v.category).sum ≤ 8) (hdd : d' + 1 ≤ d) (hf2 : nf' ≤ nf)
    (hM : aSp g d' Kc nf' (.ref b :: As) h Qc) (kk : ∀ (r : Option Value) (h' : aH), Qc r h' → h'.1 = nf' → AW Φ g d K nf (pc + 3) lv (r.toList ++ st) h' Q) : AW Φ g d K nf pc lv st0 h Q := by
  intro p l e R s m args below meth c H locs n0 ls hΦ C hR hr hS h1 h2 hl
  have hts := C.2.2.2.2.2.2.2.1
  have m1 := aS_mono h1
  have m2 := aS_mono hM.1
  have m3 := aS_mono hf2
  have hf1 := hM.1
  obtain ⟨⟨i1, i2, i3, i4, i5, i6⟩, i7, i8⟩ := hm
  have hP := hr.P hb (aE_obj (ci := ci) hs)
  have hrec := va_recv C.2.2.2.2.2.2.2.2.2.1 hP (ci := ci) (q0 := 0) (acl_at ci hc) rfl
  have hG : GoodIn aTb (wsV K.1.cls idx Kc.1.cls Kc.1 (Cond.code Kc.1 Kc.2.1 Kc.2.2.1 Kc.2.2.2 :: aTb)) := fun w hw' => by
    rcases List.mem_append.mp hw' with q | q
    · simp only [List.mem_cons, List.not_mem_nil, or_false] at q
      rcases q with rfl | rfl | rfl | rfl
      · exact aTb_good _ hw
      · exact aTb_good _ i7
      · exact aTb_good _ i8
      · exact aTb_good _ i1
    · exact aCode_good ⟨i1, i2, i3, i4, i5, i6⟩ w q
  have hal := C.al hr hb
  refine aBack kk hM.1 hf2 hΦ C hR hS h1 hl (a := (Value.ref (g.2.1 b) :: As.map (cv g)).toArray) ?_
  refine va_runV (As := As.map (cv g)) (b := g.2.1 b) (C := Kc.1.cls) (n := n) ⟨C.1, C.2.1, C.2.2.1, C.2.2.2.2.2.2.1, hts⟩ (hM.2 l) (cwV n hts hG rfl rfl rfl ⟨rfl, i3, i4, i5⟩ (aRoomOk hdd i6 hR.1 hR.2.1)) ⟨aBlind, by rw [hal, ← hcl]; exact hrec, fun U hU hW => ⟨rfl, aPre C hr hS U hU hW⟩⟩ rfl (by rw [List.length_map]; exact hn) hl.1 ?_ (aCat hcat) hd ?_
  · show st0.map (cv g) = _
    rw [hst, List.map_append, List.map_reverse]
    rfl
  · constructor
    · have := hR.2.2.1; omega
    · have := hR.2.2.2; omega
theorem aw_callS {Φ : aG → State → Prop} {g : aG} {d d' nf nf' n : Nat} {K Kc : aM} {pc idx : Nat} {lv : List (Option Value)} {st st0 As : List Value} {h : aH} {Q Qc : Option Value → aH → Prop} (hd : decode K.2.1 pc = .ok (.invokestatic idx, 3)) (hw : Cond.methodLink K.1.cls idx Kc.1 ∈ aTb) (hm : aMS Kc n) (hn : As.length = n) (hst : st0 = As.reverse ++ st) (hcat : (st.map fun v => v.category).sum ≤ 8) (hdd : d' + 1 ≤ d) (hf2 : nf' ≤ nf)
    (hM : aSp g d' Kc nf' As h Qc) (kk : ∀ (r : Option Value) (h' : aH), Qc r h' → h'.1 = nf' → AW Φ g d K nf (pc + 3) lv (r.toList ++ st) h' Q) : AW Φ g d K nf pc lv st0 h Q := by
  intro p l e R s m args below meth c H locs n0 ls hΦ C hR hr hS h1 h2 hl
  have hts := C.2.2.2.2.2.2.2.1
  have m1 := aS_mono h1
  have m2 := aS_mono hM.1
  have m3 := aS_mono hf2
  have hf1 := hM.1
  obtain ⟨hI, i7⟩ := hm
  have i6 := hI.2.2.2.2.2
  refine aBack kk hM.1 hf2 hΦ C hR hS h1 hl (a := (As.map (cv g)).toArray) ?_
  refine va_runS (As := As.map (cv g)) (n := n) ⟨C.1, C.2.1, C.2.2.1, C.2.2.2.2.2.2.1, hts⟩ (hM.2 l) ⟨callB_of n hts (aCode_good hI) rfl rfl rfl (hts _ hI.1) (hts _ hw) ⟨hI.2.2.1, hI.2.2.2.1, hI.2.2.2.2.1⟩ (aRoomOk hdd i6 hR.1 hR.2.1), hts _ i7⟩ ⟨aBlind, fun U hU hW => ⟨rfl, aPre C hr hS U hU hW⟩⟩ rfl (by rw [List.length_map]; exact hn) hl.1 ?_ (aCat hcat) hd ?_
  · show st0.map (cv g) = _
    rw [hst, List.map_append, List.map_reverse]
  · constructor
    · have := hR.2.2.1; omega
    · have := hR.2.2.2; omega

theorem st_copy {K : aM} {pc : Nat} {lv : List (Option Value)} {st : List Value} {h : aH} {idx a0 a1 : Nat} {sp dp n : Int32} (hd : decode K.2.1 pc = .ok (.invokestatic idx, 3)) (hw : Cond.methodLink K.1.cls idx arraycopyName ∈ aTb ∧ Cond.native arraycopyName ∈ aTb ∧ Cond.static arraycopyName ∈ aTb ∧ Cond.initialized "java/lang/System" ∈ aTb) (ha0 : a0 < h.1) (hs0 : (sh a0).1 = 0) (ha1 : a1 < h.1) (hs1 : (sh a1).1 = 0)
    (hb : ¬ sp < 0 ∧ ¬ dp < 0 ∧ ¬ n < 0 ∧ sp.toNatClampNeg + n.toNatClampNeg ≤ (sh a0).2 ∧ dp.toNatClampNeg + n.toNatClampNeg ≤ (sh a1).2) (hcat : (st.map fun v => v.category).sum ≤ 8) :
    ∀ (Φ : aG → State → Prop) (g : aG) (d nf : Nat) (Q : Option Value → aH → Prop), 1 ≤ d → AW Φ g d K nf (pc + 3) lv st (wI h a1 (va_cpy (hI h a0) (hI h a1) sp.toNatClampNeg dp.toNatClampNeg n.toNatClampNeg)) Q → AW Φ g d K nf pc lv (.int n :: .int dp :: .ref a1 :: .int sp :: .ref a0 :: st) h Q := by
  intro Φ g d nf Q hd1 k p l e R s m args below meth c H locs n0 ls hΦ C hR hr hS h1 h2 hl
  have hts := C.2.2.2.2.2.2.2.1
  obtain ⟨w1, w2, w3, w4⟩ := hw
  obtain ⟨b1, b2, b3, b4, b5⟩ := hb
  have nn : ∀ z : Int32, ¬ z < 0 → z.toInt = (z.toNatClampNeg : Int) := by
    intro z hz
    have hz0 : (0 : Int) ≤ z.toInt := by
      have := Int32.not_lt.mp hz
      simpa using Int32.le_iff_toInt_le.mp this
    show z.toInt = ((z.toInt.toNat : Nat) : Int)
    omega
  have hc0 : H[g.1 + a0]? = some (arrV (g.2.2.2.1 0) (sh a0).2 (fun j => .int (hI h a0 j))) := by
    have := hr.2.2 a0 ha0
    rw [aE_0 hs0] at this
    exact this
  have hc1 : H[g.1 + a1]? = some (arrV (g.2.2.2.1 0) (sh a1).2 (fun j => .int (hI h a1 j))) := by
    have := hr.2.2 a1 ha1
    rw [aE_0 hs1] at this
    exact this
  have ht : (aTy g)[0]? = some (g.2.2.2.1 0, .int) := rfl
  show W p l e R s m args below meth c H locs (h.1 - n0) (aS h.1 - aS n0) (MQ below (aQ g nf Q) args s (nf - n0) (aS nf - aS n0) (aA g)) (F0 m pc ls (.int n :: .int dp :: .ref (g.2.1 a1) :: .int sp :: .ref (g.2.1 a0) :: st.map (cv g)))
  rw [C.al hr ha0, C.al hr ha1]
  intro T hT X
  obtain ⟨-, k0, hk0, cm0, hkk0⟩ := (C.2.2.2.2.2.2.2.2.2.1.2 0 _ ht).1 (sh a0).2 (fun j => .int (hI h a0 j))
  obtain ⟨-, k1, hk1, cm1, hkk1⟩ := (C.2.2.2.2.2.2.2.2.2.1.2 0 _ ht).1 (sh a1).2 (fun j => .int (hI h a1 j))
  obtain ⟨vm', X', step⟩ := X.arraycopy C.1 C.2.2.2.2.2.2.1 (hts _ w1) (hts _ w2) (hts _ w3) (hts _ w4) (by rw [hT]; exact hc0) (by rw [hT]; exact hc1) (fun _ q => by cases q) (fun _ q => by cases q) (fun q => by cases q) (fun q => by cases q) hk0 hk1 hkk0 hkk1 (by simp [refKind]) b1 b2 b3
    (by rw [nn sp b1, nn n b3, arrV_size]; omega) (by rw [nn dp b2, nn n b3, arrV_size]; omega)
    (fun vm₁ _ i hi => by
      have e : (arrV (g.2.2.2.1 0) (sh a0).2 (fun j => Value.int (hI h a0 j))).slots.getD (sp.toNatClampNeg + i) .null = .int (hI h a0 (sp.toNatClampNeg + i)) := by
        rw [Array.getD_eq_getD_getElem?, arrV_read _ _ (by omega)]
        rfl
      rw [e]
      exact ⟨rfl, trivial⟩)
    (g := F0 m pc ls (.int n :: .int dp :: .ref (g.1 + a1) :: .int sp :: .ref (g.1 + a0) :: st.map (cv g))) rfl (by rw [C.2.2.1]; exact hl.1) (rest := st.map (cv g)) rfl (by rw [C.2.1]; exact hd) (by omega) (by
      have e : nativeFrameWords "java/lang/System" "arraycopy" 5 ≤ 40 := by decide +kernel
      have e2 := cv_sum g st
      have e3 : (F0 m pc ls (.int n :: .int dp :: .ref (g.1 + a1) :: .int sp :: .ref (g.1 + a0) :: st.map (cv g))).monitorRoom = 0 := rfl
      rw [e3, e2]
      omega)
  have e1 : copied (arrV (g.2.2.2.1 0) (sh a0).2 (fun j => .int (hI h a0 j))) (arrV (g.2.2.2.1 0) (sh a1).2 (fun j => .int (hI h a1 j))) sp dp n = arrV (g.2.2.2.1 0) (sh a1).2 (fun j => .int (va_cpy (hI h a0) (hI h a1) sp.toNatClampNeg dp.toNatClampNeg n.toNatClampNeg j)) := va_copied (fun z => .int z) _ _ (hI h a0) (hI h a1) b4
  rw [e1] at X' step
  have hlt : g.1 + a1 < H.size := (Array.getElem?_eq_some_iff.mp hc1).1
  have hheap : ∀ cl : Cell, ((T.setVm vm').setCell (g.1 + a1) cl).heap = H.setIfInBounds (g.1 + a1) cl := fun cl => by rw [← hT]; rfl
  have oq : ∀ (cl : Cell) (q : Nat), q ≠ g.1 + a1 → (H.setIfInBounds (g.1 + a1) cl)[q]? = H[q]? := fun cl q hq => by simp [Array.getElem?_setIfInBounds, Ne.symm hq]
  obtain ⟨t, q1, q2⟩ := k p l e R s m args below meth c _ _ n0 ls hΦ C hR (hr.set (H1 := H.setIfInBounds (g.1 + a1) _) rfl (fun b hb => aE_wI b hb) (by
      rw [aE_0 hs1]
      show (H.setIfInBounds (g.1 + a1) _)[g.1 + a1]? = some (vp_cell (g.2.2.2.1 0) ((sh a1).2, .inl (hI (wI h a1 (va_cpy (hI h a0) (hI h a1) sp.toNatClampNeg dp.toNatClampNeg n.toNatClampNeg)) a1)))
      rw [vp_cell_i, hI_wI, if_pos rfl]
      simp only [Array.getElem?_setIfInBounds, hlt, if_true]) (by simp) (oq _)) ⟨by simp; exact hS.1, fun q g1 g2 => by
      rw [oq _ q (fun e => g2 (by rw [e]; show g.1 ≤ g.1 + a1; omega))]
      exact hS.2.1 q g1 g2, fun q hq => by
      rcases List.mem_append.mp hq with hq | hq
      · exact hS.2.2 q hq
      · obtain ⟨z, -, hz⟩ := List.mem_map.mp hq
        rw [← hz]
        show g.1 ≤ g.1 + a1
        omega⟩ h1 h2 hl _ (hheap _) X'
  exact ⟨t, step t q1, q2⟩

/-! ===== functions: AO: if the function answers, the machine goes to that answer ===== -/
def eI : Int32 → Option Value := fun x => some (.int x)
def eL : Int64 → Option Value := fun x => some (.long x)
def eV : Unit → Option Value := fun _ => none
def eQ : Option Nat → Option Value := fun r => some (va_rf r)
def eN : Nat → Option Value := fun a => some (.ref a)
def AOx (Φ : aG → State → Prop) {ρ : Type} (E : ρ → Option Value) (d : Nat) (K : aM) (pc : Nat) (lv : List (Option Value)) (st : List Value) (h : aH) (o : Option (ρ × aH)) : Prop :=
  ∀ (g : aG) (r : ρ) (h' : aH), o = some (r, h') → h.1 = aNN → h'.1 = aNN ∧ AW Φ g d K aNN pc lv st h (fun r2 h2 => r2 = E r ∧ h2 = h')
abbrev AO {ρ : Type} (E : ρ → Option Value) (d : Nat) (K : aM) (pc : Nat) (lv : List (Option Value)) (st : List Value) (h : aH) (o : Option (ρ × aH)) : Prop := AOx aTr E d K pc lv st h o
def SO {ρ : Type} (E : ρ → Option Value) (d : Nat) (K : aM) (as : List Value) (h : aH) (o : Option (ρ × aH)) : Prop :=
  ∀ (g : aG) (r : ρ) (h' : aH), o = some (r, h') → h.1 = aNN → h'.1 = aNN ∧ aSp g d K aNN as h (fun r2 h2 => r2 = E r ∧ h2 = h')
section AOS
variable {Φ : aG → State → Prop} {ρ : Type} {E : ρ → Option Value} {d : Nat} {K : aM} {pc : Nat} {lv : List (Option Value)} {st : List Value} {h : aH} {o : Option (ρ × aH)}
theorem so_of {as : List Value} {lv0 : List (Option Value)} (hy : plainName K.1.cls = true) (hl : (aEn as).length ≤ K.2.2.1) (he : aEnt as K.2.2.1 = lv0) (k : AO E d K 0 lv0 [] h o) : SO E d K as h o := by
  intro g r h' e hN
  obtain ⟨a, b⟩ := k g r h' e hN
  exact ⟨a, aSp_of (by rw [hN]; exact Nat.le_refl _) hy hl (by rw [he]; exact b)⟩
theorem ao_none : AOx Φ E d K pc lv st h none := fun g r h' e _ => by cases e
theorem ao_s {pc' : Nat} {lv' : List (Option Value)} {st' : List Value} {h2 : aH} (hs : aStp K pc lv st h pc' lv' st' h2) (k : AOx Φ E d K pc' lv' st' h2 o) (e1 : h2.1 = h.1 := by exact rfl) : AOx Φ E d K pc lv st h o := by
  intro g r h' e hN
  obtain ⟨a, b⟩ := k g r h' e (e1.trans hN)
  exact ⟨a, hs Φ g d aNN _ b⟩
/-- a step that asks for the number of cells -/
theorem ao_m {pc' : Nat} {lv' : List (Option Value)} {st' : List Value} {h2 : aH} (hs : h.1 = aNN → aStp K pc lv st h pc' lv' st' h2) (k : AOx Φ E d K pc' lv' st' h2 o) (e1 : h2.1 = h.1 := by exact rfl) : AOx Φ E d K pc lv st h o := by
  intro g r h' e hN
  obtain ⟨a, b⟩ := k g r h' e (e1.trans hN)
  exact ⟨a, hs hN Φ g d aNN _ b⟩
theorem ao_ite {c : Prop} [Decidable c] {o1 o2 : Option (ρ × aH)} (k1 : c → AOx Φ E d K pc lv st h o1) (k2 : ¬ c → AOx Φ E d K pc lv st h o2) : AOx Φ E d K pc lv st h (if c then o1 else o2) := by
  intro g r h' e hN
  by_cases hc : c
  · rw [if_pos hc] at e; exact k1 hc g r h' e hN
  · rw [if_neg hc] at e; exact k2 hc g r h' e hN
theorem ao_chk {c : Prop} [Decidable c] {o1 : Option (ρ × aH)} (k1 : c → AOx Φ E d K pc lv st h o1) : AOx Φ E d K pc lv st h (if c then o1 else none) := ao_ite k1 (fun _ => ao_none)
theorem ao_bnd {α : Type} {x : Option α} {f : α → Option (ρ × aH)} (k1 : ∀ b, x = some b → AOx Φ E d K pc lv st h (f b)) : AOx Φ E d K pc lv st h (x.bind f) := by
  intro g r h' e hN
  cases hx : x with
  | none => rw [hx] at e; cases e
  | some b => rw [hx] at e; exact k1 b hx g r h' e hN
theorem ao_br {c : Prop} [Decidable c] {o1 o2 : Option (ρ × aH)} {tgt nx : Nat} {st0 : List Value} (hb : aBr K pc lv st0 h c tgt nx st) (k1 : c → AOx Φ E d K tgt lv st h o1) (k2 : ¬ c → AOx Φ E d K nx lv st h o2) : AOx Φ E d K pc lv st0 h (if c then o1 else o2) := by
  intro g r h' e hN
  by_cases hc : c
  · rw [if_pos hc] at e
    obtain ⟨a, b⟩ := k1 hc g r h' e hN
    exact ⟨a, hb Φ g d aNN _ (fun _ => b) (fun q => absurd hc q)⟩
  · rw [if_neg hc] at e
    obtain ⟨a, b⟩ := k2 hc g r h' e hN
    exact ⟨a, hb Φ g d aNN _ (fun q => absurd q hc) (fun _ => b)⟩
end AOS
section AOR
variable {Φ : aG → State → Prop} {d : Nat} {K : aM} {pc : Nat} {lv : List (Option Value)} {st : List Value} {h : aH}
theorem ao_ir {x : Int32} {ty : FieldType} (hd : decode K.2.1 pc = .ok (.ireturn, 1)) (hty : K.2.2.2 = some ty) (hn : narrow ty (.int x) = .int x) : AOx Φ eI d K pc lv [.int x] h (some (x, h)) := by
  intro g r h' e hN
  cases e
  exact ⟨hN, hN ▸ aw_ir hd hty hn ⟨rfl, rfl⟩⟩
theorem ao_lr {x : Int64} (hd : decode K.2.1 pc = .ok (.lreturn, 1)) (hty : K.2.2.2 = some .long) : AOx Φ eL d K pc lv [.long x] h (some (x, h)) := by
  intro g r h' e hN
  cases e
  exact ⟨hN, hN ▸ aw_lr hd hty ⟨rfl, rfl⟩⟩
theorem ao_vr (hd : decode K.2.1 pc = .ok (.return_, 1)) (hty : K.2.2.2 = none) : AOx Φ eV d K pc lv [] h (some ((), h)) := by
  intro g r h' e hN
  cases e
  exact ⟨hN, hN ▸ aw_vr hd hty ⟨rfl, rfl⟩⟩
theorem ao_ar {x : Option Nat} {nm : String} (hd : decode K.2.1 pc = .ok (.areturn, 1)) (hty : K.2.2.2 = some (.object nm)) : AOx Φ eQ d K pc lv [va_rf x] h (some (x, h)) := by
  intro g r h' e hN
  cases e
  exact ⟨hN, hN ▸ aw_ar hd hty ⟨rfl, rfl⟩⟩
theorem ao_arN {x : Nat} {nm : String} (hd : decode K.2.1 pc = .ok (.areturn, 1)) (hty : K.2.2.2 = some (.object nm)) : AOx Φ eN d K pc lv [.ref x] h (some (x, h)) := by
  intro g r h' e hN
  cases e
  exact ⟨hN, hN ▸ aw_ar (r := some x) hd hty ⟨rfl, rfl⟩⟩
end AOR
section AOC
variable {Φ : aG → State → Prop} {ρ τ : Type} {E : ρ → Option Value} {E' : τ → Option Value} {d d' n idx ci b : Nat} {K Kc : aM} {pc : Nat} {lv : List (Option Value)} {st st0 As : List Value} {h : aH} {o1 : Option (τ × aH)} {f : τ → aH → Option (ρ × aH)}
theorem ao_callV (hd : decode K.2.1 pc = .ok (.invokevirtual idx, 3)) (hw : Cond.methodLink K.1.cls idx Kc.1 ∈ aTb) (hm : aMV Kc n) (hn : As.length = n) (hs : (sh b).1 = ci + 7) (hc : ci < 13) (hcl : cRn ci = Kc.1.cls) (hst : st0 = As.reverse ++ .ref b :: st) (hcat : (st.map fun v => v.category).sum ≤ 8) (hdd : d' + 1 ≤ d)
    (hM : SO E' d' Kc (.ref b :: As) h o1) (kk : ∀ (r : τ) (h' : aH), AOx Φ E d K (pc + 3) lv ((E' r).toList ++ st) h' (f r h')) : AOx Φ E d K pc lv st0 h (o1.bind (fun q => f q.1 q.2)) := by
  intro g r h' e hN
  cases ho : o1 with
  | none => rw [ho] at e; cases e
  | some q =>
    obtain ⟨r1, h1⟩ := q
    rw [ho] at e
    obtain ⟨a1, b1⟩ := hM g r1 h1 ho hN
    obtain ⟨a2, b2⟩ := kk r1 h1 g r h' e a1
    refine ⟨a2, aw_callV hd hw hm hn (by rw [hN]; exact sh_lt hs (by omega)) hs hc hcl hst hcat hdd (Nat.le_refl _) b1 ?_⟩
    rintro r2 h2 ⟨rfl, rfl⟩ _
    exact b2
theorem ao_callS (hd : decode K.2.1 pc = .ok (.invokestatic idx, 3)) (hw : Cond.methodLink K.1.cls idx Kc.1 ∈ aTb) (hm : aMS Kc n) (hn : As.length = n) (hst : st0 = As.reverse ++ st) (hcat : (st.map fun v => v.category).sum ≤ 8) (hdd : d' + 1 ≤ d)
    (hM : SO E' d' Kc As h o1) (kk : ∀ (r : τ) (h' : aH), AOx Φ E d K (pc + 3) lv ((E' r).toList ++ st) h' (f r h')) : AOx Φ E d K pc lv st0 h (o1.bind (fun q => f q.1 q.2)) := by
  intro g r h' e hN
  cases ho : o1 with
  | none => rw [ho] at e; cases e
  | some q =>
    obtain ⟨r1, h1⟩ := q
    rw [ho] at e
    obtain ⟨a1, b1⟩ := hM g r1 h1 ho hN
    obtain ⟨a2, b2⟩ := kk r1 h1 g r h' e a1
    refine ⟨a2, aw_callS hd hw hm hn hst hcat hdd (Nat.le_refl _) b1 ?_⟩
    rintro r2 h2 ⟨rfl, rfl⟩ _
    exact b2
theorem ao_copy {o : Option (ρ × aH)} {a0 a1 : Nat} {sp dp n : Int32} (hd : decode K.2.1 pc = .ok (.invokestatic idx, 3)) (hw : Cond.methodLink K.1.cls idx arraycopyName ∈ aTb ∧ Cond.native arraycopyName ∈ aTb ∧ Cond.static arraycopyName ∈ aTb ∧ Cond.initialized "java/lang/System" ∈ aTb) (hs0 : (sh a0).1 = 0) (hs1 : (sh a1).1 = 0) (hb : ¬ sp < 0 ∧ ¬ dp < 0 ∧ ¬ n < 0 ∧ sp.toNatClampNeg + n.toNatClampNeg ≤ (sh a0).2 ∧ dp.toNatClampNeg + n.toNatClampNeg ≤ (sh a1).2) (hcat : (st.map fun v => v.category).sum ≤ 8) (hdd : 1 ≤ d)
    (kk : AOx Φ E d K (pc + 3) lv st (wI h a1 (va_cpy (hI h a0) (hI h a1) sp.toNatClampNeg dp.toNatClampNeg n.toNatClampNeg)) o) : AOx Φ E d K pc lv (.int n :: .int dp :: .ref a1 :: .int sp :: .ref a0 :: st) h o := by
  intro g r h' e hN
  obtain ⟨a, b⟩ := kk g r h' e hN
  exact ⟨a, st_copy hd hw (by rw [hN]; exact sh_lt hs0 (by omega)) hs0 (by rw [hN]; exact sh_lt hs1 (by omega)) hs1 hb hcat Φ g d aNN _ hdd b⟩
end AOC

