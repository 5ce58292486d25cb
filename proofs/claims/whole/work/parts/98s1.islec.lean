/-! ===== isle: the class's clauses ===== -/
theorem RSt.w0 {h : aH} {a : Nat} {S : Row} (r : RSt h a S) {x y : Int32} (hx : x = y) : RSt (pI h a 0 x) a (upd S 0 y) := by
  subst hx
  have n : ∀ b, b ≠ a → hI (pI h a 0 x) b = hI h b := fun b hb => hI_ne h hb
  have m : hI (pI h a 0 x) a = upd (hI h a) 0 x := hI_eq h
  have u : ∀ j, j ≠ 0 → upd S 0 x j = S j := fun j hj => pk_un hj
  refine ⟨⟨?_, ?_, ?_, ?_, ?_, ?_, ?_⟩, fun q hq => ⟨?_, ?_, ?_⟩, fun q hq => ?_, fun q hq => ⟨?_, ?_⟩⟩
  · rw [m, pk_us, pk_us]
  · rw [m, pk_un (by omega), u _ (by omega)]; exact r.s1
  · rw [m, pk_un (by omega), u _ (by omega)]; exact r.s2
  · rw [m, pk_un (by omega), u _ (by omega)]; exact r.s3
  · rw [m, pk_un (by omega), u _ (by omega)]; exact r.s4
  · rw [m, pk_un (by omega), u _ (by omega)]; exact r.s5
  · rw [hL_pI, lateOf, u _ (by omega), u _ (by omega), u _ (by omega)]; exact r.s6
  · rw [n _ (by omega), u _ (by omega)]; exact r.pu hq
  · rw [n _ (by omega), u _ (by omega)]; exact r.pa hq
  · rw [n _ (by omega), u _ (by omega)]; exact r.jo hq
  · rw [n _ (by omega), u _ (by omega)]; exact r.ye hq
  · rw [n _ (by omega), u _ (by omega)]; exact r.li hq
  · rw [n _ (by omega), u _ (by omega)]; exact r.tr hq
theorem RSt.w2 {h : aH} {a : Nat} {S : Row} (r : RSt h a S) {x y : Int32} (hx : x = y) : RSt (pI h a 2 x) a (upd S 2 y) := by
  subst hx
  have n : ∀ b, b ≠ a → hI (pI h a 2 x) b = hI h b := fun b hb => hI_ne h hb
  have m : hI (pI h a 2 x) a = upd (hI h a) 2 x := hI_eq h
  have u : ∀ j, j ≠ 2 → upd S 2 x j = S j := fun j hj => pk_un hj
  refine ⟨⟨?_, ?_, ?_, ?_, ?_, ?_, ?_⟩, fun q hq => ⟨?_, ?_, ?_⟩, fun q hq => ?_, fun q hq => ⟨?_, ?_⟩⟩
  · rw [m, pk_un (by omega), u _ (by omega)]; exact r.s0
  · rw [m, pk_un (by omega), u _ (by omega)]; exact r.s1
  · rw [m, pk_us, pk_us]
  · rw [m, pk_un (by omega), u _ (by omega)]; exact r.s3
  · rw [m, pk_un (by omega), u _ (by omega)]; exact r.s4
  · rw [m, pk_un (by omega), u _ (by omega)]; exact r.s5
  · rw [hL_pI, lateOf, u _ (by omega), u _ (by omega), u _ (by omega)]; exact r.s6
  · rw [n _ (by omega), u _ (by omega)]; exact r.pu hq
  · rw [n _ (by omega), u _ (by omega)]; exact r.pa hq
  · rw [n _ (by omega), u _ (by omega)]; exact r.jo hq
  · rw [n _ (by omega), u _ (by omega)]; exact r.ye hq
  · rw [n _ (by omega), u _ (by omega)]; exact r.li hq
  · rw [n _ (by omega), u _ (by omega)]; exact r.tr hq
theorem RSt.w3 {h : aH} {a : Nat} {S : Row} (r : RSt h a S) {x y : Int32} (hx : x = y) : RSt (pI h a 3 x) a (upd S 3 y) := by
  subst hx
  have n : ∀ b, b ≠ a → hI (pI h a 3 x) b = hI h b := fun b hb => hI_ne h hb
  have m : hI (pI h a 3 x) a = upd (hI h a) 3 x := hI_eq h
  have u : ∀ j, j ≠ 3 → upd S 3 x j = S j := fun j hj => pk_un hj
  refine ⟨⟨?_, ?_, ?_, ?_, ?_, ?_, ?_⟩, fun q hq => ⟨?_, ?_, ?_⟩, fun q hq => ?_, fun q hq => ⟨?_, ?_⟩⟩
  · rw [m, pk_un (by omega), u _ (by omega)]; exact r.s0
  · rw [m, pk_un (by omega), u _ (by omega)]; exact r.s1
  · rw [m, pk_un (by omega), u _ (by omega)]; exact r.s2
  · rw [m, pk_us, pk_us]
  · rw [m, pk_un (by omega), u _ (by omega)]; exact r.s4
  · rw [m, pk_un (by omega), u _ (by omega)]; exact r.s5
  · rw [hL_pI, lateOf, u _ (by omega), u _ (by omega), u _ (by omega)]; exact r.s6
  · rw [n _ (by omega), u _ (by omega)]; exact r.pu hq
  · rw [n _ (by omega), u _ (by omega)]; exact r.pa hq
  · rw [n _ (by omega), u _ (by omega)]; exact r.jo hq
  · rw [n _ (by omega), u _ (by omega)]; exact r.ye hq
  · rw [n _ (by omega), u _ (by omega)]; exact r.li hq
  · rw [n _ (by omega), u _ (by omega)]; exact r.tr hq
theorem RSt.w4 {h : aH} {a : Nat} {S : Row} (r : RSt h a S) {x y : Int32} (hx : x = y) : RSt (pI h a 4 x) a (upd S 4 y) := by
  subst hx
  have n : ∀ b, b ≠ a → hI (pI h a 4 x) b = hI h b := fun b hb => hI_ne h hb
  have m : hI (pI h a 4 x) a = upd (hI h a) 4 x := hI_eq h
  have u : ∀ j, j ≠ 4 → upd S 4 x j = S j := fun j hj => pk_un hj
  refine ⟨⟨?_, ?_, ?_, ?_, ?_, ?_, ?_⟩, fun q hq => ⟨?_, ?_, ?_⟩, fun q hq => ?_, fun q hq => ⟨?_, ?_⟩⟩
  · rw [m, pk_un (by omega), u _ (by omega)]; exact r.s0
  · rw [m, pk_un (by omega), u _ (by omega)]; exact r.s1
  · rw [m, pk_un (by omega), u _ (by omega)]; exact r.s2
  · rw [m, pk_un (by omega), u _ (by omega)]; exact r.s3
  · rw [m, pk_us, pk_us]
  · rw [m, pk_un (by omega), u _ (by omega)]; exact r.s5
  · rw [hL_pI, lateOf, u _ (by omega), u _ (by omega), u _ (by omega)]; exact r.s6
  · rw [n _ (by omega), u _ (by omega)]; exact r.pu hq
  · rw [n _ (by omega), u _ (by omega)]; exact r.pa hq
  · rw [n _ (by omega), u _ (by omega)]; exact r.jo hq
  · rw [n _ (by omega), u _ (by omega)]; exact r.ye hq
  · rw [n _ (by omega), u _ (by omega)]; exact r.li hq
  · rw [n _ (by omega), u _ (by omega)]; exact r.tr hq
theorem RSt.wTr {h : aH} {a : Nat} {S : Row} (r : RSt h a S) {p : Nat} (hp : p < 32) {x y : Int32} (hx : x = y) : RSt (pI h (a + 6) p x) a (upd S (78 + p) y) := by
  subst hx
  have n : ∀ b, b ≠ a + 6 → hI (pI h (a + 6) p x) b = hI h b := fun b hb => hI_ne h hb
  have m : hI (pI h (a + 6) p x) (a + 6) = upd (hI h (a + 6)) p x := hI_eq h
  have u : ∀ j, j ≠ 78 + p → upd S (78 + p) x j = S j := fun j hj => pk_un hj
  refine ⟨⟨?_, ?_, ?_, ?_, ?_, ?_, ?_⟩, fun q hq => ⟨?_, ?_, ?_⟩, fun q hq => ?_, fun q hq => ⟨?_, ?_⟩⟩
  · rw [n _ (by omega), u _ (by omega)]; exact r.s0
  · rw [n _ (by omega), u _ (by omega)]; exact r.s1
  · rw [n _ (by omega), u _ (by omega)]; exact r.s2
  · rw [n _ (by omega), u _ (by omega)]; exact r.s3
  · rw [n _ (by omega), u _ (by omega)]; exact r.s4
  · rw [n _ (by omega), u _ (by omega)]; exact r.s5
  · rw [hL_pI, lateOf, u _ (by omega), u _ (by omega), u _ (by omega)]; exact r.s6
  · rw [n _ (by omega), u _ (by omega)]; exact r.pu hq
  · rw [n _ (by omega), u _ (by omega)]; exact r.pa hq
  · rw [n _ (by omega), u _ (by omega)]; exact r.jo hq
  · rw [n _ (by omega), u _ (by omega)]; exact r.ye hq
  · rw [n _ (by omega), u _ (by omega)]; exact r.li hq
  · rw [m]
    by_cases e : q = p
    · rw [e, pk_us, pk_us]
    · rw [pk_un e, u _ (by omega)]; exact r.tr hq
def nx (t : Row) (n p : Nat) : Nat := de t n (sk t n p)
theorem nx_le {t : Row} {n p : Nat} (hp : p ≤ n) : nx t n p ≤ n := (de_le (sk_le hp).2).2
def CT (h : aH) (t : Row) (n p : Nat) (f : Int32) : Prop := TB h t n ∧ p ≤ n ∧ hI h 1 2 = nI p ∧ hI h 1 3 = f
theorem CT.e {h : aH} {t : Row} {n p : Nat} {f : Int32} (c : CT h t n p f) : cS h p f = h := by
  have e : upd (upd (hI h 1) 2 (nI p)) 3 f = hI h 1 := by
    funext j
    by_cases j3 : j = 3
    · rw [j3, upd_at]; exact c.2.2.2.symm
    · rw [upd_ne _ _ j3]
      by_cases j2 : j = 2
      · rw [j2, upd_at]; exact c.2.2.1.symm
      · rw [upd_ne _ _ j2]
  unfold cS
  rw [e, wI_self]
theorem TB.cs {h : aH} {t : Row} {n : Nat} (b : TB h t n) (p : Nat) (f : Int32) : TB (cS h p f) t n := ⟨b.1, by rw [cS_11]; exact b.2.1, b.2.2.1, fun j hj => by rw [cS_o _ _ _ (by decide)]; exact b.2.2.2 j hj⟩
theorem CT.of {h : aH} {t : Row} {n p : Nat} {f : Int32} (b : TB h t n) (hp : p ≤ n) : CT (cS h p f) t n p f := ⟨b.cs p f, hp, cS_12 _ _ _, cS_13 _ _ _⟩
theorem CT.mv {h h' : aH} {t : Row} {n p : Nat} {f : Int32} (c : CT h t n p f) {A : Nat → Prop} (u : Upd A h h') (h1 : ¬ A 1) (h2 : ¬ A 2) : CT h' t n p f := by
  obtain ⟨⟨b1, b2, b3, b4⟩, c2, c3, c4⟩ := c
  have e1 := u.2.2.1 1 h1
  have e2 := u.2.2.1 2 h2
  exact ⟨⟨u.str b1, by rw [e1]; exact b2, b3, fun j hj => by rw [e2]; exact b4 j hj⟩, c2, by rw [e1]; exact c3, by rw [e1]; exact c4⟩
abbrev iA : Nat → Prop := fun c => c = 1 ∨ stA 31 c
theorem cS_u (h : aH) (p : Nat) (f : Int32) : Upd (fun c => c = 1) h (cS h p f) := Upd.wI rfl
theorem numC {h : aH} {t : Row} {n p : Nat} {f : Int32} (c : CT h t n p f) (most : Int32) : ∃ h', f_X9_takeNumber h 1 most = some (if nf t n p most f = 0 then nv t n p else 0, h') ∧ CT h' t n (nx t n p) (nf t n p most f) ∧ Upd (fun c => c = 1) h h' := by
  have x := takeNumberC c.1 c.2.1 f most
  rw [c.e] at x
  exact ⟨_, x, CT.of c.1 (nx_le c.2.1), cS_u _ _ _⟩
theorem u1A {h h' : aH} (u : Upd (fun c => c = 1) h h') : Upd iA h h' := u.mono (fun _ y => Or.inl y)
theorem RSt.u1 {h h' : aH} {S : Row} (r : RSt h 31 S) (u : Upd (fun c => c = 1) h h') : RSt h' 31 S := r.up u (fun b h1 h2 y => by omega)
def vn (t : Row) (n p : Nat) (most f : Int32) : Int32 := if nf t n p most f = 0 then nv t n p else 0
theorem m31 : 31 ∈ stL := by decide
theorem readN0 {h : aH} {t : Row} {n p : Nat} {f : Int32} (c : CT h t n p f) {S : Row} (r : RSt h 31 S) : ∃ h', f_X2_readNumbers h 3 31 0 = some ((), h') ∧ CT h' t n (nx t n (nx t n p)) (nf t n (nx t n p) 20 (nf t n p 99 f)) ∧ RSt h' 31 (upd (upd S 1 (vn t n p 99 f)) 2 (vn t n (nx t n p) 20 (nf t n p 99 f))) ∧ Upd iA h h' := by
  obtain ⟨h1, e1, c1, u1⟩ := numC c 99
  have r1 := (r.u1 u1).wG (x := vn t n p 99 f) rfl
  have ua : Upd (stA 31) h1 (pI h1 31 1 (vn t n p 99 f)) := Upd.pI (by unfold stA; omega)
  obtain ⟨h2, e2, c2, u2⟩ := numC (c1.mv ua (by unfold stA; omega) (by unfold stA; omega)) 20
  have r2 := (r1.u1 u2).w2 (x := vn t n (nx t n p) 20 (nf t n p 99 f)) rfl
  have ub : Upd (stA 31) h2 (pI h2 31 2 (vn t n (nx t n p) 20 (nf t n p 99 f))) := Upd.pI (by unfold stA; omega)
  have sA : ∀ {a b : aH}, Upd (stA 31) a b → Upd iA a b := fun u => u.mono (fun _ y => Or.inr y)
  refine ⟨_, ?_, c2.mv ub (by unfold stA; omega) (by unfold stA; omega), r2, (((u1A u1).tr (sA ua)).tr (u1A u2)).tr (sA ub)⟩
  have S1 := c1.1.1
  unfold vn at e2 ⊢
  simp only [f_X2_readNumbers, if_true, q_3, r_3_0 c.1.1, Option.bind_some, q_1, e1, aBind_some, q_31, aLet, hR_pI, r_3_0 S1, e2]
theorem in_32 {k : Nat} (h : k < 8) : aIn (nI k) (sh 32).2 := by rw [show sh 32 = (0, 8) by decide]; exact vp_in_nI h (by decide)
theorem q_32 {α : Type} {x y : α} : (if (sh 32).1 = 0 then x else y) = x := if_pos (by decide)
theorem readN1 {h : aH} {t : Row} {n p : Nat} {f : Int32} (c : CT h t n p f) {S : Row} (r : RSt h 31 S) {a : Nat} (ha : a < 4) (ea : S 3 = nI a) : ∃ h', f_X2_readNumbers h 3 31 1 = some ((), h') ∧ CT h' t n (nx t n p) (nf t n p 999 f) ∧ RSt h' 31 (upd (upd S (11 + 4 * a) (vn t n p 999 f)) 3 (nI (a + 1))) ∧ Upd iA h h' := by
  obtain ⟨h1, e1, c1, u1⟩ := numC c 999
  have r0 := r.u1 u1
  have r1 := r0.wPu (p := a) (by omega) (x := vn t n p 999 f) rfl
  have ua : Upd (stA 31) h1 (pI h1 (31 + 1) a (vn t n p 999 f)) := Upd.pI (by unfold stA; omega)
  have r2 := r1.w3 (x := nI (a + 1)) rfl
  have ub : Upd (stA 31) (pI h1 (31 + 1) a (vn t n p 999 f)) (pI (pI h1 (31 + 1) a (vn t n p 999 f)) 31 3 (nI (a + 1))) := Upd.pI (by unfold stA; omega)
  have sA : ∀ {a b : aH}, Upd (stA 31) a b → Upd iA a b := fun u => u.mono (fun _ y => Or.inr y)
  refine ⟨_, ?_, (c1.mv ua (by unfold stA; omega) (by unfold stA; omega)).mv ub (by unfold stA; omega) (by unfold stA; omega), r2, ((u1A u1).tr (sA ua)).tr (sA ub)⟩
  have S1 := c1.1.1
  have e3 : hI h1 31 3 = nI a := by rw [r0.s3]; exact ea
  have e3' : hI (pI h1 32 a (vn t n p 999 f)) 31 3 = nI a := by rw [hI_ne _ (by decide)]; exact e3
  have n4 : ¬ (4 : Int32) ≤ nI a := nI_ge (b := 4) ha (by decide)
  have e7 : hR h1 31 7 = some 32 := (S1.st m31).1
  unfold vn at e3' ⊢
  simp only [f_X2_readNumbers, if_neg (show ¬ (1 : Int32) = 0 by decide), if_true, q_3, r_3_0 c.1.1, Option.bind_some, q_1, e1, aBind_some, q_31, f_X8_addEast, e3, if_neg n4, e7, aLet, q_32, if_pos (in_32 (show a < 8 by omega)), nI_clamp (show a < 2 ^ 31 by omega), e3', i1]
theorem readN2 {h : aH} {t : Row} {n p : Nat} {f : Int32} (c : CT h t n p f) {S : Row} (r : RSt h 31 S) {a : Nat} (ha : a < 4) (ea : S 4 = nI a) : ∃ h', f_X2_readNumbers h 3 31 2 = some ((), h') ∧ CT h' t n (nx t n p) (nf t n p 999 f) ∧ RSt h' 31 (upd (upd S (11 + 4 * (4 + a)) (vn t n p 999 f)) 4 (nI (a + 1))) ∧ Upd iA h h' := by
  obtain ⟨h1, e1, c1, u1⟩ := numC c 999
  have r0 := r.u1 u1
  have r1 := r0.wPu (p := 4 + a) (by omega) (x := vn t n p 999 f) rfl
  have ua : Upd (stA 31) h1 (pI h1 (31 + 1) (4 + a) (vn t n p 999 f)) := Upd.pI (by unfold stA; omega)
  have r2 := r1.w4 (x := nI (a + 1)) rfl
  have ub : Upd (stA 31) (pI h1 (31 + 1) (4 + a) (vn t n p 999 f)) (pI (pI h1 (31 + 1) (4 + a) (vn t n p 999 f)) 31 4 (nI (a + 1))) := Upd.pI (by unfold stA; omega)
  have sA : ∀ {a b : aH}, Upd (stA 31) a b → Upd iA a b := fun u => u.mono (fun _ y => Or.inr y)
  refine ⟨_, ?_, (c1.mv ua (by unfold stA; omega) (by unfold stA; omega)).mv ub (by unfold stA; omega) (by unfold stA; omega), r2, ((u1A u1).tr (sA ua)).tr (sA ub)⟩
  have S1 := c1.1.1
  have e3 : hI h1 31 4 = nI a := by rw [r0.s4]; exact ea
  have e3' : hI (pI h1 32 (4 + a) (vn t n p 999 f)) 31 4 = nI a := by rw [hI_ne _ (by decide)]; exact e3
  have n4 : ¬ (4 : Int32) ≤ nI a := nI_ge (b := 4) ha (by decide)
  have e7 : hR h1 31 7 = some 32 := (S1.st m31).1
  have e4a : (4 : Int32) + nI a = nI (4 + a) := nI_add 4 a
  unfold vn at e3' ⊢
  simp only [f_X2_readNumbers, if_neg (show ¬ (2 : Int32) = 0 by decide), if_neg (show ¬ (2 : Int32) = 1 by decide), if_true, q_3, r_3_0 c.1.1, Option.bind_some, q_1, e1, aBind_some, q_31, f_X8_addWest, e3, if_neg n4, e7, aLet, e4a, q_32, if_pos (in_32 (show 4 + a < 8 by omega)), nI_clamp (show 4 + a < 2 ^ 31 by omega), e3', i1]
theorem readN5 {h : aH} {t : Row} {n p : Nat} {f : Int32} (c : CT h t n p f) {S : Row} (r : RSt h 31 S) (l : LateR S 75) : ∃ h' k, f_X2_readNumbers h 3 31 5 = some ((), h') ∧ CT h' t n (nx t n p) (nf t n p 60 f) ∧ vn t n p 60 f = nI k ∧ k < 61 ∧ RSt h' 31 (lateT S k) ∧ Upd iA h h' := by
  obtain ⟨h1, e1, c1, u1⟩ := numC c 60
  obtain ⟨k, hk, ek⟩ : ∃ k, k < 61 ∧ vn t n p 60 f = nI k := by
    unfold vn
    by_cases z : nf t n p 60 f = 0
    · rw [if_pos z]
      by_cases f0 : f = 0
      · have g : gd t n p 60 = true := by
          cases q : gd t n p 60 with
          | true => rfl
          | false => rw [f0] at z; exact absurd z (nf_ng c.1.2.2.1 c.2.1 q)
        obtain ⟨k, hk, ek⟩ := nv_nn c.2.1 g
        have m : nv t n p ≤ 60 := (of_decide_eq_true g).2.2
        rw [ek] at m
        have m' : nI k ≤ nI 60 := m
        exact ⟨k, by have := (nI_leI (by omega) (by omega)).mp m'; omega, ek⟩
      · rw [nf_f f0] at z; exact absurd z f0
    · rw [if_neg z]; exact ⟨0, by decide, rfl⟩
  have r0 := r.u1 u1
  have r1 : RSt (pL h1 31 6 (lateOf (lateT S k))) 31 (lateT S k) := r0.wLt (fun j p q s => lateT_o hk (by omega)) rfl
  have ua : Upd (stA 31) h1 (pL h1 31 6 (lateOf (lateT S k))) := Upd.pL (by unfold stA; omega)
  refine ⟨_, k, ?_, c1.mv ua (by unfold stA; omega) (by unfold stA; omega), ek, hk, r1, (u1A u1).tr (ua.mono (fun _ y => Or.inr y))⟩
  have e' : (hL h 31 6) ||| (1 <<< ((vn t n p 60 f).toInt64 &&& 63)) = lateOf (lateT S k) := by rw [r.s6, ek, lateT_l l hk]
  unfold vn at e'
  simp only [f_X2_readNumbers, if_neg (show ¬ (5 : Int32) = 0 by decide), if_neg (show ¬ (5 : Int32) = 1 by decide), if_neg (show ¬ (5 : Int32) = 2 by decide), if_neg (show ¬ (5 : Int32) = 3 by decide), if_neg (show ¬ (5 : Int32) = 4 by decide), q_3, r_3_0 c.1.1, Option.bind_some, q_1, e1, aBind_some, q_31, e', aLet]
