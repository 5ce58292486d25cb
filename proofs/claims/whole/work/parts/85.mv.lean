theorem q_0 {α : Type} {x y : α} : (if (sh 0).1 = 18 then x else y) = x := if_pos (by rw [sh_0])
theorem q_1 {α : Type} {x y : α} : (if (sh 1).1 = 16 then x else y) = x := if_pos (by rw [sh_1])
theorem q_2 {α : Type} {x y : α} : (if (sh 2).1 = 1 then x else y) = x := if_pos (by rw [sh_2])
theorem q_3 {α : Type} {x y : α} : (if (sh 3).1 = 9 then x else y) = x := if_pos (by rw [sh_3])
theorem q_4 {α : Type} {x y : α} : (if (sh 4).1 = 13 then x else y) = x := if_pos (by rw [sh_4])
theorem q_5 {α : Type} {x y : α} : (if (sh 5).1 = 12 then x else y) = x := if_pos (by rw [sh_5])
theorem q_10 {α : Type} {x y : α} : (if (sh 10).1 = 4 then x else y) = x := if_pos (by rw [sh_10])
theorem q_11 {α : Type} {x y : α} : (if (sh 11).1 = 17 then x else y) = x := if_pos (by rw [sh_11])
theorem q_29 {α : Type} {x y : α} : (if (sh 29).1 = 6 then x else y) = x := if_pos (by rw [sh_29])
theorem q_30 {α : Type} {x y : α} : (if (sh 30).1 = 5 then x else y) = x := if_pos (by rw [sh_30])
theorem q_31 {α : Type} {x y : α} : (if (sh 31).1 = 15 then x else y) = x := if_pos (by rw [sh_31])
theorem q_38 {α : Type} {x y : α} : (if (sh 38).1 = 7 then x else y) = x := if_pos (by rw [sh_38])
theorem q_39 {α : Type} {x y : α} : (if (sh 39).1 = 10 then x else y) = x := if_pos (by rw [sh_39])
theorem q_40 {α : Type} {x y : α} : (if (sh 40).1 = 3 then x else y) = x := if_pos (by rw [sh_40])
theorem q_41 {α : Type} {x y : α} : (if (sh 41).1 = 3 then x else y) = x := if_pos (by rw [sh_41])
theorem q_42 {α : Type} {x y : α} : (if (sh 42).1 = 0 then x else y) = x := if_pos (by rw [sh_42])
theorem q_43 {α : Type} {x y : α} : (if (sh 43).1 = 0 then x else y) = x := if_pos (by rw [sh_43])
theorem q_44 {α : Type} {x y : α} : (if (sh 44).1 = 0 then x else y) = x := if_pos (by rw [sh_44])
theorem q_45 {α : Type} {x y : α} : (if (sh 45).1 = 8 then x else y) = x := if_pos (by rw [sh_45])
theorem q_53 {α : Type} {x y : α} : (if (sh 53).1 = 14 then x else y) = x := if_pos (by rw [sh_53])
theorem q_54 {α : Type} {x y : α} : (if (sh 54).1 = 0 then x else y) = x := if_pos (by rw [sh_54])
theorem q_55 {α : Type} {x y : α} : (if (sh 55).1 = 0 then x else y) = x := if_pos (by rw [sh_55])
theorem q_56 {α : Type} {x y : α} : (if (sh 56).1 = 0 then x else y) = x := if_pos (by rw [sh_56])
theorem q_57 {α : Type} {x y : α} : (if (sh 57).1 = 11 then x else y) = x := if_pos (by rw [sh_57])
theorem q_65 {α : Type} {x y : α} : (if (sh 65).1 = 0 then x else y) = x := if_pos (by rw [sh_65])
theorem q_308 {α : Type} {x y : α} : (if (sh 308).1 = 19 then x else y) = x := if_pos (by rw [sh_308])
theorem q_309 {α : Type} {x y : α} : (if (sh 309).1 = 1 then x else y) = x := if_pos (by rw [sh_309])
theorem q_310 {α : Type} {x y : α} : (if (sh 310).1 = 0 then x else y) = x := if_pos (by rw [sh_310])
theorem q_311 {α : Type} {x y : α} : (if (sh 311).1 = 0 then x else y) = x := if_pos (by rw [sh_311])
theorem q_312 {α : Type} {x y : α} : (if (sh 312).1 = 0 then x else y) = x := if_pos (by rw [sh_312])
theorem q_313 {α : Type} {x y : α} : (if (sh 313).1 = 0 then x else y) = x := if_pos (by rw [sh_313])
theorem q_314 {α : Type} {x y : α} : (if (sh 314).1 = 0 then x else y) = x := if_pos (by rw [sh_314])
theorem q_315 {α : Type} {x y : α} : (if (sh 315).1 = 0 then x else y) = x := if_pos (by rw [sh_315])
theorem q_316 {α : Type} {x y : α} : (if (sh 316).1 = 3 then x else y) = x := if_pos (by rw [sh_316])
theorem q_317 {α : Type} {x y : α} : (if (sh 317).1 = 3 then x else y) = x := if_pos (by rw [sh_317])
theorem q_318 {α : Type} {x y : α} : (if (sh 318).1 = 0 then x else y) = x := if_pos (by rw [sh_318])
theorem q_319 {α : Type} {x y : α} : (if (sh 319).1 = 0 then x else y) = x := if_pos (by rw [sh_319])
theorem q_320 {α : Type} {x y : α} : (if (sh 320).1 = 0 then x else y) = x := if_pos (by rw [sh_320])
theorem q_321 {α : Type} {x y : α} : (if (sh 321).1 = 2 then x else y) = x := if_pos (by rw [sh_321])
theorem q_322 {α : Type} {x y : α} : (if (sh 322).1 = 0 then x else y) = x := if_pos (by rw [sh_322])
theorem q_323 {α : Type} {x y : α} : (if (sh 323).1 = 0 then x else y) = x := if_pos (by rw [sh_323])
theorem q_324 {α : Type} {x y : α} : (if (sh 324).1 = 0 then x else y) = x := if_pos (by rw [sh_324])
theorem q_325 {α : Type} {x y : α} : (if (sh 325).1 = 0 then x else y) = x := if_pos (by rw [sh_325])
theorem q_326 {α : Type} {x y : α} : (if (sh 326).1 = 0 then x else y) = x := if_pos (by rw [sh_326])
theorem q_327 {α : Type} {x y : α} : (if (sh 327).1 = 2 then x else y) = x := if_pos (by rw [sh_327])
theorem q_328 {α : Type} {x y : α} : (if (sh 328).1 = 0 then x else y) = x := if_pos (by rw [sh_328])
theorem q_329 {α : Type} {x y : α} : (if (sh 329).1 = 0 then x else y) = x := if_pos (by rw [sh_329])
theorem q_330 {α : Type} {x y : α} : (if (sh 330).1 = 0 then x else y) = x := if_pos (by rw [sh_330])
theorem q_331 {α : Type} {x y : α} : (if (sh 331).1 = 0 then x else y) = x := if_pos (by rw [sh_331])
theorem q_332 {α : Type} {x y : α} : (if (sh 332).1 = 2 then x else y) = x := if_pos (by rw [sh_332])
theorem qst0 {α : Type} {x y : α} {a : Nat} (ha : a ∈ stL) : (if (sh a).1 = 15 then x else y) = x := if_pos (st_sh a ha).1
theorem qst1 {α : Type} {x y : α} {a : Nat} (ha : a ∈ stL) : (if (sh (a + 1)).1 = 0 then x else y) = x := if_pos (by rw [(st_sh a ha).2.1])
theorem qst2 {α : Type} {x y : α} {a : Nat} (ha : a ∈ stL) : (if (sh (a + 2)).1 = 0 then x else y) = x := if_pos (by rw [(st_sh a ha).2.2.1])
theorem qst3 {α : Type} {x y : α} {a : Nat} (ha : a ∈ stL) : (if (sh (a + 3)).1 = 0 then x else y) = x := if_pos (by rw [(st_sh a ha).2.2.2.1])
theorem qst4 {α : Type} {x y : α} {a : Nat} (ha : a ∈ stL) : (if (sh (a + 4)).1 = 0 then x else y) = x := if_pos (by rw [(st_sh a ha).2.2.2.2.1])
theorem qst5 {α : Type} {x y : α} {a : Nat} (ha : a ∈ stL) : (if (sh (a + 5)).1 = 0 then x else y) = x := if_pos (by rw [(st_sh a ha).2.2.2.2.2.1])
theorem qst6 {α : Type} {x y : α} {a : Nat} (ha : a ∈ stL) : (if (sh (a + 6)).1 = 0 then x else y) = x := if_pos (by rw [(st_sh a ha).2.2.2.2.2.2])
theorem qwl0 {α : Type} {x y : α} {a : Nat} (ha : a ∈ wlL) : (if (sh a).1 = 17 then x else y) = x := if_pos (wl_sh a ha).1
theorem aIn_nI {α : Type} {x y : α} {i n : Nat} (h : i < n) (hn : n < 2147483648) : (if aIn (nI i) n then x else y) = x := if_pos (vp_in_nI h hn)
theorem r_0_0 {h : aH} (hS : Str h) : hR h 0 0 = some 1 := hS.at _ _ _ (by decide +kernel)
theorem r_0_1 {h : aH} (hS : Str h) : hR h 0 1 = some 3 := hS.at _ _ _ (by decide +kernel)
theorem r_0_2 {h : aH} (hS : Str h) : hR h 0 2 = some 4 := hS.at _ _ _ (by decide +kernel)
theorem r_0_3 {h : aH} (hS : Str h) : hR h 0 3 = some 10 := hS.at _ _ _ (by decide +kernel)
theorem r_0_5 {h : aH} (hS : Str h) : hR h 0 5 = some 11 := hS.at _ _ _ (by decide +kernel)
theorem r_0_6 {h : aH} (hS : Str h) : hR h 0 6 = some 29 := hS.at _ _ _ (by decide +kernel)
theorem r_0_7 {h : aH} (hS : Str h) : hR h 0 7 = some 30 := hS.at _ _ _ (by decide +kernel)
theorem r_0_10 {h : aH} (hS : Str h) : hR h 0 10 = some 31 := hS.at _ _ _ (by decide +kernel)
theorem r_0_11 {h : aH} (hS : Str h) : hR h 0 11 = some 38 := hS.at _ _ _ (by decide +kernel)
theorem r_0_12 {h : aH} (hS : Str h) : hR h 0 12 = some 45 := hS.at _ _ _ (by decide +kernel)
theorem r_0_13 {h : aH} (hS : Str h) : hR h 0 13 = some 53 := hS.at _ _ _ (by decide +kernel)
theorem r_0_14 {h : aH} (hS : Str h) : hR h 0 14 = some 57 := hS.at _ _ _ (by decide +kernel)
theorem r_1_0 {h : aH} (hS : Str h) : hR h 1 0 = some 2 := hS.at _ _ _ (by decide +kernel)
theorem r_3_0 {h : aH} (hS : Str h) : hR h 3 0 = some 1 := hS.at _ _ _ (by decide +kernel)
theorem r_4_0 {h : aH} (hS : Str h) : hR h 4 0 = some 1 := hS.at _ _ _ (by decide +kernel)
theorem r_11_0 {h : aH} (hS : Str h) : hR h 11 0 = some 12 := hS.at _ _ _ (by decide +kernel)
theorem r_11_1 {h : aH} (hS : Str h) : hR h 11 1 = some 19 := hS.at _ _ _ (by decide +kernel)
theorem r_11_2 {h : aH} (hS : Str h) : hR h 11 2 = some 26 := hS.at _ _ _ (by decide +kernel)
theorem r_11_3 {h : aH} (hS : Str h) : hR h 11 3 = some 27 := hS.at _ _ _ (by decide +kernel)
theorem r_11_4 {h : aH} (hS : Str h) : hR h 11 4 = some 28 := hS.at _ _ _ (by decide +kernel)
theorem r_38_0 {h : aH} (hS : Str h) : hR h 38 0 = some 39 := hS.at _ _ _ (by decide +kernel)
theorem r_38_1 {h : aH} (hS : Str h) : hR h 38 1 = some 42 := hS.at _ _ _ (by decide +kernel)
theorem r_38_2 {h : aH} (hS : Str h) : hR h 38 2 = some 43 := hS.at _ _ _ (by decide +kernel)
theorem r_38_3 {h : aH} (hS : Str h) : hR h 38 3 = some 44 := hS.at _ _ _ (by decide +kernel)
theorem r_39_0 {h : aH} (hS : Str h) : hR h 39 0 = some 40 := hS.at _ _ _ (by decide +kernel)
theorem r_39_1 {h : aH} (hS : Str h) : hR h 39 1 = some 41 := hS.at _ _ _ (by decide +kernel)
theorem r_45_0 {h : aH} (hS : Str h) : hR h 45 0 = some 38 := hS.at _ _ _ (by decide +kernel)
theorem r_45_1 {h : aH} (hS : Str h) : hR h 45 1 = some 46 := hS.at _ _ _ (by decide +kernel)
theorem r_53_0 {h : aH} (hS : Str h) : hR h 53 0 = some 54 := hS.at _ _ _ (by decide +kernel)
theorem r_53_1 {h : aH} (hS : Str h) : hR h 53 1 = some 55 := hS.at _ _ _ (by decide +kernel)
theorem r_53_2 {h : aH} (hS : Str h) : hR h 53 2 = some 56 := hS.at _ _ _ (by decide +kernel)
theorem r_57_0 {h : aH} (hS : Str h) : hR h 57 0 = some 38 := hS.at _ _ _ (by decide +kernel)
theorem r_57_1 {h : aH} (hS : Str h) : hR h 57 1 = some 58 := hS.at _ _ _ (by decide +kernel)
theorem r_57_2 {h : aH} (hS : Str h) : hR h 57 2 = some 65 := hS.at _ _ _ (by decide +kernel)
theorem r_308_0 {h : aH} (hS : Str h) : hR h 308 0 = some 309 := hS.at _ _ _ (by decide +kernel)
theorem r_308_3 {h : aH} (hS : Str h) : hR h 308 3 = some 310 := hS.at _ _ _ (by decide +kernel)
theorem r_308_4 {h : aH} (hS : Str h) : hR h 308 4 = some 311 := hS.at _ _ _ (by decide +kernel)
theorem r_308_5 {h : aH} (hS : Str h) : hR h 308 5 = some 312 := hS.at _ _ _ (by decide +kernel)
theorem r_308_6 {h : aH} (hS : Str h) : hR h 308 6 = some 313 := hS.at _ _ _ (by decide +kernel)
theorem r_308_7 {h : aH} (hS : Str h) : hR h 308 7 = some 314 := hS.at _ _ _ (by decide +kernel)
theorem r_308_15 {h : aH} (hS : Str h) : hR h 308 15 = some 315 := hS.at _ _ _ (by decide +kernel)
theorem r_308_17 {h : aH} (hS : Str h) : hR h 308 17 = some 316 := hS.at _ _ _ (by decide +kernel)
theorem r_308_19 {h : aH} (hS : Str h) : hR h 308 19 = some 317 := hS.at _ _ _ (by decide +kernel)
theorem r_308_20 {h : aH} (hS : Str h) : hR h 308 20 = some 318 := hS.at _ _ _ (by decide +kernel)
theorem r_308_24 {h : aH} (hS : Str h) : hR h 308 24 = some 319 := hS.at _ _ _ (by decide +kernel)
theorem r_308_25 {h : aH} (hS : Str h) : hR h 308 25 = some 320 := hS.at _ _ _ (by decide +kernel)
theorem r_308_26 {h : aH} (hS : Str h) : hR h 308 26 = some 321 := hS.at _ _ _ (by decide +kernel)
theorem r_308_27 {h : aH} (hS : Str h) : hR h 308 27 = some 322 := hS.at _ _ _ (by decide +kernel)
theorem r_308_28 {h : aH} (hS : Str h) : hR h 308 28 = some 323 := hS.at _ _ _ (by decide +kernel)
theorem r_308_30 {h : aH} (hS : Str h) : hR h 308 30 = some 324 := hS.at _ _ _ (by decide +kernel)
theorem r_308_31 {h : aH} (hS : Str h) : hR h 308 31 = some 325 := hS.at _ _ _ (by decide +kernel)
theorem r_308_32 {h : aH} (hS : Str h) : hR h 308 32 = some 326 := hS.at _ _ _ (by decide +kernel)
theorem r_308_33 {h : aH} (hS : Str h) : hR h 308 33 = some 327 := hS.at _ _ _ (by decide +kernel)
theorem r_308_34 {h : aH} (hS : Str h) : hR h 308 34 = some 328 := hS.at _ _ _ (by decide +kernel)
theorem r_308_36 {h : aH} (hS : Str h) : hR h 308 36 = some 329 := hS.at _ _ _ (by decide +kernel)
theorem r_308_37 {h : aH} (hS : Str h) : hR h 308 37 = some 330 := hS.at _ _ _ (by decide +kernel)
theorem r_308_38 {h : aH} (hS : Str h) : hR h 308 38 = some 331 := hS.at _ _ _ (by decide +kernel)
theorem r_308_39 {h : aH} (hS : Str h) : hR h 308 39 = some 332 := hS.at _ _ _ (by decide +kernel)
/-! what the parts of the invariant rest on -/
theorem RSt.mv {h h' : aH} {a : Nat} {S S' : Nat → Int32} (r : RSt h a S) (e : ∀ b, a ≤ b → b ≤ a + 6 → hI h' b = hI h b) (eL : hL h' a = hL h a) (eS : ∀ j, j < 110 → S' j = S j) : RSt h' a S' := by
  obtain ⟨⟨a0, a1, a2, a3, a4, a5, a6⟩, b, c, d⟩ := r
  have e0 := e a (by omega) (by omega)
  refine ⟨⟨?_, ?_, ?_, ?_, ?_, ?_, ?_⟩, fun p hp => ?_, fun q hq => ?_, fun k hk => ?_⟩
  · rw [e0, eS _ (by omega)]; exact a0
  · rw [e0, eS _ (by omega)]; exact a1
  · rw [e0, eS _ (by omega)]; exact a2
  · rw [e0, eS _ (by omega)]; exact a3
  · rw [e0, eS _ (by omega)]; exact a4
  · rw [e0, eS _ (by omega)]; exact a5
  · rw [eL, lateOf, eS _ (by omega), eS _ (by omega), eS _ (by omega)]; exact a6
  · rw [e _ (by omega) (by omega), e _ (by omega) (by omega), e _ (by omega) (by omega), eS _ (by omega), eS _ (by omega), eS _ (by omega)]; exact b p hp
  · rw [e _ (by omega) (by omega), eS _ (by omega)]; exact c q hq
  · rw [e _ (by omega) (by omega), e _ (by omega) (by omega), eS _ (by omega), eS _ (by omega)]; exact d k hk
theorem RW.mv {h h' : aH} {a : Nat} {S : Nat → Int32} {f f' x x' : Int32} (r : RW h a S f x) (e : ∀ b, a < b → b ≤ a + 17 → hI h' b = hI h b ∧ hL h' b = hL h b) (e5 : hI h' a 5 = hI h a 5) (e6 : hI h' a 6 = f') (e7 : hI h' a 7 = x') (hx : Btw x' 0 2147483647) : RW h' a S f' x' := by
  obtain ⟨r1, r2, r3, r4, r5, r6, r7, r8, r9⟩ := r
  refine ⟨r1.mv (fun b h1 h2 => (e b (by omega) (by omega)).1) (e _ (by omega) (by omega)).2 (fun _ _ => rfl), r2, ⟨fun q => (r3.1 q).mv (fun b h1 h2 => (e b (by omega) (by omega)).1) (e _ (by omega) (by omega)).2 (fun _ _ => rfl), by rw [(e _ (by omega) (by omega)).1]; exact r3.2⟩, e5.trans r4, r5, e6, e7, hx, fun i hi hlt => ?_⟩
  rw [(e _ (by omega) (by omega)).1, (e _ (by omega) (by omega)).1, (e _ (by omega) (by omega)).1]
  exact r9 i hi hlt
theorem RTape.mv {h h' : aH} (r : RTape h) (e1 : hI h' 1 1 = hI h 1 1) (e2 : hI h' 2 = hI h 2) (e3 : hI h' 308 1 = hI h 308 1) (e4 : hI h' 309 = hI h 309) : RTape h' := by
  unfold RTape; rw [e1, e2, e3, e4]; exact r
theorem RRule.mv {h h' : aH} {k : Nat} (hk : k < 6) (r : RRule h k) (e : ∀ b, 66 ≤ b → b ≤ 95 → hI h' b = hI h b) (f : ∀ b, 310 ≤ b → b ≤ 313 → hI h' b = hI h b) : RRule h' k := by
  unfold RRule
  rw [e (66 + 5 * k) (by omega) (by omega), e (67 + 5 * k) (by omega) (by omega), e (68 + 5 * k) (by omega) (by omega), e (69 + 5 * k) (by omega) (by omega), e (70 + 5 * k) (by omega) (by omega), f 310 (by omega) (by omega), f 311 (by omega) (by omega), f 312 (by omega) (by omega), f 313 (by omega) (by omega)]
  exact r
theorem RRules.mv {h h' : aH} (r : RRules h) (e4 : hI h' 0 4 = hI h 0 4) (e2 : hI h' 308 2 = hI h 308 2) (e : ∀ b, 66 ≤ b → b ≤ 95 → hI h' b = hI h b) (f : ∀ b, 310 ≤ b → b ≤ 313 → hI h' b = hI h b) : RRules h' := by
  obtain ⟨a, b, c⟩ := r
  refine ⟨by rw [e4, e2]; exact a, by rw [e2]; exact b, fun k hk hlt => ?_⟩
  rw [e2] at hlt
  exact (c k hk hlt).mv hk e f
theorem RPast.mv {h h' : aH} (r : RPast h) (e8 : hI h' 0 8 = hI h 0 8) (e9 : hI h' 0 9 = hI h 0 9) (e29 : hI h' 308 29 = hI h 308 29) (eS : hI h' 318 = hI h 318) (eW : hI h' 323 = hI h 323) (e : ∀ b, 168 ≤ b → b < 308 → hI h' b = hI h b ∧ hL h' b = hL h b) : RPast h' := by
  obtain ⟨a, b, c, d⟩ := r
  refine ⟨by rw [e9, e29]; exact a, by rw [e29]; exact b, by rw [e8]; exact c, fun i hi hlt => ?_⟩
  rw [e29] at hlt
  rw [e8, e29, eS, eW]
  have hm : ∀ n : Nat, n % 20 < 20 := fun n => Nat.mod_lt _ (by decide)
  have hm' := hm ((hI h 0 8).toNatClampNeg + 20 - (hI h 308 29).toNatClampNeg + i)
  exact ⟨(d i hi hlt).1.mv (fun b h1 h2 => (e b (by omega) (by omega)).1) (e _ (by omega) (by omega)).2 (fun _ _ => rfl), (d i hi hlt).2⟩
theorem RImages.mv {h h' : aH} (r : RImages h) (e : ∀ b, 96 ≤ b → b < 168 → hI h' b = hI h b ∧ hL h' b = hL h b) (e2 : hI h' 308 2 = hI h 308 2) (f : ∀ b, 329 ≤ b → b ≤ 332 → hI h' b = hI h b) : RImages h' := by
  intro k hk
  obtain ⟨a, b, c⟩ := r k hk
  rw [f 332 (by omega) (by omega), f 329 (by omega) (by omega), f 330 (by omega) (by omega), f 331 (by omega) (by omega), (e _ (by omega) (by omega)).1, e2]
  refine ⟨a, b, fun q => ⟨(c q).1.mv (fun x h1 h2 => e x (by omega) (by omega)) ?_ ?_ ?_ (c q).1.2.2.2.2.2.2.2.1, (c q).2⟩⟩
  · rw [(e _ (by omega) (by omega)).1]
  · rw [(e _ (by omega) (by omega)).1]; exact (c q).1.2.2.2.2.2.1
  · rw [(e _ (by omega) (by omega)).1]; exact (c q).1.2.2.2.2.2.2.1
theorem upd_at (f : Nat → Int32) (k : Nat) (x : Int32) : upd f k x k = x := if_pos rfl
theorem upd_ne (f : Nat → Int32) {k j : Nat} (x : Int32) (h : j ≠ k) : upd f k x j = f j := if_neg h
theorem hI_ne (h : aH) {a b i : Nat} {x : Int32} (n : b ≠ a) : hI (pI h a i x) b = hI h b := by rw [hI_pI, if_neg n]
theorem hI_eq (h : aH) {a i : Nat} {x : Int32} : hI (pI h a i x) a = upd (hI h a) i x := by rw [hI_pI, if_pos rfl]
/-- cells that the invariant doesn't speak of, and those of which it speaks entry by entry -/
def Sc (a : Nat) : Prop := a = 0 ∨ a = 1 ∨ (3 ≤ a ∧ a ≤ 9) ∨ a = 11 ∨ (31 ≤ a ∧ a ≤ 65) ∨ a = 308 ∨ (314 ≤ a ∧ a ≤ 317) ∨ (319 ≤ a ∧ a ≤ 322) ∨ (324 ≤ a ∧ a ≤ 328)
theorem Inv.chg {h h' : aH} (hV : Inv h) (u : Upd Sc h h') (t1 : hI h' 1 1 = hI h' 308 1) (t2 : Btw (hI h' 308 1) 0 400) (e04 : hI h' 0 4 = hI h 0 4) (e08 : hI h' 0 8 = hI h 0 8) (e09 : hI h' 0 9 = hI h 0 9) (e115 : hI h' 11 5 = hI h 11 5) (e2 : hI h' 308 2 = hI h 308 2) (e29 : hI h' 308 29 = hI h 308 29) (f1 : hI h' 11 6 = hI h' 308 21) (f2 : -1 ≤ hI h' 308 21 ∧ hI h' 308 21 < hI h 308 2) (x1 : hI h' 11 7 = hI h' 308 22) (x2 : Btw (hI h' 308 22) 0 2147483647) (d : hI h' 308 23 = 0) : Inv h' := by
  obtain ⟨v0, v1, v2, v3, v4, v5, v6, v7⟩ := hV
  have o : ∀ b, ¬ Sc b → hI h' b = hI h b := fun b hb => u.2.2.1 b hb
  have ol : ∀ b, ¬ Sc b → hL h' b = hL h b := fun b hb => u.2.2.2 b hb
  refine ⟨u.str v0, ⟨t1, t2, ?_⟩, v2.mv e04 e2 (fun b _ _ => o b (by unfold Sc; omega)) (fun b _ _ => o b (by unfold Sc; omega)), ?_, ?_, v5.mv e08 e09 e29 (o 318 (by unfold Sc; omega)) (o 323 (by unfold Sc; omega)) (fun b _ _ => ⟨o b (by unfold Sc; omega), ol b (by unfold Sc; omega)⟩), v6.mv (fun b _ _ => ⟨o b (by unfold Sc; omega), ol b (by unfold Sc; omega)⟩) e2 (fun b _ _ => o b (by unfold Sc; omega)), d⟩
  · rw [o 2 (by unfold Sc; omega), o 309 (by unfold Sc; omega)]; exact v1.2.2
  · rw [o 318 (by unfold Sc; omega)]
    exact v3.mv (fun b _ _ => ⟨o b (by unfold Sc; omega), ol b (by unfold Sc; omega)⟩) e115 f1 x1 x2
  · rw [e2]; exact f2
