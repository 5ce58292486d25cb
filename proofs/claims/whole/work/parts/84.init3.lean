/-! ===== the first state ===== -/
def zRows : List (Nat × Nat) := [(2, 400), (309, 400), (318, 184), (19, 6), (20, 8), (21, 8), (22, 8), (23, 4), (24, 32), (25, 32), (332, 4)]
def zAt : List (Nat × Nat) := [(0, 4), (0, 8), (0, 9), (1, 1), (308, 1), (308, 2), (308, 22), (308, 23), (308, 29), (11, 5), (11, 7), (96, 8), (114, 8), (132, 8), (150, 8), (12, 0)]
def okI (h : aH) : Bool := decide (h.1 = 333) && (rfL.all (fun q => decide (hR h q.1 q.2.1 = some q.2.2)) && (zRows.all (fun q => (List.range q.2).all (fun j => decide (hI h q.1 j = 0))) && (zAt.all (fun q => decide (hI h q.1 q.2 = 0)) && (decide (hI h 11 6 = -1) && (decide (hI h 308 21 = -1) && decide (hL h 19 6 = 0))))))
def chkI : Bool := match f_X11_init (aN aH0) 0 with
  | none => false
  | some q => decide (q.2.1 = 308) && (match f_X12_init (aN q.2) 308 with
    | none => false
    | some p => okI p.2)
theorem chkI_true : chkI = true := by decide +kernel
theorem okI_spec {h : aH} (k : okI h = true) : h.1 = 333 ∧ (∀ q ∈ rfL, hR h q.1 q.2.1 = some q.2.2) ∧ (∀ q ∈ zRows, ∀ j, j < q.2 → hI h q.1 j = 0) ∧ (∀ q ∈ zAt, hI h q.1 q.2 = 0) ∧ hI h 11 6 = -1 ∧ hI h 308 21 = -1 ∧ hL h 19 6 = 0 := by
  unfold okI at k
  simp only [Bool.and_eq_true, decide_eq_true_eq, List.all_eq_true, List.mem_range] at k
  obtain ⟨k1, k2, k3, k4, k5, k6, k7⟩ := k
  exact ⟨k1, k2, fun q hq j hj => k3 q hq j hj, k4, k5, k6, k7⟩
theorem init_inv {h : aH} (k : okI h = true) : Inv h := by
  obtain ⟨k1, k2, k3, k4, k5, k6, k7⟩ := okI_spec k
  have z : ∀ a n, (a, n) ∈ zRows → ∀ j, j < n → hI h a j = 0 := fun a n hm j hj => k3 (a, n) hm j hj
  have y : ∀ a j, (a, j) ∈ zAt → hI h a j = 0 := fun a j hm => k4 (a, j) hm
  have s : ∀ j, j < 184 → hI h 318 j = 0 := z 318 184 (by decide)
  have b0 : ∀ lo hi : Int32, lo ≤ 0 → 0 ≤ hi → Btw 0 lo hi := fun lo hi a b => ⟨a, b⟩
  have n0 : ∀ i : Nat, i < 20 → ¬ nI i < 0 := fun i hi => nI_pos (by omega)
  refine ⟨⟨k1, k2⟩, ⟨?_, ?_, fun j hj => ⟨?_, ?_⟩⟩, ⟨?_, ?_, fun k hk hlt => ?_⟩, ⟨?_, ?_, ⟨fun q => ?_, Or.inl (y 12 0 (by decide))⟩, ?_, ?_, k5.trans k6.symm, ?_, ?_, fun i hi hlt => ?_⟩, ⟨?_, ?_⟩, ⟨?_, ?_, ?_, fun i hi hlt => ?_⟩, fun k hk => ⟨Or.inl ?_, ?_, fun q => ?_⟩, y _ _ (by decide)⟩
  · rw [y 1 1 (by decide), y 308 1 (by decide)]
  · rw [y 308 1 (by decide)]; decide
  · rw [z 2 400 (by decide) j hj, z 309 400 (by decide) j hj]
  · rw [z 309 400 (by decide) j hj]; decide
  · rw [y 0 4 (by decide), y 308 2 (by decide)]
  · rw [y 308 2 (by decide)]; decide
  · rw [y 308 2 (by decide)] at hlt; exact absurd hlt (n0 k (by omega))
  · refine ⟨⟨?_, ?_, ?_, ?_, ?_, ?_, ?_⟩, fun p hp => ⟨?_, ?_, ?_⟩, fun e he => ?_, fun k hk => ⟨?_, ?_⟩⟩
    · rw [z 19 6 (by decide) 0 (by decide), s 0 (by decide)]
    · rw [z 19 6 (by decide) 1 (by decide), s 1 (by decide)]
    · rw [z 19 6 (by decide) 2 (by decide), s 2 (by decide)]
    · rw [z 19 6 (by decide) 3 (by decide), s 3 (by decide)]
    · rw [z 19 6 (by decide) 4 (by decide), s 4 (by decide)]
    · rw [z 19 6 (by decide) 5 (by decide), s 10 (by decide)]
    · show hL h 19 6 = _
      rw [k7, lateOf, s 75 (by decide), s 76 (by decide), s 77 (by decide)]; decide
    · show hI h 20 p = _
      rw [z 20 8 (by decide) p hp, s _ (by omega)]
    · show hI h 21 p = _
      rw [z 21 8 (by decide) p hp, s _ (by omega)]
    · show hI h 22 p = _
      rw [z 22 8 (by decide) p hp, s _ (by omega)]
    · show hI h 23 e = _
      rw [z 23 4 (by decide) e he, s _ (by omega)]
    · show hI h 24 k = _
      rw [z 24 32 (by decide) k hk, s _ (by omega)]
    · show hI h 25 k = _
      rw [z 25 32 (by decide) k hk, s _ (by omega)]
  · have z3 : nE (hI h 318) = 0 := by unfold nE; rw [s 3 (by decide)]; rfl
    have z4 : nW (hI h 318) = 0 := by unfold nW; rw [s 4 (by decide)]; rfl
    refine ⟨⟨Or.inl (s 0 (by decide)), ?_, ?_, fun _ => ⟨s 3 (by decide), s 4 (by decide)⟩, ⟨?_, ?_, ?_⟩, fun k hk => ⟨?_, ?_⟩, fun e he => ?_, fun w hw => ?_⟩, ⟨⟨?_, ?_, ?_⟩, fun k hk => ?_⟩, ⟨0, by omega, s 10 (by decide)⟩⟩
    · rw [s 3 (by decide)]; decide
    · rw [s 4 (by decide)]; decide
    · rw [s 75 (by decide)]; decide
    · rw [s 76 (by decide)]; decide
    · rw [s 77 (by decide)]; decide
    · rw [s _ (by omega)]; decide
    · rw [s _ (by omega)]; decide
    · rw [z3] at he; omega
    · rw [z4] at hw; omega
    · rw [s 150 (by decide)]; decide
    · rw [s 151 (by decide)]; decide
    · rw [s 152 (by decide)]; decide
    · rw [s _ (by omega)]; decide
  · rw [s 0 (by decide)] at q; exact absurd q (by decide)
  · rw [y 11 5 (by decide), s 183 (by decide)]
  · rw [s 183 (by decide)]; decide
  · rw [y 11 7 (by decide), y 308 22 (by decide)]
  · rw [y 308 22 (by decide)]; decide
  · rw [s 183 (by decide)] at hlt; exact absurd hlt (n0 i (by omega))
  · rw [k6]; decide
  · rw [k6, y 308 2 (by decide)]; decide
  · rw [y 0 9 (by decide), y 308 29 (by decide)]
  · rw [y 308 29 (by decide)]; decide
  · rw [y 0 8 (by decide)]; decide
  · rw [y 308 29 (by decide)] at hlt; exact absurd hlt (n0 i hi)
  · exact z 332 4 (by decide) k hk
  · have e : hI h (96 + 18 * k) 8 = 0 := by
      match k, hk with
      | 0, _ => exact y 96 8 (by decide)
      | 1, _ => exact y 114 8 (by decide)
      | 2, _ => exact y 132 8 (by decide)
      | 3, _ => exact y 150 8 (by decide)
      | k + 4, hk => omega
    rw [e, z 332 4 (by decide) k hk]
  · rw [z 332 4 (by decide) k hk] at q; exact absurd q (by decide)
/-- the law's function, out of the 29 calls -/
theorem law_of (ops : OpsAll Inv) (L : Nat) (hL : L ≤ 3072) (xs : Nat → Int32) : ∃ h', f_L_law L xs aH0 = some (1, h') ∧ h'.1 = aNN := by
  have hc := chkI_true
  unfold chkI at hc
  cases e1 : f_X11_init (aN aH0) 0 with
  | none => rw [e1] at hc; cases hc
  | some q =>
    obtain ⟨u1, h1⟩ := q
    rw [e1] at hc
    simp only [Bool.and_eq_true, decide_eq_true_eq] at hc
    obtain ⟨hn1, hc⟩ := hc
    cases e2 : f_X12_init (aN h1) 308 with
    | none => rw [e2] at hc; cases hc
    | some p =>
      obtain ⟨u2, h2⟩ := p
      rw [e2] at hc
      have hI := init_inv hc
      obtain ⟨h', hf, hN⟩ := law_loop (fun h hh => hh.n) ops hL xs 2000 0 h2 hI (by omega) (by omega)
      refine ⟨h', ?_, hN⟩
      unfold f_L_law
      have z0 : aH0.1 = 0 := rfl
      simp only [aLet, z0, e1, aBind_some, hn1, e2]
      rw [if_pos ⟨by rw [sh_0]; rfl, by decide⟩, if_pos ⟨by rw [sh_308]; rfl, by decide⟩, if_pos hI.n]
      exact hf
