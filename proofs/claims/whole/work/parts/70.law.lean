abbrev kL_law : aM := (yL_law, cL_law, 4, some .boolean)
/-- the script: its place, length and ints -/
def aPhi (L : Nat) (xs : Nat → Int32) : aG → State → Prop := fun g s => va_X (g.2.1 1030) L xs s s.heap ∧ g.2.1 1030 < s.heap.size ∧ ¬ aA g (g.2.1 1030)
section LAWR
variable {ρ : Type} {E : ρ → Option Value} {d : Nat} {K : aM} {pc : Nat} {lv : List (Option Value)} {st : List Value} {h : aH} {o : Option (ρ × aH)} {L : Nat} {xs : Nat → Int32}
theorem ao_xlen (hd : decode K.2.1 pc = .ok (.arraylength, 1)) (k : AOx (aPhi L xs) E d K (pc + 1) lv (.int (Int32.ofNat L) :: st) h o) : AOx (aPhi L xs) E d K pc lv (.ref 1030 :: st) h o := by
  intro g r h' e hN
  obtain ⟨a, b⟩ := k g r h' e hN
  refine ⟨a, ?_⟩
  intro p l e R s m args below meth c H locs n0 ls hΦ C hR hr hS h1 h2 hl
  exact va_slen C.1 C.2.1 hΦ.1 hΦ.2.1 hΦ.2.2 hS hd (b p l e R s m args below meth c H locs n0 ls hΦ C hR hr hS h1 h2 hl)
theorem ao_xald {i : Int32} (hd : decode K.2.1 pc = .ok (.iaload, 1)) (k : AOx (aPhi L xs) E d K (pc + 1) lv (.int (xs i.toNatClampNeg) :: st) h o) : AOx (aPhi L xs) E d K pc lv (.int i :: .ref 1030 :: st) h (if aIn i L then o else none) := ao_chk fun hi => by
  intro g r h' e hN
  obtain ⟨a, b⟩ := k g r h' e hN
  refine ⟨a, ?_⟩
  intro p l e R s m args below meth c H locs n0 ls hΦ C hR hr hS h1 h2 hl
  exact va_sld C.1 C.2.1 hΦ.1 hΦ.2.1 hΦ.2.2 hS hi hd (b p l e R s m args below meth c H locs n0 ls hΦ C hR hr hS h1 h2 hl)
theorem aoc_ao {Φ : aG → State → Prop} (k : AOx Φ E d K pc lv st h o) : AOc Φ E d K pc lv st h (if h.1 = aNN then o else none) := aoc_chk fun hN => by
  intro g r h' e
  obtain ⟨a, b⟩ := k g r h' e hN
  rw [← a] at b
  exact ⟨by rw [hN, a]; exact Nat.le_refl _, b⟩
end LAWR
def b_L_law_1001 (L0 : Nat) (xs : Nat → Int32) (k18 : aH → Nat → Nat → Int32 → Option (Int32 × aH)) (h : aH) (a1 : Nat) (a2 : Nat) (x3 : Int32) : Option (Int32 × aH) :=
k18 h a1 a2 (x3 + 6)
set_option maxHeartbeats 4000000 in
theorem t_L_law_1001 {L0 : Nat} {xs : Nat → Int32} {k18 : aH → Nat → Nat → Int32 → Option (Int32 × aH)} (hk18 : ∀ (h : aH) (a1 : Nat) (a2 : Nat) (x3 : Int32), AOx (aPhi L0 xs) eI 53 kL_law 18 [some (.ref 1030), some (.ref a1), some (.ref a2), some (.int x3)] [] h (k18 h a1 a2 x3)) (h : aH) (a1 : Nat) (a2 : Nat) (x3 : Int32) : AOx (aPhi L0 xs) eI 53 kL_law 1001 [some (.ref 1030), some (.ref a1), some (.ref a2), some (.int x3)] [] h (b_L_law_1001 L0 xs k18 h a1 a2 x3) := by
  unfold b_L_law_1001
  refine ao_s (st_iinc (lv' := [some (.ref 1030), some (.ref a1), some (.ref a2), some (.int (x3 + 6))]) dL_law_1001 rfl nc_6 (by decide) rfl) ?_
  refine ao_s (st_goto 18 dL_law_1004 (by decide)) ?_
  exact ao_w (sb_s (sb_s (sb_s (sb_s sb_0)))) (hk18 h a1 a2 (x3 + 6))
def b_L_law_18 (L0 : Nat) (xs : Nat → Int32) (k18 : aH → Nat → Nat → Int32 → Option (Int32 × aH)) (h : aH) (a1 : Nat) (a2 : Nat) (x3 : Int32) : Option (Int32 × aH) :=
(if (Int32.ofNat L0) - 6 < x3 then
some (1, h)
else
(if aIn x3 L0 then
(aLet ((xs x3.toNatClampNeg) &&& 31) fun x21 =>
(if x21 = 0 then
(aLet (x3 + 1) fun x51 =>
(if aIn x51 L0 then
(aLet (x3 + 2) fun x52 =>
(if aIn x52 L0 then
(aLet (x3 + 3) fun x53 =>
(if aIn x53 L0 then
(aLet (x3 + 4) fun x54 =>
(if aIn x54 L0 then
(aLet (x3 + 5) fun x55 =>
(if aIn x55 L0 then
(if (sh a1).1 = 18 then
(aBind (f_X11_feed h a1 (xs x51.toNatClampNeg) (xs x52.toNatClampNeg) (xs x53.toNatClampNeg) (xs x54.toNatClampNeg) (xs x55.toNatClampNeg)) fun r57 h58 =>
(aLet (x3 + 1) fun x59 =>
(if aIn x59 L0 then
(aLet (x3 + 2) fun x60 =>
(if aIn x60 L0 then
(aLet (x3 + 3) fun x61 =>
(if aIn x61 L0 then
(aLet (x3 + 4) fun x62 =>
(if aIn x62 L0 then
(aLet (x3 + 5) fun x63 =>
(if aIn x63 L0 then
(if (sh a2).1 = 19 then
(aBind (f_X12_feed h58 a2 (xs x59.toNatClampNeg) (xs x60.toNatClampNeg) (xs x61.toNatClampNeg) (xs x62.toNatClampNeg) (xs x63.toNatClampNeg)) fun r65 h66 =>
(if r57 = r65 then
b_L_law_1001 L0 xs k18 h66 a1 a2 x3
else
some (0, h66)))
else none)
else none))
else none))
else none))
else none))
else none)))
else none)
else none))
else none))
else none))
else none))
else none))
else
(if x21 = 1 then
(aLet (x3 + 1) fun x68 =>
(if aIn x68 L0 then
(if (sh a1).1 = 18 then
(aBind (f_X11_end h a1 (xs x68.toNatClampNeg)) fun r70 h71 =>
(aLet (x3 + 1) fun x72 =>
(if aIn x72 L0 then
(if (sh a2).1 = 19 then
(aBind (f_X12_end h71 a2 (xs x72.toNatClampNeg)) fun r74 h75 =>
(if r70 = r74 then
b_L_law_1001 L0 xs k18 h75 a1 a2 x3
else
some (0, h75)))
else none)
else none)))
else none)
else none))
else
(if x21 = 2 then
(if (sh a1).1 = 18 then
(aBind (f_X11_isle h a1) fun r78 h79 =>
(if (sh a2).1 = 19 then
(aBind (f_X12_isle h79 a2) fun r81 h82 =>
(if r78 = r81 then
b_L_law_1001 L0 xs k18 h82 a1 a2 x3
else
some (0, h82)))
else none))
else none)
else
(if x21 = 3 then
(if (sh a1).1 = 18 then
(aBind (f_X11_rule h a1) fun r85 h86 =>
(if (sh a2).1 = 19 then
(aBind (f_X12_rule h86 a2) fun r88 h89 =>
(if r85 = r88 then
b_L_law_1001 L0 xs k18 h89 a1 a2 x3
else
some (0, h89)))
else none))
else none)
else
(if x21 = 4 then
(aLet (x3 + 1) fun x91 =>
(if aIn x91 L0 then
(if (sh a1).1 = 18 then
(aBind (f_X11_force h a1 (xs x91.toNatClampNeg)) fun r93 h94 =>
(aLet (x3 + 1) fun x95 =>
(if aIn x95 L0 then
(if (sh a2).1 = 19 then
(aBind (f_X12_force h94 a2 (xs x95.toNatClampNeg)) fun r97 h98 =>
(if r93 = r97 then
b_L_law_1001 L0 xs k18 h98 a1 a2 x3
else
some (0, h98)))
else none)
else none)))
else none)
else none))
else
(if x21 = 5 then
(aLet (x3 + 1) fun x100 =>
(if aIn x100 L0 then
(aLet (x3 + 2) fun x101 =>
(if aIn x101 L0 then
(if (sh a1).1 = 18 then
(aBind (f_X11_east h a1 (xs x100.toNatClampNeg) (xs x101.toNatClampNeg)) fun r103 h104 =>
(aLet (x3 + 1) fun x105 =>
(if aIn x105 L0 then
(aLet (x3 + 2) fun x106 =>
(if aIn x106 L0 then
(if (sh a2).1 = 19 then
(aBind (f_X12_east h104 a2 (xs x105.toNatClampNeg) (xs x106.toNatClampNeg)) fun r108 h109 =>
(if r103 = r108 then
b_L_law_1001 L0 xs k18 h109 a1 a2 x3
else
some (0, h109)))
else none)
else none))
else none)))
else none)
else none))
else none))
else
(if x21 = 6 then
(aLet (x3 + 1) fun x111 =>
(if aIn x111 L0 then
(aLet (x3 + 2) fun x112 =>
(if aIn x112 L0 then
(if (sh a1).1 = 18 then
(aBind (f_X11_west h a1 (xs x111.toNatClampNeg) (xs x112.toNatClampNeg)) fun r114 h115 =>
(aLet (x3 + 1) fun x116 =>
(if aIn x116 L0 then
(aLet (x3 + 2) fun x117 =>
(if aIn x117 L0 then
(if (sh a2).1 = 19 then
(aBind (f_X12_west h115 a2 (xs x116.toNatClampNeg) (xs x117.toNatClampNeg)) fun r119 h120 =>
(if r114 = r119 then
b_L_law_1001 L0 xs k18 h120 a1 a2 x3
else
some (0, h120)))
else none)
else none))
else none)))
else none)
else none))
else none))
else
(if x21 = 7 then
(aLet (x3 + 1) fun x122 =>
(if aIn x122 L0 then
(aLet (x3 + 2) fun x123 =>
(if aIn x123 L0 then
(aLet (x3 + 3) fun x124 =>
(if aIn x124 L0 then
(if (sh a1).1 = 18 then
(aBind (f_X11_likes h a1 (xs x122.toNatClampNeg) (xs x123.toNatClampNeg) (xs x124.toNatClampNeg)) fun r126 h127 =>
(aLet (x3 + 1) fun x128 =>
(if aIn x128 L0 then
(aLet (x3 + 2) fun x129 =>
(if aIn x129 L0 then
(aLet (x3 + 3) fun x130 =>
(if aIn x130 L0 then
(if (sh a2).1 = 19 then
(aBind (f_X12_likes h127 a2 (xs x128.toNatClampNeg) (xs x129.toNatClampNeg) (xs x130.toNatClampNeg)) fun r132 h133 =>
(if r126 = r132 then
b_L_law_1001 L0 xs k18 h133 a1 a2 x3
else
some (0, h133)))
else none)
else none))
else none))
else none)))
else none)
else none))
else none))
else none))
else
(if x21 = 8 then
(if (sh a1).1 = 18 then
(aBind (f_X11_fair h a1) fun r136 h137 =>
(if (sh a2).1 = 19 then
(aBind (f_X12_fair h137 a2) fun r139 h140 =>
(if r136 = r139 then
b_L_law_1001 L0 xs k18 h140 a1 a2 x3
else
some (0, h140)))
else none))
else none)
else
(if x21 = 9 then
(aLet (x3 + 1) fun x142 =>
(if aIn x142 L0 then
(aLet (x3 + 2) fun x143 =>
(if aIn x143 L0 then
(if (sh a1).1 = 18 then
(aBind (f_X11_join h a1 (xs x142.toNatClampNeg) (xs x143.toNatClampNeg)) fun r145 h146 =>
(aLet (x3 + 1) fun x147 =>
(if aIn x147 L0 then
(aLet (x3 + 2) fun x148 =>
(if aIn x148 L0 then
(if (sh a2).1 = 19 then
(aBind (f_X12_join h146 a2 (xs x147.toNatClampNeg) (xs x148.toNatClampNeg)) fun r150 h151 =>
(if r145 = r150 then
b_L_law_1001 L0 xs k18 h151 a1 a2 x3
else
some (0, h151)))
else none)
else none))
else none)))
else none)
else none))
else none))
else
(if x21 = 10 then
(aLet (x3 + 1) fun x153 =>
(if aIn x153 L0 then
(if (sh a1).1 = 18 then
(aBind (f_X11_part h a1 (xs x153.toNatClampNeg)) fun r155 h156 =>
(aLet (x3 + 1) fun x157 =>
(if aIn x157 L0 then
(if (sh a2).1 = 19 then
(aBind (f_X12_part h156 a2 (xs x157.toNatClampNeg)) fun r159 h160 =>
(if r155 = r159 then
b_L_law_1001 L0 xs k18 h160 a1 a2 x3
else
some (0, h160)))
else none)
else none)))
else none)
else none))
else
(if x21 = 11 then
(if (sh a1).1 = 18 then
(aBind (f_X11_hold h a1) fun r163 h164 =>
(if (sh a2).1 = 19 then
(aBind (f_X12_hold h164 a2) fun r166 h167 =>
(if r163 = r166 then
b_L_law_1001 L0 xs k18 h167 a1 a2 x3
else
some (0, h167)))
else none))
else none)
else
(if x21 = 12 then
(if (sh a1).1 = 18 then
(aBind (f_X11_undo h a1) fun r170 h171 =>
(if (sh a2).1 = 19 then
(aBind (f_X12_undo h171 a2) fun r173 h174 =>
(if r170 = r173 then
b_L_law_1001 L0 xs k18 h174 a1 a2 x3
else
some (0, h174)))
else none))
else none)
else
(if x21 = 13 then
(aLet (x3 + 1) fun x176 =>
(if aIn x176 L0 then
(aLet (x3 + 2) fun x177 =>
(if aIn x177 L0 then
(aLet (x3 + 3) fun x178 =>
(if aIn x178 L0 then
(if (sh a1).1 = 18 then
(aBind (f_X11_ahead h a1 (xs x176.toNatClampNeg) (xs x177.toNatClampNeg) (xs x178.toNatClampNeg)) fun r180 h181 =>
(aLet (x3 + 1) fun x182 =>
(if aIn x182 L0 then
(aLet (x3 + 2) fun x183 =>
(if aIn x183 L0 then
(aLet (x3 + 3) fun x184 =>
(if aIn x184 L0 then
(if (sh a2).1 = 19 then
(aBind (f_X12_ahead h181 a2 (xs x182.toNatClampNeg) (xs x183.toNatClampNeg) (xs x184.toNatClampNeg)) fun r186 h187 =>
(if r180 = r186 then
b_L_law_1001 L0 xs k18 h187 a1 a2 x3
else
some (0, h187)))
else none)
else none))
else none))
else none)))
else none)
else none))
else none))
else none))
else
(if x21 = 14 then
(aLet (x3 + 1) fun x189 =>
(if aIn x189 L0 then
(if (sh a1).1 = 18 then
(aBind (f_X11_lasts h a1 (xs x189.toNatClampNeg)) fun r191 h192 =>
(aLet (x3 + 1) fun x193 =>
(if aIn x193 L0 then
(if (sh a2).1 = 19 then
(aBind (f_X12_lasts h192 a2 (xs x193.toNatClampNeg)) fun r195 h196 =>
(if r191 = r195 then
b_L_law_1001 L0 xs k18 h196 a1 a2 x3
else
some (0, h196)))
else none)
else none)))
else none)
else none))
else
(if x21 = 15 then
(aLet (x3 + 1) fun x198 =>
(if aIn x198 L0 then
(if (sh a1).1 = 18 then
(aBind (f_X11_settled h a1 (xs x198.toNatClampNeg)) fun r200 h201 =>
(aLet (x3 + 1) fun x202 =>
(if aIn x202 L0 then
(if (sh a2).1 = 19 then
(aBind (f_X12_settled h201 a2 (xs x202.toNatClampNeg)) fun r204 h205 =>
(if r200 = r204 then
b_L_law_1001 L0 xs k18 h205 a1 a2 x3
else
some (0, h205)))
else none)
else none)))
else none)
else none))
else
(if x21 = 16 then
(aLet (x3 + 1) fun x207 =>
(if aIn x207 L0 then
(aLet (x3 + 2) fun x208 =>
(if aIn x208 L0 then
(aLet (x3 + 3) fun x209 =>
(if aIn x209 L0 then
(if (sh a1).1 = 18 then
(aBind (f_X11_tries h a1 (xs x207.toNatClampNeg) (xs x208.toNatClampNeg) (xs x209.toNatClampNeg)) fun r211 h212 =>
(aLet (x3 + 1) fun x213 =>
(if aIn x213 L0 then
(aLet (x3 + 2) fun x214 =>
(if aIn x214 L0 then
(aLet (x3 + 3) fun x215 =>
(if aIn x215 L0 then
(if (sh a2).1 = 19 then
(aBind (f_X12_tries h212 a2 (xs x213.toNatClampNeg) (xs x214.toNatClampNeg) (xs x215.toNatClampNeg)) fun r217 h218 =>
(if r211 = r217 then
b_L_law_1001 L0 xs k18 h218 a1 a2 x3
else
some (0, h218)))
else none)
else none))
else none))
else none)))
else none)
else none))
else none))
else none))
else
(if x21 = 17 then
(aLet (x3 + 1) fun x220 =>
(if aIn x220 L0 then
(if (sh a1).1 = 18 then
(aBind (f_X11_liked h a1 (xs x220.toNatClampNeg)) fun r222 h223 =>
(aLet (x3 + 1) fun x224 =>
(if aIn x224 L0 then
(if (sh a2).1 = 19 then
(aBind (f_X12_liked h223 a2 (xs x224.toNatClampNeg)) fun r226 h227 =>
(if r222 = r226 then
b_L_law_1001 L0 xs k18 h227 a1 a2 x3
else
some (0, h227)))
else none)
else none)))
else none)
else none))
else
(if x21 = 18 then
(aLet (x3 + 1) fun x229 =>
(if aIn x229 L0 then
(aLet (x3 + 2) fun x230 =>
(if aIn x230 L0 then
(if (sh a1).1 = 18 then
(aBind (f_X11_doors h a1 (xs x229.toNatClampNeg) (xs x230.toNatClampNeg)) fun r232 h233 =>
(aLet (x3 + 1) fun x234 =>
(if aIn x234 L0 then
(aLet (x3 + 2) fun x235 =>
(if aIn x235 L0 then
(if (sh a2).1 = 19 then
(aBind (f_X12_doors h233 a2 (xs x234.toNatClampNeg) (xs x235.toNatClampNeg)) fun r237 h238 =>
(if r232 = r237 then
b_L_law_1001 L0 xs k18 h238 a1 a2 x3
else
some (0, h238)))
else none)
else none))
else none)))
else none)
else none))
else none))
else
(if x21 = 19 then
(aLet (x3 + 1) fun x240 =>
(if aIn x240 L0 then
(aLet (x3 + 2) fun x241 =>
(if aIn x241 L0 then
(if (sh a1).1 = 18 then
(aBind (f_X11_keep h a1 (xs x240.toNatClampNeg) (xs x241.toNatClampNeg)) fun r243 h244 =>
(aLet (x3 + 1) fun x245 =>
(if aIn x245 L0 then
(aLet (x3 + 2) fun x246 =>
(if aIn x246 L0 then
(if (sh a2).1 = 19 then
(aBind (f_X12_keep h244 a2 (xs x245.toNatClampNeg) (xs x246.toNatClampNeg)) fun r248 h249 =>
(if r243 = r248 then
b_L_law_1001 L0 xs k18 h249 a1 a2 x3
else
some (0, h249)))
else none)
else none))
else none)))
else none)
else none))
else none))
else
(if x21 = 20 then
(aLet (x3 + 1) fun x251 =>
(if aIn x251 L0 then
(aLet (x3 + 2) fun x252 =>
(if aIn x252 L0 then
(aLet (x3 + 3) fun x253 =>
(if aIn x253 L0 then
(if (sh a1).1 = 18 then
(aBind (f_X11_note h a1 (xs x251.toNatClampNeg) (xs x252.toNatClampNeg) (xs x253.toNatClampNeg)) fun r255 h256 =>
(aLet (x3 + 1) fun x257 =>
(if aIn x257 L0 then
(aLet (x3 + 2) fun x258 =>
(if aIn x258 L0 then
(aLet (x3 + 3) fun x259 =>
(if aIn x259 L0 then
(if (sh a2).1 = 19 then
(aBind (f_X12_note h256 a2 (xs x257.toNatClampNeg) (xs x258.toNatClampNeg) (xs x259.toNatClampNeg)) fun r261 h262 =>
(if r255 = r261 then
b_L_law_1001 L0 xs k18 h262 a1 a2 x3
else
some (0, h262)))
else none)
else none))
else none))
else none)))
else none)
else none))
else none))
else none))
else
(if x21 = 21 then
(aLet (x3 + 1) fun x264 =>
(if aIn x264 L0 then
(if (sh a1).1 = 18 then
(aBind (f_X11_ruled h a1 (xs x264.toNatClampNeg)) fun r266 h267 =>
(aLet (x3 + 1) fun x268 =>
(if aIn x268 L0 then
(if (sh a2).1 = 19 then
(aBind (f_X12_ruled h267 a2 (xs x268.toNatClampNeg)) fun r270 h271 =>
(if r266 = r270 then
b_L_law_1001 L0 xs k18 h271 a1 a2 x3
else
some (0, h271)))
else none)
else none)))
else none)
else none))
else
(if x21 = 22 then
(aLet (x3 + 1) fun x273 =>
(if aIn x273 L0 then
(aLet (x3 + 2) fun x274 =>
(if aIn x274 L0 then
(if (sh a1).1 = 18 then
(aBind (f_X11_boats h a1 (xs x273.toNatClampNeg) (xs x274.toNatClampNeg)) fun r276 h277 =>
(aLet (x3 + 1) fun x278 =>
(if aIn x278 L0 then
(aLet (x3 + 2) fun x279 =>
(if aIn x279 L0 then
(if (sh a2).1 = 19 then
(aBind (f_X12_boats h277 a2 (xs x278.toNatClampNeg) (xs x279.toNatClampNeg)) fun r281 h282 =>
(if r276 = r281 then
b_L_law_1001 L0 xs k18 h282 a1 a2 x3
else
some (0, h282)))
else none)
else none))
else none)))
else none)
else none))
else none))
else
(if x21 = 23 then
(aLet (x3 + 1) fun x284 =>
(if aIn x284 L0 then
(aLet (x3 + 2) fun x285 =>
(if aIn x285 L0 then
(if (sh a1).1 = 18 then
(aBind (f_X11_look h a1 (xs x284.toNatClampNeg) (xs x285.toNatClampNeg)) fun r287 h288 =>
(aLet (x3 + 1) fun x289 =>
(if aIn x289 L0 then
(aLet (x3 + 2) fun x290 =>
(if aIn x290 L0 then
(if (sh a2).1 = 19 then
(aBind (f_X12_look h288 a2 (xs x289.toNatClampNeg) (xs x290.toNatClampNeg)) fun r292 h293 =>
(if r287 = r292 then
b_L_law_1001 L0 xs k18 h293 a1 a2 x3
else
some (0, h293)))
else none)
else none))
else none)))
else none)
else none))
else none))
else
(if x21 = 24 then
(aLet (x3 + 1) fun x295 =>
(if aIn x295 L0 then
(if (sh a1).1 = 18 then
(aBind (f_X11_seed h a1 (xs x295.toNatClampNeg)) fun r297 h298 =>
(aLet (x3 + 1) fun x299 =>
(if aIn x299 L0 then
(if (sh a2).1 = 19 then
(aBind (f_X12_seed h298 a2 (xs x299.toNatClampNeg)) fun r301 h302 =>
(if r297 = r301 then
b_L_law_1001 L0 xs k18 h302 a1 a2 x3
else
some (0, h302)))
else none)
else none)))
else none)
else none))
else
(if x21 = 25 then
(aLet (x3 + 1) fun x304 =>
(if aIn x304 L0 then
(aLet (x3 + 2) fun x305 =>
(if aIn x305 L0 then
(aLet (x3 + 3) fun x306 =>
(if aIn x306 L0 then
(aLet (x3 + 4) fun x307 =>
(if aIn x307 L0 then
(if (sh a1).1 = 18 then
(aBind (f_X11_isles h a1 (xs x304.toNatClampNeg) (xs x305.toNatClampNeg) (xs x306.toNatClampNeg) (xs x307.toNatClampNeg)) fun r309 h310 =>
(aLet (x3 + 1) fun x311 =>
(if aIn x311 L0 then
(aLet (x3 + 2) fun x312 =>
(if aIn x312 L0 then
(aLet (x3 + 3) fun x313 =>
(if aIn x313 L0 then
(aLet (x3 + 4) fun x314 =>
(if aIn x314 L0 then
(if (sh a2).1 = 19 then
(aBind (f_X12_isles h310 a2 (xs x311.toNatClampNeg) (xs x312.toNatClampNeg) (xs x313.toNatClampNeg) (xs x314.toNatClampNeg)) fun r316 h317 =>
(if r309 = r316 then
b_L_law_1001 L0 xs k18 h317 a1 a2 x3
else
some (0, h317)))
else none)
else none))
else none))
else none))
else none)))
else none)
else none))
else none))
else none))
else none))
else
(if x21 = 26 then
(aLet (x3 + 1) fun x319 =>
(if aIn x319 L0 then
(if (sh a1).1 = 18 then
(aBind (f_X11_count h a1 (xs x319.toNatClampNeg)) fun r321 h322 =>
(aLet (x3 + 1) fun x323 =>
(if aIn x323 L0 then
(if (sh a2).1 = 19 then
(aBind (f_X12_count h322 a2 (xs x323.toNatClampNeg)) fun r325 h326 =>
(if r321 = r325 then
b_L_law_1001 L0 xs k18 h326 a1 a2 x3
else
some (0, h326)))
else none)
else none)))
else none)
else none))
else
(if x21 = 27 then
(aLet (x3 + 1) fun x328 =>
(if aIn x328 L0 then
(if (sh a1).1 = 18 then
(aBind (f_X11_image h a1 (xs x328.toNatClampNeg)) fun r330 h331 =>
(aLet (x3 + 1) fun x332 =>
(if aIn x332 L0 then
(if (sh a2).1 = 19 then
(aBind (f_X12_image h331 a2 (xs x332.toNatClampNeg)) fun r334 h335 =>
(if r330 = r334 then
b_L_law_1001 L0 xs k18 h335 a1 a2 x3
else
some (0, h335)))
else none)
else none)))
else none)
else none))
else
(if x21 = 28 then
(aLet (x3 + 1) fun x337 =>
(if aIn x337 L0 then
(if (sh a1).1 = 18 then
(aBind (f_X11_back h a1 (xs x337.toNatClampNeg)) fun r339 h340 =>
(aLet (x3 + 1) fun x341 =>
(if aIn x341 L0 then
(if (sh a2).1 = 19 then
(aBind (f_X12_back h340 a2 (xs x341.toNatClampNeg)) fun r343 h344 =>
(if r339 = r343 then
b_L_law_1001 L0 xs k18 h344 a1 a2 x3
else
some (0, h344)))
else none)
else none)))
else none)
else none))
else
b_L_law_1001 L0 xs k18 h a1 a2 x3))))))))))))))))))))))))))))))
else none))
set_option maxHeartbeats 4000000 in
theorem t_L_law_18 {L0 : Nat} {xs : Nat → Int32} {k18 : aH → Nat → Nat → Int32 → Option (Int32 × aH)} (hk18 : ∀ (h : aH) (a1 : Nat) (a2 : Nat) (x3 : Int32), AOx (aPhi L0 xs) eI 53 kL_law 18 [some (.ref 1030), some (.ref a1), some (.ref a2), some (.int x3)] [] h (k18 h a1 a2 x3)) (h : aH) (a1 : Nat) (a2 : Nat) (x3 : Int32) : AOx (aPhi L0 xs) eI 53 kL_law 18 [some (.ref 1030), some (.ref a1), some (.ref a2), some (.int x3)] [] h (b_L_law_18 L0 xs k18 h a1 a2 x3) := by
  unfold b_L_law_18
  refine ao_s (st_iload_n dL_law_18 rfl rfl) ?_
  refine ao_s (st_aload_n dL_law_19 rfl rfl) ?_
  refine ao_xlen dL_law_20 ?_
  refine ao_s (st_bipush dL_law_21 bp_6) ?_
  refine ao_s (st_isub dL_law_23) ?_
  refine ao_br (br_icmp_gt (tgt := 1007) dL_law_24 (by decide)) (fun c346 => ?_) (fun c346 => ?_)
  · refine ao_s (st_iconst dL_law_1007 ic_1) ?_
    exact ao_ir dL_law_1008 rfl (by decide)
  · refine ao_s (st_aload_n dL_law_27 rfl rfl) ?_
    refine ao_s (st_iload_n dL_law_28 rfl rfl) ?_
    refine ao_xald dL_law_29 ?_
    refine ao_s (st_bipush dL_law_30 bp_31) ?_
    refine ao_s (st_iand dL_law_32) ?_
    refine ao_letI (fun x21 => ?_)
    refine ao_ite (fun c22 => ?_) (fun c22 => ?_)
    · refine ao_s (st_tabIn (v := 0) (off := 131) (tgt := 164) c22 dL_law_33 (by decide) (by decide)) ?_
      refine ao_s (st_aload_n dL_law_164 rfl rfl) ?_
      refine ao_s (st_aload_n dL_law_165 rfl rfl) ?_
      refine ao_s (st_iload_n dL_law_166 rfl rfl) ?_
      refine ao_s (st_iconst dL_law_167 ic_1) ?_
      refine ao_s (st_iadd dL_law_168) ?_
      refine ao_letI (fun x51 => ?_)
      refine ao_xald dL_law_169 ?_
      refine ao_s (st_aload_n dL_law_170 rfl rfl) ?_
      refine ao_s (st_iload_n dL_law_171 rfl rfl) ?_
      refine ao_s (st_iconst dL_law_172 ic_2) ?_
      refine ao_s (st_iadd dL_law_173) ?_
      refine ao_letI (fun x52 => ?_)
      refine ao_xald dL_law_174 ?_
      refine ao_s (st_aload_n dL_law_175 rfl rfl) ?_
      refine ao_s (st_iload_n dL_law_176 rfl rfl) ?_
      refine ao_s (st_iconst dL_law_177 ic_3) ?_
      refine ao_s (st_iadd dL_law_178) ?_
      refine ao_letI (fun x53 => ?_)
      refine ao_xald dL_law_179 ?_
      refine ao_s (st_aload_n dL_law_180 rfl rfl) ?_
      refine ao_s (st_iload_n dL_law_181 rfl rfl) ?_
      refine ao_s (st_iconst dL_law_182 ic_4) ?_
      refine ao_s (st_iadd dL_law_183) ?_
      refine ao_letI (fun x54 => ?_)
      refine ao_xald dL_law_184 ?_
      refine ao_s (st_aload_n dL_law_185 rfl rfl) ?_
      refine ao_s (st_iload_n dL_law_186 rfl rfl) ?_
      refine ao_s (st_iconst dL_law_187 ic_5) ?_
      refine ao_s (st_iadd dL_law_188) ?_
      refine ao_letI (fun x55 => ?_)
      refine ao_xald dL_law_189 ?_
      refine ao_chk (fun e56 => ?_)
      refine ao_cVi (Kc := kX11_feed) (As := [.int (xs x51.toNatClampNeg), .int (xs x52.toNatClampNeg), .int (xs x53.toNatClampNeg), .int (xs x54.toNatClampNeg), .int (xs x55.toNatClampNeg)]) (st := []) dL_law_190 ml_L_13 mv_X11_feed rfl e56 (by decide) rfl rfl (Nat.le_of_ble_eq_true rfl) (by decide) (s_X11_feed h a1 (xs x51.toNatClampNeg) (xs x52.toNatClampNeg) (xs x53.toNatClampNeg) (xs x54.toNatClampNeg) (xs x55.toNatClampNeg)) (fun r57 h58 => ?_)
      refine ao_s (st_aload_n dL_law_193 rfl rfl) ?_
      refine ao_s (st_aload_n dL_law_194 rfl rfl) ?_
      refine ao_s (st_iload_n dL_law_195 rfl rfl) ?_
      refine ao_s (st_iconst dL_law_196 ic_1) ?_
      refine ao_s (st_iadd dL_law_197) ?_
      refine ao_letI (fun x59 => ?_)
      refine ao_xald dL_law_198 ?_
      refine ao_s (st_aload_n dL_law_199 rfl rfl) ?_
      refine ao_s (st_iload_n dL_law_200 rfl rfl) ?_
      refine ao_s (st_iconst dL_law_201 ic_2) ?_
      refine ao_s (st_iadd dL_law_202) ?_
      refine ao_letI (fun x60 => ?_)
      refine ao_xald dL_law_203 ?_
      refine ao_s (st_aload_n dL_law_204 rfl rfl) ?_
      refine ao_s (st_iload_n dL_law_205 rfl rfl) ?_
      refine ao_s (st_iconst dL_law_206 ic_3) ?_
      refine ao_s (st_iadd dL_law_207) ?_
      refine ao_letI (fun x61 => ?_)
      refine ao_xald dL_law_208 ?_
      refine ao_s (st_aload_n dL_law_209 rfl rfl) ?_
      refine ao_s (st_iload_n dL_law_210 rfl rfl) ?_
      refine ao_s (st_iconst dL_law_211 ic_4) ?_
      refine ao_s (st_iadd dL_law_212) ?_
      refine ao_letI (fun x62 => ?_)
      refine ao_xald dL_law_213 ?_
      refine ao_s (st_aload_n dL_law_214 rfl rfl) ?_
      refine ao_s (st_iload_n dL_law_215 rfl rfl) ?_
      refine ao_s (st_iconst dL_law_216 ic_5) ?_
      refine ao_s (st_iadd dL_law_217) ?_
      refine ao_letI (fun x63 => ?_)
      refine ao_xald dL_law_218 ?_
      refine ao_chk (fun e64 => ?_)
      refine ao_cVi (Kc := kX12_feed) (As := [.int (xs x59.toNatClampNeg), .int (xs x60.toNatClampNeg), .int (xs x61.toNatClampNeg), .int (xs x62.toNatClampNeg), .int (xs x63.toNatClampNeg)]) (st := [.int r57]) dL_law_219 ml_L_17 mv_X12_feed rfl e64 (by decide) rfl rfl (Nat.le_of_ble_eq_true rfl) (by decide) (s_X12_feed h58 a2 (xs x59.toNatClampNeg) (xs x60.toNatClampNeg) (xs x61.toNatClampNeg) (xs x62.toNatClampNeg) (xs x63.toNatClampNeg)) (fun r65 h66 => ?_)
      refine ao_br (br_icmp_eq (tgt := 1001) dL_law_222 (by decide)) (fun c67 => ?_) (fun c67 => ?_)
      · exact ao_w (sb_s (sb_s (sb_s (sb_s sb_0)))) (t_L_law_1001 hk18 h66 a1 a2 x3)
      · refine ao_s (st_iconst dL_law_225 ic_0) ?_
        exact ao_ir dL_law_226 rfl (by decide)
    · refine ao_ite (fun c23 => ?_) (fun c23 => ?_)
      · refine ao_s (st_tabIn (v := 1) (off := 194) (tgt := 227) c23 dL_law_33 (by decide) (by decide)) ?_
        refine ao_s (st_aload_n dL_law_227 rfl rfl) ?_
        refine ao_s (st_aload_n dL_law_228 rfl rfl) ?_
        refine ao_s (st_iload_n dL_law_229 rfl rfl) ?_
        refine ao_s (st_iconst dL_law_230 ic_1) ?_
        refine ao_s (st_iadd dL_law_231) ?_
        refine ao_letI (fun x68 => ?_)
        refine ao_xald dL_law_232 ?_
        refine ao_chk (fun e69 => ?_)
        refine ao_cVi (Kc := kX11_end) (As := [.int (xs x68.toNatClampNeg)]) (st := []) dL_law_233 ml_L_18 mv_X11_end rfl e69 (by decide) rfl rfl (Nat.le_of_ble_eq_true rfl) (by decide) (s_X11_end h a1 (xs x68.toNatClampNeg)) (fun r70 h71 => ?_)
        refine ao_s (st_aload_n dL_law_236 rfl rfl) ?_
        refine ao_s (st_aload_n dL_law_237 rfl rfl) ?_
        refine ao_s (st_iload_n dL_law_238 rfl rfl) ?_
        refine ao_s (st_iconst dL_law_239 ic_1) ?_
        refine ao_s (st_iadd dL_law_240) ?_
        refine ao_letI (fun x72 => ?_)
        refine ao_xald dL_law_241 ?_
        refine ao_chk (fun e73 => ?_)
        refine ao_cVi (Kc := kX12_end) (As := [.int (xs x72.toNatClampNeg)]) (st := [.int r70]) dL_law_242 ml_L_22 mv_X12_end rfl e73 (by decide) rfl rfl (Nat.le_of_ble_eq_true rfl) (by decide) (s_X12_end h71 a2 (xs x72.toNatClampNeg)) (fun r74 h75 => ?_)
        refine ao_br (br_icmp_eq (tgt := 1001) dL_law_245 (by decide)) (fun c76 => ?_) (fun c76 => ?_)
        · exact ao_w (sb_s (sb_s (sb_s (sb_s sb_0)))) (t_L_law_1001 hk18 h75 a1 a2 x3)
        · refine ao_s (st_iconst dL_law_248 ic_0) ?_
          exact ao_ir dL_law_249 rfl (by decide)
      · refine ao_ite (fun c24 => ?_) (fun c24 => ?_)
        · refine ao_s (st_tabIn (v := 2) (off := 217) (tgt := 250) c24 dL_law_33 (by decide) (by decide)) ?_
          refine ao_s (st_aload_n dL_law_250 rfl rfl) ?_
          refine ao_chk (fun e77 => ?_)
          refine ao_cVi (Kc := kX11_isle) (As := []) (st := []) dL_law_251 ml_L_23 mv_X11_isle rfl e77 (by decide) rfl rfl (Nat.le_of_ble_eq_true rfl) (by decide) (s_X11_isle h a1) (fun r78 h79 => ?_)
          refine ao_s (st_aload_n dL_law_254 rfl rfl) ?_
          refine ao_chk (fun e80 => ?_)
          refine ao_cVi (Kc := kX12_isle) (As := []) (st := [.int r78]) dL_law_255 ml_L_27 mv_X12_isle rfl e80 (by decide) rfl rfl (Nat.le_of_ble_eq_true rfl) (by decide) (s_X12_isle h79 a2) (fun r81 h82 => ?_)
          refine ao_br (br_icmp_eq (tgt := 1001) dL_law_258 (by decide)) (fun c83 => ?_) (fun c83 => ?_)
          · exact ao_w (sb_s (sb_s (sb_s (sb_s sb_0)))) (t_L_law_1001 hk18 h82 a1 a2 x3)
          · refine ao_s (st_iconst dL_law_261 ic_0) ?_
            exact ao_ir dL_law_262 rfl (by decide)
        · refine ao_ite (fun c25 => ?_) (fun c25 => ?_)
          · refine ao_s (st_tabIn (v := 3) (off := 230) (tgt := 263) c25 dL_law_33 (by decide) (by decide)) ?_
            refine ao_s (st_aload_n dL_law_263 rfl rfl) ?_
            refine ao_chk (fun e84 => ?_)
            refine ao_cVi (Kc := kX11_rule) (As := []) (st := []) dL_law_264 ml_L_28 mv_X11_rule rfl e84 (by decide) rfl rfl (Nat.le_of_ble_eq_true rfl) (by decide) (s_X11_rule h a1) (fun r85 h86 => ?_)
            refine ao_s (st_aload_n dL_law_267 rfl rfl) ?_
            refine ao_chk (fun e87 => ?_)
            refine ao_cVi (Kc := kX12_rule) (As := []) (st := [.int r85]) dL_law_268 ml_L_31 mv_X12_rule rfl e87 (by decide) rfl rfl (Nat.le_of_ble_eq_true rfl) (by decide) (s_X12_rule h86 a2) (fun r88 h89 => ?_)
            refine ao_br (br_icmp_eq (tgt := 1001) dL_law_271 (by decide)) (fun c90 => ?_) (fun c90 => ?_)
            · exact ao_w (sb_s (sb_s (sb_s (sb_s sb_0)))) (t_L_law_1001 hk18 h89 a1 a2 x3)
            · refine ao_s (st_iconst dL_law_274 ic_0) ?_
              exact ao_ir dL_law_275 rfl (by decide)
          · refine ao_ite (fun c26 => ?_) (fun c26 => ?_)
            · refine ao_s (st_tabIn (v := 4) (off := 243) (tgt := 276) c26 dL_law_33 (by decide) (by decide)) ?_
              refine ao_s (st_aload_n dL_law_276 rfl rfl) ?_
              refine ao_s (st_aload_n dL_law_277 rfl rfl) ?_
              refine ao_s (st_iload_n dL_law_278 rfl rfl) ?_
              refine ao_s (st_iconst dL_law_279 ic_1) ?_
              refine ao_s (st_iadd dL_law_280) ?_
              refine ao_letI (fun x91 => ?_)
              refine ao_xald dL_law_281 ?_
              refine ao_chk (fun e92 => ?_)
              refine ao_cVi (Kc := kX11_force) (As := [.int (xs x91.toNatClampNeg)]) (st := []) dL_law_282 ml_L_32 mv_X11_force rfl e92 (by decide) rfl rfl (Nat.le_of_ble_eq_true rfl) (by decide) (s_X11_force h a1 (xs x91.toNatClampNeg)) (fun r93 h94 => ?_)
              refine ao_s (st_aload_n dL_law_285 rfl rfl) ?_
              refine ao_s (st_aload_n dL_law_286 rfl rfl) ?_
              refine ao_s (st_iload_n dL_law_287 rfl rfl) ?_
              refine ao_s (st_iconst dL_law_288 ic_1) ?_
              refine ao_s (st_iadd dL_law_289) ?_
              refine ao_letI (fun x95 => ?_)
              refine ao_xald dL_law_290 ?_
              refine ao_chk (fun e96 => ?_)
              refine ao_cVi (Kc := kX12_force) (As := [.int (xs x95.toNatClampNeg)]) (st := [.int r93]) dL_law_291 ml_L_35 mv_X12_force rfl e96 (by decide) rfl rfl (Nat.le_of_ble_eq_true rfl) (by decide) (s_X12_force h94 a2 (xs x95.toNatClampNeg)) (fun r97 h98 => ?_)
              refine ao_br (br_icmp_eq (tgt := 1001) dL_law_294 (by decide)) (fun c99 => ?_) (fun c99 => ?_)
              · exact ao_w (sb_s (sb_s (sb_s (sb_s sb_0)))) (t_L_law_1001 hk18 h98 a1 a2 x3)
              · refine ao_s (st_iconst dL_law_297 ic_0) ?_
                exact ao_ir dL_law_298 rfl (by decide)
            · refine ao_ite (fun c27 => ?_) (fun c27 => ?_)
              · refine ao_s (st_tabIn (v := 5) (off := 266) (tgt := 299) c27 dL_law_33 (by decide) (by decide)) ?_
                refine ao_s (st_aload_n dL_law_299 rfl rfl) ?_
                refine ao_s (st_aload_n dL_law_300 rfl rfl) ?_
                refine ao_s (st_iload_n dL_law_301 rfl rfl) ?_
                refine ao_s (st_iconst dL_law_302 ic_1) ?_
                refine ao_s (st_iadd dL_law_303) ?_
                refine ao_letI (fun x100 => ?_)
                refine ao_xald dL_law_304 ?_
                refine ao_s (st_aload_n dL_law_305 rfl rfl) ?_
                refine ao_s (st_iload_n dL_law_306 rfl rfl) ?_
                refine ao_s (st_iconst dL_law_307 ic_2) ?_
                refine ao_s (st_iadd dL_law_308) ?_
                refine ao_letI (fun x101 => ?_)
                refine ao_xald dL_law_309 ?_
                refine ao_chk (fun e102 => ?_)
                refine ao_cVi (Kc := kX11_east) (As := [.int (xs x100.toNatClampNeg), .int (xs x101.toNatClampNeg)]) (st := []) dL_law_310 ml_L_36 mv_X11_east rfl e102 (by decide) rfl rfl (Nat.le_of_ble_eq_true rfl) (by decide) (s_X11_east h a1 (xs x100.toNatClampNeg) (xs x101.toNatClampNeg)) (fun r103 h104 => ?_)
                refine ao_s (st_aload_n dL_law_313 rfl rfl) ?_
                refine ao_s (st_aload_n dL_law_314 rfl rfl) ?_
                refine ao_s (st_iload_n dL_law_315 rfl rfl) ?_
                refine ao_s (st_iconst dL_law_316 ic_1) ?_
                refine ao_s (st_iadd dL_law_317) ?_
                refine ao_letI (fun x105 => ?_)
                refine ao_xald dL_law_318 ?_
                refine ao_s (st_aload_n dL_law_319 rfl rfl) ?_
                refine ao_s (st_iload_n dL_law_320 rfl rfl) ?_
                refine ao_s (st_iconst dL_law_321 ic_2) ?_
                refine ao_s (st_iadd dL_law_322) ?_
                refine ao_letI (fun x106 => ?_)
                refine ao_xald dL_law_323 ?_
                refine ao_chk (fun e107 => ?_)
                refine ao_cVi (Kc := kX12_east) (As := [.int (xs x105.toNatClampNeg), .int (xs x106.toNatClampNeg)]) (st := [.int r103]) dL_law_324 ml_L_40 mv_X12_east rfl e107 (by decide) rfl rfl (Nat.le_of_ble_eq_true rfl) (by decide) (s_X12_east h104 a2 (xs x105.toNatClampNeg) (xs x106.toNatClampNeg)) (fun r108 h109 => ?_)
                refine ao_br (br_icmp_eq (tgt := 1001) dL_law_327 (by decide)) (fun c110 => ?_) (fun c110 => ?_)
                · exact ao_w (sb_s (sb_s (sb_s (sb_s sb_0)))) (t_L_law_1001 hk18 h109 a1 a2 x3)
                · refine ao_s (st_iconst dL_law_330 ic_0) ?_
                  exact ao_ir dL_law_331 rfl (by decide)
              · refine ao_ite (fun c28 => ?_) (fun c28 => ?_)
                · refine ao_s (st_tabIn (v := 6) (off := 299) (tgt := 332) c28 dL_law_33 (by decide) (by decide)) ?_
                  refine ao_s (st_aload_n dL_law_332 rfl rfl) ?_
                  refine ao_s (st_aload_n dL_law_333 rfl rfl) ?_
                  refine ao_s (st_iload_n dL_law_334 rfl rfl) ?_
                  refine ao_s (st_iconst dL_law_335 ic_1) ?_
                  refine ao_s (st_iadd dL_law_336) ?_
                  refine ao_letI (fun x111 => ?_)
                  refine ao_xald dL_law_337 ?_
                  refine ao_s (st_aload_n dL_law_338 rfl rfl) ?_
                  refine ao_s (st_iload_n dL_law_339 rfl rfl) ?_
                  refine ao_s (st_iconst dL_law_340 ic_2) ?_
                  refine ao_s (st_iadd dL_law_341) ?_
                  refine ao_letI (fun x112 => ?_)
                  refine ao_xald dL_law_342 ?_
                  refine ao_chk (fun e113 => ?_)
                  refine ao_cVi (Kc := kX11_west) (As := [.int (xs x111.toNatClampNeg), .int (xs x112.toNatClampNeg)]) (st := []) dL_law_343 ml_L_41 mv_X11_west rfl e113 (by decide) rfl rfl (Nat.le_of_ble_eq_true rfl) (by decide) (s_X11_west h a1 (xs x111.toNatClampNeg) (xs x112.toNatClampNeg)) (fun r114 h115 => ?_)
                  refine ao_s (st_aload_n dL_law_346 rfl rfl) ?_
                  refine ao_s (st_aload_n dL_law_347 rfl rfl) ?_
                  refine ao_s (st_iload_n dL_law_348 rfl rfl) ?_
                  refine ao_s (st_iconst dL_law_349 ic_1) ?_
                  refine ao_s (st_iadd dL_law_350) ?_
                  refine ao_letI (fun x116 => ?_)
                  refine ao_xald dL_law_351 ?_
                  refine ao_s (st_aload_n dL_law_352 rfl rfl) ?_
                  refine ao_s (st_iload_n dL_law_353 rfl rfl) ?_
                  refine ao_s (st_iconst dL_law_354 ic_2) ?_
                  refine ao_s (st_iadd dL_law_355) ?_
                  refine ao_letI (fun x117 => ?_)
                  refine ao_xald dL_law_356 ?_
                  refine ao_chk (fun e118 => ?_)
                  refine ao_cVi (Kc := kX12_west) (As := [.int (xs x116.toNatClampNeg), .int (xs x117.toNatClampNeg)]) (st := [.int r114]) dL_law_357 ml_L_44 mv_X12_west rfl e118 (by decide) rfl rfl (Nat.le_of_ble_eq_true rfl) (by decide) (s_X12_west h115 a2 (xs x116.toNatClampNeg) (xs x117.toNatClampNeg)) (fun r119 h120 => ?_)
                  refine ao_br (br_icmp_eq (tgt := 1001) dL_law_360 (by decide)) (fun c121 => ?_) (fun c121 => ?_)
                  · exact ao_w (sb_s (sb_s (sb_s (sb_s sb_0)))) (t_L_law_1001 hk18 h120 a1 a2 x3)
                  · refine ao_s (st_iconst dL_law_363 ic_0) ?_
                    exact ao_ir dL_law_364 rfl (by decide)
                · refine ao_ite (fun c29 => ?_) (fun c29 => ?_)
                  · refine ao_s (st_tabIn (v := 7) (off := 332) (tgt := 365) c29 dL_law_33 (by decide) (by decide)) ?_
                    refine ao_s (st_aload_n dL_law_365 rfl rfl) ?_
                    refine ao_s (st_aload_n dL_law_366 rfl rfl) ?_
                    refine ao_s (st_iload_n dL_law_367 rfl rfl) ?_
                    refine ao_s (st_iconst dL_law_368 ic_1) ?_
                    refine ao_s (st_iadd dL_law_369) ?_
                    refine ao_letI (fun x122 => ?_)
                    refine ao_xald dL_law_370 ?_
                    refine ao_s (st_aload_n dL_law_371 rfl rfl) ?_
                    refine ao_s (st_iload_n dL_law_372 rfl rfl) ?_
                    refine ao_s (st_iconst dL_law_373 ic_2) ?_
                    refine ao_s (st_iadd dL_law_374) ?_
                    refine ao_letI (fun x123 => ?_)
                    refine ao_xald dL_law_375 ?_
                    refine ao_s (st_aload_n dL_law_376 rfl rfl) ?_
                    refine ao_s (st_iload_n dL_law_377 rfl rfl) ?_
                    refine ao_s (st_iconst dL_law_378 ic_3) ?_
                    refine ao_s (st_iadd dL_law_379) ?_
                    refine ao_letI (fun x124 => ?_)
                    refine ao_xald dL_law_380 ?_
                    refine ao_chk (fun e125 => ?_)
                    refine ao_cVi (Kc := kX11_likes) (As := [.int (xs x122.toNatClampNeg), .int (xs x123.toNatClampNeg), .int (xs x124.toNatClampNeg)]) (st := []) dL_law_381 ml_L_45 mv_X11_likes rfl e125 (by decide) rfl rfl (Nat.le_of_ble_eq_true rfl) (by decide) (s_X11_likes h a1 (xs x122.toNatClampNeg) (xs x123.toNatClampNeg) (xs x124.toNatClampNeg)) (fun r126 h127 => ?_)
                    refine ao_s (st_aload_n dL_law_384 rfl rfl) ?_
                    refine ao_s (st_aload_n dL_law_385 rfl rfl) ?_
                    refine ao_s (st_iload_n dL_law_386 rfl rfl) ?_
                    refine ao_s (st_iconst dL_law_387 ic_1) ?_
                    refine ao_s (st_iadd dL_law_388) ?_
                    refine ao_letI (fun x128 => ?_)
                    refine ao_xald dL_law_389 ?_
                    refine ao_s (st_aload_n dL_law_390 rfl rfl) ?_
                    refine ao_s (st_iload_n dL_law_391 rfl rfl) ?_
                    refine ao_s (st_iconst dL_law_392 ic_2) ?_
                    refine ao_s (st_iadd dL_law_393) ?_
                    refine ao_letI (fun x129 => ?_)
                    refine ao_xald dL_law_394 ?_
                    refine ao_s (st_aload_n dL_law_395 rfl rfl) ?_
                    refine ao_s (st_iload_n dL_law_396 rfl rfl) ?_
                    refine ao_s (st_iconst dL_law_397 ic_3) ?_
                    refine ao_s (st_iadd dL_law_398) ?_
                    refine ao_letI (fun x130 => ?_)
                    refine ao_xald dL_law_399 ?_
                    refine ao_chk (fun e131 => ?_)
                    refine ao_cVi (Kc := kX12_likes) (As := [.int (xs x128.toNatClampNeg), .int (xs x129.toNatClampNeg), .int (xs x130.toNatClampNeg)]) (st := [.int r126]) dL_law_400 ml_L_49 mv_X12_likes rfl e131 (by decide) rfl rfl (Nat.le_of_ble_eq_true rfl) (by decide) (s_X12_likes h127 a2 (xs x128.toNatClampNeg) (xs x129.toNatClampNeg) (xs x130.toNatClampNeg)) (fun r132 h133 => ?_)
                    refine ao_br (br_icmp_eq (tgt := 1001) dL_law_403 (by decide)) (fun c134 => ?_) (fun c134 => ?_)
                    · exact ao_w (sb_s (sb_s (sb_s (sb_s sb_0)))) (t_L_law_1001 hk18 h133 a1 a2 x3)
                    · refine ao_s (st_iconst dL_law_406 ic_0) ?_
                      exact ao_ir dL_law_407 rfl (by decide)
                  · refine ao_ite (fun c30 => ?_) (fun c30 => ?_)
                    · refine ao_s (st_tabIn (v := 8) (off := 375) (tgt := 408) c30 dL_law_33 (by decide) (by decide)) ?_
                      refine ao_s (st_aload_n dL_law_408 rfl rfl) ?_
                      refine ao_chk (fun e135 => ?_)
                      refine ao_cVi (Kc := kX11_fair) (As := []) (st := []) dL_law_409 ml_L_50 mv_X11_fair rfl e135 (by decide) rfl rfl (Nat.le_of_ble_eq_true rfl) (by decide) (s_X11_fair h a1) (fun r136 h137 => ?_)
                      refine ao_s (st_aload_n dL_law_412 rfl rfl) ?_
                      refine ao_chk (fun e138 => ?_)
                      refine ao_cVi (Kc := kX12_fair) (As := []) (st := [.int r136]) dL_law_413 ml_L_53 mv_X12_fair rfl e138 (by decide) rfl rfl (Nat.le_of_ble_eq_true rfl) (by decide) (s_X12_fair h137 a2) (fun r139 h140 => ?_)
                      refine ao_br (br_icmp_eq (tgt := 1001) dL_law_416 (by decide)) (fun c141 => ?_) (fun c141 => ?_)
                      · exact ao_w (sb_s (sb_s (sb_s (sb_s sb_0)))) (t_L_law_1001 hk18 h140 a1 a2 x3)
                      · refine ao_s (st_iconst dL_law_419 ic_0) ?_
                        exact ao_ir dL_law_420 rfl (by decide)
                    · refine ao_ite (fun c31 => ?_) (fun c31 => ?_)
                      · refine ao_s (st_tabIn (v := 9) (off := 388) (tgt := 421) c31 dL_law_33 (by decide) (by decide)) ?_
                        refine ao_s (st_aload_n dL_law_421 rfl rfl) ?_
                        refine ao_s (st_aload_n dL_law_422 rfl rfl) ?_
                        refine ao_s (st_iload_n dL_law_423 rfl rfl) ?_
                        refine ao_s (st_iconst dL_law_424 ic_1) ?_
                        refine ao_s (st_iadd dL_law_425) ?_
                        refine ao_letI (fun x142 => ?_)
                        refine ao_xald dL_law_426 ?_
                        refine ao_s (st_aload_n dL_law_427 rfl rfl) ?_
                        refine ao_s (st_iload_n dL_law_428 rfl rfl) ?_
                        refine ao_s (st_iconst dL_law_429 ic_2) ?_
                        refine ao_s (st_iadd dL_law_430) ?_
                        refine ao_letI (fun x143 => ?_)
                        refine ao_xald dL_law_431 ?_
                        refine ao_chk (fun e144 => ?_)
                        refine ao_cVi (Kc := kX11_join) (As := [.int (xs x142.toNatClampNeg), .int (xs x143.toNatClampNeg)]) (st := []) dL_law_432 ml_L_54 mv_X11_join rfl e144 (by decide) rfl rfl (Nat.le_of_ble_eq_true rfl) (by decide) (s_X11_join h a1 (xs x142.toNatClampNeg) (xs x143.toNatClampNeg)) (fun r145 h146 => ?_)
                        refine ao_s (st_aload_n dL_law_435 rfl rfl) ?_
                        refine ao_s (st_aload_n dL_law_436 rfl rfl) ?_
                        refine ao_s (st_iload_n dL_law_437 rfl rfl) ?_
                        refine ao_s (st_iconst dL_law_438 ic_1) ?_
                        refine ao_s (st_iadd dL_law_439) ?_
                        refine ao_letI (fun x147 => ?_)
                        refine ao_xald dL_law_440 ?_
                        refine ao_s (st_aload_n dL_law_441 rfl rfl) ?_
                        refine ao_s (st_iload_n dL_law_442 rfl rfl) ?_
                        refine ao_s (st_iconst dL_law_443 ic_2) ?_
                        refine ao_s (st_iadd dL_law_444) ?_
                        refine ao_letI (fun x148 => ?_)
                        refine ao_xald dL_law_445 ?_
                        refine ao_chk (fun e149 => ?_)
                        refine ao_cVi (Kc := kX12_join) (As := [.int (xs x147.toNatClampNeg), .int (xs x148.toNatClampNeg)]) (st := [.int r145]) dL_law_446 ml_L_57 mv_X12_join rfl e149 (by decide) rfl rfl (Nat.le_of_ble_eq_true rfl) (by decide) (s_X12_join h146 a2 (xs x147.toNatClampNeg) (xs x148.toNatClampNeg)) (fun r150 h151 => ?_)
                        refine ao_br (br_icmp_eq (tgt := 1001) dL_law_449 (by decide)) (fun c152 => ?_) (fun c152 => ?_)
                        · exact ao_w (sb_s (sb_s (sb_s (sb_s sb_0)))) (t_L_law_1001 hk18 h151 a1 a2 x3)
                        · refine ao_s (st_iconst dL_law_452 ic_0) ?_
                          exact ao_ir dL_law_453 rfl (by decide)
                      · refine ao_ite (fun c32 => ?_) (fun c32 => ?_)
                        · refine ao_s (st_tabIn (v := 10) (off := 421) (tgt := 454) c32 dL_law_33 (by decide) (by decide)) ?_
                          refine ao_s (st_aload_n dL_law_454 rfl rfl) ?_
                          refine ao_s (st_aload_n dL_law_455 rfl rfl) ?_
                          refine ao_s (st_iload_n dL_law_456 rfl rfl) ?_
                          refine ao_s (st_iconst dL_law_457 ic_1) ?_
                          refine ao_s (st_iadd dL_law_458) ?_
                          refine ao_letI (fun x153 => ?_)
                          refine ao_xald dL_law_459 ?_
                          refine ao_chk (fun e154 => ?_)
                          refine ao_cVi (Kc := kX11_part) (As := [.int (xs x153.toNatClampNeg)]) (st := []) dL_law_460 ml_L_58 mv_X11_part rfl e154 (by decide) rfl rfl (Nat.le_of_ble_eq_true rfl) (by decide) (s_X11_part h a1 (xs x153.toNatClampNeg)) (fun r155 h156 => ?_)
                          refine ao_s (st_aload_n dL_law_463 rfl rfl) ?_
                          refine ao_s (st_aload_n dL_law_464 rfl rfl) ?_
                          refine ao_s (st_iload_n dL_law_465 rfl rfl) ?_
                          refine ao_s (st_iconst dL_law_466 ic_1) ?_
                          refine ao_s (st_iadd dL_law_467) ?_
                          refine ao_letI (fun x157 => ?_)
                          refine ao_xald dL_law_468 ?_
                          refine ao_chk (fun e158 => ?_)
                          refine ao_cVi (Kc := kX12_part) (As := [.int (xs x157.toNatClampNeg)]) (st := [.int r155]) dL_law_469 ml_L_61 mv_X12_part rfl e158 (by decide) rfl rfl (Nat.le_of_ble_eq_true rfl) (by decide) (s_X12_part h156 a2 (xs x157.toNatClampNeg)) (fun r159 h160 => ?_)
                          refine ao_br (br_icmp_eq (tgt := 1001) dL_law_472 (by decide)) (fun c161 => ?_) (fun c161 => ?_)
                          · exact ao_w (sb_s (sb_s (sb_s (sb_s sb_0)))) (t_L_law_1001 hk18 h160 a1 a2 x3)
                          · refine ao_s (st_iconst dL_law_475 ic_0) ?_
                            exact ao_ir dL_law_476 rfl (by decide)
                        · refine ao_ite (fun c33 => ?_) (fun c33 => ?_)
                          · refine ao_s (st_tabIn (v := 11) (off := 444) (tgt := 477) c33 dL_law_33 (by decide) (by decide)) ?_
                            refine ao_s (st_aload_n dL_law_477 rfl rfl) ?_
                            refine ao_chk (fun e162 => ?_)
                            refine ao_cVi (Kc := kX11_hold) (As := []) (st := []) dL_law_478 ml_L_62 mv_X11_hold rfl e162 (by decide) rfl rfl (Nat.le_of_ble_eq_true rfl) (by decide) (s_X11_hold h a1) (fun r163 h164 => ?_)
                            refine ao_s (st_aload_n dL_law_481 rfl rfl) ?_
                            refine ao_chk (fun e165 => ?_)
                            refine ao_cVi (Kc := kX12_hold) (As := []) (st := [.int r163]) dL_law_482 ml_L_65 mv_X12_hold rfl e165 (by decide) rfl rfl (Nat.le_of_ble_eq_true rfl) (by decide) (s_X12_hold h164 a2) (fun r166 h167 => ?_)
                            refine ao_br (br_icmp_eq (tgt := 1001) dL_law_485 (by decide)) (fun c168 => ?_) (fun c168 => ?_)
                            · exact ao_w (sb_s (sb_s (sb_s (sb_s sb_0)))) (t_L_law_1001 hk18 h167 a1 a2 x3)
                            · refine ao_s (st_iconst dL_law_488 ic_0) ?_
                              exact ao_ir dL_law_489 rfl (by decide)
                          · refine ao_ite (fun c34 => ?_) (fun c34 => ?_)
                            · refine ao_s (st_tabIn (v := 12) (off := 457) (tgt := 490) c34 dL_law_33 (by decide) (by decide)) ?_
                              refine ao_s (st_aload_n dL_law_490 rfl rfl) ?_
                              refine ao_chk (fun e169 => ?_)
                              refine ao_cVi (Kc := kX11_undo) (As := []) (st := []) dL_law_491 ml_L_66 mv_X11_undo rfl e169 (by decide) rfl rfl (Nat.le_of_ble_eq_true rfl) (by decide) (s_X11_undo h a1) (fun r170 h171 => ?_)
                              refine ao_s (st_aload_n dL_law_494 rfl rfl) ?_
                              refine ao_chk (fun e172 => ?_)
                              refine ao_cVi (Kc := kX12_undo) (As := []) (st := [.int r170]) dL_law_495 ml_L_69 mv_X12_undo rfl e172 (by decide) rfl rfl (Nat.le_of_ble_eq_true rfl) (by decide) (s_X12_undo h171 a2) (fun r173 h174 => ?_)
                              refine ao_br (br_icmp_eq (tgt := 1001) dL_law_498 (by decide)) (fun c175 => ?_) (fun c175 => ?_)
                              · exact ao_w (sb_s (sb_s (sb_s (sb_s sb_0)))) (t_L_law_1001 hk18 h174 a1 a2 x3)
                              · refine ao_s (st_iconst dL_law_501 ic_0) ?_
                                exact ao_ir dL_law_502 rfl (by decide)
                            · refine ao_ite (fun c35 => ?_) (fun c35 => ?_)
                              · refine ao_s (st_tabIn (v := 13) (off := 470) (tgt := 503) c35 dL_law_33 (by decide) (by decide)) ?_
                                refine ao_s (st_aload_n dL_law_503 rfl rfl) ?_
                                refine ao_s (st_aload_n dL_law_504 rfl rfl) ?_
                                refine ao_s (st_iload_n dL_law_505 rfl rfl) ?_
                                refine ao_s (st_iconst dL_law_506 ic_1) ?_
                                refine ao_s (st_iadd dL_law_507) ?_
                                refine ao_letI (fun x176 => ?_)
                                refine ao_xald dL_law_508 ?_
                                refine ao_s (st_aload_n dL_law_509 rfl rfl) ?_
                                refine ao_s (st_iload_n dL_law_510 rfl rfl) ?_
                                refine ao_s (st_iconst dL_law_511 ic_2) ?_
                                refine ao_s (st_iadd dL_law_512) ?_
                                refine ao_letI (fun x177 => ?_)
                                refine ao_xald dL_law_513 ?_
                                refine ao_s (st_aload_n dL_law_514 rfl rfl) ?_
                                refine ao_s (st_iload_n dL_law_515 rfl rfl) ?_
                                refine ao_s (st_iconst dL_law_516 ic_3) ?_
                                refine ao_s (st_iadd dL_law_517) ?_
                                refine ao_letI (fun x178 => ?_)
                                refine ao_xald dL_law_518 ?_
                                refine ao_chk (fun e179 => ?_)
                                refine ao_cVi (Kc := kX11_ahead) (As := [.int (xs x176.toNatClampNeg), .int (xs x177.toNatClampNeg), .int (xs x178.toNatClampNeg)]) (st := []) dL_law_519 ml_L_70 mv_X11_ahead rfl e179 (by decide) rfl rfl (Nat.le_of_ble_eq_true rfl) (by decide) (s_X11_ahead h a1 (xs x176.toNatClampNeg) (xs x177.toNatClampNeg) (xs x178.toNatClampNeg)) (fun r180 h181 => ?_)
                                refine ao_s (st_aload_n dL_law_522 rfl rfl) ?_
                                refine ao_s (st_aload_n dL_law_523 rfl rfl) ?_
                                refine ao_s (st_iload_n dL_law_524 rfl rfl) ?_
                                refine ao_s (st_iconst dL_law_525 ic_1) ?_
                                refine ao_s (st_iadd dL_law_526) ?_
                                refine ao_letI (fun x182 => ?_)
                                refine ao_xald dL_law_527 ?_
                                refine ao_s (st_aload_n dL_law_528 rfl rfl) ?_
                                refine ao_s (st_iload_n dL_law_529 rfl rfl) ?_
                                refine ao_s (st_iconst dL_law_530 ic_2) ?_
                                refine ao_s (st_iadd dL_law_531) ?_
                                refine ao_letI (fun x183 => ?_)
                                refine ao_xald dL_law_532 ?_
                                refine ao_s (st_aload_n dL_law_533 rfl rfl) ?_
                                refine ao_s (st_iload_n dL_law_534 rfl rfl) ?_
                                refine ao_s (st_iconst dL_law_535 ic_3) ?_
                                refine ao_s (st_iadd dL_law_536) ?_
                                refine ao_letI (fun x184 => ?_)
                                refine ao_xald dL_law_537 ?_
                                refine ao_chk (fun e185 => ?_)
                                refine ao_cVi (Kc := kX12_ahead) (As := [.int (xs x182.toNatClampNeg), .int (xs x183.toNatClampNeg), .int (xs x184.toNatClampNeg)]) (st := [.int r180]) dL_law_538 ml_L_73 mv_X12_ahead rfl e185 (by decide) rfl rfl (Nat.le_of_ble_eq_true rfl) (by decide) (s_X12_ahead h181 a2 (xs x182.toNatClampNeg) (xs x183.toNatClampNeg) (xs x184.toNatClampNeg)) (fun r186 h187 => ?_)
                                refine ao_br (br_icmp_eq (tgt := 1001) dL_law_541 (by decide)) (fun c188 => ?_) (fun c188 => ?_)
                                · exact ao_w (sb_s (sb_s (sb_s (sb_s sb_0)))) (t_L_law_1001 hk18 h187 a1 a2 x3)
                                · refine ao_s (st_iconst dL_law_544 ic_0) ?_
                                  exact ao_ir dL_law_545 rfl (by decide)
                              · refine ao_ite (fun c36 => ?_) (fun c36 => ?_)
                                · refine ao_s (st_tabIn (v := 14) (off := 513) (tgt := 546) c36 dL_law_33 (by decide) (by decide)) ?_
                                  refine ao_s (st_aload_n dL_law_546 rfl rfl) ?_
                                  refine ao_s (st_aload_n dL_law_547 rfl rfl) ?_
                                  refine ao_s (st_iload_n dL_law_548 rfl rfl) ?_
                                  refine ao_s (st_iconst dL_law_549 ic_1) ?_
                                  refine ao_s (st_iadd dL_law_550) ?_
                                  refine ao_letI (fun x189 => ?_)
                                  refine ao_xald dL_law_551 ?_
                                  refine ao_chk (fun e190 => ?_)
                                  refine ao_cVi (Kc := kX11_lasts) (As := [.int (xs x189.toNatClampNeg)]) (st := []) dL_law_552 ml_L_74 mv_X11_lasts rfl e190 (by decide) rfl rfl (Nat.le_of_ble_eq_true rfl) (by decide) (s_X11_lasts h a1 (xs x189.toNatClampNeg)) (fun r191 h192 => ?_)
                                  refine ao_s (st_aload_n dL_law_555 rfl rfl) ?_
                                  refine ao_s (st_aload_n dL_law_556 rfl rfl) ?_
                                  refine ao_s (st_iload_n dL_law_557 rfl rfl) ?_
                                  refine ao_s (st_iconst dL_law_558 ic_1) ?_
                                  refine ao_s (st_iadd dL_law_559) ?_
                                  refine ao_letI (fun x193 => ?_)
                                  refine ao_xald dL_law_560 ?_
                                  refine ao_chk (fun e194 => ?_)
                                  refine ao_cVi (Kc := kX12_lasts) (As := [.int (xs x193.toNatClampNeg)]) (st := [.int r191]) dL_law_561 ml_L_77 mv_X12_lasts rfl e194 (by decide) rfl rfl (Nat.le_of_ble_eq_true rfl) (by decide) (s_X12_lasts h192 a2 (xs x193.toNatClampNeg)) (fun r195 h196 => ?_)
                                  refine ao_br (br_icmp_eq (tgt := 1001) dL_law_564 (by decide)) (fun c197 => ?_) (fun c197 => ?_)
                                  · exact ao_w (sb_s (sb_s (sb_s (sb_s sb_0)))) (t_L_law_1001 hk18 h196 a1 a2 x3)
                                  · refine ao_s (st_iconst dL_law_567 ic_0) ?_
                                    exact ao_ir dL_law_568 rfl (by decide)
                                · refine ao_ite (fun c37 => ?_) (fun c37 => ?_)
                                  · refine ao_s (st_tabIn (v := 15) (off := 536) (tgt := 569) c37 dL_law_33 (by decide) (by decide)) ?_
                                    refine ao_s (st_aload_n dL_law_569 rfl rfl) ?_
                                    refine ao_s (st_aload_n dL_law_570 rfl rfl) ?_
                                    refine ao_s (st_iload_n dL_law_571 rfl rfl) ?_
                                    refine ao_s (st_iconst dL_law_572 ic_1) ?_
                                    refine ao_s (st_iadd dL_law_573) ?_
                                    refine ao_letI (fun x198 => ?_)
                                    refine ao_xald dL_law_574 ?_
                                    refine ao_chk (fun e199 => ?_)
                                    refine ao_cVi (Kc := kX11_settled) (As := [.int (xs x198.toNatClampNeg)]) (st := []) dL_law_575 ml_L_78 mv_X11_settled rfl e199 (by decide) rfl rfl (Nat.le_of_ble_eq_true rfl) (by decide) (s_X11_settled h a1 (xs x198.toNatClampNeg)) (fun r200 h201 => ?_)
                                    refine ao_s (st_aload_n dL_law_578 rfl rfl) ?_
                                    refine ao_s (st_aload_n dL_law_579 rfl rfl) ?_
                                    refine ao_s (st_iload_n dL_law_580 rfl rfl) ?_
                                    refine ao_s (st_iconst dL_law_581 ic_1) ?_
                                    refine ao_s (st_iadd dL_law_582) ?_
                                    refine ao_letI (fun x202 => ?_)
                                    refine ao_xald dL_law_583 ?_
                                    refine ao_chk (fun e203 => ?_)
                                    refine ao_cVi (Kc := kX12_settled) (As := [.int (xs x202.toNatClampNeg)]) (st := [.int r200]) dL_law_584 ml_L_81 mv_X12_settled rfl e203 (by decide) rfl rfl (Nat.le_of_ble_eq_true rfl) (by decide) (s_X12_settled h201 a2 (xs x202.toNatClampNeg)) (fun r204 h205 => ?_)
                                    refine ao_br (br_icmp_eq (tgt := 1001) dL_law_587 (by decide)) (fun c206 => ?_) (fun c206 => ?_)
                                    · exact ao_w (sb_s (sb_s (sb_s (sb_s sb_0)))) (t_L_law_1001 hk18 h205 a1 a2 x3)
                                    · refine ao_s (st_iconst dL_law_590 ic_0) ?_
                                      exact ao_ir dL_law_591 rfl (by decide)
                                  · refine ao_ite (fun c38 => ?_) (fun c38 => ?_)
                                    · refine ao_s (st_tabIn (v := 16) (off := 559) (tgt := 592) c38 dL_law_33 (by decide) (by decide)) ?_
                                      refine ao_s (st_aload_n dL_law_592 rfl rfl) ?_
                                      refine ao_s (st_aload_n dL_law_593 rfl rfl) ?_
                                      refine ao_s (st_iload_n dL_law_594 rfl rfl) ?_
                                      refine ao_s (st_iconst dL_law_595 ic_1) ?_
                                      refine ao_s (st_iadd dL_law_596) ?_
                                      refine ao_letI (fun x207 => ?_)
                                      refine ao_xald dL_law_597 ?_
                                      refine ao_s (st_aload_n dL_law_598 rfl rfl) ?_
                                      refine ao_s (st_iload_n dL_law_599 rfl rfl) ?_
                                      refine ao_s (st_iconst dL_law_600 ic_2) ?_
                                      refine ao_s (st_iadd dL_law_601) ?_
                                      refine ao_letI (fun x208 => ?_)
                                      refine ao_xald dL_law_602 ?_
                                      refine ao_s (st_aload_n dL_law_603 rfl rfl) ?_
                                      refine ao_s (st_iload_n dL_law_604 rfl rfl) ?_
                                      refine ao_s (st_iconst dL_law_605 ic_3) ?_
                                      refine ao_s (st_iadd dL_law_606) ?_
                                      refine ao_letI (fun x209 => ?_)
                                      refine ao_xald dL_law_607 ?_
                                      refine ao_chk (fun e210 => ?_)
                                      refine ao_cVi (Kc := kX11_tries) (As := [.int (xs x207.toNatClampNeg), .int (xs x208.toNatClampNeg), .int (xs x209.toNatClampNeg)]) (st := []) dL_law_608 ml_L_82 mv_X11_tries rfl e210 (by decide) rfl rfl (Nat.le_of_ble_eq_true rfl) (by decide) (s_X11_tries h a1 (xs x207.toNatClampNeg) (xs x208.toNatClampNeg) (xs x209.toNatClampNeg)) (fun r211 h212 => ?_)
                                      refine ao_s (st_aload_n dL_law_611 rfl rfl) ?_
                                      refine ao_s (st_aload_n dL_law_612 rfl rfl) ?_
                                      refine ao_s (st_iload_n dL_law_613 rfl rfl) ?_
                                      refine ao_s (st_iconst dL_law_614 ic_1) ?_
                                      refine ao_s (st_iadd dL_law_615) ?_
                                      refine ao_letI (fun x213 => ?_)
                                      refine ao_xald dL_law_616 ?_
                                      refine ao_s (st_aload_n dL_law_617 rfl rfl) ?_
                                      refine ao_s (st_iload_n dL_law_618 rfl rfl) ?_
                                      refine ao_s (st_iconst dL_law_619 ic_2) ?_
                                      refine ao_s (st_iadd dL_law_620) ?_
                                      refine ao_letI (fun x214 => ?_)
                                      refine ao_xald dL_law_621 ?_
                                      refine ao_s (st_aload_n dL_law_622 rfl rfl) ?_
                                      refine ao_s (st_iload_n dL_law_623 rfl rfl) ?_
                                      refine ao_s (st_iconst dL_law_624 ic_3) ?_
                                      refine ao_s (st_iadd dL_law_625) ?_
                                      refine ao_letI (fun x215 => ?_)
                                      refine ao_xald dL_law_626 ?_
                                      refine ao_chk (fun e216 => ?_)
                                      refine ao_cVi (Kc := kX12_tries) (As := [.int (xs x213.toNatClampNeg), .int (xs x214.toNatClampNeg), .int (xs x215.toNatClampNeg)]) (st := [.int r211]) dL_law_627 ml_L_85 mv_X12_tries rfl e216 (by decide) rfl rfl (Nat.le_of_ble_eq_true rfl) (by decide) (s_X12_tries h212 a2 (xs x213.toNatClampNeg) (xs x214.toNatClampNeg) (xs x215.toNatClampNeg)) (fun r217 h218 => ?_)
                                      refine ao_br (br_icmp_eq (tgt := 1001) dL_law_630 (by decide)) (fun c219 => ?_) (fun c219 => ?_)
                                      · exact ao_w (sb_s (sb_s (sb_s (sb_s sb_0)))) (t_L_law_1001 hk18 h218 a1 a2 x3)
                                      · refine ao_s (st_iconst dL_law_633 ic_0) ?_
                                        exact ao_ir dL_law_634 rfl (by decide)
                                    · refine ao_ite (fun c39 => ?_) (fun c39 => ?_)
                                      · refine ao_s (st_tabIn (v := 17) (off := 602) (tgt := 635) c39 dL_law_33 (by decide) (by decide)) ?_
                                        refine ao_s (st_aload_n dL_law_635 rfl rfl) ?_
                                        refine ao_s (st_aload_n dL_law_636 rfl rfl) ?_
                                        refine ao_s (st_iload_n dL_law_637 rfl rfl) ?_
                                        refine ao_s (st_iconst dL_law_638 ic_1) ?_
                                        refine ao_s (st_iadd dL_law_639) ?_
                                        refine ao_letI (fun x220 => ?_)
                                        refine ao_xald dL_law_640 ?_
                                        refine ao_chk (fun e221 => ?_)
                                        refine ao_cVi (Kc := kX11_liked) (As := [.int (xs x220.toNatClampNeg)]) (st := []) dL_law_641 ml_L_86 mv_X11_liked rfl e221 (by decide) rfl rfl (Nat.le_of_ble_eq_true rfl) (by decide) (s_X11_liked h a1 (xs x220.toNatClampNeg)) (fun r222 h223 => ?_)
                                        refine ao_s (st_aload_n dL_law_644 rfl rfl) ?_
                                        refine ao_s (st_aload_n dL_law_645 rfl rfl) ?_
                                        refine ao_s (st_iload_n dL_law_646 rfl rfl) ?_
                                        refine ao_s (st_iconst dL_law_647 ic_1) ?_
                                        refine ao_s (st_iadd dL_law_648) ?_
                                        refine ao_letI (fun x224 => ?_)
                                        refine ao_xald dL_law_649 ?_
                                        refine ao_chk (fun e225 => ?_)
                                        refine ao_cVi (Kc := kX12_liked) (As := [.int (xs x224.toNatClampNeg)]) (st := [.int r222]) dL_law_650 ml_L_89 mv_X12_liked rfl e225 (by decide) rfl rfl (Nat.le_of_ble_eq_true rfl) (by decide) (s_X12_liked h223 a2 (xs x224.toNatClampNeg)) (fun r226 h227 => ?_)
                                        refine ao_br (br_icmp_eq (tgt := 1001) dL_law_653 (by decide)) (fun c228 => ?_) (fun c228 => ?_)
                                        · exact ao_w (sb_s (sb_s (sb_s (sb_s sb_0)))) (t_L_law_1001 hk18 h227 a1 a2 x3)
                                        · refine ao_s (st_iconst dL_law_656 ic_0) ?_
                                          exact ao_ir dL_law_657 rfl (by decide)
                                      · refine ao_ite (fun c40 => ?_) (fun c40 => ?_)
                                        · refine ao_s (st_tabIn (v := 18) (off := 625) (tgt := 658) c40 dL_law_33 (by decide) (by decide)) ?_
                                          refine ao_s (st_aload_n dL_law_658 rfl rfl) ?_
                                          refine ao_s (st_aload_n dL_law_659 rfl rfl) ?_
                                          refine ao_s (st_iload_n dL_law_660 rfl rfl) ?_
                                          refine ao_s (st_iconst dL_law_661 ic_1) ?_
                                          refine ao_s (st_iadd dL_law_662) ?_
                                          refine ao_letI (fun x229 => ?_)
                                          refine ao_xald dL_law_663 ?_
                                          refine ao_s (st_aload_n dL_law_664 rfl rfl) ?_
                                          refine ao_s (st_iload_n dL_law_665 rfl rfl) ?_
                                          refine ao_s (st_iconst dL_law_666 ic_2) ?_
                                          refine ao_s (st_iadd dL_law_667) ?_
                                          refine ao_letI (fun x230 => ?_)
                                          refine ao_xald dL_law_668 ?_
                                          refine ao_chk (fun e231 => ?_)
                                          refine ao_cVi (Kc := kX11_doors) (As := [.int (xs x229.toNatClampNeg), .int (xs x230.toNatClampNeg)]) (st := []) dL_law_669 ml_L_90 mv_X11_doors rfl e231 (by decide) rfl rfl (Nat.le_of_ble_eq_true rfl) (by decide) (s_X11_doors h a1 (xs x229.toNatClampNeg) (xs x230.toNatClampNeg)) (fun r232 h233 => ?_)
                                          refine ao_s (st_aload_n dL_law_672 rfl rfl) ?_
                                          refine ao_s (st_aload_n dL_law_673 rfl rfl) ?_
                                          refine ao_s (st_iload_n dL_law_674 rfl rfl) ?_
                                          refine ao_s (st_iconst dL_law_675 ic_1) ?_
                                          refine ao_s (st_iadd dL_law_676) ?_
                                          refine ao_letI (fun x234 => ?_)
                                          refine ao_xald dL_law_677 ?_
                                          refine ao_s (st_aload_n dL_law_678 rfl rfl) ?_
                                          refine ao_s (st_iload_n dL_law_679 rfl rfl) ?_
                                          refine ao_s (st_iconst dL_law_680 ic_2) ?_
                                          refine ao_s (st_iadd dL_law_681) ?_
                                          refine ao_letI (fun x235 => ?_)
                                          refine ao_xald dL_law_682 ?_
                                          refine ao_chk (fun e236 => ?_)
                                          refine ao_cVi (Kc := kX12_doors) (As := [.int (xs x234.toNatClampNeg), .int (xs x235.toNatClampNeg)]) (st := [.int r232]) dL_law_683 ml_L_93 mv_X12_doors rfl e236 (by decide) rfl rfl (Nat.le_of_ble_eq_true rfl) (by decide) (s_X12_doors h233 a2 (xs x234.toNatClampNeg) (xs x235.toNatClampNeg)) (fun r237 h238 => ?_)
                                          refine ao_br (br_icmp_eq (tgt := 1001) dL_law_686 (by decide)) (fun c239 => ?_) (fun c239 => ?_)
                                          · exact ao_w (sb_s (sb_s (sb_s (sb_s sb_0)))) (t_L_law_1001 hk18 h238 a1 a2 x3)
                                          · refine ao_s (st_iconst dL_law_689 ic_0) ?_
                                            exact ao_ir dL_law_690 rfl (by decide)
                                        · refine ao_ite (fun c41 => ?_) (fun c41 => ?_)
                                          · refine ao_s (st_tabIn (v := 19) (off := 658) (tgt := 691) c41 dL_law_33 (by decide) (by decide)) ?_
                                            refine ao_s (st_aload_n dL_law_691 rfl rfl) ?_
                                            refine ao_s (st_aload_n dL_law_692 rfl rfl) ?_
                                            refine ao_s (st_iload_n dL_law_693 rfl rfl) ?_
                                            refine ao_s (st_iconst dL_law_694 ic_1) ?_
                                            refine ao_s (st_iadd dL_law_695) ?_
                                            refine ao_letI (fun x240 => ?_)
                                            refine ao_xald dL_law_696 ?_
                                            refine ao_s (st_aload_n dL_law_697 rfl rfl) ?_
                                            refine ao_s (st_iload_n dL_law_698 rfl rfl) ?_
                                            refine ao_s (st_iconst dL_law_699 ic_2) ?_
                                            refine ao_s (st_iadd dL_law_700) ?_
                                            refine ao_letI (fun x241 => ?_)
                                            refine ao_xald dL_law_701 ?_
                                            refine ao_chk (fun e242 => ?_)
                                            refine ao_cVi (Kc := kX11_keep) (As := [.int (xs x240.toNatClampNeg), .int (xs x241.toNatClampNeg)]) (st := []) dL_law_702 ml_L_94 mv_X11_keep rfl e242 (by decide) rfl rfl (Nat.le_of_ble_eq_true rfl) (by decide) (s_X11_keep h a1 (xs x240.toNatClampNeg) (xs x241.toNatClampNeg)) (fun r243 h244 => ?_)
                                            refine ao_s (st_aload_n dL_law_705 rfl rfl) ?_
                                            refine ao_s (st_aload_n dL_law_706 rfl rfl) ?_
                                            refine ao_s (st_iload_n dL_law_707 rfl rfl) ?_
                                            refine ao_s (st_iconst dL_law_708 ic_1) ?_
                                            refine ao_s (st_iadd dL_law_709) ?_
                                            refine ao_letI (fun x245 => ?_)
                                            refine ao_xald dL_law_710 ?_
                                            refine ao_s (st_aload_n dL_law_711 rfl rfl) ?_
                                            refine ao_s (st_iload_n dL_law_712 rfl rfl) ?_
                                            refine ao_s (st_iconst dL_law_713 ic_2) ?_
                                            refine ao_s (st_iadd dL_law_714) ?_
                                            refine ao_letI (fun x246 => ?_)
                                            refine ao_xald dL_law_715 ?_
                                            refine ao_chk (fun e247 => ?_)
                                            refine ao_cVi (Kc := kX12_keep) (As := [.int (xs x245.toNatClampNeg), .int (xs x246.toNatClampNeg)]) (st := [.int r243]) dL_law_716 ml_L_97 mv_X12_keep rfl e247 (by decide) rfl rfl (Nat.le_of_ble_eq_true rfl) (by decide) (s_X12_keep h244 a2 (xs x245.toNatClampNeg) (xs x246.toNatClampNeg)) (fun r248 h249 => ?_)
                                            refine ao_br (br_icmp_eq (tgt := 1001) dL_law_719 (by decide)) (fun c250 => ?_) (fun c250 => ?_)
                                            · exact ao_w (sb_s (sb_s (sb_s (sb_s sb_0)))) (t_L_law_1001 hk18 h249 a1 a2 x3)
                                            · refine ao_s (st_iconst dL_law_722 ic_0) ?_
                                              exact ao_ir dL_law_723 rfl (by decide)
                                          · refine ao_ite (fun c42 => ?_) (fun c42 => ?_)
                                            · refine ao_s (st_tabIn (v := 20) (off := 691) (tgt := 724) c42 dL_law_33 (by decide) (by decide)) ?_
                                              refine ao_s (st_aload_n dL_law_724 rfl rfl) ?_
                                              refine ao_s (st_aload_n dL_law_725 rfl rfl) ?_
                                              refine ao_s (st_iload_n dL_law_726 rfl rfl) ?_
                                              refine ao_s (st_iconst dL_law_727 ic_1) ?_
                                              refine ao_s (st_iadd dL_law_728) ?_
                                              refine ao_letI (fun x251 => ?_)
                                              refine ao_xald dL_law_729 ?_
                                              refine ao_s (st_aload_n dL_law_730 rfl rfl) ?_
                                              refine ao_s (st_iload_n dL_law_731 rfl rfl) ?_
                                              refine ao_s (st_iconst dL_law_732 ic_2) ?_
                                              refine ao_s (st_iadd dL_law_733) ?_
                                              refine ao_letI (fun x252 => ?_)
                                              refine ao_xald dL_law_734 ?_
                                              refine ao_s (st_aload_n dL_law_735 rfl rfl) ?_
                                              refine ao_s (st_iload_n dL_law_736 rfl rfl) ?_
                                              refine ao_s (st_iconst dL_law_737 ic_3) ?_
                                              refine ao_s (st_iadd dL_law_738) ?_
                                              refine ao_letI (fun x253 => ?_)
                                              refine ao_xald dL_law_739 ?_
                                              refine ao_chk (fun e254 => ?_)
                                              refine ao_cVi (Kc := kX11_note) (As := [.int (xs x251.toNatClampNeg), .int (xs x252.toNatClampNeg), .int (xs x253.toNatClampNeg)]) (st := []) dL_law_740 ml_L_98 mv_X11_note rfl e254 (by decide) rfl rfl (Nat.le_of_ble_eq_true rfl) (by decide) (s_X11_note h a1 (xs x251.toNatClampNeg) (xs x252.toNatClampNeg) (xs x253.toNatClampNeg)) (fun r255 h256 => ?_)
                                              refine ao_s (st_aload_n dL_law_743 rfl rfl) ?_
                                              refine ao_s (st_aload_n dL_law_744 rfl rfl) ?_
                                              refine ao_s (st_iload_n dL_law_745 rfl rfl) ?_
                                              refine ao_s (st_iconst dL_law_746 ic_1) ?_
                                              refine ao_s (st_iadd dL_law_747) ?_
                                              refine ao_letI (fun x257 => ?_)
                                              refine ao_xald dL_law_748 ?_
                                              refine ao_s (st_aload_n dL_law_749 rfl rfl) ?_
                                              refine ao_s (st_iload_n dL_law_750 rfl rfl) ?_
                                              refine ao_s (st_iconst dL_law_751 ic_2) ?_
                                              refine ao_s (st_iadd dL_law_752) ?_
                                              refine ao_letI (fun x258 => ?_)
                                              refine ao_xald dL_law_753 ?_
                                              refine ao_s (st_aload_n dL_law_754 rfl rfl) ?_
                                              refine ao_s (st_iload_n dL_law_755 rfl rfl) ?_
                                              refine ao_s (st_iconst dL_law_756 ic_3) ?_
                                              refine ao_s (st_iadd dL_law_757) ?_
                                              refine ao_letI (fun x259 => ?_)
                                              refine ao_xald dL_law_758 ?_
                                              refine ao_chk (fun e260 => ?_)
                                              refine ao_cVi (Kc := kX12_note) (As := [.int (xs x257.toNatClampNeg), .int (xs x258.toNatClampNeg), .int (xs x259.toNatClampNeg)]) (st := [.int r255]) dL_law_759 ml_L_101 mv_X12_note rfl e260 (by decide) rfl rfl (Nat.le_of_ble_eq_true rfl) (by decide) (s_X12_note h256 a2 (xs x257.toNatClampNeg) (xs x258.toNatClampNeg) (xs x259.toNatClampNeg)) (fun r261 h262 => ?_)
                                              refine ao_br (br_icmp_eq (tgt := 1001) dL_law_762 (by decide)) (fun c263 => ?_) (fun c263 => ?_)
                                              · exact ao_w (sb_s (sb_s (sb_s (sb_s sb_0)))) (t_L_law_1001 hk18 h262 a1 a2 x3)
                                              · refine ao_s (st_iconst dL_law_765 ic_0) ?_
                                                exact ao_ir dL_law_766 rfl (by decide)
                                            · refine ao_ite (fun c43 => ?_) (fun c43 => ?_)
                                              · refine ao_s (st_tabIn (v := 21) (off := 734) (tgt := 767) c43 dL_law_33 (by decide) (by decide)) ?_
                                                refine ao_s (st_aload_n dL_law_767 rfl rfl) ?_
                                                refine ao_s (st_aload_n dL_law_768 rfl rfl) ?_
                                                refine ao_s (st_iload_n dL_law_769 rfl rfl) ?_
                                                refine ao_s (st_iconst dL_law_770 ic_1) ?_
                                                refine ao_s (st_iadd dL_law_771) ?_
                                                refine ao_letI (fun x264 => ?_)
                                                refine ao_xald dL_law_772 ?_
                                                refine ao_chk (fun e265 => ?_)
                                                refine ao_cVi (Kc := kX11_ruled) (As := [.int (xs x264.toNatClampNeg)]) (st := []) dL_law_773 ml_L_102 mv_X11_ruled rfl e265 (by decide) rfl rfl (Nat.le_of_ble_eq_true rfl) (by decide) (s_X11_ruled h a1 (xs x264.toNatClampNeg)) (fun r266 h267 => ?_)
                                                refine ao_s (st_aload_n dL_law_776 rfl rfl) ?_
                                                refine ao_s (st_aload_n dL_law_777 rfl rfl) ?_
                                                refine ao_s (st_iload_n dL_law_778 rfl rfl) ?_
                                                refine ao_s (st_iconst dL_law_779 ic_1) ?_
                                                refine ao_s (st_iadd dL_law_780) ?_
                                                refine ao_letI (fun x268 => ?_)
                                                refine ao_xald dL_law_781 ?_
                                                refine ao_chk (fun e269 => ?_)
                                                refine ao_cVi (Kc := kX12_ruled) (As := [.int (xs x268.toNatClampNeg)]) (st := [.int r266]) dL_law_782 ml_L_105 mv_X12_ruled rfl e269 (by decide) rfl rfl (Nat.le_of_ble_eq_true rfl) (by decide) (s_X12_ruled h267 a2 (xs x268.toNatClampNeg)) (fun r270 h271 => ?_)
                                                refine ao_br (br_icmp_eq (tgt := 1001) dL_law_785 (by decide)) (fun c272 => ?_) (fun c272 => ?_)
                                                · exact ao_w (sb_s (sb_s (sb_s (sb_s sb_0)))) (t_L_law_1001 hk18 h271 a1 a2 x3)
                                                · refine ao_s (st_iconst dL_law_788 ic_0) ?_
                                                  exact ao_ir dL_law_789 rfl (by decide)
                                              · refine ao_ite (fun c44 => ?_) (fun c44 => ?_)
                                                · refine ao_s (st_tabIn (v := 22) (off := 757) (tgt := 790) c44 dL_law_33 (by decide) (by decide)) ?_
                                                  refine ao_s (st_aload_n dL_law_790 rfl rfl) ?_
                                                  refine ao_s (st_aload_n dL_law_791 rfl rfl) ?_
                                                  refine ao_s (st_iload_n dL_law_792 rfl rfl) ?_
                                                  refine ao_s (st_iconst dL_law_793 ic_1) ?_
                                                  refine ao_s (st_iadd dL_law_794) ?_
                                                  refine ao_letI (fun x273 => ?_)
                                                  refine ao_xald dL_law_795 ?_
                                                  refine ao_s (st_aload_n dL_law_796 rfl rfl) ?_
                                                  refine ao_s (st_iload_n dL_law_797 rfl rfl) ?_
                                                  refine ao_s (st_iconst dL_law_798 ic_2) ?_
                                                  refine ao_s (st_iadd dL_law_799) ?_
                                                  refine ao_letI (fun x274 => ?_)
                                                  refine ao_xald dL_law_800 ?_
                                                  refine ao_chk (fun e275 => ?_)
                                                  refine ao_cVi (Kc := kX11_boats) (As := [.int (xs x273.toNatClampNeg), .int (xs x274.toNatClampNeg)]) (st := []) dL_law_801 ml_L_106 mv_X11_boats rfl e275 (by decide) rfl rfl (Nat.le_of_ble_eq_true rfl) (by decide) (s_X11_boats h a1 (xs x273.toNatClampNeg) (xs x274.toNatClampNeg)) (fun r276 h277 => ?_)
                                                  refine ao_s (st_aload_n dL_law_804 rfl rfl) ?_
                                                  refine ao_s (st_aload_n dL_law_805 rfl rfl) ?_
                                                  refine ao_s (st_iload_n dL_law_806 rfl rfl) ?_
                                                  refine ao_s (st_iconst dL_law_807 ic_1) ?_
                                                  refine ao_s (st_iadd dL_law_808) ?_
                                                  refine ao_letI (fun x278 => ?_)
                                                  refine ao_xald dL_law_809 ?_
                                                  refine ao_s (st_aload_n dL_law_810 rfl rfl) ?_
                                                  refine ao_s (st_iload_n dL_law_811 rfl rfl) ?_
                                                  refine ao_s (st_iconst dL_law_812 ic_2) ?_
                                                  refine ao_s (st_iadd dL_law_813) ?_
                                                  refine ao_letI (fun x279 => ?_)
                                                  refine ao_xald dL_law_814 ?_
                                                  refine ao_chk (fun e280 => ?_)
                                                  refine ao_cVi (Kc := kX12_boats) (As := [.int (xs x278.toNatClampNeg), .int (xs x279.toNatClampNeg)]) (st := [.int r276]) dL_law_815 ml_L_109 mv_X12_boats rfl e280 (by decide) rfl rfl (Nat.le_of_ble_eq_true rfl) (by decide) (s_X12_boats h277 a2 (xs x278.toNatClampNeg) (xs x279.toNatClampNeg)) (fun r281 h282 => ?_)
                                                  refine ao_br (br_icmp_eq (tgt := 1001) dL_law_818 (by decide)) (fun c283 => ?_) (fun c283 => ?_)
                                                  · exact ao_w (sb_s (sb_s (sb_s (sb_s sb_0)))) (t_L_law_1001 hk18 h282 a1 a2 x3)
                                                  · refine ao_s (st_iconst dL_law_821 ic_0) ?_
                                                    exact ao_ir dL_law_822 rfl (by decide)
                                                · refine ao_ite (fun c45 => ?_) (fun c45 => ?_)
                                                  · refine ao_s (st_tabIn (v := 23) (off := 790) (tgt := 823) c45 dL_law_33 (by decide) (by decide)) ?_
                                                    refine ao_s (st_aload_n dL_law_823 rfl rfl) ?_
                                                    refine ao_s (st_aload_n dL_law_824 rfl rfl) ?_
                                                    refine ao_s (st_iload_n dL_law_825 rfl rfl) ?_
                                                    refine ao_s (st_iconst dL_law_826 ic_1) ?_
                                                    refine ao_s (st_iadd dL_law_827) ?_
                                                    refine ao_letI (fun x284 => ?_)
                                                    refine ao_xald dL_law_828 ?_
                                                    refine ao_s (st_aload_n dL_law_829 rfl rfl) ?_
                                                    refine ao_s (st_iload_n dL_law_830 rfl rfl) ?_
                                                    refine ao_s (st_iconst dL_law_831 ic_2) ?_
                                                    refine ao_s (st_iadd dL_law_832) ?_
                                                    refine ao_letI (fun x285 => ?_)
                                                    refine ao_xald dL_law_833 ?_
                                                    refine ao_chk (fun e286 => ?_)
                                                    refine ao_cVi (Kc := kX11_look) (As := [.int (xs x284.toNatClampNeg), .int (xs x285.toNatClampNeg)]) (st := []) dL_law_834 ml_L_110 mv_X11_look rfl e286 (by decide) rfl rfl (Nat.le_of_ble_eq_true rfl) (by decide) (s_X11_look h a1 (xs x284.toNatClampNeg) (xs x285.toNatClampNeg)) (fun r287 h288 => ?_)
                                                    refine ao_s (st_aload_n dL_law_837 rfl rfl) ?_
                                                    refine ao_s (st_aload_n dL_law_838 rfl rfl) ?_
                                                    refine ao_s (st_iload_n dL_law_839 rfl rfl) ?_
                                                    refine ao_s (st_iconst dL_law_840 ic_1) ?_
                                                    refine ao_s (st_iadd dL_law_841) ?_
                                                    refine ao_letI (fun x289 => ?_)
                                                    refine ao_xald dL_law_842 ?_
                                                    refine ao_s (st_aload_n dL_law_843 rfl rfl) ?_
                                                    refine ao_s (st_iload_n dL_law_844 rfl rfl) ?_
                                                    refine ao_s (st_iconst dL_law_845 ic_2) ?_
                                                    refine ao_s (st_iadd dL_law_846) ?_
                                                    refine ao_letI (fun x290 => ?_)
                                                    refine ao_xald dL_law_847 ?_
                                                    refine ao_chk (fun e291 => ?_)
                                                    refine ao_cVi (Kc := kX12_look) (As := [.int (xs x289.toNatClampNeg), .int (xs x290.toNatClampNeg)]) (st := [.int r287]) dL_law_848 ml_L_113 mv_X12_look rfl e291 (by decide) rfl rfl (Nat.le_of_ble_eq_true rfl) (by decide) (s_X12_look h288 a2 (xs x289.toNatClampNeg) (xs x290.toNatClampNeg)) (fun r292 h293 => ?_)
                                                    refine ao_br (br_icmp_eq (tgt := 1001) dL_law_851 (by decide)) (fun c294 => ?_) (fun c294 => ?_)
                                                    · exact ao_w (sb_s (sb_s (sb_s (sb_s sb_0)))) (t_L_law_1001 hk18 h293 a1 a2 x3)
                                                    · refine ao_s (st_iconst dL_law_854 ic_0) ?_
                                                      exact ao_ir dL_law_855 rfl (by decide)
                                                  · refine ao_ite (fun c46 => ?_) (fun c46 => ?_)
                                                    · refine ao_s (st_tabIn (v := 24) (off := 823) (tgt := 856) c46 dL_law_33 (by decide) (by decide)) ?_
                                                      refine ao_s (st_aload_n dL_law_856 rfl rfl) ?_
                                                      refine ao_s (st_aload_n dL_law_857 rfl rfl) ?_
                                                      refine ao_s (st_iload_n dL_law_858 rfl rfl) ?_
                                                      refine ao_s (st_iconst dL_law_859 ic_1) ?_
                                                      refine ao_s (st_iadd dL_law_860) ?_
                                                      refine ao_letI (fun x295 => ?_)
                                                      refine ao_xald dL_law_861 ?_
                                                      refine ao_chk (fun e296 => ?_)
                                                      refine ao_cVi (Kc := kX11_seed) (As := [.int (xs x295.toNatClampNeg)]) (st := []) dL_law_862 ml_L_114 mv_X11_seed rfl e296 (by decide) rfl rfl (Nat.le_of_ble_eq_true rfl) (by decide) (s_X11_seed h a1 (xs x295.toNatClampNeg)) (fun r297 h298 => ?_)
                                                      refine ao_s (st_aload_n dL_law_865 rfl rfl) ?_
                                                      refine ao_s (st_aload_n dL_law_866 rfl rfl) ?_
                                                      refine ao_s (st_iload_n dL_law_867 rfl rfl) ?_
                                                      refine ao_s (st_iconst dL_law_868 ic_1) ?_
                                                      refine ao_s (st_iadd dL_law_869) ?_
                                                      refine ao_letI (fun x299 => ?_)
                                                      refine ao_xald dL_law_870 ?_
                                                      refine ao_chk (fun e300 => ?_)
                                                      refine ao_cVi (Kc := kX12_seed) (As := [.int (xs x299.toNatClampNeg)]) (st := [.int r297]) dL_law_871 ml_L_117 mv_X12_seed rfl e300 (by decide) rfl rfl (Nat.le_of_ble_eq_true rfl) (by decide) (s_X12_seed h298 a2 (xs x299.toNatClampNeg)) (fun r301 h302 => ?_)
                                                      refine ao_br (br_icmp_eq (tgt := 1001) dL_law_874 (by decide)) (fun c303 => ?_) (fun c303 => ?_)
                                                      · exact ao_w (sb_s (sb_s (sb_s (sb_s sb_0)))) (t_L_law_1001 hk18 h302 a1 a2 x3)
                                                      · refine ao_s (st_iconst dL_law_877 ic_0) ?_
                                                        exact ao_ir dL_law_878 rfl (by decide)
                                                    · refine ao_ite (fun c47 => ?_) (fun c47 => ?_)
                                                      · refine ao_s (st_tabIn (v := 25) (off := 846) (tgt := 879) c47 dL_law_33 (by decide) (by decide)) ?_
                                                        refine ao_s (st_aload_n dL_law_879 rfl rfl) ?_
                                                        refine ao_s (st_aload_n dL_law_880 rfl rfl) ?_
                                                        refine ao_s (st_iload_n dL_law_881 rfl rfl) ?_
                                                        refine ao_s (st_iconst dL_law_882 ic_1) ?_
                                                        refine ao_s (st_iadd dL_law_883) ?_
                                                        refine ao_letI (fun x304 => ?_)
                                                        refine ao_xald dL_law_884 ?_
                                                        refine ao_s (st_aload_n dL_law_885 rfl rfl) ?_
                                                        refine ao_s (st_iload_n dL_law_886 rfl rfl) ?_
                                                        refine ao_s (st_iconst dL_law_887 ic_2) ?_
                                                        refine ao_s (st_iadd dL_law_888) ?_
                                                        refine ao_letI (fun x305 => ?_)
                                                        refine ao_xald dL_law_889 ?_
                                                        refine ao_s (st_aload_n dL_law_890 rfl rfl) ?_
                                                        refine ao_s (st_iload_n dL_law_891 rfl rfl) ?_
                                                        refine ao_s (st_iconst dL_law_892 ic_3) ?_
                                                        refine ao_s (st_iadd dL_law_893) ?_
                                                        refine ao_letI (fun x306 => ?_)
                                                        refine ao_xald dL_law_894 ?_
                                                        refine ao_s (st_aload_n dL_law_895 rfl rfl) ?_
                                                        refine ao_s (st_iload_n dL_law_896 rfl rfl) ?_
                                                        refine ao_s (st_iconst dL_law_897 ic_4) ?_
                                                        refine ao_s (st_iadd dL_law_898) ?_
                                                        refine ao_letI (fun x307 => ?_)
                                                        refine ao_xald dL_law_899 ?_
                                                        refine ao_chk (fun e308 => ?_)
                                                        refine ao_cVi (Kc := kX11_isles) (As := [.int (xs x304.toNatClampNeg), .int (xs x305.toNatClampNeg), .int (xs x306.toNatClampNeg), .int (xs x307.toNatClampNeg)]) (st := []) dL_law_900 ml_L_118 mv_X11_isles rfl e308 (by decide) rfl rfl (Nat.le_of_ble_eq_true rfl) (by decide) (s_X11_isles h a1 (xs x304.toNatClampNeg) (xs x305.toNatClampNeg) (xs x306.toNatClampNeg) (xs x307.toNatClampNeg)) (fun r309 h310 => ?_)
                                                        refine ao_s (st_aload_n dL_law_903 rfl rfl) ?_
                                                        refine ao_s (st_aload_n dL_law_904 rfl rfl) ?_
                                                        refine ao_s (st_iload_n dL_law_905 rfl rfl) ?_
                                                        refine ao_s (st_iconst dL_law_906 ic_1) ?_
                                                        refine ao_s (st_iadd dL_law_907) ?_
                                                        refine ao_letI (fun x311 => ?_)
                                                        refine ao_xald dL_law_908 ?_
                                                        refine ao_s (st_aload_n dL_law_909 rfl rfl) ?_
                                                        refine ao_s (st_iload_n dL_law_910 rfl rfl) ?_
                                                        refine ao_s (st_iconst dL_law_911 ic_2) ?_
                                                        refine ao_s (st_iadd dL_law_912) ?_
                                                        refine ao_letI (fun x312 => ?_)
                                                        refine ao_xald dL_law_913 ?_
                                                        refine ao_s (st_aload_n dL_law_914 rfl rfl) ?_
                                                        refine ao_s (st_iload_n dL_law_915 rfl rfl) ?_
                                                        refine ao_s (st_iconst dL_law_916 ic_3) ?_
                                                        refine ao_s (st_iadd dL_law_917) ?_
                                                        refine ao_letI (fun x313 => ?_)
                                                        refine ao_xald dL_law_918 ?_
                                                        refine ao_s (st_aload_n dL_law_919 rfl rfl) ?_
                                                        refine ao_s (st_iload_n dL_law_920 rfl rfl) ?_
                                                        refine ao_s (st_iconst dL_law_921 ic_4) ?_
                                                        refine ao_s (st_iadd dL_law_922) ?_
                                                        refine ao_letI (fun x314 => ?_)
                                                        refine ao_xald dL_law_923 ?_
                                                        refine ao_chk (fun e315 => ?_)
                                                        refine ao_cVi (Kc := kX12_isles) (As := [.int (xs x311.toNatClampNeg), .int (xs x312.toNatClampNeg), .int (xs x313.toNatClampNeg), .int (xs x314.toNatClampNeg)]) (st := [.int r309]) dL_law_924 ml_L_122 mv_X12_isles rfl e315 (by decide) rfl rfl (Nat.le_of_ble_eq_true rfl) (by decide) (s_X12_isles h310 a2 (xs x311.toNatClampNeg) (xs x312.toNatClampNeg) (xs x313.toNatClampNeg) (xs x314.toNatClampNeg)) (fun r316 h317 => ?_)
                                                        refine ao_br (br_icmp_eq (tgt := 1001) dL_law_927 (by decide)) (fun c318 => ?_) (fun c318 => ?_)
                                                        · exact ao_w (sb_s (sb_s (sb_s (sb_s sb_0)))) (t_L_law_1001 hk18 h317 a1 a2 x3)
                                                        · refine ao_s (st_iconst dL_law_930 ic_0) ?_
                                                          exact ao_ir dL_law_931 rfl (by decide)
                                                      · refine ao_ite (fun c48 => ?_) (fun c48 => ?_)
                                                        · refine ao_s (st_tabIn (v := 26) (off := 899) (tgt := 932) c48 dL_law_33 (by decide) (by decide)) ?_
                                                          refine ao_s (st_aload_n dL_law_932 rfl rfl) ?_
                                                          refine ao_s (st_aload_n dL_law_933 rfl rfl) ?_
                                                          refine ao_s (st_iload_n dL_law_934 rfl rfl) ?_
                                                          refine ao_s (st_iconst dL_law_935 ic_1) ?_
                                                          refine ao_s (st_iadd dL_law_936) ?_
                                                          refine ao_letI (fun x319 => ?_)
                                                          refine ao_xald dL_law_937 ?_
                                                          refine ao_chk (fun e320 => ?_)
                                                          refine ao_cVi (Kc := kX11_count) (As := [.int (xs x319.toNatClampNeg)]) (st := []) dL_law_938 ml_L_123 mv_X11_count rfl e320 (by decide) rfl rfl (Nat.le_of_ble_eq_true rfl) (by decide) (s_X11_count h a1 (xs x319.toNatClampNeg)) (fun r321 h322 => ?_)
                                                          refine ao_s (st_aload_n dL_law_941 rfl rfl) ?_
                                                          refine ao_s (st_aload_n dL_law_942 rfl rfl) ?_
                                                          refine ao_s (st_iload_n dL_law_943 rfl rfl) ?_
                                                          refine ao_s (st_iconst dL_law_944 ic_1) ?_
                                                          refine ao_s (st_iadd dL_law_945) ?_
                                                          refine ao_letI (fun x323 => ?_)
                                                          refine ao_xald dL_law_946 ?_
                                                          refine ao_chk (fun e324 => ?_)
                                                          refine ao_cVi (Kc := kX12_count) (As := [.int (xs x323.toNatClampNeg)]) (st := [.int r321]) dL_law_947 ml_L_126 mv_X12_count rfl e324 (by decide) rfl rfl (Nat.le_of_ble_eq_true rfl) (by decide) (s_X12_count h322 a2 (xs x323.toNatClampNeg)) (fun r325 h326 => ?_)
                                                          refine ao_br (br_icmp_eq (tgt := 1001) dL_law_950 (by decide)) (fun c327 => ?_) (fun c327 => ?_)
                                                          · exact ao_w (sb_s (sb_s (sb_s (sb_s sb_0)))) (t_L_law_1001 hk18 h326 a1 a2 x3)
                                                          · refine ao_s (st_iconst dL_law_953 ic_0) ?_
                                                            exact ao_ir dL_law_954 rfl (by decide)
                                                        · refine ao_ite (fun c49 => ?_) (fun c49 => ?_)
                                                          · refine ao_s (st_tabIn (v := 27) (off := 922) (tgt := 955) c49 dL_law_33 (by decide) (by decide)) ?_
                                                            refine ao_s (st_aload_n dL_law_955 rfl rfl) ?_
                                                            refine ao_s (st_aload_n dL_law_956 rfl rfl) ?_
                                                            refine ao_s (st_iload_n dL_law_957 rfl rfl) ?_
                                                            refine ao_s (st_iconst dL_law_958 ic_1) ?_
                                                            refine ao_s (st_iadd dL_law_959) ?_
                                                            refine ao_letI (fun x328 => ?_)
                                                            refine ao_xald dL_law_960 ?_
                                                            refine ao_chk (fun e329 => ?_)
                                                            refine ao_cVi (Kc := kX11_image) (As := [.int (xs x328.toNatClampNeg)]) (st := []) dL_law_961 ml_L_127 mv_X11_image rfl e329 (by decide) rfl rfl (Nat.le_of_ble_eq_true rfl) (by decide) (s_X11_image h a1 (xs x328.toNatClampNeg)) (fun r330 h331 => ?_)
                                                            refine ao_s (st_aload_n dL_law_964 rfl rfl) ?_
                                                            refine ao_s (st_aload_n dL_law_965 rfl rfl) ?_
                                                            refine ao_s (st_iload_n dL_law_966 rfl rfl) ?_
                                                            refine ao_s (st_iconst dL_law_967 ic_1) ?_
                                                            refine ao_s (st_iadd dL_law_968) ?_
                                                            refine ao_letI (fun x332 => ?_)
                                                            refine ao_xald dL_law_969 ?_
                                                            refine ao_chk (fun e333 => ?_)
                                                            refine ao_cVi (Kc := kX12_image) (As := [.int (xs x332.toNatClampNeg)]) (st := [.int r330]) dL_law_970 ml_L_130 mv_X12_image rfl e333 (by decide) rfl rfl (Nat.le_of_ble_eq_true rfl) (by decide) (s_X12_image h331 a2 (xs x332.toNatClampNeg)) (fun r334 h335 => ?_)
                                                            refine ao_br (br_icmp_eq (tgt := 1001) dL_law_973 (by decide)) (fun c336 => ?_) (fun c336 => ?_)
                                                            · exact ao_w (sb_s (sb_s (sb_s (sb_s sb_0)))) (t_L_law_1001 hk18 h335 a1 a2 x3)
                                                            · refine ao_s (st_iconst dL_law_976 ic_0) ?_
                                                              exact ao_ir dL_law_977 rfl (by decide)
                                                          · refine ao_ite (fun c50 => ?_) (fun c50 => ?_)
                                                            · refine ao_s (st_tabIn (v := 28) (off := 945) (tgt := 978) c50 dL_law_33 (by decide) (by decide)) ?_
                                                              refine ao_s (st_aload_n dL_law_978 rfl rfl) ?_
                                                              refine ao_s (st_aload_n dL_law_979 rfl rfl) ?_
                                                              refine ao_s (st_iload_n dL_law_980 rfl rfl) ?_
                                                              refine ao_s (st_iconst dL_law_981 ic_1) ?_
                                                              refine ao_s (st_iadd dL_law_982) ?_
                                                              refine ao_letI (fun x337 => ?_)
                                                              refine ao_xald dL_law_983 ?_
                                                              refine ao_chk (fun e338 => ?_)
                                                              refine ao_cVi (Kc := kX11_back) (As := [.int (xs x337.toNatClampNeg)]) (st := []) dL_law_984 ml_L_131 mv_X11_back rfl e338 (by decide) rfl rfl (Nat.le_of_ble_eq_true rfl) (by decide) (s_X11_back h a1 (xs x337.toNatClampNeg)) (fun r339 h340 => ?_)
                                                              refine ao_s (st_aload_n dL_law_987 rfl rfl) ?_
                                                              refine ao_s (st_aload_n dL_law_988 rfl rfl) ?_
                                                              refine ao_s (st_iload_n dL_law_989 rfl rfl) ?_
                                                              refine ao_s (st_iconst dL_law_990 ic_1) ?_
                                                              refine ao_s (st_iadd dL_law_991) ?_
                                                              refine ao_letI (fun x341 => ?_)
                                                              refine ao_xald dL_law_992 ?_
                                                              refine ao_chk (fun e342 => ?_)
                                                              refine ao_cVi (Kc := kX12_back) (As := [.int (xs x341.toNatClampNeg)]) (st := [.int r339]) dL_law_993 ml_L_134 mv_X12_back rfl e342 (by decide) rfl rfl (Nat.le_of_ble_eq_true rfl) (by decide) (s_X12_back h340 a2 (xs x341.toNatClampNeg)) (fun r343 h344 => ?_)
                                                              refine ao_br (br_icmp_eq (tgt := 1001) dL_law_996 (by decide)) (fun c345 => ?_) (fun c345 => ?_)
                                                              · exact ao_w (sb_s (sb_s (sb_s (sb_s sb_0)))) (t_L_law_1001 hk18 h344 a1 a2 x3)
                                                              · refine ao_s (st_iconst dL_law_999 ic_0) ?_
                                                                exact ao_ir dL_law_1000 rfl (by decide)
                                                            · refine ao_s (st_tabOut (tgt := 1001) dL_law_33 (by have q0 := lv_neT c22 (show (0 : Int32).toInt = 0 by decide); have q1 := lv_neT c23 (show (1 : Int32).toInt = 1 by decide); have q2 := lv_neT c24 (show (2 : Int32).toInt = 2 by decide); have q3 := lv_neT c25 (show (3 : Int32).toInt = 3 by decide); have q4 := lv_neT c26 (show (4 : Int32).toInt = 4 by decide); have q5 := lv_neT c27 (show (5 : Int32).toInt = 5 by decide); have q6 := lv_neT c28 (show (6 : Int32).toInt = 6 by decide); have q7 := lv_neT c29 (show (7 : Int32).toInt = 7 by decide); have q8 := lv_neT c30 (show (8 : Int32).toInt = 8 by decide); have q9 := lv_neT c31 (show (9 : Int32).toInt = 9 by decide); have q10 := lv_neT c32 (show (10 : Int32).toInt = 10 by decide); have q11 := lv_neT c33 (show (11 : Int32).toInt = 11 by decide); have q12 := lv_neT c34 (show (12 : Int32).toInt = 12 by decide); have q13 := lv_neT c35 (show (13 : Int32).toInt = 13 by decide); have q14 := lv_neT c36 (show (14 : Int32).toInt = 14 by decide); have q15 := lv_neT c37 (show (15 : Int32).toInt = 15 by decide); have q16 := lv_neT c38 (show (16 : Int32).toInt = 16 by decide); have q17 := lv_neT c39 (show (17 : Int32).toInt = 17 by decide); have q18 := lv_neT c40 (show (18 : Int32).toInt = 18 by decide); have q19 := lv_neT c41 (show (19 : Int32).toInt = 19 by decide); have q20 := lv_neT c42 (show (20 : Int32).toInt = 20 by decide); have q21 := lv_neT c43 (show (21 : Int32).toInt = 21 by decide); have q22 := lv_neT c44 (show (22 : Int32).toInt = 22 by decide); have q23 := lv_neT c45 (show (23 : Int32).toInt = 23 by decide); have q24 := lv_neT c46 (show (24 : Int32).toInt = 24 by decide); have q25 := lv_neT c47 (show (25 : Int32).toInt = 25 by decide); have q26 := lv_neT c48 (show (26 : Int32).toInt = 26 by decide); have q27 := lv_neT c49 (show (27 : Int32).toInt = 27 by decide); have q28 := lv_neT c50 (show (28 : Int32).toInt = 28 by decide); omega) (by decide)) ?_
                                                              exact ao_w (sb_s (sb_s (sb_s (sb_s sb_0)))) (t_L_law_1001 hk18 h a1 a2 x3)
def f_L_law_18 (L0 : Nat) (xs : Nat → Int32) (n : Nat) : aH → Nat → Nat → Int32 → Option (Int32 × aH) := aIt (fun _ _ _ _ => none) (fun k => b_L_law_18 L0 xs k) n
theorem l_L_law_18 {L0 : Nat} {xs : Nat → Int32} (n : Nat) : ∀ (h : aH) (a1 : Nat) (a2 : Nat) (x3 : Int32), AOx (aPhi L0 xs) eI 53 kL_law 18 [some (.ref 1030), some (.ref a1), some (.ref a2), some (.int x3)] [] h (f_L_law_18 L0 xs n h a1 a2 x3) := by
  induction n with
  | zero => intros; exact ao_none
  | succ n ih =>
    intro h a1 a2 x3
    exact t_L_law_18 ih h a1 a2 x3
def f_L_law (L0 : Nat) (xs : Nat → Int32) (h : aH) : Option (Int32 × aH) :=
(if sh h.1 = (11 + 7, cN 11) ∧ h.1 < aSB then
(aLet (aN h) fun h21 =>
(aBind (f_X11_init h21 h.1) fun r22 h23 =>
(if sh h23.1 = (12 + 7, cN 12) ∧ h23.1 < aSB then
(aLet (aN h23) fun h24 =>
(aBind (f_X12_init h24 h23.1) fun r25 h26 =>
(if h26.1 = aNN then
f_L_law_18 L0 xs 2000 h26 h.1 h23.1 0
else none)))
else none)))
else none)
set_option maxHeartbeats 4000000 in
theorem s_L_law {L0 : Nat} {xs : Nat → Int32} (h : aH) : AOc (aPhi L0 xs) eI 53 kL_law 0 [some (.ref 1030), none, none, none] [] h (f_L_law L0 xs h) := by
  unfold f_L_law
  refine aoc_new (ci := 11) dL_law_0 cw_L_7 (by decide) ?_
  refine aoc_letH (fun h21 => ?_)
  refine aoc_s (st_dup dL_law_3 rfl) ?_
  refine aoc_callI (Kc := kX11_init) (As := []) (st := [.ref h.1]) dL_law_4 (Or.inl ml_L_9) mi_X11_init mn_X11_init rfl rfl rfl rfl (Nat.le_of_ble_eq_true rfl) (by decide) (s_X11_init h21 h.1) (fun r22 h23 => ?_)
  refine aoc_s (st_astore_n (lv' := [some (.ref 1030), some (.ref h.1), none, none]) dL_law_7 rfl (by decide) rfl) ?_
  refine aoc_new (ci := 12) dL_law_8 cw_L_10 (by decide) ?_
  refine aoc_letH (fun h24 => ?_)
  refine aoc_s (st_dup dL_law_11 rfl) ?_
  refine aoc_callI (Kc := kX12_init) (As := []) (st := [.ref h23.1]) dL_law_12 (Or.inl ml_L_12) mi_X12_init mn_X12_init rfl rfl rfl rfl (Nat.le_of_ble_eq_true rfl) (by decide) (s_X12_init h24 h23.1) (fun r25 h26 => ?_)
  refine aoc_s (st_astore_n (lv' := [some (.ref 1030), some (.ref h.1), some (.ref h23.1), none]) dL_law_15 rfl (by decide) rfl) ?_
  refine aoc_s (st_iconst dL_law_16 ic_0) ?_
  refine aoc_s (st_istore_n (lv' := [some (.ref 1030), some (.ref h.1), some (.ref h23.1), some (.int 0)]) dL_law_17 rfl (by decide) rfl) ?_
  refine aoc_ao ?_
  exact ao_w (sb_s (sb_s (sb_s (sb_s sb_0)))) (l_L_law_18 2000 h26 h.1 h23.1 0)
