/-! ===== the abstract machine: a heap of cells by number, its picture in the machine's heap, the judgement AW ===== -/
abbrev aG : Type := Nat × (Nat → Nat) × va_G × (Nat → ClassId) × (Nat → Nat)
abbrev aH : Type := Nat × (Nat → Nat → Int32) × (Nat → Nat → Int64) × (Nat → Nat → Option Nat)
abbrev aM : Type := MethodName × ByteArray × Nat × Option FieldType
def hI (h : aH) (a : Nat) : Nat → Int32 := h.2.1 a
def hL (h : aH) (a : Nat) : Nat → Int64 := h.2.2.1 a
def hR (h : aH) (a : Nat) : Nat → Option Nat := h.2.2.2 a
/-- a whole row set -/
def wI (h : aH) (a : Nat) (f : Nat → Int32) : aH := (h.1, fun b => if b = a then f else h.2.1 b, h.2.2.1, h.2.2.2)
def wL (h : aH) (a : Nat) (f : Nat → Int64) : aH := (h.1, h.2.1, fun b => if b = a then f else h.2.2.1 b, h.2.2.2)
def wR (h : aH) (a : Nat) (f : Nat → Option Nat) : aH := (h.1, h.2.1, h.2.2.1, fun b => if b = a then f else h.2.2.2 b)
def pI (h : aH) (a i : Nat) (x : Int32) : aH := wI h a (upd (hI h a) i x)
def pL (h : aH) (a i : Nat) (x : Int64) : aH := wL h a (vp_updL (hL h a) i x)
def pR (h : aH) (a i : Nat) (x : Option Nat) : aH := wR h a (va_up (hR h a) i x)
/-- a new cell, blank -/
def aN (h : aH) : aH := (h.1 + 1, fun b => if b = h.1 then fun _ => 0 else h.2.1 b, fun b => if b = h.1 then fun _ => 0 else h.2.2.1 b, fun b => if b = h.1 then fun _ => none else h.2.2.2 b)
theorem wI_1 (h : aH) (a : Nat) (f : Nat → Int32) : (wI h a f).1 = h.1 := rfl
theorem wL_1 (h : aH) (a : Nat) (f : Nat → Int64) : (wL h a f).1 = h.1 := rfl
theorem wR_1 (h : aH) (a : Nat) (f : Nat → Option Nat) : (wR h a f).1 = h.1 := rfl
theorem pI_1 (h : aH) (a i : Nat) (x : Int32) : (pI h a i x).1 = h.1 := rfl
theorem pL_1 (h : aH) (a i : Nat) (x : Int64) : (pL h a i x).1 = h.1 := rfl
theorem pR_1 (h : aH) (a i : Nat) (x : Option Nat) : (pR h a i x).1 = h.1 := rfl
theorem hI_wI (h : aH) (a : Nat) (f : Nat → Int32) (b : Nat) : hI (wI h a f) b = if b = a then f else hI h b := rfl
theorem hL_wI (h : aH) (a : Nat) (f : Nat → Int32) (b : Nat) : hL (wI h a f) b = hL h b := rfl
theorem hR_wI (h : aH) (a : Nat) (f : Nat → Int32) (b : Nat) : hR (wI h a f) b = hR h b := rfl
theorem hI_wL (h : aH) (a : Nat) (f : Nat → Int64) (b : Nat) : hI (wL h a f) b = hI h b := rfl
theorem hL_wL (h : aH) (a : Nat) (f : Nat → Int64) (b : Nat) : hL (wL h a f) b = if b = a then f else hL h b := rfl
theorem hR_wL (h : aH) (a : Nat) (f : Nat → Int64) (b : Nat) : hR (wL h a f) b = hR h b := rfl
theorem hI_wR (h : aH) (a : Nat) (f : Nat → Option Nat) (b : Nat) : hI (wR h a f) b = hI h b := rfl
theorem hL_wR (h : aH) (a : Nat) (f : Nat → Option Nat) (b : Nat) : hL (wR h a f) b = hL h b := rfl
theorem hR_wR (h : aH) (a : Nat) (f : Nat → Option Nat) (b : Nat) : hR (wR h a f) b = if b = a then f else hR h b := rfl
theorem hI_aN (h : aH) (b : Nat) : hI (aN h) b = if b = h.1 then fun _ => 0 else hI h b := rfl
theorem hL_aN (h : aH) (b : Nat) : hL (aN h) b = if b = h.1 then fun _ => 0 else hL h b := rfl
theorem hR_aN (h : aH) (b : Nat) : hR (aN h) b = if b = h.1 then fun _ => none else hR h b := rfl
/-- where the String constants' numbers begin -/
def aSB : Nat := 1000
/-- the classes of the objects, the types of their fields -/
abbrev acl : List vw_C := [(RX0, TX0, 4), (RX1, TX1, 7), (RX2, TX2, 1), (RX3, TX3, 2), (RX4, TX4, 9), (RX5, TX5, 6), (RX6, TX6, 3), (RX7, TX7, 5), (RX8, TX8, 13), (RX9, TX9, 4), (RX10, TX10, 9), (RX11, TX11, 15), (RX12, TX12, 40)]
def cT : Nat → u_T := fun c => match c with
  | 0 => TX0 | 1 => TX1 | 2 => TX2 | 3 => TX3 | 4 => TX4 | 5 => TX5 | 6 => TX6 | 7 => TX7 | 8 => TX8 | 9 => TX9 | 10 => TX10 | 11 => TX11 | _ => TX12
def cRn : Nat → String := fun c => match c with
  | 0 => RX0 | 1 => RX1 | 2 => RX2 | 3 => RX3 | 4 => RX4 | 5 => RX5 | 6 => RX6 | 7 => RX7 | 8 => RX8 | 9 => RX9 | 10 => RX10 | 11 => RX11 | _ => RX12
def cTy : Nat → Nat → FieldType := fun c => match c with
  | 0 => tyX0 | 1 => tyX1 | 2 => tyX2 | 3 => tyX3 | 4 => tyX4 | 5 => tyX5 | 6 => tyX6 | 7 => tyX7 | 8 => tyX8 | 9 => tyX9 | 10 => tyX10 | 11 => tyX11 | _ => tyX12
def cN : Nat → Nat := fun c => match c with
  | 0 => 4 | 1 => 7 | 2 => 1 | 3 => 2 | 4 => 9 | 5 => 6 | 6 => 3 | 7 => 5 | 8 => 13 | 9 => 4 | 10 => 9 | 11 => 15 | _ => 40
theorem acl_at : ∀ c, c < 13 → acl[c]? = some (cRn c, cT c, cN c)
  | 0, _ => rfl | 1, _ => rfl | 2, _ => rfl | 3, _ => rfl | 4, _ => rfl | 5, _ => rfl | 6, _ => rfl | 7, _ => rfl | 8, _ => rfl | 9, _ => rfl | 10, _ => rfl | 11, _ => rfl | 12, _ => rfl
  | n + 13, h => absurd h (by omega)
theorem cT_nm : ∀ c, c < 13 → ∀ a, a < cN c → ∀ b, b < cN c → a ≠ b → (cT c a).2.1 ≠ (cT c b).2.1
  | 0, _ => nmX0 | 1, _ => nmX1 | 2, _ => nmX2 | 3, _ => nmX3 | 4, _ => nmX4 | 5, _ => nmX5 | 6, _ => nmX6 | 7, _ => nmX7 | 8, _ => nmX8 | 9, _ => nmX9 | 10, _ => nmX10 | 11, _ => nmX11 | 12, _ => nmX12
  | n + 13, h => absurd h (by omega)
theorem cT_ok : ∀ c, c < 13 → ∀ k, k < cN c → parseFieldDescriptor (cT c k).2.2.1 = some (cTy c k)
  | 0, _ => tyX0_ok | 1, _ => tyX1_ok | 2, _ => tyX2_ok | 3, _ => tyX3_ok | 4, _ => tyX4_ok | 5, _ => tyX5_ok | 6, _ => tyX6_ok | 7, _ => tyX7_ok | 8, _ => tyX8_ok | 9, _ => tyX9_ok | 10, _ => tyX10_ok | 11, _ => tyX11_ok | 12, _ => tyX12_ok
  | n + 13, h => absurd h (by omega)
theorem cT_in : ∀ c, c < 13 → ∀ w ∈ u_ws (cRn c) (cT c) (cN c), w ∈ aTb
  | 0, _ => by decide +kernel
  | 1, _ => by decide +kernel
  | 2, _ => by decide +kernel
  | 3, _ => by decide +kernel
  | 4, _ => by decide +kernel
  | 5, _ => by decide +kernel
  | 6, _ => by decide +kernel
  | 7, _ => by decide +kernel
  | 8, _ => by decide +kernel
  | 9, _ => by decide +kernel
  | 10, _ => by decide +kernel
  | 11, _ => by decide +kernel
  | 12, _ => by decide +kernel
  | n + 13, h => absurd h (by omega)
/-- the cells in the order in which they are made: kind and length; 0 int, 1 byte, 2 boolean, 3 long, 4 Rule, 5 State, 6 World rows; 7 + c an object of class c -/
def shL : List (Nat × Nat) := [(18, 15), (16, 4), (1, 400), (9, 1), (13, 3), (12, 6), (0, 256), (0, 12), (0, 12), (0, 12), (4, 6), (17, 9), (15, 13), (0, 8), (0, 8), (0, 8), (0, 4), (0, 32), (0, 32), (15, 13), (0, 8), (0, 8), (0, 8), (0, 4), (0, 32), (0, 32), (0, 10), (0, 10), (0, 10), (6, 4), (5, 20), (15, 13), (0, 8), (0, 8), (0, 8), (0, 4), (0, 32), (0, 32), (7, 4), (10, 2), (3, 11), (3, 64), (0, 4), (0, 4), (0, 4), (8, 7), (15, 13), (0, 8), (0, 8), (0, 8), (0, 4), (0, 32), (0, 32), (14, 5), (0, 4), (0, 4), (0, 4), (11, 9), (15, 13), (0, 8), (0, 8), (0, 8), (0, 4), (0, 32), (0, 32), (0, 28), (12, 6), (0, 256), (0, 12), (0, 12), (0, 12), (12, 6), (0, 256), (0, 12), (0, 12), (0, 12), (12, 6), (0, 256), (0, 12), (0, 12), (0, 12), (12, 6), (0, 256), (0, 12), (0, 12), (0, 12), (12, 6), (0, 256), (0, 12), (0, 12), (0, 12), (12, 6), (0, 256), (0, 12), (0, 12), (0, 12), (17, 9), (15, 13), (0, 8), (0, 8), (0, 8), (0, 4), (0, 32), (0, 32), (15, 13), (0, 8), (0, 8), (0, 8), (0, 4), (0, 32), (0, 32), (0, 10), (0, 10), (0, 10), (17, 9), (15, 13), (0, 8), (0, 8), (0, 8), (0, 4), (0, 32), (0, 32), (15, 13), (0, 8), (0, 8), (0, 8), (0, 4), (0, 32), (0, 32), (0, 10), (0, 10), (0, 10), (17, 9), (15, 13), (0, 8), (0, 8), (0, 8), (0, 4), (0, 32), (0, 32), (15, 13), (0, 8), (0, 8), (0, 8), (0, 4), (0, 32), (0, 32), (0, 10), (0, 10), (0, 10), (17, 9), (15, 13), (0, 8), (0, 8), (0, 8), (0, 4), (0, 32), (0, 32), (15, 13), (0, 8), (0, 8), (0, 8), (0, 4), (0, 32), (0, 32), (0, 10), (0, 10), (0, 10), (15, 13), (0, 8), (0, 8), (0, 8), (0, 4), (0, 32), (0, 32), (15, 13), (0, 8), (0, 8), (0, 8), (0, 4), (0, 32), (0, 32), (15, 13), (0, 8), (0, 8), (0, 8), (0, 4), (0, 32), (0, 32), (15, 13), (0, 8), (0, 8), (0, 8), (0, 4), (0, 32), (0, 32), (15, 13), (0, 8), (0, 8), (0, 8), (0, 4), (0, 32), (0, 32), (15, 13), (0, 8), (0, 8), (0, 8), (0, 4), (0, 32), (0, 32), (15, 13), (0, 8), (0, 8), (0, 8), (0, 4), (0, 32), (0, 32), (15, 13), (0, 8), (0, 8), (0, 8), (0, 4), (0, 32), (0, 32), (15, 13), (0, 8), (0, 8), (0, 8), (0, 4), (0, 32), (0, 32), (15, 13), (0, 8), (0, 8), (0, 8), (0, 4), (0, 32), (0, 32), (15, 13), (0, 8), (0, 8), (0, 8), (0, 4), (0, 32), (0, 32), (15, 13), (0, 8), (0, 8), (0, 8), (0, 4), (0, 32), (0, 32), (15, 13), (0, 8), (0, 8), (0, 8), (0, 4), (0, 32), (0, 32), (15, 13), (0, 8), (0, 8), (0, 8), (0, 4), (0, 32), (0, 32), (15, 13), (0, 8), (0, 8), (0, 8), (0, 4), (0, 32), (0, 32), (15, 13), (0, 8), (0, 8), (0, 8), (0, 4), (0, 32), (0, 32), (15, 13), (0, 8), (0, 8), (0, 8), (0, 4), (0, 32), (0, 32), (15, 13), (0, 8), (0, 8), (0, 8), (0, 4), (0, 32), (0, 32), (15, 13), (0, 8), (0, 8), (0, 8), (0, 4), (0, 32), (0, 32), (15, 13), (0, 8), (0, 8), (0, 8), (0, 4), (0, 32), (0, 32), (19, 40), (1, 400), (0, 2400), (0, 7), (0, 288), (0, 6), (0, 153), (0, 400), (3, 64), (3, 11), (0, 184), (0, 4), (0, 4), (2, 4), (0, 4), (0, 1360), (0, 68), (0, 4), (0, 4), (2, 7), (0, 28), (0, 736), (0, 4), (0, 4), (2, 4)]
def sh (a : Nat) : Nat × Nat := shL.getD a (99, 0)
/-- how many cells there are -/
abbrev aNN : Nat := 333
theorem shL_len : shL.length = aNN := by decide +kernel
theorem sh_lt {a k : Nat} (h : (sh a).1 = k) (hk : k < 20) : a < aNN := by
  rcases Nat.lt_or_ge a aNN with q | q
  · exact q
  · exfalso
    have e : sh a = (99, 0) := by
      unfold sh
      rw [List.getD_eq_getElem?_getD, List.getElem?_eq_none (by rw [shL_len]; exact q)]
      rfl
    rw [e] at h
    simp at h
    omega
def aS : Nat → Nat
  | 0 => 0
  | n + 1 => aS n + (sh n).2
theorem aS_mono {n m : Nat} (h : n ≤ m) : aS n ≤ aS m := by
  induction m with
  | zero => rw [Nat.le_zero.mp h]; exact Nat.le_refl _
  | succ m ih =>
    rcases Nat.lt_or_ge n (m + 1) with q | q
    · exact Nat.le_trans (ih (by omega)) (Nat.le_add_right _ _)
    · rw [show n = m + 1 by omega]; exact Nat.le_refl _
/-- an address that is put into the machine's heap -/
def cv (g : aG) : Value → Value
  | .ref a => .ref (g.2.1 a)
  | v => v
theorem cv_rf (g : aG) (r : Option Nat) : cv g (va_rf r) = va_rf (r.map g.2.1) := by cases r <;> rfl
theorem cv_cat (g : aG) (v : Value) : (cv g v).category = v.category := by cases v <;> rfl
theorem cv_sum (g : aG) (st : List Value) : ((st.map (cv g)).map fun v => v.category).sum = (st.map fun v => v.category).sum := by
  rw [List.map_map]
  congr 1
  exact List.map_congr_left fun v _ => cv_cat g v
def aF (g : aG) (fi : Nat → Int32) (fl : Nat → Int64) (fr : Nat → Option Nat) (ty : FieldType) (j : Nat) : Value := match ty with
  | .long => .long (fl j)
  | .object _ => va_rf ((fr j).map g.2.1)
  | .array _ => va_rf ((fr j).map g.2.1)
  | _ => .int (fi j)
/-- a cell out of its three rows -/
def aEc (g : aG) (k n : Nat) (fi : Nat → Int32) (fl : Nat → Int64) (fr : Nat → Option Nat) : va_E := match k with
  | 0 => .inl (g.2.2.2.1 0, n, .inl fi)
  | 1 => .inl (g.2.2.2.1 1, n, .inl fi)
  | 2 => .inl (g.2.2.2.1 2, n, .inl fi)
  | 3 => .inl (g.2.2.2.1 3, n, .inr (.inl fl))
  | 4 => .inl (g.2.2.2.1 4, n, .inr (.inr (.inr (.inr (fun j => (fr j).map g.2.1)))))
  | 5 => .inl (g.2.2.2.1 5, n, .inr (.inr (.inr (.inr (fun j => (fr j).map g.2.1)))))
  | 6 => .inl (g.2.2.2.1 6, n, .inr (.inr (.inr (.inr (fun j => (fr j).map g.2.1)))))
  | c + 7 => .inr (c, (List.range (cN c)).map (fun j => aF g fi fl fr (cTy c j) j))
def aE (g : aG) (h : aH) (a : Nat) : va_E := aEc g (sh a).1 (sh a).2 (hI h a) (hL h a) (hR h a)
/-- the picture -/
def aRep (g : aG) (h : aH) (H : Heap) : Prop := H.size = g.1 + h.1 ∧ h.1 ≤ aSB ∧ ∀ a, a < h.1 → va_at g.2.2.1 acl (g.1 + a, aE g h a) H
theorem aRep.set {g : aG} {h h' : aH} {H H1 : Heap} {a : Nat} (r : aRep g h H) (e1 : h'.1 = h.1) (hne : ∀ b, b ≠ a → aE g h' b = aE g h b) (hat : va_at g.2.2.1 acl (g.1 + a, aE g h' a) H1) (z : H1.size = H.size) (oq : ∀ q, q ≠ g.1 + a → H1[q]? = H[q]?) : aRep g h' H1 := by
  refine ⟨by rw [z, e1]; exact r.1, by rw [e1]; exact r.2.1, fun b hb => ?_⟩
  by_cases q : b = a
  · rw [q]; exact hat
  · rw [hne b q]
    rw [e1] at hb
    exact (r.2.2 b hb).kept (oq _ (by show g.1 + b ≠ g.1 + a; omega))
theorem aE_wI {g : aG} {h : aH} {a : Nat} {f : Nat → Int32} (b : Nat) (hb : b ≠ a) : aE g (wI h a f) b = aE g h b := by
  unfold aE; rw [hI_wI, if_neg hb, hL_wI, hR_wI]
theorem aE_wL {g : aG} {h : aH} {a : Nat} {f : Nat → Int64} (b : Nat) (hb : b ≠ a) : aE g (wL h a f) b = aE g h b := by
  unfold aE; rw [hL_wL, if_neg hb, hI_wL, hR_wL]
theorem aE_wR {g : aG} {h : aH} {a : Nat} {f : Nat → Option Nat} (b : Nat) (hb : b ≠ a) : aE g (wR h a f) b = aE g h b := by
  unfold aE; rw [hR_wR, if_neg hb, hI_wR, hL_wR]
theorem aRep.new {g : aG} {h : aH} {H H1 : Heap} (r : aRep g h H) (hs : h.1 < aSB) (hat : va_at g.2.2.1 acl (g.1 + h.1, aE g (aN h) h.1) H1) (z : H1.size = H.size + 1) (oq : ∀ q, q < H.size → H1[q]? = H[q]?) : aRep g (aN h) H1 := by
  refine ⟨by rw [z, r.1]; rfl, hs, fun b hb => ?_⟩
  by_cases q : b = h.1
  · rw [q]; exact hat
  · have hb' : b < h.1 := by have : b < h.1 + 1 := hb; omega
    have e : aE g (aN h) b = aE g h b := by unfold aE; rw [hI_aN, hL_aN, hR_aN, if_neg q, if_neg q, if_neg q]
    rw [e]
    exact (r.2.2 b hb').kept (oq _ (by show g.1 + b < H.size; rw [r.1]; omega))
/-- the String constants: owner, pool number, text, length, bytes -/
def sOwn (i : Nat) : String := if i = 0 then RX2 else RX6
def sIdx (i : Nat) : Nat := ([58, 125, 59, 71, 86, 94, 96] : List Nat).getD i 0
def sTx (i : Nat) : String := (["isle east west seems truly late", "side person other likes liked years purse gift best year hands", "stay", "if", "or", "and", "not"] : List String).getD i ""
def sLen : List Nat := [31, 62, 4, 2, 2, 3, 3]
def sByt : List (List Int32) := [[105, 115, 108, 101, 32, 101, 97, 115, 116, 32, 119, 101, 115, 116, 32, 115, 101, 101, 109, 115, 32, 116, 114, 117, 108, 121, 32, 108, 97, 116, 101], [115, 105, 100, 101, 32, 112, 101, 114, 115, 111, 110, 32, 111, 116, 104, 101, 114, 32, 108, 105, 107, 101, 115, 32, 108, 105, 107, 101, 100, 32, 121, 101, 97, 114, 115, 32, 112, 117, 114, 115, 101, 32, 103, 105, 102, 116, 32, 98, 101, 115, 116, 32, 121, 101, 97, 114, 32, 104, 97, 110, 100, 115], [115, 116, 97, 121], [105, 102], [111, 114], [97, 110, 100], [110, 111, 116]]
def aA (g : aG) : Nat → Prop := fun q => g.1 ≤ q
def aTy (g : aG) : List (ClassId × FieldType) := [(g.2.2.2.1 0, .int), (g.2.2.2.1 1, .byte), (g.2.2.2.1 2, .boolean), (g.2.2.2.1 3, .long), (g.2.2.2.1 4, .object RX5), (g.2.2.2.1 5, .object RX8), (g.2.2.2.1 6, .object RX10)]
def aNest : List (String × Nat × MethodName) := [(RX11, 11, yX9_init), (RX6, 11, yX5_init), (RX11, 44, yX10_init), (RX10, 11, yX8_init), (RX11, 65, yX8_init), (RX11, 72, yX0_init), (RX0, 11, yX3_init), (RX1, 11, yX8_init), (RX11, 88, yX7_init), (RX4, 13, yX8_init), (RX11, 100, yX5_init)]
/-- what holds of the tables, of the constants, at a method's entry -/
def aWK (g : aG) (U : State) : Prop :=
  (∀ a, a < aSB → g.2.1 a = g.1 + a) ∧ va_K g.2.2.1 acl (aTy g) U ∧ g.1 ≤ U.heap.size ∧ vk_S 7 sLen sByt (fun i => g.2.1 (aSB + i)) g.2.2.2.2 (aA g) U U.heap ∧ (∀ i, i < 7 → vk_R (sOwn i) (sIdx i) (sTx i) (g.2.1 (aSB + i)) U) ∧ va_Z "java/lang/String" "COMPACT_STRINGS" "Z" (.int 1) (aA g) U U.heap ∧ (∀ q ∈ aNest, va_Nw (.methodLinkNest q.1 q.2.1 q.2.2 RX11) U) ∧ va_AO RX5 U ∧ va_AO RX8 U ∧ va_AO RX10 U ∧ (∀ i, i < 7 → g.2.1 (aSB + 10 + i) = g.2.2.2.2 i) ∧ (va_Z "jdk/internal/util/Preconditions" "SIOOBE_FORMATTER" "Ljava/util/function/BiFunction;" .null (aA g) U U.heap ∨ va_Z "jdk/internal/util/Preconditions" "SIOOBE_FORMATTER" "Ljava/util/function/BiFunction;" (.ref (g.2.1 (aSB + 20))) (aA g) U U.heap)
theorem aWK.moved {g : aG} {u U : State} (h : aWK g u) (hW : u.WarmedH U.vm) (hz : u.heap.size ≤ U.heap.size) (hk : ∀ q : Nat, q < u.heap.size → ¬ aA g q → U.heap[q]? = u.heap[q]?) : aWK g U := by
  obtain ⟨h1, h2, h3, h4, h5, h6, h7, h8, h9, h10, h11, h12⟩ := h
  exact ⟨h1, va_K.moved hW.alike h2, Nat.le_trans h3 hz, (vk_S.moved hW.alike h4).kept hk, fun i hi => (h5 i hi).warm hW, (va_Z.moved hW.alike h6).kept hk, fun q hq => (h7 q hq).warmM hW, va_AO.moved hW.alike h8, va_AO.moved hW.alike h9, va_AO.moved hW.alike h10, h11, h12.imp (fun z => (va_Z.moved hW.alike z).kept hk) (fun z => (va_Z.moved hW.alike z).kept hk)⟩
theorem aWK.calling {g : aG} {U : State} (f : JFrame) (mk : MethodId) (a : Array Value) (h : aWK g U) : aWK g (U.calling f mk a) := by
  obtain ⟨h1, h2, h3, h4, h5, h6, h7, h8, h9, h10, h11, h12⟩ := h
  have hv : U.vm.Alike (U.calling f mk a).vm := Vm.Alike.refl U.vm
  exact ⟨h1, va_K.moved hv h2, h3, vk_S.moved hv h4, fun i hi => (h5 i hi).same rfl, va_Z.moved hv h6, fun q hq => (h7 q hq).same rfl rfl, va_AO.moved hv h8, va_AO.moved hv h9, va_AO.moved hv h10, h11, h12.imp (fun z => va_Z.moved hv z) (fun z => va_Z.moved hv z)⟩
