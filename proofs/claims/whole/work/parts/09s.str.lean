/-- the length of a String constant, by its number; a letter of it -/
def sLn (s : Nat) : Option Int32 := if aSB ≤ s ∧ s < aSB + 7 then some (Int32.ofNat (sLen.getD (s - aSB) 0)) else none
def sCh (s : Nat) (i : Int32) : Option Int32 := if aSB ≤ s ∧ s < aSB + 7 ∧ aIn i (sLen.getD (s - aSB) 0) then some ((sByt.getD (s - aSB) []).getD i.toNatClampNeg 0) else none
section STRS
variable {ρ : Type} {E : ρ → Option Value} {d : Nat} {K : aM} {pc idx s : Nat} {lv : List (Option Value)} {st : List Value} {h : aH}
theorem ao_slen {f : Int32 → Option (ρ × aH)} (hd : decode K.2.1 pc = .ok (.invokevirtual idx, 3)) (hw : Cond.methodLink K.1.cls idx yJ0_length_8abf5 ∈ aTb) (hcat : (st.map fun v => v.category).sum ≤ 8) (hdd : 6 ≤ d) (kk : ∀ n, AO E d K (pc + 3) lv (.int n :: st) h (f n)) : AO E d K pc lv (.ref s :: st) h ((sLn s).bind f) := by sorry
theorem ao_schr {f : Int32 → Option (ρ × aH)} {i : Int32} (hd : decode K.2.1 pc = .ok (.invokevirtual idx, 3)) (hw : Cond.methodLink K.1.cls idx yJ0_charAt_5068e ∈ aTb) (hcat : (st.map fun v => v.category).sum ≤ 8) (hdd : 6 ≤ d) (kk : ∀ n, AO E d K (pc + 3) lv (.int n :: st) h (f n)) : AO E d K pc lv (.int i :: .ref s :: st) h ((sCh s i).bind f) := by sorry
end STRS

