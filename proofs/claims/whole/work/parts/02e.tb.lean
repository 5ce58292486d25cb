/-- the tables' words that stay -/
def aTb : List Cond := lw_tbl.filter goodWord
theorem aTb_of {w : Cond} (h : w ∈ aTb) : w ∈ lw_tbl := (List.mem_filter.mp h).1
theorem aTb_at {w : Cond} (i : Nat) (h : lw_tbl[i]? = some w) (hg : goodWord w = true) : w ∈ aTb := List.mem_filter.mpr ⟨List.mem_of_getElem? h, hg⟩
theorem aTb_good : GoodIn aTb aTb := fun w h => ⟨h, good_of_word (List.mem_filter.mp h).2⟩
