def gW : List Cond := lw_tbl.filter goodWord
theorem gw {i : Nat} {w : Cond} (h : lw_tbl[i]? = some w) (hg : goodWord w = true) : w ∈ gW := List.mem_filter.mpr ⟨List.mem_of_getElem? h, hg⟩
theorem gW_in : ∀ w ∈ gW, w ∈ lw_tbl := fun _ h => (List.mem_filter.mp h).1
theorem gW_goodIn {c : Cond} (h : c ∈ gW) : GoodIn gW (c :: gW) := by
  intro w hw
  rcases List.mem_cons.mp hw with rfl | hw
  · exact ⟨h, good_of_word (List.mem_filter.mp h).2⟩
  · exact ⟨hw, good_of_word (List.mem_filter.mp hw).2⟩
