/-- the tables' words that last -/
def hGW : List Cond := lw_tbl.filter goodWord
theorem hgw {w : Cond} (i : Nat) (h : lw_tbl[i]? = some w) (hg : goodWord w = true) : w ∈ hGW := List.mem_filter.mpr ⟨List.mem_of_getElem? h, hg⟩
theorem hgw_good {w : Cond} (h : w ∈ hGW) : w ∈ hGW ∧ ((w.onTables && w.keeps) = true ∨ ∃ ty, w = .arrayClass ty) := ⟨h, good_of_word (List.mem_filter.mp h).2⟩
theorem hgi0 {c : Cond} (hc : c ∈ hGW) : GoodIn hGW (c :: hGW) := fun w h => by
  rcases List.mem_cons.mp h with rfl | h
  · exact hgw_good hc
  · exact hgw_good h
theorem hgi4 {a b d e c : Cond} (ha : a ∈ hGW) (hb : b ∈ hGW) (hd : d ∈ hGW) (he : e ∈ hGW) (hc : c ∈ hGW) : GoodIn hGW ([a, b, d, e] ++ (c :: hGW)) := fun w h => by
  rcases List.mem_append.mp h with h | h
  · have : w ∈ hGW := by
      simp only [List.mem_cons, List.not_mem_nil, or_false] at h
      rcases h with rfl | rfl | rfl | rfl <;> assumption
    exact hgw_good this
  · exact hgi0 hc w h
theorem hgi3 {a b d c : Cond} (ha : a ∈ hGW) (hb : b ∈ hGW) (hd : d ∈ hGW) (hc : c ∈ hGW) : GoodIn hGW ([a, b, d] ++ (c :: hGW)) := fun w h => by
  rcases List.mem_append.mp h with h | h
  · have : w ∈ hGW := by
      simp only [List.mem_cons, List.not_mem_nil, or_false] at h
      rcases h with rfl | rfl | rfl <;> assumption
    exact hgw_good this
  · exact hgi0 hc w h
theorem hgi5 {a b d e f c : Cond} (ha : a ∈ hGW) (hb : b ∈ hGW) (hd : d ∈ hGW) (he : e ∈ hGW) (hf : f ∈ hGW) (hc : c ∈ hGW) : GoodIn hGW ([a, b, d, e, f] ++ (c :: hGW)) := fun w h => by
  rcases List.mem_append.mp h with h | h
  · have : w ∈ hGW := by
      simp only [List.mem_cons, List.not_mem_nil, or_false] at h
      rcases h with rfl | rfl | rfl | rfl | rfl <;> assumption
    exact hgw_good this
  · exact hgi0 hc w h
theorem hgi6 {a b d e f g c : Cond} (ha : a ∈ hGW) (hb : b ∈ hGW) (hd : d ∈ hGW) (he : e ∈ hGW) (hf : f ∈ hGW) (hg : g ∈ hGW) (hc : c ∈ hGW) : GoodIn hGW ([a, b, d, e, f, g] ++ (c :: hGW)) := fun w h => by
  rcases List.mem_append.mp h with h | h
  · have : w ∈ hGW := by
      simp only [List.mem_cons, List.not_mem_nil, or_false] at h
      rcases h with rfl | rfl | rfl | rfl | rfl | rfl <;> assumption
    exact hgw_good this
  · exact hgi0 hc w h
