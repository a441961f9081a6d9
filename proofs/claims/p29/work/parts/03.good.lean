/-- good words: those that stay true as the machine goes on -/
def lw_good : List Cond := lw_tbl.filter goodWord
theorem mg {w : Cond} (h : w ∈ lw_tbl) (hg : goodWord w = true) : w ∈ lw_good := List.mem_filter.mpr ⟨h, hg⟩
def xisN : Cond → Bool
  | .methodLinkNest .. => true
  | .fieldLinkNest .. => true
  | _ => false
def lw_nest : List Cond := lw_tbl.filter xisN
theorem mn {w : Cond} (h : w ∈ lw_tbl) (hg : xisN w = true) : w ∈ lw_nest := List.mem_filter.mpr ⟨h, hg⟩
