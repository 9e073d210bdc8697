abbrev vwCl : List vw_C := [(RX0, TX0, 14), (RX1, TX1, 5), (RX2, TX2, 7), (RX3, TX3, 5), (RX4, TX4, 6), (RX5, TX5, 6), (RX6, TX6, 11)]
/-- all good words of the tables -/
def tp_all : List Cond := lw_tbl.filter goodWord
theorem tp_all_tbl : ∀ w ∈ tp_all, w ∈ lw_tbl := fun _ h => (List.mem_filter.mp h).1
theorem tp_all_good : ∀ w ∈ tp_all, goodWord w = true := fun _ h => (List.mem_filter.mp h).2
theorem tp_in {w : Cond} (i : Nat) (h : lw_tbl[i]? = some w) (g : goodWord w = true) : w ∈ tp_all := List.mem_filter.mpr ⟨List.mem_of_getElem? h, g⟩
theorem tp_allIn {ws : List Cond} (h : ∀ w ∈ ws, w ∈ tp_all) : GoodIn tp_all ws := fun w hw => ⟨h w hw, good_of_word (tp_all_good w (h w hw))⟩
