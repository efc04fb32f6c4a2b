/-- the words that every contract stands on: those of the tables that last -/
def TB : List Cond := lw_tbl.filter goodWord
theorem TB_good : ∀ w ∈ TB, ((w.onTables && w.keeps) = true ∨ ∃ ty, w = .arrayClass ty) := fun _ h => good_of_word (List.mem_filter.mp h).2
theorem TB_of {w : Cond} (i : Nat) (h : lw_tbl[i]? = some w) (hg : goodWord w = true) : w ∈ TB := List.mem_filter.mpr ⟨List.mem_of_getElem? h, hg⟩
theorem TB_in {w : Cond} (h : w ∈ TB) : w ∈ lw_tbl := (List.mem_filter.mp h).1
theorem tt_test1 : Cond.fieldLink "TrainDesk$Offers" 9 "TrainDesk$Offers" "versions" "[I" ∈ TB := TB_of 85 (by decide +kernel) rfl
theorem tt_test2 : Cond.fieldLink "TrainDesk$Offers" 9 "TrainDesk$Offers" "versions" "[I" ∈ TB := TB_of 85 rfl rfl
