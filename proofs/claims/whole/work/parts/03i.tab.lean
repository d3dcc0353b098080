def mx_T : List Cond := lw_tbl.filter goodWord
theorem mx_in {w : Cond} (h : w ∈ lw_tbl) (g : goodWord w = true) : w ∈ mx_T := List.mem_filter.mpr ⟨h, g⟩
theorem mx_good : GoodIn mx_T mx_T := fun w h => ⟨h, good_of_word (List.mem_filter.mp h).2⟩
/-- words that the tables alone decide, carried by hand -/
def mx_bok (w : Cond) : Bool := match w with
  | .methodLinkNest .. => true
  | .castable .. => true
  | .declares _ => true
  | _ => false
def mx_Bd : List Cond := lw_tbl.filter mx_bok
theorem mx_inB {w : Cond} (h : w ∈ lw_tbl) (g : mx_bok w = true) : w ∈ mx_Bd := List.mem_filter.mpr ⟨h, g⟩
