def tg_ok : Cond → Bool
  | .methodLinkNest _ _ _ _ => true
  | .arrayOver (.object _) => true
  | w => goodWord w
def tg_tbl : List Cond := lw_tbl.filter tg_ok
theorem tg_in {w : Cond} (i : Nat) (h : lw_tbl[i]? = some w) (h2 : tg_ok w = true) : w ∈ tg_tbl := List.mem_filter.mpr ⟨List.mem_of_getElem? h, h2⟩
