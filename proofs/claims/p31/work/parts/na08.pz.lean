theorem wd_at {w : List Nat} {k : Nat} (h : k < w.length) : w[k]? = some (w.getD k 0) := by
  rw [List.getD_eq_getElem?_getD, List.getElem?_eq_getElem h]; rfl
theorem wd_lt {w : List Nat} (hw : ∀ x, x ∈ w → x < 8) (k : Nat) : w.getD k 0 < 8 := by
  rcases Nat.lt_or_ge k w.length with h | h
  · exact hw _ (List.mem_of_getElem? (wd_at h))
  · rw [List.getD_eq_getElem?_getD, List.getElem?_eq_none h]; show 0 < 8; omega
def wdF (w : List Nat) (k : Nat) : Nat × Nat := (pkA k (w.getD k 0) (w.getD k 0) (k + 1), 0)
