theorem i_as (p q : Int32) : p + (q - p) = q := by rw [Int32.add_comm, Int32.sub_add_cancel]
theorem up_self {M : MM} {o : Nat} : up M o (M o) = M := by
  funext a
  by_cases e : a = o
  · rw [e, up_same]
  · rw [up_ne _ _ e]
