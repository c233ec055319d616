/-- the first k of g, then f -/
def cpF (g f : FF) (k : Nat) : FF := fun j => if j < k then g j else f j
theorem cp_0 {g f : FF} : cpF g f 0 = f := by
  funext j
  exact if_neg (Nat.not_lt_zero _)
theorem cp_s {g f : FF} {k : Nat} : up (cpF g f k) k (g k) = cpF g f (k + 1) := by
  funext j
  unfold cpF
  by_cases e : j = k
  · rw [e, up_same, if_pos (Nat.lt_succ_self k)]
  · rw [up_ne _ _ e]
    by_cases h : j < k
    · rw [if_pos h, if_pos (by omega)]
    · rw [if_neg h, if_neg (by omega)]
theorem up_self2 {M : MM} {o : Nat} : up M o (M o) = M := by
  funext a
  by_cases e : a = o
  · rw [e, up_same]
  · rw [up_ne _ _ e]