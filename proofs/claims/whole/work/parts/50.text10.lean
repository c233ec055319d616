/-- well still, and the next place, behind a sign, a figure, a number -/
def nxS (t : FF) (len : Nat) (x : Int32) (s : Bool × Nat) : Bool × Nat := if s.1 = true ∧ sg t len s.2 = x then (true, s.2 + 1) else (false, s.2)
def nxD (t : FF) (len : Nat) (s : Bool × Nat) : Bool × Nat := if s.1 = true ∧ dg5 t len s.2 then (true, s.2 + 1) else (false, s.2)
def nxN (t : FF) (len : Nat) (m : Int32) (s : Bool × Nat) : Bool × Nat := if s.1 = true ∧ ¬ pNum t len s.2 m = none then (true, pnQ t len s.2 m) else (false, s.2)
/-- the reference's reading stands at s -/
def RD (M M1 : MM) (s : Bool × Nat) : Prop := M1 369 10 = (if s.1 = true then 1 else 0) ∧ M1 369 9 = nI s.2 ∧ (∀ k, k ≠ 9 → k ≠ 10 → M1 369 k = M 369 k) ∧ ∀ a, a ≠ 369 → a ≠ 375 → M1 a = M a
theorem nxS_le {t : FF} {len : Nat} {x : Int32} {s : Bool × Nat} (hx : x ≠ -1) (h : s.2 ≤ len) : (nxS t len x s).2 ≤ len := by
  unfold nxS
  split
  · rename_i g
    exact sg_le g.2 hx
  · exact h
theorem nxD_le {t : FF} {len : Nat} {s : Bool × Nat} (h : s.2 ≤ len) : (nxD t len s).2 ≤ len := by
  unfold nxD
  split
  · rename_i g
    exact sg_lt g.2.1
  · exact h
theorem nxN_le {t : FF} {len : Nat} {m : Int32} {s : Bool × Nat} (h : s.2 ≤ len) : (nxN t len m s).2 ≤ len := by
  unfold nxN
  split
  · exact (pnQ_le h).1
  · exact h
theorem RD_step {M M1 M2 : MM} {s s2 : Bool × Nat} {c : Prop} [Decidable c] {q : Nat} (h : RD M M1 s) (e : M2 = up M1 369 (up (up (M1 369) 10 (if c then 1 else 0)) 9 (nI (if c then q else s.2)))) (h2 : s2 = if c then (true, q) else (false, s.2)) : RD M M2 s2 ∧ M2 375 = M1 375 := by
  obtain ⟨g1, g2, g3, g4⟩ := h
  subst e
  subst h2
  refine ⟨⟨?_, ?_, fun k h9 h10 => by rw [up_same, up_ne _ _ h9, up_ne _ _ h10]; exact g3 k h9 h10, fun a h1 h2 => by rw [up_ne _ _ h1]; exact g4 a h1 h2⟩, up_ne _ _ (by decide)⟩
  · rw [up_same, up_ne _ _ (by decide), up_same]
    by_cases hc : c
    · rw [if_pos hc, if_pos hc]; rfl
    · rw [if_neg hc, if_neg hc]; rfl
  · rw [up_same, up_same]
    by_cases hc : c
    · rw [if_pos hc, if_pos hc]
    · rw [if_neg hc, if_neg hc]
theorem RD_put {M M1 : MM} {s : Bool × Nat} {j : Nat} {v : Int32} (h : RD M M1 s) : RD M (up M1 375 (up (M1 375) j v)) s := by
  obtain ⟨g1, g2, g3, g4⟩ := h
  exact ⟨by rw [up_ne _ _ (by decide)]; exact g1, by rw [up_ne _ _ (by decide)]; exact g2, fun k h9 h10 => by rw [up_ne _ _ (by decide)]; exact g3 k h9 h10, fun a h1 h2 => by rw [up_ne _ _ h2]; exact g4 a h1 h2⟩
