/-! the reference's reading is the class's -/
section NX
variable {t : FF} {len q : Nat} {x : Int32}
theorem nxS_f : nxS t len x (false, q) = (false, q) := if_neg (fun z => by cases z.1)
theorem nxS_t (h : sg t len q = x) : nxS t len x (true, q) = (true, q + 1) := if_pos ⟨rfl, h⟩
theorem nxS_n (h : ¬ sg t len q = x) : nxS t len x (true, q) = (false, q) := if_neg (fun z => h z.2)
theorem nxD_f : nxD t len (false, q) = (false, q) := if_neg (fun z => by cases z.1)
theorem nxD_t (h : dg5 t len q) : nxD t len (true, q) = (true, q + 1) := if_pos ⟨rfl, h⟩
theorem nxD_n (h : ¬ dg5 t len q) : nxD t len (true, q) = (false, q) := if_neg (fun z => h z.2)
theorem nxN_f : nxN t len x (false, q) = (false, q) := if_neg (fun z => by cases z.1)
theorem nxN_t (h : ¬ pNum t len q x = none) : nxN t len x (true, q) = (true, pnQ t len q x) := if_pos ⟨rfl, h⟩
theorem nxN_n (h : pNum t len q x = none) : nxN t len x (true, q) = (false, q) := if_neg (fun z => z.2 h)
end NX
def nxB (t : FF) (len : Nat) (s : Bool × Nat) : Bool × Nat := nxN t len 12 (nxS t len 104 (nxN t len 99 (nxS t len 43 (nxD t len (nxS t len 109 (nxD t len s))))))
theorem nxB_eq {t : FF} {len p : Nat} : nxB t len (true, p) = match pBook t len p with | .inl f => (false, f) | .inr (_, _, _, _, q) => (true, q) := by
  unfold nxB
  by_cases a0 : dg5 t len p
  · rw [nxD_t a0]
    by_cases a1 : sg t len (p + 1) = 109
    · rw [nxS_t a1]
      by_cases a2 : dg5 t len (p + 2)
      · rw [nxD_t a2]
        by_cases a3 : sg t len (p + 3) = 43
        · rw [nxS_t a3]
          by_cases a4 : pNum t len (p + 4) 99 = none
          · rw [nxN_n a4, nxS_f, nxN_f, pBook, if_pos a0, if_pos a1, if_pos a2, if_pos a3, if_pos a4]
          · rw [nxN_t a4]
            by_cases a5 : sg t len (pnQ t len (p + 4) 99) = 104
            · rw [nxS_t a5]
              by_cases a6 : pNum t len (pnQ t len (p + 4) 99 + 1) 12 = none
              · rw [nxN_n a6, pBook, if_pos a0, if_pos a1, if_pos a2, if_pos a3, if_neg a4, if_pos a5, if_pos a6]
              · rw [nxN_t a6, pBook, if_pos a0, if_pos a1, if_pos a2, if_pos a3, if_neg a4, if_pos a5, if_neg a6]
            · rw [nxS_n a5, nxN_f, pBook, if_pos a0, if_pos a1, if_pos a2, if_pos a3, if_neg a4, if_neg a5]
        · rw [nxS_n a3, nxN_f, nxS_f, nxN_f, pBook, if_pos a0, if_pos a1, if_pos a2, if_neg a3]
      · rw [nxD_n a2, nxS_f, nxN_f, nxS_f, nxN_f, pBook, if_pos a0, if_pos a1, if_neg a2]
    · rw [nxS_n a1, nxD_f, nxS_f, nxN_f, nxS_f, nxN_f, pBook, if_pos a0, if_neg a1]
  · rw [nxD_n a0, nxS_f, nxD_f, nxS_f, nxN_f, nxS_f, nxN_f, pBook, if_neg a0]
