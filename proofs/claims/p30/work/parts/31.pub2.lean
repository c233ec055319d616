theorem k1517 {k : Int32} (h : 15 ≤ k ∧ k ≤ 17) : k = 15 ∨ k = 16 ∨ k = 17 := by
  have h1 : (15 : Int32).toInt ≤ k.toInt := Int32.le_iff_toInt_le.mp h.1
  have h2 : k.toInt ≤ (17 : Int32).toInt := Int32.le_iff_toInt_le.mp h.2
  have e1 : (15 : Int32).toInt = 15 := by decide
  have e2 : (17 : Int32).toInt = 17 := by decide
  rw [e1] at h1
  rw [e2] at h2
  rcases (show k.toInt = 15 ∨ k.toInt = 16 ∨ k.toInt = 17 by omega) with e | e | e
  · exact Or.inl (Int32.toInt_inj.mp (e.trans (by decide)))
  · exact Or.inr (Or.inl (Int32.toInt_inj.mp (e.trans (by decide))))
  · exact Or.inr (Or.inr (Int32.toInt_inj.mp (e.trans (by decide))))