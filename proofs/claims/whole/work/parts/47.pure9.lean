/-! the two sides tell the same signs -/
def CH (t : FF) (len : Nat) : Prop := ∀ i, i < len → ∃ n, n < 65536 ∧ t i = nI n
theorem lo48 : ∀ n, n < 48 → ¬ (0 : Int32) ≤ nI n - 48 := by decide
theorem ngc : ∀ j, j < 100 → 1 ≤ j → -(nI j) < 0 := by decide
theorem sg_at {t : FF} {len p : Nat} (h : p < len) : sg t len p = t p := if_pos h
theorem sm_at {t : FF} {len p : Nat} (h : p < len) : sm0 t len p = t p := if_pos h
theorem sg_end {t : FF} {len p : Nat} (h : ¬ p < len) : sg t len p = -1 := if_neg h
theorem sm_end {t : FF} {len p : Nat} (h : ¬ p < len) : sm0 t len p = 0 := if_neg h
theorem sg_sm {t : FF} {len p a b : Nat} (hc : CH t len) (hb : b ≤ 100) : (nI a ≤ sg t len p - 48 ∧ sg t len p - 48 ≤ nI b) ∧ a ≤ 100 ↔ (nI (48 + a) ≤ sm0 t len p ∧ sm0 t len p ≤ nI (48 + b)) ∧ a ≤ 100 := by
  by_cases ha : a ≤ 100
  · have hz : ∀ x : Int32, nI a ≤ x → 0 ≤ x := fun x hx => Int32.le_trans (nI_le (a := 0) (Nat.zero_le _) (by omega)) hx
    by_cases h : p < len
    · obtain ⟨n, hn, e⟩ := hc p h
      rw [sg_at h, sm_at h, e]
      by_cases g : 48 ≤ n
      · rw [show nI n - 48 = nI (n - 48) from pk_sub (b := 48) g]
        constructor
        · intro ⟨⟨g1, g2⟩, _⟩
          have k1 := i_le (by omega) (by omega) g1
          have k2 := i_le (by omega) (by omega) g2
          exact ⟨⟨nI_le (by omega) (by omega), nI_le (by omega) (by omega)⟩, ha⟩
        · intro ⟨⟨g1, g2⟩, _⟩
          have k1 := i_le (by omega) (by omega) g1
          have k2 := i_le (by omega) (by omega) g2
          exact ⟨⟨nI_le (by omega) (by omega), nI_le (by omega) (by omega)⟩, ha⟩
      · constructor
        · intro ⟨⟨g1, _⟩, _⟩
          exact absurd (hz _ g1) (lo48 n (by omega))
        · intro ⟨⟨g1, _⟩, _⟩
          have k1 := i_le (by omega) (by omega) g1
          omega
    · rw [sg_end h, sm_end h]
      constructor
      · intro ⟨⟨g1, _⟩, _⟩
        exact absurd (hz _ g1) (by decide)
      · intro ⟨⟨g1, _⟩, _⟩
        have k1 := i_le (b := 0) (by omega) (by omega) g1
        omega
  · constructor
    · intro h
      exact absurd h.2 ha
    · intro h
      exact absurd h.2 ha
theorem sg_eq {t : FF} {len p : Nat} {x : Int32} (h0 : x ≠ 0) (h1 : x ≠ -1) : sg t len p = x ↔ sm0 t len p = x := by
  by_cases h : p < len
  · rw [sg_at h, sm_at h]
  · rw [sg_end h, sm_end h]
    exact ⟨fun e => absurd e.symm h1, fun e => absurd e.symm h0⟩
theorem neg99 : ∀ m, m ≤ 99 → ∀ k, m < k → k ≤ 90 → nI m - nI k < 0 := by
  intro m hm k hk hk2
  have e : nI m = nI k - nI (k - m) := by rw [show nI k - nI (k - m) = nI (k - (k - m)) from pk_sub (by omega), show k - (k - m) = m by omega]
  have e2 : nI m - nI k = -(nI (k - m)) := by rw [e, Int32.sub_eq_add_neg, Int32.sub_eq_add_neg, a3, Int32.add_right_neg, Int32.zero_add]
  rw [e2]
  exact ngc (k - m) (by omega) (by omega)
/-- the second figure -/
theorem sg_two {t : FF} {len p m d : Nat} (hc : CH t len) (hd : 1 ≤ d) (hd2 : d ≤ 9) (hm : m ≤ 99) : (0 ≤ sg t len p - 48 ∧ sg t len p - 48 ≤ mxF (nI m) (nI d)) ↔ (48 ≤ sm0 t len p ∧ sm0 t len p ≤ 57) ∧ 10 * nI d + sm0 t len p - 48 ≤ nI m := by
  by_cases h : p < len
  · obtain ⟨n, hn, e⟩ := hc p h
    rw [sg_at h, sm_at h, e]
    by_cases g : 48 ≤ n
    · rw [show nI n - 48 = nI (n - 48) from pk_sub (b := 48) g, show (10 : Int32) * nI d + nI n - 48 = nI (10 * d + n - 48) from by rw [show (10 : Int32) * nI d + nI n = nI (10 * d + n) from ix2 10 d n]; exact pk_sub (b := 48) (by omega)]
      unfold mxF
      by_cases q : 10 * d ≤ m
      · rw [show nI m - 10 * nI d = nI (m - 10 * d) from by rw [show (10 : Int32) * nI d = nI (10 * d) from pk_mul 10 d]; exact pk_sub q]
        constructor
        · intro ⟨_, g2⟩
          have g3 : n - 48 ≤ m - 10 * d ∧ n - 48 ≤ 9 := by
            split at g2
            · rename_i z
              have k1 := i_le (by omega) (by omega) g2
              have k2 := i_lt (b := 9) (by omega) (by omega) z
              omega
            · rename_i z
              have k1 := i_le (b := 9) (by omega) (by omega) g2
              have k2 := i_nlt (b := 9) (by omega) (by omega) z
              omega
          exact ⟨⟨nI_le (a := 48) (by omega) (by omega), nI_le (b := 57) (by omega) (by decide)⟩, nI_le (by omega) (by omega)⟩
        · intro ⟨⟨_, g2⟩, g3⟩
          have k1 := i_le (b := 57) (by omega) (by omega) g2
          have k2 := i_le (by omega) (by omega) g3
          refine ⟨nI_le (a := 0) (Nat.zero_le _) (by omega), ?_⟩
          split
          · exact nI_le (by omega) (by omega)
          · exact nI_le (b := 9) (by omega) (by decide)
      · have hneg : nI m - 10 * nI d < 0 := by
          rw [show (10 : Int32) * nI d = nI (10 * d) from pk_mul 10 d]
          exact neg99 m (by omega) (10 * d) (by omega) (by omega)
        constructor
        · intro ⟨_, g2⟩
          rw [if_pos (Int32.lt_trans hneg (by decide))] at g2
          exact absurd (Int32.le_trans (nI_le (a := 0) (Nat.zero_le _) (by omega)) g2) (Int32.not_le.mpr hneg)
        · intro ⟨_, g3⟩
          have k2 := i_le (by omega) (by omega) g3
          omega
    · constructor
      · intro ⟨g1, _⟩
        exact absurd g1 (lo48 n (by omega))
      · intro ⟨⟨g1, _⟩, _⟩
        have k1 := i_le (a := 48) (by omega) (by omega) g1
        omega
  · rw [sg_end h, sm_end h]
    constructor
    · intro ⟨g1, _⟩
      exact absurd g1 (by decide)
    · intro ⟨⟨g1, _⟩, _⟩
      exact absurd g1 (by decide)
