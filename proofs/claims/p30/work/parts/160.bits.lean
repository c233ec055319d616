/-! the bits of fuel, as the class counts them -/
def bl1 : Nat → UInt32 → Int32 → UInt32 × Int32
  | 0, f, e => (f, e)
  | n + 1, f, e => if Op.cmpValue (FP.fcmp f FP.fconst2) .l < 0 then (f, e) else bl1 n (FP.fmul f 1056964608) (e + 1)
def bl2 : Nat → UInt32 → Int32 → UInt32 × Int32
  | 0, f, e => (f, e)
  | n + 1, f, e => if 0 ≤ Op.cmpValue (FP.fcmp f FP.fconst1) .g then (f, e) else bl2 n (FP.fmul f FP.fconst2) (e + -1)
def bo1 : Nat → UInt32 → Bool
  | 0, _ => true
  | n + 1, f => if Op.cmpValue (FP.fcmp f FP.fconst2) .l < 0 then true else (!FP.Core.fIsNaN (FP.fmul f 1056964608)) && bo1 n (FP.fmul f 1056964608)
def bo2 : Nat → UInt32 → Bool
  | 0, _ => true
  | n + 1, f => if 0 ≤ Op.cmpValue (FP.fcmp f FP.fconst1) .g then true else (!FP.Core.fIsNaN (FP.fmul f FP.fconst2)) && bo2 n (FP.fmul f FP.fconst2)
def bR1 (f : UInt32) : UInt32 × Int32 := bl1 126 f 127
def bR2 (f : UInt32) : UInt32 × Int32 := bl2 126 (bR1 f).1 (bR1 f).2
def bFr (f : UInt32) : UInt32 := FP.fsub (bR2 f).1 FP.fconst1
def bOut (f : UInt32) : Int32 := ((bR2 f).2 <<< ((23 : Int32) &&& 31)) ||| FP.f2i (FP.fmul (bFr f) 1258291200)
def bChk (q : Nat) : Bool := decide (0 < Op.cmpValue (FP.fcmp (qbU q) FP.fconst0) .g) && bo1 126 (qbU q) && bo2 126 (bR1 (qbU q)).1 && !FP.Core.fIsNaN (bFr (qbU q)) && !FP.Core.fIsNaN (FP.fmul (bFr (qbU q)) 1258291200) && decide (bOut (qbU q) = qb q)
def bAll (a : Nat) : Nat → Bool
  | 0 => true
  | n + 1 => bAll a n && bChk (a + n)
theorem bAll_at {a : Nat} : ∀ {n : Nat}, bAll a n = true → ∀ q, a ≤ q → q < a + n → bChk q = true
  | 0, _, q, h1, h2 => absurd h2 (by omega)
  | n + 1, h, q, h1, h2 => by
    have h3 := Bool.and_eq_true_iff.mp h
    by_cases e : q = a + n
    · rw [e]; exact h3.2
    · exact bAll_at h3.1 q h1 (by omega)
theorem bAll_t : bAll 1 20 = true := by decide +kernel
theorem bAll_a : bAll 1 800 = true := by decide +kernel
theorem bAll_b : bAll 801 800 = true := by decide +kernel
theorem bAll_c : bAll 1601 800 = true := by decide +kernel
theorem bChk_ok {q : Nat} (h1 : 1 ≤ q) (h2 : q ≤ 2400) : bChk q = true := by
  rcases Nat.lt_or_ge q 801 with h | h
  · exact bAll_at bAll_a q h1 (by omega)
  · rcases Nat.lt_or_ge q 1601 with g | g
    · exact bAll_at bAll_b q h (by omega)
    · exact bAll_at bAll_c q g (by omega)
theorem bo1_s {n : Nat} {f : UInt32} (h : bo1 (n + 1) f = true) (hc : ¬ Op.cmpValue (FP.fcmp f FP.fconst2) .l < 0) : vf_n32 (FP.fmul f 1056964608) ∧ bo1 n (FP.fmul f 1056964608) = true := by
  simp only [bo1, if_neg hc] at h
  have h3 := Bool.and_eq_true_iff.mp h
  exact ⟨n32_of (by simpa using h3.1), h3.2⟩
theorem bo2_s {n : Nat} {f : UInt32} (h : bo2 (n + 1) f = true) (hc : ¬ 0 ≤ Op.cmpValue (FP.fcmp f FP.fconst1) .g) : vf_n32 (FP.fmul f FP.fconst2) ∧ bo2 n (FP.fmul f FP.fconst2) = true := by
  simp only [bo2, if_neg hc] at h
  have h3 := Bool.and_eq_true_iff.mp h
  exact ⟨n32_of (by simpa using h3.1), h3.2⟩
