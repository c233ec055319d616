theorem at_self {M : MM} {p : Nat} (h2 : M 367 2 = nI p) : up M 367 (up (M 367) 2 (nI p)) = M := by
  funext a
  by_cases e : a = 367
  · subst e
    rw [up_same]
    funext j
    by_cases g : j = 2
    · rw [g, up_same, h2]
    · rw [up_ne _ _ g]
  · rw [up_ne _ _ e]
theorem c5_digit {l : Launch} {D : va_G} {cy : Nat → ClassId} {B : Nat} {M : MM} {P : PP} {t : FF} {len p : Nat} (hs : rr P 367 0 368) (h1 : M 367 1 = nI len) (h2 : M 367 2 = nI p) (hl : len ≤ 60) (hp : p ≤ len) (ht : ∀ i, i < len → M 368 i = t i) {x y : Int32} : KI l D cy B yX5_takeDigit wsX5_takeDigit 1 22 [Value.ref (B + 367), Value.int x, Value.int y] M P (qi (if x ≤ sg t len p - 48 ∧ sg t len p - 48 ≤ y then sg t len p - 48 else -1) (up M 367 (up (M 367) 2 (nI (if x ≤ sg t len p - 48 ∧ sg t len p - 48 ≤ y then p + 1 else p)))) P) := by
  by_cases hx : x ≤ sg t len p - 48 ∧ sg t len p - 48 ≤ y
  · rw [if_pos hx, if_pos hx]
    exact c5_digitS hs h1 h2 hl hp ht hx
  · rw [if_neg hx, if_neg hx, at_self h2]
    exact c5_digitN hs h1 h2 hl hp ht hx
theorem c5_sign {l : Launch} {D : va_G} {cy : Nat → ClassId} {B : Nat} {M : MM} {P : PP} {t : FF} {len p : Nat} (hs : rr P 367 0 368) (h1 : M 367 1 = nI len) (h2 : M 367 2 = nI p) (hl : len ≤ 60) (hp : p ≤ len) (ht : ∀ i, i < len → M 368 i = t i) {x : Int32} : KI l D cy B yX5_takeSign wsX5_takeSign 1 20 [Value.ref (B + 367), Value.int x] M P (qi (if sg t len p = x then 1 else 0) (up M 367 (up (M 367) 2 (nI (if sg t len p = x then p + 1 else p)))) P) := by
  by_cases hx : sg t len p = x
  · rw [if_pos hx, if_pos hx]
    exact c5_signS hs h1 h2 hl hp ht hx
  · rw [if_neg hx, if_neg hx, at_self h2]
    exact c5_signN hs h1 h2 hl hp ht hx
def pnV (t : FF) (len p : Nat) (m : Int32) : Int32 := match pNum t len p m with
  | none => -1
  | some (v, _) => v
def pnQ (t : FF) (len p : Nat) (m : Int32) : Nat := match pNum t len p m with
  | none => p
  | some (_, q) => q
theorem c5_num {l : Launch} {D : va_G} {cy : Nat → ClassId} {B : Nat} {M : MM} {P : PP} {t : FF} {len p : Nat} (hs : rr P 367 0 368) (h1 : M 367 1 = nI len) (h2 : M 367 2 = nI p) (hl : len ≤ 60) (hp : p ≤ len) (ht : ∀ i, i < len → M 368 i = t i) {m : Int32} : KI l D cy B yX5_takeNumber wsX5_takeNumber 2 45 [Value.ref (B + 367), Value.int m] M P (qi (pnV t len p m) (up M 367 (up (M 367) 2 (nI (pnQ t len p m)))) P) := by
  refine ki_post (c5_number hs h1 h2 hl hp ht) fun r M1 P1 ⟨g1, g2⟩ => ?_
  rcases g2 with ⟨n1, n2, n3⟩ | ⟨v, q, n1, n2, n3, n4, n5, n6⟩
  · have e1 : pnV t len p m = -1 := by unfold pnV; rw [n1]
    have e2 : pnQ t len p m = p := by unfold pnQ; rw [n1]
    rw [e1, e2, at_self h2]
    exact ⟨n2, n3, g1⟩
  · have e1 : pnV t len p m = v := by unfold pnV; rw [n1]
    have e2 : pnQ t len p m = q := by unfold pnQ; rw [n1]
    rw [e1, e2]
    exact ⟨n5, n6, g1⟩
theorem sg_le {t : FF} {len p : Nat} {x : Int32} (h : sg t len p = x) (hx : x ≠ -1) : p + 1 ≤ len := by
  rcases Nat.lt_or_ge p len with z | z
  · exact z
  · unfold sg at h
    rw [if_neg (by omega)] at h
    exact absurd h.symm hx
theorem pnQ_le {t : FF} {len p : Nat} {m : Int32} (hp : p ≤ len) : pnQ t len p m ≤ len ∧ p ≤ pnQ t len p m := by
  unfold pnQ
  by_cases hx : 1 ≤ sg t len p - 48 ∧ sg t len p - 48 ≤ 9
  · have h1 := sg_lt (d_pos hx.1)
    by_cases hy : 0 ≤ sg t len (p + 1) - 48 ∧ sg t len (p + 1) - 48 ≤ mxF m (sg t len p - 48)
    · have h2 := sg_lt hy.1
      rw [show pNum t len p m = some (10 * (sg t len p - 48) + (sg t len (p + 1) - 48), p + 2) from by rw [pNum, if_pos hx, if_pos hy]]
      show p + 2 ≤ len ∧ p ≤ p + 2
      omega
    · rw [show pNum t len p m = some (sg t len p - 48, p + 1) from by rw [pNum, if_pos hx, if_neg hy]]
      show p + 1 ≤ len ∧ p ≤ p + 1
      omega
  · rw [show pNum t len p m = none from by rw [pNum, if_neg hx]]
    exact ⟨hp, Nat.le_refl _⟩
theorem pnV_none {t : FF} {len p : Nat} {m : Int32} : pnV t len p m = -1 ↔ pNum t len p m = none := by
  unfold pnV
  constructor
  · intro h
    split at h
    · assumption
    · rename_i v q hq
      unfold pNum at hq
      split at hq
      · rename_i hx
        split at hq
        · rename_i hy
          have hv := num_pos hx.1 hx.2 hy.1 (mx9 hy.2)
          cases hq
          exact absurd h (d_ne (x := 0) hv)
        · cases hq
          exact absurd h (d_ne (x := 0) (d_pos hx.1))
      · cases hq
  · intro h
    rw [h]
