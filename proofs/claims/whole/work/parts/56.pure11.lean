/-! how long the fuel lasts -/
def dD (f : FF) (p : Nat) : Nat := (f (133 + 6 * p + 3)).toNatClampNeg
def dV (f : FF) (a p : Nat) : Nat := wq (f (49 + 14 * a + 0)).toNatClampNeg (f (133 + 6 * p + 4)).toNatClampNeg
/-- a booking of the machine a at the place p, on the day d at the place i or later, or on a later day -/
abbrev isN (f : FF) (a d i p : Nat) : Prop := f (133 + 6 * p + 2) = nI a ∧ (d < dD f p ∨ (dD f p = d ∧ i ≤ p))
/-- the first such, among the first places -/
def nb (f : FF) (a d i : Nat) : Nat → Option Nat
  | 0 => none
  | m + 1 => match nb f a d i m with
    | none => if isN f a d i m then some m else none
    | some b => if isN f a d i m ∧ dD f m < dD f b then some m else some b
section NB
variable {f : FF} {a d i m b : Nat}
theorem nb_no (h : ¬ isN f a d i m) : nb f a d i (m + 1) = nb f a d i m := by
  rw [nb]
  cases nb f a d i m with
  | none => exact if_neg h
  | some b => exact if_neg (fun z => h z.1)
theorem nb_first (h : isN f a d i m) (hb : nb f a d i m = none) : nb f a d i (m + 1) = some m := by
  rw [nb, hb]
  exact if_pos h
theorem nb_less (h : isN f a d i m) (hb : nb f a d i m = some b) (hl : dD f m < dD f b) : nb f a d i (m + 1) = some m := by
  rw [nb, hb]
  exact if_pos ⟨h, hl⟩
theorem nb_ge (hb : nb f a d i m = some b) (hl : ¬ dD f m < dD f b) : nb f a d i (m + 1) = some b := by
  rw [nb, hb]
  exact if_neg (fun z => hl z.2)
end NB
theorem nb_congr {f : FF} {a d i d2 i2 : Nat} : ∀ m, (∀ p, p < m → (isN f a d i p ↔ isN f a d2 i2 p)) → nb f a d i m = nb f a d2 i2 m := by
  intro m
  induction m with
  | zero => exact fun _ => rfl
  | succ m ih =>
    intro h
    have e := ih (fun p hp => h p (by omega))
    have g := h m (by omega)
    rw [nb, nb, e]
    cases nb f a d2 i2 m with
    | none =>
      show (if isN f a d i m then some m else none) = (if isN f a d2 i2 m then some m else none)
      by_cases z : isN f a d i m
      · rw [if_pos z, if_pos (g.mp z)]
      · rw [if_neg z, if_neg (fun y => z (g.mpr y))]
    | some b =>
      show (if isN f a d i m ∧ dD f m < dD f b then some m else some b) = (if isN f a d2 i2 m ∧ dD f m < dD f b then some m else some b)
      by_cases z : isN f a d i m ∧ dD f m < dD f b
      · rw [if_pos z, if_pos ⟨g.mp z.1, z.2⟩]
      · rw [if_neg z, if_neg (fun y => z ⟨g.mpr y.1, y.2⟩)]
theorem nb_spec {f : FF} {a d i : Nat} : ∀ m, (nb f a d i m = none → ∀ p, p < m → ¬ isN f a d i p) ∧ ∀ b, nb f a d i m = some b → b < m ∧ isN f a d i b ∧ ∀ p, p < m → isN f a d i p → dD f b < dD f p ∨ (dD f b = dD f p ∧ b ≤ p) := by
  intro m
  induction m with
  | zero => exact ⟨fun _ p hp => absurd hp (Nat.not_lt_zero _), fun b h => by cases h⟩
  | succ m ih =>
    obtain ⟨i1, i2⟩ := ih
    by_cases z : isN f a d i m
    · cases e : nb f a d i m with
      | none =>
        rw [nb_first z e]
        refine ⟨fun h => by (cases h), fun b h => ?_⟩
        cases h
        refine ⟨by omega, z, fun p hp hz => ?_⟩
        by_cases ep : p = m
        · subst ep
          exact Or.inr ⟨rfl, Nat.le_refl _⟩
        · exact absurd hz (i1 e p (by omega))
      | some b =>
        obtain ⟨j1, j2, j3⟩ := i2 b e
        by_cases hl : dD f m < dD f b
        · rw [nb_less z e hl]
          refine ⟨fun h => by (cases h), fun b2 h => ?_⟩
          cases h
          refine ⟨by omega, z, fun p hp hz => ?_⟩
          by_cases ep : p = m
          · subst ep
            exact Or.inr ⟨rfl, Nat.le_refl _⟩
          · have := j3 p (by omega) hz
            omega
        · rw [nb_ge e hl]
          refine ⟨fun h => by (cases h), fun b2 h => ?_⟩
          cases h
          refine ⟨by omega, j2, fun p hp hz => ?_⟩
          by_cases ep : p = m
          · subst ep
            omega
          · exact j3 p (by omega) hz
    · rw [nb_no z]
      refine ⟨fun h p hp hz => ?_, fun b h => ?_⟩
      · by_cases ep : p = m
        · subst ep
          exact z hz
        · exact i1 h p (by omega) hz
      · obtain ⟨j1, j2, j3⟩ := i2 b h
        refine ⟨by omega, j2, fun p hp hz => ?_⟩
        by_cases ep : p = m
        · subst ep
          exact absurd hz z
        · exact j3 p (by omega) hz
/-- the day on which the fuel q doesn't do, from the place i of the day d on -/
def lx (f : FF) (a : Nat) : Nat → Nat → Nat → Nat → Int32
  | 0, _, _, _ => -100000005
  | m + 1, d, i, q => match nb f a d i (sn f) with
    | none => -100000005
    | some p => if q < dV f a p then nI (dD f p - dn f) else lx f a m (dD f p) (p + 1) (q - dV f a p)
theorem lx_S {f : FF} {a m d i q : Nat} : lx f a (m + 1) d i q = match nb f a d i (sn f) with
    | none => -100000005
    | some p => if q < dV f a p then nI (dD f p - dn f) else lx f a m (dD f p) (p + 1) (q - dV f a p) := rfl
theorem lx_none {f : FF} {a m d i q : Nat} (h : nb f a d i (sn f) = none) : lx f a m d i q = -100000005 := by
  cases m with
  | zero => rfl
  | succ m => rw [lx_S, h]
theorem lx_stable {f : FF} {a : Nat} (h30 : sn f ≤ 30) (hD : ∀ p, p < sn f → dD f p ≤ dn f + 99) : ∀ m d i q m2, i ≤ 31 → 32 * (dn f + 100 - d) - i ≤ m → 32 * (dn f + 100 - d) - i ≤ m2 → lx f a m d i q = lx f a m2 d i q := by
  intro m
  induction m with
  | zero =>
    intro d i q m2 hi h1 h2
    have e : nb f a d i (sn f) = none := by
      cases e : nb f a d i (sn f) with
      | none => rfl
      | some p =>
        obtain ⟨j1, ⟨-, j2⟩, -⟩ := (nb_spec (sn f)).2 p e
        have := hD p j1
        omega
    rw [lx_none e, lx_none e]
  | succ m ih =>
    intro d i q m2 hi h1 h2
    cases e : nb f a d i (sn f) with
    | none => rw [lx_none e, lx_none e]
    | some p =>
      obtain ⟨j1, ⟨-, j2⟩, -⟩ := (nb_spec (sn f)).2 p e
      have := hD p j1
      cases m2 with
      | zero => omega
      | succ m2 =>
        rw [lx_S, lx_S, e]
        show (if q < dV f a p then nI (dD f p - dn f) else lx f a m (dD f p) (p + 1) (q - dV f a p)) = (if q < dV f a p then nI (dD f p - dn f) else lx f a m2 (dD f p) (p + 1) (q - dV f a p))
        by_cases z : q < dV f a p
        · rw [if_pos z, if_pos z]
        · rw [if_neg z, if_neg z]
          exact ih _ _ _ _ (by omega) (by omega) (by omega)
abbrev lX (f : FF) (a d i q : Nat) : Int32 := lx f a 4000 d i q
theorem lX_some {f : FF} {a d i q p : Nat} (h30 : sn f ≤ 30) (hD : ∀ p, p < sn f → dD f p ≤ dn f + 99) (hd : dn f ≤ d) (hi : i ≤ 31) (h : nb f a d i (sn f) = some p) : lX f a d i q = if q < dV f a p then nI (dD f p - dn f) else lX f a (dD f p) (p + 1) (q - dV f a p) := by
  obtain ⟨j1, ⟨-, j2⟩, -⟩ := (nb_spec (sn f)).2 p h
  have := hD p j1
  rw [lX, show (4000 : Nat) = 3999 + 1 from rfl, lx_S, h]
  show (if q < dV f a p then nI (dD f p - dn f) else lx f a 3999 (dD f p) (p + 1) (q - dV f a p)) = _
  rw [lx_stable h30 hD 3999 (dD f p) (p + 1) (q - dV f a p) 4000 (by omega) (by omega) (by omega)]
theorem lX_congr {f : FF} {a d i d2 i2 q : Nat} (h : ∀ p, p < sn f → (isN f a d i p ↔ isN f a d2 i2 p)) : lX f a d i q = lX f a d2 i2 q := by
  have e := nb_congr (sn f) h
  rw [lX, lX, show (4000 : Nat) = 3999 + 1 from rfl, lx_S, lx_S, e]
/-- the class's steps -/
theorem lX_next {f : FF} {a d i q : Nat} (h : ¬ (f (133 + 6 * i + 2) = nI a ∧ dD f i = d)) : lX f a d i q = lX f a d (i + 1) q := by
  refine lX_congr fun p hp => ⟨fun ⟨z1, z2⟩ => ⟨z1, ?_⟩, fun ⟨z1, z2⟩ => ⟨z1, by omega⟩⟩
  rcases z2 with z2 | ⟨z2, z3⟩
  · exact Or.inl z2
  · by_cases e : p = i
    · subst e
      exact absurd ⟨z1, z2⟩ h
    · exact Or.inr ⟨z2, by omega⟩
theorem lX_day {f : FF} {a d q : Nat} : lX f a d (sn f) q = lX f a (d + 1) 0 q := lX_congr fun p hp => ⟨fun ⟨z1, z2⟩ => ⟨z1, by omega⟩, fun ⟨z1, z2⟩ => ⟨z1, by omega⟩⟩
theorem lX_first {f : FF} {a d q : Nat} (h30 : sn f ≤ 30) : lX f a d 31 q = lX f a (d + 1) 0 q := lX_congr fun p hp => ⟨fun ⟨z1, z2⟩ => ⟨z1, by omega⟩, fun ⟨z1, z2⟩ => ⟨z1, by omega⟩⟩
theorem lX_end {f : FF} {a q : Nat} (hD : ∀ p, p < sn f → dD f p ≤ dn f + 99) : lX f a (dn f + 100) 0 q = -100000005 := by
  refine lx_none ?_
  cases e : nb f a (dn f + 100) 0 (sn f) with
  | none => rfl
  | some p =>
    obtain ⟨j1, ⟨-, j2⟩, -⟩ := (nb_spec (sn f)).2 p e
    have := hD p j1
    omega
theorem lX_hit {f : FF} {a d i q : Nat} (h30 : sn f ≤ 30) (hD : ∀ p, p < sn f → dD f p ≤ dn f + 99) (hd : dn f ≤ d) (hi : i < sn f) (h1 : f (133 + 6 * i + 2) = nI a) (h2 : dD f i = d) : lX f a d i q = if q < dV f a i then nI (d - dn f) else lX f a d (i + 1) (q - dV f a i) := by
  have e : nb f a d i (sn f) = some i := by
    cases e : nb f a d i (sn f) with
    | none => exact absurd ⟨h1, Or.inr ⟨h2, Nat.le_refl _⟩⟩ ((nb_spec (sn f)).1 e i hi)
    | some p =>
      obtain ⟨j1, ⟨-, j2⟩, j3⟩ := (nb_spec (sn f)).2 p e
      have := j3 i hi ⟨h1, Or.inr ⟨h2, Nat.le_refl _⟩⟩
      have e2 : p = i := by omega
      rw [e2]
  rw [lX_some h30 hD hd (by omega) e, h2]
/-- a machine's fuel in quarters of a litre -/
def fq (f : FF) (a : Nat) : Nat := ((List.range 2401).find? (fun q => decide (f (49 + 14 * a + 6) = qb q))).getD 0
theorem fq_of {f : FF} {a : Nat} (h : Wm f a) : fq f a ≤ 2400 ∧ f (49 + 14 * a + 6) = qb (fq f a) := by
  obtain ⟨-, -, -, ⟨q, h1, h2⟩, -⟩ := h
  unfold fq
  cases e : (List.range 2401).find? (fun q => decide (f (49 + 14 * a + 6) = qb q)) with
  | none =>
    have := List.find?_eq_none.mp e q (List.mem_range.mpr (by omega))
    exact absurd (decide_eq_true h2) this
  | some q2 =>
    have e1 := List.find?_some e
    have e2 := List.mem_range.mp (List.mem_of_find?_eq_some e)
    exact ⟨by show q2 ≤ 2400; omega, of_decide_eq_true e1⟩
def aLasts (A : AS) (x : Int32) : Int32 := if isM A x then lX A.f x.toNatClampNeg (dn A.f + 1) 0 (fq A.f x.toNatClampNeg) else -100000001
theorem cmp_gl {a b : Nat} (ha : a ≤ 4400) (hb : b ≤ 4400) : (0 ≤ Op.cmpValue (FP.fcmp (qbU a) (qbU b)) .g → b ≤ a) ∧ (¬ 0 ≤ Op.cmpValue (FP.fcmp (qbU a) (qbU b)) .g → a < b) := by
  rw [q_cmp ha hb]
  constructor
  · intro h
    rcases Nat.lt_or_ge a b with z | z
    · rw [Nat.compare_eq_lt.mpr z] at h
      exact absurd h (by decide)
    · exact z
  · intro h
    rcases Nat.lt_or_ge a b with z | z
    · exact z
    · rcases Nat.lt_or_eq_of_le z with y | y
      · rw [Nat.compare_eq_gt.mpr y] at h
        exact absurd (by decide) h
      · rw [Nat.compare_eq_eq.mpr y.symm] at h
        exact absurd (by decide) h
/-- what a booking of the state tells -/
theorem Wb_day {c p : Nat} {f : FF} (hw : Wf c 30 f) (hp : p < sn f) : f (133 + 6 * p + 3) = nI (dD f p) ∧ dn f ≤ dD f p ∧ dD f p ≤ dn f + 99 := by
  obtain ⟨-, -, ⟨d, d1, d2, d3, d4⟩, -⟩ := hw.2.2.2.2.2.2.1 p hp
  have hd := hw.d
  have e : dD f p = d := by unfold dD; rw [d4, nI_clamp (by have := hw.2.2.1.2; omega)]
  rw [e]
  exact ⟨d4, d1, d3⟩
theorem Wb_want {c a p : Nat} {f : FF} (hw : Wf c 30 f) (ha : a < mn f) (hp : p < sn f) : wantU (f (49 + 14 * a + 0)) (f (133 + 6 * p + 4)) = qbU (dV f a p) ∧ dV f a p ≤ 996 := by
  obtain ⟨-, -, -, ⟨h, h1, h2, h3⟩⟩ := hw.2.2.2.2.2.2.1 p hp
  obtain ⟨⟨k, hk, ek⟩, -⟩ := hw.wm ha
  unfold dV
  rw [ek, h3, nI_clamp (by omega), nI_clamp (by omega)]
  exact ⟨q_want hk h2, wq_le h2⟩
