/-! floats: quarters of a litre -/
def qd (a : Nat) : FP.Core.Datum := FP.Core.round FP.Core.b32 (.fin false a (-2))
def qbU (a : Nat) : UInt32 := FP.Core.of32 (qd a)
theorem qbU_val (a : Nat) : FP.Core.val32 (qbU a) = qd a := FP.Core.val32_of32 (FP.Core.round_fits FP.Core.good_b32 _)
def qchk (a : Nat) : Bool := match qd a with
  | .fin false c e => decide (-149 ≤ e) && decide (e ≤ -2) && decide (c * 2 ^ (e + 149).toNat = a * 2 ^ 147)
  | _ => false
def qall : Nat → Bool
  | 0 => true
  | n + 1 => qchk n && qall n
theorem qall_at : ∀ {n a : Nat}, qall n = true → a < n → qchk a = true
  | 0, a, _, h2 => absurd h2 (Nat.not_lt_zero _)
  | n + 1, a, h, h2 => by
    simp only [qall, Bool.and_eq_true] at h
    rcases Nat.lt_succ_iff_lt_or_eq.mp h2 with h3 | h3
    · exact qall_at h.2 h3
    · rw [h3]; exact h.1
set_option maxRecDepth 100000 in
set_option maxHeartbeats 4000000 in
theorem qall_ok : qall 4401 = true := by decide +kernel
set_option maxRecDepth 100000 in
theorem qall_t20 : qall 20 = true := by decide +kernel
theorem qd_ex {a : Nat} (h : a ≤ 4400) : ∃ (c : Nat) (e : Int), qd a = .fin false c e ∧ -149 ≤ e ∧ e ≤ -2 ∧ c * 2 ^ (e + 149).toNat = a * 2 ^ 147 := by
  have h1 := qall_at qall_ok (Nat.lt_succ_of_le h)
  unfold qchk at h1
  generalize hd : qd a = d at h1 ⊢
  rcases d with _ | s | ⟨s, c, e⟩
  · cases h1
  · cases h1
  · cases s
    · dsimp only at h1
      rw [Bool.and_eq_true, Bool.and_eq_true, decide_eq_true_eq, decide_eq_true_eq, decide_eq_true_eq] at h1
      exact ⟨c, e, rfl, h1.1.1, h1.1.2, h1.2⟩
    · cases h1
theorem qbU_fin {a : Nat} (h : a ≤ 4400) : FP.Core.FFin (qbU a) := by
  obtain ⟨c, e, he, -⟩ := qd_ex h
  exact ⟨false, c, e, (qbU_val a).trans he⟩
/-- an exact significand at a lower exponent m -/
theorem q_units {a c : Nat} {e m : Int} (h : c * 2 ^ (e + 149).toNat = a * 2 ^ 147) (h1 : -149 ≤ m) (h2 : m ≤ e) (h3 : m ≤ -2) : FP.Core.inUnits c e m = a * 2 ^ (-2 - m).toNat := by
  unfold FP.Core.inUnits
  have e1 : (e + 149).toNat = (e - m).toNat + (m + 149).toNat := by omega
  have e2 : 147 = (-2 - m).toNat + (m + 149).toNat := by omega
  rw [e1, e2, Nat.pow_add, Nat.pow_add, ← Nat.mul_assoc, ← Nat.mul_assoc] at h
  exact Nat.eq_of_mul_eq_mul_right (Nat.two_pow_pos _) h
theorem q_round {A m : Nat} : True := trivial
theorem q_roundAt {a A : Nat} {m : Int} (h3 : m ≤ -2) (h : A = a * 2 ^ (-2 - m).toNat) : FP.Core.round FP.Core.b32 (.fin false A m) = qd a := by
  refine FP.Core.roundRatio_congr (by decide) (by decide) ?_
  rw [show (m - -2).toNat = 0 by omega, Nat.pow_zero, Nat.mul_one, Nat.mul_one, Nat.mul_one, h]
theorem q_add {a b : Nat} (ha : a ≤ 4400) (hb : b ≤ 4400) : FP.fadd (qbU a) (qbU b) = qbU (a + b) := by
  obtain ⟨c, e, h1, h2, h3, h4⟩ := qd_ex ha
  obtain ⟨d, r, g1, g2, g3, g4⟩ := qd_ex hb
  have hv : FP.Core.val32 (FP.Core.fadd (qbU a) (qbU b)) = qd (a + b) := by
    rw [FP.Core.val32_fadd, qbU_val, qbU_val, h1, g1]
    have u1 := q_units h4 (m := min e r) (by omega) (by omega) (by omega)
    have u2 := q_units g4 (m := min e r) (by omega) (by omega) (by omega)
    have hs : FP.Core.sumUnits false c e false d r (min e r) = (((a + b) * 2 ^ (-2 - min e r).toNat : Nat) : Int) := by
      unfold FP.Core.sumUnits FP.Core.signed
      rw [u1, u2, Nat.add_mul]
      simp
    show FP.Core.round FP.Core.b32 (.fin (FP.Core.sumSign false false _) _ _) = _
    rw [hs]
    have hsg : FP.Core.sumSign false false (((a + b) * 2 ^ (-2 - min e r).toNat : Nat) : Int) = false := by
      unfold FP.Core.sumSign
      split
      · rfl
      · exact decide_eq_false (Int.not_lt.mpr (Int.natCast_nonneg _))
    rw [hsg, Int.natAbs_natCast]
    exact q_roundAt (by omega) rfl
  have h5 : FP.Core.val32 (qbU (a + b)) ≠ .nan := by
    rw [qbU_val]
    intro z
    have := FP.Core.val32_fadd (qbU a) (qbU b)
    rw [hv, z] at this
    rw [qbU_val, qbU_val, h1, g1] at this
    have h6 : ∀ (s : Bool) (A : Nat) (q : Int), FP.Core.round FP.Core.b32 (.fin s A q) ≠ .nan := by
      intro s A q h7
      have h8 : FP.Core.roundRatio FP.Core.b32 s A 1 q = .nan := h7
      unfold FP.Core.roundRatio FP.Core.roundAt FP.Core.settle FP.Core.bound at h8
      split at h8 <;> (try cases h8)
      split at h8 <;> split at h8 <;> cases h8
    exact h6 _ _ _ this.symm
  exact FP.Core.val32_inj (by rw [hv, ← qbU_val]; exact h5) (by rw [hv, qbU_val])
theorem q_sub {a b : Nat} (ha : a ≤ 4400) (hb : b ≤ a) : FP.fsub (qbU a) (qbU b) = qbU (a - b) := by
  obtain ⟨c, e, h1, h2, h3, h4⟩ := qd_ex ha
  obtain ⟨d, r, g1, g2, g3, g4⟩ := qd_ex (show b ≤ 4400 by omega)
  have hv : FP.Core.val32 (FP.Core.fsub (qbU a) (qbU b)) = qd (a - b) := by
    rw [FP.Core.val32_fsub, qbU_val, qbU_val, h1, g1]
    have u1 := q_units h4 (m := min e r) (by omega) (by omega) (by omega)
    have u2 := q_units g4 (m := min e r) (by omega) (by omega) (by omega)
    have hs : FP.Core.sumUnits false c e true d r (min e r) = (((a - b) * 2 ^ (-2 - min e r).toNat : Nat) : Int) := by
      unfold FP.Core.sumUnits FP.Core.signed
      rw [u1, u2, Nat.sub_mul]
      have : b * 2 ^ (-2 - min e r).toNat ≤ a * 2 ^ (-2 - min e r).toNat := Nat.mul_le_mul_right _ hb
      rw [Int.ofNat_sub this]
      simp
      omega
    show FP.Core.round FP.Core.b32 (.fin (FP.Core.sumSign false (!false) _) _ _) = _
    rw [show (!false) = true from rfl, hs]
    have hsg : FP.Core.sumSign false true (((a - b) * 2 ^ (-2 - min e r).toNat : Nat) : Int) = false := by
      unfold FP.Core.sumSign
      split
      · rfl
      · exact decide_eq_false (Int.not_lt.mpr (Int.natCast_nonneg _))
    rw [hsg, Int.natAbs_natCast]
    exact q_roundAt (by omega) rfl
  have h5 : FP.Core.val32 (qbU (a - b)) ≠ .nan := (qbU_fin (show a - b ≤ 4400 by omega)).ne_nan
  exact FP.Core.val32_inj (by rw [hv, ← qbU_val]; exact h5) (by rw [hv, qbU_val])
theorem q_cmp {a b : Nat} (ha : a ≤ 4400) (hb : b ≤ 4400) : FP.fcmp (qbU a) (qbU b) = some (compare a b) := by
  obtain ⟨c, e, h1, h2, h3, h4⟩ := qd_ex ha
  obtain ⟨d, r, g1, g2, g3, g4⟩ := qd_ex hb
  have u1 := q_units h4 (m := min e r) (by omega) (by omega) (by omega)
  have u2 := q_units g4 (m := min e r) (by omega) (by omega) (by omega)
  show FP.Core.order (FP.Core.val32 (qbU a)) (FP.Core.val32 (qbU b)) = _
  rw [qbU_val, qbU_val, h1, g1]
  show some (compare (FP.Core.signed false (FP.Core.inUnits c e (min e r))) (FP.Core.signed false (FP.Core.inUnits d r (min e r)))) = _
  rw [u1, u2]
  unfold FP.Core.signed
  simp only [Bool.false_eq_true, if_false]
  congr 1
  have hp := Nat.two_pow_pos (-2 - min e r).toNat
  generalize 2 ^ (-2 - min e r).toNat = k at hp
  rcases Nat.lt_trichotomy a b with h | h | h
  · rw [Nat.compare_eq_lt.mpr h]
    exact (FP.Core.compare_ite _ _).trans (if_pos (by exact_mod_cast Nat.mul_lt_mul_of_pos_right h hp))
  · subst h
    rw [Nat.compare_eq_eq.mpr rfl]
    exact (FP.Core.compare_ite _ _).trans (by rw [if_neg (Int.lt_irrefl _), if_pos rfl])
  · rw [Nat.compare_eq_gt.mpr h]
    have h9 : (((b * k : Nat)) : Int) < ((a * k : Nat) : Int) := by exact_mod_cast Nat.mul_lt_mul_of_pos_right h hp
    exact (FP.Core.compare_ite _ _).trans (by rw [if_neg (by omega), if_neg (by omega)])
theorem q_i2f {n : Nat} (h : n ≤ 1100) : FP.i2f (nI n) = qbU (4 * n) := by
  have hv : FP.Core.val32 (FP.Core.i2f (nI n)) = qd (4 * n) := by
    rw [FP.Core.val32_i2f, nI_toInt (by omega)]
    show FP.Core.round FP.Core.b32 (.fin (decide ((n : Int) < 0)) ((n : Int).natAbs) 0) = _
    rw [decide_eq_false (by omega), Int.natAbs_natCast]
    refine FP.Core.roundRatio_congr (by decide) (by decide) ?_
    simp
    omega
  exact FP.Core.val32_inj (by rw [hv, ← qbU_val]; exact (qbU_fin (by omega)).ne_nan) (by rw [hv, qbU_val])
theorem n32_of {r : UInt32} (h : FP.Core.fIsNaN r = false) : vf_n32 r := by
  have h1 : ¬ 2139095040 < r.toNat % 2 ^ 31 := fun z => by
    have := (FP.Core.isNaN_bits32 r).mpr z
    rw [h] at this
    cases this
  unfold vf_n32
  rw [UInt32.le_iff_toNat_le, UInt32.toNat_and]
  have e : (0x7fffffff : UInt32).toNat = 2 ^ 31 - 1 := by decide
  have e2 : (0x7f800000 : UInt32).toNat = 2139095040 := by decide
  rw [e, e2, Nat.and_two_pow_sub_one_eq_mod]
  omega
theorem qbU_n32 {a : Nat} (h : a ≤ 4400) : vf_n32 (qbU a) := n32_of (qbU_fin h).notNaN
/-- the factors of the seasons, the uses of the kinds -/
def facU (x : Int32) : UInt32 := if x = 0 then FP.fconst1 else if x = 1 then 1069547520 else if x = 2 then 1067450368 else 1056964608
def useU (k : Int32) : UInt32 := if k = 0 then 1091043328 else if k = 1 then 1084751872 else 1101398016
def wantU (k h : Int32) : UInt32 := FP.fmul (FP.i2f h) (useU k)
theorem facU_fin (x : Int32) : FP.Core.FFin (facU x) := by
  unfold facU
  split
  · exact (FP.Core.fin_bits32 _).mpr (by decide)
  · split
    · exact (FP.Core.fin_bits32 _).mpr (by decide)
    · split <;> exact (FP.Core.fin_bits32 _).mpr (by decide)
theorem useU_fin (x : Int32) : FP.Core.FFin (useU x) := by
  unfold useU
  split
  · exact (FP.Core.fin_bits32 _).mpr (by decide)
  · split <;> exact (FP.Core.fin_bits32 _).mpr (by decide)
theorem fac_n32 (x y : Int32) : vf_n32 (FP.fmul (FP.i2f x) (facU y)) := n32_of (FP.Core.fmul_out (FP.Core.i2f_fin x) (facU_fin y))
theorem use_n32 (x y : Int32) : vf_n32 (FP.fmul (FP.i2f x) (useU y)) := n32_of (FP.Core.fmul_out (FP.Core.i2f_fin x) (useU_fin y))
/-- what hours of work need, in quarters -/
def wq (k h : Nat) : Nat := (if k = 0 then 34 else if k = 1 then 21 else 83) * h
def wchk : Nat → Bool
  | 0 => true
  | h + 1 => decide (wantU (nI 0) (nI h) = qbU (wq 0 h)) && decide (wantU (nI 1) (nI h) = qbU (wq 1 h)) && decide (wantU (nI 2) (nI h) = qbU (wq 2 h)) && wchk h
set_option maxRecDepth 100000 in
theorem wchk_ok : wchk 13 = true := by decide +kernel
theorem wchk_at : ∀ {n k h : Nat}, wchk n = true → k < 3 → h < n → wantU (nI k) (nI h) = qbU (wq k h)
  | 0, k, h, _, _, h2 => absurd h2 (Nat.not_lt_zero _)
  | n + 1, k, h, h0, hk, h2 => by
    simp only [wchk, Bool.and_eq_true, decide_eq_true_eq] at h0
    rcases Nat.lt_succ_iff_lt_or_eq.mp h2 with h3 | h3
    · exact wchk_at h0.2 hk h3
    · subst h3
      rcases (show k = 0 ∨ k = 1 ∨ k = 2 by omega) with rfl | rfl | rfl
      · exact h0.1.1.1
      · exact h0.1.1.2
      · exact h0.1.2
theorem q_want {k h : Nat} (hk : k < 3) (hh : h ≤ 12) : wantU (nI k) (nI h) = qbU (wq k h) := wchk_at wchk_ok hk (by omega)
theorem wq_le {k h : Nat} (hh : h ≤ 12) : wq k h ≤ 996 := by
  unfold wq
  split
  · omega
  · split <;> omega
set_option maxRecDepth 100000 in
theorem q_600 : (1142292480 : UInt32) = qbU 2400 := by decide +kernel
set_option maxRecDepth 100000 in
theorem q_0 : FP.fconst0 = qbU 0 := by decide +kernel
