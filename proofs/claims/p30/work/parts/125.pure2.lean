/-! a booking's work done -/
theorem a3 (a b c : Int32) : a + b + c = a + c + b := by rw [Int32.add_assoc, Int32.add_comm b c, ← Int32.add_assoc]
theorem sm_up {g : FF} {w : Nat} {y : Int32} (hw : w < 6) : sm (up g w (g w + y)) 6 = sm g 6 + y := by
  rcases (show w = 0 ∨ w = 1 ∨ w = 2 ∨ w = 3 ∨ w = 4 ∨ w = 5 by omega) with rfl | rfl | rfl | rfl | rfl | rfl <;> simp only [sm, up, if_true, if_false, Nat.reduceEqDiff, ← Int32.add_assoc, a3 _ y]
section DOB
variable {f : FF} {w m : Nat} {h ch : Int32}
theorem doA_fuel (hw : w < 6) (hm : m < 6) : doA f w m h ch (49 + 14 * m + 6) = (FP.fsub (f (49 + 14 * m + 6)).toUInt32 (wantU (f (49 + 14 * m + 0)) h)).toInt32 := by
  unfold doA aF
  rw [up_ne _ _ (by omega), up_ne _ _ (by omega), up_ne _ _ (by omega), up_ne _ _ (by omega), up_ne _ _ (by omega), up_ne _ _ (by omega), up_same]
theorem doA_acc (hw : w < 6) (hm : m < 6) : doA f w m h ch (13 + 6 * w + 0) = f (13 + 6 * w + 0) - ch := by
  unfold doA aF
  rw [up_ne _ _ (by omega), up_ne _ _ (by omega), up_ne _ _ (by omega), up_ne _ _ (by omega), up_ne _ _ (by omega), up_same, up_ne _ _ (by omega), Int32.sub_eq_add_neg]
theorem doA_chg (hw : w < 6) (hm : m < 6) : doA f w m h ch (13 + 6 * w + 4) = f (13 + 6 * w + 4) + ch := by
  unfold doA aF
  rw [up_ne _ _ (by omega), up_ne _ _ (by omega), up_ne _ _ (by omega), up_ne _ _ (by omega), up_same, up_ne _ _ (by omega), up_ne _ _ (by omega)]
theorem doA_hrs (hw : w < 6) (hm : m < 6) : doA f w m h ch (13 + 6 * w + 2) = f (13 + 6 * w + 2) + h := by
  unfold doA aF
  rw [up_ne _ _ (by omega), up_ne _ _ (by omega), up_ne _ _ (by omega), up_same, up_ne _ _ (by omega), up_ne _ _ (by omega), up_ne _ _ (by omega)]
theorem doA_since (hw : w < 6) (hm : m < 6) : doA f w m h ch (49 + 14 * m + 3) = f (49 + 14 * m + 3) + h := by
  unfold doA aF
  rw [up_ne _ _ (by omega), up_ne _ _ (by omega), up_same, up_ne _ _ (by omega), up_ne _ _ (by omega), up_ne _ _ (by omega), up_ne _ _ (by omega)]
theorem doA_all (hw : w < 6) (hm : m < 6) : doA f w m h ch (49 + 14 * m + 4) = f (49 + 14 * m + 4) + h := by
  unfold doA aF
  rw [up_ne _ _ (by omega), up_same, up_ne _ _ (by omega), up_ne _ _ (by omega), up_ne _ _ (by omega), up_ne _ _ (by omega), up_ne _ _ (by omega)]
theorem doA_own (hw : w < 6) (hm : m < 6) : doA f w m h ch (49 + 14 * m + (8 + w)) = f (49 + 14 * m + (8 + w)) + h := by
  unfold doA aF
  rw [up_same, up_ne _ _ (by omega), up_ne _ _ (by omega), up_ne _ _ (by omega), up_ne _ _ (by omega), up_ne _ _ (by omega), up_ne _ _ (by omega)]
theorem doA_0 (hw : w < 6) (hm : m < 6) : doA f w m h ch 0 = f 0 := doA_ne (by omega) (by omega) (by omega) (by omega) (by omega) (by omega) (by omega)
theorem doB_A {j : Nat} (h7 : j ≠ 7) (h2 : j ≠ 49 + 14 * m + 2) : doB f w m h ch j = doA f w m h ch j := by
  unfold doB
  rw [aF, up_ne _ _ h7]
  split
  · rfl
  · rw [up_ne _ _ h2]
theorem doB_7 (hw : w < 6) (hm : m < 6) : doB f w m h ch 7 = f 7 + 1 := by
  unfold doB
  rw [aF, up_same]
  split
  · rw [doA_ne (by omega) (by omega) (by omega) (by omega) (by omega) (by omega) (by omega)]
  · rw [up_ne _ _ (by omega), doA_ne (by omega) (by omega) (by omega) (by omega) (by omega) (by omega) (by omega)]
theorem doB_br (hw : w < 6) (hm : m < 6) : doB f w m h ch (49 + 14 * m + 2) = if f (49 + 14 * m + 3) + h < f 0 then f (49 + 14 * m + 2) else 1 := by
  unfold doB
  rw [aF, up_ne _ _ (by omega), doA_since hw hm, doA_0 hw hm]
  split
  · rw [doA_ne (by omega) (by omega) (by omega) (by omega) (by omega) (by omega) (by omega)]
  · rw [up_same]
/-- elsewhere nothing changes -/
theorem doB_lo {j : Nat} (hw : w < 6) (hm : m < 6) (h1 : j < 13 ∨ 133 ≤ j) (h7 : j ≠ 7) : doB f w m h ch j = f j := doB_ne (by omega) (by omega) (by omega) (by omega) (by omega) (by omega) (by omega) h7 (by omega)
theorem doB_f {i k : Nat} (hw : w < 6) (hm : m < 6) (hi : i < 6) (hk : k < 6) (hn : i ≠ w ∨ (k ≠ 0 ∧ k ≠ 4 ∧ k ≠ 2)) : doB f w m h ch (13 + 6 * i + k) = f (13 + 6 * i + k) := doB_ne (by omega) (by omega) (by omega) (by omega) (by omega) (by omega) (by omega) (by omega) (by omega)
theorem doB_m {i k : Nat} (hw : w < 6) (hm : m < 6) (hi : i < 6) (hk : k < 14) (hn : i ≠ m ∨ (k ≠ 6 ∧ k ≠ 3 ∧ k ≠ 4 ∧ k ≠ 8 + w ∧ k ≠ 2)) : doB f w m h ch (49 + 14 * i + k) = f (49 + 14 * i + k) := doB_ne (by omega) (by omega) (by omega) (by omega) (by omega) (by omega) (by omega) (by omega) (by omega)
end DOB
theorem Wm.since {f : FF} {m : Nat} (h : Wm f m) : sm (fun j => f (49 + 14 * m + (8 + j))) 6 = f (49 + 14 * m + 3) := by
  obtain ⟨-, -, -, -, g, g1, g2, -⟩ := h
  unfold ow at g1
  simp only [sm]
  rw [g1 0 (by decide), g1 1 (by decide), g1 2 (by decide), g1 3 (by decide), g1 4 (by decide), g1 5 (by decide), g2, show (0 : Int32) = nI 0 from rfl, nI_add, nI_add, nI_add, nI_add, nI_add, nI_add, Nat.zero_add]
theorem sm_congr {g g1 : FF} : ∀ {n : Nat}, (∀ j, j < n → g j = g1 j) → sm g n = sm g1 n
  | 0, _ => rfl
  | n + 1, h => by
    simp only [sm]
    rw [sm_congr (fun j hj => h j (by omega)), h n (Nat.lt_succ_self n)]
theorem Rp_do {M M1 : MM} {P : PP} {s c q w m : Nat} {f : FF} {h ch : Int32} (hs : isSt s) (hp : PS P s) (hr : Rp M P s f) (hw : Wf c q f) (hw6 : w < 6) (hm6 : m < mn f)
    (a1 : M1 (s + 2 + w) 0 = f (13 + 6 * w + 0) - ch) (a2 : M1 (s + 2 + w) 4 = f (13 + 6 * w + 4) + ch) (a3 : M1 (s + 2 + w) 2 = f (13 + 6 * w + 2) + h) (a4 : ∀ k, k ≠ 0 → k ≠ 4 → k ≠ 2 → M1 (s + 2 + w) k = M (s + 2 + w) k)
    (b1 : ∀ k, k ≠ 3 → k ≠ 4 → k ≠ 5 → M1 (s + 9 + 2 * m) k = M (s + 9 + 2 * m) k) (b2 : M1 (s + 9 + 2 * m) 3 = (FP.fsub (f (49 + 14 * m + 6)).toUInt32 (wantU (f (49 + 14 * m + 0)) h)).toInt32) (b3 : M1 (s + 9 + 2 * m) 5 = f (49 + 14 * m + 4) + h) (b4 : M1 (s + 9 + 2 * m) 4 = if f (49 + 14 * m + 3) + h < f 0 then f (49 + 14 * m + 2) else 1) (b5 : M1 (s + 10 + 2 * m) = up (M (s + 10 + 2 * m)) w (M (s + 10 + 2 * m) w + h))
    (d1 : M1 s 7 = f 7 + 1) (d2 : ∀ k, k ≠ 7 → M1 s k = M s k) (e1 : ∀ a, a ≠ s → a ≠ s + 2 + w → a ≠ s + 9 + 2 * m → a ≠ s + 10 + 2 * m → M1 a = M a) : Rp M1 P s (doB f w m h ch) := by
  have h6 := hw.m6
  have h30 := hw.s30
  have hm7 : m < 6 := by omega
  have e6 : doB f w m h ch 6 = f 6 := doB_lo hw6 hm7 (by omega) (by decide)
  have e12 : doB f w m h ch 12 = f 12 := doB_lo hw6 hm7 (by omega) (by decide)
  have hsn : sn (doB f w m h ch) = sn f := by unfold sn; rw [e6]
  have hmn : mn (doB f w m h ch) = mn f := by unfold mn; rw [e12]
  refine ⟨?_, ?_, ?_, ?_⟩
  · obtain ⟨r1, r2, r3, r4, r5, r6, r7, r8, r9, r10, r11, r12, r13⟩ := hr.1
    unfold RS
    rw [d2 3 (by decide), d2 4 (by decide), d2 5 (by decide), d2 6 (by decide), d1, d2 8 (by decide), d2 9 (by decide), d2 10 (by decide), d2 11 (by decide), d2 12 (by decide), d2 13 (by decide), d2 14 (by decide), d2 15 (by decide)]
    refine ⟨?_, ?_, ?_, ?_, (doB_7 hw6 hm7).symm, ?_, ?_, ?_, ?_, ?_, ?_, ?_, ?_⟩ <;> rw [doB_lo hw6 hm7 (by omega) (by decide)] <;> assumption
  · intro i hi k hk
    by_cases e : i = w
    · subst e
      by_cases k0 : k = 0
      · subst k0; rw [a1, doB_A (by omega) (by omega), doA_acc hw6 hm7]
      · by_cases k4 : k = 4
        · subst k4; rw [a2, doB_A (by omega) (by omega), doA_chg hw6 hm7]
        · by_cases k2 : k = 2
          · subst k2; rw [a3, doB_A (by omega) (by omega), doA_hrs hw6 hm7]
          · rw [a4 k k0 k4 k2, doB_f hw6 hm7 hi hk (Or.inr ⟨k0, k4, k2⟩)]
            exact hr.2.1 i hi k hk
    · rw [e1 _ (by omega) (by omega) (by omega) (by omega), doB_f hw6 hm7 hi hk (Or.inl e)]
      exact hr.2.1 i hi k hk
  · intro i g1 g2
    rw [hmn] at g1
    have hz := hr.2.2.1 i g1 g2
    unfold Rm at hz ⊢
    by_cases e : i = m
    · subst e
      rw [b1 0 (by decide) (by decide) (by decide), b1 1 (by decide) (by decide) (by decide), b1 2 (by decide) (by decide) (by decide), b1 6 (by decide) (by decide) (by decide), b2, b3, b4, b5]
      rw [doB_m hw6 hm7 g2 (k := 0) (by decide) (Or.inr ⟨by omega, by omega, by omega, by omega, by omega⟩), doB_m hw6 hm7 g2 (k := 1) (by decide) (Or.inr ⟨by omega, by omega, by omega, by omega, by omega⟩), doB_m hw6 hm7 g2 (k := 5) (by decide) (Or.inr ⟨by omega, by omega, by omega, by omega, by omega⟩), doB_m hw6 hm7 g2 (k := 7) (by decide) (Or.inr ⟨by omega, by omega, by omega, by omega, by omega⟩), doB_A (j := 49 + 14 * i + 6) (by omega) (by omega), doA_fuel hw6 hm7, doB_br hw6 hm7, doB_A (j := 49 + 14 * i + 4) (by omega) (by omega), doA_all hw6 hm7]
      refine ⟨hz.1, hz.2.1, hz.2.2.1, rfl, rfl, rfl, hz.2.2.2.2.2.2.1, fun j hj => ?_⟩
      by_cases ew : j = w
      · subst ew
        rw [up_same, doB_A (by omega) (by omega), doA_own hw6 hm7, hz.2.2.2.2.2.2.2 j hj]
      · rw [up_ne _ _ ew, doB_m hw6 hm7 g2 (by omega) (Or.inr ⟨by omega, by omega, by omega, by omega, by omega⟩)]
        exact hz.2.2.2.2.2.2.2 j hj
    · rw [e1 (s + 9 + 2 * i) (by omega) (by omega) (by omega) (by omega), e1 (s + 10 + 2 * i) (by omega) (by omega) (by omega) (by omega)]
      rw [doB_m hw6 hm7 g2 (k := 0) (by decide) (Or.inl e), doB_m hw6 hm7 g2 (k := 1) (by decide) (Or.inl e), doB_m hw6 hm7 g2 (k := 5) (by decide) (Or.inl e), doB_m hw6 hm7 g2 (k := 6) (by decide) (Or.inl e), doB_m hw6 hm7 g2 (k := 2) (by decide) (Or.inl e), doB_m hw6 hm7 g2 (k := 4) (by decide) (Or.inl e), doB_m hw6 hm7 g2 (k := 7) (by decide) (Or.inl e)]
      exact ⟨hz.1, hz.2.1, hz.2.2.1, hz.2.2.2.1, hz.2.2.2.2.1, hz.2.2.2.2.2.1, hz.2.2.2.2.2.2.1, fun j hj => by rw [doB_m hw6 hm7 g2 (by omega) (Or.inl e)]; exact hz.2.2.2.2.2.2.2 j hj⟩
  · intro i g1 g2 k hk
    rw [hsn] at g1
    have hb := hp.bin g2
    rw [e1 _ (by omega) (by omega) (by omega) (by omega), doB_lo hw6 hm7 (by omega) (by omega)]
    exact hr.2.2.2 i g1 g2 k hk
