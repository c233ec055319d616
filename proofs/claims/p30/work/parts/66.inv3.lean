/-! the sums: a day's work, mending, the start -/
def ck1 (n : Nat) (c : UInt32) : Bool := decide (¬ FP.f2i (FP.fmul (FP.i2f (nI n)) c) < 0) && decide (FP.f2i (FP.fmul (FP.i2f (nI n)) c) ≤ 1800)
def cck : Nat → Bool
  | 0 => true
  | n + 1 => ck1 n FP.fconst1 && ck1 n 1069547520 && ck1 n 1067450368 && ck1 n 1056964608 && cck n
set_option maxRecDepth 100000 in
theorem cck_ok : cck 1189 = true := by decide +kernel
theorem cck_at : ∀ {N n : Nat} {x : Int32}, cck N = true → n < N → ck1 n (facU x) = true
  | 0, _, _, _, h => absurd h (Nat.not_lt_zero _)
  | N + 1, n, x, h0, h => by
    simp only [cck, Bool.and_eq_true] at h0
    rcases Nat.lt_succ_iff_lt_or_eq.mp h with h3 | h3
    · exact cck_at h0.2 h3
    · subst h3
      unfold facU
      split
      · exact h0.1.1.1.1
      · split
        · exact h0.1.1.1.2
        · split
          · exact h0.1.1.2
          · exact h0.1.2
theorem chI_le {r h : Nat} {d : Int32} (hr : r ≤ 99) (hh : h ≤ 12) : ∃ x, x ≤ 1800 ∧ chI (nI r) (nI h) d = nI x := by
  have h1 : h * r ≤ 12 * 99 := Nat.mul_le_mul hh hr
  have h2 := cck_at (x := seaI d) cck_ok (n := h * r) (by omega)
  unfold ck1 at h2
  rw [Bool.and_eq_true, decide_eq_true_eq, decide_eq_true_eq] at h2
  unfold chI
  rw [pk_mul]
  exact nI_of2 (M := 1800) rfl h2.1 h2.2
theorem chg_le {r h : Nat} {l k d : Int32} (hr : r ≤ 99) (hh : h ≤ 12) : ∃ x, x ≤ 2000 ∧ chg l k (nI r) d (nI h) = nI x := by
  obtain ⟨x, h1, h2⟩ := chI_le (d := d) hr hh
  unfold chg
  rw [h2]
  split
  · exact ⟨x, by omega, rfl⟩
  · refine ⟨x + 6 * h, by omega, ?_⟩
    rw [← nI_add, ← pk_mul]
    rfl
theorem Hv_do {c q p w m h x : Nat} {f : FF} (hv : Hv c f) (hw : Wf q p f) (hc : c ≤ 5000) (hp : p < sn f) (w6 : w < 6) (hm : m < mn f) (hh : h ≤ 12) (hx : x ≤ 2000) : Hv c (dropF (doB f w m (nI h) (nI x)) p (sn f - 1)) := by
  have h6 := hw.m6
  have m6 : m < 6 := by omega
  have l := fun j (h1 : j < 13 ∨ 133 ≤ j) (h7 : j ≠ 7) => doB_lo (f := f) (w := w) (m := m) (h := nI h) (ch := nI x) (j := j) w6 m6 h1 h7
  have a0 : doB f w m (nI h) (nI x) (13 + 6 * w + 0) = f (13 + 6 * w + 0) - nI x := (doB_A (by omega) (by omega)).trans (doA_acc w6 m6)
  have a4 : doB f w m (nI h) (nI x) (13 + 6 * w + 4) = f (13 + 6 * w + 4) + nI x := (doB_A (by omega) (by omega)).trans (doA_chg w6 m6)
  have a2 : doB f w m (nI h) (nI x) (13 + 6 * w + 2) = f (13 + 6 * w + 2) + nI h := (doB_A (by omega) (by omega)).trans (doA_hrs w6 m6)
  have b3 : doB f w m (nI h) (nI x) (49 + 14 * m + 3) = f (49 + 14 * m + 3) + nI h := (doB_A (by omega) (by omega)).trans (doA_since w6 m6)
  have b4 : doB f w m (nI h) (nI x) (49 + 14 * m + 4) = f (49 + 14 * m + 4) + nI h := (doB_A (by omega) (by omega)).trans (doA_all w6 m6)
  have f7 : doB f w m (nI h) (nI x) 7 = f 7 + 1 := doB_7 w6 m6
  have gf := fun i k (hi : i < 6) (hk : k < 6) (hn : i ≠ w ∨ (k ≠ 0 ∧ k ≠ 4 ∧ k ≠ 2)) => doB_f (f := f) (w := w) (m := m) (h := nI h) (ch := nI x) (i := i) (k := k) w6 m6 hi hk hn
  have gm := fun i k (hi : i < 6) (hk : k < 14) (hn : i ≠ m ∨ (k ≠ 6 ∧ k ≠ 3 ∧ k ≠ 4 ∧ k ≠ 8 + w ∧ k ≠ 2)) => doB_m (f := f) (w := w) (m := m) (h := nI h) (ch := nI x) (i := i) (k := k) w6 m6 hi hk hn
  generalize doB f w m (nI h) (nI x) = f1 at *
  obtain ⟨b, e, t, d, x1, x2, x3, x4, x5, x6, x7⟩ := hv
  have e12 : f1 12 = f 12 := l _ (by omega) (by omega)
  have e6 : sn f1 = sn f := sn_c (l _ (by omega) (by omega))
  have em : mn f1 = mn f := mn_c e12
  have s0 : SF f1 0 = SF f 0 + -(nI x) := SF_add w6 (fun i hi hn => gf i 0 hi (by decide) (Or.inl hn)) (by rw [a0, Int32.sub_eq_add_neg])
  have s4 : SF f1 4 = SF f 4 + nI x := SF_add w6 (fun i hi hn => gf i 4 hi (by decide) (Or.inl hn)) a4
  have s2 : SF f1 2 = SF f 2 + nI h := SF_add w6 (fun i hi hn => gf i 2 hi (by decide) (Or.inl hn)) a2
  have s5 : SF f1 5 = SF f 5 := SF_same (fun i hi => gf i 5 hi (by decide) (Or.inr ⟨by decide, by decide, by decide⟩))
  have m4 : SM f1 4 = SM f 4 + nI h := SM_add e12 hm (fun i hi hn => gm i 4 (by omega) (by decide) (Or.inl hn)) b4
  have m7 : SM f1 7 = SM f 7 := SM_same e12 (fun i hi => gm i 7 (by omega) (by decide) (Or.inr ⟨by decide, by decide, by decide, by omega, by decide⟩))
  have y1 : H1 f1 := by
    unfold H1
    rw [s0, s4, s2, s5, m4, l 11 (by omega) (by omega), l 10 (by omega) (by omega), l 9 (by omega) (by omega), l 4 (by omega) (by omega)]
    refine ⟨?_, x1.2.1, by rw [x1.2.2]⟩
    rw [x1.1, ← Int32.sub_eq_add_neg]
    exact i_sub3 _ _ _ _
  have y2 : H2 c t d f1 := by
    unfold H2
    rw [s5, m7, l 9 (by omega) (by omega)]
    exact x2
  have y3 : f1 5 = nI b ∧ f1 7 = nI (e + 1) ∧ (e + 1) + sn f1 ≤ b + 1 ∧ b ≤ c := by
    obtain ⟨q1, q2, q3, q4⟩ := x3
    rw [e6, f7, q2, l 5 (by omega) (by omega)]
    exact ⟨q1, nI_add _ 1, by omega, q4⟩
  have y4 : H4 (e + 1) f1 := by
    intro i hi
    rw [em] at hi
    obtain ⟨a1, a, z, a2, a3, a4, a5⟩ := x4 i hi
    have k0 : ∀ i, i < mn f → f1 (49 + 14 * i + 0) = f (49 + 14 * i + 0) := fun i hi => gm i 0 (by omega) (by decide) (Or.inr ⟨by decide, by decide, by decide, by omega, by decide⟩)
    rw [gm i 5 (by omega) (by decide) (Or.inr ⟨by decide, by decide, by decide, by omega, by decide⟩), k0 i hi, kc_congr (f := f) (fun j hj => k0 j (by omega))]
    refine ⟨a1, ?_⟩
    by_cases ei : i = m
    · subst ei
      rw [b3, b4, a2, a3]
      exact ⟨a + h, z + h, nI_add _ _, nI_add _ _, by omega, by omega⟩
    · rw [gm i 3 (by omega) (by decide) (Or.inl ei), gm i 4 (by omega) (by decide) (Or.inl ei)]
      exact ⟨a, z, a2, a3, a4, by omega⟩
  have y5 : H5 b f1 := H5_c x5 (l _ (by omega) (by omega)) (fun p hp k _ _ => l _ (by omega) (by omega))
  have y6 : H6 c (e + 1) t f1 := by
    intro i hi
    have hb := x3.2.2
    have ht := x2.2.2
    obtain ⟨⟨a1, a2⟩, a3⟩ := x6 i hi
    refine ⟨?_, by rw [gf i 1 hi (by decide) (Or.inr ⟨by decide, by decide, by decide⟩)]; exact a3⟩
    by_cases hia : i = w
    · subst hia
      rw [a0, ti_sub (by omega) (by omega) (by omega)]
      constructor <;> omega
    · rw [gf i 0 hi (by decide) (Or.inl hia)]
      constructor <;> omega
  have y7 : H7 f1 := by
    unfold H7
    rw [l 1 (by omega) (by omega), l 2 (by omega) (by omega)]
    exact x7
  have y := Hx_drop (p := p) (by omega) (by have := hw.s30; omega) (by omega) y1 y2 y3 y4 y5 y6 y7
  rw [e6] at y
  exact ⟨b, e + 1, t, d, y⟩
theorem Hv_stp {c q p : Nat} {f : FF} (hv : Hv c f) (hw : Wf q p f) (hc : c ≤ 5000) (hp : p < sn f) : Hv c (stp f p).1 := by
  unfold stp
  obtain ⟨-, -, -, ⟨h, k1, k2, k3⟩⟩ := hw.wb hp
  split
  · exact hv
  · rename_i h1
    have h1 := Decidable.not_not.mp h1
    split
    · obtain ⟨g1, g2, g3, -⟩ := po_ok (m := f (133 + 6 * p + 2)) hw hp h1
      show Hv c (puF f p)
      unfold puF
      refine Hv_po hv hw hp k2 k3 ?_
      have ho : ∃ b e t d, Hx c b e t d f := hv
      obtain ⟨b, e, t, d, x1, x2, x3, x4, x5, x6, x7⟩ := ho
      have hs := x5.1 (f (133 + 6 * p + 2)) (f 3 + nI (po f (f (133 + 6 * p + 2)) (f (133 + 6 * p + 4)) 1 30))
      rw [bkO_N hw, k3, nI_add] at g3
      rw [k3] at hs ⊢
      exact i_le (by omega) (by decide) g3
    · obtain ⟨w1, w2⟩ := wO_eq hw hp
      obtain ⟨m1, m2⟩ := mO_eq hw hp
      obtain ⟨-, ⟨r, r1, r2, r3⟩, -⟩ := hw.wm m1
      show Hv c (doF f p)
      unfold doF
      obtain ⟨x, hx, ex⟩ := chg_le (l := f (13 + 6 * wO f p + 1)) (k := f (49 + 14 * mO f p + 0)) (d := f 3) r2 k2
      rw [k3, r3, ex]
      exact Hv_do hv hw hc hp w1 m1 k2 hx
theorem Hv_dayG {c q : Nat} (hc : c ≤ 5000) : ∀ {n p : Nat} {f : FF}, Hv c f → Wf q p f → sn f - p = n → p ≤ sn f → Hv c (dayG n f p)
  | 0, p, f, hv, hf, h1, h2 => hv
  | n + 1, p, f, hv, hf, h1, h2 => by
    obtain ⟨g1, g2, g3⟩ := Wf_stp hf (p := p) (by omega)
    show Hv c (dayG n (stp f p).1 (stp f p).2)
    exact Hv_dayG hc (Hv_stp hv hf hc (by omega)) g1 (by omega) g3
theorem Hv_dayF {c q : Nat} {f : FF} (hv : Hv c f) (h : Wf q 30 f) (hc : c ≤ 5000) (hq : q + 1 ≤ 40000) : Hv c (dayF f) := by
  have e6 : sn (up f 3 (f 3 + 1)) = sn f := by unfold sn; rw [up_ne _ _ (by decide)]
  exact Hv_dayG hc (Hv_day hv) (Wf_day h hq) (by rw [e6]; rfl) (Nat.zero_le _)
theorem Hv_dFn {c q : Nat} {f : FF} (hv : Hv c f) (hw : Wf q 30 f) (hc : c ≤ 5000) : ∀ {n : Nat}, q + n ≤ 40000 → Hv c (dFn f n)
  | 0, _ => hv
  | n + 1, h => Hv_dayF (Hv_dFn hv hw hc (n := n) (by omega)) (Wf_dFn hw (n := n) (by omega)) hc (by omega)
/-! mending -/
def sQ (q : Nat → Nat) : Nat → Nat
  | 0 => 0
  | n + 1 => sQ q n + q n
theorem sm_nI {g : FF} {q : Nat → Nat} : ∀ {n : Nat}, (∀ j, j < n → g j = nI (q j)) → sm g n = nI (sQ q n)
  | 0, _ => nI_0.symm
  | n + 1, h => by
    show sm g n + g n = nI (sQ q n + q n)
    rw [sm_nI (fun j hj => h j (by omega)), h n (Nat.lt_succ_self n), nI_add]
theorem i_4 (a b c d : Int32) : a - b + (c - d) = a + c - (b + d) := by
  simp only [Int32.sub_eq_add_neg, Int32.neg_add]
  ac_rfl
theorem i_4b (a b c d : Int32) : a + b + (c + d) = a + c + (b + d) := by
  ac_rfl
theorem sm_minus {g g1 s : FF} : ∀ {n : Nat}, (∀ j, j < n → g1 j = g j - s j) → sm g1 n = sm g n - sm s n
  | 0, _ => by
    show (0 : Int32) = 0 - 0
    decide
  | n + 1, h => by
    show sm g1 n + g1 n = sm g n + g n - (sm s n + s n)
    rw [sm_minus (fun j hj => h j (by omega)), h n (Nat.lt_succ_self n), i_4]
theorem sm_plus {g g1 s : FF} : ∀ {n : Nat}, (∀ j, j < n → g1 j = g j + s j) → sm g1 n = sm g n + sm s n
  | 0, _ => rfl
  | n + 1, h => by
    show sm g1 n + g1 n = sm g n + g n + (sm s n + s n)
    rw [sm_plus (fun j hj => h j (by omega)), h n (Nat.lt_succ_self n), i_4b]
theorem mdL_sm {f : FF} {m : Nat} : ∀ {n : Nat}, mdL f m n = f 1 - sm (shI f m) n
  | 0 => (Int32.sub_zero _).symm
  | n + 1 => by
    show mdL f m n - shI f m n = f 1 - (sm (shI f m) n + shI f m n)
    rw [mdL_sm (n := n)]
    simp only [Int32.sub_eq_add_neg, Int32.neg_add]
    ac_rfl
/-- the parts of a price: together at most it, and less by 5 at most -/
theorem parts_le {p H : Nat} {h : Nat → Nat} (h0 : 0 < H) (hs : h 0 + h 1 + h 2 + h 3 + h 4 + h 5 = H) : sQ (fun i => p * h i / H) 6 ≤ p ∧ p ≤ sQ (fun i => p * h i / H) 6 + 5 := by
  have d := fun i => Nat.div_add_mod (p * h i) H
  have r := fun i => Nat.mod_lt (p * h i) h0
  have e : p * h 0 + p * h 1 + p * h 2 + p * h 3 + p * h 4 + p * h 5 = p * H := by rw [← hs]; simp only [Nat.mul_add]
  show 0 + p * h 0 / H + p * h 1 / H + p * h 2 / H + p * h 3 / H + p * h 4 / H + p * h 5 / H ≤ p ∧ p ≤ 0 + p * h 0 / H + p * h 1 / H + p * h 2 / H + p * h 3 / H + p * h 4 / H + p * h 5 / H + 5
  have d0 := d 0
  have d1 := d 1
  have d2 := d 2
  have d3 := d 3
  have d4 := d 4
  have d5 := d 5
  have r0 := r 0
  have r1 := r 1
  have r2 := r 2
  have r3 := r 3
  have r4 := r 4
  have r5 := r 5
  generalize p * h 0 / H = q0 at *
  generalize p * h 1 / H = q1 at *
  generalize p * h 2 / H = q2 at *
  generalize p * h 3 / H = q3 at *
  generalize p * h 4 / H = q4 at *
  generalize p * h 5 / H = q5 at *
  have eQ : H * (q0 + q1 + q2 + q3 + q4 + q5) = H * q0 + H * q1 + H * q2 + H * q3 + H * q4 + H * q5 := by simp only [Nat.mul_add]
  generalize hQ : q0 + q1 + q2 + q3 + q4 + q5 = Q at eQ
  have ec : p * H = H * p := Nat.mul_comm _ _
  constructor
  · rcases Nat.lt_or_ge p Q with z | z
    · have := Nat.mul_le_mul (Nat.le_refl H) (show p + 1 ≤ Q from z)
      rw [Nat.mul_add, Nat.mul_one] at this
      omega
    · omega
  · rcases Nat.lt_or_ge (Q + 5) p with z | z
    · have := Nat.mul_le_mul (Nat.le_refl H) (show Q + 6 ≤ p from z)
      rw [Nat.mul_add] at this
      omega
    · omega
theorem sh_nI {f : FF} {m p H : Nat} {h : Nat → Nat} (hp : p ≤ 9999) (e1 : f 1 = nI p) (eh : ∀ j, j < 6 → ow f m j = nI (h j)) (e3 : f (49 + 14 * m + 3) = nI H) (h0 : 0 < H) (h2 : H ≤ 211) (hle : ∀ j, j < 6 → h j ≤ 211) {j : Nat} (hj : j < 6) : shI f m j = nI (p * h j / H) := by
  have eo : f (49 + 14 * m + (8 + j)) = nI (h j) := eh j hj
  have hm : p * h j ≤ 9999 * 211 := Nat.mul_le_mul hp (hle j hj)
  unfold shI
  rw [e1, eo, e3, pk_mul, pk_div (by omega) h0 (by omega)]
/-- what a mending makes of the price p: the parts q, together Q -/
theorem mend_parts {c q m : Nat} {f : FF} (hv : Hv c f) (hw : Wf c q f) (hm : m < mn f) (hb : f (49 + 14 * m + 2) ≠ 0) : ∃ (p : Nat) (g : Nat → Nat), p ≤ 9999 ∧ f 1 = nI p ∧ (∀ j, j < 6 → shI f m j = nI (g j) ∧ g j ≤ p) ∧ sm (shI f m) 6 = nI (sQ g 6) ∧ sQ g 6 ≤ p ∧ p ≤ sQ g 6 + 5 := by
  obtain ⟨p, hp, e1⟩ := hv.p1
  obtain ⟨-, -, h2, -, ⟨h, k1, k2, k3, k4, k5⟩⟩ := hw.wm hm
  have k5 := k5 (h2.resolve_left hb)
  have hs := fun j (hj : j < 6) => sh_nI (m := m) (H := h 0 + h 1 + h 2 + h 3 + h 4 + h 5) hp e1 k1 k2 (by omega) k3 (fun j hj => by
    rcases (show j = 0 ∨ j = 1 ∨ j = 2 ∨ j = 3 ∨ j = 4 ∨ j = 5 by omega) with rfl | rfl | rfl | rfl | rfl | rfl <;> omega) hj
  obtain ⟨r1, r2⟩ := parts_le (p := p) (h := h) (H := h 0 + h 1 + h 2 + h 3 + h 4 + h 5) (by omega) rfl
  refine ⟨p, fun j => p * h j / (h 0 + h 1 + h 2 + h 3 + h 4 + h 5), hp, e1, fun j hj => ⟨hs j hj, ?_⟩, sm_nI hs, r1, r2⟩
  have hj2 : h j ≤ h 0 + h 1 + h 2 + h 3 + h 4 + h 5 := by
    rcases (show j = 0 ∨ j = 1 ∨ j = 2 ∨ j = 3 ∨ j = 4 ∨ j = 5 by omega) with rfl | rfl | rfl | rfl | rfl | rfl <;> omega
  exact Nat.div_le_of_le_mul (by rw [Nat.mul_comm]; exact Nat.mul_le_mul hj2 (Nat.le_refl p))
theorem mdL_nI {c q m : Nat} {f : FF} (hv : Hv c f) (hw : Wf c q f) (hm : m < mn f) (hb : f (49 + 14 * m + 2) ≠ 0) : ∃ r, r ≤ 5 ∧ mdL f m 6 = nI r := by
  obtain ⟨p, g, h1, h2, h3, h4, h5, h6⟩ := mend_parts hv hw hm hb
  refine ⟨p - sQ g 6, by omega, ?_⟩
  rw [mdL_sm, h4, h2, nI_sub h5]
theorem i_5 (a b p s : Int32) : a + p - (b + s) = a - b + (p - s) := by
  simp only [Int32.sub_eq_add_neg, Int32.neg_add]
  ac_rfl
theorem Hv_mend {c q m : Nat} {f : FF} (hv : Hv c f) (hw : Wf c q f) (hc : c ≤ 5000) (hm : m < mn f) (hb : f (49 + 14 * m + 2) ≠ 0) : Hv (c + 60) (mendF f m) := by
  obtain ⟨p, g, h1, h2, h3, h4, h5, h6⟩ := mend_parts hv hw hm hb
  have m6 := hw.m6
  have l : ∀ j, j < 13 → j ≠ 4 → j ≠ 9 → mendF f m j = f j := fun j hj h4 h9 => mendF_ne h4 h9 (by omega) (by omega)
  have e12 : mendF f m 12 = f 12 := l _ (by omega) (by omega) (by omega)
  have k0 := fun i (hi : i < 6) => (mendF_f (f := f) (m := m) (i := i) (k := 0) hi (by decide)).trans (mdA_0 hi)
  have k5 := fun i (hi : i < 6) => (mendF_f (f := f) (m := m) (i := i) (k := 5) hi (by decide)).trans (mdA_5 hi)
  have kk := fun i k (hi : i < 6) (hk : k < 6) (n0 : k ≠ 0) (n5 : k ≠ 5) => (mendF_f (f := f) (m := m) (i := i) (k := k) hi hk).trans (mdA_k hk n0 n5)
  have gm := fun i k (hi : i ≠ m) (hi6 : i < 6) (hk : k < 14) => mendF_ne (f := f) (m := m) (j := 49 + 14 * i + k) (by omega) (by omega) (by omega) (by omega)
  have g0 := fun k (h8 : k < 8) (n2 : k ≠ 2) (n3 : k ≠ 3) (n7 : k ≠ 7) => mendF_m (f := f) (m := m) (k := k) h8 n2 n3 n7
  have g3 := mendF_3 (f := f) (m := m)
  have g7 := mendF_7 (f := f) (m := m)
  have f4 := mendF_4 (f := f) (m := m)
  have f9 := mendF_9 (f := f) (m := m)
  have hi133 := fun j (hj : 133 ≤ j) => mendF_ne (f := f) (m := m) (j := j) (by omega) (by omega) (by omega) (by omega)
  generalize mendF f m = f1 at *
  obtain ⟨b, e, t, d, x1, x2, x3, x4, x5, x6, x7⟩ := hv
  have s0 : SF f1 0 = SF f 0 - sm (shI f m) 6 := sm_minus k0
  have s5 : SF f1 5 = SF f 5 + sm (shI f m) 6 := sm_plus k5
  have s2 : SF f1 2 = SF f 2 := SF_same (fun i hi => kk i 2 hi (by decide) (by decide) (by decide))
  have s4 : SF f1 4 = SF f 4 := SF_same (fun i hi => kk i 4 hi (by decide) (by decide) (by decide))
  have em := fun i k (hi : i < mn f) (hk : k < 8) (n2 : k ≠ 2) (n3 : k ≠ 3) (n7 : k ≠ 7) => (show f1 (49 + 14 * i + k) = f (49 + 14 * i + k) from by
    by_cases ei : i = m
    · subst ei; exact g0 k hk n2 n3 n7
    · exact gm i k ei (by omega) (by omega))
  have m4 : SM f1 4 = SM f 4 := SM_same e12 (fun i hi => em i 4 hi (by decide) (by decide) (by decide) (by decide))
  have m7 : SM f1 7 = SM f 7 + 1 := SM_add e12 hm (fun i hi hn => gm i 7 hn (by omega) (by decide)) g7
  have e6 : f1 6 = f 6 := l _ (by omega) (by omega) (by omega)
  refine ⟨b, e, t + 1, d + (p - sQ g 6), ?_, ?_, ?_, ?_, ?_, ?_, ?_⟩
  · unfold H1
    rw [s0, s4, s2, s5, m4, l 11 (by omega) (by omega) (by omega), l 10 (by omega) (by omega) (by omega), f4, f9]
    refine ⟨?_, ?_, x1.2.2⟩
    · rw [x1.1]
      exact i_sub5 _ _ _ _
    · rw [x1.2.1]
      exact i_sub5 _ _ _ _
  · obtain ⟨q1, q2, q3, q4⟩ := x2
    unfold H2
    rw [f9, s5, m7, q2, i_5, q1, h4, h2, nI_sub h5, nI_add]
    exact ⟨rfl, nI_add _ 1, by omega, by omega⟩
  · unfold H3
    rw [sn_c e6, l 5 (by omega) (by omega) (by omega), l 7 (by omega) (by omega) (by omega)]
    exact ⟨x3.1, x3.2.1, x3.2.2.1, by have := x3.2.2.2; omega⟩
  · intro i hi
    rw [mn_c e12] at hi
    obtain ⟨a1, a, z, a2, a3, a4, a5⟩ := x4 i hi
    rw [em i 5 hi (by decide) (by decide) (by decide) (by decide), em i 0 hi (by decide) (by decide) (by decide) (by decide), em i 4 hi (by decide) (by decide) (by decide) (by decide), kc_congr (f := f) (fun j hj => em j 0 (by omega) (by decide) (by decide) (by decide) (by decide))]
    refine ⟨a1, ?_⟩
    by_cases ei : i = m
    · subst ei
      rw [g3]
      exact ⟨0, z, nI_0.symm, a3, Nat.zero_le _, a5⟩
    · rw [gm i 3 ei (by omega) (by decide)]
      exact ⟨a, z, a2, a3, a4, a5⟩
  · exact H5_c x5 e6 (fun p hp k _ _ => hi133 _ (by omega))
  · intro i hi
    have hb := x3.2.2
    have ht := x2.2.2
    obtain ⟨⟨a1, a2⟩, a3⟩ := x6 i hi
    obtain ⟨y1, y2⟩ := h3 i hi
    refine ⟨?_, by rw [kk i 1 hi (by decide) (by decide) (by decide)]; exact a3⟩
    rw [k0 i hi, y1, ti_sub (by omega) (by omega) (by omega)]
    constructor <;> omega
  · unfold H7
    rw [l 1 (by omega) (by omega) (by omega), l 2 (by omega) (by omega) (by omega)]
    exact x7
theorem Hv_f0 : Hv 0 f0 := by
  have e6 : f0 6 = 0 := f0_z (by decide) (Or.inl (by decide))
  have e12 : f0 12 = 0 := f0_z (by decide) (Or.inl (by decide))
  have s0 : sn f0 = 0 := sn_eq e6 (by decide)
  have m0 : mn f0 = 0 := by unfold mn; rw [e12]; rfl
  refine ⟨0, 0, 0, 0, ⟨by decide +kernel, by decide +kernel, by decide +kernel⟩, ⟨by decide +kernel, by decide +kernel, Nat.le_refl _, Nat.le_refl _⟩, ⟨by decide +kernel, by decide +kernel, by omega, Nat.le_refl _⟩, fun m hm => ?_, ⟨fun m d => ?_, fun p => p, fun p hp => ?_, fun p q _ hq => ?_⟩, fun i hi => ?_, ⟨300, by decide, by decide +kernel⟩, ⟨0, by decide, by decide +kernel⟩⟩
  · rw [m0] at hm; exact absurd hm (Nat.not_lt_zero _)
  · rw [s0]; exact Nat.zero_le _
  · rw [s0] at hp; exact absurd hp (Nat.not_lt_zero _)
  · rw [s0] at hq; exact absurd hq (Nat.not_lt_zero _)
  · rcases (show i = 0 ∨ i = 1 ∨ i = 2 ∨ i = 3 ∨ i = 4 ∨ i = 5 by omega) with rfl | rfl | rfl | rfl | rfl | rfl <;> exact ⟨⟨by decide +kernel, by decide +kernel⟩, 1, by decide, by decide +kernel⟩
