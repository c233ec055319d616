/-! the day to which a booking is put off is found within 30 -/
theorem po_spec {f : FF} {m h : Int32} : ∀ {n i : Nat}, (∃ k, i ≤ k ∧ k < i + n ∧ bkO f m (f 3 + nI k) + h ≤ 12) → i ≤ po f m h i n ∧ po f m h i n < i + n ∧ bkO f m (f 3 + nI (po f m h i n)) + h ≤ 12 ∧ ∀ j, i ≤ j → j < po f m h i n → ¬ bkO f m (f 3 + nI j) + h ≤ 12
  | 0, i, ⟨k, h1, h2, _⟩ => by omega
  | n + 1, i, ⟨k, h1, h2, h3⟩ => by
    by_cases hc : bkO f m (f 3 + nI i) + h ≤ 12
    · have e : po f m h i (n + 1) = i := by simp only [po]; rw [if_pos hc]
      rw [e]
      exact ⟨Nat.le_refl _, by omega, hc, fun j h4 h5 => by omega⟩
    · have e : po f m h i (n + 1) = po f m h (i + 1) n := by simp only [po]; rw [if_neg hc]
      rw [e]
      have hk : k ≠ i := fun z => hc (z ▸ h3)
      obtain ⟨g1, g2, g3, g4⟩ := po_spec (n := n) (i := i + 1) ⟨k, by omega, by omega, h3⟩
      refine ⟨by omega, by omega, g3, fun j h4 h5 => ?_⟩
      by_cases ej : j = i
      · rw [ej]; exact hc
      · exact g4 j (by omega) h5
def cd (f : FF) (m d : Int32) : Nat → Nat
  | 0 => 0
  | n + 1 => cd f m d n + (if f (133 + 6 * n + 2) = m ∧ f (133 + 6 * n + 3) = d then 1 else 0)
/-- the sum of g 1 .. g k -/
def ss (g : Nat → Nat) : Nat → Nat
  | 0 => 0
  | k + 1 => ss g k + g (k + 1)
theorem ss_add {a b : Nat → Nat} : ∀ {k : Nat}, ss (fun i => a i + b i) k = ss a k + ss b k
  | 0 => rfl
  | k + 1 => by
    simp only [ss]
    rw [ss_add]
    omega
theorem ss_0 : ∀ {k : Nat}, ss (fun _ => 0) k = 0
  | 0 => rfl
  | k + 1 => by simp only [ss]; rw [ss_0]
theorem ss_congr {a b : Nat → Nat} : ∀ {k : Nat}, (∀ i, 1 ≤ i → i ≤ k → a i = b i) → ss a k = ss b k
  | 0, _ => rfl
  | k + 1, h => by
    simp only [ss]
    rw [ss_congr (fun i h1 h2 => h i h1 (by omega)), h (k + 1) (by omega) (Nat.le_refl _)]
theorem ss_ge {a : Nat → Nat} : ∀ {k : Nat}, (∀ i, 1 ≤ i → i ≤ k → 1 ≤ a i) → k ≤ ss a k
  | 0, _ => Nat.le_refl _
  | k + 1, h => by
    simp only [ss]
    have h1 := ss_ge (a := a) (k := k) (fun i g1 g2 => h i g1 (by omega))
    have h2 := h (k + 1) (by omega) (Nat.le_refl _)
    omega
theorem ss_one {c : Prop} [Decidable c] {x D : Nat} : ∀ {k : Nat}, ss (fun i => if c ∧ x = D + i then 1 else 0) k ≤ (if D < x ∧ x ≤ D + k then 1 else 0)
  | 0 => by simp [ss]
  | k + 1 => by
    simp only [ss]
    have h1 := ss_one (c := c) (x := x) (D := D) (k := k)
    by_cases e : x = D + (k + 1)
    · rw [if_neg (show ¬ (D < x ∧ x ≤ D + k) by omega)] at h1
      rw [if_pos (show D < x ∧ x ≤ D + (k + 1) by omega)]
      split <;> omega
    · rw [if_neg (show ¬ (c ∧ x = D + (k + 1)) from fun z => e z.2)]
      by_cases e2 : D < x ∧ x ≤ D + k
      · rw [if_pos e2] at h1
        rw [if_pos (show D < x ∧ x ≤ D + (k + 1) by omega)]
        omega
      · rw [if_neg e2] at h1
        omega
theorem cd_0 {f : FF} {m d : Int32} : ∀ {n : Nat}, cd f m d n = 0 → bk f m d n = 0
  | 0, _ => rfl
  | n + 1, h => by
    simp only [cd] at h
    simp only [bk]
    by_cases e : f (133 + 6 * n + 2) = m ∧ f (133 + 6 * n + 3) = d
    · rw [if_pos e] at h; omega
    · rw [if_neg e, cd_0 (by omega)]; rfl
theorem cd_sum {c q : Nat} {f : FF} {m : Int32} {p : Nat} (hw : Wf c q f) (hnow : f (133 + 6 * p + 3) = f 3) : ∀ {n : Nat}, n ≤ sn f → ss (fun i => cd f m (f 3 + nI i) n) 30 + (if p < n then 1 else 0) ≤ n
  | 0, _ => by
    rw [show ss (fun i => cd f m (f 3 + nI i) 0) 30 = ss (fun _ => 0) 30 from rfl, ss_0]
    simp
  | n + 1, hn => by
    have h1 := cd_sum (m := m) (p := p) hw hnow (n := n) (by omega)
    obtain ⟨-, -, ⟨d, hd1, -, hd3, ed⟩, -⟩ := hw.wb (p := n) (by omega)
    have h4 := hw.d4
    have e : ss (fun i => cd f m (f 3 + nI i) (n + 1)) 30 = ss (fun i => cd f m (f 3 + nI i) n) 30 + ss (fun i => if f (133 + 6 * n + 2) = m ∧ d = dn f + i then 1 else 0) 30 := by
      rw [← ss_add]
      refine ss_congr fun i g1 g2 => ?_
      show cd f m (f 3 + nI i) n + (if f (133 + 6 * n + 2) = m ∧ f (133 + 6 * n + 3) = f 3 + nI i then 1 else 0) = _
      congr 1
      have : (f (133 + 6 * n + 3) = f 3 + nI i) ↔ d = dn f + i := by
        rw [ed, hw.d, nI_add, nI_eq (by omega) (by omega)]
      by_cases e2 : d = dn f + i
      · simp only [this, e2]
      · simp only [this, e2]
    have h2 := ss_one (c := f (133 + 6 * n + 2) = m) (x := d) (D := dn f) (k := 30)
    rw [e]
    by_cases ep : p = n
    · subst ep
      have : d = dn f := by
        rw [ed, hw.d] at hnow
        exact nI_inj (by omega) (by omega) hnow
      rw [if_neg (show ¬ (dn f < d ∧ d ≤ dn f + 30) by omega)] at h2
      rw [if_neg (Nat.lt_irrefl p)] at h1
      rw [if_pos (Nat.lt_succ_self p)]
      omega
    · have h3 : (if dn f < d ∧ d ≤ dn f + 30 then 1 else 0) ≤ 1 := by split <;> omega
      by_cases e3 : p < n
      · rw [if_pos e3] at h1
        rw [if_pos (by omega)]
        omega
      · rw [if_neg e3] at h1
        rw [if_neg (by omega)]
        omega
theorem po_ex {c q : Nat} {f : FF} {m : Int32} {p : Nat} (hw : Wf c q f) (hp : p < sn f) (hnow : f (133 + 6 * p + 3) = f 3) : ∃ k, 1 ≤ k ∧ k < 1 + 30 ∧ bkO f m (f 3 + nI k) + f (133 + 6 * p + 4) ≤ 12 := by
  have h30 := hw.s30
  have h1 := cd_sum (m := m) (p := p) hw hnow (Nat.le_refl (sn f))
  rw [if_pos hp] at h1
  obtain ⟨-, -, -, ⟨h, hh1, hh2, eh⟩⟩ := hw.wb hp
  have h2 : ∃ i, 1 ≤ i ∧ i ≤ 30 ∧ cd f m (f 3 + nI i) (sn f) = 0 := by
    refine Classical.byContradiction fun z => ?_
    have := ss_ge (a := fun i => cd f m (f 3 + nI i) (sn f)) (k := 30) (fun i g1 g2 => by
      rcases Nat.eq_zero_or_pos (cd f m (f 3 + nI i) (sn f)) with g3 | g3
      · exact absurd ⟨i, g1, g2, g3⟩ z
      · exact g3)
    omega
  obtain ⟨i, g1, g2, g3⟩ := h2
  refine ⟨i, g1, by omega, ?_⟩
  rw [show bkO f m (f 3 + nI i) = 0 from cd_0 g3, eh, show (0 : Int32) = nI 0 from rfl, nI_add, Nat.zero_add]
  exact nI_le (b := 12) hh2 (by decide)
theorem po_ok {c q : Nat} {f : FF} {m : Int32} {p : Nat} (hw : Wf c q f) (hp : p < sn f) (hnow : f (133 + 6 * p + 3) = f 3) : 1 ≤ po f m (f (133 + 6 * p + 4)) 1 30 ∧ po f m (f (133 + 6 * p + 4)) 1 30 ≤ 30 ∧ bkO f m (f 3 + nI (po f m (f (133 + 6 * p + 4)) 1 30)) + f (133 + 6 * p + 4) ≤ 12 ∧ ∀ j, 1 ≤ j → j < po f m (f (133 + 6 * p + 4)) 1 30 → ¬ bkO f m (f 3 + nI j) + f (133 + 6 * p + 4) ≤ 12 := by
  obtain ⟨h1, h2, h3, h4⟩ := po_spec (po_ex (m := m) hw hp hnow)
  exact ⟨h1, by omega, h3, h4⟩
/-! what holds of an abstract state stays -/
theorem kc_congr {f f1 : FF} {k : Int32} : ∀ {n : Nat}, (∀ i, i < n → f1 (49 + 14 * i + 0) = f (49 + 14 * i + 0)) → kc f1 k n = kc f k n
  | 0, _ => rfl
  | n + 1, h => by
    simp only [kc]
    rw [kc_congr (fun i hi => h i (by omega)), h n (Nat.lt_succ_self n)]
theorem Wm_congr {f f1 : FF} {i : Nat} (h : Wm f i) (hj : ∀ k, k < 14 → f1 (49 + 14 * i + k) = f (49 + 14 * i + k)) : Wm f1 i := by
  unfold Wm ow at h ⊢
  rw [hj 0 (by decide), hj 1 (by decide), hj 2 (by decide), hj 6 (by decide), hj 3 (by decide)]
  refine ⟨h.1, h.2.1, h.2.2.1, h.2.2.2.1, ?_⟩
  obtain ⟨g, g1, g2⟩ := h.2.2.2.2
  exact ⟨g, fun j hj2 => by rw [hj (8 + j) (by omega)]; exact g1 j hj2, g2⟩
theorem Wb_congr {f f1 : FF} {q q1 p p1 : Nat} (h : Wb f q p) (h12 : f1 12 = f 12) (h3 : f1 3 = f 3) (hj : ∀ k, 1 ≤ k → k < 5 → f1 (133 + 6 * p1 + k) = f (133 + 6 * p + k)) (hq : p1 < q1 → p < q) : Wb f1 q1 p1 := by
  have e1 : mn f1 = mn f := by unfold mn; rw [h12]
  have e2 : dn f1 = dn f := by unfold dn; rw [h3]
  unfold Wb at h ⊢
  rw [hj 1 (by decide) (by decide), hj 2 (by decide) (by decide), hj 3 (by decide) (by decide), hj 4 (by decide) (by decide), e1, e2]
  obtain ⟨a, b, ⟨d, d1, d2, d3, d4⟩, e⟩ := h
  exact ⟨a, b, ⟨d, d1, fun z => d2 (hq z), d3, d4⟩, e⟩
theorem Wf_end {c q : Nat} {f : FF} (h : Wf c q f) (hq : sn f ≤ q) : Wf c 30 f := by
  obtain ⟨a1, a2, a3, a4, a5, a6, a7, a8⟩ := h
  exact ⟨a1, a2, a3, a4, a5, a6, fun p hp => Wb_congr (a7 p hp) rfl rfl (fun _ _ _ => rfl) (fun _ => by omega), a8⟩
theorem Wf_skip {c p : Nat} {f : FF} (h : Wf c p f) (hp : p < sn f) (hn : f (133 + 6 * p + 3) ≠ f 3) : Wf c (p + 1) f := by
  have hd := h.d
  obtain ⟨a1, a2, a3, a4, a5, a6, a7, a8⟩ := h
  refine ⟨a1, a2, a3, a4, a5, a6, fun p1 hp1 => ?_, a8⟩
  by_cases e : p1 = p
  · subst e
    obtain ⟨b1, b2, ⟨d, d1, d2, d3, d4⟩, b4⟩ := a7 p1 hp1
    refine ⟨b1, b2, ⟨d, d1, fun _ => ?_, d3, d4⟩, b4⟩
    rcases Nat.lt_or_ge (dn f) d with z | z
    · exact z
    · exact absurd (by rw [d4, hd, show d = dn f by omega]) hn
  · exact Wb_congr (a7 p1 hp1) rfl rfl (fun _ _ _ => rfl) (fun _ => by omega)
theorem Wf_po {c p i : Nat} {f : FF} (h : Wf c p f) (hp : p < sn f) (h1 : 1 ≤ i) (h2 : i ≤ 30) : Wf c (p + 1) (poF f p i) := by
  have hd := h.d
  have h4 := h.d4
  have h30 := h.s30
  have e : ∀ j, j ≠ 8 → j < 133 → poF f p i j = f j := fun j h8 hj => poF_ne h8 (by omega) (by omega)
  have e6 : sn (poF f p i) = sn f := by unfold sn; rw [e 6 (by decide) (by decide)]
  have e12 : mn (poF f p i) = mn f := by unfold mn; rw [e 12 (by decide) (by decide)]
  have e3 : dn (poF f p i) = dn f := by unfold dn; rw [e 3 (by decide) (by decide)]
  obtain ⟨a1, a2, a3, a4, a5, a6, a7, a8⟩ := h
  have hm6 := a2.2
  unfold Wf
  rw [e6, e12, e3, e 6 (by decide) (by decide), e 12 (by decide) (by decide), e 3 (by decide) (by decide), e 0 (by decide) (by decide)]
  refine ⟨a1, a2, a3, a4, fun j hj => Wm_congr (a5 j hj) (fun k hk => e _ (by omega) (by omega)), fun j g1 g2 k hk => by rw [e _ (by omega) (by omega)]; exact a6 j g1 g2 k hk, fun p1 hp1 => ?_, fun k hk => by rw [kc_congr (fun j hj => e _ (by omega) (by omega))]; exact a8 k hk⟩
  by_cases ep : p1 = p
  · subst ep
    obtain ⟨b1, b2, -, b4⟩ := a7 p1 hp1
    unfold Wb
    rw [e12, e3, poF_ne (j := 133 + 6 * p1 + 1) (by omega) (by omega) (by omega), poF_ne (j := 133 + 6 * p1 + 2) (by omega) (by omega) (by omega), poF_ne (j := 133 + 6 * p1 + 4) (by omega) (by omega) (by omega), poF_3]
    exact ⟨b1, b2, ⟨dn f + i, by omega, fun _ => by omega, by omega, by rw [hd, nI_add]⟩, b4⟩
  · exact Wb_congr (a7 p1 hp1) (e 12 (by decide) (by decide)) (e 3 (by decide) (by decide)) (fun k k1 k2 => poF_ne (by omega) (by omega) (by omega)) (fun _ => by omega)
theorem Wf_day {c : Nat} {f : FF} (h : Wf c 30 f) (hc : c + 1 ≤ 40000) : Wf (c + 1) 0 (up f 3 (f 3 + 1)) := by
  have hd := h.d
  have h4 := h.d4
  have e : ∀ j, j ≠ 3 → up f 3 (f 3 + 1) j = f j := fun j hj => up_ne _ _ hj
  have e3 : up f 3 (f 3 + 1) 3 = nI (dn f + 1) := by rw [up_same, hd]; exact nI_1 _
  have d3 : dn (up f 3 (f 3 + 1)) = dn f + 1 := dn_eq e3 (by omega)
  have e6 : sn (up f 3 (f 3 + 1)) = sn f := by unfold sn; rw [e 6 (by decide)]
  have e12 : mn (up f 3 (f 3 + 1)) = mn f := by unfold mn; rw [e 12 (by decide)]
  obtain ⟨a1, a2, a3, a4, a5, a6, a7, a8⟩ := h
  have h30 := a1.2
  unfold Wf
  rw [e6, e12, d3, e 6 (by decide), e 12 (by decide), e3, e 0 (by decide)]
  refine ⟨a1, a2, ⟨rfl, by omega, hc⟩, a4, fun j hj => Wm_congr (a5 j hj) (fun k hk => e _ (by omega)), fun j g1 g2 k hk => by rw [e _ (by omega)]; exact a6 j g1 g2 k hk, fun p1 hp1 => ?_, fun k hk => by rw [kc_congr (fun j hj => e _ (by omega))]; exact a8 k hk⟩
  obtain ⟨b1, b2, ⟨d, d1, d2, d3', d4⟩, b4⟩ := a7 p1 hp1
  unfold Wb
  rw [e12, d3, e _ (by omega), e _ (by omega), e _ (by omega), e _ (by omega)]
  have := d2 (by omega)
  exact ⟨b1, b2, ⟨d, by omega, fun z => absurd z (Nat.not_lt_zero _), by omega, d4⟩, b4⟩
