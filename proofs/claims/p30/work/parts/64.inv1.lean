/-! what holds of every state: the sums of the law -/
def SF (f : FF) (k : Nat) : Int32 := sm (fun i => f (13 + 6 * i + k)) 6
def SM (f : FF) (k : Nat) : Int32 := sm (fun m => f (49 + 14 * m + k)) (mn f)
theorem sm_same {g g1 : FF} {n : Nat} (h : ∀ j, j < n → g1 j = g j) : sm g1 n = sm g n := (sm_congr (fun j hj => (h j hj).symm)).symm
theorem sm_add {g g1 : FF} {w : Nat} {y : Int32} : ∀ {n : Nat}, w < n → (∀ i, i < n → i ≠ w → g1 i = g i) → g1 w = g w + y → sm g1 n = sm g n + y
  | 0, h, _, _ => absurd h (Nat.not_lt_zero _)
  | n + 1, h, ho, he => by
    by_cases e : n = w
    · subst e
      show sm g1 n + g1 n = sm g n + g n + y
      rw [sm_same (fun i hi => ho i (by omega) (by omega)), he, Int32.add_assoc]
    · show sm g1 n + g1 n = sm g n + g n + y
      rw [sm_add (by omega) (fun i hi hn => ho i (by omega) hn) he, ho n (by omega) e, a3]
/-- the hours of a machine on a day, as a number -/
def tm (f : FF) (m d : Int32) (p : Nat) : Nat := if f (133 + 6 * p + 2) = m ∧ f (133 + 6 * p + 3) = d then (f (133 + 6 * p + 4)).toNatClampNeg else 0
def sN (f : FF) (m d : Int32) : Nat → Nat
  | 0 => 0
  | n + 1 => sN f m d n + tm f m d n
def H1 (f : FF) : Prop := SF f 0 = f 11 - SF f 4 - SF f 5 ∧ f 4 = f 11 - f 10 - f 9 ∧ SF f 2 = SM f 4
def H2 (c t d : Nat) (f : FF) : Prop := f 9 - SF f 5 = nI d ∧ SM f 7 = nI t ∧ d ≤ 5 * t ∧ t ≤ c
def H3 (c b e : Nat) (f : FF) : Prop := f 5 = nI b ∧ f 7 = nI e ∧ e + sn f ≤ b ∧ b ≤ c
def H4 (e : Nat) (f : FF) : Prop := ∀ m, m < mn f → f (49 + 14 * m + 5) = nI (kc f (f (49 + 14 * m + 0)) m) ∧ ∃ a z, f (49 + 14 * m + 3) = nI a ∧ f (49 + 14 * m + 4) = nI z ∧ a ≤ z ∧ z ≤ 12 * e
def H5 (b : Nat) (f : FF) : Prop := (∀ m d, sN f m d (sn f) ≤ 12) ∧ ∃ g : Nat → Nat, (∀ p, p < sn f → f (133 + 6 * p + 0) = nI (g p) ∧ g p < b) ∧ ∀ p q, p < q → q < sn f → g p < g q
def H6 (c e t : Nat) (f : FF) : Prop := ∀ i, i < 6 → (-(2000 * (e : Int) + 10000 * (t : Int)) ≤ (f (13 + 6 * i + 0)).toInt ∧ (f (13 + 6 * i + 0)).toInt ≤ 10000 * (c : Int)) ∧ ∃ x, x ≤ 7 ∧ f (13 + 6 * i + 1) = nI x
def H7 (f : FF) : Prop := (∃ x, x ≤ 9999 ∧ f 1 = nI x) ∧ ∃ x, x ≤ 9999 ∧ f 2 = nI x
def Hx (c b e t d : Nat) (f : FF) : Prop := H1 f ∧ H2 c t d f ∧ H3 c b e f ∧ H4 e f ∧ H5 b f ∧ H6 c e t f ∧ H7 f
def Hv (c : Nat) (f : FF) : Prop := ∃ b e t d, Hx c b e t d f
theorem SF_same {f f1 : FF} {k : Nat} (h : ∀ i, i < 6 → f1 (13 + 6 * i + k) = f (13 + 6 * i + k)) : SF f1 k = SF f k := sm_same h
theorem SF_add {f f1 : FF} {k w : Nat} {y : Int32} (hw : w < 6) (h : ∀ i, i < 6 → i ≠ w → f1 (13 + 6 * i + k) = f (13 + 6 * i + k)) (he : f1 (13 + 6 * w + k) = f (13 + 6 * w + k) + y) : SF f1 k = SF f k + y := sm_add hw h he
theorem mn_c {f f1 : FF} (h : f1 12 = f 12) : mn f1 = mn f := by unfold mn; rw [h]
theorem sn_c {f f1 : FF} (h : f1 6 = f 6) : sn f1 = sn f := by unfold sn; rw [h]
theorem dn_c {f f1 : FF} (h : f1 3 = f 3) : dn f1 = dn f := by unfold dn; rw [h]
theorem SM_same {f f1 : FF} {k : Nat} (h12 : f1 12 = f 12) (h : ∀ i, i < mn f → f1 (49 + 14 * i + k) = f (49 + 14 * i + k)) : SM f1 k = SM f k := by
  unfold SM
  rw [mn_c h12]
  exact sm_same h
theorem SM_add {f f1 : FF} {k w : Nat} {y : Int32} (h12 : f1 12 = f 12) (hw : w < mn f) (h : ∀ i, i < mn f → i ≠ w → f1 (49 + 14 * i + k) = f (49 + 14 * i + k)) (he : f1 (49 + 14 * w + k) = f (49 + 14 * w + k) + y) : SM f1 k = SM f k + y := by
  unfold SM
  rw [mn_c h12]
  exact sm_add hw h he
theorem tm_c {f f1 : FF} {m d : Int32} {p q : Nat} (h : ∀ k, 2 ≤ k → k < 5 → f1 (133 + 6 * p + k) = f (133 + 6 * q + k)) : tm f1 m d p = tm f m d q := by
  unfold tm
  rw [h 2 (by decide) (by decide), h 3 (by decide) (by decide), h 4 (by decide) (by decide)]
theorem sN_c {f f1 : FF} {m d : Int32} : ∀ {n : Nat}, (∀ p, p < n → ∀ k, 2 ≤ k → k < 5 → f1 (133 + 6 * p + k) = f (133 + 6 * p + k)) → sN f1 m d n = sN f m d n
  | 0, _ => rfl
  | n + 1, h => by
    show sN f1 m d n + tm f1 m d n = sN f m d n + tm f m d n
    rw [sN_c (fun p hp => h p (by omega)), tm_c (h n (by omega))]
theorem H2_mono {c c1 t d : Nat} {f : FF} (h : H2 c t d f) (hc : c ≤ c1) : H2 c1 t d f := ⟨h.1, h.2.1, h.2.2.1, Nat.le_trans h.2.2.2 hc⟩
theorem H3_mono {c c1 b e : Nat} {f : FF} (h : H3 c b e f) (hc : c ≤ c1) : H3 c1 b e f := ⟨h.1, h.2.1, h.2.2.1, Nat.le_trans h.2.2.2 hc⟩
theorem H6_mono {c c1 e e1 t t1 : Nat} {f : FF} (h : H6 c e t f) (hc : c ≤ c1) (he : e ≤ e1) (ht : t ≤ t1) : H6 c1 e1 t1 f := fun i hi => by
  obtain ⟨⟨a1, a2⟩, a3⟩ := h i hi
  exact ⟨⟨by omega, by omega⟩, a3⟩
theorem H4_mono {e e1 : Nat} {f : FF} (h : H4 e f) (he : e ≤ e1) : H4 e1 f := fun m hm => by
  obtain ⟨a1, a, z, a2, a3, a4, a5⟩ := h m hm
  exact ⟨a1, a, z, a2, a3, a4, by omega⟩
theorem Hv_mono {c c1 : Nat} {f : FF} (h : Hv c f) (hc : c ≤ c1) : Hv c1 f := by
  obtain ⟨b, e, t, d, h1, h2, h3, h4, h5, h6, h7⟩ := h
  exact ⟨b, e, t, d, h1, H2_mono h2 hc, H3_mono h3 hc, h4, h5, H6_mono h6 hc (Nat.le_refl _) (Nat.le_refl _), h7⟩
theorem H4_c {e : Nat} {f f1 : FF} (h : H4 e f) (h12 : f1 12 = f 12) (hm : ∀ i, i < mn f → f1 (49 + 14 * i + 0) = f (49 + 14 * i + 0) ∧ f1 (49 + 14 * i + 3) = f (49 + 14 * i + 3) ∧ f1 (49 + 14 * i + 4) = f (49 + 14 * i + 4) ∧ f1 (49 + 14 * i + 5) = f (49 + 14 * i + 5)) : H4 e f1 := by
  intro m hm1
  rw [mn_c h12] at hm1
  obtain ⟨a1, a, z, a2, a3, a4, a5⟩ := h m hm1
  obtain ⟨m0, m3, m4, m5⟩ := hm m hm1
  exact ⟨by rw [m5, m0, kc_congr (fun i hi => (hm i (by omega)).1)]; exact a1, a, z, by rw [m3]; exact a2, by rw [m4]; exact a3, a4, a5⟩
theorem H5_c {b : Nat} {f f1 : FF} (h : H5 b f) (h6 : f1 6 = f 6) (hb : ∀ p, p < sn f → ∀ k, k < 5 → k ≠ 1 → f1 (133 + 6 * p + k) = f (133 + 6 * p + k)) : H5 b f1 := by
  obtain ⟨a1, g, a2, a3⟩ := h
  unfold H5
  rw [sn_c h6]
  exact ⟨fun m d => by rw [sN_c (fun p hp k k1 k2 => hb p hp k k2 (by omega))]; exact a1 m d, g, fun p hp => by rw [hb p hp 0 (by decide) (by decide)]; exact a2 p hp, a3⟩
/-- an order that moves no money of farmers, no hours, no bookings -/
theorem Hv_gen {c : Nat} {f f1 : FF} (h : Hv c f) (hF : ∀ i, i < 6 → f1 (13 + 6 * i + 0) = f (13 + 6 * i + 0) ∧ f1 (13 + 6 * i + 2) = f (13 + 6 * i + 2) ∧ f1 (13 + 6 * i + 4) = f (13 + 6 * i + 4) ∧ f1 (13 + 6 * i + 5) = f (13 + 6 * i + 5)) (hL : ∀ i, i < 6 → ∃ x, x ≤ 7 ∧ f1 (13 + 6 * i + 1) = nI x) (h1 : ∃ x, x ≤ 9999 ∧ f1 1 = nI x) (h2 : ∃ x, x ≤ 9999 ∧ f1 2 = nI x) (h9 : f1 9 = f 9) (h11 : f1 11 = f 11) (h4 : f 4 = f 11 - f 10 - f 9 → f1 4 = f1 11 - f1 10 - f1 9) (hM : ∀ i, i < mn f → f1 (49 + 14 * i + 0) = f (49 + 14 * i + 0) ∧ f1 (49 + 14 * i + 3) = f (49 + 14 * i + 3) ∧ f1 (49 + 14 * i + 4) = f (49 + 14 * i + 4) ∧ f1 (49 + 14 * i + 5) = f (49 + 14 * i + 5)) (hM7 : ∀ i, i < mn f → f1 (49 + 14 * i + 7) = f (49 + 14 * i + 7)) (h12 : f1 12 = f 12) (h5 : f1 5 = f 5) (h6 : f1 6 = f 6) (h7 : f1 7 = f 7) (hB : ∀ j, 133 ≤ j → f1 j = f j) : Hv c f1 := by
  obtain ⟨b, e, t, d, x1, x2, x3, x4, x5, x6, x7⟩ := h
  have s0 : SF f1 0 = SF f 0 := SF_same (fun i hi => (hF i hi).1)
  have s2 : SF f1 2 = SF f 2 := SF_same (fun i hi => (hF i hi).2.1)
  have s4 : SF f1 4 = SF f 4 := SF_same (fun i hi => (hF i hi).2.2.1)
  have s5 : SF f1 5 = SF f 5 := SF_same (fun i hi => (hF i hi).2.2.2)
  have m4 : SM f1 4 = SM f 4 := SM_same h12 (fun i hi => (hM i hi).2.2.1)
  have m7 : SM f1 7 = SM f 7 := SM_same h12 hM7
  refine ⟨b, e, t, d, ⟨by rw [s0, s4, s5, h11]; exact x1.1, h4 x1.2.1, by rw [s2, m4]; exact x1.2.2⟩, ⟨by rw [h9, s5]; exact x2.1, by rw [m7]; exact x2.2.1, x2.2.2⟩, ⟨by rw [h5]; exact x3.1, by rw [h7]; exact x3.2.1, by rw [sn_c h6]; exact x3.2.2⟩, H4_c x4 h12 hM, H5_c x5 h6 (fun p hp k _ _ => hB _ (by omega)), fun i hi => ⟨by rw [(hF i hi).1]; exact (x6 i hi).1, hL i hi⟩, h1, h2⟩
theorem i_sub4 (a b c x : Int32) : a - b - c - x = a - (b + x) - c := by
  simp only [Int32.sub_eq_add_neg, Int32.neg_add]
  ac_rfl
theorem Hv.lic {c i : Nat} {f : FF} (h : Hv c f) (hi : i < 6) : ∃ x, x ≤ 7 ∧ f (13 + 6 * i + 1) = nI x := by
  obtain ⟨b, e, t, d, x1, x2, x3, x4, x5, x6, x7⟩ := h
  exact (x6 i hi).2
theorem Hv.p1 {c : Nat} {f : FF} (h : Hv c f) : ∃ x, x ≤ 9999 ∧ f 1 = nI x := by
  obtain ⟨b, e, t, d, x1, x2, x3, x4, x5, x6, x7⟩ := h
  exact x7.1
theorem Hv.p2 {c : Nat} {f : FF} (h : Hv c f) : ∃ x, x ≤ 9999 ∧ f 2 = nI x := by
  obtain ⟨b, e, t, d, x1, x2, x3, x4, x5, x6, x7⟩ := h
  exact x7.2
/-- a number of the state that none of the sums reads -/
theorem Hv_lic {c a x : Nat} {f : FF} (h : Hv c f) (ha : a < 6) (hx : x ≤ 7) : Hv c (up f (13 + 6 * a + 1) (nI x)) := by
  refine Hv_gen h (fun i hi => ⟨up_ne _ _ (by omega), up_ne _ _ (by omega), up_ne _ _ (by omega), up_ne _ _ (by omega)⟩) (fun i hi => ?_) (by rw [up_ne _ _ (by omega)]; exact h.p1) (by rw [up_ne _ _ (by omega)]; exact h.p2) (up_ne _ _ (by omega)) (up_ne _ _ (by omega)) (fun z => by rw [up_ne _ _ (by omega), up_ne _ _ (by omega), up_ne _ _ (by omega), up_ne _ _ (by omega)]; exact z) (fun i hi => ⟨up_ne _ _ (by omega), up_ne _ _ (by omega), up_ne _ _ (by omega), up_ne _ _ (by omega)⟩) (fun i hi => up_ne _ _ (by omega)) (up_ne _ _ (by omega)) (up_ne _ _ (by omega)) (up_ne _ _ (by omega)) (up_ne _ _ (by omega)) (fun j hj => up_ne _ _ (by omega))
  by_cases e : i = a
  · rw [e, up_same]; exact ⟨x, hx, rfl⟩
  · rw [up_ne _ _ (by omega)]; exact h.lic hi
theorem Hv_rate {c a j : Nat} {f : FF} {v : Int32} (h : Hv c f) (hj : j = 1 ∨ j = 6) (h6 : mn f ≤ 6) (ha : a < mn f) : Hv c (up f (49 + 14 * a + j) v) :=
  Hv_gen h (fun i hi => ⟨up_ne _ _ (by omega), up_ne _ _ (by omega), up_ne _ _ (by omega), up_ne _ _ (by omega)⟩) (fun i hi => by rw [up_ne _ _ (by omega)]; exact h.lic hi) (by rw [up_ne _ _ (by omega)]; exact h.p1) (by rw [up_ne _ _ (by omega)]; exact h.p2) (up_ne _ _ (by omega)) (up_ne _ _ (by omega)) (fun z => by rw [up_ne _ _ (by omega), up_ne _ _ (by omega), up_ne _ _ (by omega), up_ne _ _ (by omega)]; exact z) (fun i hi => ⟨up_ne _ _ (by omega), up_ne _ _ (by omega), up_ne _ _ (by omega), up_ne _ _ (by omega)⟩) (fun i hi => up_ne _ _ (by omega)) (up_ne _ _ (by omega)) (up_ne _ _ (by omega)) (up_ne _ _ (by omega)) (up_ne _ _ (by omega)) (fun j hj => up_ne _ _ (by omega))
theorem Hv_set {c j x : Nat} {f : FF} {v : Int32} (h : Hv c f) (hj : j < 4) (hv : v = nI x) (hx : j = 0 ∨ j = 3 ∨ x ≤ 9999) : Hv c (up f j v) := by
  refine Hv_gen h (fun i hi => ⟨up_ne _ _ (by omega), up_ne _ _ (by omega), up_ne _ _ (by omega), up_ne _ _ (by omega)⟩) (fun i hi => by rw [up_ne _ _ (by omega)]; exact h.lic hi) ?_ ?_ (up_ne _ _ (by omega)) (up_ne _ _ (by omega)) (fun z => by rw [up_ne _ _ (by omega), up_ne _ _ (by omega), up_ne _ _ (by omega), up_ne _ _ (by omega)]; exact z) (fun i hi => ⟨up_ne _ _ (by omega), up_ne _ _ (by omega), up_ne _ _ (by omega), up_ne _ _ (by omega)⟩) (fun i hi => up_ne _ _ (by omega)) (up_ne _ _ (by omega)) (up_ne _ _ (by omega)) (up_ne _ _ (by omega)) (up_ne _ _ (by omega)) (fun j hj => up_ne _ _ (by omega))
  · by_cases e : 1 = j
    · rw [← e, up_same]; exact ⟨x, by omega, hv⟩
    · rw [up_ne _ _ e]; exact h.p1
  · by_cases e : 2 = j
    · rw [← e, up_same]; exact ⟨x, by omega, hv⟩
    · rw [up_ne _ _ e]; exact h.p2
theorem Hv_day {c : Nat} {f : FF} {v : Int32} (h : Hv c f) : Hv c (up f 3 v) :=
  Hv_gen h (fun i hi => ⟨up_ne _ _ (by omega), up_ne _ _ (by omega), up_ne _ _ (by omega), up_ne _ _ (by omega)⟩) (fun i hi => by rw [up_ne _ _ (by omega)]; exact h.lic hi) (by rw [up_ne _ _ (by omega)]; exact h.p1) (by rw [up_ne _ _ (by omega)]; exact h.p2) (up_ne _ _ (by omega)) (up_ne _ _ (by omega)) (fun z => by rw [up_ne _ _ (by omega), up_ne _ _ (by omega), up_ne _ _ (by omega), up_ne _ _ (by omega)]; exact z) (fun i hi => ⟨up_ne _ _ (by omega), up_ne _ _ (by omega), up_ne _ _ (by omega), up_ne _ _ (by omega)⟩) (fun i hi => up_ne _ _ (by omega)) (up_ne _ _ (by omega)) (up_ne _ _ (by omega)) (up_ne _ _ (by omega)) (up_ne _ _ (by omega)) (fun j hj => up_ne _ _ (by omega))
theorem Hv_fill {c a m : Nat} {f : FF} {x : Int32} (h : Hv c f) (ha : a < 6) (h6 : mn f ≤ 6) (hm : m < mn f) : Hv c (fillF f a m x) := by
  have e : ∀ j, j ≠ 49 + 14 * m + 6 → j ≠ 13 + 6 * a + 3 → j ≠ 4 → j ≠ 10 → fillF f a m x j = f j := fun j h1 h2 h3 h4 => by
    unfold fillF
    rw [up_ne _ _ h4, up_ne _ _ h3, up_ne _ _ h2, up_ne _ _ h1]
  refine Hv_gen h (fun i hi => ⟨e _ (by omega) (by omega) (by omega) (by omega), e _ (by omega) (by omega) (by omega) (by omega), e _ (by omega) (by omega) (by omega) (by omega), e _ (by omega) (by omega) (by omega) (by omega)⟩) (fun i hi => by rw [e _ (by omega) (by omega) (by omega) (by omega)]; exact h.lic hi) (by rw [e _ (by omega) (by omega) (by omega) (by omega)]; exact h.p1) (by rw [e _ (by omega) (by omega) (by omega) (by omega)]; exact h.p2) (e _ (by omega) (by omega) (by omega) (by omega)) (e _ (by omega) (by omega) (by omega) (by omega)) (fun z => ?_) (fun i hi => ⟨e _ (by omega) (by omega) (by omega) (by omega), e _ (by omega) (by omega) (by omega) (by omega), e _ (by omega) (by omega) (by omega) (by omega), e _ (by omega) (by omega) (by omega) (by omega)⟩) (fun i hi => e _ (by omega) (by omega) (by omega) (by omega)) (e _ (by omega) (by omega) (by omega) (by omega)) (e _ (by omega) (by omega) (by omega) (by omega)) (e _ (by omega) (by omega) (by omega) (by omega)) (e _ (by omega) (by omega) (by omega) (by omega)) (fun j hj => e _ (by omega) (by omega) (by omega) (by omega))
  rw [e 11 (by omega) (by omega) (by omega) (by omega), e 9 (by omega) (by omega) (by omega) (by omega)]
  have e4 : fillF f a m x 4 = f 4 - 2 * x := by
    unfold fillF
    rw [up_ne _ _ (by omega), up_same]
  have e10 : fillF f a m x 10 = f 10 + 2 * x := by
    unfold fillF
    rw [up_same]
  rw [e4, e10, z]
  exact i_sub4 _ _ _ _
