/-! the sums: orders that move money, hours, bookings -/
theorem nI_sub {a b : Nat} (h : b ≤ a) : nI a - nI b = nI (a - b) := by
  have e : nI a = nI (a - b) + nI b := by rw [nI_add, Nat.sub_add_cancel h]
  rw [e]
  exact Int32.add_sub_cancel _ _
theorem ti_add {x : Int32} {n : Nat} (h1 : -70000000 ≤ x.toInt) (h2 : x.toInt ≤ 70000000) (hn : n ≤ 20000) : (x + nI n).toInt = x.toInt + (n : Int) := by
  rw [Int32.toInt_add, nI_toInt (by omega)]
  exact Int.bmod_eq_of_le (by omega) (by omega)
theorem ti_sub {x : Int32} {n : Nat} (h1 : -70000000 ≤ x.toInt) (h2 : x.toInt ≤ 70000000) (hn : n ≤ 20000) : (x - nI n).toInt = x.toInt - (n : Int) := by
  rw [Int32.toInt_sub, nI_toInt (by omega)]
  exact Int.bmod_eq_of_le (by omega) (by omega)
theorem i_add3 (a b c x : Int32) : a - b - c + x = a + x - b - c := by
  simp only [Int32.sub_eq_add_neg]
  ac_rfl
theorem i_sub3 (a b c x : Int32) : a - b - c - x = a - (b + x) - c := by
  simp only [Int32.sub_eq_add_neg, Int32.neg_add]
  ac_rfl
theorem i_sub5 (a b c x : Int32) : a - b - c - x = a - b - (c + x) := by
  simp only [Int32.sub_eq_add_neg, Int32.neg_add]
  ac_rfl
theorem Hv_pay {c a n : Nat} {f : FF} (h : Hv c f) (hc : c ≤ 5000) (ha : a < 6) (h6 : mn f ≤ 6) (hn : n ≤ 9999) : Hv (c + 60) (payF f a (nI n)) := by
  have e : ∀ j, j ≠ 13 + 6 * a + 0 → j ≠ 4 → j ≠ 11 → payF f a (nI n) j = f j := fun j h1 h2 h3 => by
    unfold payF
    rw [up_ne _ _ h3, up_ne _ _ h2, up_ne _ _ h1]
  have e0 : payF f a (nI n) (13 + 6 * a + 0) = f (13 + 6 * a + 0) + nI n := by
    unfold payF
    rw [up_ne _ _ (by omega), up_ne _ _ (by omega), up_same]
  have e4 : payF f a (nI n) 4 = f 4 + nI n := by
    unfold payF
    rw [up_ne _ _ (by omega), up_same]
  have e11 : payF f a (nI n) 11 = f 11 + nI n := by
    unfold payF
    rw [up_same]
  have e12 : payF f a (nI n) 12 = f 12 := e _ (by omega) (by omega) (by omega)
  obtain ⟨b, q, t, d, x1, x2, x3, x4, x5, x6, x7⟩ := h
  have s0 : SF (payF f a (nI n)) 0 = SF f 0 + nI n := SF_add ha (fun i hi hne => e _ (by omega) (by omega) (by omega)) e0
  have s2 : SF (payF f a (nI n)) 2 = SF f 2 := SF_same (fun i hi => e _ (by omega) (by omega) (by omega))
  have s4 : SF (payF f a (nI n)) 4 = SF f 4 := SF_same (fun i hi => e _ (by omega) (by omega) (by omega))
  have s5 : SF (payF f a (nI n)) 5 = SF f 5 := SF_same (fun i hi => e _ (by omega) (by omega) (by omega))
  have m4 : SM (payF f a (nI n)) 4 = SM f 4 := SM_same e12 (fun i hi => e _ (by omega) (by omega) (by omega))
  have m7 : SM (payF f a (nI n)) 7 = SM f 7 := SM_same e12 (fun i hi => e _ (by omega) (by omega) (by omega))
  have e6 : payF f a (nI n) 6 = f 6 := e _ (by omega) (by omega) (by omega)
  refine ⟨b, q, t, d, ⟨?_, ?_, by rw [s2, m4]; exact x1.2.2⟩, ⟨by rw [e 9 (by omega) (by omega) (by omega), s5]; exact x2.1, by rw [m7]; exact x2.2.1, x2.2.2.1, by have := x2.2.2.2; omega⟩, ⟨by rw [e 5 (by omega) (by omega) (by omega)]; exact x3.1, by rw [e 7 (by omega) (by omega) (by omega)]; exact x3.2.1, by rw [sn_c e6]; exact x3.2.2.1, by have := x3.2.2.2; omega⟩, H4_c x4 e12 (fun i hi => ⟨e _ (by omega) (by omega) (by omega), e _ (by omega) (by omega) (by omega), e _ (by omega) (by omega) (by omega), e _ (by omega) (by omega) (by omega)⟩), H5_c x5 e6 (fun p hp k _ _ => e _ (by omega) (by omega) (by omega)), fun i hi => ?_, ⟨by rw [e _ (by omega) (by omega) (by omega)]; exact x7.1, by rw [e _ (by omega) (by omega) (by omega)]; exact x7.2⟩⟩
  · rw [s0, s4, s5, e11, x1.1]
    exact i_add3 _ _ _ _
  · rw [e4, e11, e 10 (by omega) (by omega) (by omega), e 9 (by omega) (by omega) (by omega), x1.2.1]
    exact i_add3 _ _ _ _
  · have hb := x3.2.2
    have ht := x2.2.2
    obtain ⟨⟨a1, a2⟩, a3⟩ := x6 i hi
    refine ⟨?_, by rw [e _ (by omega) (by omega) (by omega)]; exact a3⟩
    by_cases hia : i = a
    · subst hia
      rw [e0, ti_add (by omega) (by omega) (by omega)]
      constructor <;> omega
    · rw [e _ (by omega) (by omega) (by omega)]
      constructor <;> omega
/-! bookings -/
theorem bk_N {f : FF} {m d : Int32} : ∀ {n : Nat}, (∀ p, p < n → ∃ h, h ≤ 12 ∧ f (133 + 6 * p + 4) = nI h) → bk f m d n = nI (sN f m d n)
  | 0, _ => nI_0.symm
  | n + 1, h => by
    obtain ⟨x, hx, e⟩ := h n (Nat.lt_succ_self n)
    show bk f m d n + (if f (133 + 6 * n + 2) = m ∧ f (133 + 6 * n + 3) = d then f (133 + 6 * n + 4) else 0) = nI (sN f m d n + tm f m d n)
    rw [bk_N (fun p hp => h p (by omega)), ← nI_add]
    refine congrArg (fun z => nI (sN f m d n) + z) ?_
    unfold tm
    by_cases hq : f (133 + 6 * n + 2) = m ∧ f (133 + 6 * n + 3) = d
    · rw [if_pos hq, if_pos hq, e, nI_clamp (by omega)]
    · rw [if_neg hq, if_neg hq]
      exact nI_0.symm
theorem bkO_N {c q : Nat} {f : FF} (hw : Wf c q f) (m d : Int32) : bkO f m d = nI (sN f m d (sn f)) := bk_N (fun p hp => by
  obtain ⟨-, -, -, h, h1, h2, h3⟩ := hw.wb hp
  exact ⟨h, h2, h3⟩)
theorem Hv.bk {c c1 q : Nat} {f : FF} (h : Hv c f) (hw : Wf c1 q f) (m d : Int32) : ∃ t, t ≤ 12 ∧ bkO f m d = nI t := by
  obtain ⟨b, e, t, d1, x1, x2, x3, x4, x5, x6, x7⟩ := h
  exact ⟨_, x5.1 m d, bkO_N hw m d⟩
theorem sN_up {f f1 : FF} {m d : Int32} {p : Nat} : ∀ {n : Nat}, (∀ j, j < n → j ≠ p → tm f1 m d j = tm f m d j) → (n ≤ p → sN f1 m d n = sN f m d n) ∧ (p < n → sN f1 m d n + tm f m d p = sN f m d n + tm f1 m d p)
  | 0, _ => ⟨fun _ => rfl, fun h => absurd h (Nat.not_lt_zero _)⟩
  | n + 1, h => by
    obtain ⟨g1, g2⟩ := sN_up (n := n) (fun j hj => h j (by omega))
    refine ⟨fun hp => ?_, fun hp => ?_⟩
    · show sN f1 m d n + tm f1 m d n = sN f m d n + tm f m d n
      rw [g1 (by omega), h n (by omega) (by omega)]
    · show sN f1 m d n + tm f1 m d n + tm f m d p = sN f m d n + tm f m d n + tm f1 m d p
      by_cases e : n = p
      · subst e
        rw [g1 (Nat.le_refl _)]
        omega
      · have := g2 (by omega)
        rw [h n (by omega) e]
        omega
theorem sN_drop {f : FF} {m d : Int32} {p n : Nat} (hp : p ≤ n) : ∀ {k : Nat}, k ≤ n → (k ≤ p → sN (dropF f p n) m d k = sN f m d k) ∧ (p ≤ k → sN (dropF f p n) m d k + tm f m d p = sN f m d (k + 1))
  | 0, _ => ⟨fun _ => rfl, fun h => by
    have : p = 0 := by omega
    subst this
    rfl⟩
  | k + 1, hk => by
    obtain ⟨g1, g2⟩ := sN_drop (f := f) (m := m) (d := d) hp (k := k) (by omega)
    have ek : tm (dropF f p n) m d k = tm f m d (if k < p then k else k + 1) := tm_c (fun j _ hj => dropF_b (by omega) (by omega))
    refine ⟨fun h => ?_, fun h => ?_⟩
    · show sN (dropF f p n) m d k + tm (dropF f p n) m d k = sN f m d k + tm f m d k
      rw [g1 (by omega), ek, if_pos (by omega)]
    · show sN (dropF f p n) m d k + tm (dropF f p n) m d k + tm f m d p = sN f m d (k + 1) + tm f m d (k + 1)
      by_cases e : k < p
      · have e2 : k + 1 = p := by omega
        rw [g1 (by omega), ek, if_pos e, ← e2]
        rfl
      · have := g2 (by omega)
        rw [ek, if_neg e]
        omega
theorem H5_drop {b p : Nat} {f : FF} (h : H5 b f) (hp : p < sn f) (h30 : sn f ≤ 30) : H5 b (dropF f p (sn f - 1)) := by
  obtain ⟨a1, g, a2, a3⟩ := h
  have e6 : sn (dropF f p (sn f - 1)) = sn f - 1 := sn_eq (n := sn f - 1) (if_pos rfl) (by omega)
  unfold H5
  rw [e6]
  refine ⟨fun m d => ?_, fun j => g (if j < p then j else j + 1), fun j hj => ?_, fun j k hjk hk => ?_⟩
  · have h1 := (sN_drop (f := f) (m := m) (d := d) (p := p) (n := sn f - 1) (by omega) (k := sn f - 1) (Nat.le_refl _)).2 (by omega)
    have h2 := a1 m d
    rw [show sn f - 1 + 1 = sn f by omega] at h1
    omega
  · rw [dropF_b hj (by decide)]
    exact a2 _ (by split <;> omega)
  · refine a3 _ _ ?_ ?_ <;> (repeat' split) <;> omega
theorem drop_ne {f : FF} {p j : Nat} (hp : p < sn f) (h6 : j ≠ 6) (h : j < 133) : dropF f p (sn f - 1) j = f j := dropF_ne h6 (Or.inl (by omega)) (by omega)
/-- a booking goes -/
theorem Hx_drop {c b e t d p : Nat} {f : FF} (hp : p < sn f) (h30 : sn f ≤ 30) (h6 : mn f ≤ 6) (x1 : H1 f) (x2 : H2 c t d f) (x3 : f 5 = nI b ∧ f 7 = nI e ∧ e + sn f ≤ b + 1 ∧ b ≤ c) (x4 : H4 e f) (x5 : H5 b f) (x6 : H6 c e t f) (x7 : H7 f) : Hx c b e t d (dropF f p (sn f - 1)) := by
  have z : ∀ j, j ≠ 6 → j < 133 → dropF f p (sn f - 1) j = f j := fun j h1 h2 => drop_ne hp h1 h2
  have e6 : sn (dropF f p (sn f - 1)) = sn f - 1 := sn_eq (n := sn f - 1) (if_pos rfl) (by omega)
  have e12 : dropF f p (sn f - 1) 12 = f 12 := z _ (by omega) (by omega)
  have s0 : SF (dropF f p (sn f - 1)) 0 = SF f 0 := SF_same (fun i hi => z _ (by omega) (by omega))
  have s2 : SF (dropF f p (sn f - 1)) 2 = SF f 2 := SF_same (fun i hi => z _ (by omega) (by omega))
  have s4 : SF (dropF f p (sn f - 1)) 4 = SF f 4 := SF_same (fun i hi => z _ (by omega) (by omega))
  have s5 : SF (dropF f p (sn f - 1)) 5 = SF f 5 := SF_same (fun i hi => z _ (by omega) (by omega))
  have m4 : SM (dropF f p (sn f - 1)) 4 = SM f 4 := SM_same e12 (fun i hi => z _ (by omega) (by omega))
  have m7 : SM (dropF f p (sn f - 1)) 7 = SM f 7 := SM_same e12 (fun i hi => z _ (by omega) (by omega))
  unfold Hx H1 H2 H3 H7
  rw [s0, s2, s4, s5, m4, m7, e6, z 11 (by omega) (by omega), z 10 (by omega) (by omega), z 9 (by omega) (by omega), z 4 (by omega) (by omega), z 5 (by omega) (by omega), z 7 (by omega) (by omega), z 1 (by omega) (by omega), z 2 (by omega) (by omega)]
  exact ⟨x1, x2, ⟨x3.1, x3.2.1, by have := x3.2.2.1; omega, x3.2.2.2⟩, H4_c x4 e12 (fun i hi => ⟨z _ (by omega) (by omega), z _ (by omega) (by omega), z _ (by omega) (by omega), z _ (by omega) (by omega)⟩), H5_drop x5 hp h30, fun i hi => by rw [z _ (by omega) (by omega), z _ (by omega) (by omega)]; exact x6 i hi, x7⟩
theorem Hv_drop {c p q : Nat} {f : FF} (h : Hv c f) (hw : Wf c q f) (hp : p < sn f) : Hv c (dropF f p (sn f - 1)) := by
  obtain ⟨b, e, t, d, x1, x2, x3, x4, x5, x6, x7⟩ := h
  exact ⟨b, e, t, d, Hx_drop hp hw.s30 hw.m6 x1 x2 ⟨x3.1, x3.2.1, by have := x3.2.2.1; omega, x3.2.2.2⟩ x4 x5 x6 x7⟩
theorem Hv_book {c w m i x : Nat} {f : FF} (h : Hv c f) (hw : Wf c 30 f) (hs : sn f < 30) (hx : x ≤ 12) (hb : sN f (nI m) (f 3 + nI i) (sn f) + x ≤ 12) : Hv (c + 60) (bookF f (sn f) (nI w) (nI m) (nI i) (nI x)) := by
  have h6 := hw.m6
  generalize hn : sn f = n at *
  have z : ∀ j, j < 133 → j ≠ 6 → j ≠ 5 → bookF f n (nI w) (nI m) (nI i) (nI x) j = f j := fun j h1 h2 h3 => bookF_ne (Or.inl (by omega)) h2 h3
  have z2 : ∀ p k, p < n → k < 6 → bookF f n (nI w) (nI m) (nI i) (nI x) (133 + 6 * p + k) = f (133 + 6 * p + k) := fun p k h1 h2 => bookF_ne (Or.inl (by omega)) (by omega) (by omega)
  have e6 : sn (bookF f n (nI w) (nI m) (nI i) (nI x)) = n + 1 := sn_eq (by rw [bookF_6, hw.s, hn]; exact nI_add _ 1) (by omega)
  obtain ⟨k0, k1, k2, k3, k4, k5⟩ := bookF_b (f := f) (n := n) (w := nI w) (m := nI m) (i := nI i) (h := nI x)
  have k5b := bookF_5 (f := f) (n := n) (w := nI w) (m := nI m) (i := nI i) (h := nI x)
  generalize bookF f n (nI w) (nI m) (nI i) (nI x) = f1 at *
  obtain ⟨b, e, t, d, x1, x2, x3, x4, x5, x6, x7⟩ := h
  have e12 : f1 12 = f 12 := z _ (by omega) (by omega) (by omega)
  have s0 : SF f1 0 = SF f 0 := SF_same (fun i hi => z _ (by omega) (by omega) (by omega))
  have s2 : SF f1 2 = SF f 2 := SF_same (fun i hi => z _ (by omega) (by omega) (by omega))
  have s4 : SF f1 4 = SF f 4 := SF_same (fun i hi => z _ (by omega) (by omega) (by omega))
  have s5 : SF f1 5 = SF f 5 := SF_same (fun i hi => z _ (by omega) (by omega) (by omega))
  have m4 : SM f1 4 = SM f 4 := SM_same e12 (fun i hi => z _ (by omega) (by omega) (by omega))
  have m7 : SM f1 7 = SM f 7 := SM_same e12 (fun i hi => z _ (by omega) (by omega) (by omega))
  obtain ⟨q1, q2, q3, q4⟩ := x3
  rw [hn] at q3
  obtain ⟨r1, g, r2, r3⟩ := x5
  rw [hn] at r1 r2 r3
  refine ⟨b + 1, e, t, d, ?_, ?_, ?_, ?_, ?_, ?_, ?_⟩
  · unfold H1
    rw [s0, s2, s4, s5, m4, z 11 (by omega) (by omega) (by omega), z 10 (by omega) (by omega) (by omega), z 9 (by omega) (by omega) (by omega), z 4 (by omega) (by omega) (by omega)]
    exact x1
  · unfold H2
    rw [s5, m7, z 9 (by omega) (by omega) (by omega)]
    exact ⟨x2.1, x2.2.1, x2.2.2.1, by have := x2.2.2.2; omega⟩
  · unfold H3
    rw [e6, k5b, z 7 (by omega) (by omega) (by omega), q1]
    exact ⟨nI_add _ 1, q2, by omega, by omega⟩
  · exact H4_c x4 e12 (fun i hi => ⟨z _ (by omega) (by omega) (by omega), z _ (by omega) (by omega) (by omega), z _ (by omega) (by omega) (by omega), z _ (by omega) (by omega) (by omega)⟩)
  · unfold H5
    rw [e6]
    refine ⟨fun m' d' => ?_, fun p => if p = n then b else g p, fun p hp => ?_, fun p q hpq hq => ?_⟩
    · show sN f1 m' d' n + tm f1 m' d' n ≤ 12
      rw [sN_c (f := f) (fun p hp k _ hk => z2 p k hp (by omega))]
      have := r1 m' d'
      unfold tm
      rw [k2, k3, k4]
      split
      · rename_i hh
        rw [← hh.1, ← hh.2, nI_clamp (by omega)]
        exact hb
      · exact this
    · by_cases ep : p = n
      · subst ep
        simp only [if_pos]
        rw [k0]
        exact ⟨q1, Nat.lt_succ_self _⟩
      · simp only [if_neg ep]
        rw [z2 p 0 (by omega) (by decide)]
        have := r2 p (by omega)
        exact ⟨this.1, by omega⟩
    · simp only [if_neg (show ¬ p = n by omega)]
      by_cases eq : q = n
      · simp only [if_pos eq]
        exact (r2 p (by omega)).2
      · simp only [if_neg eq]
        exact r3 p q hpq (by omega)
  · intro i hi
    rw [z _ (by omega) (by omega) (by omega), z _ (by omega) (by omega) (by omega)]
    exact H6_mono x6 (by omega) (Nat.le_refl _) (Nat.le_refl _) i hi
  · unfold H7
    rw [z _ (by omega) (by omega) (by omega), z _ (by omega) (by omega) (by omega)]
    exact x7
theorem Hv_po {c c1 p q i h : Nat} {f : FF} (hv : Hv c f) (hw : Wf c1 q f) (hp : p < sn f) (hh : h ≤ 12) (eh : f (133 + 6 * p + 4) = nI h) (hb : sN f (f (133 + 6 * p + 2)) (f 3 + nI i) (sn f) + h ≤ 12) : Hv c (poF f p i) := by
  have h30 := hw.s30
  have h6 := hw.m6
  have z : ∀ j, j ≠ 8 → j < 133 → poF f p i j = f j := fun j h1 h2 => poF_ne h1 (by omega) (by omega)
  have e12 : poF f p i 12 = f 12 := z _ (by omega) (by omega)
  have e6 : poF f p i 6 = f 6 := z _ (by omega) (by omega)
  obtain ⟨b, e, t, d, x1, x2, x3, x4, x5, x6, x7⟩ := hv
  have s0 : SF (poF f p i) 0 = SF f 0 := SF_same (fun i hi => z _ (by omega) (by omega))
  have s2 : SF (poF f p i) 2 = SF f 2 := SF_same (fun i hi => z _ (by omega) (by omega))
  have s4 : SF (poF f p i) 4 = SF f 4 := SF_same (fun i hi => z _ (by omega) (by omega))
  have s5 : SF (poF f p i) 5 = SF f 5 := SF_same (fun i hi => z _ (by omega) (by omega))
  have m4 : SM (poF f p i) 4 = SM f 4 := SM_same e12 (fun i hi => z _ (by omega) (by omega))
  have m7 : SM (poF f p i) 7 = SM f 7 := SM_same e12 (fun i hi => z _ (by omega) (by omega))
  refine ⟨b, e, t, d, ?_, ?_, ?_, ?_, ?_, ?_, ?_⟩
  · unfold H1
    rw [s0, s2, s4, s5, m4, z 11 (by omega) (by omega), z 10 (by omega) (by omega), z 9 (by omega) (by omega), z 4 (by omega) (by omega)]
    exact x1
  · unfold H2
    rw [s5, m7, z 9 (by omega) (by omega)]
    exact x2
  · unfold H3
    rw [sn_c e6, z 5 (by omega) (by omega), z 7 (by omega) (by omega)]
    exact x3
  · exact H4_c x4 e12 (fun i hi => ⟨z _ (by omega) (by omega), z _ (by omega) (by omega), z _ (by omega) (by omega), z _ (by omega) (by omega)⟩)
  · obtain ⟨r1, g, r2, r3⟩ := x5
    unfold H5
    rw [sn_c e6]
    refine ⟨fun m' d' => ?_, g, fun j hj => by rw [poF_ne (by omega) (by omega) (by omega)]; exact r2 j hj, r3⟩
    have k1 := (sN_up (f := f) (f1 := poF f p i) (m := m') (d := d') (p := p) (n := sn f) (fun j hj hne => tm_c (fun k _ hk => poF_ne (by omega) (by omega) (by omega)))).2 hp
    have k2 := r1 m' d'
    have k3 : tm (poF f p i) m' d' p = if f (133 + 6 * p + 2) = m' ∧ f 3 + nI i = d' then h else 0 := by
      unfold tm
      rw [poF_ne (j := 133 + 6 * p + 2) (by omega) (by omega) (by omega), poF_3, poF_ne (j := 133 + 6 * p + 4) (by omega) (by omega) (by omega), eh, nI_clamp (by omega)]
    rw [k3] at k1
    split at k1
    · rename_i hh
      rw [hh.1, hh.2] at hb
      omega
    · omega
  · intro j hj
    rw [z _ (by omega) (by omega), z _ (by omega) (by omega)]
    exact x6 j hj
  · unfold H7
    rw [z _ (by omega) (by omega), z _ (by omega) (by omega)]
    exact x7
theorem Hv_buy {c k r : Nat} {f : FF} (hv : Hv c f) (hw : Wf c 30 f) (hk : k < 3) (h6 : mn f < 6) : Hv c (buyF f (mn f) (nI k) (nI r) (nI (kc f (nI k) (mn f)))) := by
  have hz := fun j (hj : j < 14) => hw.wz (i := mn f) (k := j) h6 (Nat.le_refl _) hj
  have z : ∀ j, j ≠ 49 + 14 * mn f + 0 → j ≠ 49 + 14 * mn f + 1 → j ≠ 49 + 14 * mn f + 5 → j ≠ 12 → buyF f (mn f) (nI k) (nI r) (nI (kc f (nI k) (mn f))) j = f j := fun j h1 h2 h3 h4 => buyF_ne h1 h2 h3 h4
  obtain ⟨b0, b1, b5⟩ := buyF_b (f := f) (n := mn f) (k := nI k) (r := nI r) (x := nI (kc f (nI k) (mn f)))
  have e12 : mn (buyF f (mn f) (nI k) (nI r) (nI (kc f (nI k) (mn f)))) = mn f + 1 := mn_eq (buyF_12.trans ((congrArg (fun z => z + 1) hw.m).trans (nI_add _ 1))) (by omega)
  generalize hn : mn f = n at *
  generalize buyF f n (nI k) (nI r) (nI (kc f (nI k) n)) = f1 at *
  obtain ⟨b, e, t, d, x1, x2, x3, x4, x5, x6, x7⟩ := hv
  have s0 : SF f1 0 = SF f 0 := SF_same (fun i hi => z _ (by omega) (by omega) (by omega) (by omega))
  have s2 : SF f1 2 = SF f 2 := SF_same (fun i hi => z _ (by omega) (by omega) (by omega) (by omega))
  have s4 : SF f1 4 = SF f 4 := SF_same (fun i hi => z _ (by omega) (by omega) (by omega) (by omega))
  have s5 : SF f1 5 = SF f 5 := SF_same (fun i hi => z _ (by omega) (by omega) (by omega) (by omega))
  have mm : ∀ j, j = 4 ∨ j = 7 → SM f1 j = SM f j := fun j hj => by
    unfold SM
    rw [e12, hn]
    show sm (fun m => f1 (49 + 14 * m + j)) n + f1 (49 + 14 * n + j) = _
    rw [z (49 + 14 * n + j) (by omega) (by omega) (by omega) (by omega), hz j (by omega), sm_same (g := fun m => f (49 + 14 * m + j)) (fun i hi => z _ (by omega) (by omega) (by omega) (by omega))]
    exact Int32.add_zero _
  have m4 := mm 4 (Or.inl rfl)
  have m7 := mm 7 (Or.inr rfl)
  have e6 : f1 6 = f 6 := z _ (by omega) (by omega) (by omega) (by omega)
  refine ⟨b, e, t, d, ?_, ?_, ?_, ?_, ?_, ?_, ?_⟩
  · unfold H1
    rw [s0, s2, s4, s5, m4, z 11 (by omega) (by omega) (by omega) (by omega), z 10 (by omega) (by omega) (by omega) (by omega), z 9 (by omega) (by omega) (by omega) (by omega), z 4 (by omega) (by omega) (by omega) (by omega)]
    exact x1
  · unfold H2
    rw [s5, m7, z 9 (by omega) (by omega) (by omega) (by omega)]
    exact x2
  · unfold H3
    rw [sn_c e6, z 5 (by omega) (by omega) (by omega) (by omega), z 7 (by omega) (by omega) (by omega) (by omega)]
    exact x3
  · intro m hm
    rw [e12] at hm
    by_cases em : m = n
    · subst em
      rw [b5, b0, z (49 + 14 * m + 3) (by omega) (by omega) (by omega) (by omega), z (49 + 14 * m + 4) (by omega) (by omega) (by omega) (by omega), hz 3 (by decide), hz 4 (by decide)]
      exact ⟨congrArg nI (kc_congr (fun i hi => z _ (by omega) (by omega) (by omega) (by omega))).symm, 0, 0, nI_0.symm, nI_0.symm, Nat.le_refl _, Nat.zero_le _⟩
    · obtain ⟨a1, a, y, a2, a3, a4, a5⟩ := x4 m (by omega)
      rw [z (49 + 14 * m + 5) (by omega) (by omega) (by omega) (by omega), z (49 + 14 * m + 0) (by omega) (by omega) (by omega) (by omega), z (49 + 14 * m + 3) (by omega) (by omega) (by omega) (by omega), z (49 + 14 * m + 4) (by omega) (by omega) (by omega) (by omega), kc_congr (f := f) (fun i hi => z _ (by omega) (by omega) (by omega) (by omega))]
      exact ⟨a1, a, y, a2, a3, a4, a5⟩
  · exact H5_c x5 e6 (fun p hp k _ _ => z _ (by omega) (by omega) (by omega) (by omega))
  · intro i hi
    rw [z _ (by omega) (by omega) (by omega) (by omega), z _ (by omega) (by omega) (by omega) (by omega)]
    exact x6 i hi
  · unfold H7
    rw [z _ (by omega) (by omega) (by omega) (by omega), z _ (by omega) (by omega) (by omega) (by omega)]
    exact x7
