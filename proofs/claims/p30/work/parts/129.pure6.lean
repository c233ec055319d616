/-! a machine is mended -/
def shI (f : FF) (m i : Nat) : Int32 := f 1 * f (49 + 14 * m + (8 + i)) / f (49 + 14 * m + 3)
def mdA (f : FF) (m : Nat) : Nat → FF
  | 0 => f
  | n + 1 => aF (aF (mdA f m n) (13 + 6 * n + 0) (-(shI f m n))) (13 + 6 * n + 5) (shI f m n)
def mdL (f : FF) (m : Nat) : Nat → Int32
  | 0 => f 1
  | n + 1 => mdL f m n - shI f m n
def hz (m : Nat) (f : FF) : Nat → FF
  | 0 => f
  | n + 1 => up (hz m f n) (49 + 14 * m + (8 + n)) 0
def mdB (f : FF) (m : Nat) : FF := aF (up (up (hz m (mdA f m 6) 6) (49 + 14 * m + 3) 0) (49 + 14 * m + 2) 0) (49 + 14 * m + 7) 1
def mendF (f : FF) (m : Nat) : FF := up (up (mdB f m) 4 (f 4 - f 1)) 9 (f 9 + f 1)
section MEND
variable {f : FF} {m : Nat}
theorem mdA_s {n i k : Nat} (hk : k < 6) (h : i ≠ n ∨ (k ≠ 0 ∧ k ≠ 5)) : mdA f m (n + 1) (13 + 6 * i + k) = mdA f m n (13 + 6 * i + k) := by
  show aF (aF (mdA f m n) (13 + 6 * n + 0) (-(shI f m n))) (13 + 6 * n + 5) (shI f m n) (13 + 6 * i + k) = _
  unfold aF
  rw [up_ne _ _ (by omega), up_ne _ _ (by omega)]
theorem mdA_s0 {n : Nat} : mdA f m (n + 1) (13 + 6 * n + 0) = mdA f m n (13 + 6 * n + 0) - shI f m n := by
  show aF (aF (mdA f m n) (13 + 6 * n + 0) (-(shI f m n))) (13 + 6 * n + 5) (shI f m n) (13 + 6 * n + 0) = _
  unfold aF
  rw [up_ne _ _ (by omega), up_same, Int32.sub_eq_add_neg]
theorem mdA_s5 {n : Nat} : mdA f m (n + 1) (13 + 6 * n + 5) = mdA f m n (13 + 6 * n + 5) + shI f m n := by
  show aF (aF (mdA f m n) (13 + 6 * n + 0) (-(shI f m n))) (13 + 6 * n + 5) (shI f m n) (13 + 6 * n + 5) = _
  unfold aF
  rw [up_same, up_ne _ _ (by omega)]
theorem mdA_out {j : Nat} (h : j < 13 ∨ 49 ≤ j) : ∀ {n : Nat}, n ≤ 6 → mdA f m n j = f j
  | 0, _ => rfl
  | n + 1, hn => by
    show aF (aF (mdA f m n) (13 + 6 * n + 0) (-(shI f m n))) (13 + 6 * n + 5) (shI f m n) j = _
    unfold aF
    rw [up_ne _ _ (by omega), up_ne _ _ (by omega)]
    exact mdA_out h (by omega)
theorem mdA_k {i k : Nat} (hk : k < 6) (h0 : k ≠ 0) (h5 : k ≠ 5) : ∀ {n : Nat}, mdA f m n (13 + 6 * i + k) = f (13 + 6 * i + k)
  | 0 => rfl
  | n + 1 => by rw [mdA_s hk (Or.inr ⟨h0, h5⟩), mdA_k hk h0 h5]
theorem mdA_l {i k : Nat} (hk : k < 6) : ∀ {n : Nat}, n ≤ i → mdA f m n (13 + 6 * i + k) = f (13 + 6 * i + k)
  | 0, _ => rfl
  | n + 1, h => by rw [mdA_s hk (Or.inl (by omega)), mdA_l hk (by omega)]
theorem mdA_0 {i : Nat} : ∀ {n : Nat}, i < n → mdA f m n (13 + 6 * i + 0) = f (13 + 6 * i + 0) - shI f m i
  | n + 1, h => by
    by_cases e : i = n
    · subst e
      rw [mdA_s0, mdA_l (by decide) (Nat.le_refl _)]
    · rw [mdA_s (by decide) (Or.inl e), mdA_0 (by omega)]
theorem mdA_5 {i : Nat} : ∀ {n : Nat}, i < n → mdA f m n (13 + 6 * i + 5) = f (13 + 6 * i + 5) + shI f m i
  | n + 1, h => by
    by_cases e : i = n
    · subst e
      rw [mdA_s5, mdA_l (by decide) (Nat.le_refl _)]
    · rw [mdA_s (by decide) (Or.inl e), mdA_5 (by omega)]
theorem hz_ne {g : FF} {j : Nat} : ∀ {n : Nat}, (∀ i, i < n → j ≠ 49 + 14 * m + (8 + i)) → hz m g n j = g j
  | 0, _ => rfl
  | n + 1, h => by
    show up (hz m g n) (49 + 14 * m + (8 + n)) 0 j = _
    rw [up_ne _ _ (h n (Nat.lt_succ_self n)), hz_ne (fun i hi => h i (by omega))]
theorem hz_at {g : FF} {i : Nat} : ∀ {n : Nat}, i < n → hz m g n (49 + 14 * m + (8 + i)) = 0
  | n + 1, h => by
    show up (hz m g n) (49 + 14 * m + (8 + n)) 0 (49 + 14 * m + (8 + i)) = 0
    by_cases e : i = n
    · rw [e, up_same]
    · rw [up_ne _ _ (by omega), hz_at (by omega)]
theorem mdB_ne {j : Nat} (h : ¬ (49 + 14 * m ≤ j ∧ j < 49 + 14 * m + 14)) : mdB f m j = mdA f m 6 j := by
  unfold mdB aF
  rw [up_ne _ _ (by omega), up_ne _ _ (by omega), up_ne _ _ (by omega), hz_ne (fun i hi => by omega)]
theorem mendF_4 : mendF f m 4 = f 4 - f 1 := by
  unfold mendF
  rw [up_ne _ _ (by decide), up_same]
theorem mendF_9 : mendF f m 9 = f 9 + f 1 := by
  unfold mendF
  rw [up_same]
theorem mendF_B {j : Nat} (h4 : j ≠ 4) (h9 : j ≠ 9) : mendF f m j = mdB f m j := by
  unfold mendF
  rw [up_ne _ _ h9, up_ne _ _ h4]
theorem mendF_ne {j : Nat} (h4 : j ≠ 4) (h9 : j ≠ 9) (h : j < 13 ∨ 49 ≤ j) (h2 : ¬ (49 + 14 * m ≤ j ∧ j < 49 + 14 * m + 14)) : mendF f m j = f j := by
  rw [mendF_B h4 h9, mdB_ne h2, mdA_out h (by decide)]
theorem mendF_f {i k : Nat} (hi : i < 6) (hk : k < 6) : mendF f m (13 + 6 * i + k) = mdA f m 6 (13 + 6 * i + k) := by
  rw [mendF_B (by omega) (by omega), mdB_ne (by omega)]
theorem mendF_m {k : Nat} (h8 : k < 8) (h2 : k ≠ 2) (h3 : k ≠ 3) (h7 : k ≠ 7) : mendF f m (49 + 14 * m + k) = f (49 + 14 * m + k) := by
  rw [mendF_B (by omega) (by omega)]
  unfold mdB aF
  rw [up_ne _ _ (by omega), up_ne _ _ (by omega), up_ne _ _ (by omega), hz_ne (fun i hi => by omega), mdA_out (by omega) (by decide)]
theorem mendF_2 : mendF f m (49 + 14 * m + 2) = 0 := by
  rw [mendF_B (by omega) (by omega)]
  unfold mdB aF
  rw [up_ne _ _ (by omega), up_same]
theorem mendF_3 : mendF f m (49 + 14 * m + 3) = 0 := by
  rw [mendF_B (by omega) (by omega)]
  unfold mdB aF
  rw [up_ne _ _ (by omega), up_ne _ _ (by omega), up_same]
theorem mendF_7 : mendF f m (49 + 14 * m + 7) = f (49 + 14 * m + 7) + 1 := by
  rw [mendF_B (by omega) (by omega)]
  unfold mdB aF
  rw [up_same, up_ne _ _ (by omega), up_ne _ _ (by omega), hz_ne (fun i hi => by omega), mdA_out (by omega) (by decide)]
theorem mendF_8 {j : Nat} (hj : j < 6) : mendF f m (49 + 14 * m + (8 + j)) = 0 := by
  rw [mendF_B (by omega) (by omega)]
  unfold mdB aF
  rw [up_ne _ _ (by omega), up_ne _ _ (by omega), up_ne _ _ (by omega), hz_at hj]
end MEND
theorem Rp_mend {M M1 : MM} {P : PP} {s c q m : Nat} {f : FF} (hs : isSt s) (hp : PS P s) (hr : Rp M P s f) (hw : Wf c q f) (hm : m < mn f)
    (a1 : ∀ i, i < 6 → ∀ k, k < 6 → M1 (s + 2 + i) k = mdA f m 6 (13 + 6 * i + k))
    (b1 : ∀ k, k ≠ 4 → k ≠ 6 → M1 (s + 9 + 2 * m) k = M (s + 9 + 2 * m) k) (b2 : M1 (s + 9 + 2 * m) 4 = 0) (b3 : M1 (s + 9 + 2 * m) 6 = f (49 + 14 * m + 7) + 1) (b4 : ∀ j, j < 6 → M1 (s + 10 + 2 * m) j = 0)
    (d1 : M1 s 9 = f 4 - f 1) (d2 : M1 s 13 = f 9 + f 1) (d3 : ∀ k, k ≠ 9 → k ≠ 13 → M1 s k = M s k) (e1 : ∀ a, a ≠ s → (a < s + 2 ∨ s + 8 ≤ a) → a ≠ s + 9 + 2 * m → a ≠ s + 10 + 2 * m → M1 a = M a) : Rp M1 P s (mendF f m) := by
  have h6 := hw.m6
  have hl : ∀ j, j < 13 → j ≠ 4 → j ≠ 9 → mendF f m j = f j := fun j hj h4 h9 => mendF_ne h4 h9 (by omega) (by omega)
  refine Rp_gen hp hr ?_ (fun i hi k hk => by rw [a1 i hi k hk, mendF_f hi hk]) (fun i g1 g2 => ?_) (hl 6 (by decide) (by decide) (by decide)) (fun j hj => mendF_ne (by omega) (by omega) (by omega) (by omega)) (fun a h1 h2 => e1 a (by omega) (by omega) (by omega) (by omega))
  · obtain ⟨r1, r2, r3, r4, r5, r6, r7, r8, r9, r10, r11, r12, r13⟩ := hr.1
    unfold RS
    rw [d3 3 (by decide) (by decide), d3 4 (by decide) (by decide), d3 5 (by decide) (by decide), d3 6 (by decide) (by decide), d3 7 (by decide) (by decide), d3 8 (by decide) (by decide), d1, d3 10 (by decide) (by decide), d3 11 (by decide) (by decide), d3 12 (by decide) (by decide), d2, d3 14 (by decide) (by decide), d3 15 (by decide) (by decide), mendF_4, mendF_9]
    refine ⟨?_, ?_, ?_, ?_, ?_, ?_, rfl, ?_, ?_, ?_, rfl, ?_, ?_⟩ <;> rw [hl _ (by decide) (by decide) (by decide)] <;> assumption
  · rw [show mn (mendF f m) = mn f by unfold mn; rw [hl 12 (by decide) (by decide) (by decide)]] at g1
    have hz := hr.2.2.1 i g1 g2
    unfold Rm at hz ⊢
    by_cases e : i = m
    · subst e
      rw [b1 0 (by decide) (by decide), b1 1 (by decide) (by decide), b1 2 (by decide) (by decide), b1 3 (by decide) (by decide), b2, b1 5 (by decide) (by decide), b3, mendF_m (k := 0) (by decide) (by decide) (by decide) (by decide), mendF_m (k := 1) (by decide) (by decide) (by decide) (by decide), mendF_m (k := 5) (by decide) (by decide) (by decide) (by decide), mendF_m (k := 6) (by decide) (by decide) (by decide) (by decide), mendF_m (k := 4) (by decide) (by decide) (by decide) (by decide), mendF_2, mendF_7]
      exact ⟨hz.1, hz.2.1, hz.2.2.1, hz.2.2.2.1, rfl, hz.2.2.2.2.2.1, rfl, fun j hj => by rw [b4 j hj, mendF_8 hj]⟩
    · have z : ∀ j, j < 14 → mendF f m (49 + 14 * i + j) = f (49 + 14 * i + j) := fun j hj => mendF_ne (by omega) (by omega) (by omega) (by omega)
      rw [e1 (s + 9 + 2 * i) (by omega) (by omega) (by omega) (by omega), e1 (s + 10 + 2 * i) (by omega) (by omega) (by omega) (by omega), z 0 (by decide), z 1 (by decide), z 5 (by decide), z 6 (by decide), z 2 (by decide), z 4 (by decide), z 7 (by decide)]
      exact ⟨hz.1, hz.2.1, hz.2.2.1, hz.2.2.2.1, hz.2.2.2.2.1, hz.2.2.2.2.2.1, hz.2.2.2.2.2.2.1, fun j hj => by rw [z (8 + j) (by omega)]; exact hz.2.2.2.2.2.2.2 j hj⟩
/-- facts that stay where nothing they speak of changes -/
theorem Wf_of {c q : Nat} {f f1 : FF} (hw : Wf c q f) (h6 : f1 6 = f 6) (h12 : f1 12 = f 12) (h3 : f1 3 = f 3) (h0 : ∃ b, 10 ≤ b ∧ b ≤ 200 ∧ f1 0 = nI b) (hm : ∀ i, i < mn f → Wm f1 i) (hk : ∀ i, i < mn f → f1 (49 + 14 * i + 0) = f (49 + 14 * i + 0)) (hz : ∀ i, i < 6 → mn f ≤ i → ∀ k, k < 14 → f1 (49 + 14 * i + k) = f (49 + 14 * i + k)) (hb : ∀ j, 133 ≤ j → f1 j = f j) : Wf c q f1 := by
  have e6 : sn f1 = sn f := by unfold sn; rw [h6]
  have e12 : mn f1 = mn f := by unfold mn; rw [h12]
  have e3 : dn f1 = dn f := by unfold dn; rw [h3]
  obtain ⟨a1, a2, a3, a4, a5, a6, a7, a8⟩ := hw
  unfold Wf
  rw [e6, e12, e3, h6, h12, h3]
  exact ⟨a1, a2, a3, h0, hm, fun i g1 g2 k g3 => by rw [hz i g1 g2 k g3]; exact a6 i g1 g2 k g3, fun p hp => Wb_congr (a7 p hp) h12 h3 (fun k _ _ => hb _ (by omega)) (fun z => z), fun k g1 => by rw [kc_congr hk]; exact a8 k g1⟩
theorem Wf_mend {c q m : Nat} {f : FF} (hw : Wf c q f) (hm : m < mn f) : Wf c q (mendF f m) := by
  have h6 := hw.m6
  have z : ∀ i, i ≠ m → ∀ j, j < 14 → mendF f m (49 + 14 * i + j) = f (49 + 14 * i + j) := fun i e j hj => mendF_ne (by omega) (by omega) (by omega) (by omega)
  have hl : ∀ j, j < 13 → j ≠ 4 → j ≠ 9 → mendF f m j = f j := fun j hj h4 h9 => mendF_ne h4 h9 (by omega) (by omega)
  refine Wf_of hw (hl 6 (by decide) (by decide) (by decide)) (hl 12 (by decide) (by decide) (by decide)) (hl 3 (by decide) (by decide) (by decide)) (by rw [hl 0 (by decide) (by decide) (by decide)]; exact hw.b) (fun i hi => ?_) (fun i hi => ?_) (fun i g1 g2 k hk => z i (by omega) k hk) (fun j hj => mendF_ne (by omega) (by omega) (by omega) (by omega))
  · by_cases e : i = m
    · subst e
      obtain ⟨w1, w2, -, w4, -⟩ := hw.wm hi
      unfold Wm ow
      rw [mendF_m (k := 0) (by decide) (by decide) (by decide) (by decide), mendF_m (k := 1) (by decide) (by decide) (by decide) (by decide), mendF_m (k := 6) (by decide) (by decide) (by decide) (by decide), mendF_2, mendF_3]
      exact ⟨w1, w2, Or.inl rfl, w4, fun _ => 0, fun j hj => by rw [mendF_8 hj]; rfl, rfl, by decide, fun _ => by decide, fun h => absurd h (by decide)⟩
    · exact Wm_congr (hw.wm hi) (z i e)
  · by_cases e : i = m
    · subst e
      exact mendF_m (by decide) (by decide) (by decide) (by decide)
    · exact z i e 0 (by decide)
theorem Wm.broken {f : FF} {m : Nat} (h : Wm f m) (hb : f (49 + 14 * m + 2) ≠ 0) : ∃ n, 10 ≤ n ∧ n ≤ 211 ∧ f (49 + 14 * m + 3) = nI n := by
  obtain ⟨-, -, h2, -, g, -, g2, g3, -, g5⟩ := h
  exact ⟨_, g5 (h2.resolve_left hb), g3, g2⟩
