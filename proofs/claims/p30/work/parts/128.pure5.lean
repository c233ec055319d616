/-! a State's part holds what is laid there -/
theorem Rp_gen {M M1 : MM} {P : PP} {s : Nat} {f f1 : FF} (hp : PS P s) (hr : Rp M P s f) (h1 : RS M1 s f1) (h2 : RF M1 s f1) (h3 : RM M1 s f1) (h6 : f1 6 = f 6) (hj : ∀ j, 133 ≤ j → f1 j = f j) (ha : ∀ a, s + 22 ≤ a → a < s + 52 → M1 a = M a) : Rp M1 P s f1 := by
  refine ⟨h1, h2, h3, fun i g1 g2 k hk => ?_⟩
  have hb := hp.bin g2
  rw [ha _ (by omega) (by omega), hj _ (by omega)]
  exact hr.2.2.2 i (by unfold sn at g1 ⊢; rw [← h6]; exact g1) g2 k hk
theorem RF_of {M M1 : MM} {s : Nat} {f f1 : FF} (h : RF M s f) (hj : ∀ j, 13 ≤ j → j < 49 → f1 j = f j) (ha : ∀ i, i < 6 → M1 (s + 2 + i) = M (s + 2 + i)) : RF M1 s f1 := fun i hi k hk => by
  rw [ha i hi, hj _ (by omega) (by omega)]
  exact h i hi k hk
theorem RM_fr {M M1 : MM} {s : Nat} {f f1 : FF} (h : RM M s f) (h12 : f1 12 = f 12) (hj : ∀ j, 49 ≤ j → j < 133 → f1 j = f j) (ha : ∀ a, s + 9 ≤ a → a < s + 21 → M1 a = M a) : RM M1 s f1 := by
  refine RM_of h12 (fun i g1 g2 => ?_) hj
  have hz := h i g1 g2
  unfold Rm at hz ⊢
  rw [ha (s + 9 + 2 * i) (by omega) (by omega), ha (s + 10 + 2 * i) (by omega) (by omega)]
  exact hz
/-- the numbers of kinds -/
theorem kc_sum {c q : Nat} {f : FF} (hw : Wf c q f) : ∀ {n : Nat}, n ≤ mn f → kc f (nI 0) n + kc f (nI 1) n + kc f (nI 2) n = n
  | 0, _ => rfl
  | n + 1, h => by
    have h1 := kc_sum hw (n := n) (by omega)
    obtain ⟨⟨k, hk, ek⟩, -⟩ := hw.wm (i := n) (by omega)
    simp only [kc]
    rw [ek]
    rcases (show k = 0 ∨ k = 1 ∨ k = 2 by omega) with rfl | rfl | rfl
    · rw [if_pos rfl, if_neg (by decide), if_neg (by decide)]; omega
    · rw [if_neg (by decide), if_pos rfl, if_neg (by decide)]; omega
    · rw [if_neg (by decide), if_neg (by decide), if_pos rfl]; omega
theorem kc_room {c q k : Nat} {f : FF} (hw : Wf c q f) (hk : k < 3) (h : kc f (nI k) (mn f) < 2) : mn f < 6 := by
  have h1 := kc_sum hw (Nat.le_refl _)
  have g0 := hw.wk (k := 0) (by decide)
  have g1 := hw.wk (k := 1) (by decide)
  have g2 := hw.wk (k := 2) (by decide)
  rcases (show k = 0 ∨ k = 1 ∨ k = 2 by omega) with rfl | rfl | rfl <;> omega
/-- a machine is bought at the place n -/
def buyF (f : FF) (n : Nat) (k r x : Int32) : FF := aF (up (up (up f (49 + 14 * n + 0) k) (49 + 14 * n + 1) r) (49 + 14 * n + 5) x) 12 1
section BUY
variable {f : FF} {n : Nat} {k r x : Int32}
theorem buyF_12 : buyF f n k r x 12 = f 12 + 1 := by
  unfold buyF aF
  rw [up_same, up_ne _ _ (by omega), up_ne _ _ (by omega), up_ne _ _ (by omega)]
theorem buyF_ne {j : Nat} (h0 : j ≠ 49 + 14 * n + 0) (h1 : j ≠ 49 + 14 * n + 1) (h5 : j ≠ 49 + 14 * n + 5) (h12 : j ≠ 12) : buyF f n k r x j = f j := by
  unfold buyF aF
  rw [up_ne _ _ h12, up_ne _ _ h5, up_ne _ _ h1, up_ne _ _ h0]
theorem buyF_b : buyF f n k r x (49 + 14 * n + 0) = k ∧ buyF f n k r x (49 + 14 * n + 1) = r ∧ buyF f n k r x (49 + 14 * n + 5) = x := by
  unfold buyF aF
  refine ⟨?_, ?_, ?_⟩
  · rw [up_ne _ _ (by omega), up_ne _ _ (by omega), up_ne _ _ (by omega), up_same]
  · rw [up_ne _ _ (by omega), up_ne _ _ (by omega), up_same]
  · rw [up_ne _ _ (by omega), up_same]
end BUY
theorem fc0 : FP.fconst0.toInt32 = 0 := by decide +kernel
theorem qb_0 : qb 0 = 0 := by
  unfold qb
  rw [← q_0]
  exact fc0
theorem Rp_buy {M M1 : MM} {P : PP} {s c q n : Nat} {f : FF} {k r x : Int32} (hs : isSt s) (hp : PS P s) (hr : Rp M P s f) (hw : Wf c q f) (hn : mn f = n) (h6 : n < 6)
    (a1 : M1 (s + 9 + 2 * n) 0 = k ∧ M1 (s + 9 + 2 * n) 1 = r ∧ M1 (s + 9 + 2 * n) 2 = x ∧ M1 (s + 9 + 2 * n) 3 = FP.fconst0.toInt32 ∧ M1 (s + 9 + 2 * n) 4 = 0 ∧ M1 (s + 9 + 2 * n) 5 = 0 ∧ M1 (s + 9 + 2 * n) 6 = 0) (a2 : ∀ j, j < 6 → M1 (s + 10 + 2 * n) j = 0)
    (d1 : M1 s 3 = f 12 + 1) (d2 : ∀ k, k ≠ 3 → M1 s k = M s k) (e1 : ∀ a, a ≠ s → a ≠ s + 9 + 2 * n → a ≠ s + 10 + 2 * n → M1 a = M a) : Rp M1 P s (buyF f n k r x) := by
  have hl : ∀ j, j < 12 → buyF f n k r x j = f j := fun j hj => buyF_ne (by omega) (by omega) (by omega) (by omega)
  have hm : mn (buyF f n k r x) = n + 1 := mn_eq (by rw [buyF_12, hw.m, hn, nI_1]) (by omega)
  refine Rp_gen hp hr ?_ (RF_of hr.2.1 (fun j h1 h2 => buyF_ne (by omega) (by omega) (by omega) (by omega)) (fun i hi => e1 _ (by omega) (by omega) (by omega))) (fun i g1 g2 => ?_) (hl 6 (by decide)) (fun j hj => buyF_ne (by omega) (by omega) (by omega) (by omega)) (fun a h1 h2 => e1 a (by omega) (by omega) (by omega))
  · obtain ⟨r1, r2, r3, r4, r5, r6, r7, r8, r9, r10, r11, r12, r13⟩ := hr.1
    unfold RS
    rw [d2 4 (by decide), d2 5 (by decide), d2 6 (by decide), d2 7 (by decide), d2 8 (by decide), d2 9 (by decide), d2 10 (by decide), d2 11 (by decide), d2 12 (by decide), d2 13 (by decide), d2 14 (by decide), d2 15 (by decide), d1, buyF_12]
    refine ⟨rfl, ?_, ?_, ?_, ?_, ?_, ?_, ?_, ?_, ?_, ?_, ?_, ?_⟩ <;> rw [hl _ (by decide)] <;> assumption
  · rw [hm] at g1
    by_cases e : i = n
    · subst e
      unfold Rm
      have z : ∀ k, k < 14 → f (49 + 14 * i + k) = 0 := fun k hk => hw.wz g2 (by omega) hk
      have b := buyF_b (f := f) (n := i) (k := k) (r := r) (x := x)
      rw [b.1, b.2.1, b.2.2, buyF_ne (j := 49 + 14 * i + 6) (by omega) (by omega) (by omega) (by omega), buyF_ne (j := 49 + 14 * i + 2) (by omega) (by omega) (by omega) (by omega), buyF_ne (j := 49 + 14 * i + 4) (by omega) (by omega) (by omega) (by omega), buyF_ne (j := 49 + 14 * i + 7) (by omega) (by omega) (by omega) (by omega), z 6 (by decide), z 2 (by decide), z 4 (by decide), z 7 (by decide)]
      rw [fc0] at a1
      refine ⟨a1.1, a1.2.1, a1.2.2.1, a1.2.2.2.1, a1.2.2.2.2.1, a1.2.2.2.2.2.1, a1.2.2.2.2.2.2, fun j hj => ?_⟩
      rw [a2 j hj, buyF_ne (by omega) (by omega) (by omega) (by omega), z (8 + j) (by omega)]
    · have hz := hr.2.2.1 i (by omega) g2
      have z : ∀ j, j < 14 → buyF f n k r x (49 + 14 * i + j) = f (49 + 14 * i + j) := fun j hj => buyF_ne (by omega) (by omega) (by omega) (by omega)
      unfold Rm at hz ⊢
      rw [e1 (s + 9 + 2 * i) (by omega) (by omega) (by omega), e1 (s + 10 + 2 * i) (by omega) (by omega) (by omega), z 0 (by decide), z 1 (by decide), z 5 (by decide), z 6 (by decide), z 2 (by decide), z 4 (by decide), z 7 (by decide)]
      exact ⟨hz.1, hz.2.1, hz.2.2.1, hz.2.2.2.1, hz.2.2.2.2.1, hz.2.2.2.2.2.1, hz.2.2.2.2.2.2.1, fun j hj => by rw [z (8 + j) (by omega)]; exact hz.2.2.2.2.2.2.2 j hj⟩
theorem Wf_buy {c k r : Nat} {f : FF} {x : Int32} (hw : Wf c 30 f) (hk : k < 3) (h2 : kc f (nI k) (mn f) < 2) (hr1 : 1 ≤ r) (hr2 : r ≤ 99) : Wf c 30 (buyF f (mn f) (nI k) (nI r) x) := by
  have h6 := kc_room hw hk h2
  obtain ⟨n, hn⟩ : ∃ n, n = mn f := ⟨_, rfl⟩
  rw [← hn] at h6 h2 ⊢
  have hl : ∀ j, j < 12 → buyF f n (nI k) (nI r) x j = f j := fun j hj => buyF_ne (by omega) (by omega) (by omega) (by omega)
  have e12 : buyF f n (nI k) (nI r) x 12 = nI (n + 1) := by rw [buyF_12, hw.m, hn, nI_1]
  have em : mn (buyF f n (nI k) (nI r) x) = n + 1 := mn_eq e12 (by omega)
  have es : sn (buyF f n (nI k) (nI r) x) = sn f := by unfold sn; rw [hl 6 (by decide)]
  have ed : dn (buyF f n (nI k) (nI r) x) = dn f := by unfold dn; rw [hl 3 (by decide)]
  have z : ∀ i, i ≠ n → ∀ j, j < 14 → buyF f n (nI k) (nI r) x (49 + 14 * i + j) = f (49 + 14 * i + j) := fun i hi j hj => buyF_ne (by omega) (by omega) (by omega) (by omega)
  have b := buyF_b (f := f) (n := n) (k := nI k) (r := nI r) (x := x)
  obtain ⟨a1, a2, a3, a4, a5, a6, a7, a8⟩ := hw
  unfold Wf
  rw [es, em, ed, hl 6 (by decide), e12, hl 3 (by decide), hl 0 (by decide)]
  refine ⟨a1, ⟨rfl, by omega⟩, a3, a4, fun i hi => ?_, fun i g1 g2 j hj => ?_, fun p hp => ?_, fun k1 hk1 => ?_⟩
  · by_cases e : i = n
    · subst e
      have z0 : ∀ j, j < 14 → f (49 + 14 * i + j) = 0 := fun j hj => a6 i (by omega) (by omega) j hj
      unfold Wm ow
      rw [b.1, b.2.1, buyF_ne (j := 49 + 14 * i + 6) (by omega) (by omega) (by omega) (by omega), buyF_ne (j := 49 + 14 * i + 2) (by omega) (by omega) (by omega) (by omega), buyF_ne (j := 49 + 14 * i + 3) (by omega) (by omega) (by omega) (by omega), z0 6 (by decide), z0 2 (by decide), z0 3 (by decide)]
      exact ⟨⟨k, hk, rfl⟩, ⟨r, hr1, hr2, rfl⟩, Or.inl rfl, ⟨0, by decide, qb_0.symm⟩, fun _ => 0, fun j hj => by rw [buyF_ne (by omega) (by omega) (by omega) (by omega), z0 (8 + j) (by omega)]; rfl, rfl, by decide, fun _ => by decide, fun h => absurd h (by decide)⟩
    · exact Wm_congr (a5 i (by omega)) (z i e)
  · rw [z i (by omega) j hj]
    exact a6 i g1 (by omega) j hj
  · obtain ⟨b1, ⟨m, m1, m2⟩, b3, b4⟩ := a7 p hp
    unfold Wb
    rw [em, ed, buyF_ne (by omega) (by omega) (by omega) (by omega), buyF_ne (by omega) (by omega) (by omega) (by omega), buyF_ne (by omega) (by omega) (by omega) (by omega), buyF_ne (by omega) (by omega) (by omega) (by omega)]
    exact ⟨b1, ⟨m, by omega, m2⟩, b3, b4⟩
  · simp only [kc]
    rw [kc_congr (f := f) (fun i hi => z i (by omega) 0 (by decide)), b.1]
    have := a8 k1 hk1
    rw [← hn] at this
    by_cases e : k1 = k
    · subst e
      rw [if_pos rfl]
      omega
    · rw [if_neg (fun h => e (nI_inj (by omega) (by omega) h).symm)]
      exact this
