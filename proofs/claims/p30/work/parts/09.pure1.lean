/-! a State's part and memory that changes elsewhere -/
theorem Rp_fr {M M1 : MM} {P : PP} {t : Nat} {f : FF} (hp : PS P t) (h : Rp M P t f) (hf : ∀ a, t ≤ a → a < t + 52 → M1 a = M a) : Rp M1 P t f := by
  refine ⟨?_, ?_, ?_, ?_⟩
  · unfold RS
    rw [hf t (by omega) (by omega)]
    exact h.1
  · intro i hi k hk
    rw [hf _ (by omega) (by omega)]
    exact h.2.1 i hi k hk
  · intro i h1 h2
    unfold Rm
    rw [hf (t + 9 + 2 * i) (by omega) (by omega), hf (t + 10 + 2 * i) (by omega) (by omega)]
    exact h.2.2.1 i h1 h2
  · intro i h1 h2 k hk
    obtain ⟨j, hj, e⟩ := hp.2.2.2.2.2.2.1 i h2
    rw [hf _ (by omega) (by omega)]
    exact h.2.2.2 i h1 h2 k hk
theorem PS.bin {P : PP} {s i : Nat} (h : PS P s) (hi : i < 30) : s + 22 ≤ P (s + 21) i ∧ P (s + 21) i < s + 52 := by
  obtain ⟨j, hj, e⟩ := h.2.2.2.2.2.2.1 i hi
  omega
theorem PS_fr {P P1 : PP} {s : Nat} (h : PS P s) (hf : ∀ a, s ≤ a → a < s + 52 → P1 a = P a) : PS P1 s := by
  unfold PS
  rw [hf s (by omega) (by omega), hf (s + 1) (by omega) (by omega), hf (s + 8) (by omega) (by omega), hf (s + 21) (by omega) (by omega)]
  refine ⟨h.1, h.2.1, h.2.2.1, h.2.2.2.1, h.2.2.2.2.1, fun i hi => ?_, h.2.2.2.2.2.2.1, h.2.2.2.2.2.2.2⟩
  rw [hf _ (by omega) (by omega)]
  exact h.2.2.2.2.2.1 i hi
theorem bookF_ne {f : FF} {n : Nat} {w m i h : Int32} {j : Nat} (h0 : j < 133 + 6 * n ∨ 133 + 6 * n + 6 ≤ j) (h6 : j ≠ 6) (h5 : j ≠ 5) : bookF f n w m i h j = f j := by
  unfold bookF aF
  rw [up_ne _ _ h5, up_ne _ _ h6, up_ne _ _ (by omega), up_ne _ _ (by omega), up_ne _ _ (by omega), up_ne _ _ (by omega), up_ne _ _ (by omega), up_ne _ _ (by omega)]
theorem bookF_6 {f : FF} {n : Nat} {w m i h : Int32} : bookF f n w m i h 6 = f 6 + 1 := by
  unfold bookF aF
  rw [up_ne _ _ (by decide), up_same, up_ne _ _ (by omega), up_ne _ _ (by omega), up_ne _ _ (by omega), up_ne _ _ (by omega), up_ne _ _ (by omega), up_ne _ _ (by omega)]
theorem bookF_5 {f : FF} {n : Nat} {w m i h : Int32} : bookF f n w m i h 5 = f 5 + 1 := by
  unfold bookF aF
  rw [up_same, up_ne _ _ (by decide), up_ne _ _ (by omega), up_ne _ _ (by omega), up_ne _ _ (by omega), up_ne _ _ (by omega), up_ne _ _ (by omega), up_ne _ _ (by omega)]
theorem bookF_b {f : FF} {n : Nat} {w m i h : Int32} : bookF f n w m i h (133 + 6 * n + 0) = f 5 ∧ bookF f n w m i h (133 + 6 * n + 1) = w ∧ bookF f n w m i h (133 + 6 * n + 2) = m ∧ bookF f n w m i h (133 + 6 * n + 3) = f 3 + i ∧ bookF f n w m i h (133 + 6 * n + 4) = h ∧ bookF f n w m i h (133 + 6 * n + 5) = 0 := by
  unfold bookF aF
  have e : ∀ k, k < 6 → 133 + 6 * n + k ≠ 5 ∧ 133 + 6 * n + k ≠ 6 := fun k hk => by omega
  have a : ∀ a b : Nat, a ≠ b → 133 + 6 * n + a ≠ 133 + 6 * n + b := fun a b h => by omega
  refine ⟨?_, ?_, ?_, ?_, ?_, ?_⟩
  · rw [up_ne _ _ (e 0 (by decide)).1, up_ne _ _ (e 0 (by decide)).2, up_ne _ _ (a 0 5 (by decide)), up_ne _ _ (a 0 4 (by decide)), up_ne _ _ (a 0 3 (by decide)), up_ne _ _ (a 0 2 (by decide)), up_ne _ _ (a 0 1 (by decide)), up_same]
  · rw [up_ne _ _ (e 1 (by decide)).1, up_ne _ _ (e 1 (by decide)).2, up_ne _ _ (a 1 5 (by decide)), up_ne _ _ (a 1 4 (by decide)), up_ne _ _ (a 1 3 (by decide)), up_ne _ _ (a 1 2 (by decide)), up_same]
  · rw [up_ne _ _ (e 2 (by decide)).1, up_ne _ _ (e 2 (by decide)).2, up_ne _ _ (a 2 5 (by decide)), up_ne _ _ (a 2 4 (by decide)), up_ne _ _ (a 2 3 (by decide)), up_same]
  · rw [up_ne _ _ (e 3 (by decide)).1, up_ne _ _ (e 3 (by decide)).2, up_ne _ _ (a 3 5 (by decide)), up_ne _ _ (a 3 4 (by decide)), up_same]
  · rw [up_ne _ _ (e 4 (by decide)).1, up_ne _ _ (e 4 (by decide)).2, up_ne _ _ (a 4 5 (by decide)), up_same]
  · rw [up_ne _ _ (e 5 (by decide)).1, up_ne _ _ (e 5 (by decide)).2, up_same]
theorem cl_nI {n : Nat} (h : n < 2 ^ 31) : (nI n).toNatClampNeg = n := nI_clamp h
theorem sn_eq {f : FF} {n : Nat} (h : f 6 = nI n) (hn : n < 2 ^ 31) : sn f = n := by unfold sn; rw [h, nI_clamp hn]
theorem mn_eq {f : FF} {n : Nat} (h : f 12 = nI n) (hn : n < 2 ^ 31) : mn f = n := by unfold mn; rw [h, nI_clamp hn]
theorem dn_eq {f : FF} {n : Nat} (h : f 3 = nI n) (hn : n < 2 ^ 31) : dn f = n := by unfold dn; rw [h, nI_clamp hn]
/-- the representation of a State's part moves on: its numbers, farmers and machines -/
theorem RM_of {M : MM} {s : Nat} {f f1 : FF} (hm : f1 12 = f 12) (h : RM M s f) (hj : ∀ j, 49 ≤ j → j < 133 → f1 j = f j) : RM M s f1 := by
  intro i h1 h2
  have h3 : i < mn f := by unfold mn at *; rw [← hm]; exact h1
  have h4 := h i h3 h2
  unfold Rm at h4 ⊢
  rw [hj (49 + 14 * i + 0) (by omega) (by omega), hj (49 + 14 * i + 1) (by omega) (by omega), hj (49 + 14 * i + 5) (by omega) (by omega), hj (49 + 14 * i + 6) (by omega) (by omega), hj (49 + 14 * i + 2) (by omega) (by omega), hj (49 + 14 * i + 4) (by omega) (by omega), hj (49 + 14 * i + 7) (by omega) (by omega)]
  exact ⟨h4.1, h4.2.1, h4.2.2.1, h4.2.2.2.1, h4.2.2.2.2.1, h4.2.2.2.2.2.1, h4.2.2.2.2.2.2.1, fun j hj2 => by rw [hj _ (by omega) (by omega)]; exact h4.2.2.2.2.2.2.2 j hj2⟩
theorem Rp_book {M M1 : MM} {P : PP} {s c q n : Nat} {f : FF} {w m i h : Int32} (hs : isSt s) (hp : PS P s) (hr : Rp M P s f) (hw : Wf c q f) (hn : sn f = n) (h30 : n < 30)
    (a1 : M1 (P (s + 21) n) 0 = f 5 ∧ M1 (P (s + 21) n) 1 = w ∧ M1 (P (s + 21) n) 2 = m ∧ M1 (P (s + 21) n) 3 = f 3 + i ∧ M1 (P (s + 21) n) 4 = h ∧ M1 (P (s + 21) n) 5 = 0) (a2 : M1 s 4 = nI (n + 1)) (a3 : M1 s 6 = f 5 + 1) (a4 : ∀ k, k ≠ 4 → k ≠ 6 → M1 s k = M s k) (a5 : ∀ a, a ≠ P (s + 21) n → a ≠ s → M1 a = M a) : Rp M1 P s (bookF f n w m i h) := by
  have hb := hp.bin h30
  have h6 : bookF f n w m i h 6 = nI (n + 1) := by rw [bookF_6, hw.s, hn]; exact nI_1 n
  refine ⟨?_, ?_, ?_, ?_⟩
  · obtain ⟨r1, r2, r3, r4, r5, r6, r7, r8, r9, r10, r11, r12, r13⟩ := hr.1
    unfold RS
    rw [a4 3 (by decide) (by decide), a2, a4 5 (by decide) (by decide), a3, a4 7 (by decide) (by decide), a4 8 (by decide) (by decide), a4 9 (by decide) (by decide), a4 10 (by decide) (by decide), a4 11 (by decide) (by decide), a4 12 (by decide) (by decide), a4 13 (by decide) (by decide), a4 14 (by decide) (by decide), a4 15 (by decide) (by decide)]
    refine ⟨?_, h6.symm, ?_, bookF_5.symm, ?_, ?_, ?_, ?_, ?_, ?_, ?_, ?_, ?_⟩ <;> rw [bookF_ne (by omega) (by decide) (by decide)] <;> assumption
  · intro j hj k hk
    rw [a5 _ (by omega) (by omega), bookF_ne (by omega) (by omega) (by omega)]
    exact hr.2.1 j hj k hk
  · have := RM_of (M := M) (s := s) (f1 := bookF f n w m i h) (bookF_ne (by omega) (by decide) (by decide)) hr.2.2.1 (fun j h1 h2 => bookF_ne (by omega) (by omega) (by omega))
    intro j h1 h2
    have h3 := this j h1 h2
    unfold Rm at h3 ⊢
    rw [a5 (s + 9 + 2 * j) (by omega) (by omega), a5 (s + 10 + 2 * j) (by omega) (by omega)]
    exact h3
  · intro j h1 h2 k hk
    rw [sn_eq h6 (by omega)] at h1
    by_cases e : j = n
    · subst e
      obtain ⟨b0, b1, b2, b3, b4, b5⟩ := bookF_b (f := f) (n := j) (w := w) (m := m) (i := i) (h := h)
      obtain ⟨c0, c1, c2, c3, c4, c5⟩ := a1
      rcases (show k = 0 ∨ k = 1 ∨ k = 2 ∨ k = 3 ∨ k = 4 ∨ k = 5 by omega) with rfl | rfl | rfl | rfl | rfl | rfl
      · rw [c0, b0]
      · rw [c1, b1]
      · rw [c2, b2]
      · rw [c3, b3]
      · rw [c4, b4]
      · rw [c5, b5]
    · have hb2 := hp.bin h2
      rw [a5 _ (fun z => e (hp.inj h2 h30 z)) (by omega), bookF_ne (by omega) (by omega) (by omega)]
      exact hr.2.2.2 j (by omega) h2 k hk
theorem io {a x b : Int32} (h : ¬ (x < a ∨ b < x)) : a ≤ x ∧ x ≤ b := ⟨Int32.not_lt.mp fun z => h (Or.inl z), Int32.not_lt.mp fun z => h (Or.inr z)⟩
theorem oi {a x b : Int32} (h : x < a ∨ b < x) : ¬ (a ≤ x ∧ x ≤ b) := fun z => h.elim (Int32.not_lt.mpr z.1) (Int32.not_lt.mpr z.2)
theorem r_of {x : Int32} {n : Nat} (hn : n ≤ 1000) (h : 0 ≤ x ∧ x ≤ nI n - 1) : ∃ i, i < n ∧ x = nI i := by
  obtain ⟨j, hj, rfl⟩ := nI_of (Int32.not_lt.mpr h.1)
  refine ⟨j, ?_, rfl⟩
  have h2 := Int32.le_iff_toInt_le.mp h.2
  rw [show nI n - 1 = nI n - nI 1 from rfl, pk_sub_toInt (by omega) (by omega), nI_toInt hj] at h2
  omega
theorem r_to {i n : Nat} (hi : i < n) (hn : n ≤ 1000) : 0 ≤ nI i ∧ nI i ≤ nI n - 1 := by
  refine ⟨nI_pos' (by omega), ?_⟩
  rw [Int32.le_iff_toInt_le, show nI n - 1 = nI n - nI 1 from rfl, pk_sub_toInt (by omega) (by omega), nI_toInt (by omega)]
  omega
theorem r_not {x : Int32} {n : Nat} (hn : n ≤ 1000) (h : ¬ (0 ≤ x ∧ x ≤ nI n - 1)) : ∀ i, i < n → x ≠ nI i := fun i hi e => h (by rw [e]; exact r_to hi hn)
theorem r5 : (5 : Int32) = nI 6 - 1 := by decide
/-- where the references of the bookings are while the one at i goes up to k - 1 -/
def rot (i k j : Nat) : Nat := if j < i then j else if j + 1 < k then j + 1 else if j + 1 = k then i else j
theorem rot_lt {i k j : Nat} (hi : i < k) (hk : k ≤ 30) (hj : j < 30) : rot i k j < 30 := by
  unfold rot
  split
  · omega
  · split
    · omega
    · split <;> omega
theorem rot_inj {i k a b : Nat} (hi : i < k) (h : rot i k a = rot i k b) : a = b := by
  unfold rot at h
  repeat' split at h
  all_goals omega
theorem rot_0 {i j : Nat} : rot i (i + 1) j = j := by
  unfold rot
  by_cases h1 : j < i
  · rw [if_pos h1]
  · rw [if_neg h1]
    by_cases h2 : j + 1 < i + 1
    · omega
    · rw [if_neg h2]
      by_cases h3 : j + 1 = i + 1
      · rw [if_pos h3]; omega
      · rw [if_neg h3]
theorem rot_a {i k : Nat} (hi : i < k) : rot i k (k - 1) = i := by
  unfold rot
  by_cases h1 : k - 1 < i
  · omega
  · rw [if_neg h1, if_neg (by omega), if_pos (by omega)]
theorem rot_b {i k : Nat} (hi : i < k) : rot i k k = k := by
  unfold rot
  rw [if_neg (by omega), if_neg (by omega), if_neg (by omega)]
theorem rot_s {i k j : Nat} (hi : i < k) (h1 : j ≠ k - 1) (h2 : j ≠ k) : rot i (k + 1) j = rot i k j := by
  unfold rot
  by_cases a1 : j < i
  · rw [if_pos a1, if_pos a1]
  · rw [if_neg a1, if_neg a1]
    by_cases a2 : j + 1 < k
    · rw [if_pos a2, if_pos (by omega)]
    · rw [if_neg a2, if_neg (show ¬ j + 1 < k + 1 by omega), if_neg (show ¬ j + 1 = k + 1 by omega), if_neg (show ¬ j + 1 = k by omega)]
theorem rot_s1 {i k : Nat} (hi : i < k) : rot i (k + 1) (k - 1) = k := by
  unfold rot
  rw [if_neg (by omega), if_pos (by omega)]
  omega
theorem rot_s2 {i k : Nat} (hi : i < k) : rot i (k + 1) k = i := by
  unfold rot
  rw [if_neg (by omega), if_neg (by omega), if_pos rfl]
theorem PS_rot {P P1 : PP} {s i k : Nat} (h : PS P s) (hi : i < k) (hk : k ≤ 30) (h1 : ∀ j, j < 30 → P1 (s + 21) j = P (s + 21) (rot i k j)) (h2 : ∀ a, a ≠ s + 21 → P1 a = P a) : PS P1 s := by
  unfold PS
  rw [h2 s (by omega), h2 (s + 1) (by omega), h2 (s + 8) (by omega)]
  refine ⟨h.1, h.2.1, h.2.2.1, h.2.2.2.1, h.2.2.2.2.1, fun a ha => ?_, fun a ha => ?_, fun a b ha hb e => ?_⟩
  · rw [h2 _ (by omega)]
    exact h.2.2.2.2.2.1 a ha
  · rw [h1 a ha]
    exact h.2.2.2.2.2.2.1 _ (rot_lt hi hk ha)
  · rw [h1 a ha, h1 b hb] at e
    exact rot_inj hi (h.inj (rot_lt hi hk ha) (rot_lt hi hk hb) e)
theorem dropF_ne {f : FF} {i n j : Nat} (h6 : j ≠ 6) (h : j < 133 + 6 * i ∨ 133 + 6 * n + 6 ≤ j) (hin : i ≤ n) : dropF f i n j = f j := by
  unfold dropF
  rw [if_neg h6, if_neg (by omega), if_neg (by omega)]
theorem dropF_b {f : FF} {i n j k : Nat} (hj : j < n) (hk : k < 6) : dropF f i n (133 + 6 * j + k) = f (133 + 6 * (if j < i then j else j + 1) + k) := by
  unfold dropF
  rw [if_neg (by omega), if_neg (by omega)]
  by_cases h : j < i
  · rw [if_neg (by omega), if_pos h]
  · rw [if_pos (by omega), if_neg h]
    congr 1
    omega
theorem Rp_drop {M M1 : MM} {P P1 : PP} {s i n : Nat} {f : FF} (hs : isSt s) (hp : PS P s) (hr : Rp M P s f) (hn : f 6 = nI (n + 1)) (h30 : n + 1 ≤ 30) (hi : i < n + 1) (h1 : ∀ j, j < 30 → P1 (s + 21) j = P (s + 21) (rot i (n + 1) j)) (a2 : M1 s 4 = nI n) (a4 : ∀ k, k ≠ 4 → M1 s k = M s k) (a5 : ∀ a, a ≠ s → M1 a = M a) : Rp M1 P1 s (dropF f i n) := by
  have h6 : dropF f i n 6 = nI n := by unfold dropF; rw [if_pos rfl]
  refine ⟨?_, ?_, ?_, ?_⟩
  · obtain ⟨r1, r2, r3, r4, r5, r6, r7, r8, r9, r10, r11, r12, r13⟩ := hr.1
    unfold RS
    rw [a4 3 (by decide), a2, a4 5 (by decide), a4 6 (by decide), a4 7 (by decide), a4 8 (by decide), a4 9 (by decide), a4 10 (by decide), a4 11 (by decide), a4 12 (by decide), a4 13 (by decide), a4 14 (by decide), a4 15 (by decide)]
    refine ⟨?_, h6.symm, ?_, ?_, ?_, ?_, ?_, ?_, ?_, ?_, ?_, ?_, ?_⟩ <;> rw [dropF_ne (by decide) (by omega) (by omega)] <;> assumption
  · intro j hj k hk
    rw [a5 _ (by omega), dropF_ne (by omega) (by omega) (by omega)]
    exact hr.2.1 j hj k hk
  · have := RM_of (M := M) (s := s) (f1 := dropF f i n) (dropF_ne (by decide) (by omega) (by omega)) hr.2.2.1 (fun j h1 h2 => dropF_ne (by omega) (by omega) (by omega))
    intro j h1 h2
    have h3 := this j h1 h2
    unfold Rm at h3 ⊢
    rw [a5 (s + 9 + 2 * j) (by omega), a5 (s + 10 + 2 * j) (by omega)]
    exact h3
  · intro j g1 g2 k hk
    rw [sn_eq h6 (by omega)] at g1
    have hb := hp.bin (rot_lt (i := i) (k := n + 1) hi h30 g2)
    have hsn : sn f = n + 1 := sn_eq hn (by omega)
    rw [h1 j g2, a5 _ (by omega), dropF_b g1 hk]
    have e : rot i (n + 1) j = if j < i then j else j + 1 := by
      unfold rot
      by_cases h : j < i
      · rw [if_pos h, if_pos h]
      · rw [if_neg h, if_neg h, if_pos (by omega)]
    rw [e]
    exact hr.2.2.2 _ (by rw [hsn]; split <;> omega) (by split <;> omega) k hk
theorem poF_ne {f : FF} {p i j : Nat} (h8 : j ≠ 8) (h3 : j ≠ 133 + 6 * p + 3) (h5 : j ≠ 133 + 6 * p + 5) : poF f p i j = f j := by
  unfold poF aF
  rw [up_ne _ _ h8, up_ne _ _ h5, up_ne _ _ h3]
theorem poF_3 {f : FF} {p i : Nat} : poF f p i (133 + 6 * p + 3) = f 3 + nI i := by
  unfold poF aF
  rw [up_ne _ _ (by omega), up_ne _ _ (by omega), up_same]
theorem poF_5 {f : FF} {p i : Nat} : poF f p i (133 + 6 * p + 5) = f (133 + 6 * p + 5) + 1 := by
  unfold poF aF
  rw [up_ne _ _ (by omega), up_same]
theorem poF_8 {f : FF} {p i : Nat} : poF f p i 8 = f 8 + 1 := by
  unfold poF aF
  rw [up_same, up_ne _ _ (by omega), up_ne _ _ (by omega)]
theorem Rp_po {M M1 : MM} {P : PP} {s c q p i : Nat} {f : FF} (hs : isSt s) (hp : PS P s) (hr : Rp M P s f) (hw : Wf c q f) (hpp : p < sn f)
    (a1 : M1 (P (s + 21) p) 3 = f 3 + nI i) (a2 : M1 (P (s + 21) p) 5 = f (133 + 6 * p + 5) + 1) (a0 : ∀ k, k ≠ 3 → k ≠ 5 → M1 (P (s + 21) p) k = M (P (s + 21) p) k) (a3 : M1 s 8 = f 8 + 1) (a4 : ∀ k, k ≠ 8 → M1 s k = M s k) (a5 : ∀ a, a ≠ P (s + 21) p → a ≠ s → M1 a = M a) : Rp M1 P s (poF f p i) := by
  have h30 := hw.s30
  have hb := hp.bin (i := p) (by omega)
  have h6 : poF f p i 6 = f 6 := poF_ne (by decide) (by omega) (by omega)
  have hsn : sn (poF f p i) = sn f := by unfold sn; rw [h6]
  refine ⟨?_, ?_, ?_, ?_⟩
  · obtain ⟨r1, r2, r3, r4, r5, r6, r7, r8, r9, r10, r11, r12, r13⟩ := hr.1
    unfold RS
    rw [a4 3 (by decide), a4 4 (by decide), a4 5 (by decide), a4 6 (by decide), a4 7 (by decide), a3, a4 9 (by decide), a4 10 (by decide), a4 11 (by decide), a4 12 (by decide), a4 13 (by decide), a4 14 (by decide), a4 15 (by decide)]
    refine ⟨?_, ?_, ?_, ?_, ?_, poF_8.symm, ?_, ?_, ?_, ?_, ?_, ?_, ?_⟩ <;> rw [poF_ne (by decide) (by omega) (by omega)] <;> assumption
  · intro j hj k hk
    rw [a5 _ (by omega) (by omega), poF_ne (by omega) (by omega) (by omega)]
    exact hr.2.1 j hj k hk
  · have := RM_of (M := M) (s := s) (f1 := poF f p i) (poF_ne (by decide) (by omega) (by omega)) hr.2.2.1 (fun j h1 h2 => poF_ne (by omega) (by omega) (by omega))
    intro j h1 h2
    have h3 := this j h1 h2
    unfold Rm at h3 ⊢
    rw [a5 (s + 9 + 2 * j) (by omega) (by omega), a5 (s + 10 + 2 * j) (by omega) (by omega)]
    exact h3
  · intro j g1 g2 k hk
    rw [hsn] at g1
    have hz := hr.2.2.2 j g1 g2 k hk
    by_cases e : j = p
    · subst e
      by_cases e3 : k = 3
      · subst e3; rw [a1, poF_3]
      · by_cases e5 : k = 5
        · subst e5; rw [a2, poF_5]
        · rw [a0 k e3 e5, poF_ne (by omega) (by omega) (by omega)]; exact hz
    · have hb2 := hp.bin g2
      rw [a5 _ (fun z => e (hp.inj g2 (by omega) z)) (by omega), poF_ne (by omega) (by omega) (by omega)]
      exact hz
