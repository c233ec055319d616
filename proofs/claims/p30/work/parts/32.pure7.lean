/-! one number is laid -/
theorem Rp_ff {M : MM} {P : PP} {s a k : Nat} {f : FF} {v : Int32} (hs : isSt s) (hp : PS P s) (hr : Rp M P s f) (ha : a < 6) (hk : k < 6) : Rp (up M (s + 2 + a) (up (M (s + 2 + a)) k v)) P s (up f (13 + 6 * a + k) v) := by
  have e : ∀ j, j < 13 ∨ 49 ≤ j → up f (13 + 6 * a + k) v j = f j := fun j hj => up_ne _ _ (by omega)
  refine Rp_gen hp hr ?_ (fun i hi k1 hk1 => ?_) (RM_fr hr.2.2.1 (e 12 (by decide)) (fun j g1 g2 => e j (by omega)) (fun a1 g1 g2 => up_ne _ _ (by omega))) (e 6 (by decide)) (fun j hj => e j (by omega)) (fun a1 g1 g2 => up_ne _ _ (by omega))
  · obtain ⟨r1, r2, r3, r4, r5, r6, r7, r8, r9, r10, r11, r12, r13⟩ := hr.1
    unfold RS
    rw [up_ne _ _ (by omega)]
    refine ⟨?_, ?_, ?_, ?_, ?_, ?_, ?_, ?_, ?_, ?_, ?_, ?_, ?_⟩ <;> rw [e _ (by decide)] <;> assumption
  · by_cases g : i = a
    · subst g
      rw [up_same]
      by_cases g2 : k1 = k
      · rw [g2, up_same, up_same]
      · rw [up_ne _ _ g2, up_ne _ _ (by omega)]
        exact hr.2.1 i hi k1 hk1
    · rw [up_ne _ _ (by omega), up_ne _ _ (by omega)]
      exact hr.2.1 i hi k1 hk1
theorem Rp_sn {M : MM} {P : PP} {s sl j : Nat} {f : FF} {v : Int32} (hs : isSt s) (hp : PS P s) (hr : Rp M P s f) (hm : (sl = 9 ∧ j = 4) ∨ (sl = 10 ∧ j = 0) ∨ (sl = 11 ∧ j = 1) ∨ (sl = 12 ∧ j = 2) ∨ (sl = 14 ∧ j = 10) ∨ (sl = 15 ∧ j = 11)) : Rp (up M s (up (M s) sl v)) P s (up f j v) := by
  have e : ∀ i, i = 3 ∨ 5 ≤ i ∧ i ≤ 9 ∨ 12 ≤ i → up f j v i = f i := fun i hi => up_ne _ _ (by omega)
  refine Rp_gen hp hr ?_ (RF_of hr.2.1 (fun j g1 g2 => e j (by omega)) (fun i hi => up_ne _ _ (by omega))) (RM_fr hr.2.2.1 (e 12 (by decide)) (fun j g1 g2 => e j (by omega)) (fun a1 g1 g2 => up_ne _ _ (by omega))) (e 6 (by decide)) (fun j hj => e j (by omega)) (fun a1 g1 g2 => up_ne _ _ (by omega))
  obtain ⟨r1, r2, r3, r4, r5, r6, r7, r8, r9, r10, r11, r12, r13⟩ := hr.1
  unfold RS
  rw [up_same]
  rcases hm with ⟨rfl, rfl⟩ | ⟨rfl, rfl⟩ | ⟨rfl, rfl⟩ | ⟨rfl, rfl⟩ | ⟨rfl, rfl⟩ | ⟨rfl, rfl⟩ <;> simp only [up, if_true, if_false, Nat.reduceEqDiff] <;> refine ⟨?_, ?_, ?_, ?_, ?_, ?_, ?_, ?_, ?_, ?_, ?_, ?_, ?_⟩ <;> first | trivial | assumption
theorem Rp_mf {M : MM} {P : PP} {s a sl j : Nat} {f : FF} {v : Int32} (hs : isSt s) (hp : PS P s) (hr : Rp M P s f) (ha : a < 6) (hm : (sl = 1 ∧ j = 1) ∨ (sl = 3 ∧ j = 6)) : Rp (up M (s + 9 + 2 * a) (up (M (s + 9 + 2 * a)) sl v)) P s (up f (49 + 14 * a + j) v) := by
  have e : ∀ i, i < 49 ∨ 133 ≤ i → up f (49 + 14 * a + j) v i = f i := fun i hi => up_ne _ _ (by omega)
  refine Rp_gen hp hr ?_ (RF_of hr.2.1 (fun j g1 g2 => e j (by omega)) (fun i hi => up_ne _ _ (by omega))) (fun i g1 g2 => ?_) (e 6 (by decide)) (fun j hj => e j (by omega)) (fun a1 g1 g2 => up_ne _ _ (by omega))
  · obtain ⟨r1, r2, r3, r4, r5, r6, r7, r8, r9, r10, r11, r12, r13⟩ := hr.1
    unfold RS
    rw [up_ne _ _ (by omega)]
    refine ⟨?_, ?_, ?_, ?_, ?_, ?_, ?_, ?_, ?_, ?_, ?_, ?_, ?_⟩ <;> rw [e _ (by decide)] <;> assumption
  · have g1' : i < mn f := by
      unfold mn at g1 ⊢
      rw [← e 12 (by decide)]
      exact g1
    have hz := hr.2.2.1 i g1' g2
    unfold Rm at hz ⊢
    rw [up_ne (j := s + 10 + 2 * i) _ _ (by omega)]
    by_cases g : i = a
    · subst g
      rw [up_same]
      have zs : ∀ k, k ≠ sl → up (M (s + 9 + 2 * i)) sl v k = M (s + 9 + 2 * i) k := fun k hk => up_ne _ _ hk
      have zj : ∀ k, k ≠ j → up f (49 + 14 * i + j) v (49 + 14 * i + k) = f (49 + 14 * i + k) := fun k hk => up_ne _ _ (by omega)
      rcases hm with ⟨rfl, rfl⟩ | ⟨rfl, rfl⟩
      · rw [zs 0 (by decide), zs 2 (by decide), zs 3 (by decide), zs 4 (by decide), zs 5 (by decide), zs 6 (by decide), zj 0 (by decide), zj 5 (by decide), zj 6 (by decide), zj 2 (by decide), zj 4 (by decide), zj 7 (by decide), up_same, up_same]
        exact ⟨hz.1, rfl, hz.2.2.1, hz.2.2.2.1, hz.2.2.2.2.1, hz.2.2.2.2.2.1, hz.2.2.2.2.2.2.1, fun j hj => by rw [zj (8 + j) (by omega)]; exact hz.2.2.2.2.2.2.2 j hj⟩
      · rw [zs 0 (by decide), zs 1 (by decide), zs 2 (by decide), zs 4 (by decide), zs 5 (by decide), zs 6 (by decide), zj 0 (by decide), zj 1 (by decide), zj 5 (by decide), zj 2 (by decide), zj 4 (by decide), zj 7 (by decide), up_same, up_same]
        exact ⟨hz.1, hz.2.1, hz.2.2.1, rfl, hz.2.2.2.2.1, hz.2.2.2.2.2.1, hz.2.2.2.2.2.2.1, fun j hj => by rw [zj (8 + j) (by omega)]; exact hz.2.2.2.2.2.2.2 j hj⟩
    · rw [up_ne _ _ (by omega)]
      have z : ∀ k, k < 14 → up f (49 + 14 * a + j) v (49 + 14 * i + k) = f (49 + 14 * i + k) := fun k hk => up_ne _ _ (by omega)
      rw [z 0 (by decide), z 1 (by decide), z 5 (by decide), z 6 (by decide), z 2 (by decide), z 4 (by decide), z 7 (by decide)]
      exact ⟨hz.1, hz.2.1, hz.2.2.1, hz.2.2.2.1, hz.2.2.2.2.1, hz.2.2.2.2.2.1, hz.2.2.2.2.2.2.1, fun j hj => by rw [z (8 + j) (by omega)]; exact hz.2.2.2.2.2.2.2 j hj⟩
theorem Wf_up {c q j : Nat} {f : FF} {v : Int32} (hw : Wf c q f) (h0 : j ≠ 0) (h3 : j ≠ 3) (h6 : j ≠ 6) (h12 : j ≠ 12) (hj : j < 49) : Wf c q (up f j v) :=
  Wf_of hw (up_ne _ _ (by omega)) (up_ne _ _ (by omega)) (up_ne _ _ (by omega)) (by rw [up_ne _ _ (by omega)]; exact hw.b) (fun i hi => Wm_congr (hw.wm hi) (fun k hk => up_ne _ _ (by omega))) (fun i hi => up_ne _ _ (by omega)) (fun i g1 g2 k hk => up_ne _ _ (by omega)) (fun i hi => up_ne _ _ (by omega))
theorem Wf_up0 {c q b : Nat} {f : FF} (hw : Wf c q f) (h1 : 10 ≤ b) (h2 : b ≤ 200) : Wf c q (up f 0 (nI b)) :=
  Wf_of hw (up_ne _ _ (by omega)) (up_ne _ _ (by omega)) (up_ne _ _ (by omega)) ⟨b, h1, h2, up_same _ _ _⟩ (fun i hi => Wm_congr (hw.wm hi) (fun k hk => up_ne _ _ (by omega))) (fun i hi => up_ne _ _ (by omega)) (fun i g1 g2 k hk => up_ne _ _ (by omega)) (fun i hi => up_ne _ _ (by omega))
theorem Wf_um {c q a j : Nat} {f : FF} {v : Int32} (hw : Wf c q f) (ha : a < mn f) (hj : j < 14) (hj0 : j ≠ 0) (h : Wm f a → Wm (up f (49 + 14 * a + j) v) a) : Wf c q (up f (49 + 14 * a + j) v) := by
  have h6 := hw.m6
  refine Wf_of hw (up_ne _ _ (by omega)) (up_ne _ _ (by omega)) (up_ne _ _ (by omega)) (by rw [up_ne _ _ (by omega)]; exact hw.b) (fun i hi => ?_) (fun i hi => up_ne _ _ (by omega)) (fun i g1 g2 k hk => up_ne _ _ (by omega)) (fun i hi => up_ne _ _ (by omega))
  by_cases e : i = a
  · subst e
    exact h (hw.wm hi)
  · exact Wm_congr (hw.wm hi) (fun k hk => up_ne _ _ (by omega))
theorem Wf_rate {c q a r : Nat} {f : FF} (hw : Wf c q f) (ha : a < mn f) (h1 : 1 ≤ r) (h2 : r ≤ 99) : Wf c q (up f (49 + 14 * a + 1) (nI r)) := by
  refine Wf_um hw ha (by decide) (by decide) fun h => ?_
  unfold Wm ow at h ⊢
  rw [up_ne _ _ (by omega), up_same, up_ne _ _ (by omega), up_ne _ _ (by omega), up_ne _ _ (by omega)]
  obtain ⟨g1, g2, g3, g4, g, g5, g6⟩ := h
  exact ⟨g1, ⟨r, h1, h2, rfl⟩, g3, g4, g, fun j hj => by rw [up_ne _ _ (by omega)]; exact g5 j hj, g6⟩
theorem Wf_fuel {c q a r : Nat} {f : FF} (hw : Wf c q f) (ha : a < mn f) (h2 : r ≤ 2400) : Wf c q (up f (49 + 14 * a + 6) (qb r)) := by
  refine Wf_um hw ha (by decide) (by decide) fun h => ?_
  unfold Wm ow at h ⊢
  rw [up_ne _ _ (by omega), up_ne _ _ (by omega), up_ne _ _ (by omega), up_same, up_ne _ _ (by omega)]
  obtain ⟨g1, g2, g3, g4, g, g5, g6⟩ := h
  exact ⟨g1, g2, g3, ⟨r, h2, rfl⟩, g, fun j hj => by rw [up_ne _ _ (by omega)]; exact g5 j hj, g6⟩
/-- beyond its 313 numbers a state means nothing -/
theorem Rp_ext {M : MM} {P : PP} {s : Nat} {f f1 : FF} (hr : Rp M P s f) (h : ∀ k, k < 313 → f1 k = f k) : Rp M P s f1 := by
  obtain ⟨⟨r1, r2, r3, r4, r5, r6, r7, r8, r9, r10, r11, r12, r13⟩, hF, hM, hB⟩ := hr
  refine ⟨?_, fun i hi k hk => by rw [h _ (by omega)]; exact hF i hi k hk, fun i g1 g2 => ?_, fun i g1 g2 k hk => by rw [h _ (by omega)]; exact hB i (by unfold sn at g1 ⊢; rw [← h 6 (by decide)]; exact g1) g2 k hk⟩
  · unfold RS
    refine ⟨?_, ?_, ?_, ?_, ?_, ?_, ?_, ?_, ?_, ?_, ?_, ?_, ?_⟩ <;> rw [h _ (by decide)] <;> assumption
  · have hz := hM i (by unfold mn at g1 ⊢; rw [← h 12 (by decide)]; exact g1) g2
    unfold Rm at hz ⊢
    rw [h _ (by omega), h _ (by omega), h _ (by omega), h _ (by omega), h _ (by omega), h _ (by omega), h _ (by omega)]
    exact ⟨hz.1, hz.2.1, hz.2.2.1, hz.2.2.2.1, hz.2.2.2.2.1, hz.2.2.2.2.2.1, hz.2.2.2.2.2.2.1, fun j hj => by rw [h _ (by omega)]; exact hz.2.2.2.2.2.2.2 j hj⟩
theorem Wf_ext {c q : Nat} {f f1 : FF} (hw : Wf c q f) (h : ∀ k, k < 313 → f1 k = f k) : Wf c q f1 := by
  have e6 : sn f1 = sn f := by unfold sn; rw [h 6 (by decide)]
  have e12 : mn f1 = mn f := by unfold mn; rw [h 12 (by decide)]
  have e3 : dn f1 = dn f := by unfold dn; rw [h 3 (by decide)]
  have m6 := hw.m6
  have s30 := hw.s30
  obtain ⟨a1, a2, a3, a4, a5, a6, a7, a8⟩ := hw
  unfold Wf
  rw [e6, e12, e3, h 6 (by decide), h 12 (by decide), h 3 (by decide), h 0 (by decide)]
  exact ⟨a1, a2, a3, a4, fun i hi => Wm_congr (a5 i hi) (fun k hk => h _ (by omega)), fun i g1 g2 k hk => by rw [h _ (by omega)]; exact a6 i g1 g2 k hk, fun p hp => Wb_congr (a7 p hp) (h 12 (by decide)) (h 3 (by decide)) (fun k _ _ => h _ (by omega)) (fun z => z), fun k hk => by rw [kc_congr (fun i hi => h _ (by omega))]; exact a8 k hk⟩
/-- what is laid back -/
def rest (g f : FF) : FF := fun k => if k < 313 then g k else f k
theorem rest_lo {g f : FF} {k : Nat} (h : k < 313) : rest g f k = g k := if_pos h
