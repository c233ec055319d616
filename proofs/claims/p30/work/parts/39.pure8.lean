/-! the orders keep what holds -/
theorem ref_of {A : AS} {c : Nat} (hA : WA c A) {w m i x : Int32} (h : refI A.f w m i x = 0) : isF w ∧ isM A m ∧ (1 ≤ i ∧ i ≤ 99) ∧ (1 ≤ x ∧ x ≤ 12) ∧ sn A.f < 30 := by
  have h30 := refI_room h
  have hs : sn A.f < 30 := by
    have := hA.1.s30
    rcases Nat.lt_or_ge (sn A.f) 30 with z | z
    · exact z
    · exact absurd (by rw [hA.1.s, show sn A.f = 30 by omega]; rfl) h30
  unfold refI at h
  split at h
  · rename_i g1
    split at h
    · rename_i g2
      exact ⟨g1.1, g1.2, g2.1, g2.2, hs⟩
    · exact absurd h (by decide)
  · exact absurd h (by decide)
theorem rng {x : Int32} {a b : Nat} (ha : a ≤ 10000) (hb : b ≤ 10000) (h : nI a ≤ x ∧ x ≤ nI b) : ∃ n, a ≤ n ∧ n ≤ b ∧ x = nI n := by
  have h0 : ¬ x < 0 := Int32.not_lt.mpr (Int32.le_trans (nI_le (a := 0) (Nat.zero_le _) (by omega)) h.1)
  obtain ⟨n, hn, rfl⟩ := nI_of h0
  exact ⟨n, i_le (by omega) hn h.1, i_le hn (by omega) h.2, rfl⟩
theorem Wf_book {c a b i x : Nat} {f : FF} (hw : Wf c 30 f) (hs : sn f < 30) (ha : a < 6) (hb : b < mn f) (hi1 : 1 ≤ i) (hi2 : i ≤ 99) (hx1 : 1 ≤ x) (hx2 : x ≤ 12) : Wf c 30 (bookF f (sn f) (nI a) (nI b) (nI i) (nI x)) := by
  obtain ⟨n, hn⟩ : ∃ n, n = sn f := ⟨_, rfl⟩
  rw [← hn] at hs ⊢
  have e : ∀ j, j ≠ 5 → j ≠ 6 → j < 133 + 6 * n → bookF f n (nI a) (nI b) (nI i) (nI x) j = f j := fun j h5 h6 hj => bookF_ne (by omega) h6 h5
  have e6 : bookF f n (nI a) (nI b) (nI i) (nI x) 6 = nI (n + 1) := by rw [bookF_6, hw.s, ← hn, nI_1]
  have es : sn (bookF f n (nI a) (nI b) (nI i) (nI x)) = n + 1 := sn_eq e6 (by omega)
  have e12 := e 12 (by decide) (by decide) (by omega)
  have e3 := e 3 (by decide) (by decide) (by omega)
  have em : mn (bookF f n (nI a) (nI b) (nI i) (nI x)) = mn f := by unfold mn; rw [e12]
  have ed : dn (bookF f n (nI a) (nI b) (nI i) (nI x)) = dn f := by unfold dn; rw [e3]
  have m6 := hw.m6
  have hd := hw.d
  obtain ⟨a1, a2, a3, a4, a5, a6, a7, a8⟩ := hw
  obtain ⟨b0, b1, b2, b3, b4, b5⟩ := bookF_b (f := f) (n := n) (w := nI a) (m := nI b) (i := nI i) (h := nI x)
  unfold Wf
  rw [es, em, ed, e6, e12, e3, e 0 (by decide) (by decide) (by omega)]
  refine ⟨⟨rfl, by omega⟩, a2, a3, a4, fun j hj => Wm_congr (a5 j hj) (fun k hk => e _ (by omega) (by omega) (by omega)), fun j g1 g2 k hk => by rw [e _ (by omega) (by omega) (by omega)]; exact a6 j g1 g2 k hk, fun p hp => ?_, fun k hk => by rw [kc_congr (fun j hj => e _ (by omega) (by omega) (by omega))]; exact a8 k hk⟩
  by_cases ep : p = n
  · subst ep
    unfold Wb
    rw [em, ed, b1, b2, b3, b4, hd, nI_add]
    exact ⟨⟨a, ha, rfl⟩, ⟨b, hb, rfl⟩, ⟨dn f + i, by omega, fun _ => by omega, by omega, rfl⟩, ⟨x, hx1, hx2, rfl⟩⟩
  · exact Wb_congr (a7 p (by omega)) e12 e3 (fun k k1 k2 => e _ (by omega) (by omega) (by omega)) (fun z => z)
theorem Wf_drop {c p : Nat} {f : FF} (hw : Wf c 30 f) (hp : p < sn f) : Wf c 30 (dropF f p (sn f - 1)) := by
  obtain ⟨n, hn⟩ : ∃ n, sn f = n + 1 := ⟨sn f - 1, by omega⟩
  rw [hn] at hp ⊢
  show Wf c 30 (dropF f p n)
  have e : ∀ j, j ≠ 6 → j < 133 → dropF f p n j = f j := fun j h8 hj => dropF_ne h8 (by omega) (by omega)
  have e6 : dropF f p n 6 = nI n := if_pos rfl
  have es : sn (dropF f p n) = n := sn_eq e6 (by have := hw.s30; omega)
  have e12 := e 12 (by decide) (by decide)
  have e3 := e 3 (by decide) (by decide)
  have em : mn (dropF f p n) = mn f := by unfold mn; rw [e12]
  have ed : dn (dropF f p n) = dn f := by unfold dn; rw [e3]
  have m6 := hw.m6
  have s30 := hw.s30
  obtain ⟨a1, a2, a3, a4, a5, a6, a7, a8⟩ := hw
  unfold Wf
  rw [es, em, ed, e6, e12, e3, e 0 (by decide) (by decide)]
  exact ⟨⟨rfl, by omega⟩, a2, a3, a4, fun j hj => Wm_congr (a5 j hj) (fun k hk => e _ (by omega) (by omega)), fun j g1 g2 k hk => by rw [e _ (by omega) (by omega)]; exact a6 j g1 g2 k hk, fun p1 hp1 => Wb_congr (p := if p1 < p then p1 else p1 + 1) (a7 _ (by split <;> omega)) e12 e3 (fun k k1 k2 => by rw [dropF_b hp1 (by omega)]) (fun _ => by split <;> omega), fun k hk => by rw [kc_congr (fun j hj => e _ (by omega) (by omega))]; exact a8 k hk⟩
section KEEP
variable {A : AS} {c : Nat}
theorem WA_sLic {w x : Int32} (hA : WA c A) : WA c (sLic A w x).2 := by
  unfold sLic
  split
  · rename_i hi
    obtain ⟨a, ha, -, hcl⟩ := isF_of hi
    rw [hcl]
    split
    · split
      · exact hA
      · exact WA_now (WA_psh hA) (Wf_up hA.1 (by omega) (by omega) (by omega) (by omega) (by omega))
    · exact hA
  · exact hA
theorem WA_sRate {m x : Int32} (hA : WA c A) : WA c (sRate A m x).2 := by
  unfold sRate
  split
  · rename_i hi
    obtain ⟨a, ha, -, hcl⟩ := isM_of hA hi
    rw [hcl]
    split
    · rename_i hx
      obtain ⟨n, h1, h2, e⟩ := rng (a := 1) (b := 99) (by decide) (by decide) hx
      split
      · exact hA
      · rw [e]
        exact WA_now (WA_psh hA) (Wf_rate hA.1 ha h1 h2)
    · exact hA
  · exact hA
theorem WA_sSeed {x : Int32} (hA : WA c A) : WA c (sSeed A x).2 := by
  unfold sSeed
  split
  · split
    · exact hA
    · exact WA_now (WA_psh hA) (Wf_up hA.1 (by omega) (by omega) (by omega) (by omega) (by omega))
  · exact hA
theorem WA_sSet {k x : Int32} (hA : WA c A) : WA c (sSet A k x).2 := by
  unfold sSet
  split
  · rename_i hx
    obtain ⟨n, h1, h2, e⟩ := rng (a := 10) (b := 200) (by decide) (by decide) hx.2
    split
    · exact hA
    · rw [e]
      exact WA_now (WA_psh hA) (Wf_up0 hA.1 h1 h2)
  · split
    · split
      · exact hA
      · exact WA_now (WA_psh hA) (Wf_up hA.1 (by omega) (by omega) (by omega) (by omega) (by omega))
    · exact hA
theorem WA_sPay {w x : Int32} (hA : WA c A) : WA c (sPay A w x).2 := by
  unfold sPay
  split
  · rename_i hi
    obtain ⟨a, ha, -, hcl⟩ := isF_of hi
    rw [hcl]
    split
    · exact WA_now (WA_psh hA) (Wf_up (Wf_up (Wf_up hA.1 (by omega) (by omega) (by omega) (by omega) (by omega)) (by omega) (by omega) (by omega) (by omega) (by omega)) (by omega) (by omega) (by omega) (by omega) (by omega))
    · exact hA
  · exact hA
theorem WA_sFill {w m x : Int32} (hA : WA c A) : WA c (sFill A w m x).2 := by
  unfold sFill
  split
  · rename_i hi
    obtain ⟨a, ha, -, hcl⟩ := isF_of hi.1
    obtain ⟨b, hb, -, hcm⟩ := isM_of hA hi.2
    rw [hcl, hcm]
    split
    · rename_i hx
      obtain ⟨n, h1, h2, e⟩ := rng (a := 1) (b := 500) (by decide) (by decide) hx
      obtain ⟨k, u1, u2, -, -⟩ := fill_u hA.1 hb h2
      rw [← e] at u2
      split
      · rename_i hc
        have hk : k ≤ 2400 := by
          rw [u2, q_600, q_cmp u1 (by decide)] at hc
          rcases Nat.lt_or_ge 2400 k with z | z
          · rw [Nat.compare_eq_gt.mpr z] at hc
            exact absurd hc (by decide)
          · exact z
        refine WA_now (WA_psh hA) ?_
        unfold fillF
        rw [u2]
        exact Wf_up (Wf_up (Wf_up (Wf_fuel hA.1 hb hk) (by omega) (by omega) (by omega) (by omega) (by omega)) (by omega) (by omega) (by omega) (by omega) (by omega)) (by omega) (by omega) (by omega) (by omega) (by omega)
      · exact hA
    · exact hA
  · exact hA
theorem WA_sMend {m : Int32} (hA : WA c A) : WA c (sMend A m).2 := by
  unfold sMend
  split
  · rename_i hi
    obtain ⟨b, hb, -, hcm⟩ := isM_of hA hi
    rw [hcm]
    split
    · exact hA
    · exact WA_now (WA_psh hA) (Wf_mend hA.1 hb)
  · exact hA
theorem WA_sBook {w m i x : Int32} (hA : WA c A) : WA c (sBook A w m i x).2 := by
  unfold sBook
  split
  · rename_i h
    obtain ⟨h1, h2, h3, h4, h5⟩ := ref_of hA h
    obtain ⟨a, ha, ea, -⟩ := isF_of h1
    obtain ⟨b, hb, eb, -⟩ := isM_of hA h2
    obtain ⟨i', i1, i2, ei⟩ := rng (a := 1) (b := 99) (by decide) (by decide) h3
    obtain ⟨x', x1, x2, ex⟩ := rng (a := 1) (b := 12) (by decide) (by decide) h4
    rw [ea, eb, ei, ex]
    exact WA_now (WA_psh hA) (Wf_book hA.1 h5 ha hb i1 i2 x1 x2)
  · exact hA
theorem WA_sBack {b : Int32} (hA : WA c A) : WA c (sBack A b).2 := by
  unfold sBack
  split
  · exact hA
  · rename_i p hp
    exact WA_now (WA_psh hA) (Wf_drop hA.1 (plO_lt hp))
theorem WA_sPass {d : Int32} (hA : WA c A) (hc : c + 60 ≤ 40000) : WA (c + 60) (sPass A d).2 := by
  unfold sPass
  split
  · rename_i hd
    obtain ⟨n, h1, h2, e⟩ := rng (a := 1) (b := 60) (by decide) (by decide) hd
    rw [e, nI_clamp (by omega)]
    exact WA_now (WA_mono (WA_psh hA) (by omega) hc) (Wf_mono (Wf_dFn hA.1 (n := n) (by omega)) (by omega) hc)
  · exact WA_mono hA (by omega) hc
theorem WA_sBuy {x y g : Int32} (hA : WA c A) : WA c (sBuy A x y g).2 := by
  unfold sBuy
  split
  · split
    · rename_i h1 h2
      obtain ⟨k, k1, k2, ek⟩ := rng (a := 0) (b := 2) (by decide) (by decide) h2.1
      obtain ⟨r, r1, r2, er⟩ := rng (a := 1) (b := 99) (by decide) (by decide) h2.2
      split
      · rename_i h3
        split
        · rename_i h4
          rw [← h4, ek] at h3
          rw [ek, er]
          exact WA_now (WA_psh hA) (Wf_buy hA.1 (by omega) h3 r1 r2)
        · exact hA
      · exact hA
    · exact hA
  · exact hA
theorem WA_sUndo (hA : WA c A) : WA c (sUndo A).2 := by
  unfold sUndo
  split
  · exact hA
  · rename_i h
    exact ⟨Wf_ext (hA.2.1 (A.z - 1) (by omega)) (fun k hk => rest_lo hk), fun j hj => hA.2.1 j (by have : j < A.z - 1 := hj; omega), by have := hA.z; show A.z - 1 ≤ 4; omega, hA.2.2.2⟩
theorem WA_sKeep (hA : WA c A) : WA c (sKeep A).2 := ⟨hA.1, hA.2.1, hA.2.2.1, Or.inr rfl, fun _ => hA.1, hA.2.2.2.2.2⟩
theorem WA_sRest (hA : WA c A) : WA c (sRest A).2 := by
  unfold sRest
  split
  · exact hA
  · rename_i h
    exact WA_now (WA_psh hA) (Wf_ext (hA.2.2.2.2.1 (hA.2.2.2.1.resolve_left h)) (fun k hk => rest_lo hk))
theorem WA_sType {x : Int32} (hA : WA c A) : WA c (sType A x).2 := by
  unfold sType
  split
  · exact hA
  · exact ⟨hA.1, hA.2.1, hA.2.2.1, hA.2.2.2.1, hA.2.2.2.2.1, by have := hA.2.2.2.2.2; show A.len + 1 ≤ 60; omega⟩
theorem WA_sClear (hA : WA c A) : WA c (sClear A).2 := ⟨hA.1, hA.2.1, hA.2.2.1, hA.2.2.2.1, hA.2.2.2.2.1, Nat.zero_le _⟩
end KEEP
