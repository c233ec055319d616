/-! bookAll -/

set_option maxRecDepth 100000 in
set_option maxHeartbeats 1000000 in
theorem c7_swaps2 {l : Launch} {D : va_G} {cy : Nat → ClassId} {B : Nat} {M : MM} {P : PP} (hm : PMd P) : KV l D cy B yX7_swapsAside wsX7_swapsAside 0 0 [Value.ref (B + 369)] M P (fun M1 P1 => P1 = P ∧ (∀ x, x < 313 → M1 370 x = M 371 x) ∧ (∀ x, x < 313 → M1 371 x = M 370 x) ∧ (∀ a, a ≠ 370 → a ≠ 371 → M1 a = M a) ∧ (∀ x, 313 ≤ x → M1 370 x = M 370 x)) := by
  refine met_KV (cc := cX7_swapsAside) (maxL := 3) (ret := none) (lv := [some (Value.ref (B + 369)), none, none]) (by decide) rfl rfl rfl (Nat.le_of_ble_eq_true rfl) ?_
  intro X C F
  refine g_iconst (pc := 0) (v := 0) C dX7_swapsAside_0 rfl ?_
  refine g_istore_1 (pc := 1) C dX7_swapsAside_1 ?_
  refine ind_m (fun (k : Nat) => 313 - k) (p := fun (k : Nat) => ∀ M2 : MM, k ≤ 313 → (∀ x, x < k → M2 370 x = M 371 x) → (∀ x, x < k → M2 371 x = M 370 x) → (∀ x, k ≤ x → M2 370 x = M 370 x) → (∀ x, k ≤ x → M2 371 x = M 371 x) → (∀ a, a ≠ 370 → a ≠ 371 → M2 a = M a) → G X D cy B 0 0 376 M2 P 2 [some (Value.ref (B + 369)), some (Value.int (nI k)), none] []) ?_ 0 M (Nat.zero_le _) (fun j hj => absurd hj (Nat.not_lt_zero _)) (fun j hj => absurd hj (Nat.not_lt_zero _)) (fun _ _ => rfl) (fun _ _ => rfl) (fun _ _ _ => rfl)
  intro k ih M2 hk i1 i2 i3 i4 i5
  refine g_iload_1 (pc := 2) C dX7_swapsAside_2 ?_
  refine g_sipush (pc := 3) (v := 313) C dX7_swapsAside_3 rfl ?_
  refine g_icmp_ge (pc := 6) (tgt := 41) C dX7_swapsAside_6 (by decide) (fun c6 => ?_) (fun c6 => ?_)
  · have e : 313 ≤ k := i_le (a := 313) (by omega) (by omega) c6
    have e1 : k = 313 := by omega
    subst e1
    exact g_vret (post := fun M1 P1 => P1 = P ∧ (∀ x, x < 313 → M1 370 x = M 371 x) ∧ (∀ x, x < 313 → M1 371 x = M 370 x) ∧ (∀ a, a ≠ 370 → a ≠ 371 → M1 a = M a) ∧ (∀ x, 313 ≤ x → M1 370 x = M 370 x)) C F dX7_swapsAside_41 ⟨rfl, i1, i2, i5, i3⟩
  · have hk2 : k < 313 := i_nle (a := 313) (by omega) (by omega) c6
    refine g_aload_0 (pc := 9) C dX7_swapsAside_9 ?_
    refine g_getr (pc := 10) C hm.s fl_X7_swapsAside_7 kk369 dX7_swapsAside_10 ?_
    refine g_iload_1 (pc := 13) C dX7_swapsAside_13 ?_
    refine g_iald (pc := 14) (j := k) C kk370 rfl ln370 (by omega) dX7_swapsAside_14 ?_
    refine g_istore_2 (pc := 15) C dX7_swapsAside_15 ?_
    refine g_aload_0 (pc := 16) C dX7_swapsAside_16 ?_
    refine g_getr (pc := 17) C hm.s fl_X7_swapsAside_7 kk369 dX7_swapsAside_17 ?_
    refine g_iload_1 (pc := 20) C dX7_swapsAside_20 ?_
    refine g_aload_0 (pc := 21) C dX7_swapsAside_21 ?_
    refine g_getr (pc := 22) C hm.aside fl_X7_swapsAside_13 kk369 dX7_swapsAside_22 ?_
    refine g_iload_1 (pc := 25) C dX7_swapsAside_25 ?_
    refine g_iald (pc := 26) (j := k) C kk371 rfl ln371 (by omega) dX7_swapsAside_26 ?_
    refine g_iast (pc := 27) (j := k) C kk370 rfl ln370 (by omega) dX7_swapsAside_27 ?_
    refine g_aload_0 (pc := 28) C dX7_swapsAside_28 ?_
    refine g_getr (pc := 29) C hm.aside fl_X7_swapsAside_13 kk369 dX7_swapsAside_29 ?_
    refine g_iload_1 (pc := 32) C dX7_swapsAside_32 ?_
    refine g_iload_2 (pc := 33) C dX7_swapsAside_33 ?_
    refine g_iast (pc := 34) (j := k) C kk371 rfl ln371 (by omega) dX7_swapsAside_34 ?_
    refine g_iinc_1 (pc := 35) (v := nI (k + 1)) C dX7_swapsAside_35 (nI_1 k) ?_
    refine g_goto (pc := 38) (tgt := 2) C dX7_swapsAside_38 (by decide) ?_
    refine g_kill_2 ?_
    refine ih (k + 1) (by omega) _ (by omega) (fun x hx => ?_) (fun x hx => ?_) (fun x hx => ?_) (fun x hx => ?_) (fun a h1 h2 => by rw [up_ne _ _ h2, up_ne _ _ h1]; exact i5 a h1 h2)
    · rw [up_ne _ _ (by decide), up_same]
      by_cases e : x = k
      · subst e
        rw [up_same]; exact i4 _ (Nat.le_refl _)
      · rw [up_ne _ _ e]; exact i1 x (by omega)
    · rw [up_same]
      by_cases e : x = k
      · subst e
        rw [up_same]; exact i3 _ (Nat.le_refl _)
      · rw [up_ne _ _ e, up_ne _ _ (by decide)]; exact i2 x (by omega)
    · rw [up_ne _ _ (by decide), up_same, up_ne _ _ (by omega)]; exact i3 x (by omega)
    · rw [up_same, up_ne _ _ (by omega), up_ne _ _ (by decide)]; exact i4 x (by omega)

/-- the bookings of a text, one behind the other: 0 if all are made, or why the first that isn't can't -/
def bkL : List B4 → FF → Int32 × FF
  | [], f => (0, f)
  | (w, m, i, g) :: L, f => if refI f w m i g = 0 then bkL L (bookF f (sn f) w m i g) else (refI f w m i g, f)
def sAll (A : AS) : Int32 × AS := match fF A.txt A.len 8 0 with
  | some k => (-100000100 - nI k, A)
  | none => if (bkL (bks A.txt A.len 8 0) A.f).1 = 0 then (nI (bks A.txt A.len 8 0).length, stF (psh A) (bkL (bks A.txt A.len 8 0) A.f).2) else ((bkL (bks A.txt A.len 8 0) A.f).1, A)
theorem sAll_S {A : AS} {k : Nat} (h : fF A.txt A.len 8 0 = some k) : sAll A = (-100000100 - nI k, A) := by
  unfold sAll
  rw [h]
theorem sAll_N {A : AS} {L : List B4} (h : fF A.txt A.len 8 0 = none) (hL : L = bks A.txt A.len 8 0) : sAll A = if (bkL L A.f).1 = 0 then (nI L.length, stF (psh A) (bkL L A.f).2) else ((bkL L A.f).1, A) := by
  subst hL
  unfold sAll
  rw [h]
theorem fF_le {t : FF} {len : Nat} : ∀ (n p k : Nat), p ≤ len → fF t len n p = some k → k ≤ len := by
  intro n
  induction n with
  | zero =>
    intro p k hp h
    injection h with h
    omega
  | succ n ih =>
    intro p k hp h
    have hle := pBook_le (t := t) hp
    cases hb : pBook t len p with
    | inl f =>
      rw [fF_inl hb] at h
      rw [hb] at hle
      injection h with h
      have : f ≤ len := hle.1
      omega
    | inr b =>
      obtain ⟨w, m, i, g, q⟩ := b
      rw [fF_inr hb] at h
      rw [hb] at hle
      unfold fC at h
      split at h
      · cases h
      · split at h
        · rename_i e
          exact ih _ _ (sg_le e (by decide)) h
        · injection h with h
          have : q ≤ len := hle.1
          omega
theorem Wf_ref {c : Nat} {A : AS} (hA : WA c A) {w m i x : Int32} (h : refI A.f w m i x = 0) : Wf c 30 (bookF A.f (sn A.f) w m i x) ∧ sn A.f < 30 := by
  obtain ⟨h1, h2, h3, h4, h5⟩ := ref_of hA h
  obtain ⟨a, ha, ea, -⟩ := isF_of h1
  obtain ⟨b, hb, eb, -⟩ := isM_of hA h2
  obtain ⟨i', i1, i2, ei⟩ := rng (a := 1) (b := 99) (by decide) (by decide) h3
  obtain ⟨x', x1, x2, ex⟩ := rng (a := 1) (b := 12) (by decide) (by decide) h4
  refine ⟨?_, h5⟩
  rw [ea, eb, ei, ex]
  exact Wf_book hA.1 h5 ha hb i1 i2 x1 x2
theorem Wf_bkL {c : Nat} : ∀ (L : List B4) (A : AS), WA c A → Wf c 30 (bkL L A.f).2 := by
  intro L
  induction L with
  | nil => exact fun A h => h.1
  | cons b L ih =>
    intro A h
    obtain ⟨w, m, i, g⟩ := b
    rw [bkL]
    split
    · rename_i e
      exact ih (stF A (bookF A.f (sn A.f) w m i g)) (WA_now h (Wf_ref h e).1)
    · exact h.1
theorem WA_sAll {c : Nat} {A : AS} (hA : WA c A) : WA c (sAll A).2 := by
  unfold sAll
  split
  · exact hA
  · split
    · exact WA_now (WA_psh hA) (Wf_bkL _ _ hA)
    · exact hA
/-- what a call of bookAll may touch on the class's side: State 53 and the text's places -/
theorem JC_fr {M M1 : MM} {P : PP} {A : AS} (h : JC M P A) (hz : A.z ≤ 4) (ha : ∀ a, a < 53 ∨ 105 ≤ a → a ≠ 367 → M1 a = M a) (hl : M1 367 1 = nI A.len) : JC M1 P A ∧ FHi M P M1 P := by
  obtain ⟨⟨b1, b2, b3, b4, b5⟩, c2, ⟨c3, c4⟩, c5, c6, c7, c8⟩ := h
  refine ⟨⟨⟨b1, b2, b3, b4, b5⟩, Rp_fr b3 c2 (fun a g1 g2 => ha a (by omega) (by omega)), ⟨by rw [ha 157 (by decide) (by decide)]; exact c3, fun j hj => ?_⟩, by rw [ha 0 (by decide) (by decide)]; exact c5, fun hk => Rp_fr b5 (c6 hk) (fun a g1 g2 => ha a (by omega) (by omega)), hl, fun i hi => by rw [ha 368 (by decide) (by decide)]; exact c8 i hi⟩, fun a g => ⟨ha a (by omega) (by have := g; omega), rfl⟩⟩
  have hj2 : j < A.z := hj
  have hi := b2.2.1 j (by omega)
  have hl := hi.lo
  exact Rp_fr (b2.2.2.2 _ hi) (c4 j hj) (fun a g1 g2 => ha a (by omega) (by omega))
theorem JC_pushB {M M1 : MM} {P P1 : PP} {A : AS} {g : FF} (h : JC M P (stF A g)) (hq : PH P1 ∧ HR M1 P1 (pshZ A.z) (pshH A.z A.hf A.f) ∧ (∀ a, a < 157 ∨ 367 ≤ a → M1 a = M a) ∧ ∀ a, a ≠ 158 → P1 a = P a) : JC M1 P1 (stF (psh A) g) ∧ FHi M P M1 P1 := by
  obtain ⟨⟨b1, b2, b3, b4, b5⟩, c2, c3, c5, c6, c7, c8⟩ := h
  obtain ⟨q1, q2, ha, hP⟩ := hq
  exact ⟨⟨⟨by rw [hP 0 (by decide), hP 367 (by decide)]; exact b1, q1, PS_fr b3 (fun a _ g1 => hP a (by omega)), PS_fr b4 (fun a _ g1 => hP a (by omega)), PS_fr b5 (fun a _ g1 => hP a (by omega))⟩, Rp_P (Rp_fr b3 c2 (fun a _ g2 => ha a (by omega))) (hP _ (by decide)), q2, by rw [ha 0 (by decide)]; exact c5, fun hk => Rp_P (Rp_fr b5 (c6 hk) (fun a g1 g2 => ha a (by omega))) (hP _ (by decide)), by rw [ha 367 (by decide)]; exact c7, fun i hi => by rw [ha 368 (by decide)]; exact c8 i hi⟩, fun a g => ⟨ha a (by omega), hP a (by omega)⟩⟩
/-- the class's loop: k bookings made, the state is g, the text is read up to p -/
def IVa (M M1 : MM) (P : PP) (A : AS) (c : Nat) (R : Int32 × FF) (N k p : Nat) (g : FF) (L : List B4) : Prop := k ≤ 8 ∧ p ≤ A.len ∧ JC M1 P (stF A g) ∧ FHi M P M1 P ∧ Rp M1 P 53 A.f ∧ M1 367 2 = nI p ∧ Wf c 30 g ∧ k + L.length = N ∧ bkL L g = R ∧ ((L = bks A.txt A.len (8 - k) p ∧ fF A.txt A.len (8 - k) p = none) ∨ (L = [] ∧ p = A.len))
/-- a booking more -/
theorem IVa_list {A : AS} {L : List B4} {k p f : Nat} (h8 : k < 8) (h : (L = bks A.txt A.len (8 - k) p ∧ fF A.txt A.len (8 - k) p = none) ∨ (L = [] ∧ p = A.len)) (hb : pBook A.txt A.len p = .inl f) : L = [] := by
  rcases h with ⟨h1, h2⟩ | h
  · rw [show 8 - k = (7 - k) + 1 by omega, bks_inl hb] at h1
    exact h1
  · exact h.1
theorem IVa_more {A : AS} {L : List B4} {k p q : Nat} {w m i g : Int32} (h8 : k < 8) (hp : p ≤ A.len) (h : (L = bks A.txt A.len (8 - k) p ∧ fF A.txt A.len (8 - k) p = none) ∨ (L = [] ∧ p = A.len)) (hb : pBook A.txt A.len p = .inr (w, m, i, g, q)) : q ≤ A.len ∧ ∃ L1, L = (w, m, i, g) :: L1 ∧ (if sg A.txt A.len q = 44 then q + 1 else q) ≤ A.len ∧ ((L1 = bks A.txt A.len (8 - (k + 1)) (if sg A.txt A.len q = 44 then q + 1 else q) ∧ fF A.txt A.len (8 - (k + 1)) (if sg A.txt A.len q = 44 then q + 1 else q) = none) ∨ (L1 = [] ∧ (if sg A.txt A.len q = 44 then q + 1 else q) = A.len)) := by
  have hle := pBook_le (t := A.txt) hp
  rw [hb] at hle
  have l1 : q ≤ A.len := hle.1
  have l2 : p + 7 ≤ q := hle.2
  rcases h with ⟨h1, h2⟩ | h
  · rw [show 8 - k = (8 - (k + 1)) + 1 by omega] at h1 h2
    rw [bks_inr hb] at h1
    rw [fF_inr hb] at h2
    refine ⟨l1, _, h1, ?_⟩
    unfold fC at h2
    by_cases e : A.len ≤ q
    · have e1 : q = A.len := by omega
      have e2 : ¬ sg A.txt A.len q = 44 := by rw [e1, sg_end (Nat.lt_irrefl _)]; decide
      rw [if_neg e2]
      exact ⟨l1, Or.inr ⟨if_pos e, e1⟩⟩
    · rw [if_neg e] at h2
      by_cases e2 : sg A.txt A.len q = 44
      · rw [if_pos e2] at h2
        rw [if_pos e2]
        exact ⟨sg_le e2 (by decide), Or.inl ⟨by unfold bC; rw [if_neg e, if_pos e2], h2⟩⟩
      · rw [if_neg e2] at h2
        cases h2
  · omega
theorem bkL_yes {L : List B4} {f : FF} {w m i g : Int32} (h : refI f w m i g = 0) : bkL ((w, m, i, g) :: L) f = bkL L (bookF f (sn f) w m i g) := by
  rw [bkL, if_pos h]
theorem bkL_no {L : List B4} {f : FF} {w m i g : Int32} (h : ¬ refI f w m i g = 0) : bkL ((w, m, i, g) :: L) f = (refI f w m i g, f) := by
  rw [bkL, if_neg h]

set_option maxRecDepth 100000 in
set_option maxHeartbeats 1000000 in
theorem c6_allS {l : Launch} {D : va_G} {cy : Nat → ClassId} {B : Nat} {M : MM} {P : PP} {A : AS} {c : Nat} (h : JC M P A) (hA : WA c A) {k : Nat} (hF : fF A.txt A.len 8 0 = some k) : KI l D cy B yX6_bookAll wsX6_bookAll 5 109 [Value.ref (B + 0)] M P (fun r M1 P1 => r = (sAll A).1 ∧ JC M1 P1 (sAll A).2 ∧ FHi M P M1 P1) := by
  refine met_KI (cc := cX6_bookAll) (maxL := 5) (ret := (some .int)) (lv := [some (Value.ref (B + 0)), none, none, none, none]) (by decide) rfl rfl rfl (Nat.le_of_ble_eq_true rfl) ?_
  intro X C F
  have pc := h.1
  have hr := h.2.1
  have hw := hA.1
  have h6 := hw.m6
  have h30 := hw.s30
  have hlen : A.len ≤ 60 := hA.2.2.2.2.2
  have hl1 : M 367 1 = nI A.len := h.2.2.2.2.2.1
  have htx : ∀ i, i < A.len → M 368 i = A.txt i := h.2.2.2.2.2.2
  refine g_aload_0 (pc := 0) C dX6_bookAll_0 ?_
  refine g_getr (pc := 1) C pc.text fl_X6_bookAll_32 kk0 dX6_bookAll_1 ?_
  refine g_V0i (pc := 4) C e_X6_bookAll_111 (Nat.le_of_ble_eq_true rfl) rfl dX6_bookAll_4 kk367 (c5_findFault pc.signs hl1 hlen htx) (fun r1 M1 P1 hq => ?_)
  obtain ⟨e1, e2, e3, e4⟩ := hq
  subst P1
  obtain ⟨j1, fh1⟩ := JC_fr h hA.z (fun a _ g => e3 a g) e4
  have e5 : r1 = nI k := by rw [e1, hF]
  rw [e5]
  have hk := fF_le _ _ _ (Nat.zero_le _) hF
  refine g_istore_1 (pc := 7) C dX6_bookAll_7 ?_
  refine g_iload_1 (pc := 8) C dX6_bookAll_8 ?_
  refine g_iconst (pc := 9) (v := -1) C dX6_bookAll_9 rfl ?_
  refine g_icmp_eq (pc := 10) (tgt := 18) C dX6_bookAll_10 (by decide) (fun c10 => ?_) (fun c10 => ?_)
  · exact absurd c10 (d_ne (x := 0) (Int32.not_lt.mp (nI_pos (by omega))))
  · refine g_ldc (pc := 13) C k_X6_bookAll_115 dX6_bookAll_13 ?_
    refine g_iload_1 (pc := 15) C dX6_bookAll_15 ?_
    refine g_isub (pc := 16) C dX6_bookAll_16 ?_
    exact g_iret (post := fun r M1 P1 => r = (sAll A).1 ∧ JC M1 P1 (sAll A).2 ∧ FHi M P M1 P1) C F dX6_bookAll_17 ⟨by rw [sAll_S hF], by rw [sAll_S hF]; exact j1, fh1⟩

set_option maxRecDepth 100000 in
set_option maxHeartbeats 1000000 in
theorem c6_allN {l : Launch} {D : va_G} {cy : Nat → ClassId} {B : Nat} {M : MM} {P : PP} {A : AS} {c : Nat} (h : JC M P A) (hA : WA c A) (hF : fF A.txt A.len 8 0 = none) : KI l D cy B yX6_bookAll wsX6_bookAll 5 109 [Value.ref (B + 0)] M P (fun r M1 P1 => r = (sAll A).1 ∧ JC M1 P1 (sAll A).2 ∧ FHi M P M1 P1) := by
  refine met_KI (cc := cX6_bookAll) (maxL := 5) (ret := (some .int)) (lv := [some (Value.ref (B + 0)), none, none, none, none]) (by decide) rfl rfl rfl (Nat.le_of_ble_eq_true rfl) ?_
  intro X C F
  have pc := h.1
  have hr := h.2.1
  have hw := hA.1
  have h6 := hw.m6
  have h30 := hw.s30
  have hlen : A.len ≤ 60 := hA.2.2.2.2.2
  have hl1 : M 367 1 = nI A.len := h.2.2.2.2.2.1
  have htx : ∀ i, i < A.len → M 368 i = A.txt i := h.2.2.2.2.2.2
  refine g_aload_0 (pc := 0) C dX6_bookAll_0 ?_
  refine g_getr (pc := 1) C pc.text fl_X6_bookAll_32 kk0 dX6_bookAll_1 ?_
  refine g_V0i (pc := 4) C e_X6_bookAll_111 (Nat.le_of_ble_eq_true rfl) rfl dX6_bookAll_4 kk367 (c5_findFault pc.signs hl1 hlen htx) (fun r1 M1 P1 hq => ?_)
  obtain ⟨e1, e2, e3, e4⟩ := hq
  subst P1
  obtain ⟨j1, fh1⟩ := JC_fr h hA.z (fun a _ g => e3 a g) e4
  have e5 : r1 = -1 := by rw [e1, hF]
  rw [e5]
  refine g_istore_1 (pc := 7) C dX6_bookAll_7 ?_
  refine g_iload_1 (pc := 8) C dX6_bookAll_8 ?_
  refine g_iconst (pc := 9) (v := -1) C dX6_bookAll_9 rfl ?_
  refine g_icmp_eq (pc := 10) (tgt := 18) C dX6_bookAll_10 (by decide) (fun c10 => ?_) (fun c10 => ?_)
  · refine g_aload_0 (pc := 18) C dX6_bookAll_18 ?_
    refine g_getr (pc := 19) C pc.before fl_X6_bookAll_16 kk0 dX6_bookAll_19 ?_
    refine g_aload_0 (pc := 22) C dX6_bookAll_22 ?_
    refine g_getr (pc := 23) C pc.now fl_X6_bookAll_10 kk0 dX6_bookAll_23 ?_
    refine g_V1v (pc := 26) C e_X6_bookAll_116 (Nat.le_of_ble_eq_true rfl) rfl dX6_bookAll_26 (kk_s0 is53) (c_copyState is53 is1 (by decide) pc.p53 pc.p1 j1.2.1 hw) (fun M2 P2 hq2 => ?_)
    obtain ⟨e6, r53, e7⟩ := hq2
    subst P2
    obtain ⟨j2, fh2⟩ := JC_fr j1 hA.z (fun a g _ => e7 a (by omega)) (by rw [e7 367 (by decide)]; exact e4)
    refine g_iconst (pc := 29) (v := 0) C dX6_bookAll_29 rfl ?_
    refine g_istore_2 (pc := 30) C dX6_bookAll_30 ?_
    refine g_aload_0 (pc := 31) C dX6_bookAll_31 ?_
    refine g_getr (pc := 32) C pc.text fl_X6_bookAll_32 kk0 dX6_bookAll_32 ?_
    refine g_V0ve (pc := 35) C e_X6_bookAll_119 (Nat.le_of_ble_eq_true rfl) rfl dX6_bookAll_35 kk367 (c5_start) ?_
    obtain ⟨L, hL⟩ : ∃ L, L = bks A.txt A.len 8 0 := ⟨_, rfl⟩
    obtain ⟨R, hR⟩ : ∃ R, R = bkL L A.f := ⟨_, rfl⟩
    obtain ⟨N, hN⟩ : ∃ N, N = L.length := ⟨_, rfl⟩
    obtain ⟨j3, fh3⟩ := JC_fr (M1 := up M2 367 (up (M2 367) 2 0)) j2 hA.z (fun a _ g => up_ne _ _ g) (by rw [up_same, up_ne _ _ (by decide)]; exact j2.2.2.2.2.2.1)
    have I0 : IVa M (up M2 367 (up (M2 367) 2 0)) P A c R N 0 0 A.f L := ⟨by decide, Nat.zero_le _, j3, (fh1.trans fh2).trans fh3, Rp_fr pc.p53 r53 (fun a g1 g2 => up_ne _ _ (by omega)), by rw [up_same, up_same]; rfl, hw, by omega, hR.symm, Or.inl ⟨hL, hF⟩⟩
    refine g_iconst (pc := 38) (v := 0) C dX6_bookAll_38 rfl ?_
    refine g_istore_3 (pc := 39) C dX6_bookAll_39 ?_
    refine ind_m (fun (k : Nat) => 8 - k) (p := fun (k : Nat) => ∀ (M4 : MM) (p : Nat) (g : FF) (L1 : List B4), IVa M M4 P A c R N k p g L1 → G X D cy B 0 0 376 M4 P 40 [some (Value.ref (B + 0)), some (Value.int (-1)), some (Value.int (nI k)), some (Value.int (nI k)), none] []) ?_ 0 _ 0 A.f L I0
    clear e1 e3 e4 j1 j2 j3 fh1 fh2 fh3 I0 r53 e7
    intro k ih M4 p g L1 hI
    obtain ⟨i1, i2, i3, i4, i5, i6, i7, i8, i9, i10⟩ := hI
    have pc4 := i3.1
    have hl4 : M4 367 1 = nI A.len := i3.2.2.2.2.2.1
    have ht4 : ∀ i, i < A.len → M4 368 i = A.txt i := i3.2.2.2.2.2.2
    refine g_iload_3 (pc := 40) C dX6_bookAll_40 ?_
    refine g_bipush (pc := 41) (v := 8) C dX6_bookAll_41 rfl ?_
    refine g_icmp_ge (pc := 43) (tgt := 167) C dX6_bookAll_43 (by decide) (fun c43 => ?_) (fun c43 => ?_)
    · have e : 8 ≤ k := i_le (a := 8) (by omega) (by omega) c43
      have eL : L1 = [] := by
        rcases i10 with ⟨z, -⟩ | z
        · rw [z, show 8 - k = 0 by omega]; rfl
        · exact z.1
      obtain ⟨M5, hM5⟩ : ∃ M5, M5 = M4 := ⟨_, rfl⟩
      rw [← hM5] at i3 i4 i5 ⊢
      refine g_aload_0 (pc := 167) C dX6_bookAll_167 ?_
      refine g_getr (pc := 168) C pc4.hist fl_X6_bookAll_25 kk0 dX6_bookAll_168 ?_
      refine g_aload_0 (pc := 171) C dX6_bookAll_171 ?_
      refine g_getr (pc := 172) C pc4.before fl_X6_bookAll_16 kk0 dX6_bookAll_172 ?_
      refine g_V1v (pc := 175) C e_X6_bookAll_48 (Nat.le_of_ble_eq_true rfl) rfl dX6_bookAll_175 kk157 (c_push is53 (by decide) pc4.p53 i5 hw pc4.hh hA.z i3.2.2.1) (fun M7 P7 hq7 => ?_)
      obtain ⟨j7, fh7⟩ := JC_pushB i3 hq7
      have eN : k = N := by rw [← i8, eL]; rfl
      have eR : R = (0, g) := by rw [← i9, eL]; rfl
      refine g_iload_2 (pc := 178) C dX6_bookAll_178 ?_
      exact g_iret (post := fun r M1 P1 => r = (sAll A).1 ∧ JC M1 P1 (sAll A).2 ∧ FHi M P M1 P1) C F dX6_bookAll_179 ⟨by rw [sAll_N hF hL, ← hR, eR, if_pos rfl, ← hN, eN], by rw [sAll_N hF hL, ← hR, eR, if_pos rfl]; exact j7, i4.trans fh7⟩
    · have hk2 : k < 8 := i_nle (a := 8) (by omega) (by omega) c43
      refine g_aload_0 (pc := 46) C dX6_bookAll_46 ?_
      refine g_getr (pc := 47) C pc4.text fl_X6_bookAll_32 kk0 dX6_bookAll_47 ?_
      refine g_V0i (pc := 50) C e_X6_bookAll_122 (Nat.le_of_ble_eq_true rfl) rfl dX6_bookAll_50 kk367 (c5_readBooking pc4.signs hl4 i6 hlen i2 ht4) (fun r5 M5 P5 hq5 => ?_)
      obtain ⟨k1, k2, k3, k4⟩ := hq5
      subst P5
      obtain ⟨j5, fh5⟩ := JC_fr i3 hA.z (fun a _ z => k2 a z) k3
      have q53 : Rp M5 P 53 A.f := Rp_fr pc4.p53 i5 (fun a _ z => k2 a (by omega))
      refine g_if_eq (pc := 53) (tgt := 167) C dX6_bookAll_53 (by decide) (fun c53 => ?_) (fun c53 => ?_)
      · obtain ⟨f, eB, -⟩ := PB_no k4 c53
        have eL := IVa_list hk2 i10 eB
        clear i3 i5 i6
        have i3 := j5
        have i5 := q53
        have i4 := FHi.trans i4 fh5
        refine g_aload_0 (pc := 167) C dX6_bookAll_167 ?_
        refine g_getr (pc := 168) C pc4.hist fl_X6_bookAll_25 kk0 dX6_bookAll_168 ?_
        refine g_aload_0 (pc := 171) C dX6_bookAll_171 ?_
        refine g_getr (pc := 172) C pc4.before fl_X6_bookAll_16 kk0 dX6_bookAll_172 ?_
        refine g_V1v (pc := 175) C e_X6_bookAll_48 (Nat.le_of_ble_eq_true rfl) rfl dX6_bookAll_175 kk157 (c_push is53 (by decide) pc4.p53 i5 hw pc4.hh hA.z i3.2.2.1) (fun M7 P7 hq7 => ?_)
        obtain ⟨j7, fh7⟩ := JC_pushB i3 hq7
        have eN : k = N := by rw [← i8, eL]; rfl
        have eR : R = (0, g) := by rw [← i9, eL]; rfl
        refine g_iload_2 (pc := 178) C dX6_bookAll_178 ?_
        exact g_iret (post := fun r M1 P1 => r = (sAll A).1 ∧ JC M1 P1 (sAll A).2 ∧ FHi M P M1 P1) C F dX6_bookAll_179 ⟨by rw [sAll_N hF hL, ← hR, eR, if_pos rfl, ← hN, eN], by rw [sAll_N hF hL, ← hR, eR, if_pos rfl]; exact j7, i4.trans fh7⟩
      · obtain ⟨w, m, i, x, q, eB, t2, t3, t4, t5, t6⟩ := PB_yes k4 c53
        obtain ⟨lq0, L2, eL, lq, hor⟩ := IVa_more hk2 i2 i10 eB
        refine g_aload_0 (pc := 56) C dX6_bookAll_56 ?_
        refine g_getr (pc := 57) C pc4.now fl_X6_bookAll_10 kk0 dX6_bookAll_57 ?_
        refine g_aload_0 (pc := 60) C dX6_bookAll_60 ?_
        refine g_getr (pc := 61) C pc4.text fl_X6_bookAll_32 kk0 dX6_bookAll_61 ?_
        refine g_geti (pc := 64) C fl_X6_bookAll_126 kk367 dX6_bookAll_64 ?_
        rw [show M5 367 3 = _ from t3]
        refine g_aload_0 (pc := 67) C dX6_bookAll_67 ?_
        refine g_getr (pc := 68) C pc4.text fl_X6_bookAll_32 kk0 dX6_bookAll_68 ?_
        refine g_geti (pc := 71) C fl_X6_bookAll_129 kk367 dX6_bookAll_71 ?_
        rw [show M5 367 4 = _ from t4]
        refine g_aload_0 (pc := 74) C dX6_bookAll_74 ?_
        refine g_getr (pc := 75) C pc4.text fl_X6_bookAll_32 kk0 dX6_bookAll_75 ?_
        refine g_geti (pc := 78) C fl_X6_bookAll_132 kk367 dX6_bookAll_78 ?_
        rw [show M5 367 5 = _ from t5]
        refine g_aload_0 (pc := 81) C dX6_bookAll_81 ?_
        refine g_getr (pc := 82) C pc4.text fl_X6_bookAll_32 kk0 dX6_bookAll_82 ?_
        refine g_geti (pc := 85) C fl_X6_bookAll_135 kk367 dX6_bookAll_85 ?_
        rw [show M5 367 6 = _ from t6]
        refine g_V4ie (pc := 88) C e_X6_bookAll_104 (Nat.le_of_ble_eq_true rfl) rfl dX6_bookAll_88 (kk_s0 is1) (c_whyNotBook is1 pc4.p1 j5.2.1 i7) ?_
        refine g_istore_4 (pc := 91) C dX6_bookAll_91 ?_
        refine g_iload_4 (pc := 93) C dX6_bookAll_93 ?_
        refine g_if_eq (pc := 95) (tgt := 112) C dX6_bookAll_95 (by decide) (fun c95 => ?_) (fun c95 => ?_)
        · have hz : refI g w m i x = 0 := c95
          have hWr := Wf_ref (WA_now (f1 := g) hA i7) hz
          have w6 : Wf c 30 (bookF g (sn g) w m i x) := hWr.1
          have h30b : sn g < 30 := hWr.2
          refine g_aload_0 (pc := 112) C dX6_bookAll_112 ?_
          refine g_getr (pc := 113) C pc4.now fl_X6_bookAll_10 kk0 dX6_bookAll_113 ?_
          refine g_aload_0 (pc := 116) C dX6_bookAll_116 ?_
          refine g_getr (pc := 117) C pc4.text fl_X6_bookAll_32 kk0 dX6_bookAll_117 ?_
          refine g_geti (pc := 120) C fl_X6_bookAll_126 kk367 dX6_bookAll_120 ?_
          rw [show M5 367 3 = _ from t3]
          refine g_aload_0 (pc := 123) C dX6_bookAll_123 ?_
          refine g_getr (pc := 124) C pc4.text fl_X6_bookAll_32 kk0 dX6_bookAll_124 ?_
          refine g_geti (pc := 127) C fl_X6_bookAll_129 kk367 dX6_bookAll_127 ?_
          rw [show M5 367 4 = _ from t4]
          refine g_aload_0 (pc := 130) C dX6_bookAll_130 ?_
          refine g_getr (pc := 131) C pc4.text fl_X6_bookAll_32 kk0 dX6_bookAll_131 ?_
          refine g_geti (pc := 134) C fl_X6_bookAll_132 kk367 dX6_bookAll_134 ?_
          rw [show M5 367 5 = _ from t5]
          refine g_aload_0 (pc := 137) C dX6_bookAll_137 ?_
          refine g_getr (pc := 138) C pc4.text fl_X6_bookAll_32 kk0 dX6_bookAll_138 ?_
          refine g_geti (pc := 141) C fl_X6_bookAll_135 kk367 dX6_bookAll_141 ?_
          rw [show M5 367 6 = _ from t6]
          refine g_V4i (pc := 144) C e_X6_bookAll_108 (Nat.le_of_ble_eq_true rfl) rfl dX6_bookAll_144 (kk_s0 is1) (c_addBooking is1 pc4.p1 j5.2.1 i7 h30b) (fun r6 M6 P6 hq6 => ?_)
          obtain ⟨-, k5, k6, k7⟩ := hq6
          subst P6
          obtain ⟨g2, hg2⟩ : ∃ g2, bookF g (sn g) w m i x = g2 := ⟨_, rfl⟩
          rw [hg2] at k6 w6
          obtain ⟨j6, fh6⟩ := JC_now (f1 := g2) j5 hA.z pc4.p1 k6 (fun a z => k7 a (by omega)) (fun _ _ => rfl)
          refine g_pop (pc := 147) C dX6_bookAll_147 rfl ?_
          refine g_iinc_2 (pc := 148) (v := nI (k + 1)) C dX6_bookAll_148 (nI_1 k) ?_
          refine g_aload_0 (pc := 151) C dX6_bookAll_151 ?_
          refine g_getr (pc := 152) C pc4.text fl_X6_bookAll_32 kk0 dX6_bookAll_152 ?_
          refine g_bipush (pc := 155) (v := 44) C dX6_bookAll_155 rfl ?_
          refine g_V1ie (pc := 157) C e_X6_bookAll_138 (Nat.le_of_ble_eq_true rfl) rfl dX6_bookAll_157 kk367 (c5_sign pc4.signs (by rw [k7 367 (by decide)]; exact k3) (by rw [k7 367 (by decide)]; exact t2) hlen lq0 (by rw [k7 368 (by decide), k2 368 (by decide)]; exact ht4)) ?_
          obtain ⟨jD, fhE⟩ := JC_fr (M1 := up M6 367 (up (M6 367) 2 (nI (if sg A.txt A.len q = 44 then q + 1 else q)))) j6 hA.z (fun a _ z => up_ne _ _ z) (by rw [up_same, up_ne _ _ (by decide), k7 367 (by decide)]; exact k3)
          have fhD := ((i4.trans fh5).trans fh6).trans fhE
          have rD : Rp (up M6 367 (up (M6 367) 2 (nI (if sg A.txt A.len q = 44 then q + 1 else q)))) P 53 A.f := Rp_fr pc4.p53 q53 (fun a g1 z => (up_ne _ _ (by omega)).trans (k7 a (by omega)))
          refine g_pop (pc := 160) C dX6_bookAll_160 rfl ?_
          refine g_iinc_3 (pc := 161) (v := nI (k + 1)) C dX6_bookAll_161 (nI_1 k) ?_
          refine g_goto (pc := 164) (tgt := 40) C dX6_bookAll_164 (by decide) ?_
          refine g_kill_4 ?_
          exact ih (k + 1) (by omega) _ _ g2 L2 ⟨by omega, lq, jD, fhD, rD, by rw [up_same, up_same], w6, by rw [← i8, eL]; simp only [List.length_cons]; omega, by rw [← i9, eL, bkL_yes hz]; exact congrArg _ hg2.symm, hor⟩
        · have hz : ¬ refI g w m i x = 0 := c95
          refine g_aload_0 (pc := 98) C dX6_bookAll_98 ?_
          refine g_getr (pc := 99) C pc4.now fl_X6_bookAll_10 kk0 dX6_bookAll_99 ?_
          refine g_aload_0 (pc := 102) C dX6_bookAll_102 ?_
          refine g_getr (pc := 103) C pc4.before fl_X6_bookAll_16 kk0 dX6_bookAll_103 ?_
          refine g_V1v (pc := 106) C e_X6_bookAll_116 (Nat.le_of_ble_eq_true rfl) rfl dX6_bookAll_106 (kk_s0 is1) (c_copyState is1 is53 (by decide) pc4.p1 pc4.p53 q53 hw) (fun M6 P6 hq6 => ?_)
          obtain ⟨k5, k6, k7⟩ := hq6
          subst P6
          obtain ⟨j6, fh6⟩ := JC_now (f1 := A.f) j5 hA.z pc4.p1 k6 (fun a z => k7 a (by omega)) (fun _ _ => rfl)
          refine g_iload_4 (pc := 109) C dX6_bookAll_109 ?_
          exact g_iret (post := fun r M1 P1 => r = (sAll A).1 ∧ JC M1 P1 (sAll A).2 ∧ FHi M P M1 P1) C F dX6_bookAll_111 ⟨by rw [sAll_N hF hL, ← hR, ← i9, eL, bkL_no hz, if_neg (show ¬ (refI g w m i x, g).1 = 0 from hz)], by rw [sAll_N hF hL, ← hR, ← i9, eL, bkL_no hz, if_neg (show ¬ (refI g w m i x, g).1 = 0 from hz)]; exact j6, (i4.trans fh5).trans fh6⟩
  · exact absurd rfl c10

theorem c6_bookAll {l : Launch} {D : va_G} {cy : Nat → ClassId} {B : Nat} {M : MM} {P : PP} {A : AS} {c : Nat} (h : JC M P A) (hA : WA c A) : KI l D cy B yX6_bookAll wsX6_bookAll 5 109 [Value.ref (B + 0)] M P (fun r M1 P1 => r = (sAll A).1 ∧ JC M1 P1 (sAll A).2 ∧ FHi M P M1 P1) := by
  cases hF : fF A.txt A.len 8 0 with
  | none => exact c6_allN h hA hF
  | some k => exact c6_allS h hA hF
