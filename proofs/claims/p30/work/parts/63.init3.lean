theorem PC_fr {P P1 : PP} {s : Nat} (h : PS P s) (hf : ∀ a, a < s + 52 → 0 < a → P1 a = P a) (h0 : 0 < s) : PS P1 s := PS_fr h (fun a g1 g2 => hf a g2 (by omega))
/-- three States are made -/
def I1 (c : Nat) (M : MM) (P : PP) : Prop := (∀ s, isSt s → s + 52 ≤ c → PS P s) ∧ Rp M P 1 f0 ∧ P 0 0 = 1 ∧ M 0 = (fun _ => 0) ∧ ∀ a, c ≤ a → M a = (fun _ => 0) ∧ P a = fun _ => 0
theorem st_lo {s : Nat} (h : isSt s) (h2 : s < 157) : s = 1 ∨ s = 53 ∨ s = 105 := by
  unfold isSt at h
  omega
theorem I1_1 {M M1 : MM} {P P1 : PP} (hM : ∀ a, M a = fun _ => 0) (hP : ∀ a, P a = fun _ => 0) (p1 : PS P1 1) (r1 : Rp M1 P1 1 f0) (fr : ∀ a, a < 1 ∨ 1 + 52 ≤ a → M1 a = M a ∧ P1 a = P a) : I1 53 M1 (up P1 0 (up (P1 0) 0 1)) := by
  refine ⟨fun s hs hc => ?_, Rp_P r1 (up_ne _ _ (by decide)), by rw [up_same, up_same], by rw [(fr 0 (by decide)).1, hM], fun a ha => ⟨by rw [(fr a (by omega)).1, hM], by rw [up_ne _ _ (by omega), (fr a (by omega)).2, hP]⟩⟩
  rcases st_lo hs (by omega) with rfl | rfl | rfl
  · exact PS_fr p1 (fun a g1 g2 => up_ne _ _ (by omega))
  · omega
  · omega
theorem I1_s {M M1 : MM} {P P1 : PP} {s j : Nat} (h : I1 s M P) (hs : isSt s) (h1 : 1 < s) (hs2 : s < 157) (hj : j ≠ 0) (p1 : PS P1 s) (fr : ∀ a, a < s ∨ s + 52 ≤ a → M1 a = M a ∧ P1 a = P a) : I1 (s + 52) M1 (up P1 0 (up (P1 0) j s)) := by
  obtain ⟨a1, a2, a3, a4, a5⟩ := h
  have q1 : 53 ≤ s := by rcases st_lo hs hs2 with rfl | rfl | rfl <;> omega
  refine ⟨fun t ht hc => ?_, Rp_P (Rp_fr (P := P) (a1 1 is1 (by omega)) a2 (fun a g1 g2 => (fr a (by omega)).1)) ((up_ne _ _ (by decide)).trans (fr _ (by omega)).2), by rw [up_same, up_ne _ _ (Ne.symm hj), (fr 0 (by omega)).2]; exact a3, by rw [(fr 0 (by omega)).1]; exact a4, fun a ha => ⟨(fr a (by omega)).1.trans (a5 a (by omega)).1, by rw [up_ne _ _ (by omega)]; exact (fr a (by omega)).2.trans (a5 a (by omega)).2⟩⟩
  by_cases e : t = s
  · subst e
    exact PS_fr p1 (fun a g1 g2 => up_ne _ _ (by omega))
  · have := st_apart ht hs e
    exact PS_fr (a1 t ht (by omega)) (fun a g1 g2 => (up_ne _ _ (by have := (st_pos ht).1; omega)).trans (fr a (by omega)).2)
/-- the ring is made -/
def I6 (M : MM) (P : PP) : Prop := PC P ∧ Rp M P 1 f0 ∧ M 157 = (fun _ => 0) ∧ M 0 = (fun _ => 0) ∧ M 367 = (fun _ => 0) ∧ ∀ a, 369 ≤ a → M a = (fun _ => 0) ∧ P a = fun _ => 0
def I4 (M : MM) (P : PP) : Prop := ((P 0 0 = 1 ∧ P 0 1 = 53 ∧ P 0 2 = 105 ∧ P 0 3 = 157) ∧ PH P ∧ PS P 1 ∧ PS P 53 ∧ PS P 105) ∧ Rp M P 1 f0 ∧ M 157 = (fun _ => 0) ∧ M 0 = (fun _ => 0) ∧ ∀ a, 367 ≤ a → M a = (fun _ => 0) ∧ P a = fun _ => 0
theorem I4_of {M M1 : MM} {P P1 : PP} (h : I1 157 M P) (h1 : P 0 1 = 53) (h2 : P 0 2 = 105) (q1 : PH P1) (q2 : M1 157 = fun _ => 0) (fr : ∀ a, a < 157 ∨ 367 ≤ a → M1 a = M a ∧ P1 a = P a) : I4 M1 (up P1 0 (up (P1 0) 3 157)) := by
  obtain ⟨a1, a2, a3, a4, a5⟩ := h
  have e0 := (fr 0 (by decide)).2
  have k : ∀ s, isSt s → s + 52 ≤ 157 → PS (up P1 0 (up (P1 0) 3 157)) s := fun s hs hc => PS_fr (a1 s hs hc) (fun a g1 g2 => (up_ne _ _ (by have := (st_pos hs).1; omega)).trans (fr a (by omega)).2)
  refine ⟨⟨⟨by rw [up_same, up_ne _ _ (by decide), e0]; exact a3, by rw [up_same, up_ne _ _ (by decide), e0]; exact h1, by rw [up_same, up_ne _ _ (by decide), e0]; exact h2, by rw [up_same, up_same]⟩, PH_fr q1 (fun a g1 g2 => up_ne _ _ (by omega)), k 1 is1 (by decide), k 53 is53 (by decide), k 105 is105 (by decide)⟩, Rp_P (Rp_fr (P := P) (a1 1 is1 (by decide)) a2 (fun a g1 g2 => (fr a (by omega)).1)) ((up_ne _ _ (by decide)).trans (fr _ (by decide)).2), q2, (fr 0 (by decide)).1.trans a4, fun a ha => ⟨(fr a (by omega)).1.trans (a5 a (by omega)).1, by rw [up_ne _ _ (by omega)]; exact (fr a (by omega)).2.trans (a5 a (by omega)).2⟩⟩
theorem I6_of {M : MM} {P : PP} (h : I4 M P) : I6 M (up (up P 367 (up (P 367) 0 368)) 0 (up (up P 367 (up (P 367) 0 368) 0) 4 367)) := by
  obtain ⟨⟨⟨b1, b2, b3, b4⟩, b5, b6, b7, b8⟩, a2, a3, a4, a5⟩ := h
  have e : ∀ a, a ≠ 0 → a ≠ 367 → (up (up P 367 (up (P 367) 0 368)) 0 (up (up P 367 (up (P 367) 0 368) 0) 4 367)) a = P a := fun a g1 g2 => by rw [up_ne _ _ g1, up_ne _ _ g2]
  have e0 : ∀ j, j ≠ 4 → (up (up P 367 (up (P 367) 0 368)) 0 (up (up P 367 (up (P 367) 0 368) 0) 4 367)) 0 j = P 0 j := fun j hj => by rw [up_same, up_ne _ _ hj, up_ne _ _ (by decide)]
  exact ⟨⟨⟨by rw [e0 0 (by decide)]; exact b1, by rw [e0 1 (by decide)]; exact b2, by rw [e0 2 (by decide)]; exact b3, by rw [e0 3 (by decide)]; exact b4, by rw [up_same, up_same], by rw [up_ne _ _ (by decide), up_same, up_same]⟩, PH_fr b5 (fun a g1 g2 => e a (by omega) (by omega)), PS_fr b6 (fun a g1 g2 => e a (by omega) (by omega)), PS_fr b7 (fun a g1 g2 => e a (by omega) (by omega)), PS_fr b8 (fun a g1 g2 => e a (by omega) (by omega))⟩, Rp_P a2 (e _ (by decide) (by decide)), a3, a4, (a5 367 (Nat.le_refl _)).1, fun a ha => ⟨(a5 a (by omega)).1, by rw [e a (by omega) (by omega)]; exact (a5 a (by omega)).2⟩⟩

set_option maxRecDepth 100000 in
set_option maxHeartbeats 1000000 in
theorem c6_init {l : Launch} {D : va_G} {cy : Nat → ClassId} {B : Nat} {M : MM} {P : PP} (hM : ∀ a, M a = fun _ => 0) (hP : ∀ a, P a = fun _ => 0) : KC l D cy B yX6_init wsX6_init 4 74 368 2579 (1) (369) [Value.ref (B + 0)] M P (I6) := by
  refine met_KC (cc := cX6_init) (maxL := 1) (lv := [some (Value.ref (B + 0))]) (by decide) (by decide +kernel) rfl rfl rfl (Nat.le_of_ble_eq_true rfl) (by decide) ?_
  intro X C F Z I
  refine g_aload_0 (pc := 0) C dX6_init_0 ?_
  refine g_objInit (pc := 1) C (List.mem_of_getElem? (i := 1) (by decide +kernel)) (List.mem_of_getElem? (i := 2) (by decide +kernel)) (List.mem_of_getElem? (i := 3) (by decide +kernel)) dX6_init_1 rfl (Nat.le_of_ble_eq_true rfl) (Nat.le_of_ble_eq_true rfl) ?_
  refine g_aload_0 (pc := 4) C dX6_init_4 ?_
  refine g_new (pc := 5) C Z nw_X6_init_7 (N := 16) rfl dX6_init_5 (by omega) (by decide) (hM _) (hP _) (by omega) (by omega) ?_
  refine g_dup (pc := 8) C dX6_init_8 rfl ?_
  refine g_callI (pc := 9) C Z ei_X6_init_9 (List.mem_of_getElem? (i := 18) (by decide +kernel)) dX6_init_9 (c4_init is1 (fun a _ => hM a) (fun a _ => hP a)) (by omega) (Nat.le_of_ble_eq_true rfl) rfl (by omega) (by omega) (fun M1 P1 hq1 => ?_)
  obtain ⟨p1, r1, fr1⟩ := hq1
  refine g_putF (pc := 12) C I pf_X6_init_10 dX6_init_12 rfl rfl ⟨by decide, by decide⟩ (by omega) ?_
  refine g_memo2 (fun M2 P2 => I1 53 M2 P2) (I1_1 hM hP p1 r1 fr1) (fun M2 P2 h2 => ?_)
  clear p1 r1 fr1
  refine g_at (c2 := 52) (s2 := 358) (n2 := 53) (by omega) (by omega) (by omega) ?_
  refine g_aload_0 (pc := 15) C dX6_init_15 ?_
  refine g_new (pc := 16) C Z nw_X6_init_7 (N := 16) rfl dX6_init_16 (by omega) (by decide) (h2.2.2.2.2 _ (Nat.le_refl _)).1 (h2.2.2.2.2 _ (Nat.le_refl _)).2 (by omega) (by omega) ?_
  refine g_dup (pc := 19) C dX6_init_19 rfl ?_
  refine g_callI (pc := 20) C Z ei_X6_init_9 (List.mem_of_getElem? (i := 18) (by decide +kernel)) dX6_init_20 (c4_init is53 (fun a ha => (h2.2.2.2.2 a ha).1) (fun a ha => (h2.2.2.2.2 a ha).2)) (by omega) (Nat.le_of_ble_eq_true rfl) rfl (by omega) (by omega) (fun M3 P3 hq3 => ?_)
  obtain ⟨p3, -, fr3⟩ := hq3
  refine g_putF (pc := 23) C I pf_X6_init_16 dX6_init_23 rfl rfl ⟨by decide, by decide⟩ (by omega) ?_
  refine g_memo2 (fun M4 P4 => I1 105 M4 P4 ∧ P4 0 1 = 53) ⟨I1_s h2 is53 (by decide) (by decide) (by decide) p3 fr3, by rw [up_same, up_same]⟩ (fun M4 P4 h4 => ?_)
  clear p3 fr3
  obtain ⟨h4, n1⟩ := h4
  refine g_at (c2 := 105 - 1) (s2 := 716) (n2 := 105) (by omega) (by omega) (by omega) ?_
  refine g_aload_0 (pc := 26) C dX6_init_26 ?_
  refine g_new (pc := 27) C Z nw_X6_init_7 (N := 16) rfl dX6_init_27 (by omega) (by decide) (h4.2.2.2.2 _ (Nat.le_refl _)).1 (h4.2.2.2.2 _ (Nat.le_refl _)).2 (by omega) (by omega) ?_
  refine g_dup (pc := 30) C dX6_init_30 rfl ?_
  refine g_callI (pc := 31) C Z ei_X6_init_9 (List.mem_of_getElem? (i := 18) (by decide +kernel)) dX6_init_31 (c4_init is105 (fun a ha => (h4.2.2.2.2 a ha).1) (fun a ha => (h4.2.2.2.2 a ha).2)) (by omega) (Nat.le_of_ble_eq_true rfl) rfl (by omega) (by omega) (fun M5 P5 hq5 => ?_)
  obtain ⟨p5, -, fr5⟩ := hq5
  refine g_putF (pc := 34) C I pf_X6_init_19 dX6_init_34 rfl rfl ⟨by decide, by decide⟩ (by omega) ?_
  refine g_memo2 (fun M6 P6 => I1 157 M6 P6 ∧ P6 0 1 = 53 ∧ P6 0 2 = 105) ⟨I1_s h4 is105 (by decide) (by decide) (by decide) p5 fr5, by rw [up_same, up_ne _ _ (by decide), (fr5 0 (by decide)).2]; exact n1, by rw [up_same, up_same]⟩ (fun M6 P6 h6 => ?_)
  clear p5 fr5 n1
  obtain ⟨h6, n1, n2⟩ := h6
  refine g_at (c2 := 156) (s2 := 1074) (n2 := 157) (by omega) (by omega) (by omega) ?_
  refine g_aload_0 (pc := 37) C dX6_init_37 ?_
  refine g_new (pc := 38) C Z nw_X6_init_22 (N := 2) rfl dX6_init_38 (by omega) (by decide) (h6.2.2.2.2 _ (Nat.le_refl _)).1 (h6.2.2.2.2 _ (Nat.le_refl _)).2 (by omega) (by omega) ?_
  refine g_dup (pc := 41) C dX6_init_41 rfl ?_
  refine g_callI (pc := 42) C Z ei_X6_init_24 (List.mem_of_getElem? (i := 50) (by decide +kernel)) dX6_init_42 (c2_init (fun a ha => (h6.2.2.2.2 a ha).1) (fun a ha => (h6.2.2.2.2 a ha).2)) (by omega) (Nat.le_of_ble_eq_true rfl) rfl (by omega) (by omega) (fun M7 P7 hq7 => ?_)
  obtain ⟨p7, m7, fr7⟩ := hq7
  refine g_putF (pc := 45) C I pf_X6_init_25 dX6_init_45 rfl rfl ⟨by decide, by decide⟩ (by omega) ?_
  refine g_memo2 (fun M8 P8 => I4 M8 P8) (I4_of h6 n1 n2 p7 m7 fr7) (fun M8 P8 h8 => ?_)
  clear p7 m7 fr7 n1 n2
  refine g_at (c2 := 366) (s2 := 2512) (n2 := 367) (by omega) (by omega) (by omega) ?_
  refine g_aload_0 (pc := 48) C dX6_init_48 ?_
  refine g_new (pc := 49) C Z nw_X6_init_29 (N := 7) rfl dX6_init_49 (by omega) (by decide) (h8.2.2.2.2 _ (Nat.le_refl _)).1 (h8.2.2.2.2 _ (Nat.le_refl _)).2 (by omega) (by omega) ?_
  refine g_dup (pc := 52) C dX6_init_52 rfl ?_
  refine g_callI (pc := 53) C Z ei_X6_init_31 (List.mem_of_getElem? (i := 57) (by decide +kernel)) dX6_init_53 (c5_init (o := 367) (n := 368) ⟨by decide, by decide⟩ (by decide) (by decide) (h8.2.2.2.2 _ (by decide)).1) (by omega) (Nat.le_of_ble_eq_true rfl) rfl (by omega) (by omega) (fun M9 P9 hq9 => ?_)
  obtain ⟨rfl, rfl⟩ := hq9
  refine g_putF (pc := 56) C I pf_X6_init_32 dX6_init_56 rfl rfl ⟨by decide, by decide⟩ (by omega) ?_
  exact g_kret (post := I6) C F dX6_init_59 (by omega) (by omega) rfl (I6_of h8)

def gF (i : Nat) : FF := fun k => if k = 0 then 40 else if k = 1 then 300 else if 14 ≤ k ∧ k < 14 + 6 * i ∧ (k - 14) % 6 = 0 then 1 else 0
theorem gF_6 : gF 6 = f0 := by
  funext k
  unfold gF f0
  rfl
theorem gF_0 : up (up (fun _ => (0 : Int32)) 0 40) 1 300 = gF 0 := by
  funext k
  unfold gF
  by_cases e : k = 1
  · rw [e, up_same]
    rfl
  · rw [up_ne _ _ e, if_neg e]
    by_cases e0 : k = 0
    · rw [e0, up_same, if_pos rfl]
    · rw [up_ne _ _ e0, if_neg e0, if_neg (by omega)]
theorem gF_S {i : Nat} : up (gF i) (13 + 6 * i + 1) 1 = gF (i + 1) := by
  funext k
  by_cases e : k = 13 + 6 * i + 1
  · rw [e, up_same]
    unfold gF
    rw [if_neg (by omega), if_neg (by omega), if_pos (by omega)]
  · rw [up_ne _ _ e]
    unfold gF
    by_cases g : 14 ≤ k ∧ k < 14 + 6 * i ∧ (k - 14) % 6 = 0
    · rw [if_pos g, if_pos (show 14 ≤ k ∧ k < 14 + 6 * (i + 1) ∧ (k - 14) % 6 = 0 by omega)]
    · rw [if_neg g, if_neg (show ¬ (14 ≤ k ∧ k < 14 + 6 * (i + 1) ∧ (k - 14) % 6 = 0) by omega)]
theorem up_0 {f : FF} {j : Nat} (h : f j = 0) : up f j 0 = f := by
  rw [← h]
  exact up_id f j

/-- the whole at the start -/
def A0 : AS := (f0, 0, (fun _ => f0), 0, f0, 0, fun _ => 0)
theorem WA_A0 : WA 0 A0 := by
  have e6 : f0 6 = 0 := f0_z (by decide) (Or.inl (by decide))
  have e12 : f0 12 = 0 := f0_z (by decide) (Or.inl (by decide))
  have e3 : f0 3 = 0 := f0_z (by decide) (Or.inl (by decide))
  have s0 : sn f0 = 0 := sn_eq e6 (by decide)
  have m0 : mn f0 = 0 := by unfold mn; rw [e12]; rfl
  have d0 : dn f0 = 0 := by unfold dn; rw [e3]; rfl
  have hw : Wf 0 30 f0 := by
    unfold Wf
    rw [s0, m0, d0]
    exact ⟨⟨e6, Nat.zero_le _⟩, ⟨e12, Nat.zero_le _⟩, ⟨e3, Nat.le_refl _, Nat.zero_le _⟩, ⟨40, by decide, by decide, rfl⟩, fun i hi => absurd hi (Nat.not_lt_zero _), fun i hi _ k hk => f0_z (by omega) (by omega), fun p hp => absurd hp (Nat.not_lt_zero _), fun k hk => Nat.zero_le _⟩
  exact ⟨hw, fun j hj => absurd hj (Nat.not_lt_zero _), Nat.zero_le _, Or.inl rfl, fun _ => hw, Nat.zero_le _⟩
theorem JC_A0 {M : MM} {P : PP} (h : I6 M P) : JC M P A0 := by
  obtain ⟨h1, h2, h3, h4, h5, h6⟩ := h
  exact ⟨h1, h2, ⟨by rw [h3]; rfl, fun j hj => absurd hj (Nat.not_lt_zero _)⟩, by rw [h4]; rfl, fun z => absurd z (by decide), by rw [h5]; rfl, fun i hi => absurd hi (Nat.not_lt_zero _)⟩