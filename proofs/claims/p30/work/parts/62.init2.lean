/-- how a new ring's numbers lie -/
def f0 : FF := fun k => if k = 0 then 40 else if k = 1 then 300 else if 14 ≤ k ∧ k < 50 ∧ (k - 14) % 6 = 0 then 1 else 0
theorem g_memo2 {X : GX} {D : va_G} {cy : Nat → ClassId} {B cells slots n : Nat} {M : MM} {P : PP} {pc : Nat} {lv : List (Option Value)} {st : List Value} (J : MM → PP → Prop) (h : J M P) (k : ∀ M0 P0, J M0 P0 → G X D cy B cells slots n M0 P0 pc lv st) : G X D cy B cells slots n M P pc lv st := k M P h
def LA (s i : Nat) (M0 M : MM) (P0 P : PP) : Prop := P s 0 = s + 1 ∧ (∀ j, j < i → P (s + 1) j = s + 2 + j ∧ ∀ k, M (s + 2 + j) k = if k = 1 then 1 else 0) ∧ (∀ k, M s k = 0) ∧ (∀ a, a < s ∨ s + 2 + i ≤ a → M a = M0 a) ∧ (∀ a, a < s ∨ s + 2 ≤ a → P a = P0 a)
theorem LA_0 {s : Nat} {M0 : MM} {P0 : PP} (hM : ∀ a, s ≤ a → M0 a = fun _ => 0) : LA s 0 M0 M0 P0 (up P0 s (up (P0 s) 0 (s + 1))) := ⟨by rw [up_same, up_same], fun j hj => absurd hj (Nat.not_lt_zero _), fun k => by rw [hM s (Nat.le_refl _)], fun _ _ => rfl, fun a ha => up_ne _ _ (by omega)⟩
theorem LA_step {s i : Nat} {M0 M : MM} {P0 P : PP} (h : LA s i M0 M P0 P) (hM : M0 (s + 2 + i) = fun _ => 0) : LA s (i + 1) M0 (up M (s + 2 + i) (up (M (s + 2 + i)) 1 1)) P0 (up P (s + 1) (up (P (s + 1)) i (s + 2 + i))) := by
  obtain ⟨h1, h2, h3, h4, h5⟩ := h
  refine ⟨by rw [up_ne _ _ (by omega)]; exact h1, fun j hj => ⟨?_, fun k => ?_⟩, fun k => by rw [up_ne _ _ (by omega)]; exact h3 k, fun a ha => by rw [up_ne _ _ (by omega)]; exact h4 a (by omega), fun a ha => by rw [up_ne _ _ (by omega)]; exact h5 a ha⟩
  · rw [up_same]
    by_cases e : j = i
    · rw [e, up_same]
    · rw [up_ne _ _ e]
      exact (h2 j (by omega)).1
  · by_cases e : j = i
    · rw [e, up_same]
      by_cases ek : k = 1
      · rw [ek, up_same, if_pos rfl]
      · rw [up_ne _ _ ek, if_neg ek, h4 _ (Or.inr (Nat.le_refl _)), hM]
    · rw [up_ne _ _ (by omega)]
      exact (h2 j (by omega)).2 k
def LB (s i : Nat) (P0 P : PP) : Prop := P s 0 = s + 1 ∧ P s 1 = s + 8 ∧ (∀ j, j < 6 → P (s + 1) j = s + 2 + j) ∧ (∀ j, j < i → P (s + 8) j = s + 9 + 2 * j ∧ P (s + 9 + 2 * j) 7 = s + 10 + 2 * j) ∧ (∀ a, a < s ∨ s + 9 + 2 * i ≤ a → P a = P0 a)
theorem LB_0 {s : Nat} {M0 M : MM} {P0 P : PP} (h : LA s 6 M0 M P0 P) : LB s 0 P0 (up P s (up (P s) 1 (s + 8))) := ⟨by rw [up_same, up_ne _ _ (by decide)]; exact h.1, by rw [up_same, up_same], fun j hj => by rw [up_ne _ _ (by omega)]; exact (h.2.1 j hj).1, fun j hj => absurd hj (Nat.not_lt_zero _), fun a ha => by rw [up_ne _ _ (by omega)]; exact h.2.2.2.2 a (by omega)⟩
theorem LB_step {s i : Nat} {P0 P : PP} (h : LB s i P0 P) : LB s (i + 1) P0 (up (up P (s + 9 + 2 * i) (up (P (s + 9 + 2 * i)) 7 (s + 9 + 2 * i + 1))) (s + 8) (up (up P (s + 9 + 2 * i) (up (P (s + 9 + 2 * i)) 7 (s + 9 + 2 * i + 1)) (s + 8)) i (s + 9 + 2 * i))) := by
  obtain ⟨h1, h2, h3, h4, h5⟩ := h
  refine ⟨by rw [up_ne _ _ (by omega), up_ne _ _ (by omega)]; exact h1, by rw [up_ne _ _ (by omega), up_ne _ _ (by omega)]; exact h2, fun j hj => by rw [up_ne _ _ (by omega), up_ne _ _ (by omega)]; exact h3 j hj, fun j hj => ⟨?_, ?_⟩, fun a ha => by rw [up_ne _ _ (by omega), up_ne _ _ (by omega)]; exact h5 a (by omega)⟩
  · rw [up_same]
    by_cases e : j = i
    · rw [e, up_same]
    · rw [up_ne _ _ e, up_ne _ _ (by omega)]
      exact (h4 j (by omega)).1
  · rw [up_ne _ _ (by omega)]
    by_cases e : j = i
    · rw [e, up_same, up_same]
      omega
    · rw [up_ne _ _ (by omega)]
      exact (h4 j (by omega)).2
def LC (s i : Nat) (P0 P : PP) : Prop := P s 0 = s + 1 ∧ P s 1 = s + 8 ∧ P s 2 = s + 21 ∧ (∀ j, j < 6 → P (s + 1) j = s + 2 + j) ∧ (∀ j, j < 6 → P (s + 8) j = s + 9 + 2 * j ∧ P (s + 9 + 2 * j) 7 = s + 10 + 2 * j) ∧ (∀ j, j < i → P (s + 21) j = s + 22 + j) ∧ (∀ a, a < s ∨ s + 22 ≤ a → P a = P0 a)
theorem LC_0 {s : Nat} {P0 P : PP} (h : LB s 6 P0 P) : LC s 0 P0 (up P s (up (P s) 2 (s + 21))) := ⟨by rw [up_same, up_ne _ _ (by decide)]; exact h.1, by rw [up_same, up_ne _ _ (by decide)]; exact h.2.1, by rw [up_same, up_same], fun j hj => by rw [up_ne _ _ (by omega)]; exact h.2.2.1 j hj, fun j hj => by rw [up_ne _ _ (by omega), up_ne _ _ (by omega)]; exact h.2.2.2.1 j hj, fun j hj => absurd hj (Nat.not_lt_zero _), fun a ha => by rw [up_ne _ _ (by omega)]; exact h.2.2.2.2 a (by omega)⟩
theorem LC_step {s i : Nat} {P0 P : PP} (h : LC s i P0 P) : LC s (i + 1) P0 (up P (s + 21) (up (P (s + 21)) i (s + 22 + i))) := by
  obtain ⟨h1, h2, h3, h4, h5, h6, h7⟩ := h
  refine ⟨by rw [up_ne _ _ (by omega)]; exact h1, by rw [up_ne _ _ (by omega)]; exact h2, by rw [up_ne _ _ (by omega)]; exact h3, fun j hj => by rw [up_ne _ _ (by omega)]; exact h4 j hj, fun j hj => by rw [up_ne _ _ (by omega), up_ne _ _ (by omega)]; exact h5 j hj, fun j hj => ?_, fun a ha => by rw [up_ne _ _ (by omega)]; exact h7 a ha⟩
  rw [up_same]
  by_cases e : j = i
  · rw [e, up_same]
  · rw [up_ne _ _ e]
    exact h6 j (by omega)
theorem LC_PS {s : Nat} {P0 P : PP} (h : LC s 30 P0 P) : PS P s := by
  obtain ⟨h1, h2, h3, h4, h5, h6, h7⟩ := h
  refine ⟨h1, h2, h3, h4, fun i hi => (h5 i hi).1, fun i hi => (h5 i hi).2, fun i hi => ⟨i, hi, h6 i hi⟩, fun i j hi hj e => ?_⟩
  rw [h6 i hi, h6 j hj] at e
  omega
theorem f0_z {k : Nat} (h : 2 ≤ k) (h2 : k < 14 ∨ 50 ≤ k ∨ (k - 14) % 6 ≠ 0) : f0 k = 0 := by
  unfold f0
  rw [if_neg (by omega), if_neg (by omega), if_neg (by omega)]
theorem f0_l {i : Nat} (hi : i < 6) : f0 (13 + 6 * i + 1) = 1 := by
  unfold f0
  rw [if_neg (by omega), if_neg (by omega), if_pos (by omega)]
theorem Rp_f0 {s : Nat} {M0 M : MM} {P0 P P1 : PP} (h : LA s 6 M0 M P0 P) : Rp (up (up M s (up (M s) 10 40)) s (up (up M s (up (M s) 10 40) s) 11 300)) P1 s f0 := by
  obtain ⟨-, h2, h3, -, -⟩ := h
  have e : ∀ k, (up (up M s (up (M s) 10 40)) s (up (up M s (up (M s) 10 40) s) 11 300)) s k = if k = 11 then 300 else if k = 10 then 40 else 0 := fun k => by
    rw [up_same]
    by_cases e1 : k = 11
    · rw [e1, up_same, if_pos rfl]
    · rw [up_ne _ _ e1, if_neg e1, up_same]
      by_cases e2 : k = 10
      · rw [e2, up_same, if_pos rfl]
      · rw [up_ne _ _ e2, if_neg e2, h3]
  refine ⟨?_, fun i hi k hk => ?_, fun i hi => absurd hi (Nat.not_lt_zero _), fun i hi => absurd hi (Nat.not_lt_zero _)⟩
  · unfold RS
    rw [e, e, e, e, e, e, e, e, e, e, e, e, e]
    exact ⟨rfl, rfl, rfl, rfl, rfl, rfl, rfl, rfl, rfl, rfl, rfl, rfl, rfl⟩
  · rw [up_ne _ _ (by omega), up_ne _ _ (by omega), (h2 i hi).2 k]
    by_cases ek : k = 1
    · rw [ek, if_pos rfl, f0_l hi]
    · rw [if_neg ek, f0_z (by omega) (by omega)]

set_option maxRecDepth 100000 in
set_option maxHeartbeats 1000000 in
theorem c4_init {l : Launch} {D : va_G} {cy : Nat → ClassId} {B : Nat} {M : MM} {P : PP} {s : Nat} (hs : isSt s) (hM : ∀ a, s ≤ a → M a = fun _ => 0) (hP : ∀ a, s ≤ a → P a = fun _ => 0) : KC l D cy B yX4_init wsX4_init 2 32 51 342 (s + 1) (s + 52) [Value.ref (B + s)] M P (fun M1 P1 => PS P1 s ∧ Rp M1 P1 s f0 ∧ ∀ a, a < s ∨ s + 52 ≤ a → M1 a = M a ∧ P1 a = P a) := by
  refine met_KC (cc := cX4_init) (maxL := 2) (lv := [some (Value.ref (B + s)), none]) (by decide) (by decide +kernel) rfl rfl rfl (Nat.le_of_ble_eq_true rfl) (Nat.succ_pos _) ?_
  intro X C F Z I
  refine g_aload_0 (pc := 0) C dX4_init_0 ?_
  refine g_objInit (pc := 1) C (List.mem_of_getElem? (i := 1) (by decide +kernel)) (List.mem_of_getElem? (i := 2) (by decide +kernel)) (List.mem_of_getElem? (i := 3) (by decide +kernel)) dX4_init_1 rfl (Nat.le_of_ble_eq_true rfl) (Nat.le_of_ble_eq_true rfl) ?_
  refine g_aload_0 (pc := 4) C dX4_init_4 ?_
  refine g_bipush (pc := 5) (v := 6) C dX4_init_5 rfl ?_
  refine g_newq (pc := 7) C Z (q := 10) (L := 6) (C' := RX1) (Or.inl ⟨rfl, rfl⟩) (List.mem_of_getElem? (i := 4) (by decide +kernel)) dX4_init_7 (by omega) (kk_s1 hs).2 (ln_s1 hs) rfl (by decide) (hP _ (by omega)) (by omega) (by omega) ?_
  refine g_putF (pc := 10) C I pf_X4_init_11 dX4_init_10 rfl rfl ⟨by omega, (kk_s0 hs).2⟩ (by omega) ?_
  refine g_iconst (pc := 13) (v := 0) C dX4_init_13 rfl ?_
  refine g_istore_1 (pc := 14) C dX4_init_14 ?_
  refine g_at (c2 := 1 + 0) (s2 := 6 + 6 * 0) (n2 := s + 2 + 0) (by omega) (by omega) (by omega) ?_
  refine ind_m (fun (i : Nat) => 6 - i) (p := fun (i : Nat) => ∀ (M2 : MM) (P2 : PP), i ≤ 6 → LA s i M M2 P P2 → G X D cy B (1 + i) (6 + 6 * i) (s + 2 + i) M2 P2 15 [some (Value.ref (B + s)), some (Value.int (nI i))] []) ?_ 0 _ _ (Nat.zero_le _) (LA_0 hM)
  intro i ih M2 P2 hi hA
  refine g_iload_1 (pc := 15) C dX4_init_15 ?_
  refine g_aload_0 (pc := 16) C dX4_init_16 ?_
  refine g_getr (pc := 17) C ⟨hA.1, by omega⟩ fl_X4_init_11 ⟨by omega, (kk_s0 hs).2⟩ dX4_init_17 ?_
  refine g_alen (pc := 20) C ⟨by omega, (kk_s1 hs).2⟩ (ln_s1 hs) rfl dX4_init_20 ?_
  refine g_icmp_ge (pc := 21) (tgt := 43) C dX4_init_21 (by decide) (fun c21 => ?_) (fun c21 => ?_)
  · have e : 6 ≤ i := i_le (a := 6) (by omega) (by omega) c21
    obtain rfl : i = 6 := by omega
    refine g_at (c2 := 7) (s2 := 42) (n2 := s + 8) (by omega) (by omega) (by omega) ?_
    clear ih
    refine g_aload_0 (pc := 43) C dX4_init_43 ?_
    refine g_bipush (pc := 44) (v := 6) C dX4_init_44 rfl ?_
    refine g_newq (pc := 46) C Z (q := 11) (L := 6) (C' := RX3) (Or.inr (Or.inl ⟨rfl, rfl⟩)) (List.mem_of_getElem? (i := 8) (by decide +kernel)) dX4_init_46 (by omega) (kk_s8 hs).2 (ln_s8 hs) rfl (by decide) ((hA.2.2.2.2 _ (Or.inr (by omega))).trans (hP _ (by omega))) (by omega) (by omega) ?_
    refine g_putF (pc := 49) C I pf_X4_init_20 dX4_init_49 rfl rfl ⟨by omega, (kk_s0 hs).2⟩ (by omega) ?_
    refine g_iconst (pc := 52) (v := 0) C dX4_init_52 rfl ?_
    refine g_istore_1 (pc := 53) C dX4_init_53 ?_
    refine g_at (c2 := 8 + 2 * 0) (s2 := 48 + 14 * 0) (n2 := s + 9 + 2 * 0) (by omega) (by omega) (by omega) ?_
    refine ind_m (fun (i : Nat) => 6 - i) (p := fun (i : Nat) => ∀ (P3 : PP), i ≤ 6 → LB s i P P3 → G X D cy B (8 + 2 * i) (48 + 14 * i) (s + 9 + 2 * i) M2 P3 54 [some (Value.ref (B + s)), some (Value.int (nI i))] []) ?_ 0 _ (Nat.zero_le _) (LB_0 hA)
    intro i ih P3 hi hB
    refine g_iload_1 (pc := 54) C dX4_init_54 ?_
    refine g_aload_0 (pc := 55) C dX4_init_55 ?_
    refine g_getr (pc := 56) C ⟨hB.2.1, by omega⟩ fl_X4_init_20 ⟨by omega, (kk_s0 hs).2⟩ dX4_init_56 ?_
    refine g_alen (pc := 59) C ⟨by omega, (kk_s8 hs).2⟩ (ln_s8 hs) rfl dX4_init_59 ?_
    refine g_icmp_ge (pc := 60) (tgt := 82) C dX4_init_60 (by decide) (fun c60 => ?_) (fun c60 => ?_)
    · have e : 6 ≤ i := i_le (a := 6) (by omega) (by omega) c60
      obtain rfl : i = 6 := by omega
      refine g_at (c2 := 20) (s2 := 132) (n2 := s + 21) (by omega) (by omega) (by omega) ?_
      clear ih
      refine g_aload_0 (pc := 82) C dX4_init_82 ?_
      refine g_bipush (pc := 83) (v := 30) C dX4_init_83 rfl ?_
      refine g_newq (pc := 85) C Z (q := 12) (L := 30) (C' := RX0) (Or.inr (Or.inr (Or.inl ⟨rfl, rfl⟩))) (List.mem_of_getElem? (i := 12) (by decide +kernel)) dX4_init_85 (by omega) (kk_s21 hs).2 (ln_s21 hs) rfl (by decide) ((hB.2.2.2.2 _ (Or.inr (by omega))).trans (hP _ (by omega))) (by omega) (by omega) ?_
      refine g_putF (pc := 88) C I pf_X4_init_27 dX4_init_88 rfl rfl ⟨by omega, (kk_s0 hs).2⟩ (by omega) ?_
      refine g_iconst (pc := 91) (v := 0) C dX4_init_91 rfl ?_
      refine g_istore_1 (pc := 92) C dX4_init_92 ?_
      refine g_at (c2 := 21 + 0) (s2 := 162 + 6 * 0) (n2 := s + 22 + 0) (by omega) (by omega) (by omega) ?_
      refine ind_m (fun (i : Nat) => 30 - i) (p := fun (i : Nat) => ∀ (P4 : PP), i ≤ 30 → LC s i P P4 → G X D cy B (21 + i) (162 + 6 * i) (s + 22 + i) M2 P4 93 [some (Value.ref (B + s)), some (Value.int (nI i))] []) ?_ 0 _ (Nat.zero_le _) (LC_0 hB)
      intro i ih P4 hi hC
      refine g_iload_1 (pc := 93) C dX4_init_93 ?_
      refine g_aload_0 (pc := 94) C dX4_init_94 ?_
      refine g_getr (pc := 95) C ⟨hC.2.2.1, by omega⟩ fl_X4_init_27 ⟨by omega, (kk_s0 hs).2⟩ dX4_init_95 ?_
      refine g_alen (pc := 98) C ⟨by omega, (kk_s21 hs).2⟩ (ln_s21 hs) rfl dX4_init_98 ?_
      refine g_icmp_ge (pc := 99) (tgt := 121) C dX4_init_99 (by decide) (fun c99 => ?_) (fun c99 => ?_)
      · have e : 30 ≤ i := i_le (a := 30) (by omega) (by omega) c99
        obtain rfl : i = 30 := by omega
        refine g_at (c2 := 51) (s2 := 342) (n2 := s + 52) (by omega) (by omega) (by omega) ?_
        clear ih
        refine g_aload_0 (pc := 121) C dX4_init_121 ?_
        refine g_bipush (pc := 122) (v := 40) C dX4_init_122 rfl ?_
        refine g_puti (pc := 124) C pf_X4_init_32 ⟨by omega, (kk_s0 hs).2⟩ dX4_init_124 ?_
        refine g_aload_0 (pc := 127) C dX4_init_127 ?_
        refine g_sipush (pc := 128) (v := 300) C dX4_init_128 rfl ?_
        refine g_puti (pc := 131) C pf_X4_init_36 ⟨by omega, (kk_s0 hs).2⟩ dX4_init_131 ?_
        exact g_kret (post := fun M1 P1 => PS P1 s ∧ Rp M1 P1 s f0 ∧ ∀ a, a < s ∨ s + 52 ≤ a → M1 a = M a ∧ P1 a = P a) C F dX4_init_134 (by omega) (by omega) rfl ⟨LC_PS hC, Rp_f0 hA, fun a ha => ⟨by rw [up_ne _ _ (by omega), up_ne _ _ (by omega)]; exact hA.2.2.2.1 a (by omega), hC.2.2.2.2.2.2 a (by omega)⟩⟩
      · have hi2 : i < 30 := i_nle (a := 30) (by omega) (by omega) c99
        refine g_aload_0 (pc := 102) C dX4_init_102 ?_
        refine g_getr (pc := 103) C ⟨hC.2.2.1, by omega⟩ fl_X4_init_27 ⟨by omega, (kk_s0 hs).2⟩ dX4_init_103 ?_
        refine g_iload_1 (pc := 106) C dX4_init_106 ?_
        refine g_new (pc := 107) C Z nw_X4_init_25 (N := 6) rfl dX4_init_107 (by omega) (kk_b hs hi2).2 ((hA.2.2.2.1 _ (Or.inr (by omega))).trans (hM _ (by omega))) ((hC.2.2.2.2.2.2 _ (Or.inr (by omega))).trans (hP _ (by omega))) (by omega) (by omega) ?_
        refine g_dup (pc := 110) C dX4_init_110 rfl ?_
        refine g_callIN (pc := 111) C Z ei_X4_init_31 (fun s h => h.2.2.2.2) dX4_init_111 (c0_init (o := s + 22 + i) ⟨by omega, (kk_b hs hi2).2⟩) (by omega) (Nat.le_of_ble_eq_true rfl) rfl (by omega) (by omega) (fun M3 P5 hq => ?_)
        obtain ⟨rfl, rfl⟩ := hq
        refine g_aast (pc := 114) (j := i) C ⟨by omega, (kk_s21 hs).2⟩ ⟨by omega, (kk_b hs hi2).2⟩ (Or.inr (Or.inr (Or.inl ⟨rfl, rfl⟩))) (by omega) rfl (ln_s21 hs) (by omega) dX4_init_114 ?_
        refine g_iinc_1 (pc := 115) (v := nI (i + 1)) C dX4_init_115 (nI_1 i) ?_
        refine g_goto (pc := 118) (tgt := 93) C dX4_init_118 (by decide) ?_
        refine g_at (c2 := 21 + (i + 1)) (s2 := 162 + 6 * (i + 1)) (n2 := s + 22 + (i + 1)) (by omega) (by omega) (by omega) ?_
        exact ih (i + 1) (by omega) _ (by omega) (LC_step hC)
    · have hi2 : i < 6 := i_nle (a := 6) (by omega) (by omega) c60
      have kh := kk_h hs hi2
      have lh := ln_h hs hi2
      rw [show s + 10 + 2 * i = s + 9 + 2 * i + 1 by omega] at kh lh
      refine g_aload_0 (pc := 63) C dX4_init_63 ?_
      refine g_getr (pc := 64) C ⟨hB.2.1, by omega⟩ fl_X4_init_20 ⟨by omega, (kk_s0 hs).2⟩ dX4_init_64 ?_
      refine g_iload_1 (pc := 67) C dX4_init_67 ?_
      refine g_new (pc := 68) C Z nw_X4_init_18 (N := 8) rfl dX4_init_68 (by omega) (kk_m hs hi2).2 ((hA.2.2.2.1 _ (Or.inr (by omega))).trans (hM _ (by omega))) ((hB.2.2.2.2 _ (Or.inr (by omega))).trans (hP _ (by omega))) (by omega) (by omega) ?_
      refine g_dup (pc := 71) C dX4_init_71 rfl ?_
      refine g_callI (pc := 72) C Z ei_X4_init_24 (List.mem_of_getElem? (i := 23) (by decide +kernel)) dX4_init_72 (c3_init (o := s + 9 + 2 * i) ⟨by omega, (kk_m hs hi2).2⟩ kh.2 lh ((hA.2.2.2.1 _ (Or.inr (by omega))).trans (hM _ (by omega)))) (by omega) (Nat.le_of_ble_eq_true rfl) rfl (by omega) (by omega) (fun M3 P4 hq => ?_)
      obtain ⟨rfl, rfl⟩ := hq
      refine g_aast (pc := 75) (j := i) C ⟨by omega, (kk_s8 hs).2⟩ ⟨by omega, (kk_m hs hi2).2⟩ (Or.inr (Or.inl ⟨rfl, rfl⟩)) (by omega) rfl (ln_s8 hs) (by omega) dX4_init_75 ?_
      refine g_iinc_1 (pc := 76) (v := nI (i + 1)) C dX4_init_76 (nI_1 i) ?_
      refine g_goto (pc := 79) (tgt := 54) C dX4_init_79 (by decide) ?_
      refine g_at (c2 := 8 + 2 * (i + 1)) (s2 := 48 + 14 * (i + 1)) (n2 := s + 9 + 2 * (i + 1)) (by omega) (by omega) (by omega) ?_
      exact ih (i + 1) (by omega) _ (by omega) (LB_step hB)
  · have hi2 : i < 6 := i_nle (a := 6) (by omega) (by omega) c21
    refine g_aload_0 (pc := 24) C dX4_init_24 ?_
    refine g_getr (pc := 25) C ⟨hA.1, by omega⟩ fl_X4_init_11 ⟨by omega, (kk_s0 hs).2⟩ dX4_init_25 ?_
    refine g_iload_1 (pc := 28) C dX4_init_28 ?_
    refine g_new (pc := 29) C Z nw_X4_init_9 (N := 6) rfl dX4_init_29 (by omega) (kk_f hs hi2).2 ((hA.2.2.2.1 _ (Or.inr (by omega))).trans (hM _ (by omega))) ((hA.2.2.2.2 _ (Or.inr (by omega))).trans (hP _ (by omega))) (by omega) (by omega) ?_
    refine g_dup (pc := 32) C dX4_init_32 rfl ?_
    refine g_callI (pc := 33) C Z ei_X4_init_17 (List.mem_of_getElem? (i := 18) (by decide +kernel)) dX4_init_33 (c1_init (o := s + 2 + i) ⟨by omega, (kk_f hs hi2).2⟩) (by omega) (Nat.le_of_ble_eq_true rfl) rfl (by omega) (by omega) (fun M3 P3 hq => ?_)
    obtain ⟨rfl, rfl⟩ := hq
    refine g_aast (pc := 36) (j := i) C ⟨by omega, (kk_s1 hs).2⟩ ⟨by omega, (kk_f hs hi2).2⟩ (Or.inl ⟨rfl, rfl⟩) (by omega) rfl (ln_s1 hs) (by omega) dX4_init_36 ?_
    refine g_iinc_1 (pc := 37) (v := nI (i + 1)) C dX4_init_37 (nI_1 i) ?_
    refine g_goto (pc := 40) (tgt := 15) C dX4_init_40 (by decide) ?_
    refine g_at (c2 := 1 + (i + 1)) (s2 := 6 + 6 * (i + 1)) (n2 := s + 2 + (i + 1)) (by omega) (by omega) (by omega) ?_
    exact ih (i + 1) (by omega) _ _ (by omega) (LA_step hA (hM _ (by omega)))

def LH (i : Nat) (M0 M : MM) (P0 P : PP) : Prop := P 157 0 = 158 ∧ (∀ j, j < i → P 158 j = 159 + 52 * j ∧ PS P (159 + 52 * j)) ∧ M 157 = (fun _ => 0) ∧ (∀ a, a < 157 ∨ 159 + 52 * i ≤ a → M a = M0 a ∧ P a = P0 a)
theorem LH_0 {M0 : MM} {P0 : PP} (hM : M0 157 = fun _ => 0) : LH 0 M0 M0 P0 (up P0 157 (up (P0 157) 0 158)) := ⟨by rw [up_same, up_same], fun j hj => absurd hj (Nat.not_lt_zero _), hM, fun a ha => ⟨rfl, up_ne _ _ (by omega)⟩⟩
theorem LH_step {i : Nat} {M0 M M1 : MM} {P0 P P1 : PP} (h : LH i M0 M P0 P) (h1 : PS P1 (159 + 52 * i)) (h2 : ∀ a, a < 159 + 52 * i ∨ 159 + 52 * i + 52 ≤ a → M1 a = M a ∧ P1 a = P a) : LH (i + 1) M0 M1 P0 (up P1 158 (up (P1 158) i (159 + 52 * i))) := by
  obtain ⟨a1, a2, a3, a4⟩ := h
  refine ⟨by rw [up_ne _ _ (by decide), (h2 157 (by omega)).2]; exact a1, fun j hj => ⟨?_, ?_⟩, by rw [(h2 157 (by omega)).1]; exact a3, fun a ha => ⟨(h2 a (by omega)).1.trans (a4 a (by omega)).1, by rw [up_ne _ _ (by omega)]; exact (h2 a (by omega)).2.trans (a4 a (by omega)).2⟩⟩
  · rw [up_same]
    by_cases e : j = i
    · rw [e, up_same]
    · rw [up_ne _ _ e, (h2 158 (by omega)).2]
      exact (a2 j (by omega)).1
  · by_cases e : j = i
    · rw [e]
      exact PS_fr h1 (fun a g1 g2 => up_ne _ _ (by omega))
    · exact PS_fr (a2 j (by omega)).2 (fun a g1 g2 => (up_ne _ _ (by omega)).trans (h2 a (by omega)).2)
theorem LH_PH {M0 M : MM} {P0 P : PP} (h : LH 4 M0 M P0 P) : PH P := by
  obtain ⟨a1, a2, a3, a4⟩ := h
  refine ⟨a1, fun i hi => ?_, fun i j hi hj e => ?_, fun s hs => ?_⟩
  · rw [(a2 i hi).1]
    unfold hSt
    omega
  · rw [(a2 i hi).1, (a2 j hj).1] at e
    omega
  · rcases hs with rfl | rfl | rfl | rfl
    · exact (a2 0 (by decide)).2
    · exact (a2 1 (by decide)).2
    · exact (a2 2 (by decide)).2
    · exact (a2 3 (by decide)).2

set_option maxRecDepth 100000 in
set_option maxHeartbeats 1000000 in
theorem c2_init {l : Launch} {D : va_G} {cy : Nat → ClassId} {B : Nat} {M : MM} {P : PP} (hM : ∀ a, 157 ≤ a → M a = fun _ => 0) (hP : ∀ a, 157 ≤ a → P a = fun _ => 0) : KC l D cy B yX2_init wsX2_init 3 53 209 1436 (158) (367) [Value.ref (B + 157)] M P (fun M1 P1 => PH P1 ∧ M1 157 = (fun _ => 0) ∧ ∀ a, a < 157 ∨ 367 ≤ a → M1 a = M a ∧ P1 a = P a) := by
  refine met_KC (cc := cX2_init) (maxL := 2) (lv := [some (Value.ref (B + 157)), none]) (by decide) (by decide +kernel) rfl rfl rfl (Nat.le_of_ble_eq_true rfl) (by decide) ?_
  intro X C F Z I
  refine g_aload_0 (pc := 0) C dX2_init_0 ?_
  refine g_objInit (pc := 1) C (List.mem_of_getElem? (i := 1) (by decide +kernel)) (List.mem_of_getElem? (i := 2) (by decide +kernel)) (List.mem_of_getElem? (i := 3) (by decide +kernel)) dX2_init_1 rfl (Nat.le_of_ble_eq_true rfl) (Nat.le_of_ble_eq_true rfl) ?_
  refine g_aload_0 (pc := 4) C dX2_init_4 ?_
  refine g_iconst (pc := 5) (v := 4) C dX2_init_5 rfl ?_
  refine g_newq (pc := 6) C Z (q := 13) (L := 4) (C' := RX4) (Or.inr (Or.inr (Or.inr ⟨rfl, rfl⟩))) (List.mem_of_getElem? (i := 4) (by decide +kernel)) dX2_init_6 (by omega) (by decide) (by decide) rfl (by decide) (hP _ (by omega)) (by omega) (by omega) ?_
  refine g_putF (pc := 9) C I pf_X2_init_11 dX2_init_9 rfl rfl ⟨by omega, by decide⟩ (by omega) ?_
  refine g_iconst (pc := 12) (v := 0) C dX2_init_12 rfl ?_
  refine g_istore_1 (pc := 13) C dX2_init_13 ?_
  refine g_at (c2 := 1 + 52 * 0) (s2 := 4 + 358 * 0) (n2 := 159 + 52 * 0) (by omega) (by omega) (by omega) ?_
  refine ind_m (fun (i : Nat) => 4 - i) (p := fun (i : Nat) => ∀ (M2 : MM) (P2 : PP), i ≤ 4 → LH i M M2 P P2 → G X D cy B (1 + 52 * i) (4 + 358 * i) (159 + 52 * i) M2 P2 14 [some (Value.ref (B + 157)), some (Value.int (nI i))] []) ?_ 0 _ _ (Nat.zero_le _) (LH_0 (hM _ (Nat.le_refl _)))
  intro i ih M2 P2 hi hH
  refine g_iload_1 (pc := 14) C dX2_init_14 ?_
  refine g_aload_0 (pc := 15) C dX2_init_15 ?_
  refine g_getr (pc := 16) C ⟨hH.1, by decide⟩ fl_X2_init_11 ⟨by omega, by decide⟩ dX2_init_16 ?_
  refine g_alen (pc := 19) C ⟨by omega, (by decide : kd 158 = 13)⟩ (show ln 158 = 4 by decide) rfl dX2_init_19 ?_
  refine g_icmp_ge (pc := 20) (tgt := 42) C dX2_init_20 (by decide) (fun c20 => ?_) (fun c20 => ?_)
  · have e : 4 ≤ i := i_le (a := 4) (by omega) (by omega) c20
    obtain rfl : i = 4 := by omega
    refine g_at (c2 := 209) (s2 := 1436) (n2 := 367) (by omega) (by omega) (by omega) ?_
    clear ih
    exact g_kret (post := fun M1 P1 => PH P1 ∧ M1 157 = (fun _ => 0) ∧ ∀ a, a < 157 ∨ 367 ≤ a → M1 a = M a ∧ P1 a = P a) C F dX2_init_42 (by omega) (by omega) rfl ⟨LH_PH hH, hH.2.2.1, fun a ha => hH.2.2.2 a (by omega)⟩
  · have hi2 : i < 4 := i_nle (a := 4) (by omega) (by omega) c20
    have hs : isSt (159 + 52 * i) := by unfold isSt; omega
    refine g_aload_0 (pc := 23) C dX2_init_23 ?_
    refine g_getr (pc := 24) C ⟨hH.1, by decide⟩ fl_X2_init_11 ⟨by omega, by decide⟩ dX2_init_24 ?_
    refine g_iload_1 (pc := 27) C dX2_init_27 ?_
    refine g_new (pc := 28) C Z nw_X2_init_9 (N := 16) rfl dX2_init_28 (by omega) (kk_s0 hs).2 ((hH.2.2.2 _ (Or.inr (Nat.le_refl _))).1.trans (hM _ (by omega))) ((hH.2.2.2 _ (Or.inr (Nat.le_refl _))).2.trans (hP _ (by omega))) (by omega) (by omega) ?_
    refine g_dup (pc := 31) C dX2_init_31 rfl ?_
    refine g_callI (pc := 32) C Z ei_X2_init_17 (List.mem_of_getElem? (i := 8) (by decide +kernel)) dX2_init_32 (c4_init hs (fun a ha => (hH.2.2.2 a (Or.inr ha)).1.trans (hM _ (by omega))) (fun a ha => (hH.2.2.2 a (Or.inr ha)).2.trans (hP _ (by omega)))) (by omega) (Nat.le_of_ble_eq_true rfl) rfl (by omega) (by omega) (fun M3 P3 hq => ?_)
    obtain ⟨q1, q2, q3⟩ := hq
    refine g_aast (pc := 35) (j := i) C ⟨by omega, (by decide : kd 158 = 13)⟩ ⟨by omega, (kk_s0 hs).2⟩ (Or.inr (Or.inr (Or.inr ⟨rfl, rfl⟩))) (by omega) rfl (show ln 158 = 4 by decide) (by omega) dX2_init_35 ?_
    refine g_iinc_1 (pc := 36) (v := nI (i + 1)) C dX2_init_36 (nI_1 i) ?_
    refine g_goto (pc := 39) (tgt := 14) C dX2_init_39 (by decide) ?_
    refine g_at (c2 := 1 + 52 * (i + 1)) (s2 := 4 + 358 * (i + 1)) (n2 := 159 + 52 * (i + 1)) (by omega) (by omega) (by omega) ?_
    exact ih (i + 1) (by omega) _ _ (by omega) (LH_step hH q1 q3)
