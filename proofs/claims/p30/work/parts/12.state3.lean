set_option maxRecDepth 100000 in
set_option maxHeartbeats 1000000 in
theorem c_removeBookingAt {l : Launch} {D : va_G} {cy : Nat → ClassId} {B : Nat} {M : MM} {P : PP} {s i n : Nat} {f : FF} {x : Int32} (hs : isSt s) (hp : PS P s) (hr : Rp M P s f) (hn : f 6 = nI (n + 1)) (h30 : n + 1 ≤ 30) (hx : x = nI i) (hi : i < n + 1) : KV l D cy B yX4_removeBookingAt wsX4_removeBookingAt 0 0 [Value.ref (B + s), Value.int x] M P (fun M1 P1 => PS P1 s ∧ Rp M1 P1 s (dropF f i n) ∧ (∀ a, a < s ∨ s + 52 ≤ a → M1 a = M a) ∧ ∀ a, a ≠ s + 21 → P1 a = P a) := by
  refine met_KV (cc := cX4_removeBookingAt) (maxL := 4) (ret := none) (lv := [some (Value.ref (B + s)), some (Value.int x), none, none]) (by decide) rfl rfl rfl (Nat.le_of_ble_eq_true rfl) ?_
  intro X C F
  refine g_iload_1 (pc := 0) C dX4_removeBookingAt_0 ?_
  refine g_if_lt (pc := 1) (tgt := 12) C dX4_removeBookingAt_1 (by decide) (fun c1 => ?_) (fun c1 => ?_)
  · exact absurd c1 (by rw [hx]; exact nI_pos (by omega))
  · refine g_iload_1 (pc := 4) C dX4_removeBookingAt_4 ?_
    refine g_aload_0 (pc := 5) C dX4_removeBookingAt_5 ?_
    refine g_geti (pc := 6) C fl_X4_removeBookingAt_61 (kk_s0 hs) dX4_removeBookingAt_6 ?_
    rw [hr.1.2.1, hn]
    refine g_icmp_lt (pc := 9) (tgt := 13) C dX4_removeBookingAt_9 (by decide) (fun c9 => ?_) (fun c9 => ?_)
    · refine g_iload_1 (pc := 13) C dX4_removeBookingAt_13 ?_
      refine g_iconst (pc := 14) (v := 1) C dX4_removeBookingAt_14 rfl ?_
      refine g_iadd (pc := 15) C dX4_removeBookingAt_15 ?_
      rw [hx, nI_1]
      refine g_istore_2 (pc := 16) C dX4_removeBookingAt_16 ?_
      refine ind_m (fun (k : Nat) => n + 1 - k) (p := fun (k : Nat) => ∀ P2 : PP, i < k → k ≤ n + 1 → (∀ j, j < 30 → P2 (s + 21) j = P (s + 21) (rot i k j)) → (∀ a, a ≠ s + 21 → P2 a = P a) → G X D cy B 0 0 369 M P2 17 [some (Value.ref (B + s)), some (Value.int (nI i)), some (Value.int (nI k)), none] []) ?_ (i + 1) P (Nat.lt_succ_self _) hi (fun j hj => by rw [rot_0]) (fun _ _ => rfl)
      intro k ih P2 hk1 hk2 i1 i2
      have r2 : rr P2 s 2 (s + 21) := ⟨by rw [i2 s (by omega)]; exact hp.2.2.1, by omega⟩
      have k21 := kk_s21 hs
      have l21 := ln_s21 hs
      refine g_iload_2 (pc := 17) C dX4_removeBookingAt_17 ?_
      refine g_aload_0 (pc := 18) C dX4_removeBookingAt_18 ?_
      refine g_geti (pc := 19) C fl_X4_removeBookingAt_61 (kk_s0 hs) dX4_removeBookingAt_19 ?_
      rw [hr.1.2.1, hn]
      refine g_icmp_ge (pc := 22) (tgt := 70) C dX4_removeBookingAt_22 (by decide) (fun c22 => ?_) (fun c22 => ?_)
      · have e : n + 1 ≤ k := i_le (by omega) (by omega) c22
        have e1 : k = n + 1 := by omega
        subst e1
        refine g_aload_0 (pc := 70) C dX4_removeBookingAt_70 ?_
        refine g_dup (pc := 71) C dX4_removeBookingAt_71 rfl ?_
        refine g_geti (pc := 72) C fl_X4_removeBookingAt_61 (kk_s0 hs) dX4_removeBookingAt_72 ?_
        rw [hr.1.2.1, hn]
        refine g_iconst (pc := 75) (v := 1) C dX4_removeBookingAt_75 rfl ?_
        refine g_isub (pc := 76) C dX4_removeBookingAt_76 ?_
        rw [nI_pred]
        refine g_puti (pc := 77) C pf_X4_removeBookingAt_61 (kk_s0 hs) dX4_removeBookingAt_77 ?_
        exact g_vret (post := fun M1 P1 => PS P1 s ∧ Rp M1 P1 s (dropF f i n) ∧ (∀ a, a < s ∨ s + 52 ≤ a → M1 a = M a) ∧ ∀ a, a ≠ s + 21 → P1 a = P a) C F dX4_removeBookingAt_80 ⟨PS_rot hp hi h30 i1 i2, Rp_drop hs hp hr hn h30 hi i1 (by rw [up_same, up_same]) (fun k hk => by rw [up_same, up_ne _ _ hk]) (fun a ha => up_ne _ _ ha), fun a ha => up_ne _ _ (by omega), i2⟩
      · have hk3 : k < n + 1 := i_nle (by omega) (by omega) c22
        have g1 := i1 (k - 1) (by omega)
        rw [rot_a hk1] at g1
        have g2 := i1 k (by omega)
        rw [rot_b hk1] at g2
        have bi := hp.bin (i := i) (by omega)
        have bk_ := hp.bin (i := k) (by omega)
        refine g_iload_2 (pc := 25) C dX4_removeBookingAt_25 ?_
        refine g_aload_0 (pc := 26) C dX4_removeBookingAt_26 ?_
        refine g_getr (pc := 27) C r2 fl_X4_removeBookingAt_27 (kk_s0 hs) dX4_removeBookingAt_27 ?_
        refine g_alen (pc := 30) C k21 l21 rfl dX4_removeBookingAt_30 ?_
        refine g_icmp_ge (pc := 31) (tgt := 70) C dX4_removeBookingAt_31 (by decide) (fun c31 => ?_) (fun c31 => ?_)
        · exact absurd c31 (nI_ge (by omega) (by decide))
        · refine g_aload_0 (pc := 34) C dX4_removeBookingAt_34 ?_
          refine g_getr (pc := 35) C r2 fl_X4_removeBookingAt_27 (kk_s0 hs) dX4_removeBookingAt_35 ?_
          refine g_iload_2 (pc := 38) C dX4_removeBookingAt_38 ?_
          refine g_iconst (pc := 39) (v := 1) C dX4_removeBookingAt_39 rfl ?_
          refine g_isub (pc := 40) C dX4_removeBookingAt_40 ?_
          rw [show nI k - 1 = nI (k - 1) from pk_sub (b := 1) (by omega)]
          refine g_aald (pc := 41) C k21 rfl rfl l21 (by omega) ⟨g1, by omega⟩ dX4_removeBookingAt_41 ?_
          refine g_astore_3 (pc := 42) C dX4_removeBookingAt_42 ?_
          refine g_aload_0 (pc := 43) C dX4_removeBookingAt_43 ?_
          refine g_getr (pc := 44) C r2 fl_X4_removeBookingAt_27 (kk_s0 hs) dX4_removeBookingAt_44 ?_
          refine g_iload_2 (pc := 47) C dX4_removeBookingAt_47 ?_
          refine g_iconst (pc := 48) (v := 1) C dX4_removeBookingAt_48 rfl ?_
          refine g_isub (pc := 49) C dX4_removeBookingAt_49 ?_
          rw [show nI k - 1 = nI (k - 1) from pk_sub (b := 1) (by omega)]
          refine g_aload_0 (pc := 50) C dX4_removeBookingAt_50 ?_
          refine g_getr (pc := 51) C r2 fl_X4_removeBookingAt_27 (kk_s0 hs) dX4_removeBookingAt_51 ?_
          refine g_iload_2 (pc := 54) C dX4_removeBookingAt_54 ?_
          refine g_aald (pc := 55) C k21 rfl rfl l21 (by omega) ⟨g2, by omega⟩ dX4_removeBookingAt_55 ?_
          refine g_aast (pc := 56) C k21 (hp.kb hs (by omega)) (Or.inr (Or.inr (Or.inl ⟨rfl, rfl⟩))) (by omega) rfl l21 (by omega) dX4_removeBookingAt_56 ?_
          refine g_aload_0 (pc := 57) C dX4_removeBookingAt_57 ?_
          refine g_getr (pc := 58) C ⟨by rw [up_ne _ _ (by omega)]; exact r2.1, r2.2⟩ fl_X4_removeBookingAt_27 (kk_s0 hs) dX4_removeBookingAt_58 ?_
          refine g_iload_2 (pc := 61) C dX4_removeBookingAt_61 ?_
          refine g_aload_3 (pc := 62) C dX4_removeBookingAt_62 ?_
          refine g_aast (pc := 63) C k21 (hp.kb hs (by omega)) (Or.inr (Or.inr (Or.inl ⟨rfl, rfl⟩))) (by omega) rfl l21 (by omega) dX4_removeBookingAt_63 ?_
          refine g_iinc_2 (pc := 64) (v := nI (k + 1)) C dX4_removeBookingAt_64 (nI_1 k) ?_
          refine g_goto (pc := 67) (tgt := 17) C dX4_removeBookingAt_67 (by decide) ?_
          refine g_kill_3 ?_
          refine ih (k + 1) (by omega) _ (by omega) (by omega) (fun j hj => ?_) (fun a ha => by rw [up_ne _ _ ha, up_ne _ _ ha]; exact i2 a ha)
          rw [up_same, up_same]
          by_cases e1 : j = k
          · rw [e1, up_same, rot_s2 hk1]
          · rw [up_ne _ _ e1]
            by_cases e2 : j = k - 1
            · rw [e2, up_same, rot_s1 hk1]
            · rw [up_ne _ _ e2, rot_s hk1 e2 e1]; exact i1 j hj
    · exact absurd (by rw [hx]; exact nI_lt hi (by omega)) c9

set_option maxRecDepth 100000 in
set_option maxHeartbeats 1000000 in
theorem c_hoursOn0 {l : Launch} {D : va_G} {cy : Nat → ClassId} {B : Nat} {M : MM} {P : PP} {m d : Int32} {s : Nat} {f : FF} (hs : isSt s) (hp : PS P s) (hc : M s 4 = nI (sn f)) (h30 : sn f ≤ 30) (hb : ∀ i, i < sn f → i < 30 → ∀ k, 2 ≤ k → k < 5 → M (P (s + 21) i) k = f (133 + 6 * i + k)) : KI l D cy B yX4_hoursOn wsX4_hoursOn 1 22 [Value.ref (B + s), Value.int m, Value.int d] M P (qi (bkO f m d) M P) := by
  refine met_KI (cc := cX4_hoursOn) (maxL := 6) (ret := (some .int)) (lv := [some (Value.ref (B + s)), some (Value.int m), some (Value.int d), none, none, none]) (by decide) rfl rfl rfl (Nat.le_of_ble_eq_true rfl) ?_
  intro X C F
  refine g_iconst (pc := 0) (v := 0) C dX4_hoursOn_0 rfl ?_
  refine g_istore_3 (pc := 1) C dX4_hoursOn_1 ?_
  refine g_iconst (pc := 2) (v := 0) C dX4_hoursOn_2 rfl ?_
  refine g_istore_4 (pc := 3) C dX4_hoursOn_3 ?_
  refine ind_m (fun (k : Nat) => sn f - k) (p := fun (k : Nat) => k ≤ sn f → G X D cy B 0 0 369 M P 5 [some (Value.ref (B + s)), some (Value.int m), some (Value.int d), some (Value.int (bk f m d k)), some (Value.int (nI k)), none] []) ?_ 0 (Nat.zero_le _)
  intro k ih hk
  refine g_iload_4 (pc := 5) C dX4_hoursOn_5 ?_
  refine g_aload_0 (pc := 7) C dX4_hoursOn_7 ?_
  refine g_geti (pc := 8) C fl_X4_hoursOn_61 (kk_s0 hs) dX4_hoursOn_8 ?_
  rw [hc]
  refine g_icmp_ge (pc := 11) (tgt := 51) C dX4_hoursOn_11 (by decide) (fun c11 => ?_) (fun c11 => ?_)
  · have e : sn f ≤ k := i_le (by omega) (by omega) c11
    refine g_iload_3 (pc := 51) C dX4_hoursOn_51 ?_
    exact g_iret (post := qi (bkO f m d) M P) C F dX4_hoursOn_52 ⟨by rw [show k = sn f by omega]; rfl, rfl, rfl⟩
  · have hk2 : k < sn f := i_nle (by omega) (by omega) c11
    have hq := hb k hk2 (by omega)
    refine g_aload_0 (pc := 14) C dX4_hoursOn_14 ?_
    refine g_iload_4 (pc := 15) C dX4_hoursOn_15 ?_
    refine g_V1qs (pc := 17) C e_X4_hoursOn_64 (Nat.le_of_ble_eq_true rfl) rfl dX4_hoursOn_17 (kk_s0 hs) (c_bookingAt0 hs hp hc h30 (i := k) rfl hk2) ?_
    refine g_astore_5 (pc := 20) C dX4_hoursOn_20 ?_
    refine g_aload_5 (pc := 22) C dX4_hoursOn_22 ?_
    refine g_ifnull (pc := 24) C dX4_hoursOn_24 ?_
    refine g_aload_5 (pc := 27) C dX4_hoursOn_27 ?_
    refine g_iload_1 (pc := 29) C dX4_hoursOn_29 ?_
    refine g_iload_2 (pc := 30) C dX4_hoursOn_30 ?_
    refine g_V2ie (pc := 31) C e_X4_hoursOn_158 (Nat.le_of_ble_eq_true rfl) rfl dX4_hoursOn_31 (hp.kb hs (by omega)) (c_isFor (hp.kb hs (by omega))) ?_
    rw [hq 2 (by decide) (by decide), hq 3 (by decide) (by decide)]
    refine g_if_eq (pc := 34) (tgt := 45) C dX4_hoursOn_34 (by decide) (fun c34 => ?_) (fun c34 => ?_)
    · have e2 : bk f m d (k + 1) = bk f m d k := by simp only [bk]; rw [if_neg (if0 c34)]; exact z_add _
      rw [← e2]
      refine g_iinc_4 (pc := 45) (v := nI (k + 1)) C dX4_hoursOn_45 (nI_1 k) ?_
      refine g_goto (pc := 48) (tgt := 5) C dX4_hoursOn_48 (by decide) ?_
      refine g_kill_5 ?_
      exact ih (k + 1) (by omega) (by omega)
    · have e2 : bk f m d (k + 1) = bk f m d k + f (133 + 6 * k + 4) := by simp only [bk]; rw [if_pos (if1 c34)]
      refine g_iload_3 (pc := 37) C dX4_hoursOn_37 ?_
      refine g_aload_5 (pc := 38) C dX4_hoursOn_38 ?_
      refine g_geti (pc := 40) C fl_X4_hoursOn_152 (hp.kb hs (by omega)) dX4_hoursOn_40 ?_
      rw [hq 4 (by decide) (by decide)]
      refine g_iadd (pc := 43) C dX4_hoursOn_43 ?_
      rw [← e2]
      refine g_istore_3 (pc := 44) C dX4_hoursOn_44 ?_
      refine g_iinc_4 (pc := 45) (v := nI (k + 1)) C dX4_hoursOn_45 (nI_1 k) ?_
      refine g_goto (pc := 48) (tgt := 5) C dX4_hoursOn_48 (by decide) ?_
      refine g_kill_5 ?_
      exact ih (k + 1) (by omega) (by omega)

set_option maxRecDepth 100000 in
set_option maxHeartbeats 1000000 in
theorem c_putOff {l : Launch} {D : va_G} {cy : Nat → ClassId} {B : Nat} {M : MM} {P : PP} {s c q : Nat} {f : FF} (hs : isSt s) (hp : PS P s) (hr : Rp M P s f) (hw : Wf c q f) {p i m : Nat} (hpp : p < sn f) (em : f (133 + 6 * p + 2) = nI m) (hi1 : 1 ≤ i) (hi2 : i ≤ 30) (hok : bkO f (nI m) (f 3 + nI i) + f (133 + 6 * p + 4) ≤ 12) (hno : ∀ j, 1 ≤ j → j < i → ¬ bkO f (nI m) (f 3 + nI j) + f (133 + 6 * p + 4) ≤ 12) : KV l D cy B yX4_putOff wsX4_putOff 2 47 [Value.ref (B + s), Value.ref (B + P (s + 21) p)] M P (fun M1 P1 => P1 = P ∧ Rp M1 P s (poF f p i) ∧ ∀ a, a < s ∨ s + 52 ≤ a → M1 a = M a) := by
  refine met_KV (cc := cX4_putOff) (maxL := 3) (ret := none) (lv := [some (Value.ref (B + s)), some (Value.ref (B + P (s + 21) p)), none]) (by decide) rfl rfl rfl (Nat.le_of_ble_eq_true rfl) ?_
  intro X C F
  have h30 := hw.s30
  have hq := hr.2.2.2 p hpp (by omega)
  have kb := hp.kb hs (i := p) (by omega)
  have hbn := hp.bin (i := p) (by omega)
  have nsb : s ≠ P (s + 21) p := by omega
  refine g_aload_1 (pc := 0) C dX4_putOff_0 ?_
  refine g_dup (pc := 1) C dX4_putOff_1 rfl ?_
  refine g_geti (pc := 2) C fl_X4_putOff_155 kb dX4_putOff_2 ?_
  rw [hq 5 (by decide)]
  refine g_iconst (pc := 5) (v := 1) C dX4_putOff_5 rfl ?_
  refine g_iadd (pc := 6) C dX4_putOff_6 ?_
  refine g_puti (pc := 7) C pf_X4_putOff_155 kb dX4_putOff_7 ?_
  refine g_aload_0 (pc := 10) C dX4_putOff_10 ?_
  refine g_dup (pc := 11) C dX4_putOff_11 rfl ?_
  refine g_geti (pc := 12) C fl_X4_putOff_80 (kk_s0 hs) dX4_putOff_12 ?_
  rw [up_ne _ _ nsb, hr.1.2.2.2.2.2.1]
  refine g_iconst (pc := 15) (v := 1) C dX4_putOff_15 rfl ?_
  refine g_iadd (pc := 16) C dX4_putOff_16 ?_
  refine g_puti (pc := 17) C pf_X4_putOff_80 (kk_s0 hs) dX4_putOff_17 ?_
  refine g_memo (fun M1 => (∀ k, k ≠ 5 → M1 (P (s + 21) p) k = M (P (s + 21) p) k) ∧ M1 (P (s + 21) p) 5 = f (133 + 6 * p + 5) + 1 ∧ M1 s 8 = f 8 + 1 ∧ (∀ k, k ≠ 8 → M1 s k = M s k) ∧ (∀ a, a ≠ P (s + 21) p → a ≠ s → M1 a = M a)) ⟨fun k h5 => by simp [up_same, up_ne, nsb, Ne.symm nsb, h5], by simp [up_same, up_ne, nsb, Ne.symm nsb], by simp [up_same, up_ne, nsb, Ne.symm nsb], fun k h8 => by simp [up_same, up_ne, nsb, Ne.symm nsb, h8], fun a h1 h2 => by simp [up_ne, h1, h2]⟩ (fun M1 hM1 => ?_)
  obtain ⟨a1, a2, a3, a4, a5⟩ := hM1
  have hb5 : ∀ i, i < sn f → i < 30 → ∀ k, 2 ≤ k → k < 5 → M1 (P (s + 21) i) k = f (133 + 6 * i + k) := fun i h1 h2 k h3 h4 => by
    have hbi := hp.bin h2
    by_cases e : i = p
    · subst e; rw [a1 k (by omega)]; exact hq k (by omega)
    · rw [a5 _ (fun z => e (hp.inj h2 (by omega) z)) (by omega)]; exact hr.2.2.2 i h1 h2 k (by omega)
  refine g_iconst (pc := 20) (v := 1) C dX4_putOff_20 rfl ?_
  refine g_istore_2 (pc := 21) C dX4_putOff_21 ?_
  refine ind_m (fun (k : Nat) => i - k) (p := fun (k : Nat) => 1 ≤ k → k ≤ i → G X D cy B 0 0 369 M1 P 22 [some (Value.ref (B + s)), some (Value.ref (B + P (s + 21) p)), some (Value.int (nI k))] []) ?_ 1 (Nat.le_refl _) hi1
  intro k ih hk1 hk2
  refine g_iload_2 (pc := 22) C dX4_putOff_22 ?_
  refine g_bipush (pc := 23) (v := 30) C dX4_putOff_23 rfl ?_
  refine g_icmp_gt (pc := 25) (tgt := 69) C dX4_putOff_25 (by decide) (fun c25 => ?_) (fun c25 => ?_)
  · exact absurd (i_lt (a := 30) (by omega) (by omega) c25) (by omega)
  · refine g_aload_0 (pc := 28) C dX4_putOff_28 ?_
    refine g_aload_1 (pc := 29) C dX4_putOff_29 ?_
    refine g_geti (pc := 30) C fl_X4_putOff_148 kb dX4_putOff_30 ?_
    rw [a1 2 (by decide), hq 2 (by decide), em]
    refine g_aload_0 (pc := 33) C dX4_putOff_33 ?_
    refine g_geti (pc := 34) C fl_X4_putOff_71 (kk_s0 hs) dX4_putOff_34 ?_
    rw [a4 5 (by decide), hr.1.2.2.1]
    refine g_iload_2 (pc := 37) C dX4_putOff_37 ?_
    refine g_iadd (pc := 38) C dX4_putOff_38 ?_
    refine g_V2ie (pc := 39) C e_X4_putOff_140 (Nat.le_of_ble_eq_true rfl) rfl dX4_putOff_39 (kk_s0 hs) (c_hoursOn0 hs hp (f := f) (by rw [a4 4 (by decide), hr.1.2.1]; exact hw.s) h30 hb5) ?_
    refine g_aload_1 (pc := 42) C dX4_putOff_42 ?_
    refine g_geti (pc := 43) C fl_X4_putOff_152 kb dX4_putOff_43 ?_
    rw [a1 4 (by decide), hq 4 (by decide)]
    refine g_iadd (pc := 46) C dX4_putOff_46 ?_
    refine g_bipush (pc := 47) (v := 12) C dX4_putOff_47 rfl ?_
    refine g_icmp_gt (pc := 49) (tgt := 63) C dX4_putOff_49 (by decide) (fun c49 => ?_) (fun c49 => ?_)
    · have e : k < i := by
        rcases Nat.lt_or_ge k i with h9 | h9
        · exact h9
        · exact absurd (by rw [show k = i by omega]; exact hok) (Int32.not_le.mpr c49)
      refine g_iinc_2 (pc := 63) (v := nI (k + 1)) C dX4_putOff_63 (nI_1 k) ?_
      refine g_goto (pc := 66) (tgt := 22) C dX4_putOff_66 (by decide) ?_
      exact ih (k + 1) (by omega) (by omega) (by omega)
    · have e : k = i := by
        rcases Nat.lt_or_ge k i with h9 | h9
        · exact absurd (Int32.not_lt.mp c49) (hno k hk1 h9)
        · omega
      subst k
      refine g_aload_1 (pc := 52) C dX4_putOff_52 ?_
      refine g_aload_0 (pc := 53) C dX4_putOff_53 ?_
      refine g_geti (pc := 54) C fl_X4_putOff_71 (kk_s0 hs) dX4_putOff_54 ?_
      rw [a4 5 (by decide), hr.1.2.2.1]
      refine g_iload_2 (pc := 57) C dX4_putOff_57 ?_
      refine g_iadd (pc := 58) C dX4_putOff_58 ?_
      refine g_puti (pc := 59) C pf_X4_putOff_151 kb dX4_putOff_59 ?_
      exact g_vret (post := fun M1 P1 => P1 = P ∧ Rp M1 P s (poF f p i) ∧ ∀ a, a < s ∨ s + 52 ≤ a → M1 a = M a) C F dX4_putOff_62 ⟨rfl, Rp_po hs hp hr hw hpp (by rw [up_same, up_same]) (by rw [up_same, up_ne _ _ (by decide), a2]) (fun k h3 h5 => by rw [up_same, up_ne _ _ h3, a1 k h5]) (by rw [up_ne _ _ nsb]; exact a3) (fun k h8 => by rw [up_ne _ _ nsb]; exact a4 k h8) (fun a h1 h2 => by rw [up_ne _ _ h1]; exact a5 a h1 h2), fun a ha => by rw [up_ne _ _ (by omega)]; exact a5 a (by omega) (by omega)⟩
