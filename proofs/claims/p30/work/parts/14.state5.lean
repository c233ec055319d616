set_option maxRecDepth 100000 in
set_option maxHeartbeats 1000000 in
theorem c_addMachine {l : Launch} {D : va_G} {cy : Nat → ClassId} {B : Nat} {M : MM} {P : PP} {s c q : Nat} {f : FF} (hs : isSt s) (hp : PS P s) (hr : Rp M P s f) (hw : Wf c q f) {k r : Int32} (h6 : mn f < 6) : KI l D cy B yX4_addMachine wsX4_addMachine 2 45 [Value.ref (B + s), Value.int k, Value.int r] M P (fun x M1 P1 => x = nI (mn f) ∧ P1 = P ∧ Rp M1 P s (buyF f (mn f) k r (nI (kc f k (mn f)))) ∧ ∀ a, a < s ∨ s + 52 ≤ a → M1 a = M a) := by
  refine met_KI (cc := cX4_addMachine) (maxL := 5) (ret := (some .int)) (lv := [some (Value.ref (B + s)), some (Value.int k), some (Value.int r), none, none]) (by decide) rfl rfl rfl (Nat.le_of_ble_eq_true rfl) ?_
  intro X C F
  refine g_aload_0 (pc := 0) C dX4_addMachine_0 ?_
  refine g_iload_1 (pc := 1) C dX4_addMachine_1 ?_
  refine g_V1ie (pc := 2) C e_X4_addMachine_104 (Nat.le_of_ble_eq_true rfl) rfl dX4_addMachine_2 (kk_s0 hs) (c_machinesIn hs hp hr hw) ?_
  refine g_istore_3 (pc := 5) C dX4_addMachine_5 ?_
  refine g_aload_0 (pc := 6) C dX4_addMachine_6 ?_
  refine g_dup (pc := 7) C dX4_addMachine_7 rfl ?_
  refine g_geti (pc := 8) C fl_X4_addMachine_51 (kk_s0 hs) dX4_addMachine_8 ?_
  rw [hr.1.1, hw.m]
  refine g_iconst (pc := 11) (v := 1) C dX4_addMachine_11 rfl ?_
  refine g_iadd (pc := 12) C dX4_addMachine_12 ?_
  rw [nI_1]
  refine g_puti (pc := 13) C pf_X4_addMachine_51 (kk_s0 hs) dX4_addMachine_13 ?_
  refine g_aload_0 (pc := 16) C dX4_addMachine_16 ?_
  refine g_aload_0 (pc := 17) C dX4_addMachine_17 ?_
  refine g_geti (pc := 18) C fl_X4_addMachine_51 (kk_s0 hs) dX4_addMachine_18 ?_
  rw [up_same, up_same]
  refine g_iconst (pc := 21) (v := 1) C dX4_addMachine_21 rfl ?_
  refine g_isub (pc := 22) C dX4_addMachine_22 ?_
  rw [nI_pred]
  refine g_V1qs (pc := 23) C e_X4_addMachine_54 (Nat.le_of_ble_eq_true rfl) rfl dX4_addMachine_23 (kk_s0 hs) (c_machineAt0 hs hp (n := mn f + 1) (by rw [up_same, up_same]) (by omega) (i := mn f) rfl (Nat.lt_succ_self _)) ?_
  refine g_astore_4 (pc := 26) C dX4_addMachine_26 ?_
  refine g_aload_4 (pc := 28) C dX4_addMachine_28 ?_
  refine g_ifnonnull (pc := 30) (tgt := 46) C dX4_addMachine_30 (by decide) ?_
  refine g_aload_4 (pc := 46) C dX4_addMachine_46 ?_
  refine g_iload_1 (pc := 48) C dX4_addMachine_48 ?_
  refine g_iload_2 (pc := 49) C dX4_addMachine_49 ?_
  refine g_iload_3 (pc := 50) C dX4_addMachine_50 ?_
  refine g_V3v (pc := 51) C e_X4_addMachine_109 (Nat.le_of_ble_eq_true rfl) rfl dX4_addMachine_51 (kk_m hs h6) (c_begin (kk_m hs h6) (kk_h hs h6) (ln_h hs h6) (hp.rh h6)) (fun M1 P1 hq => ?_)
  obtain ⟨hP1, q1, q2, q3⟩ := hq
  subst P1
  have q4 := q3 s (by omega) (by omega)
  rw [up_same] at q4
  refine g_aload_0 (pc := 54) C dX4_addMachine_54 ?_
  refine g_geti (pc := 55) C fl_X4_addMachine_51 (kk_s0 hs) dX4_addMachine_55 ?_
  rw [q4, up_same]
  refine g_iconst (pc := 58) (v := 1) C dX4_addMachine_58 rfl ?_
  refine g_isub (pc := 59) C dX4_addMachine_59 ?_
  rw [nI_pred]
  exact g_iret (post := fun x M1 P1 => x = nI (mn f) ∧ P1 = P ∧ Rp M1 P s (buyF f (mn f) k r (nI (kc f k (mn f)))) ∧ ∀ a, a < s ∨ s + 52 ≤ a → M1 a = M a) C F dX4_addMachine_60 ⟨rfl, rfl, Rp_buy hs hp hr hw rfl h6 q1 q2 (by rw [q4, up_same, hw.m, nI_1]) (fun k hk => by rw [q4, up_ne _ _ hk]) (fun a e0 e1 e2 => by rw [q3 a e1 e2, up_ne _ _ e0]), fun a ha => by rw [q3 a (by omega) (by omega), up_ne _ _ (by omega)]⟩

set_option maxRecDepth 100000 in
set_option maxHeartbeats 1000000 in
theorem c_mendAndShare {l : Launch} {D : va_G} {cy : Nat → ClassId} {B : Nat} {M : MM} {P : PP} {s c q : Nat} {f : FF} (hs : isSt s) (hp : PS P s) (hr : Rp M P s f) (hw : Wf c q f) {m x : Nat} (hm : m < mn f) (hx1 : 10 ≤ x) (hx2 : x ≤ 211) (hx : f (49 + 14 * m + 3) = nI x) : KI l D cy B yX4_mendAndShare wsX4_mendAndShare 1 22 [Value.ref (B + s), Value.ref (B + (s + 9 + 2 * m))] M P (fun v M1 P1 => v = mdL f m 6 ∧ P1 = P ∧ Rp M1 P s (mendF f m) ∧ ∀ a, a < s ∨ s + 52 ≤ a → M1 a = M a) := by
  refine met_KI (cc := cX4_mendAndShare) (maxL := 7) (ret := (some .int)) (lv := [some (Value.ref (B + s)), some (Value.ref (B + (s + 9 + 2 * m))), none, none, none, none, none]) (by decide) rfl rfl rfl (Nat.le_of_ble_eq_true rfl) ?_
  intro X C F
  have h6 := hw.m6
  have hm7 := hr.2.2.1 m hm (by omega)
  refine g_aload_1 (pc := 0) C dX4_mendAndShare_0 ?_
  refine g_V0ie (pc := 1) C e_X4_mendAndShare_113 (Nat.le_of_ble_eq_true rfl) rfl dX4_mendAndShare_1 (kk_m hs (by omega)) (c_hoursSinceMended (kk_m hs (by omega)) (kk_h hs (by omega)) (ln_h hs (by omega)) (hp.rh (by omega))) ?_
  rw [sm_congr hm7.2.2.2.2.2.2.2, (hw.wm hm).since, hx]
  refine g_istore_2 (pc := 4) C dX4_mendAndShare_4 ?_
  refine g_aload_0 (pc := 5) C dX4_mendAndShare_5 ?_
  refine g_geti (pc := 6) C fl_X4_mendAndShare_36 (kk_s0 hs) dX4_mendAndShare_6 ?_
  rw [hr.1.2.2.2.2.2.2.2.2.1]
  refine g_istore_3 (pc := 9) C dX4_mendAndShare_9 ?_
  refine g_iconst (pc := 10) (v := 0) C dX4_mendAndShare_10 rfl ?_
  refine g_istore_4 (pc := 11) C dX4_mendAndShare_11 ?_
  refine ind_m (fun (k : Nat) => 6 - k) (p := fun (k : Nat) => ∀ M2 : MM, k ≤ 6 → (∀ i, i < 6 → ∀ j, j < 6 → M2 (s + 2 + i) j = mdA f m k (13 + 6 * i + j)) → (∀ a, (a < s + 2 ∨ s + 8 ≤ a) → M2 a = M a) → G X D cy B 0 0 369 M2 P 13 [some (Value.ref (B + s)), some (Value.ref (B + (s + 9 + 2 * m))), some (Value.int (nI x)), some (Value.int (mdL f m k)), some (Value.int (nI k)), none, none] []) ?_ 0 M (Nat.zero_le _) (fun i hi j hj => hr.2.1 i hi j hj) (fun _ _ => rfl)
  intro k ih M2 hk i1 i2
  refine g_iload_4 (pc := 13) C dX4_mendAndShare_13 ?_
  refine g_bipush (pc := 15) (v := 6) C dX4_mendAndShare_15 rfl ?_
  refine g_icmp_ge (pc := 17) (tgt := 70) C dX4_mendAndShare_17 (by decide) (fun c17 => ?_) (fun c17 => ?_)
  · have e : 6 ≤ k := i_le (a := 6) (by omega) (by omega) c17
    have e1 : k = 6 := by omega
    subst e1
    have b1 := i2 s (by omega)
    have b3 := i2 (s + 9 + 2 * m) (by omega)
    refine g_aload_0 (pc := 70) C dX4_mendAndShare_70 ?_
    refine g_dup (pc := 71) C dX4_mendAndShare_71 rfl ?_
    refine g_geti (pc := 72) C fl_X4_mendAndShare_83 (kk_s0 hs) dX4_mendAndShare_72 ?_
    rw [b1, hr.1.2.2.2.2.2.2.1]
    refine g_aload_0 (pc := 75) C dX4_mendAndShare_75 ?_
    refine g_geti (pc := 76) C fl_X4_mendAndShare_36 (kk_s0 hs) dX4_mendAndShare_76 ?_
    rw [b1, hr.1.2.2.2.2.2.2.2.2.1]
    refine g_isub (pc := 79) C dX4_mendAndShare_79 ?_
    refine g_puti (pc := 80) C pf_X4_mendAndShare_83 (kk_s0 hs) dX4_mendAndShare_80 ?_
    refine g_aload_0 (pc := 83) C dX4_mendAndShare_83 ?_
    refine g_dup (pc := 84) C dX4_mendAndShare_84 rfl ?_
    refine g_geti (pc := 85) C fl_X4_mendAndShare_89 (kk_s0 hs) dX4_mendAndShare_85 ?_
    rw [up_same, b1, up_ne _ _ (by decide), hr.1.2.2.2.2.2.2.2.2.2.2.1]
    refine g_aload_0 (pc := 88) C dX4_mendAndShare_88 ?_
    refine g_geti (pc := 89) C fl_X4_mendAndShare_36 (kk_s0 hs) dX4_mendAndShare_89 ?_
    rw [up_same, up_ne _ _ (by decide), hr.1.2.2.2.2.2.2.2.2.1]
    refine g_iadd (pc := 92) C dX4_mendAndShare_92 ?_
    refine g_puti (pc := 93) C pf_X4_mendAndShare_89 (kk_s0 hs) dX4_mendAndShare_93 ?_
    refine g_memo (fun M3 => M3 s 9 = f 4 - f 1 ∧ M3 s 13 = f 9 + f 1 ∧ (∀ k, k ≠ 9 → k ≠ 13 → M3 s k = M s k) ∧ (∀ a, a ≠ s → M3 a = M2 a)) ⟨by simp [up_same, up_up, up_ne], by simp [up_same, up_up, up_ne], fun k h1 h2 => by simp [up_same, up_up, up_ne, h1, h2], fun a ha => by simp [up_ne, ha]⟩ (fun M3 hM3 => ?_)
    obtain ⟨d1, d2, d3, d4⟩ := hM3
    refine g_aload_1 (pc := 96) C dX4_mendAndShare_96 ?_
    refine g_V0v (pc := 97) C e_X4_mendAndShare_124 (Nat.le_of_ble_eq_true rfl) rfl dX4_mendAndShare_97 (kk_m hs (by omega)) (c_forgetHours (kk_m hs (by omega)) (kk_h hs (by omega)) (ln_h hs (by omega)) (hp.rh (by omega))) (fun M4 P4 hq4 => ?_)
    obtain ⟨hP4, q1, q2⟩ := hq4
    subst P4
    refine g_aload_1 (pc := 100) C dX4_mendAndShare_100 ?_
    refine g_iconst (pc := 101) (v := 0) C dX4_mendAndShare_101 rfl ?_
    refine g_putz (pc := 102) C (Or.inl rfl) pf_X4_mendAndShare_127 (kk_m hs (by omega)) dX4_mendAndShare_102 ?_
    refine g_aload_1 (pc := 105) C dX4_mendAndShare_105 ?_
    refine g_dup (pc := 106) C dX4_mendAndShare_106 rfl ?_
    refine g_geti (pc := 107) C fl_X4_mendAndShare_131 (kk_m hs (by omega)) dX4_mendAndShare_107 ?_
    rw [up_same, up_ne _ _ (by decide), q2 _ (by omega), d4 _ (by omega), b3, hm7.2.2.2.2.2.2.1]
    refine g_iconst (pc := 110) (v := 1) C dX4_mendAndShare_110 rfl ?_
    refine g_iadd (pc := 111) C dX4_mendAndShare_111 ?_
    refine g_puti (pc := 112) C pf_X4_mendAndShare_131 (kk_m hs (by omega)) dX4_mendAndShare_112 ?_
    refine g_memo (fun M5 => (∀ k, k ≠ 4 → k ≠ 6 → M5 (s + 9 + 2 * m) k = M (s + 9 + 2 * m) k) ∧ M5 (s + 9 + 2 * m) 4 = 0 ∧ M5 (s + 9 + 2 * m) 6 = f (49 + 14 * m + 7) + 1 ∧ (∀ a, a ≠ s + 9 + 2 * m → M5 a = M4 a)) ⟨fun k h4 h6 => by simp [up_same, up_up, up_ne, h4, h6], by simp [up_same, up_up, up_ne], by simp [up_same, up_up, up_ne], fun a ha => by simp [up_ne, ha]⟩ (fun M5 hM5 => ?_)
    obtain ⟨g1, g2, g3, g4⟩ := hM5
    refine g_iload_3 (pc := 115) C dX4_mendAndShare_115 ?_
    exact g_iret (post := fun v M1 P1 => v = mdL f m 6 ∧ P1 = P ∧ Rp M1 P s (mendF f m) ∧ ∀ a, a < s ∨ s + 52 ≤ a → M1 a = M a) C F dX4_mendAndShare_116 ⟨rfl, rfl, Rp_mend hs hp hr hw hm (fun i hi j hj => by rw [g4 _ (by omega), q2 _ (by omega), d4 _ (by omega)]; exact i1 i hi j hj) g1 g2 g3 (fun j hj => by rw [g4 _ (by omega)]; exact q1 j hj) (by rw [g4 _ (by omega), q2 _ (by omega)]; exact d1) (by rw [g4 _ (by omega), q2 _ (by omega)]; exact d2) (fun k h1 h2 => by rw [g4 _ (by omega), q2 _ (by omega)]; exact d3 k h1 h2) (fun a e0 e1 e2 e3 => by rw [g4 a e2, q2 a e3, d4 a e0]; exact i2 a e1), fun a ha => by rw [g4 a (by omega), q2 a (by omega), d4 a (by omega)]; exact i2 a (by omega)⟩
  · have hk2 : k < 6 := i_nle (a := 6) (by omega) (by omega) c17
    have b1 := i2 s (by omega)
    have b2 := i2 (s + 10 + 2 * m) (by omega)
    refine g_aload_0 (pc := 20) C dX4_mendAndShare_20 ?_
    refine g_iload_4 (pc := 21) C dX4_mendAndShare_21 ?_
    refine g_V1qs (pc := 23) C e_X4_mendAndShare_43 (Nat.le_of_ble_eq_true rfl) rfl dX4_mendAndShare_23 (kk_s0 hs) (c_farmerAt hs hp (i := k) rfl hk2) ?_
    refine g_astore_5 (pc := 26) C dX4_mendAndShare_26 ?_
    refine g_aload_5 (pc := 28) C dX4_mendAndShare_28 ?_
    refine g_ifnull (pc := 30) C dX4_mendAndShare_30 ?_
    refine g_iload_2 (pc := 33) C dX4_mendAndShare_33 ?_
    refine g_if_le (pc := 34) (tgt := 64) C dX4_mendAndShare_34 (by decide) (fun c34 => ?_) (fun c34 => ?_)
    · exact absurd (i_le (b := 0) (by omega) (by omega) c34) (by omega)
    · refine g_aload_0 (pc := 37) C dX4_mendAndShare_37 ?_
      refine g_geti (pc := 38) C fl_X4_mendAndShare_36 (kk_s0 hs) dX4_mendAndShare_38 ?_
      rw [b1, hr.1.2.2.2.2.2.2.2.2.1]
      refine g_aload_1 (pc := 41) C dX4_mendAndShare_41 ?_
      refine g_iload_4 (pc := 42) C dX4_mendAndShare_42 ?_
      refine g_V1ie (pc := 44) C e_X4_mendAndShare_117 (Nat.le_of_ble_eq_true rfl) rfl dX4_mendAndShare_44 (kk_m hs (by omega)) (c_hoursOf (kk_m hs (by omega)) (kk_h hs (by omega)) (ln_h hs (by omega)) (hp.rh (by omega)) (i := k) rfl hk2) ?_
      rw [b2, hm7.2.2.2.2.2.2.2 k hk2]
      refine g_imul (pc := 47) C dX4_mendAndShare_47 ?_
      refine g_iload_2 (pc := 48) C dX4_mendAndShare_48 ?_
      refine g_idiv (pc := 49) C dX4_mendAndShare_49 (fun z => absurd (nI_inj (b := 0) (by omega) (by omega) z) (by omega)) ?_
      rw [← hx, show f 1 * f (49 + 14 * m + (8 + k)) / f (49 + 14 * m + 3) = shI f m k from rfl, hx]
      refine g_istore_6 (pc := 50) C dX4_mendAndShare_50 ?_
      refine g_aload_5 (pc := 52) C dX4_mendAndShare_52 ?_
      refine g_iload_6 (pc := 54) C dX4_mendAndShare_54 ?_
      refine g_V1ve (pc := 56) C e_X4_mendAndShare_120 (Nat.le_of_ble_eq_true rfl) rfl dX4_mendAndShare_56 (kk_f hs hk2) (c_bearMending (kk_f hs hk2)) ?_
      refine g_iload_3 (pc := 59) C dX4_mendAndShare_59 ?_
      refine g_iload_6 (pc := 60) C dX4_mendAndShare_60 ?_
      refine g_isub (pc := 62) C dX4_mendAndShare_62 ?_
      rw [show mdL f m k - shI f m k = mdL f m (k + 1) from rfl]
      refine g_istore_3 (pc := 63) C dX4_mendAndShare_63 ?_
      refine g_iinc_4 (pc := 64) (v := nI (k + 1)) C dX4_mendAndShare_64 (nI_1 k) ?_
      refine g_goto (pc := 67) (tgt := 13) C dX4_mendAndShare_67 (by decide) ?_
      refine g_kill_5 ?_
      refine g_kill_6 ?_
      refine ih (k + 1) (by omega) _ (by omega) (fun i hi j hj => ?_) (fun a ha => by rw [up_ne _ _ (by omega)]; exact i2 a ha)
      by_cases e : i = k
      · subst e
        rw [up_same]
        by_cases e5 : j = 5
        · subst e5
          rw [up_same, i1 i hi 5 hj, mdA_s5]
        · rw [up_ne _ _ e5]
          by_cases e0 : j = 0
          · subst e0
            rw [up_same, i1 i hi 0 hj, mdA_s0]
          · rw [up_ne _ _ e0, i1 i hi j hj, mdA_s hj (Or.inr ⟨e0, e5⟩)]
      · rw [up_ne _ _ (by omega), i1 i hi j hj, mdA_s hj (Or.inl e)]
