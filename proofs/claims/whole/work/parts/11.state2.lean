set_option maxRecDepth 100000 in
set_option maxHeartbeats 1000000 in
theorem c_copyState {l : Launch} {D : va_G} {cy : Nat → ClassId} {B : Nat} {M : MM} {P : PP} {s t c q : Nat} {f : FF} (hs : isSt s) (ht : isSt t) (hn : s ≠ t) (hps : PS P s) (hpt : PS P t) (hr : Rp M P t f) (hw : Wf c q f) : KV l D cy B yX4_copyFrom wsX4_copyFrom 2 43 [Value.ref (B + s), Value.ref (B + t)] M P (fun M1 P1 => P1 = P ∧ Rp M1 P s f ∧ ∀ a, a < s ∨ s + 52 ≤ a → M1 a = M a) := by
  refine met_KV (cc := cX4_copyFrom) (maxL := 5) (ret := none) (lv := [some (Value.ref (B + s)), some (Value.ref (B + t)), none, none, none]) (by decide) rfl rfl rfl (Nat.le_of_ble_eq_true rfl) ?_
  intro X C F
  refine g_aload_0 (pc := 0) C dX4_copyFrom_0 ?_
  refine g_aload_1 (pc := 1) C dX4_copyFrom_1 ?_
  refine g_V1v (pc := 2) C e_X4_copyFrom_39 (Nat.le_of_ble_eq_true rfl) rfl dX4_copyFrom_2 (kk_s0 hs) (c_copyNumbers (kk_s0 hs) (kk_s0 ht) (Ne.symm hn)) (fun M1 P1 hq => ?_)
  obtain ⟨hP1, q1, q2⟩ := hq
  subst P1
  have hap := st_apart hs ht hn
  have h6 := hw.m6
  have h30 := hw.s30
  have hRS : RS M1 s f := ⟨(q1 3 (by decide) (by decide)).trans hr.1.1, (q1 4 (by decide) (by decide)).trans hr.1.2.1, (q1 5 (by decide) (by decide)).trans hr.1.2.2.1, (q1 6 (by decide) (by decide)).trans hr.1.2.2.2.1, (q1 7 (by decide) (by decide)).trans hr.1.2.2.2.2.1, (q1 8 (by decide) (by decide)).trans hr.1.2.2.2.2.2.1, (q1 9 (by decide) (by decide)).trans hr.1.2.2.2.2.2.2.1, (q1 10 (by decide) (by decide)).trans hr.1.2.2.2.2.2.2.2.1, (q1 11 (by decide) (by decide)).trans hr.1.2.2.2.2.2.2.2.2.1, (q1 12 (by decide) (by decide)).trans hr.1.2.2.2.2.2.2.2.2.2.1, (q1 13 (by decide) (by decide)).trans hr.1.2.2.2.2.2.2.2.2.2.2.1, (q1 14 (by decide) (by decide)).trans hr.1.2.2.2.2.2.2.2.2.2.2.2.1, (q1 15 (by decide) (by decide)).trans hr.1.2.2.2.2.2.2.2.2.2.2.2.2⟩
  have hF : ∀ a, a < s ∨ s + 52 ≤ a → M1 a = M a := fun a ha => q2 a (by omega)
  refine g_iconst (pc := 5) (v := 0) C dX4_copyFrom_5 rfl ?_
  refine g_istore_2 (pc := 6) C dX4_copyFrom_6 ?_
  refine ind_m (fun (k : Nat) => 6 - k) (p := fun (k : Nat) => ∀ M2 : MM, k ≤ 6 → RS M2 s f → (∀ i, i < k → ∀ j, j < 6 → M2 (s + 2 + i) j = f (13 + 6 * i + j)) → (∀ a, a < s ∨ s + 52 ≤ a → M2 a = M a) → G X D cy B 0 0 376 M2 P 7 [some (Value.ref (B + s)), some (Value.ref (B + t)), some (Value.int (nI k)), none, none] []) ?_ 0 M1 (Nat.zero_le _) hRS (fun j hj => absurd hj (Nat.not_lt_zero _)) hF
  intro k ih M2 hk i1 i2 i3
  refine g_iload_2 (pc := 7) C dX4_copyFrom_7 ?_
  refine g_bipush (pc := 8) (v := 6) C dX4_copyFrom_8 rfl ?_
  refine g_icmp_ge (pc := 10) (tgt := 47) C dX4_copyFrom_10 (by decide) (fun c10 => ?_) (fun c10 => ?_)
  · have e : 6 ≤ k := i_le (a := 6) (by omega) (by omega) c10
    have hRF : RF M2 s f := fun i hi j hj => i2 i (by omega) j hj
    refine g_iconst (pc := 47) (v := 0) C dX4_copyFrom_47 rfl ?_
    refine g_istore_2 (pc := 48) C dX4_copyFrom_48 ?_
    refine ind_m (fun (k : Nat) => mn f - k) (p := fun (k : Nat) => ∀ M4 : MM, k ≤ mn f → RS M4 s f → RF M4 s f → (∀ i, i < k → Rm M4 s f i) → (∀ a, a < s ∨ s + 52 ≤ a → M4 a = M a) → G X D cy B 0 0 376 M4 P 49 [some (Value.ref (B + s)), some (Value.ref (B + t)), some (Value.int (nI k)), none, none] []) ?_ 0 M2 (Nat.zero_le _) i1 hRF (fun j hj => absurd hj (Nat.not_lt_zero _)) i3
    intro g ih2 M4 hg j1 j2 j3 j4
    refine g_iload_2 (pc := 49) C dX4_copyFrom_49 ?_
    refine g_aload_0 (pc := 50) C dX4_copyFrom_50 ?_
    refine g_geti (pc := 51) C fl_X4_copyFrom_51 (kk_s0 hs) dX4_copyFrom_51 ?_
    rw [j1.1, hw.m]
    refine g_icmp_ge (pc := 54) (tgt := 91) C dX4_copyFrom_54 (by decide) (fun c54 => ?_) (fun c54 => ?_)
    · have e2 : mn f ≤ g := i_le (by omega) (by omega) c54
      have hRM : RM M4 s f := fun i h1 h2 => j3 i (by omega)
      refine g_iconst (pc := 91) (v := 0) C dX4_copyFrom_91 rfl ?_
      refine g_istore_2 (pc := 92) C dX4_copyFrom_92 ?_
      refine ind_m (fun (k : Nat) => sn f - k) (p := fun (k : Nat) => ∀ M6 : MM, k ≤ sn f → RS M6 s f → RF M6 s f → RM M6 s f → (∀ i, i < k → ∀ j, j < 6 → M6 (P (s + 21) i) j = f (133 + 6 * i + j)) → (∀ a, a < s ∨ s + 52 ≤ a → M6 a = M a) → G X D cy B 0 0 376 M6 P 93 [some (Value.ref (B + s)), some (Value.ref (B + t)), some (Value.int (nI k)), none, none] []) ?_ 0 M4 (Nat.zero_le _) j1 j2 hRM (fun j hj => absurd hj (Nat.not_lt_zero _)) j4
      intro d ih3 M6 hd u1 u2 u3 u4 u5
      refine g_iload_2 (pc := 93) C dX4_copyFrom_93 ?_
      refine g_aload_0 (pc := 94) C dX4_copyFrom_94 ?_
      refine g_geti (pc := 95) C fl_X4_copyFrom_61 (kk_s0 hs) dX4_copyFrom_95 ?_
      rw [u1.2.1, hw.s]
      refine g_icmp_ge (pc := 98) (tgt := 135) C dX4_copyFrom_98 (by decide) (fun c98 => ?_) (fun c98 => ?_)
      · have e3 : sn f ≤ d := i_le (by omega) (by omega) c98
        exact g_vret (post := fun M1 P1 => P1 = P ∧ Rp M1 P s f ∧ ∀ a, a < s ∨ s + 52 ≤ a → M1 a = M a) C F dX4_copyFrom_135 ⟨rfl, ⟨u1, u2, u3, fun i h1 h2 j hj => u4 i (by omega) j hj⟩, u5⟩
      · have hd2 : d < sn f := i_nle (by omega) (by omega) c98
        have hr6 : Rp M6 P t f := Rp_fr hpt hr (fun a h1 h2 => u5 a (by omega))
        have hbs := hps.bin (i := d) (by omega)
        have hbt := hpt.bin (i := d) (by omega)
        refine g_aload_0 (pc := 101) C dX4_copyFrom_101 ?_
        refine g_iload_2 (pc := 102) C dX4_copyFrom_102 ?_
        refine g_V1qs (pc := 103) C e_X4_copyFrom_64 (Nat.le_of_ble_eq_true rfl) rfl dX4_copyFrom_103 (kk_s0 hs) (c_bookingAt0 hs hps (u1.2.1.trans hw.s) h30 (i := d) rfl hd2) ?_
        refine g_astore_3 (pc := 106) C dX4_copyFrom_106 ?_
        refine g_aload_1 (pc := 107) C dX4_copyFrom_107 ?_
        refine g_iload_2 (pc := 108) C dX4_copyFrom_108 ?_
        refine g_V1qs (pc := 109) C e_X4_copyFrom_64 (Nat.le_of_ble_eq_true rfl) rfl dX4_copyFrom_109 (kk_s0 ht) (c_bookingAt ht hpt hr6 hw (i := d) rfl hd2) ?_
        refine g_astore_4 (pc := 112) C dX4_copyFrom_112 ?_
        refine g_aload_3 (pc := 114) C dX4_copyFrom_114 ?_
        refine g_ifnull (pc := 115) C dX4_copyFrom_115 ?_
        refine g_aload_4 (pc := 118) C dX4_copyFrom_118 ?_
        refine g_ifnull (pc := 120) C dX4_copyFrom_120 ?_
        refine g_aload_3 (pc := 123) C dX4_copyFrom_123 ?_
        refine g_aload_4 (pc := 124) C dX4_copyFrom_124 ?_
        refine g_V1v (pc := 126) C e_X4_copyFrom_68 (Nat.le_of_ble_eq_true rfl) rfl dX4_copyFrom_126 (hps.kb hs (by omega)) (c_copyBooking (hps.kb hs (by omega)) (hpt.kb ht (by omega)) (by omega)) (fun M7 P7 hq => ?_)
        obtain ⟨hP7, w1, w2⟩ := hq
        subst P7
        refine g_iinc_2 (pc := 129) (v := nI (d + 1)) C dX4_copyFrom_129 (nI_1 d) ?_
        refine g_goto (pc := 132) (tgt := 93) C dX4_copyFrom_132 (by decide) ?_
        have hb := hps.bin (i := d) (by omega)
        refine g_kill_3 ?_
        refine g_kill_4 ?_
        refine ih3 (d + 1) (by omega) M7 (by omega) (by unfold RS; rw [w2 s (by omega)]; exact u1) (fun i hi j hj => by rw [w2 _ (by omega)]; exact u2 i hi j hj) (fun i h1 h2 => ?_) (fun i hi j hj => ?_) (fun a ha => (w2 a (by omega)).trans (u5 a ha))
        · have hz := u3 i h1 h2
          unfold Rm at hz ⊢
          rw [w2 (s + 9 + 2 * i) (by omega), w2 (s + 10 + 2 * i) (by omega)]
          exact hz
        · by_cases e : i = d
          · subst e
            have hbt := hpt.bin (i := i) (by omega)
            rw [w1 j hj, u5 _ (by omega)]
            exact hr.2.2.2 i hd2 (by omega) j hj
          · rw [w2 _ (fun z => e (hps.inj (by omega) (by omega) z))]
            exact u4 i (by omega) j hj
    · have hg2 : g < mn f := i_nle (by omega) (by omega) c54
      have hr4 : Rp M4 P t f := Rp_fr hpt hr (fun a h1 h2 => j4 a (by omega))
      refine g_aload_0 (pc := 57) C dX4_copyFrom_57 ?_
      refine g_iload_2 (pc := 58) C dX4_copyFrom_58 ?_
      refine g_V1qs (pc := 59) C e_X4_copyFrom_54 (Nat.le_of_ble_eq_true rfl) rfl dX4_copyFrom_59 (kk_s0 hs) (c_machineAt0 hs hps (j1.1.trans hw.m) h6 (i := g) rfl hg2) ?_
      refine g_astore_3 (pc := 62) C dX4_copyFrom_62 ?_
      refine g_aload_1 (pc := 63) C dX4_copyFrom_63 ?_
      refine g_iload_2 (pc := 64) C dX4_copyFrom_64 ?_
      refine g_V1qs (pc := 65) C e_X4_copyFrom_54 (Nat.le_of_ble_eq_true rfl) rfl dX4_copyFrom_65 (kk_s0 ht) (c_machineAt ht hpt hr4 hw (i := g) rfl hg2) ?_
      refine g_astore_4 (pc := 68) C dX4_copyFrom_68 ?_
      refine g_aload_3 (pc := 70) C dX4_copyFrom_70 ?_
      refine g_ifnull (pc := 71) C dX4_copyFrom_71 ?_
      refine g_aload_4 (pc := 74) C dX4_copyFrom_74 ?_
      refine g_ifnull (pc := 76) C dX4_copyFrom_76 ?_
      refine g_aload_3 (pc := 79) C dX4_copyFrom_79 ?_
      refine g_aload_4 (pc := 80) C dX4_copyFrom_80 ?_
      refine g_V1v (pc := 82) C e_X4_copyFrom_58 (Nat.le_of_ble_eq_true rfl) rfl dX4_copyFrom_82 (kk_m hs (by omega)) (c_copyMachine (kk_m hs (by omega)) (kk_h hs (by omega)) (ln_h hs (by omega)) (hps.rh (by omega)) (kk_m ht (by omega)) (kk_h ht (by omega)) (ln_h ht (by omega)) (hpt.rh (by omega)) (by omega) (by omega) (by rw [(hr4.2.2.1 g hg2 (by omega)).2.2.2.2.1]; exact (hw.wm hg2).2.2.1)) (fun M5 P5 hq => ?_)
      obtain ⟨hP5, w1, w2, w3⟩ := hq
      subst P5
      refine g_iinc_2 (pc := 85) (v := nI (g + 1)) C dX4_copyFrom_85 (nI_1 g) ?_
      refine g_goto (pc := 88) (tgt := 49) C dX4_copyFrom_88 (by decide) ?_
      refine g_kill_3 ?_
      refine g_kill_4 ?_
      refine ih2 (g + 1) (by omega) M5 (by omega) (by unfold RS; rw [w3 s (by omega) (by omega)]; exact j1) (fun i hi j hj => by rw [w3 _ (by omega) (by omega)]; exact j2 i hi j hj) (fun i hi => ?_) (fun a ha => (w3 a (by omega) (by omega)).trans (j4 a ha))
      by_cases e : i = g
      · subst e
        have hz := hr.2.2.1 i hg2 (by omega)
        unfold Rm at hz ⊢
        rw [w1 0 (by decide), w1 1 (by decide), w1 2 (by decide), w1 3 (by decide), w1 4 (by decide), w1 5 (by decide), w1 6 (by decide), j4 (t + 9 + 2 * i) (by omega)]
        exact ⟨hz.1, hz.2.1, hz.2.2.1, hz.2.2.2.1, hz.2.2.2.2.1, hz.2.2.2.2.2.1, hz.2.2.2.2.2.2.1, fun j hj => by rw [w2 j hj, j4 (t + 10 + 2 * i) (by omega)]; exact hz.2.2.2.2.2.2.2 j hj⟩
      · have hz := j3 i (by omega)
        unfold Rm at hz ⊢
        rw [w3 (s + 9 + 2 * i) (by omega) (by omega), w3 (s + 10 + 2 * i) (by omega) (by omega)]
        exact hz
  · have hk2 : k < 6 := i_nle (a := 6) (by omega) (by omega) c10
    refine g_aload_0 (pc := 13) C dX4_copyFrom_13 ?_
    refine g_iload_2 (pc := 14) C dX4_copyFrom_14 ?_
    refine g_V1qs (pc := 15) C e_X4_copyFrom_43 (Nat.le_of_ble_eq_true rfl) rfl dX4_copyFrom_15 (kk_s0 hs) (c_farmerAt hs hps (i := k) rfl hk2) ?_
    refine g_astore_3 (pc := 18) C dX4_copyFrom_18 ?_
    refine g_aload_1 (pc := 19) C dX4_copyFrom_19 ?_
    refine g_iload_2 (pc := 20) C dX4_copyFrom_20 ?_
    refine g_V1qs (pc := 21) C e_X4_copyFrom_43 (Nat.le_of_ble_eq_true rfl) rfl dX4_copyFrom_21 (kk_s0 ht) (c_farmerAt ht hpt (i := k) rfl hk2) ?_
    refine g_astore_4 (pc := 24) C dX4_copyFrom_24 ?_
    refine g_aload_3 (pc := 26) C dX4_copyFrom_26 ?_
    refine g_ifnull (pc := 27) C dX4_copyFrom_27 ?_
    refine g_aload_4 (pc := 30) C dX4_copyFrom_30 ?_
    refine g_ifnull (pc := 32) C dX4_copyFrom_32 ?_
    refine g_aload_3 (pc := 35) C dX4_copyFrom_35 ?_
    refine g_aload_4 (pc := 36) C dX4_copyFrom_36 ?_
    refine g_V1v (pc := 38) C e_X4_copyFrom_47 (Nat.le_of_ble_eq_true rfl) rfl dX4_copyFrom_38 (kk_f hs hk2) (c_copyFarmer (kk_f hs hk2) (kk_f ht hk2) (by omega)) (fun M3 P3 hq => ?_)
    obtain ⟨hP3, w1, w2⟩ := hq
    subst P3
    refine g_iinc_2 (pc := 41) (v := nI (k + 1)) C dX4_copyFrom_41 (nI_1 k) ?_
    refine g_goto (pc := 44) (tgt := 7) C dX4_copyFrom_44 (by decide) ?_
    refine g_kill_3 ?_
    refine g_kill_4 ?_
    refine ih (k + 1) (by omega) M3 (by omega) (by unfold RS; rw [w2 s (by omega)]; exact i1) (fun i hi j hj => ?_) (fun a ha => (w2 a (by omega)).trans (i3 a ha))
    by_cases e : i = k
    · subst e
      rw [w1 j hj, i3 _ (by omega)]
      exact hr.2.1 i (by omega) j hj
    · rw [w2 _ (by omega)]
      exact i2 i (by omega) j hj
