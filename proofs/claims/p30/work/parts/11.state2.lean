set_option maxRecDepth 100000 in
set_option maxHeartbeats 1000000 in
theorem c_copyState {l : Launch} {D : va_G} {cy : Nat → ClassId} {B : Nat} {M : MM} {P : PP} {s t c q : Nat} {f : FF} (hs : isSt s) (ht : isSt t) (hn : s ≠ t) (hps : PS P s) (hpt : PS P t) (hr : Rp M P t f) (hw : Wf c q f) : KV l D cy B yX4_copyFrom wsX4_copyFrom 2 43 [Value.ref (B + s), Value.ref (B + t)] M P (fun M1 P1 => P1 = P ∧ Rp M1 P s f ∧ ∀ a, a < s ∨ s + 52 ≤ a → M1 a = M a) := by
  refine met_KV (cc := cX4_copyFrom) (maxL := 5) (ret := none) (lv := [some (Value.ref (B + s)), some (Value.ref (B + t)), none, none, none]) (by decide) rfl rfl rfl (Nat.le_of_ble_eq_true rfl) ?_
  intro X C F
  refine g_aload_0 (pc := 0) C dX4_copyFrom_0 ?_
  refine g_aload_1 (pc := 1) C dX4_copyFrom_1 ?_
  refine g_V1v (pc := 2) C e_X4_copyFrom_39 (Nat.le_of_ble_eq_true rfl) rfl dX4_copyFrom_2 (kk_s0 hs) (c_copyNumbers (kk_s0 hs) (kk_s0 ht) (Ne.symm hn)) (fun M1 P1 hq => ?_)
  obtain ⟨hP1, q1, q2⟩ := hq
  subst P1
  have hap := st_apart hs ht hn
  have h6 := hw.m6
  have h30 := hw.s30
  have hRS : RS M1 s f := ⟨(q1 3 (by decide) (by decide)).trans hr.1.1, (q1 4 (by decide) (by decide)).trans hr.1.2.1, (q1 5 (by decide) (by decide)).trans hr.1.2.2.1, (q1 6 (by decide) (by decide)).trans hr.1.2.2.2.1, (q1 7 (by decide) (by decide)).trans hr.1.2.2.2.2.1, (q1 8 (by decide) (by decide)).trans hr.1.2.2.2.2.2.1, (q1 9 (by decide) (by decide)).trans hr.1.2.2.2.2.2.2.1, (q1 10 (by decide) (by decide)).trans hr.1.2.2.2.2.2.2.2.1, (q1 11 (by decide) (by decide)).trans hr.1.2.2.2.2.2.2.2.2.1, (q1 12 (by decide) (by decide)).trans hr.1.2.2.2.2.2.2.2.2.2.1, (q1 13 (by decide) (by decide)).trans hr.1.2.2.2.2.2.2.2.2.2.2.1, (q1 14 (by decide) (by decide)).trans hr.1.2.2.2.2.2.2.2.2.2.2.2.1, (q1 15 (by decide) (by decide)).trans hr.1.2.2.2.2.2.2.2.2.2.2.2.2⟩
  have hF : ∀ a, a < s ∨ s + 52 ≤ a → M1 a = M a := fun a ha => q2 a (by omega)
  refine g_iconst (pc := 5) (v := 0) C dX4_copyFrom_5 rfl ?_
  refine g_istore_2 (pc := 6) C dX4_copyFrom_6 ?_
  refine ind_m (fun (k : Nat) => 6 - k) (p := fun (k : Nat) => ∀ M2 : MM, k ≤ 6 → RS M2 s f → (∀ i, i < k → ∀ j, j < 6 → M2 (s + 2 + i) j = f (13 + 6 * i + j)) → (∀ a, a < s ∨ s + 52 ≤ a → M2 a = M a) → G X D cy B 0 0 369 M2 P 7 [some (Value.ref (B + s)), some (Value.ref (B + t)), some (Value.int (nI k)), none, none] []) ?_ 0 M1 (Nat.zero_le _) hRS (fun j hj => absurd hj (Nat.not_lt_zero _)) hF
  intro k ih M2 hk i1 i2 i3
  refine g_iload_2 (pc := 7) C dX4_copyFrom_7 ?_
  refine g_bipush (pc := 8) (v := 6) C dX4_copyFrom_8 rfl ?_
  refine g_icmp_ge (pc := 10) (tgt := 47) C dX4_copyFrom_10 (by decide) (fun c10 => ?_) (fun c10 => ?_)
  · have e : 6 ≤ k := i_le (a := 6) (by omega) (by omega) c10
    have hRF : RF M2 s f := fun i hi j hj => i2 i (by omega) j hj
    refine g_iconst (pc := 47) (v := 0) C dX4_copyFrom_47 rfl ?_
    refine g_istore_2 (pc := 48) C dX4_copyFrom_48 ?_
    refine ind_m (fun (k : Nat) => mn f - k) (p := fun (k : Nat) => ∀ M4 : MM, k ≤ mn f → RS M4 s f → RF M4 s f → (∀ i, i < k → Rm M4 s f i) → (∀ a, a < s ∨ s + 52 ≤ a → M4 a = M a) → G X D cy B 0 0 369 M4 P 49 [some (Value.ref (B + s)), some (Value.ref (B + t)), some (Value.int (nI k)), none, none] []) ?_ 0 M2 (Nat.zero_le _) i1 hRF (fun j hj => absurd hj (Nat.not_lt_zero _)) i3
    intro g ih2 M4 hg j1 j2 j3 j4
    refine g_iload_2 (pc := 49) C dX4_copyFrom_49 ?_
    refine g_aload_0 (pc := 50) C dX4_copyFrom_50 ?_
    refine g_geti (pc := 51) C fl_X4_copyFrom_51 (kk_s0 hs) dX4_copyFrom_51 ?_
    rw [j1.1, hw.m]
    refine g_icmp_ge (pc := 54) (tgt := 91) C dX4_copyFrom_54 (by decide) (fun c54 => ?_) (fun c54 => ?_)
    · have e2 : mn f ≤ g := i_le (by omega) (by omega) c54
      have hRM : RM M4 s f := fun i h1 h2 => j3 i (by omega)
      refine g_iconst (pc := 91) (v := 0) C dX4_copyFrom_91 rfl ?_
      refine g_istore_2 (pc := 92) C dX4_copyFrom_92 ?_
      refine ind_m (fun (k : Nat) => sn f - k) (p := fun (k : Nat) => ∀ M6 : MM, k ≤ sn f → RS M6 s f → RF M6 s f → RM M6 s f → (∀ i, i < k → ∀ j, j < 6 → M6 (P (s + 21) i) j = f (133 + 6 * i + j)) → (∀ a, a < s ∨ s + 52 ≤ a → M6 a = M a) → G X D cy B 0 0 369 M6 P 93 [some (Value.ref (B + s)), some (Value.ref (B + t)), some (Value.int (nI k)), none, none] []) ?_ 0 M4 (Nat.zero_le _) j1 j2 hRM (fun j hj => absurd hj (Nat.not_lt_zero _)) j4
      intro d ih3 M6 hd u1 u2 u3 u4 u5
      refine g_iload_2 (pc := 93) C dX4_copyFrom_93 ?_
      refine g_aload_0 (pc := 94) C dX4_copyFrom_94 ?_
      refine g_geti (pc := 95) C fl_X4_copyFrom_61 (kk_s0 hs) dX4_copyFrom_95 ?_
      rw [u1.2.1, hw.s]
      refine g_icmp_ge (pc := 98) (tgt := 135) C dX4_copyFrom_98 (by decide) (fun c98 => ?_) (fun c98 => ?_)
      · have e3 : sn f ≤ d := i_le (by omega) (by omega) c98
        exact g_vret (post := fun M1 P1 => P1 = P ∧ Rp M1 P s f ∧ ∀ a, a < s ∨ s + 52 ≤ a → M1 a = M a) C F dX4_copyFrom_135 ⟨rfl, ⟨u1, u2, u3, fun i h1 h2 j hj => u4 i (by omega) j hj⟩, u5⟩
      · have hd2 : d < sn f := i_nle (by omega) (by omega) c98
        have hr6 : Rp M6 P t f := Rp_fr hpt hr (fun a h1 h2 => u5 a (by omega))
        have hbs := hps.bin (i := d) (by omega)
        have hbt := hpt.bin (i := d) (by omega)
        refine g_aload_0 (pc := 101) C dX4_copyFrom_101 ?_
        refine g_iload_2 (pc := 102) C dX4_copyFrom_102 ?_
        refine g_V1qs (pc := 103) C e_X4_copyFrom_64 (Nat.le_of_ble_eq_true rfl) rfl dX4_copyFrom_103 (kk_s0 hs) (c_bookingAt0 hs hps (u1.2.1.trans hw.s) h30 (i := d) rfl hd2) ?_
        refine g_astore_3 (pc := 106) C dX4_copyFrom_106 ?_
        refine g_aload_1 (pc := 107) C dX4_copyFrom_107 ?_
        refine g_iload_2 (pc := 108) C dX4_copyFrom_108 ?_
        refine g_V1qs (pc := 109) C e_X4_copyFrom_64 (Nat.le_of_ble_eq_true rfl) rfl dX4_copyFrom_109 (kk_s0 ht) (c_bookingAt ht hpt hr6 hw (i := d) rfl hd2) ?_
        refine g_astore_4 (pc := 112) C dX4_copyFrom_112 ?_
        refine g_aload_3 (pc := 114) C dX4_copyFrom_114 ?_
        refine g_ifnull (pc := 115) C dX4_copyFrom_115 ?_
        refine g_aload_4 (pc := 118) C dX4_copyFrom_118 ?_
        refine g_ifnull (pc := 120) C dX4_copyFrom_120 ?_
        refine g_aload_3 (pc := 123) C dX4_copyFrom_123 ?_
        refine g_aload_4 (pc := 124) C dX4_copyFrom_124 ?_
        refine g_V1v (pc := 126) C e_X4_copyFrom_68 (Nat.le_of_ble_eq_true rfl) rfl dX4_copyFrom_126 (hps.kb hs (by omega)) (c_copyBooking (hps.kb hs (by omega)) (hpt.kb ht (by omega)) (by omega)) (fun M7 P7 hq => ?_)
        obtain ⟨hP7, w1, w2⟩ := hq
        subst P7
        refine g_iinc_2 (pc := 129) (v := nI (d + 1)) C dX4_copyFrom_129 (nI_1 d) ?_
        refine g_goto (pc := 132) (tgt := 93) C dX4_copyFrom_132 (by decide) ?_
        have hb := hps.bin (i := d) (by omega)
        refine g_kill_3 ?_
        refine g_kill_4 ?_
        refine ih3 (d + 1) (by omega) M7 (by omega) (by unfold RS; rw [w2 s (by omega)]; exact u1) (fun i hi j hj => by rw [w2 _ (by omega)]; exact u2 i hi j hj) (fun i h1 h2 => ?_) (fun i hi j hj => ?_) (fun a ha => (w2 a (by omega)).trans (u5 a ha))
        · have hz := u3 i h1 h2
          unfold Rm at hz ⊢
          rw [w2 (s + 9 + 2 * i) (by omega), w2 (s + 10 + 2 * i) (by omega)]
          exact hz
        · by_cases e : i = d
          · subst e
            have hbt := hpt.bin (i := i) (by omega)
            rw [w1 j hj, u5 _ (by omega)]
            exact hr.2.2.2 i hd2 (by omega) j hj
          · rw [w2 _ (fun z => e (hps.inj (by omega) (by omega) z))]
            exact u4 i (by omega) j hj
    · have hg2 : g < mn f := i_nle (by omega) (by omega) c54
      have hr4 : Rp M4 P t f := Rp_fr hpt hr (fun a h1 h2 => j4 a (by omega))
      refine g_aload_0 (pc := 57) C dX4_copyFrom_57 ?_
      refine g_iload_2 (pc := 58) C dX4_copyFrom_58 ?_
      refine g_V1qs (pc := 59) C e_X4_copyFrom_54 (Nat.le_of_ble_eq_true rfl) rfl dX4_copyFrom_59 (kk_s0 hs) (c_machineAt0 hs hps (j1.1.trans hw.m) h6 (i := g) rfl hg2) ?_
      refine g_astore_3 (pc := 62) C dX4_copyFrom_62 ?_
      refine g_aload_1 (pc := 63) C dX4_copyFrom_63 ?_
      refine g_iload_2 (pc := 64) C dX4_copyFrom_64 ?_
      refine g_V1qs (pc := 65) C e_X4_copyFrom_54 (Nat.le_of_ble_eq_true rfl) rfl dX4_copyFrom_65 (kk_s0 ht) (c_machineAt ht hpt hr4 hw (i := g) rfl hg2) ?_
      refine g_astore_4 (pc := 68) C dX4_copyFrom_68 ?_
      refine g_aload_3 (pc := 70) C dX4_copyFrom_70 ?_
      refine g_ifnull (pc := 71) C dX4_copyFrom_71 ?_
      refine g_aload_4 (pc := 74) C dX4_copyFrom_74 ?_
      refine g_ifnull (pc := 76) C dX4_copyFrom_76 ?_
      refine g_aload_3 (pc := 79) C dX4_copyFrom_79 ?_
      refine g_aload_4 (pc := 80) C dX4_copyFrom_80 ?_
      refine g_V1v (pc := 82) C e_X4_copyFrom_58 (Nat.le_of_ble_eq_true rfl) rfl dX4_copyFrom_82 (kk_m hs (by omega)) (c_copyMachine (kk_m hs (by omega)) (kk_h hs (by omega)) (ln_h hs (by omega)) (hps.rh (by omega)) (kk_m ht (by omega)) (kk_h ht (by omega)) (ln_h ht (by omega)) (hpt.rh (by omega)) (by omega) (by omega) (by rw [(hr4.2.2.1 g hg2 (by omega)).2.2.2.2.1]; exact (hw.wm hg2).2.2.1)) (fun M5 P5 hq => ?_)
      obtain ⟨hP5, w1, w2, w3⟩ := hq
      subst P5
      refine g_iinc_2 (pc := 85) (v := nI (g + 1)) C dX4_copyFrom_85 (nI_1 g) ?_
      refine g_goto (pc := 88) (tgt := 49) C dX4_copyFrom_88 (by decide) ?_
      refine g_kill_3 ?_
      refine g_kill_4 ?_
      refine ih2 (g + 1) (by omega) M5 (by omega) (by unfold RS; rw [w3 s (by omega) (by omega)]; exact j1) (fun i hi j hj => by rw [w3 _ (by omega) (by omega)]; exact j2 i hi j hj) (fun i hi => ?_) (fun a ha => (w3 a (by omega) (by omega)).trans (j4 a ha))
      by_cases e : i = g
      · subst e
        have hz := hr.2.2.1 i hg2 (by omega)
        unfold Rm at hz ⊢
        rw [w1 0 (by decide), w1 1 (by decide), w1 2 (by decide), w1 3 (by decide), w1 4 (by decide), w1 5 (by decide), w1 6 (by decide), j4 (t + 9 + 2 * i) (by omega)]
        exact ⟨hz.1, hz.2.1, hz.2.2.1, hz.2.2.2.1, hz.2.2.2.2.1, hz.2.2.2.2.2.1, hz.2.2.2.2.2.2.1, fun j hj => by rw [w2 j hj, j4 (t + 10 + 2 * i) (by omega)]; exact hz.2.2.2.2.2.2.2 j hj⟩
      · have hz := j3 i (by omega)
        unfold Rm at hz ⊢
        rw [w3 (s + 9 + 2 * i) (by omega) (by omega), w3 (s + 10 + 2 * i) (by omega) (by omega)]
        exact hz
  · have hk2 : k < 6 := i_nle (a := 6) (by omega) (by omega) c10
    refine g_aload_0 (pc := 13) C dX4_copyFrom_13 ?_
    refine g_iload_2 (pc := 14) C dX4_copyFrom_14 ?_
    refine g_V1qs (pc := 15) C e_X4_copyFrom_43 (Nat.le_of_ble_eq_true rfl) rfl dX4_copyFrom_15 (kk_s0 hs) (c_farmerAt hs hps (i := k) rfl hk2) ?_
    refine g_astore_3 (pc := 18) C dX4_copyFrom_18 ?_
    refine g_aload_1 (pc := 19) C dX4_copyFrom_19 ?_
    refine g_iload_2 (pc := 20) C dX4_copyFrom_20 ?_
    refine g_V1qs (pc := 21) C e_X4_copyFrom_43 (Nat.le_of_ble_eq_true rfl) rfl dX4_copyFrom_21 (kk_s0 ht) (c_farmerAt ht hpt (i := k) rfl hk2) ?_
    refine g_astore_4 (pc := 24) C dX4_copyFrom_24 ?_
    refine g_aload_3 (pc := 26) C dX4_copyFrom_26 ?_
    refine g_ifnull (pc := 27) C dX4_copyFrom_27 ?_
    refine g_aload_4 (pc := 30) C dX4_copyFrom_30 ?_
    refine g_ifnull (pc := 32) C dX4_copyFrom_32 ?_
    refine g_aload_3 (pc := 35) C dX4_copyFrom_35 ?_
    refine g_aload_4 (pc := 36) C dX4_copyFrom_36 ?_
    refine g_V1v (pc := 38) C e_X4_copyFrom_47 (Nat.le_of_ble_eq_true rfl) rfl dX4_copyFrom_38 (kk_f hs hk2) (c_copyFarmer (kk_f hs hk2) (kk_f ht hk2) (by omega)) (fun M3 P3 hq => ?_)
    obtain ⟨hP3, w1, w2⟩ := hq
    subst P3
    refine g_iinc_2 (pc := 41) (v := nI (k + 1)) C dX4_copyFrom_41 (nI_1 k) ?_
    refine g_goto (pc := 44) (tgt := 7) C dX4_copyFrom_44 (by decide) ?_
    refine g_kill_3 ?_
    refine g_kill_4 ?_
    refine ih (k + 1) (by omega) M3 (by omega) (by unfold RS; rw [w2 s (by omega)]; exact i1) (fun i hi j hj => ?_) (fun a ha => (w2 a (by omega)).trans (i3 a ha))
    by_cases e : i = k
    · subst e
      rw [w1 j hj, i3 _ (by omega)]
      exact hr.2.1 i (by omega) j hj
    · rw [w2 _ (by omega)]
      exact i2 i (by omega) j hj

set_option maxRecDepth 100000 in
set_option maxHeartbeats 1000000 in
theorem c_whyNotBookA {l : Launch} {D : va_G} {cy : Nat → ClassId} {B : Nat} {M : MM} {P : PP} {w m i h : Int32} {s c q : Nat} {f : FF} (hs : isSt s) (hp : PS P s) (hr : Rp M P s f) (hw : Wf c q f) (hx : ∀ a, a < 6 → w ≠ nI a) : KI l D cy B yX4_whyNotBook wsX4_whyNotBook 2 47 [Value.ref (B + s), Value.int w, Value.int m, Value.int i, Value.int h] M P (qi (-100000001) M P) := by
  refine met_KI (cc := cX4_whyNotBook) (maxL := 5) (ret := (some .int)) (lv := [some (Value.ref (B + s)), some (Value.int w), some (Value.int m), some (Value.int i), some (Value.int h)]) (by decide) rfl rfl rfl (Nat.le_of_ble_eq_true rfl) ?_
  intro X C F
  refine g_aload_0 (pc := 0) C dX4_whyNotBook_0 ?_
  refine g_iload_1 (pc := 1) C dX4_whyNotBook_1 ?_
  refine g_V1qn (pc := 2) C e_X4_whyNotBook_43 (Nat.le_of_ble_eq_true rfl) rfl dX4_whyNotBook_2 (kk_s0 hs) (c_farmerAtN hs hp hx) ?_
  refine g_ifnullN (pc := 5) (tgt := 16) C dX4_whyNotBook_5 (by decide) ?_
  refine g_ldc (pc := 16) C k_X4_whyNotBook_134 dX4_whyNotBook_16 ?_
  exact g_iret (post := qi (-100000001) M P) C F dX4_whyNotBook_18 ⟨rfl, rfl, rfl⟩

set_option maxRecDepth 100000 in
set_option maxHeartbeats 1000000 in
theorem c_whyNotBookB {l : Launch} {D : va_G} {cy : Nat → ClassId} {B : Nat} {M : MM} {P : PP} {w m i h : Int32} {s c q : Nat} {f : FF} (hs : isSt s) (hp : PS P s) (hr : Rp M P s f) (hw : Wf c q f) {a : Nat} (hx : w = nI a) (ha : a < 6) (hy : ∀ b, b < mn f → m ≠ nI b) : KI l D cy B yX4_whyNotBook wsX4_whyNotBook 2 47 [Value.ref (B + s), Value.int w, Value.int m, Value.int i, Value.int h] M P (qi (-100000001) M P) := by
  refine met_KI (cc := cX4_whyNotBook) (maxL := 5) (ret := (some .int)) (lv := [some (Value.ref (B + s)), some (Value.int w), some (Value.int m), some (Value.int i), some (Value.int h)]) (by decide) rfl rfl rfl (Nat.le_of_ble_eq_true rfl) ?_
  intro X C F
  refine g_aload_0 (pc := 0) C dX4_whyNotBook_0 ?_
  refine g_iload_1 (pc := 1) C dX4_whyNotBook_1 ?_
  refine g_V1qs (pc := 2) C e_X4_whyNotBook_43 (Nat.le_of_ble_eq_true rfl) rfl dX4_whyNotBook_2 (kk_s0 hs) (c_farmerAt hs hp hx ha) ?_
  refine g_ifnull (pc := 5) C dX4_whyNotBook_5 ?_
  refine g_aload_0 (pc := 8) C dX4_whyNotBook_8 ?_
  refine g_iload_2 (pc := 9) C dX4_whyNotBook_9 ?_
  refine g_V1qn (pc := 10) C e_X4_whyNotBook_54 (Nat.le_of_ble_eq_true rfl) rfl dX4_whyNotBook_10 (kk_s0 hs) (c_machineAtN hs hp hr hw hy) ?_
  refine g_ifnonnullN (pc := 13) C dX4_whyNotBook_13 ?_
  refine g_ldc (pc := 16) C k_X4_whyNotBook_134 dX4_whyNotBook_16 ?_
  exact g_iret (post := qi (-100000001) M P) C F dX4_whyNotBook_18 ⟨rfl, rfl, rfl⟩

set_option maxRecDepth 100000 in
set_option maxHeartbeats 1000000 in
theorem c_whyNotBookC {l : Launch} {D : va_G} {cy : Nat → ClassId} {B : Nat} {M : MM} {P : PP} {w m i h : Int32} {s c q : Nat} {f : FF} (hs : isSt s) (hp : PS P s) (hr : Rp M P s f) (hw : Wf c q f) {a b : Nat} (hx : w = nI a) (ha : a < 6) (hy : m = nI b) (hb : b < mn f) : KI l D cy B yX4_whyNotBook wsX4_whyNotBook 2 47 [Value.ref (B + s), Value.int w, Value.int m, Value.int i, Value.int h] M P (qi (refI f w m i h) M P) := by
  refine met_KI (cc := cX4_whyNotBook) (maxL := 5) (ret := (some .int)) (lv := [some (Value.ref (B + s)), some (Value.int w), some (Value.int m), some (Value.int i), some (Value.int h)]) (by decide) rfl rfl rfl (Nat.le_of_ble_eq_true rfl) ?_
  intro X C F
  have h6 := hw.m6
  have h30 := hw.s30
  have hwm : (0 ≤ w ∧ w ≤ 5) ∧ (0 ≤ m ∧ m ≤ f 12 - 1) := ⟨by rw [hx, r5]; exact r_to ha (by decide), by rw [hy, hw.m]; exact r_to hb (by omega)⟩
  refine g_aload_0 (pc := 0) C dX4_whyNotBook_0 ?_
  refine g_iload_1 (pc := 1) C dX4_whyNotBook_1 ?_
  refine g_V1qs (pc := 2) C e_X4_whyNotBook_43 (Nat.le_of_ble_eq_true rfl) rfl dX4_whyNotBook_2 (kk_s0 hs) (c_farmerAt hs hp hx ha) ?_
  refine g_ifnull (pc := 5) C dX4_whyNotBook_5 ?_
  refine g_aload_0 (pc := 8) C dX4_whyNotBook_8 ?_
  refine g_iload_2 (pc := 9) C dX4_whyNotBook_9 ?_
  refine g_V1qs (pc := 10) C e_X4_whyNotBook_54 (Nat.le_of_ble_eq_true rfl) rfl dX4_whyNotBook_10 (kk_s0 hs) (c_machineAt hs hp hr hw hy hb) ?_
  refine g_ifnonnull (pc := 13) (tgt := 19) C dX4_whyNotBook_13 (by decide) ?_
  refine g_iload_3 (pc := 19) C dX4_whyNotBook_19 ?_
  refine g_iconst (pc := 20) (v := 1) C dX4_whyNotBook_20 rfl ?_
  refine g_bipush (pc := 21) (v := 99) C dX4_whyNotBook_21 rfl ?_
  refine g_N3ie (pc := 23) C e_X4_whyNotBook_135 (Nat.le_of_ble_eq_true rfl) rfl dX4_whyNotBook_23 (c_outside) ?_
  refine g_if_ne (pc := 26) (tgt := 40) C dX4_whyNotBook_26 (by decide) (fun c26 => ?_) (fun c26 => ?_)
  · have d26 := oi (if1 c26)
    refine g_ldc (pc := 40) C k_X4_whyNotBook_139 dX4_whyNotBook_40 ?_
    exact g_iret (post := qi (refI f w m i h) M P) C F dX4_whyNotBook_42 ⟨by rw [refI, if_pos hwm, if_neg (fun h9 => d26 h9.1)], rfl, rfl⟩
  · have d26 := io (if0 c26)
    refine g_iload_4 (pc := 29) C dX4_whyNotBook_29 ?_
    refine g_iconst (pc := 31) (v := 1) C dX4_whyNotBook_31 rfl ?_
    refine g_bipush (pc := 32) (v := 12) C dX4_whyNotBook_32 rfl ?_
    refine g_N3ie (pc := 34) C e_X4_whyNotBook_135 (Nat.le_of_ble_eq_true rfl) rfl dX4_whyNotBook_34 (c_outside) ?_
    refine g_if_eq (pc := 37) (tgt := 43) C dX4_whyNotBook_37 (by decide) (fun c37 => ?_) (fun c37 => ?_)
    · have d37 := io (if0 c37)
      refine g_aload_0 (pc := 43) C dX4_whyNotBook_43 ?_
      refine g_geti (pc := 44) C fl_X4_whyNotBook_61 (kk_s0 hs) dX4_whyNotBook_44 ?_
      rw [hr.1.2.1]
      refine g_bipush (pc := 47) (v := 30) C dX4_whyNotBook_47 rfl ?_
      refine g_icmp_lt (pc := 49) (tgt := 55) C dX4_whyNotBook_49 (by decide) (fun c49 => ?_) (fun c49 => ?_)
      · have d49 : ¬ f 6 = 30 := fun z => by rw [z] at c49; exact absurd c49 (by decide)
        refine g_aload_0 (pc := 55) C dX4_whyNotBook_55 ?_
        refine g_iload_2 (pc := 56) C dX4_whyNotBook_56 ?_
        refine g_aload_0 (pc := 57) C dX4_whyNotBook_57 ?_
        refine g_geti (pc := 58) C fl_X4_whyNotBook_71 (kk_s0 hs) dX4_whyNotBook_58 ?_
        rw [hr.1.2.2.1]
        refine g_iload_3 (pc := 61) C dX4_whyNotBook_61 ?_
        refine g_iadd (pc := 62) C dX4_whyNotBook_62 ?_
        refine g_V2ie (pc := 63) C e_X4_whyNotBook_140 (Nat.le_of_ble_eq_true rfl) rfl dX4_whyNotBook_63 (kk_s0 hs) (c_hoursOn hs hp hr hw) ?_
        refine g_iload_4 (pc := 66) C dX4_whyNotBook_66 ?_
        refine g_iadd (pc := 68) C dX4_whyNotBook_68 ?_
        refine g_bipush (pc := 69) (v := 12) C dX4_whyNotBook_69 rfl ?_
        refine g_icmp_le (pc := 71) (tgt := 79) C dX4_whyNotBook_71 (by decide) (fun c71 => ?_) (fun c71 => ?_)
        · refine g_iconst (pc := 79) (v := 0) C dX4_whyNotBook_79 rfl ?_
          exact g_iret (post := qi (refI f w m i h) M P) C F dX4_whyNotBook_80 ⟨by rw [refI, if_pos hwm, if_pos ⟨d26, d37⟩, if_neg d49, if_neg (Int32.not_lt.mpr c71)], rfl, rfl⟩
        · refine g_ldc (pc := 74) C k_X4_whyNotBook_144 dX4_whyNotBook_74 ?_
          refine g_goto (pc := 76) (tgt := 80) C dX4_whyNotBook_76 (by decide) ?_
          exact g_iret (post := qi (refI f w m i h) M P) C F dX4_whyNotBook_80 ⟨by rw [refI, if_pos hwm, if_pos ⟨d26, d37⟩, if_neg d49, if_pos (Int32.not_le.mp c71)], rfl, rfl⟩
      · have d49 : f 6 = 30 := by
          rw [hw.s] at c49 ⊢
          have := i_nlt (b := 30) (by omega) (by omega) c49
          rw [show sn f = 30 by omega]
          rfl
        refine g_ldc (pc := 52) C k_X4_whyNotBook_108 dX4_whyNotBook_52 ?_
        exact g_iret (post := qi (refI f w m i h) M P) C F dX4_whyNotBook_54 ⟨by rw [refI, if_pos hwm, if_pos ⟨d26, d37⟩, if_pos d49], rfl, rfl⟩
    · have d37 := oi (if1 c37)
      refine g_ldc (pc := 40) C k_X4_whyNotBook_139 dX4_whyNotBook_40 ?_
      exact g_iret (post := qi (refI f w m i h) M P) C F dX4_whyNotBook_42 ⟨by rw [refI, if_pos hwm, if_neg (fun h9 => d37 h9.2)], rfl, rfl⟩

theorem c_whyNotBook {l : Launch} {D : va_G} {cy : Nat → ClassId} {B : Nat} {M : MM} {P : PP} {w m i h : Int32} {s c q : Nat} {f : FF} (hs : isSt s) (hp : PS P s) (hr : Rp M P s f) (hw : Wf c q f) : KI l D cy B yX4_whyNotBook wsX4_whyNotBook 2 47 [Value.ref (B + s), Value.int w, Value.int m, Value.int i, Value.int h] M P (qi (refI f w m i h) M P) := by
  have h6 := hw.m6
  by_cases h1 : 0 ≤ w ∧ w ≤ 5
  · obtain ⟨a, ha, hx⟩ := r_of (n := 6) (by decide) (by rw [← r5]; exact h1)
    by_cases h2 : 0 ≤ m ∧ m ≤ f 12 - 1
    · obtain ⟨b, hb, hy⟩ := r_of (n := mn f) (by omega) (by rw [← hw.m]; exact h2)
      exact c_whyNotBookC hs hp hr hw hx ha hy hb
    · rw [show refI f w m i h = -100000001 from if_neg (fun z => h2 z.2)]
      exact c_whyNotBookB hs hp hr hw hx ha (r_not (by omega) (by rw [← hw.m]; exact h2))
  · rw [show refI f w m i h = -100000001 from if_neg (fun z => h1 z.1)]
    exact c_whyNotBookA hs hp hr hw (r_not (by decide) (by rw [← r5]; exact h1))

set_option maxRecDepth 100000 in
set_option maxHeartbeats 1000000 in
theorem c_chargeOf {l : Launch} {D : va_G} {cy : Nat → ClassId} {B : Nat} {M : MM} {P : PP} {s c q : Nat} {f : FF} (hs : isSt s) (hp : PS P s) (hr : Rp M P s f) (hw : Wf c q f) {p w m : Nat} (hpp : p < sn f) (hw6 : w < 6) (ew : f (133 + 6 * p + 1) = nI w) (hm6 : m < mn f) (em : f (133 + 6 * p + 2) = nI m) : KI l D cy B yX4_chargeOf wsX4_chargeOf 1 21 [Value.ref (B + s), Value.ref (B + P (s + 21) p)] M P (qi (chg (f (13 + 6 * w + 1)) (f (49 + 14 * m + 0)) (f (49 + 14 * m + 1)) (f (133 + 6 * p + 3)) (f (133 + 6 * p + 4))) M P) := by
  refine met_KI (cc := cX4_chargeOf) (maxL := 5) (ret := (some .int)) (lv := [some (Value.ref (B + s)), some (Value.ref (B + P (s + 21) p)), none, none, none]) (by decide) rfl rfl rfl (Nat.le_of_ble_eq_true rfl) ?_
  intro X C F
  have h6 := hw.m6
  have h30 := hw.s30
  have hq := hr.2.2.2 p hpp (by omega)
  have kb := hp.kb hs (i := p) (by omega)
  have hm7 := hr.2.2.1 m hm6 (by omega)
  refine g_aload_0 (pc := 0) C dX4_chargeOf_0 ?_
  refine g_aload_1 (pc := 1) C dX4_chargeOf_1 ?_
  refine g_geti (pc := 2) C fl_X4_chargeOf_148 kb dX4_chargeOf_2 ?_
  rw [hq 2 (by decide), em]
  refine g_V1qs (pc := 5) C e_X4_chargeOf_54 (Nat.le_of_ble_eq_true rfl) rfl dX4_chargeOf_5 (kk_s0 hs) (c_machineAt hs hp hr hw (i := m) rfl hm6) ?_
  refine g_astore_2 (pc := 8) C dX4_chargeOf_8 ?_
  refine g_aload_0 (pc := 9) C dX4_chargeOf_9 ?_
  refine g_aload_1 (pc := 10) C dX4_chargeOf_10 ?_
  refine g_geti (pc := 11) C fl_X4_chargeOf_145 kb dX4_chargeOf_11 ?_
  rw [hq 1 (by decide), ew]
  refine g_V1qs (pc := 14) C e_X4_chargeOf_43 (Nat.le_of_ble_eq_true rfl) rfl dX4_chargeOf_14 (kk_s0 hs) (c_farmerAt hs hp (i := w) rfl hw6) ?_
  refine g_astore_3 (pc := 17) C dX4_chargeOf_17 ?_
  refine g_aload_2 (pc := 18) C dX4_chargeOf_18 ?_
  refine g_ifnull (pc := 19) C dX4_chargeOf_19 ?_
  refine g_aload_3 (pc := 22) C dX4_chargeOf_22 ?_
  refine g_ifnonnull (pc := 23) (tgt := 28) C dX4_chargeOf_23 (by decide) ?_
  refine g_aload_1 (pc := 28) C dX4_chargeOf_28 ?_
  refine g_geti (pc := 29) C fl_X4_chargeOf_152 kb dX4_chargeOf_29 ?_
  rw [hq 4 (by decide)]
  refine g_aload_2 (pc := 32) C dX4_chargeOf_32 ?_
  refine g_geti (pc := 33) C fl_X4_chargeOf_165 (kk_m hs (by omega)) dX4_chargeOf_33 ?_
  rw [hm7.2.1]
  refine g_imul (pc := 36) C dX4_chargeOf_36 ?_
  refine g_i2f (pc := 37) C dX4_chargeOf_37 ?_
  refine g_aload_1 (pc := 38) C dX4_chargeOf_38 ?_
  refine g_geti (pc := 39) C fl_X4_chargeOf_151 kb dX4_chargeOf_39 ?_
  rw [hq 3 (by decide)]
  refine g_N1ie (pc := 42) C e_X4_chargeOf_168 (Nat.le_of_ble_eq_true rfl) rfl dX4_chargeOf_42 (c_seasonOf) ?_
  refine g_N1fe (pc := 45) C e_X4_chargeOf_171 (Nat.le_of_ble_eq_true rfl) rfl dX4_chargeOf_45 (c_factorOf) ?_
  refine g_fmul (pc := 48) C dX4_chargeOf_48 (fac_n32 _ _) ?_
  refine g_f2i (pc := 49) C dX4_chargeOf_49 ?_
  refine g_istore_4 (pc := 50) C dX4_chargeOf_50 ?_
  refine g_aload_3 (pc := 52) C dX4_chargeOf_52 ?_
  refine g_aload_2 (pc := 53) C dX4_chargeOf_53 ?_
  refine g_geti (pc := 54) C fl_X4_chargeOf_101 (kk_m hs (by omega)) dX4_chargeOf_54 ?_
  rw [hm7.1]
  refine g_V1ie (pc := 57) C e_X4_chargeOf_175 (Nat.le_of_ble_eq_true rfl) rfl dX4_chargeOf_57 (kk_f hs hw6) (c_mayDrive (kk_f hs hw6)) ?_
  rw [hr.2.1 w hw6 1 (by decide)]
  refine g_if_eq (pc := 60) (tgt := 68) C dX4_chargeOf_60 (by decide) (fun c60 => ?_) (fun c60 => ?_)
  · refine g_iload_4 (pc := 68) C dX4_chargeOf_68 ?_
    refine g_bipush (pc := 70) (v := 6) C dX4_chargeOf_70 rfl ?_
    refine g_aload_1 (pc := 72) C dX4_chargeOf_72 ?_
    refine g_geti (pc := 73) C fl_X4_chargeOf_152 kb dX4_chargeOf_73 ?_
    rw [hq 4 (by decide)]
    refine g_imul (pc := 76) C dX4_chargeOf_76 ?_
    refine g_iadd (pc := 77) C dX4_chargeOf_77 ?_
    exact g_iret (post := qi (chg (f (13 + 6 * w + 1)) (f (49 + 14 * m + 0)) (f (49 + 14 * m + 1)) (f (133 + 6 * p + 3)) (f (133 + 6 * p + 4))) M P) C F dX4_chargeOf_78 ⟨(if_neg (if0 c60)).symm, rfl, rfl⟩
  · refine g_iload_4 (pc := 63) C dX4_chargeOf_63 ?_
    refine g_goto (pc := 65) (tgt := 78) C dX4_chargeOf_65 (by decide) ?_
    exact g_iret (post := qi (chg (f (13 + 6 * w + 1)) (f (49 + 14 * m + 0)) (f (49 + 14 * m + 1)) (f (133 + 6 * p + 3)) (f (133 + 6 * p + 4))) M P) C F dX4_chargeOf_78 ⟨(if_pos (if1 c60)).symm, rfl, rfl⟩

set_option maxRecDepth 100000 in
set_option maxHeartbeats 1000000 in
theorem c_canWork {l : Launch} {D : va_G} {cy : Nat → ClassId} {B : Nat} {M : MM} {P : PP} {s c q : Nat} {f : FF} (hs : isSt s) (hp : PS P s) (hr : Rp M P s f) (hw : Wf c q f) {m : Nat} {h : Int32} (hm6 : m < mn f) : KI l D cy B yX4_canWork wsX4_canWork 2 41 [Value.ref (B + s), Value.ref (B + (s + 9 + 2 * m)), Value.int h] M P (qi (canI f m h) M P) := by
  refine met_KI (cc := cX4_canWork) (maxL := 4) (ret := (some .boolean)) (lv := [some (Value.ref (B + s)), some (Value.ref (B + (s + 9 + 2 * m))), some (Value.int h), none]) (by decide) rfl rfl rfl (Nat.le_of_ble_eq_true rfl) ?_
  intro X C F
  have h6 := hw.m6
  have km := kk_m hs (i := m) (by omega)
  have hm7 := hr.2.2.1 m hm6 (by omega)
  refine g_aload_1 (pc := 0) C dX4_canWork_0 ?_
  refine g_geti (pc := 1) C fl_X4_canWork_101 km dX4_canWork_1 ?_
  rw [hm7.1]
  refine g_if_eq (pc := 4) (tgt := 22) C dX4_canWork_4 (by decide) (fun c4 => ?_) (fun c4 => ?_)
  · refine g_iconst (pc := 22) (v := 0) C dX4_canWork_22 rfl ?_
    refine g_istore_3 (pc := 23) C dX4_canWork_23 ?_
    refine g_iload_3 (pc := 24) C dX4_canWork_24 ?_
    refine g_if_ne (pc := 25) (tgt := 52) C dX4_canWork_25 (by decide) (fun c25 => ?_) (fun c25 => ?_)
    · exact absurd rfl c25
    · refine g_aload_1 (pc := 28) C dX4_canWork_28 ?_
      refine g_getz (pc := 29) C fl_X4_canWork_127 km dX4_canWork_29 ?_
      rw [hm7.2.2.2.2.1]
      refine g_if_ne (pc := 32) (tgt := 52) C dX4_canWork_32 (by decide) (fun c32 => ?_) (fun c32 => ?_)
      · refine g_iconst (pc := 52) (v := 0) C dX4_canWork_52 rfl ?_
        exact g_zret (post := qi (canI f m h) M P) C F dX4_canWork_53 (by first | exact Or.inl rfl | exact Or.inr rfl) ⟨(if_neg (fun h9 => c32 h9.2.1)).symm, rfl, rfl⟩
      · refine g_aload_1 (pc := 35) C dX4_canWork_35 ?_
        refine g_getf (pc := 36) C fl_X4_canWork_206 km dX4_canWork_36 ?_
        rw [hm7.2.2.2.1]
        refine g_aload_1 (pc := 39) C dX4_canWork_39 ?_
        refine g_iload_2 (pc := 40) C dX4_canWork_40 ?_
        refine g_V1fe (pc := 41) C e_X4_canWork_210 (Nat.le_of_ble_eq_true rfl) rfl dX4_canWork_41 km (c_fuelFor km) ?_
        rw [hm7.1]
        refine g_fcmp (pc := 44) C dX4_canWork_44 ?_
        refine g_if_lt (pc := 45) (tgt := 52) C dX4_canWork_45 (by decide) (fun c45 => ?_) (fun c45 => ?_)
        · refine g_iconst (pc := 52) (v := 0) C dX4_canWork_52 rfl ?_
          exact g_zret (post := qi (canI f m h) M P) C F dX4_canWork_53 (by first | exact Or.inl rfl | exact Or.inr rfl) ⟨(if_neg (fun h9 => h9.2.2 c45)).symm, rfl, rfl⟩
        · refine g_iconst (pc := 48) (v := 1) C dX4_canWork_48 rfl ?_
          refine g_goto (pc := 49) (tgt := 53) C dX4_canWork_49 (by decide) ?_
          exact g_zret (post := qi (canI f m h) M P) C F dX4_canWork_53 (by first | exact Or.inl rfl | exact Or.inr rfl) ⟨(if_pos ⟨Or.inl c4, c32, c45⟩).symm, rfl, rfl⟩
  · refine g_aload_0 (pc := 7) C dX4_canWork_7 ?_
    refine g_aload_0 (pc := 8) C dX4_canWork_8 ?_
    refine g_geti (pc := 9) C fl_X4_canWork_71 (kk_s0 hs) dX4_canWork_9 ?_
    rw [hr.1.2.2.1]
    refine g_V1ie (pc := 12) C e_X4_canWork_203 (Nat.le_of_ble_eq_true rfl) rfl dX4_canWork_12 (kk_s0 hs) (c_isWet hs hr) ?_
    refine g_if_eq (pc := 15) (tgt := 22) C dX4_canWork_15 (by decide) (fun c15 => ?_) (fun c15 => ?_)
    · refine g_iconst (pc := 22) (v := 0) C dX4_canWork_22 rfl ?_
      refine g_istore_3 (pc := 23) C dX4_canWork_23 ?_
      refine g_iload_3 (pc := 24) C dX4_canWork_24 ?_
      refine g_if_ne (pc := 25) (tgt := 52) C dX4_canWork_25 (by decide) (fun c25 => ?_) (fun c25 => ?_)
      · exact absurd rfl c25
      · refine g_aload_1 (pc := 28) C dX4_canWork_28 ?_
        refine g_getz (pc := 29) C fl_X4_canWork_127 km dX4_canWork_29 ?_
        rw [hm7.2.2.2.2.1]
        refine g_if_ne (pc := 32) (tgt := 52) C dX4_canWork_32 (by decide) (fun c32 => ?_) (fun c32 => ?_)
        · refine g_iconst (pc := 52) (v := 0) C dX4_canWork_52 rfl ?_
          exact g_zret (post := qi (canI f m h) M P) C F dX4_canWork_53 (by first | exact Or.inl rfl | exact Or.inr rfl) ⟨(if_neg (fun h9 => c32 h9.2.1)).symm, rfl, rfl⟩
        · refine g_aload_1 (pc := 35) C dX4_canWork_35 ?_
          refine g_getf (pc := 36) C fl_X4_canWork_206 km dX4_canWork_36 ?_
          rw [hm7.2.2.2.1]
          refine g_aload_1 (pc := 39) C dX4_canWork_39 ?_
          refine g_iload_2 (pc := 40) C dX4_canWork_40 ?_
          refine g_V1fe (pc := 41) C e_X4_canWork_210 (Nat.le_of_ble_eq_true rfl) rfl dX4_canWork_41 km (c_fuelFor km) ?_
          rw [hm7.1]
          refine g_fcmp (pc := 44) C dX4_canWork_44 ?_
          refine g_if_lt (pc := 45) (tgt := 52) C dX4_canWork_45 (by decide) (fun c45 => ?_) (fun c45 => ?_)
          · refine g_iconst (pc := 52) (v := 0) C dX4_canWork_52 rfl ?_
            exact g_zret (post := qi (canI f m h) M P) C F dX4_canWork_53 (by first | exact Or.inl rfl | exact Or.inr rfl) ⟨(if_neg (fun h9 => h9.2.2 c45)).symm, rfl, rfl⟩
          · refine g_iconst (pc := 48) (v := 1) C dX4_canWork_48 rfl ?_
            refine g_goto (pc := 49) (tgt := 53) C dX4_canWork_49 (by decide) ?_
            exact g_zret (post := qi (canI f m h) M P) C F dX4_canWork_53 (by first | exact Or.inl rfl | exact Or.inr rfl) ⟨(if_pos ⟨Or.inr c15, c32, c45⟩).symm, rfl, rfl⟩
    · refine g_iconst (pc := 18) (v := 1) C dX4_canWork_18 rfl ?_
      refine g_goto (pc := 19) (tgt := 23) C dX4_canWork_19 (by decide) ?_
      refine g_istore_3 (pc := 23) C dX4_canWork_23 ?_
      refine g_iload_3 (pc := 24) C dX4_canWork_24 ?_
      refine g_if_ne (pc := 25) (tgt := 52) C dX4_canWork_25 (by decide) (fun c25 => ?_) (fun c25 => ?_)
      · refine g_iconst (pc := 52) (v := 0) C dX4_canWork_52 rfl ?_
        exact g_zret (post := qi (canI f m h) M P) C F dX4_canWork_53 (by first | exact Or.inl rfl | exact Or.inr rfl) ⟨(if_neg (fun h9 => h9.1.elim c4 c15)).symm, rfl, rfl⟩
      · exact absurd c25 (by decide)

set_option maxRecDepth 100000 in
set_option maxHeartbeats 1000000 in
theorem c_addBooking {l : Launch} {D : va_G} {cy : Nat → ClassId} {B : Nat} {M : MM} {P : PP} {s c q : Nat} {f : FF} (hs : isSt s) (hp : PS P s) (hr : Rp M P s f) (hw : Wf c q f) {w m i h : Int32} (h30 : sn f < 30) : KI l D cy B yX4_addBooking wsX4_addBooking 1 21 [Value.ref (B + s), Value.int w, Value.int m, Value.int i, Value.int h] M P (fun r M1 P1 => r = f 5 ∧ P1 = P ∧ Rp M1 P s (bookF f (sn f) w m i h) ∧ ∀ a, a < s ∨ s + 52 ≤ a → M1 a = M a) := by
  refine met_KI (cc := cX4_addBooking) (maxL := 6) (ret := (some .int)) (lv := [some (Value.ref (B + s)), some (Value.int w), some (Value.int m), some (Value.int i), some (Value.int h), none]) (by decide) rfl rfl rfl (Nat.le_of_ble_eq_true rfl) ?_
  intro X C F
  have kb := hp.kb hs (i := sn f) h30
  have hbn := hp.bin (i := sn f) h30
  have nsb : s ≠ P (s + 21) (sn f) := by omega
  refine g_aload_0 (pc := 0) C dX4_addBooking_0 ?_
  refine g_dup (pc := 1) C dX4_addBooking_1 rfl ?_
  refine g_geti (pc := 2) C fl_X4_addBooking_61 (kk_s0 hs) dX4_addBooking_2 ?_
  rw [hr.1.2.1, hw.s]
  refine g_iconst (pc := 5) (v := 1) C dX4_addBooking_5 rfl ?_
  refine g_iadd (pc := 6) C dX4_addBooking_6 ?_
  refine g_puti (pc := 7) C pf_X4_addBooking_61 (kk_s0 hs) dX4_addBooking_7 ?_
  rw [nI_1]
  refine g_aload_0 (pc := 10) C dX4_addBooking_10 ?_
  refine g_aload_0 (pc := 11) C dX4_addBooking_11 ?_
  refine g_geti (pc := 12) C fl_X4_addBooking_61 (kk_s0 hs) dX4_addBooking_12 ?_
  rw [up_same, up_same]
  refine g_iconst (pc := 15) (v := 1) C dX4_addBooking_15 rfl ?_
  refine g_isub (pc := 16) C dX4_addBooking_16 ?_
  rw [nI_pred]
  refine g_V1qs (pc := 17) C e_X4_addBooking_64 (Nat.le_of_ble_eq_true rfl) rfl dX4_addBooking_17 (kk_s0 hs) (c_bookingAt0 hs hp (n := sn f + 1) (by rw [up_same, up_same]) (by omega) (i := sn f) rfl (Nat.lt_succ_self _)) ?_
  refine g_astore_5 (pc := 20) C dX4_addBooking_20 ?_
  refine g_aload_5 (pc := 22) C dX4_addBooking_22 ?_
  refine g_ifnonnull (pc := 24) (tgt := 40) C dX4_addBooking_24 (by decide) ?_
  refine g_aload_5 (pc := 40) C dX4_addBooking_40 ?_
  refine g_aload_0 (pc := 42) C dX4_addBooking_42 ?_
  refine g_geti (pc := 43) C fl_X4_addBooking_74 (kk_s0 hs) dX4_addBooking_43 ?_
  rw [up_same, up_ne _ _ (by decide), hr.1.2.2.2.1]
  refine g_puti (pc := 46) C pf_X4_addBooking_98 kb dX4_addBooking_46 ?_
  refine g_aload_5 (pc := 49) C dX4_addBooking_49 ?_
  refine g_iload_1 (pc := 51) C dX4_addBooking_51 ?_
  refine g_puti (pc := 52) C pf_X4_addBooking_145 kb dX4_addBooking_52 ?_
  refine g_aload_5 (pc := 55) C dX4_addBooking_55 ?_
  refine g_iload_2 (pc := 57) C dX4_addBooking_57 ?_
  refine g_puti (pc := 58) C pf_X4_addBooking_148 kb dX4_addBooking_58 ?_
  refine g_aload_5 (pc := 61) C dX4_addBooking_61 ?_
  refine g_aload_0 (pc := 63) C dX4_addBooking_63 ?_
  refine g_geti (pc := 64) C fl_X4_addBooking_71 (kk_s0 hs) dX4_addBooking_64 ?_
  simp only [up_ne _ _ nsb, up_same]
  rw [show up (M s) 4 (nI (sn f + 1)) 5 = M s 5 from up_ne _ _ (by decide), hr.1.2.2.1]
  refine g_iload_3 (pc := 67) C dX4_addBooking_67 ?_
  refine g_iadd (pc := 68) C dX4_addBooking_68 ?_
  refine g_puti (pc := 69) C pf_X4_addBooking_151 kb dX4_addBooking_69 ?_
  refine g_aload_5 (pc := 72) C dX4_addBooking_72 ?_
  refine g_iload_4 (pc := 74) C dX4_addBooking_74 ?_
  refine g_puti (pc := 76) C pf_X4_addBooking_152 kb dX4_addBooking_76 ?_
  refine g_aload_5 (pc := 79) C dX4_addBooking_79 ?_
  refine g_iconst (pc := 81) (v := 0) C dX4_addBooking_81 rfl ?_
  refine g_puti (pc := 82) C pf_X4_addBooking_155 kb dX4_addBooking_82 ?_
  refine g_aload_0 (pc := 85) C dX4_addBooking_85 ?_
  refine g_dup (pc := 86) C dX4_addBooking_86 rfl ?_
  refine g_geti (pc := 87) C fl_X4_addBooking_74 (kk_s0 hs) dX4_addBooking_87 ?_
  simp only [up_ne _ _ nsb, up_same]
  rw [show up (M s) 4 (nI (sn f + 1)) 6 = M s 6 from up_ne _ _ (by decide), hr.1.2.2.2.1]
  refine g_iconst (pc := 90) (v := 1) C dX4_addBooking_90 rfl ?_
  refine g_iadd (pc := 91) C dX4_addBooking_91 ?_
  refine g_puti (pc := 92) C pf_X4_addBooking_74 (kk_s0 hs) dX4_addBooking_92 ?_
  refine g_memo (fun M1 => (M1 (P (s + 21) (sn f)) 0 = f 5 ∧ M1 (P (s + 21) (sn f)) 1 = w ∧ M1 (P (s + 21) (sn f)) 2 = m ∧ M1 (P (s + 21) (sn f)) 3 = f 3 + i ∧ M1 (P (s + 21) (sn f)) 4 = h ∧ M1 (P (s + 21) (sn f)) 5 = 0) ∧ M1 s 4 = nI (sn f + 1) ∧ M1 s 6 = f 5 + 1 ∧ (∀ k, k ≠ 4 → k ≠ 6 → M1 s k = M s k) ∧ (∀ a, a ≠ P (s + 21) (sn f) → a ≠ s → M1 a = M a)) ⟨by simp [up_same, up_up, up_ne, nsb, Ne.symm nsb], by simp [up_same, up_up, up_ne, nsb, Ne.symm nsb], by simp [up_same, up_up, up_ne, nsb, Ne.symm nsb], fun k h4 h6 => by simp [up_same, up_up, up_ne, nsb, Ne.symm nsb, h4, h6], fun a h4 h6 => by simp [up_ne, h4, h6]⟩ (fun M1 hM1 => ?_)
  obtain ⟨a1, a2, a3, a4, a5⟩ := hM1
  refine g_aload_5 (pc := 95) C dX4_addBooking_95 ?_
  refine g_geti (pc := 97) C fl_X4_addBooking_98 kb dX4_addBooking_97 ?_
  rw [a1.1]
  exact g_iret (post := fun r M1 P1 => r = f 5 ∧ P1 = P ∧ Rp M1 P s (bookF f (sn f) w m i h) ∧ ∀ a, a < s ∨ s + 52 ≤ a → M1 a = M a) C F dX4_addBooking_100 ⟨rfl, rfl, Rp_book hs hp hr hw rfl h30 a1 a2 a3 a4 a5, fun a ha => a5 a (by omega) (by omega)⟩
