theorem ki_post {l : Launch} {D : va_G} {cy : Nat → ClassId} {B : Nat} {y : MethodName} {ws : List Cond} {fr lo : Nat} {as : List Value} {M : MM} {P : PP} {post post2 : Int32 → MM → PP → Prop} (h : KI l D cy B y ws fr lo as M P post) (hi : ∀ r M1 P1, post r M1 P1 → post2 r M1 P1) : KI l D cy B y ws fr lo as M P post2 := by
  intro p e ha hc hk s m args below hf happ hP hK
  obtain ⟨n, o, h1, h2, h3, ⟨⟨⟨r, u, g1, g2, g3⟩, g4⟩, g5⟩⟩ := h p e ha hc hk s m args below hf happ hP hK
  exact ⟨n, o, h1, h2, h3, ⟨⟨⟨r, u, g1, hi _ _ _ g2, g3⟩, g4⟩, g5⟩⟩
theorem Rp_day {M M1 : MM} {P : PP} {s : Nat} {f : FF} (hs : isSt s) (hp : PS P s) (hr : Rp M P s f) (a1 : M1 s 5 = f 3 + 1) (a2 : ∀ k, k ≠ 5 → M1 s k = M s k) (a3 : ∀ a, a ≠ s → M1 a = M a) : Rp M1 P s (up f 3 (f 3 + 1)) := by
  have h0 := st_pos hs
  obtain ⟨⟨r1, r2, r3, r4, r5, r6, r7, r8, r9, r10, r11, r12, r13⟩, hF, hM, hB⟩ := hr
  have e : ∀ j, j ≠ 3 → up f 3 (f 3 + 1) j = f j := fun j hj => up_ne _ _ hj
  refine ⟨?_, fun i hi k hk => ?_, RM_of (e 12 (by decide)) (fun i g1 g2 => ?_) (fun j g1 g2 => e j (by omega)), fun i g1 g2 k hk => ?_⟩
  · unfold RS
    rw [a2 3 (by decide), a2 4 (by decide), a1, a2 6 (by decide), a2 7 (by decide), a2 8 (by decide), a2 9 (by decide), a2 10 (by decide), a2 11 (by decide), a2 12 (by decide), a2 13 (by decide), a2 14 (by decide), a2 15 (by decide)]
    refine ⟨?_, ?_, (up_same _ _ _).symm, ?_, ?_, ?_, ?_, ?_, ?_, ?_, ?_, ?_, ?_⟩ <;> rw [up_ne _ _ (by decide)] <;> assumption
  · rw [a3 _ (by omega), e _ (by omega)]
    exact hF i hi k hk
  · have hz := hM i g1 g2
    unfold Rm at hz ⊢
    rw [a3 (s + 9 + 2 * i) (by omega), a3 (s + 10 + 2 * i) (by omega)]
    exact hz
  · have hb := hp.bin g2
    rw [a3 _ (by omega), e _ (by omega)]
    exact hB i (by unfold sn at g1 ⊢; rw [← e 6 (by decide)]; exact g1) g2 k hk
set_option maxRecDepth 100000 in
set_option maxHeartbeats 1000000 in
theorem c_settleA {l : Launch} {D : va_G} {cy : Nat → ClassId} {B : Nat} {M : MM} {P : PP} {s c q : Nat} {f : FF} (hs : isSt s) (hp : PS P s) (hr : Rp M P s f) (hw : Wf c q f) {p : Nat} {x : Int32} (hx : x = nI p) (hpp : p < sn f) (hd : f (133 + 6 * p + 3) ≠ f 3) : KI l D cy B yX4_settle wsX4_settle 3 69 [Value.ref (B + s), Value.int x] M P (qi 0 M P) := by
  refine met_KI (cc := cX4_settle) (maxL := 5) (ret := (some .boolean)) (lv := [some (Value.ref (B + s)), some (Value.int x), none, none, none]) (by decide) rfl rfl rfl (Nat.le_of_ble_eq_true rfl) ?_
  intro X C F
  have h6 := hw.m6
  have h30 := hw.s30
  have hq := hr.2.2.2 p hpp (by omega)
  have kb := hp.kb hs (i := p) (by omega)
  have hbn := hp.bin (i := p) (by omega)
  
  refine g_aload_0 (pc := 0) C dX4_settle_0 ?_
  refine g_iload_1 (pc := 1) C dX4_settle_1 ?_
  refine g_V1qs (pc := 2) C e_X4_settle_64 (Nat.le_of_ble_eq_true rfl) rfl dX4_settle_2 (kk_s0 hs) (c_bookingAt hs hp hr hw hx hpp) ?_
  refine g_astore_2 (pc := 5) C dX4_settle_5 ?_
  refine g_aload_2 (pc := 6) C dX4_settle_6 ?_
  refine g_ifnull (pc := 7) C dX4_settle_7 ?_
  refine g_aload_2 (pc := 10) C dX4_settle_10 ?_
  refine g_geti (pc := 11) C fl_X4_settle_151 kb dX4_settle_11 ?_
  rw [hq 3 (by decide)]
  refine g_aload_0 (pc := 14) C dX4_settle_14 ?_
  refine g_geti (pc := 15) C fl_X4_settle_71 (kk_s0 hs) dX4_settle_15 ?_
  rw [hr.1.2.2.1]
  refine g_icmp_eq (pc := 18) (tgt := 23) C dX4_settle_18 (by decide) (fun c18 => ?_) (fun c18 => ?_)
  · exact absurd c18 hd
  · refine g_iconst (pc := 21) (v := 0) C dX4_settle_21 rfl ?_
    exact g_zret (post := qi 0 M P) C F dX4_settle_22 (by first | exact Or.inl rfl | exact Or.inr rfl) ⟨rfl, rfl, rfl⟩

set_option maxRecDepth 100000 in
set_option maxHeartbeats 1000000 in
theorem c_settleB {l : Launch} {D : va_G} {cy : Nat → ClassId} {B : Nat} {M : MM} {P : PP} {s c q : Nat} {f : FF} (hs : isSt s) (hp : PS P s) (hr : Rp M P s f) (hw : Wf c q f) {p : Nat} {x : Int32} (hx : x = nI p) (hpp : p < sn f) {w m : Nat} (w1 : w < 6) (w2 : f (133 + 6 * p + 1) = nI w) (m1 : m < mn f) (m2 : f (133 + 6 * p + 2) = nI m) (hd : f (133 + 6 * p + 3) = f 3) (hc : canI f m (f (133 + 6 * p + 4)) = 0) : KI l D cy B yX4_settle wsX4_settle 3 69 [Value.ref (B + s), Value.int x] M P (fun r M1 P1 => r = 0 ∧ P1 = P ∧ Rp M1 P s (puF f p) ∧ ∀ a, a < s ∨ s + 52 ≤ a → M1 a = M a) := by
  refine met_KI (cc := cX4_settle) (maxL := 5) (ret := (some .boolean)) (lv := [some (Value.ref (B + s)), some (Value.int x), none, none, none]) (by decide) rfl rfl rfl (Nat.le_of_ble_eq_true rfl) ?_
  intro X C F
  have h6 := hw.m6
  have h30 := hw.s30
  have hq := hr.2.2.2 p hpp (by omega)
  have kb := hp.kb hs (i := p) (by omega)
  have hbn := hp.bin (i := p) (by omega)
  obtain ⟨g1, g2, g3, g4⟩ := po_ok (m := f (133 + 6 * p + 2)) hw hpp hd
  rw [m2] at g1 g2 g3 g4
  refine g_aload_0 (pc := 0) C dX4_settle_0 ?_
  refine g_iload_1 (pc := 1) C dX4_settle_1 ?_
  refine g_V1qs (pc := 2) C e_X4_settle_64 (Nat.le_of_ble_eq_true rfl) rfl dX4_settle_2 (kk_s0 hs) (c_bookingAt hs hp hr hw hx hpp) ?_
  refine g_astore_2 (pc := 5) C dX4_settle_5 ?_
  refine g_aload_2 (pc := 6) C dX4_settle_6 ?_
  refine g_ifnull (pc := 7) C dX4_settle_7 ?_
  refine g_aload_2 (pc := 10) C dX4_settle_10 ?_
  refine g_geti (pc := 11) C fl_X4_settle_151 kb dX4_settle_11 ?_
  rw [hq 3 (by decide)]
  refine g_aload_0 (pc := 14) C dX4_settle_14 ?_
  refine g_geti (pc := 15) C fl_X4_settle_71 (kk_s0 hs) dX4_settle_15 ?_
  rw [hr.1.2.2.1]
  refine g_icmp_eq (pc := 18) (tgt := 23) C dX4_settle_18 (by decide) (fun c18 => ?_) (fun c18 => ?_)
  · refine g_aload_0 (pc := 23) C dX4_settle_23 ?_
    refine g_aload_2 (pc := 24) C dX4_settle_24 ?_
    refine g_geti (pc := 25) C fl_X4_settle_148 kb dX4_settle_25 ?_
    rw [hq 2 (by decide), m2]
    refine g_V1qs (pc := 28) C e_X4_settle_54 (Nat.le_of_ble_eq_true rfl) rfl dX4_settle_28 (kk_s0 hs) (c_machineAt hs hp hr hw (i := m) rfl m1) ?_
    refine g_astore_3 (pc := 31) C dX4_settle_31 ?_
    refine g_aload_0 (pc := 32) C dX4_settle_32 ?_
    refine g_aload_2 (pc := 33) C dX4_settle_33 ?_
    refine g_geti (pc := 34) C fl_X4_settle_145 kb dX4_settle_34 ?_
    rw [hq 1 (by decide), w2]
    refine g_V1qs (pc := 37) C e_X4_settle_43 (Nat.le_of_ble_eq_true rfl) rfl dX4_settle_37 (kk_s0 hs) (c_farmerAt hs hp (i := w) rfl w1) ?_
    refine g_astore_4 (pc := 40) C dX4_settle_40 ?_
    refine g_aload_3 (pc := 42) C dX4_settle_42 ?_
    refine g_ifnull (pc := 43) C dX4_settle_43 ?_
    refine g_aload_4 (pc := 46) C dX4_settle_46 ?_
    refine g_ifnonnull (pc := 48) (tgt := 53) C dX4_settle_48 (by decide) ?_
    refine g_aload_0 (pc := 53) C dX4_settle_53 ?_
    refine g_aload_3 (pc := 54) C dX4_settle_54 ?_
    refine g_aload_2 (pc := 55) C dX4_settle_55 ?_
    refine g_geti (pc := 56) C fl_X4_settle_152 kb dX4_settle_56 ?_
    rw [hq 4 (by decide)]
    refine g_V2ie (pc := 59) C e_X4_settle_182 (Nat.le_of_ble_eq_true rfl) rfl dX4_settle_59 (kk_s0 hs) (c_canWork hs hp hr hw m1) ?_
    refine g_if_ne (pc := 62) (tgt := 72) C dX4_settle_62 (by decide) (fun c62 => ?_) (fun c62 => ?_)
    · exact absurd hc c62
    · refine g_aload_0 (pc := 65) C dX4_settle_65 ?_
      refine g_aload_2 (pc := 66) C dX4_settle_66 ?_
      refine g_V1v (pc := 67) C e_X4_settle_186 (Nat.le_of_ble_eq_true rfl) rfl dX4_settle_67 (kk_s0 hs) (c_putOff hs hp hr hw hpp m2 g1 g2 g3 g4) (fun M1 P1 hq1 => ?_)
      obtain ⟨hP1, q1, q2⟩ := hq1
      subst P1
      refine g_iconst (pc := 70) (v := 0) C dX4_settle_70 rfl ?_
      exact g_zret (post := fun r M1 P1 => r = 0 ∧ P1 = P ∧ Rp M1 P s (puF f p) ∧ ∀ a, a < s ∨ s + 52 ≤ a → M1 a = M a) C F dX4_settle_71 (by first | exact Or.inl rfl | exact Or.inr rfl) ⟨rfl, rfl, by unfold puF; rw [m2]; exact q1, q2⟩
  · exact absurd hd c18

set_option maxRecDepth 100000 in
set_option maxHeartbeats 1000000 in
theorem c_settleC {l : Launch} {D : va_G} {cy : Nat → ClassId} {B : Nat} {M : MM} {P : PP} {s c q : Nat} {f : FF} (hs : isSt s) (hp : PS P s) (hr : Rp M P s f) (hw : Wf c q f) {p : Nat} {x : Int32} (hx : x = nI p) (hpp : p < sn f) {w m : Nat} (w1 : w < 6) (w2 : f (133 + 6 * p + 1) = nI w) (m1 : m < mn f) (m2 : f (133 + 6 * p + 2) = nI m) (hd : f (133 + 6 * p + 3) = f 3) {n h : Nat} (hn : sn f = n + 1) (k1 : 1 ≤ h) (k2 : h ≤ 12) (k3 : f (133 + 6 * p + 4) = nI h) (hc : ¬ canI f m (nI h) = 0) : KI l D cy B yX4_settle wsX4_settle 3 69 [Value.ref (B + s), Value.int x] M P (fun r M1 P1 => r = 1 ∧ PS P1 s ∧ Rp M1 P1 s (dropF (doB f w m (nI h) (chg (f (13 + 6 * w + 1)) (f (49 + 14 * m + 0)) (f (49 + 14 * m + 1)) (f 3) (nI h))) p n) ∧ (∀ a, a < s ∨ s + 52 ≤ a → M1 a = M a) ∧ ∀ a, a ≠ s + 21 → P1 a = P a) := by
  refine met_KI (cc := cX4_settle) (maxL := 5) (ret := (some .boolean)) (lv := [some (Value.ref (B + s)), some (Value.int x), none, none, none]) (by decide) rfl rfl rfl (Nat.le_of_ble_eq_true rfl) ?_
  intro X C F
  have h6 := hw.m6
  have h30 := hw.s30
  have hq := hr.2.2.2 p hpp (by omega)
  have kb := hp.kb hs (i := p) (by omega)
  have hbn := hp.bin (i := p) (by omega)
  have kf := kk_f hs w1
  have hF := hr.2.1 w w1
  have hm7 := hr.2.2.1 m m1 (by omega)
  have hv : vf_n32 (FP.fsub (M (s + 9 + 2 * m) 3).toUInt32 (wantU (M (s + 9 + 2 * m) 0) (nI h))) := by
    obtain ⟨⟨k, hk, ek⟩, -, -, ⟨q2, hq2, eq2⟩, -⟩ := hw.wm m1
    obtain ⟨f1, f2⟩ := do_fuel hk k2 hq2 ek eq2 hc
    rw [hm7.1, hm7.2.2.2.1, f2]
    exact qbU_n32 (by omega)
  refine g_aload_0 (pc := 0) C dX4_settle_0 ?_
  refine g_iload_1 (pc := 1) C dX4_settle_1 ?_
  refine g_V1qs (pc := 2) C e_X4_settle_64 (Nat.le_of_ble_eq_true rfl) rfl dX4_settle_2 (kk_s0 hs) (c_bookingAt hs hp hr hw hx hpp) ?_
  refine g_astore_2 (pc := 5) C dX4_settle_5 ?_
  refine g_aload_2 (pc := 6) C dX4_settle_6 ?_
  refine g_ifnull (pc := 7) C dX4_settle_7 ?_
  refine g_aload_2 (pc := 10) C dX4_settle_10 ?_
  refine g_geti (pc := 11) C fl_X4_settle_151 kb dX4_settle_11 ?_
  rw [hq 3 (by decide)]
  refine g_aload_0 (pc := 14) C dX4_settle_14 ?_
  refine g_geti (pc := 15) C fl_X4_settle_71 (kk_s0 hs) dX4_settle_15 ?_
  rw [hr.1.2.2.1]
  refine g_icmp_eq (pc := 18) (tgt := 23) C dX4_settle_18 (by decide) (fun c18 => ?_) (fun c18 => ?_)
  · refine g_aload_0 (pc := 23) C dX4_settle_23 ?_
    refine g_aload_2 (pc := 24) C dX4_settle_24 ?_
    refine g_geti (pc := 25) C fl_X4_settle_148 kb dX4_settle_25 ?_
    rw [hq 2 (by decide), m2]
    refine g_V1qs (pc := 28) C e_X4_settle_54 (Nat.le_of_ble_eq_true rfl) rfl dX4_settle_28 (kk_s0 hs) (c_machineAt hs hp hr hw (i := m) rfl m1) ?_
    refine g_astore_3 (pc := 31) C dX4_settle_31 ?_
    refine g_aload_0 (pc := 32) C dX4_settle_32 ?_
    refine g_aload_2 (pc := 33) C dX4_settle_33 ?_
    refine g_geti (pc := 34) C fl_X4_settle_145 kb dX4_settle_34 ?_
    rw [hq 1 (by decide), w2]
    refine g_V1qs (pc := 37) C e_X4_settle_43 (Nat.le_of_ble_eq_true rfl) rfl dX4_settle_37 (kk_s0 hs) (c_farmerAt hs hp (i := w) rfl w1) ?_
    refine g_astore_4 (pc := 40) C dX4_settle_40 ?_
    refine g_aload_3 (pc := 42) C dX4_settle_42 ?_
    refine g_ifnull (pc := 43) C dX4_settle_43 ?_
    refine g_aload_4 (pc := 46) C dX4_settle_46 ?_
    refine g_ifnonnull (pc := 48) (tgt := 53) C dX4_settle_48 (by decide) ?_
    refine g_aload_0 (pc := 53) C dX4_settle_53 ?_
    refine g_aload_3 (pc := 54) C dX4_settle_54 ?_
    refine g_aload_2 (pc := 55) C dX4_settle_55 ?_
    refine g_geti (pc := 56) C fl_X4_settle_152 kb dX4_settle_56 ?_
    rw [hq 4 (by decide), k3]
    refine g_V2ie (pc := 59) C e_X4_settle_182 (Nat.le_of_ble_eq_true rfl) rfl dX4_settle_59 (kk_s0 hs) (c_canWork hs hp hr hw m1) ?_
    refine g_if_ne (pc := 62) (tgt := 72) C dX4_settle_62 (by decide) (fun c62 => ?_) (fun c62 => ?_)
    · refine g_aload_4 (pc := 72) C dX4_settle_72 ?_
      refine g_aload_0 (pc := 74) C dX4_settle_74 ?_
      refine g_aload_2 (pc := 75) C dX4_settle_75 ?_
      refine g_V1ie (pc := 76) C e_X4_settle_189 (Nat.le_of_ble_eq_true rfl) rfl dX4_settle_76 (kk_s0 hs) (c_chargeOf hs hp hr hw hpp w1 w2 m1 m2) ?_
      rw [hd, k3]
      generalize hch : (chg (f (13 + 6 * w + 1)) (f (49 + 14 * m + 0)) (f (49 + 14 * m + 1)) (f 3) (nI h)) = ch
      refine g_V1ve (pc := 79) C e_X4_settle_193 (Nat.le_of_ble_eq_true rfl) rfl dX4_settle_79 kf (c_charge kf) ?_
      refine g_aload_4 (pc := 82) C dX4_settle_82 ?_
      refine g_dup (pc := 84) C dX4_settle_84 rfl ?_
      refine g_geti (pc := 85) C fl_X4_settle_196 kf dX4_settle_85 ?_
      refine g_aload_2 (pc := 88) C dX4_settle_88 ?_
      refine g_geti (pc := 89) C fl_X4_settle_152 kb dX4_settle_89 ?_
      rw [up_ne _ _ (show P (s + 21) p ≠ s + 2 + w by omega), hq 4 (by decide), k3]
      refine g_iadd (pc := 92) C dX4_settle_92 ?_
      refine g_puti (pc := 93) C pf_X4_settle_196 kf dX4_settle_93 ?_
      refine g_memo (fun M1 => (M1 (s + 2 + w) 0 = f (13 + 6 * w + 0) - ch ∧ M1 (s + 2 + w) 4 = f (13 + 6 * w + 4) + ch ∧ M1 (s + 2 + w) 2 = f (13 + 6 * w + 2) + nI h) ∧ (∀ k, k ≠ 0 → k ≠ 4 → k ≠ 2 → M1 (s + 2 + w) k = M (s + 2 + w) k) ∧ (∀ a, a ≠ s + 2 + w → M1 a = M a)) ⟨by simp [up_same, up_up, up_ne, hF 0 (by decide), hF 4 (by decide), hF 2 (by decide)], fun k h0 h4 h2 => by simp [up_same, up_up, up_ne, h0, h4, h2], fun a ha => by simp [up_ne, ha]⟩ (fun M1 hM1 => ?_)
      obtain ⟨⟨a1, a2, a3⟩, a4, a5⟩ := hM1
      have b1 : M1 (P (s + 21) p) = M (P (s + 21) p) := a5 _ (by omega)
      have b2 : M1 s = M s := a5 _ (by omega)
      have b3 : M1 (s + 9 + 2 * m) = M (s + 9 + 2 * m) := a5 _ (by omega)
      have b4 : M1 (s + 10 + 2 * m) = M (s + 10 + 2 * m) := a5 _ (by omega)
      refine g_aload_3 (pc := 96) C dX4_settle_96 ?_
      refine g_aload_2 (pc := 97) C dX4_settle_97 ?_
      refine g_geti (pc := 98) C fl_X4_settle_145 kb dX4_settle_98 ?_
      rw [b1, hq 1 (by decide), w2]
      refine g_aload_2 (pc := 101) C dX4_settle_101 ?_
      refine g_geti (pc := 102) C fl_X4_settle_152 kb dX4_settle_102 ?_
      rw [b1, hq 4 (by decide), k3]
      refine g_aload_0 (pc := 105) C dX4_settle_105 ?_
      refine g_geti (pc := 106) C fl_X4_settle_32 (kk_s0 hs) dX4_settle_106 ?_
      rw [b2, hr.1.2.2.2.2.2.2.2.1]
      refine g_V3v (pc := 109) C e_X4_settle_197 (Nat.le_of_ble_eq_true rfl) rfl dX4_settle_109 (kk_m hs (by omega)) (c_work (kk_m hs (by omega)) (kk_h hs (by omega)) (ln_h hs (by omega)) (hp.rh (by omega)) (w := w) rfl w1 (by rw [b3]; exact hv)) (fun M2 P2 hq2 => ?_)
      obtain ⟨hP2, c1, c2, c3, c4, c5, c6⟩ := hq2
      subst P2
      rw [b3] at c1 c2 c3 c4
      rw [b4] at c4 c5
      rw [hm7.1, hm7.2.2.2.1] at c2
      rw [hm7.2.2.2.2.2.1] at c3
      rw [sm_up w1, sm_congr hm7.2.2.2.2.2.2.2, (hw.wm m1).since, hm7.2.2.2.2.1] at c4
      refine g_aload_0 (pc := 112) C dX4_settle_112 ?_
      refine g_dup (pc := 113) C dX4_settle_113 rfl ?_
      refine g_geti (pc := 114) C fl_X4_settle_77 (kk_s0 hs) dX4_settle_114 ?_
      rw [c6 s (by omega) (by omega), b2, hr.1.2.2.2.2.1]
      refine g_iconst (pc := 117) (v := 1) C dX4_settle_117 rfl ?_
      refine g_iadd (pc := 118) C dX4_settle_118 ?_
      refine g_puti (pc := 119) C pf_X4_settle_77 (kk_s0 hs) dX4_settle_119 ?_
      rw [c6 s (by omega) (by omega), b2]
      refine g_memo (fun M3 => Rp M3 P s (doB f w m (nI h) ch) ∧ ∀ a, a < s ∨ s + 52 ≤ a → M3 a = M a) ⟨Rp_do hs hp hr hw w1 m1 (by rw [up_ne _ _ (by omega), c6 _ (by omega) (by omega)]; exact a1) (by rw [up_ne _ _ (by omega), c6 _ (by omega) (by omega)]; exact a2) (by rw [up_ne _ _ (by omega), c6 _ (by omega) (by omega)]; exact a3) (fun k h0 h4 h2 => by rw [up_ne _ _ (by omega), c6 _ (by omega) (by omega)]; exact a4 k h0 h4 h2) (fun k h3 h4 h5 => by rw [up_ne _ _ (by omega)]; exact c1 k h3 h4 h5) (by rw [up_ne _ _ (by omega)]; exact c2) (by rw [up_ne _ _ (by omega)]; exact c3) (by rw [up_ne _ _ (by omega)]; exact c4) (by rw [up_ne _ _ (by omega)]; exact c5) (by rw [up_same, up_same]) (fun k h7 => by rw [up_same, up_ne _ _ h7]) (fun a e1 e2 e3 e4 => by rw [up_ne _ _ e1, c6 _ e3 e4]; exact a5 a e2), fun a ha => by rw [up_ne _ _ (by omega), c6 _ (by omega) (by omega)]; exact a5 a (by omega)⟩ (fun M3 hM3 => ?_)
      obtain ⟨d1, d2⟩ := hM3
      refine g_aload_0 (pc := 122) C dX4_settle_122 ?_
      refine g_iload_1 (pc := 123) C dX4_settle_123 ?_
      refine g_V1v (pc := 124) C e_X4_settle_200 (Nat.le_of_ble_eq_true rfl) rfl dX4_settle_124 (kk_s0 hs) (c_removeBookingAt hs hp d1 (n := n) (by rw [doB_lo w1 (by omega) (by omega) (by decide), hw.s, hn]) (by omega) hx (by omega)) (fun M4 P4 hq4 => ?_)
      obtain ⟨e1, e2, e3, e4⟩ := hq4
      refine g_iconst (pc := 127) (v := 1) C dX4_settle_127 rfl ?_
      exact g_zret (post := fun r M1 P1 => r = 1 ∧ PS P1 s ∧ Rp M1 P1 s (dropF (doB f w m (nI h) (chg (f (13 + 6 * w + 1)) (f (49 + 14 * m + 0)) (f (49 + 14 * m + 1)) (f 3) (nI h))) p n) ∧ (∀ a, a < s ∨ s + 52 ≤ a → M1 a = M a) ∧ ∀ a, a ≠ s + 21 → P1 a = P a) C F dX4_settle_128 (by first | exact Or.inl rfl | exact Or.inr rfl) ⟨rfl, e1, by rw [hch]; exact e2, fun a ha => (e3 a ha).trans (d2 a ha), e4⟩
    · exact absurd c62 hc
  · exact absurd hd c18

theorem c_settle {l : Launch} {D : va_G} {cy : Nat → ClassId} {B : Nat} {M : MM} {P : PP} {s c p : Nat} {f : FF} {x : Int32} (hs : isSt s) (hp : PS P s) (hr : Rp M P s f) (hw : Wf c p f) (hx : x = nI p) (hpp : p < sn f) : KI l D cy B yX4_settle wsX4_settle 3 69 [Value.ref (B + s), Value.int x] M P (fun r M1 P1 => (r = 0 → (stp f p).2 = p + 1) ∧ (¬ r = 0 → (stp f p).2 = p) ∧ PS P1 s ∧ Rp M1 P1 s (stp f p).1 ∧ (∀ a, a < s ∨ s + 52 ≤ a → M1 a = M a) ∧ ∀ a, a ≠ s + 21 → P1 a = P a) := by
  obtain ⟨w1, w2⟩ := wO_eq hw hpp
  obtain ⟨m1, m2⟩ := mO_eq hw hpp
  obtain ⟨-, -, -, ⟨h, k1, k2, k3⟩⟩ := hw.wb hpp
  by_cases hd : f (133 + 6 * p + 3) = f 3
  · by_cases hc : canI f (mO f p) (f (133 + 6 * p + 4)) = 0
    · rw [stp_off hd hc]
      exact ki_post (c_settleB hs hp hr hw hx hpp w1 w2 m1 m2 hd hc) fun r M1 P1 ⟨g1, g2, g3, g4⟩ => ⟨fun _ => rfl, fun z => absurd g1 z, g2 ▸ hp, g2 ▸ g3, g4, fun a _ => by rw [g2]⟩
    · rw [stp_do hd hc]
      obtain ⟨n, hn⟩ : ∃ n, sn f = n + 1 := ⟨sn f - 1, by omega⟩
      have hc2 := hc
      rw [k3] at hc2
      have e : doF f p = dropF (doB f (wO f p) (mO f p) (nI h) (chg (f (13 + 6 * wO f p + 1)) (f (49 + 14 * mO f p + 0)) (f (49 + 14 * mO f p + 1)) (f 3) (nI h))) p n := by
        unfold doF
        rw [k3, hn]
        rfl
      rw [e]
      exact ki_post (c_settleC hs hp hr hw hx hpp w1 w2 m1 m2 hd hn k1 k2 k3 hc2) fun r M1 P1 ⟨g1, g2, g3, g4, g5⟩ => ⟨fun z => (absurd (g1.symm.trans z) (by decide)), fun _ => rfl, g2, g3, g4, g5⟩
  · rw [stp_later hd]
    exact ki_post (c_settleA hs hp hr hw hx hpp hd) fun r M1 P1 ⟨g1, g2, g3⟩ => ⟨fun _ => rfl, fun z => absurd g1 z, g3 ▸ hp, by rw [g2, g3]; exact hr, fun a _ => by rw [g2], fun a _ => by rw [g3]⟩

set_option maxRecDepth 100000 in
set_option maxHeartbeats 1000000 in
theorem c_passDay {l : Launch} {D : va_G} {cy : Nat → ClassId} {B : Nat} {M : MM} {P : PP} {s c : Nat} {f : FF} (hs : isSt s) (hp : PS P s) (hr : Rp M P s f) (hw : Wf c 30 f) (hc : c + 1 ≤ 40000) : KV l D cy B yX4_passDay wsX4_passDay 4 93 [Value.ref (B + s)] M P (fun M1 P1 => PS P1 s ∧ Rp M1 P1 s (dayF f) ∧ (∀ a, a < s ∨ s + 52 ≤ a → M1 a = M a) ∧ ∀ a, a ≠ s + 21 → P1 a = P a) := by
  refine met_KV (cc := cX4_passDay) (maxL := 4) (ret := none) (lv := [some (Value.ref (B + s)), none, none, none]) (by decide) rfl rfl rfl (Nat.le_of_ble_eq_true rfl) ?_
  intro X C F
  have h30 := hw.s30
  refine g_aload_0 (pc := 0) C dX4_passDay_0 ?_
  refine g_dup (pc := 1) C dX4_passDay_1 rfl ?_
  refine g_geti (pc := 2) C fl_X4_passDay_71 (kk_s0 hs) dX4_passDay_2 ?_
  rw [hr.1.2.2.1]
  refine g_iconst (pc := 5) (v := 1) C dX4_passDay_5 rfl ?_
  refine g_iadd (pc := 6) C dX4_passDay_6 ?_
  refine g_puti (pc := 7) C pf_X4_passDay_71 (kk_s0 hs) dX4_passDay_7 ?_
  refine g_memo (fun M1 => Rp M1 P s (up f 3 (f 3 + 1)) ∧ ∀ a, a < s ∨ s + 52 ≤ a → M1 a = M a) ⟨Rp_day hs hp hr (by rw [up_same, up_same]) (fun k h5 => by rw [up_same, up_ne _ _ h5]) (fun a ha => up_ne _ _ ha), fun a ha => up_ne _ _ (by omega)⟩ (fun M1 hM1 => ?_)
  obtain ⟨a1, a2⟩ := hM1
  have e6 : sn (up f 3 (f 3 + 1)) = sn f := by unfold sn; rw [up_ne _ _ (by decide)]
  have hw1 := Wf_day hw hc
  obtain ⟨f1, ef1⟩ : ∃ f1, f1 = up f 3 (f 3 + 1) := ⟨_, rfl⟩
  rw [← ef1] at a1 e6 hw1
  refine g_aload_0 (pc := 10) C dX4_passDay_10 ?_
  refine g_geti (pc := 11) C fl_X4_passDay_61 (kk_s0 hs) dX4_passDay_11 ?_
  rw [a1.1.2.1, hw1.s, e6]
  refine g_istore_1 (pc := 14) C dX4_passDay_14 ?_
  refine g_iconst (pc := 15) (v := 0) C dX4_passDay_15 rfl ?_
  refine g_istore_2 (pc := 16) C dX4_passDay_16 ?_
  refine g_iconst (pc := 17) (v := 0) C dX4_passDay_17 rfl ?_
  refine g_istore_3 (pc := 18) C dX4_passDay_18 ?_
  refine ind_m (fun (k : Nat) => sn f - k) (p := fun (k : Nat) => ∀ (M2 : MM) (P2 : PP) (g : FF) (p : Nat), k ≤ sn f → PS P2 s → Rp M2 P2 s g → Wf (c + 1) p g → sn g - p = sn f - k → p ≤ sn g → dayG (sn f - k) g p = dayG (sn f) f1 0 → (∀ a, a < s ∨ s + 52 ≤ a → M2 a = M a) → (∀ a, a ≠ s + 21 → P2 a = P a) → G X D cy B 0 0 369 M2 P2 19 [some (Value.ref (B + s)), some (Value.int (nI (sn f))), some (Value.int (nI p)), some (Value.int (nI k))] []) ?_ 0 M1 P f1 0 (Nat.zero_le _) hp a1 hw1 (by rw [e6]) (Nat.zero_le _) rfl a2 (fun _ _ => rfl)
  intro k ih M2 P2 g p hk i1 i2 i3 i4 i5 i6 i7 i8
  have h30 := i3.s30
  refine g_iload_3 (pc := 19) C dX4_passDay_19 ?_
  refine g_iload_1 (pc := 20) C dX4_passDay_20 ?_
  refine g_icmp_ge (pc := 21) (tgt := 41) C dX4_passDay_21 (by decide) (fun c21 => ?_) (fun c21 => ?_)
  · have e : sn f ≤ k := i_le (by omega) (by omega) c21
    have e1 : k = sn f := by omega
    rw [e1, Nat.sub_self] at i6
    exact g_vret (post := fun M1 P1 => PS P1 s ∧ Rp M1 P1 s (dayF f) ∧ (∀ a, a < s ∨ s + 52 ≤ a → M1 a = M a) ∧ ∀ a, a ≠ s + 21 → P1 a = P a) C F dX4_passDay_41 ⟨i1, by unfold dayF; rw [← ef1, ← i6]; exact i2, i7, i8⟩
  · have hk2 : k < sn f := i_nle (by omega) (by omega) c21
    obtain ⟨j1, j2, j3⟩ := Wf_stp i3 (p := p) (by omega)
    have j4 : dayG (sn f - (k + 1)) (stp g p).1 (stp g p).2 = dayG (sn f) f1 0 := by
      rw [← i6, show sn f - k = (sn f - (k + 1)) + 1 by omega]
      rfl
    refine g_aload_0 (pc := 24) C dX4_passDay_24 ?_
    refine g_iload_2 (pc := 25) C dX4_passDay_25 ?_
    refine g_V1i (pc := 26) C e_X4_passDay_179 (Nat.le_of_ble_eq_true rfl) rfl dX4_passDay_26 (kk_s0 hs) (c_settle hs i1 i2 i3 (p := p) rfl (by omega)) (fun r M3 P3 hq3 => ?_)
    obtain ⟨q1, q2, q3, q4, q5, q6⟩ := hq3
    refine g_if_ne (pc := 29) (tgt := 35) C dX4_passDay_29 (by decide) (fun c29 => ?_) (fun c29 => ?_)
    · rw [q2 c29] at j1 j2 j3 j4
      refine g_iinc_3 (pc := 35) (v := nI (k + 1)) C dX4_passDay_35 (nI_1 k) ?_
      refine g_goto (pc := 38) (tgt := 19) C dX4_passDay_38 (by decide) ?_
      exact ih (k + 1) (by omega) _ _ _ _ hk2 q3 q4 j1 (by omega) j3 j4 (fun a ha => (q5 a ha).trans (i7 a ha)) (fun a ha => (q6 a ha).trans (i8 a ha))
    · rw [q1 c29] at j1 j2 j3 j4
      refine g_iinc_2 (pc := 32) (v := nI (p + 1)) C dX4_passDay_32 (nI_1 p) ?_
      refine g_iinc_3 (pc := 35) (v := nI (k + 1)) C dX4_passDay_35 (nI_1 k) ?_
      refine g_goto (pc := 38) (tgt := 19) C dX4_passDay_38 (by decide) ?_
      exact ih (k + 1) (by omega) _ _ _ _ hk2 q3 q4 j1 (by omega) j3 j4 (fun a ha => (q5 a ha).trans (i7 a ha)) (fun a ha => (q6 a ha).trans (i8 a ha))
