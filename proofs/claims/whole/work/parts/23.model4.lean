theorem qb_sn {q : Nat} (h : q ≤ 4400) : vn_sni2f (qb q) = false := by
  have h1 := qbU_n32 h
  unfold vf_n32 at h1
  unfold vn_sni2f
  rw [qb_U, decide_eq_false (UInt32.not_lt.mpr h1)]
  rfl
theorem qb_eq {q : Nat} (h : q ≤ 4400) : FP.fcmp (qbU q) (qbU q) = some .eq := by
  rw [q_cmp h h, Nat.compare_eq_eq.mpr rfl]
theorem Wf.sni {c q : Nat} {f : FF} (h : Wf c q f) {m : Nat} (hm : m < mn f) : vn_sni2f (f (49 + 14 * m + 6)) = false := by
  obtain ⟨-, -, -, ⟨q2, hq2, eq2⟩, -⟩ := h.wm hm
  rw [eq2]
  exact qb_sn (by omega)

set_option maxRecDepth 100000 in
set_option maxHeartbeats 1000000 in
theorem c7_passesDay {l : Launch} {D : va_G} {cy : Nat → ClassId} {B : Nat} {M : MM} {P : PP} (hm : PMd P) {c : Nat} {f : FF} (hfe : M 370 = f) (hw : Wf c 30 f) (hc : c + 1 ≤ 40000) : KV l D cy B yX7_passesDay wsX7_passesDay 4 91 [Value.ref (B + 369)] M P (qv (up M 370 (dayF f)) P) := by
  refine met_KV (cc := cX7_passesDay) (maxL := 3) (ret := none) (lv := [some (Value.ref (B + 369)), none, none]) (by decide) rfl rfl rfl (Nat.le_of_ble_eq_true rfl) ?_
  intro X C F
  have h30 := hw.s30
  refine g_aload_0 (pc := 0) C dX7_passesDay_0 ?_
  refine g_getr (pc := 1) C hm.s fl_X7_passesDay_7 kk369 dX7_passesDay_1 ?_
  refine g_iconst (pc := 4) (v := 3) C dX7_passesDay_4 rfl ?_
  refine g_dup2 (pc := 5) C dX7_passesDay_5 rfl rfl ?_
  refine g_iald (pc := 6) (j := 3) C kk370 rfl ln370 (by omega) dX7_passesDay_6 ?_
  rw [hfe]
  refine g_iconst (pc := 7) (v := 1) C dX7_passesDay_7 rfl ?_
  refine g_iadd (pc := 8) C dX7_passesDay_8 ?_
  refine g_iast (pc := 9) (j := 3) C kk370 rfl ln370 (by omega) dX7_passesDay_9 ?_
  rw [hfe]
  have hw1 := Wf_day hw hc
  have e6 : sn (up f 3 (f 3 + 1)) = sn f := by unfold sn; rw [up_ne _ _ (by decide)]
  obtain ⟨T, hT⟩ : ∃ T, T = dayF f := ⟨_, rfl⟩
  unfold dayF at hT
  obtain ⟨f1, ef1⟩ : ∃ f1, f1 = up f 3 (f 3 + 1) := ⟨_, rfl⟩
  rw [← ef1] at hT e6 hw1 ⊢
  refine g_iconst (pc := 10) (v := 0) C dX7_passesDay_10 rfl ?_
  refine g_istore_1 (pc := 11) C dX7_passesDay_11 ?_
  refine ind_m (fun (k : Nat) => k) (p := fun (k : Nat) => ∀ (g : FF) (p : Nat), sn g - p = k → Wf (c + 1) p g → p ≤ sn g → dayG k g p = T → G X D cy B 0 0 376 (up M 370 g) P 12 [some (Value.ref (B + 369)), some (Value.int (nI p)), none] []) ?_ (sn f) f1 0 (by rw [e6]; rfl) hw1 (Nat.zero_le _) hT.symm
  intro k ih g p i1 i2 i3 i4
  have h30 := i2.s30
  have hm6 := i2.m6
  refine g_iload_1 (pc := 12) C dX7_passesDay_12 ?_
  refine g_aload_0 (pc := 13) C dX7_passesDay_13 ?_
  refine g_getr (pc := 14) C hm.s fl_X7_passesDay_7 kk369 dX7_passesDay_14 ?_
  refine g_bipush (pc := 17) (v := 6) C dX7_passesDay_17 rfl ?_
  refine g_iald (pc := 19) (j := 6) C kk370 rfl ln370 (by omega) dX7_passesDay_19 ?_
  rw [up_same, i2.s]
  refine g_icmp_ge (pc := 20) (tgt := 90) C dX7_passesDay_20 (by decide) (fun c20 => ?_) (fun c20 => ?_)
  · have e : sn g ≤ p := i_le (by omega) (by omega) c20
    rw [show k = 0 by omega] at i4
    exact g_vret (post := qv (up M 370 (dayF f)) P) C F dX7_passesDay_90 ⟨by rw [show dayF f = T from (hT.trans (by rw [ef1]; rfl)).symm, ← i4]; rfl, rfl⟩
  · have hp : p < sn g := i_nle (by omega) (by omega) c20
    obtain ⟨j1, j2, j3⟩ := Wf_stp i2 (p := p) hp
    have j4 : dayG (k - 1) (stp g p).1 (stp g p).2 = T := by
      rw [← i4, show k = (k - 1) + 1 by omega]
      rfl
    obtain ⟨w1, w2⟩ := wO_eq i2 hp
    obtain ⟨m1, m2⟩ := mO_eq i2 hp
    obtain ⟨-, -, -, ⟨h, k1, k2, k3⟩⟩ := i2.wb hp
    refine g_aload_0 (pc := 23) C dX7_passesDay_23 ?_
    refine g_iload_1 (pc := 24) C dX7_passesDay_24 ?_
    refine g_iconst (pc := 25) (v := 3) C dX7_passesDay_25 rfl ?_
    refine g_V2ie (pc := 26) C e_X7_passesDay_36 (Nat.le_of_ble_eq_true rfl) rfl dX7_passesDay_26 kk369 (c7_ofBooking hm (i := p) (k := 3) rfl rfl (by omega) (by decide)) ?_
    rw [up_same]
    refine g_aload_0 (pc := 29) C dX7_passesDay_29 ?_
    refine g_getr (pc := 30) C hm.s fl_X7_passesDay_7 kk369 dX7_passesDay_30 ?_
    refine g_iconst (pc := 33) (v := 3) C dX7_passesDay_33 rfl ?_
    refine g_iald (pc := 34) (j := 3) C kk370 rfl ln370 (by omega) dX7_passesDay_34 ?_
    rw [up_same]
    refine g_icmp_ne (pc := 35) (tgt := 42) C dX7_passesDay_35 (by decide) (fun c35 => ?_) (fun c35 => ?_)
    · rw [stp_later c35] at j1 j2 j3 j4
      refine g_iconst (pc := 42) (v := 0) C dX7_passesDay_42 rfl ?_
      refine g_istore_2 (pc := 43) C dX7_passesDay_43 ?_
      refine g_iload_2 (pc := 44) C dX7_passesDay_44 ?_
      refine g_if_eq (pc := 45) (tgt := 75) C dX7_passesDay_45 (by decide) (fun c45 => ?_) (fun c45 => ?_)
      · refine g_iload_2 (pc := 75) C dX7_passesDay_75 ?_
        refine g_if_eq (pc := 76) (tgt := 84) C dX7_passesDay_76 (by decide) (fun c76 => ?_) (fun c76 => ?_)
        · refine g_iinc_1 (pc := 84) (v := nI (p + 1)) C dX7_passesDay_84 (nI_1 p) ?_
          refine g_goto (pc := 87) (tgt := 12) C dX7_passesDay_87 (by decide) ?_
          refine g_kill_2 ?_
          exact ih (k - 1) (by omega) _ _ (by omega) j1 j3 j4
        · exact absurd rfl c76
      · exact absurd rfl c45
    · have hd : g (133 + 6 * p + 3) = g 3 := c35
      refine g_iconst (pc := 38) (v := 1) C dX7_passesDay_38 rfl ?_
      refine g_goto (pc := 39) (tgt := 43) C dX7_passesDay_39 (by decide) ?_
      refine g_istore_2 (pc := 43) C dX7_passesDay_43 ?_
      refine g_iload_2 (pc := 44) C dX7_passesDay_44 ?_
      refine g_if_eq (pc := 45) (tgt := 75) C dX7_passesDay_45 (by decide) (fun c45 => ?_) (fun c45 => ?_)
      · exact absurd c45 (by decide)
      · refine g_aload_0 (pc := 48) C dX7_passesDay_48 ?_
        refine g_aload_0 (pc := 49) C dX7_passesDay_49 ?_
        refine g_iload_1 (pc := 50) C dX7_passesDay_50 ?_
        refine g_iconst (pc := 51) (v := 2) C dX7_passesDay_51 rfl ?_
        refine g_V2ie (pc := 52) C e_X7_passesDay_36 (Nat.le_of_ble_eq_true rfl) rfl dX7_passesDay_52 kk369 (c7_ofBooking hm (i := p) (k := 2) rfl rfl (by omega) (by decide)) ?_
        rw [up_same, m2]
        refine g_aload_0 (pc := 55) C dX7_passesDay_55 ?_
        refine g_iload_1 (pc := 56) C dX7_passesDay_56 ?_
        refine g_iconst (pc := 57) (v := 4) C dX7_passesDay_57 rfl ?_
        refine g_V2ie (pc := 58) C e_X7_passesDay_36 (Nat.le_of_ble_eq_true rfl) rfl dX7_passesDay_58 kk369 (c7_ofBooking hm (i := p) (k := 4) rfl rfl (by omega) (by decide)) ?_
        rw [up_same]
        refine g_V2ie (pc := 61) C e_X7_passesDay_105 (Nat.le_of_ble_eq_true rfl) rfl dX7_passesDay_61 kk369 (c7_works hm (m := mO g p) rfl (by omega) (by rw [up_same]; exact i2.sni m1)) ?_
        rw [up_same]
        refine g_if_eq (pc := 64) (tgt := 75) C dX7_passesDay_64 (by decide) (fun c64 => ?_) (fun c64 => ?_)
        · rw [stp_off hd c64] at j1 j2 j3 j4
          dsimp only at j1 j2 j3 j4
          obtain ⟨g1, g2, g3, g4⟩ := po_ok (m := g (133 + 6 * p + 2)) i2 hp hd
          rw [m2] at g1 g2 g3 g4
          refine g_iload_2 (pc := 75) C dX7_passesDay_75 ?_
          refine g_if_eq (pc := 76) (tgt := 84) C dX7_passesDay_76 (by decide) (fun c76 => ?_) (fun c76 => ?_)
          · exact absurd c76 (by decide)
          · refine g_aload_0 (pc := 79) C dX7_passesDay_79 ?_
            refine g_iload_1 (pc := 80) C dX7_passesDay_80 ?_
            refine g_V1ve (pc := 81) C e_X7_passesDay_112 (Nat.le_of_ble_eq_true rfl) rfl dX7_passesDay_81 kk369 (c7_putsOff hm (up_same _ _ _) (p := p) rfl (by omega) i2.s h30 m2 g1 g2 g3 g4) ?_
            rw [up_up]
            rw [show poF g p (po g (nI (mO g p)) (g (133 + 6 * p + 4)) 1 30) = puF g p by unfold puF; rw [m2]]
            refine g_iinc_1 (pc := 84) (v := nI (p + 1)) C dX7_passesDay_84 (nI_1 p) ?_
            refine g_goto (pc := 87) (tgt := 12) C dX7_passesDay_87 (by decide) ?_
            refine g_kill_2 ?_
            exact ih (k - 1) (by omega) _ _ (by omega) j1 j3 j4
        · rw [stp_do hd c64] at j1 j2 j3 j4
          dsimp only at j1 j2 j3 j4
          rw [k3] at c64
          obtain ⟨n, hn⟩ : ∃ n, sn g = n + 1 := ⟨sn g - 1, by omega⟩
          obtain ⟨⟨kk, hk, ek⟩, -, -, ⟨q2, hq2, eq2⟩, -⟩ := i2.wm m1
          obtain ⟨f8, f9⟩ := do_fuel hk k2 hq2 ek eq2 c64
          have hdo : doF g p = dropF (doB g (wO g p) (mO g p) (nI h) (chg (g (13 + 6 * wO g p + 1)) (g (49 + 14 * mO g p + 0)) (g (49 + 14 * mO g p + 1)) (g 3) (nI h))) p n := by
            unfold doF
            rw [k3, hn]
            rfl
          rw [hdo] at j1 j2 j3 j4
          refine g_aload_0 (pc := 67) C dX7_passesDay_67 ?_
          refine g_iload_1 (pc := 68) C dX7_passesDay_68 ?_
          refine g_V1ve (pc := 69) C e_X7_passesDay_109 (Nat.le_of_ble_eq_true rfl) rfl dX7_passesDay_69 kk369 (c7_does hm (up_same _ _ _) (p := p) rfl (n := n) (by omega) (by omega) (by rw [i2.s, hn]) w2 w1 m2 (by omega) k3 (i2.sni m1) (by rw [f9]; exact qbU_n32 (by omega)) (by rw [f9]; exact qb_eq (by omega))) ?_
          rw [up_up]
          refine g_goto (pc := 72) (tgt := 87) C dX7_passesDay_72 (by decide) ?_
          refine g_goto (pc := 87) (tgt := 12) C dX7_passesDay_87 (by decide) ?_
          refine g_kill_2 ?_
          exact ih (k - 1) (by omega) _ _ (by omega) j1 j3 j4
