set_option maxRecDepth 100000 in
set_option maxHeartbeats 1000000 in
theorem c7_readsBooking {l : Launch} {D : va_G} {cy : Nat → ClassId} {B : Nat} {M : MM} {P : PP} {t : FF} {len : Nat} {s : Bool × Nat} {z : Nat} (hm : PMd P) (h1 : M 369 8 = nI len) (hl : len ≤ 60) (ht : ∀ i, i < len → M 374 i = t i) (hc : CH t len) (hs : s.2 ≤ len) (R0 : RD M M s) (hz : M 369 12 = nI z) (hz14 : z ≤ 14) {s1 : Bool × Nat} (E1 : s1 = nxD t len s) {s2 : Bool × Nat} (E2 : s2 = nxS t len 109 s1) {s3 : Bool × Nat} (E3 : s3 = nxD t len s2) {s4 : Bool × Nat} (E4 : s4 = nxS t len 43 s3) {s5 : Bool × Nat} (E5 : s5 = nxN t len 99 s4) {s6 : Bool × Nat} (E6 : s6 = nxS t len 104 s5) {s7 : Bool × Nat} (E7 : s7 = nxN t len 12 s6) : KV l D cy B yX7_readsBooking wsX7_readsBooking 2 44 [Value.ref (B + 369)] M P (fun M1 P1 => P1 = P ∧ M1 369 10 = (if s7.1 = true then 1 else 0) ∧ M1 369 9 = nI s7.2 ∧ M1 369 12 = nI (if s7.1 = true then z + 1 else z) ∧ (∀ k, k ≠ 9 → k ≠ 10 → k ≠ 12 → M1 369 k = M 369 k) ∧ (∀ a, a ≠ 369 → a ≠ 375 → M1 a = M a) ∧ (∀ j, j < 4 * z → M1 375 j = M 375 j) ∧ ((s.1 = true ∧ dg5 t len s.2 → M1 375 (4 * z + 0) = sg t len s.2 - 48) ∧ (s2.1 = true ∧ dg5 t len s2.2 → M1 375 (4 * z + 1) = sg t len s2.2 - 48) ∧ (s4.1 = true ∧ ¬ pNum t len s4.2 (nI 99) = none → M1 375 (4 * z + 2) = pnV t len s4.2 (nI 99)) ∧ (s6.1 = true ∧ ¬ pNum t len s6.2 (nI 12) = none → M1 375 (4 * z + 3) = pnV t len s6.2 (nI 12)))) := by
  refine met_KV (cc := cX7_readsBooking) (maxL := 2) (ret := none) (lv := [some (Value.ref (B + 369)), none]) (by decide) rfl rfl rfl (Nat.le_of_ble_eq_true rfl) ?_
  intro X C F
  have l0 : s.2 ≤ len := hs
  have l1 : s1.2 ≤ len := by rw [E1]; exact nxD_le l0
  have l2 : s2.2 ≤ len := by rw [E2]; exact nxS_le (by decide) l1
  have l3 : s3.2 ≤ len := by rw [E3]; exact nxD_le l2
  have l4 : s4.2 ≤ len := by rw [E4]; exact nxS_le (by decide) l3
  have l5 : s5.2 ≤ len := by rw [E5]; exact nxN_le l4
  have l6 : s6.2 ≤ len := by rw [E6]; exact nxS_le (by decide) l5
  have ql : ∀ j, j < 4 * z → M 375 j = M 375 j := fun _ _ => rfl
  refine g_iconst (pc := 0) (v := 4) C dX7_readsBooking_0 rfl ?_
  refine g_aload_0 (pc := 1) C dX7_readsBooking_1 ?_
  refine g_geti (pc := 2) C fl_X7_readsBooking_143 kk369 dX7_readsBooking_2 ?_
  rw [hz]
  refine g_imul (pc := 5) C dX7_readsBooking_5 ?_
  rw [show (4 : Int32) * nI z = nI (4 * z + 0) from pk_mul 4 z]
  refine g_istore_1 (pc := 6) C dX7_readsBooking_6 ?_
  refine g_aload_0 (pc := 7) C dX7_readsBooking_7 ?_
  refine g_getr (pc := 8) C hm.read fl_X7_readsBooking_25 kk369 dX7_readsBooking_8 ?_
  refine g_iload_1 (pc := 11) C dX7_readsBooking_11 ?_
  refine g_aload_0 (pc := 12) C dX7_readsBooking_12 ?_
  refine g_V0i (pc := 13) C e_X7_readsBooking_168 (Nat.le_of_ble_eq_true rfl) rfl dX7_readsBooking_13 kk369 (c7_digitU (t := t) (len := len) (p := s.2) (w := s.1 = true) hm (by rw [R0.2.2.1 8 (by decide) (by decide)]; exact h1) R0.2.1 hl l0 (fun i hi => by rw [R0.2.2.2 374 (by decide) (by decide)]; exact ht i hi) hc R0.1) (fun r1 M1 PM1 hqM1 => ?_)
  obtain ⟨hP, hM, v1⟩ := hqM1
  subst PM1
  obtain ⟨TM1, eM1⟩ := RD_step R0 hM E1
  clear hM
  refine g_iast (pc := 16) (j := (4 * z + 0)) C kk375 rfl ln375 (by omega) dX7_readsBooking_16 ?_
  refine g_memo (fun M2 => RD M M2 s1 ∧ M2 375 (4 * z + 0) = r1 ∧ (∀ j, j < 4 * z → M2 375 j = M 375 j)) ⟨RD_put TM1, (by rw [up_same, up_same]), (fun j hj => by rw [up_same, up_ne _ _ (by omega), eM1])⟩ (fun M2 hM2 => ?_)
  obtain ⟨R2, q0, ql⟩ := hM2
  refine g_aload_0 (pc := 17) C dX7_readsBooking_17 ?_
  refine g_bipush (pc := 18) (v := 109) C dX7_readsBooking_18 rfl ?_
  refine g_V1ve (pc := 20) C e_X7_readsBooking_171 (Nat.le_of_ble_eq_true rfl) rfl dX7_readsBooking_20 kk369 (c7_asksU (t := t) (len := len) (p := s1.2) (w := s1.1 = true) hm (by rw [R2.2.2.1 8 (by decide) (by decide)]; exact h1) R2.2.1 hl l1 (fun i hi => by rw [R2.2.2.2 374 (by decide) (by decide)]; exact ht i hi) (x0 := by decide) (x1 := by decide) R2.1) ?_
  have T1 := RD_step R2 rfl E2
  refine g_memo (fun M4 => RD M M4 s2 ∧ M4 375 (4 * z + 0) = r1 ∧ (∀ j, j < 4 * z → M4 375 j = M 375 j)) ⟨T1.1, (by rw [T1.2]; exact q0), (fun j hj => by rw [T1.2]; exact ql j hj)⟩ (fun M4 hM4 => ?_)
  clear T1
  obtain ⟨R4, q0, ql⟩ := hM4
  refine g_aload_0 (pc := 23) C dX7_readsBooking_23 ?_
  refine g_getr (pc := 24) C hm.read fl_X7_readsBooking_25 kk369 dX7_readsBooking_24 ?_
  refine g_iload_1 (pc := 27) C dX7_readsBooking_27 ?_
  refine g_iconst (pc := 28) (v := 1) C dX7_readsBooking_28 rfl ?_
  refine g_iadd (pc := 29) C dX7_readsBooking_29 ?_
  rw [show nI (4 * z + 0) + 1 = nI (4 * z + 1) from nI_1 _]
  refine g_aload_0 (pc := 30) C dX7_readsBooking_30 ?_
  refine g_V0i (pc := 31) C e_X7_readsBooking_168 (Nat.le_of_ble_eq_true rfl) rfl dX7_readsBooking_31 kk369 (c7_digitU (t := t) (len := len) (p := s2.2) (w := s2.1 = true) hm (by rw [R4.2.2.1 8 (by decide) (by decide)]; exact h1) R4.2.1 hl l2 (fun i hi => by rw [R4.2.2.2 374 (by decide) (by decide)]; exact ht i hi) hc R4.1) (fun r3 M5 PM5 hqM5 => ?_)
  obtain ⟨hP, hM, v3⟩ := hqM5
  subst PM5
  obtain ⟨TM5, eM5⟩ := RD_step R4 hM E3
  clear hM
  refine g_iast (pc := 34) (j := (4 * z + 1)) C kk375 rfl ln375 (by omega) dX7_readsBooking_34 ?_
  refine g_memo (fun M6 => RD M M6 s3 ∧ M6 375 (4 * z + 0) = r1 ∧ M6 375 (4 * z + 1) = r3 ∧ (∀ j, j < 4 * z → M6 375 j = M 375 j)) ⟨RD_put TM5, (by rw [up_same, up_ne _ _ (by omega), eM5]; exact q0), (by rw [up_same, up_same]), (fun j hj => by rw [up_same, up_ne _ _ (by omega), eM5]; exact ql j hj)⟩ (fun M6 hM6 => ?_)
  obtain ⟨R6, q0, q1, ql⟩ := hM6
  refine g_aload_0 (pc := 35) C dX7_readsBooking_35 ?_
  refine g_bipush (pc := 36) (v := 43) C dX7_readsBooking_36 rfl ?_
  refine g_V1ve (pc := 38) C e_X7_readsBooking_171 (Nat.le_of_ble_eq_true rfl) rfl dX7_readsBooking_38 kk369 (c7_asksU (t := t) (len := len) (p := s3.2) (w := s3.1 = true) hm (by rw [R6.2.2.1 8 (by decide) (by decide)]; exact h1) R6.2.1 hl l3 (fun i hi => by rw [R6.2.2.2 374 (by decide) (by decide)]; exact ht i hi) (x0 := by decide) (x1 := by decide) R6.1) ?_
  have T1 := RD_step R6 rfl E4
  refine g_memo (fun M8 => RD M M8 s4 ∧ M8 375 (4 * z + 0) = r1 ∧ M8 375 (4 * z + 1) = r3 ∧ (∀ j, j < 4 * z → M8 375 j = M 375 j)) ⟨T1.1, (by rw [T1.2]; exact q0), (by rw [T1.2]; exact q1), (fun j hj => by rw [T1.2]; exact ql j hj)⟩ (fun M8 hM8 => ?_)
  clear T1
  obtain ⟨R8, q0, q1, ql⟩ := hM8
  refine g_aload_0 (pc := 41) C dX7_readsBooking_41 ?_
  refine g_getr (pc := 42) C hm.read fl_X7_readsBooking_25 kk369 dX7_readsBooking_42 ?_
  refine g_iload_1 (pc := 45) C dX7_readsBooking_45 ?_
  refine g_iconst (pc := 46) (v := 2) C dX7_readsBooking_46 rfl ?_
  refine g_iadd (pc := 47) C dX7_readsBooking_47 ?_
  rw [show nI (4 * z + 0) + 2 = nI (4 * z + 2) from nI_add _ 2]
  refine g_aload_0 (pc := 48) C dX7_readsBooking_48 ?_
  refine g_bipush (pc := 49) (v := 99) C dX7_readsBooking_49 rfl ?_
  refine g_V1i (pc := 51) C e_X7_readsBooking_174 (Nat.le_of_ble_eq_true rfl) rfl dX7_readsBooking_51 kk369 (c7_numU (mm := 99) (t := t) (len := len) (p := s4.2) (w := s4.1 = true) hm (by rw [R8.2.2.1 8 (by decide) (by decide)]; exact h1) R8.2.1 hl l4 (fun i hi => by rw [R8.2.2.2 374 (by decide) (by decide)]; exact ht i hi) (by decide) hc R8.1) (fun r5 M9 PM9 hqM9 => ?_)
  obtain ⟨hP, hM, v5⟩ := hqM9
  subst PM9
  obtain ⟨TM9, eM9⟩ := RD_step R8 hM E5
  clear hM
  refine g_iast (pc := 54) (j := (4 * z + 2)) C kk375 rfl ln375 (by omega) dX7_readsBooking_54 ?_
  refine g_memo (fun M10 => RD M M10 s5 ∧ M10 375 (4 * z + 0) = r1 ∧ M10 375 (4 * z + 1) = r3 ∧ M10 375 (4 * z + 2) = r5 ∧ (∀ j, j < 4 * z → M10 375 j = M 375 j)) ⟨RD_put TM9, (by rw [up_same, up_ne _ _ (by omega), eM9]; exact q0), (by rw [up_same, up_ne _ _ (by omega), eM9]; exact q1), (by rw [up_same, up_same]), (fun j hj => by rw [up_same, up_ne _ _ (by omega), eM9]; exact ql j hj)⟩ (fun M10 hM10 => ?_)
  obtain ⟨R10, q0, q1, q2, ql⟩ := hM10
  refine g_aload_0 (pc := 55) C dX7_readsBooking_55 ?_
  refine g_bipush (pc := 56) (v := 104) C dX7_readsBooking_56 rfl ?_
  refine g_V1ve (pc := 58) C e_X7_readsBooking_171 (Nat.le_of_ble_eq_true rfl) rfl dX7_readsBooking_58 kk369 (c7_asksU (t := t) (len := len) (p := s5.2) (w := s5.1 = true) hm (by rw [R10.2.2.1 8 (by decide) (by decide)]; exact h1) R10.2.1 hl l5 (fun i hi => by rw [R10.2.2.2 374 (by decide) (by decide)]; exact ht i hi) (x0 := by decide) (x1 := by decide) R10.1) ?_
  have T1 := RD_step R10 rfl E6
  refine g_memo (fun M12 => RD M M12 s6 ∧ M12 375 (4 * z + 0) = r1 ∧ M12 375 (4 * z + 1) = r3 ∧ M12 375 (4 * z + 2) = r5 ∧ (∀ j, j < 4 * z → M12 375 j = M 375 j)) ⟨T1.1, (by rw [T1.2]; exact q0), (by rw [T1.2]; exact q1), (by rw [T1.2]; exact q2), (fun j hj => by rw [T1.2]; exact ql j hj)⟩ (fun M12 hM12 => ?_)
  clear T1
  obtain ⟨R12, q0, q1, q2, ql⟩ := hM12
  refine g_aload_0 (pc := 61) C dX7_readsBooking_61 ?_
  refine g_getr (pc := 62) C hm.read fl_X7_readsBooking_25 kk369 dX7_readsBooking_62 ?_
  refine g_iload_1 (pc := 65) C dX7_readsBooking_65 ?_
  refine g_iconst (pc := 66) (v := 3) C dX7_readsBooking_66 rfl ?_
  refine g_iadd (pc := 67) C dX7_readsBooking_67 ?_
  rw [show nI (4 * z + 0) + 3 = nI (4 * z + 3) from nI_add _ 3]
  refine g_aload_0 (pc := 68) C dX7_readsBooking_68 ?_
  refine g_bipush (pc := 69) (v := 12) C dX7_readsBooking_69 rfl ?_
  refine g_V1i (pc := 71) C e_X7_readsBooking_174 (Nat.le_of_ble_eq_true rfl) rfl dX7_readsBooking_71 kk369 (c7_numU (mm := 12) (t := t) (len := len) (p := s6.2) (w := s6.1 = true) hm (by rw [R12.2.2.1 8 (by decide) (by decide)]; exact h1) R12.2.1 hl l6 (fun i hi => by rw [R12.2.2.2 374 (by decide) (by decide)]; exact ht i hi) (by decide) hc R12.1) (fun r7 M13 PM13 hqM13 => ?_)
  obtain ⟨hP, hM, v7⟩ := hqM13
  subst PM13
  obtain ⟨TM13, eM13⟩ := RD_step R12 hM E7
  clear hM
  refine g_iast (pc := 74) (j := (4 * z + 3)) C kk375 rfl ln375 (by omega) dX7_readsBooking_74 ?_
  refine g_memo (fun M14 => RD M M14 s7 ∧ M14 375 (4 * z + 0) = r1 ∧ M14 375 (4 * z + 1) = r3 ∧ M14 375 (4 * z + 2) = r5 ∧ M14 375 (4 * z + 3) = r7 ∧ (∀ j, j < 4 * z → M14 375 j = M 375 j)) ⟨RD_put TM13, (by rw [up_same, up_ne _ _ (by omega), eM13]; exact q0), (by rw [up_same, up_ne _ _ (by omega), eM13]; exact q1), (by rw [up_same, up_ne _ _ (by omega), eM13]; exact q2), (by rw [up_same, up_same]), (fun j hj => by rw [up_same, up_ne _ _ (by omega), eM13]; exact ql j hj)⟩ (fun M14 hM14 => ?_)
  obtain ⟨R14, q0, q1, q2, q3, ql⟩ := hM14
  refine g_aload_0 (pc := 75) C dX7_readsBooking_75 ?_
  refine g_dup (pc := 76) C dX7_readsBooking_76 rfl ?_
  refine g_geti (pc := 77) C fl_X7_readsBooking_143 kk369 dX7_readsBooking_77 ?_
  rw [R14.2.2.1 12 (by decide) (by decide), hz]
  refine g_aload_0 (pc := 80) C dX7_readsBooking_80 ?_
  refine g_getz (pc := 81) C fl_X7_readsBooking_161 kk369 dX7_readsBooking_81 ?_
  rw [R14.1]
  refine g_if_eq (pc := 84) (tgt := 91) C dX7_readsBooking_84 (by decide) (fun c84 => ?_) (fun c84 => ?_)
  · have w7 : ¬ s7.1 = true := if0 c84
    refine g_iconst (pc := 91) (v := 0) C dX7_readsBooking_91 rfl ?_
    refine g_iadd (pc := 92) C dX7_readsBooking_92 ?_
    rw [z_add]
    refine g_puti (pc := 93) C pf_X7_readsBooking_143 kk369 dX7_readsBooking_93 ?_
    exact g_vret (post := fun M1 P1 => P1 = P ∧ M1 369 10 = (if s7.1 = true then 1 else 0) ∧ M1 369 9 = nI s7.2 ∧ M1 369 12 = nI (if s7.1 = true then z + 1 else z) ∧ (∀ k, k ≠ 9 → k ≠ 10 → k ≠ 12 → M1 369 k = M 369 k) ∧ (∀ a, a ≠ 369 → a ≠ 375 → M1 a = M a) ∧ (∀ j, j < 4 * z → M1 375 j = M 375 j) ∧ ((s.1 = true ∧ dg5 t len s.2 → M1 375 (4 * z + 0) = sg t len s.2 - 48) ∧ (s2.1 = true ∧ dg5 t len s2.2 → M1 375 (4 * z + 1) = sg t len s2.2 - 48) ∧ (s4.1 = true ∧ ¬ pNum t len s4.2 (nI 99) = none → M1 375 (4 * z + 2) = pnV t len s4.2 (nI 99)) ∧ (s6.1 = true ∧ ¬ pNum t len s6.2 (nI 12) = none → M1 375 (4 * z + 3) = pnV t len s6.2 (nI 12)))) C F dX7_readsBooking_96 ⟨rfl, by rw [up_same, up_ne _ _ (by decide)]; exact R14.1, by rw [up_same, up_ne _ _ (by decide)]; exact R14.2.1, by rw [up_same, up_same]; rw [if_neg w7], fun k h9 h10 h12 => by rw [up_same, up_ne _ _ h12]; exact R14.2.2.1 k h9 h10, fun a g1 g2 => by rw [up_ne _ _ g1]; exact R14.2.2.2 a g1 g2, fun j hj => by rw [up_ne _ _ (by decide)]; exact ql j hj, fun w => by rw [up_ne _ _ (by decide), q0]; exact v1 w, fun w => by rw [up_ne _ _ (by decide), q1]; exact v3 w, fun w => by rw [up_ne _ _ (by decide), q2]; exact v5 w, fun w => by rw [up_ne _ _ (by decide), q3]; exact v7 w⟩
  · have w7 : s7.1 = true := if1 c84
    refine g_iconst (pc := 87) (v := 1) C dX7_readsBooking_87 rfl ?_
    refine g_goto (pc := 88) (tgt := 92) C dX7_readsBooking_88 (by decide) ?_
    refine g_iadd (pc := 92) C dX7_readsBooking_92 ?_
    rw [nI_1]
    refine g_puti (pc := 93) C pf_X7_readsBooking_143 kk369 dX7_readsBooking_93 ?_
    exact g_vret (post := fun M1 P1 => P1 = P ∧ M1 369 10 = (if s7.1 = true then 1 else 0) ∧ M1 369 9 = nI s7.2 ∧ M1 369 12 = nI (if s7.1 = true then z + 1 else z) ∧ (∀ k, k ≠ 9 → k ≠ 10 → k ≠ 12 → M1 369 k = M 369 k) ∧ (∀ a, a ≠ 369 → a ≠ 375 → M1 a = M a) ∧ (∀ j, j < 4 * z → M1 375 j = M 375 j) ∧ ((s.1 = true ∧ dg5 t len s.2 → M1 375 (4 * z + 0) = sg t len s.2 - 48) ∧ (s2.1 = true ∧ dg5 t len s2.2 → M1 375 (4 * z + 1) = sg t len s2.2 - 48) ∧ (s4.1 = true ∧ ¬ pNum t len s4.2 (nI 99) = none → M1 375 (4 * z + 2) = pnV t len s4.2 (nI 99)) ∧ (s6.1 = true ∧ ¬ pNum t len s6.2 (nI 12) = none → M1 375 (4 * z + 3) = pnV t len s6.2 (nI 12)))) C F dX7_readsBooking_96 ⟨rfl, by rw [up_same, up_ne _ _ (by decide)]; exact R14.1, by rw [up_same, up_ne _ _ (by decide)]; exact R14.2.1, by rw [up_same, up_same]; rw [if_pos w7], fun k h9 h10 h12 => by rw [up_same, up_ne _ _ h12]; exact R14.2.2.1 k h9 h10, fun a g1 g2 => by rw [up_ne _ _ g1]; exact R14.2.2.2 a g1 g2, fun j hj => by rw [up_ne _ _ (by decide)]; exact ql j hj, fun w => by rw [up_ne _ _ (by decide), q0]; exact v1 w, fun w => by rw [up_ne _ _ (by decide), q1]; exact v3 w, fun w => by rw [up_ne _ _ (by decide), q2]; exact v5 w, fun w => by rw [up_ne _ _ (by decide), q3]; exact v7 w⟩
