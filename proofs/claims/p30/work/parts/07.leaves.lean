set_option maxRecDepth 100000 in
set_option maxHeartbeats 1000000 in
theorem c_outside {l : Launch} {D : va_G} {cy : Nat → ClassId} {B : Nat} {M : MM} {P : PP} {x a b : Int32} : KI l D cy B yX6_outside wsX6_outside 0 0 [Value.int x, Value.int a, Value.int b] M P (qi (if x < a ∨ b < x then 1 else 0) M P) := by
  refine met_KI (cc := cX6_outside) (maxL := 3) (ret := (some .boolean)) (lv := [some (Value.int x), some (Value.int a), some (Value.int b)]) (by decide) rfl rfl rfl (Nat.le_of_ble_eq_true rfl) ?_
  intro X C F
  refine g_iload_0 (pc := 0) C dX6_outside_0 ?_
  refine g_iload_1 (pc := 1) C dX6_outside_1 ?_
  refine g_icmp_lt (pc := 2) (tgt := 10) C dX6_outside_2 (by decide) (fun c2 => ?_) (fun c2 => ?_)
  · refine g_iconst (pc := 10) (v := 1) C dX6_outside_10 rfl ?_
    refine g_goto (pc := 11) (tgt := 15) C dX6_outside_11 (by decide) ?_
    exact g_zret (post := qi (if x < a ∨ b < x then 1 else 0) M P) C F dX6_outside_15 (by first | exact Or.inl rfl | exact Or.inr rfl) ⟨(if_pos (Or.inl c2)).symm, rfl, rfl⟩
  · refine g_iload_0 (pc := 5) C dX6_outside_5 ?_
    refine g_iload_2 (pc := 6) C dX6_outside_6 ?_
    refine g_icmp_le (pc := 7) (tgt := 14) C dX6_outside_7 (by decide) (fun c7 => ?_) (fun c7 => ?_)
    · refine g_iconst (pc := 14) (v := 0) C dX6_outside_14 rfl ?_
      exact g_zret (post := qi (if x < a ∨ b < x then 1 else 0) M P) C F dX6_outside_15 (by first | exact Or.inl rfl | exact Or.inr rfl) ⟨(if_neg (fun h => h.elim c2 (fun h => Int32.not_le.mpr h c7))).symm, rfl, rfl⟩
    · refine g_iconst (pc := 10) (v := 1) C dX6_outside_10 rfl ?_
      refine g_goto (pc := 11) (tgt := 15) C dX6_outside_11 (by decide) ?_
      exact g_zret (post := qi (if x < a ∨ b < x then 1 else 0) M P) C F dX6_outside_15 (by first | exact Or.inl rfl | exact Or.inr rfl) ⟨(if_pos (Or.inr (Int32.not_le.mp c7))).symm, rfl, rfl⟩

set_option maxRecDepth 100000 in
set_option maxHeartbeats 1000000 in
theorem c_seasonOf {l : Launch} {D : va_G} {cy : Nat → ClassId} {B : Nat} {M : MM} {P : PP} {x : Int32} : KI l D cy B yX6_seasonOf wsX6_seasonOf 0 0 [Value.int x] M P (qi (seaI x) M P) := by
  refine met_KI (cc := cX6_seasonOf) (maxL := 1) (ret := (some .int)) (lv := [some (Value.int x)]) (by decide) rfl rfl rfl (Nat.le_of_ble_eq_true rfl) ?_
  intro X C F
  refine g_iload_0 (pc := 0) C dX6_seasonOf_0 ?_
  refine g_sipush (pc := 1) (v := 360) C dX6_seasonOf_1 rfl ?_
  refine g_irem (pc := 4) C dX6_seasonOf_4 (by decide) ?_
  refine g_bipush (pc := 5) (v := 90) C dX6_seasonOf_5 rfl ?_
  refine g_idiv (pc := 7) C dX6_seasonOf_7 (by decide) ?_
  exact g_iret (post := qi (seaI x) M P) C F dX6_seasonOf_8 ⟨rfl, rfl, rfl⟩

set_option maxRecDepth 100000 in
set_option maxHeartbeats 1000000 in
theorem c_isWet {l : Launch} {D : va_G} {cy : Nat → ClassId} {B : Nat} {M : MM} {P : PP} {s : Nat} {f : FF} {d : Int32} (hs : isSt s) (hr : Rp M P s f) : KI l D cy B yX4_isWet wsX4_isWet 0 0 [Value.ref (B + s), Value.int d] M P (qi (wet f d) M P) := by
  refine met_KI (cc := cX4_isWet) (maxL := 2) (ret := (some .boolean)) (lv := [some (Value.ref (B + s)), some (Value.int d)]) (by decide) rfl rfl rfl (Nat.le_of_ble_eq_true rfl) ?_
  intro X C F
  refine g_sipush (pc := 0) (v := 421) C dX4_isWet_0 rfl ?_
  refine g_iload_1 (pc := 3) C dX4_isWet_3 ?_
  refine g_aload_0 (pc := 4) C dX4_isWet_4 ?_
  refine g_geti (pc := 5) C fl_X4_isWet_86 (kk_s0 hs) dX4_isWet_5 ?_
  rw [hr.1.2.2.2.2.2.2.2.2.2.1]
  refine g_iadd (pc := 8) C dX4_isWet_8 ?_
  refine g_imul (pc := 9) C dX4_isWet_9 ?_
  refine g_sipush (pc := 10) (v := 1663) C dX4_isWet_10 rfl ?_
  refine g_iadd (pc := 13) C dX4_isWet_13 ?_
  refine g_sipush (pc := 14) (v := 10000) C dX4_isWet_14 rfl ?_
  refine g_irem (pc := 17) C dX4_isWet_17 (by decide) ?_
  refine g_bipush (pc := 18) (v := 16) C dX4_isWet_18 rfl ?_
  refine g_idiv (pc := 20) C dX4_isWet_20 (by decide) ?_
  refine g_iconst (pc := 21) (v := 4) C dX4_isWet_21 rfl ?_
  refine g_irem (pc := 22) C dX4_isWet_22 (by decide) ?_
  refine g_if_ne (pc := 23) (tgt := 30) C dX4_isWet_23 (by decide) (fun c23 => ?_) (fun c23 => ?_)
  · refine g_iconst (pc := 30) (v := 0) C dX4_isWet_30 rfl ?_
    exact g_zret (post := qi (wet f d) M P) C F dX4_isWet_31 (by first | exact Or.inl rfl | exact Or.inr rfl) ⟨(if_neg c23).symm, rfl, rfl⟩
  · refine g_iconst (pc := 26) (v := 1) C dX4_isWet_26 rfl ?_
    refine g_goto (pc := 27) (tgt := 31) C dX4_isWet_27 (by decide) ?_
    exact g_zret (post := qi (wet f d) M P) C F dX4_isWet_31 (by first | exact Or.inl rfl | exact Or.inr rfl) ⟨(if_pos c23).symm, rfl, rfl⟩

set_option maxRecDepth 100000 in
set_option maxHeartbeats 1000000 in
theorem c_farmerAt {l : Launch} {D : va_G} {cy : Nat → ClassId} {B : Nat} {M : MM} {P : PP} {s i : Nat} {x : Int32} (hs : isSt s) (hp : PS P s) (hx : x = nI i) (hi : i < 6) : KQ l D cy B yX4_farmerAt wsX4_farmerAt 0 0 [Value.ref (B + s), Value.int x] M P (qi (some (s + 2 + i)) M P) := by
  refine met_KQ (cc := cX4_farmerAt) (maxL := 2) (ret := (some (.object "MachineRing$Farmer"))) (lv := [some (Value.ref (B + s)), some (Value.int x)]) (by decide) rfl rfl rfl (Nat.le_of_ble_eq_true rfl) ?_
  intro X C F
  refine g_iload_1 (pc := 0) C dX4_farmerAt_0 ?_
  refine g_if_lt (pc := 1) (tgt := 22) C dX4_farmerAt_1 (by decide) (fun c1 => ?_) (fun c1 => ?_)
  · exact absurd c1 (by rw [hx]; exact nI_pos (by omega))
  · refine g_iload_1 (pc := 4) C dX4_farmerAt_4 ?_
    refine g_aload_0 (pc := 5) C dX4_farmerAt_5 ?_
    refine g_getr (pc := 6) C hp.r0 fl_X4_farmerAt_11 (kk_s0 hs) dX4_farmerAt_6 ?_
    refine g_alen (pc := 9) C (kk_s1 hs) (ln_s1 hs) rfl dX4_farmerAt_9 ?_
    refine g_icmp_ge (pc := 10) (tgt := 22) C dX4_farmerAt_10 (by decide) (fun c10 => ?_) (fun c10 => ?_)
    · exact absurd c10 (by rw [hx]; exact nI_ge hi (by decide))
    · refine g_aload_0 (pc := 13) C dX4_farmerAt_13 ?_
      refine g_getr (pc := 14) C hp.r0 fl_X4_farmerAt_11 (kk_s0 hs) dX4_farmerAt_14 ?_
      refine g_iload_1 (pc := 17) C dX4_farmerAt_17 ?_
      refine g_aald (pc := 18) C (kk_s1 hs) rfl hx (ln_s1 hs) hi (hp.rf hi) dX4_farmerAt_18 ?_
      refine g_goto (pc := 19) (tgt := 23) C dX4_farmerAt_19 (by decide) ?_
      exact g_aret (post := qi (some (s + 2 + i)) M P) C F dX4_farmerAt_23 ⟨rfl, rfl, rfl⟩

set_option maxRecDepth 100000 in
set_option maxHeartbeats 1000000 in
theorem c_farmerAtN {l : Launch} {D : va_G} {cy : Nat → ClassId} {B : Nat} {M : MM} {P : PP} {s : Nat} {x : Int32} (hs : isSt s) (hp : PS P s) (hx : ∀ i, i < 6 → x ≠ nI i) : KQ l D cy B yX4_farmerAt wsX4_farmerAt 0 0 [Value.ref (B + s), Value.int x] M P (qi none M P) := by
  refine met_KQ (cc := cX4_farmerAt) (maxL := 2) (ret := (some (.object "MachineRing$Farmer"))) (lv := [some (Value.ref (B + s)), some (Value.int x)]) (by decide) rfl rfl rfl (Nat.le_of_ble_eq_true rfl) ?_
  intro X C F
  refine g_iload_1 (pc := 0) C dX4_farmerAt_0 ?_
  refine g_if_lt (pc := 1) (tgt := 22) C dX4_farmerAt_1 (by decide) (fun c1 => ?_) (fun c1 => ?_)
  · refine g_null (pc := 22) C dX4_farmerAt_22 ?_
    exact g_nret (post := qi none M P) C F dX4_farmerAt_23 ⟨rfl, rfl, rfl⟩
  · refine g_iload_1 (pc := 4) C dX4_farmerAt_4 ?_
    refine g_aload_0 (pc := 5) C dX4_farmerAt_5 ?_
    refine g_getr (pc := 6) C hp.r0 fl_X4_farmerAt_11 (kk_s0 hs) dX4_farmerAt_6 ?_
    refine g_alen (pc := 9) C (kk_s1 hs) (ln_s1 hs) rfl dX4_farmerAt_9 ?_
    refine g_icmp_ge (pc := 10) (tgt := 22) C dX4_farmerAt_10 (by decide) (fun c10 => ?_) (fun c10 => ?_)
    · refine g_null (pc := 22) C dX4_farmerAt_22 ?_
      exact g_nret (post := qi none M P) C F dX4_farmerAt_23 ⟨rfl, rfl, rfl⟩
    · obtain ⟨i, hi, e⟩ := i_nat (by decide) c1 c10
      exact absurd e (hx i hi)

set_option maxRecDepth 100000 in
set_option maxHeartbeats 1000000 in
theorem c_machineAt0 {l : Launch} {D : va_G} {cy : Nat → ClassId} {B : Nat} {M : MM} {P : PP} {s i n : Nat} {x : Int32} (hs : isSt s) (hp : PS P s) (hc : M s 3 = nI n) (h30 : n ≤ 6) (hx : x = nI i) (hi : i < n) : KQ l D cy B yX4_machineAt wsX4_machineAt 0 0 [Value.ref (B + s), Value.int x] M P (qi (some (s + 9 + 2 * i)) M P) := by
  refine met_KQ (cc := cX4_machineAt) (maxL := 2) (ret := (some (.object "MachineRing$Machine"))) (lv := [some (Value.ref (B + s)), some (Value.int x)]) (by decide) rfl rfl rfl (Nat.le_of_ble_eq_true rfl) ?_
  intro X C F
  refine g_iload_1 (pc := 0) C dX4_machineAt_0 ?_
  refine g_if_lt (pc := 1) (tgt := 30) C dX4_machineAt_1 (by decide) (fun c1 => ?_) (fun c1 => ?_)
  · exact absurd c1 (by rw [hx]; exact nI_pos (by omega))
  · refine g_iload_1 (pc := 4) C dX4_machineAt_4 ?_
    refine g_aload_0 (pc := 5) C dX4_machineAt_5 ?_
    refine g_geti (pc := 6) C fl_X4_machineAt_51 (kk_s0 hs) dX4_machineAt_6 ?_
    rw [hc]
    refine g_icmp_ge (pc := 9) (tgt := 30) C dX4_machineAt_9 (by decide) (fun c9 => ?_) (fun c9 => ?_)
    · exact absurd c9 (by rw [hx]; exact nI_ge hi (by omega))
    · refine g_iload_1 (pc := 12) C dX4_machineAt_12 ?_
      refine g_aload_0 (pc := 13) C dX4_machineAt_13 ?_
      refine g_getr (pc := 14) C hp.r1 fl_X4_machineAt_20 (kk_s0 hs) dX4_machineAt_14 ?_
      refine g_alen (pc := 17) C (kk_s8 hs) (ln_s8 hs) rfl dX4_machineAt_17 ?_
      refine g_icmp_ge (pc := 18) (tgt := 30) C dX4_machineAt_18 (by decide) (fun c18 => ?_) (fun c18 => ?_)
      · exact absurd c18 (by rw [hx]; exact nI_ge (by omega) (by decide))
      · refine g_aload_0 (pc := 21) C dX4_machineAt_21 ?_
        refine g_getr (pc := 22) C hp.r1 fl_X4_machineAt_20 (kk_s0 hs) dX4_machineAt_22 ?_
        refine g_iload_1 (pc := 25) C dX4_machineAt_25 ?_
        refine g_aald (pc := 26) C (kk_s8 hs) rfl hx (ln_s8 hs) (by omega) (hp.rm (by omega)) dX4_machineAt_26 ?_
        refine g_goto (pc := 27) (tgt := 31) C dX4_machineAt_27 (by decide) ?_
        exact g_aret (post := qi (some (s + 9 + 2 * i)) M P) C F dX4_machineAt_31 ⟨rfl, rfl, rfl⟩

set_option maxRecDepth 100000 in
set_option maxHeartbeats 1000000 in
theorem c_machineAtN0 {l : Launch} {D : va_G} {cy : Nat → ClassId} {B : Nat} {M : MM} {P : PP} {s n : Nat} {x : Int32} (hs : isSt s) (hp : PS P s) (hc : M s 3 = nI n) (h30 : n ≤ 6) (hx : ∀ i, i < n → x ≠ nI i) : KQ l D cy B yX4_machineAt wsX4_machineAt 0 0 [Value.ref (B + s), Value.int x] M P (qi none M P) := by
  refine met_KQ (cc := cX4_machineAt) (maxL := 2) (ret := (some (.object "MachineRing$Machine"))) (lv := [some (Value.ref (B + s)), some (Value.int x)]) (by decide) rfl rfl rfl (Nat.le_of_ble_eq_true rfl) ?_
  intro X C F
  refine g_iload_1 (pc := 0) C dX4_machineAt_0 ?_
  refine g_if_lt (pc := 1) (tgt := 30) C dX4_machineAt_1 (by decide) (fun c1 => ?_) (fun c1 => ?_)
  · refine g_null (pc := 30) C dX4_machineAt_30 ?_
    exact g_nret (post := qi none M P) C F dX4_machineAt_31 ⟨rfl, rfl, rfl⟩
  · refine g_iload_1 (pc := 4) C dX4_machineAt_4 ?_
    refine g_aload_0 (pc := 5) C dX4_machineAt_5 ?_
    refine g_geti (pc := 6) C fl_X4_machineAt_51 (kk_s0 hs) dX4_machineAt_6 ?_
    rw [hc]
    refine g_icmp_ge (pc := 9) (tgt := 30) C dX4_machineAt_9 (by decide) (fun c9 => ?_) (fun c9 => ?_)
    · refine g_null (pc := 30) C dX4_machineAt_30 ?_
      exact g_nret (post := qi none M P) C F dX4_machineAt_31 ⟨rfl, rfl, rfl⟩
    · obtain ⟨i, hi, e⟩ := i_nat (by omega) c1 c9
      exact absurd e (hx i hi)

theorem c_machineAt {l : Launch} {D : va_G} {cy : Nat → ClassId} {B : Nat} {M : MM} {P : PP} {s c q : Nat} {f : FF} {x : Int32} (hs : isSt s) (hp : PS P s) (hr : Rp M P s f) (hw : Wf c q f) {i : Nat} (hx : x = nI i) (hi : i < mn f) : KQ l D cy B yX4_machineAt wsX4_machineAt 0 0 [Value.ref (B + s), Value.int x] M P (qi (some (s + 9 + 2 * i)) M P) := c_machineAt0 hs hp (hr.1.1.trans hw.m) hw.m6 hx hi

theorem c_machineAtN {l : Launch} {D : va_G} {cy : Nat → ClassId} {B : Nat} {M : MM} {P : PP} {s c q : Nat} {f : FF} {x : Int32} (hs : isSt s) (hp : PS P s) (hr : Rp M P s f) (hw : Wf c q f) (hx : ∀ i, i < mn f → x ≠ nI i) : KQ l D cy B yX4_machineAt wsX4_machineAt 0 0 [Value.ref (B + s), Value.int x] M P (qi none M P) := c_machineAtN0 hs hp (hr.1.1.trans hw.m) hw.m6 hx

set_option maxRecDepth 100000 in
set_option maxHeartbeats 1000000 in
theorem c_bookingAt0 {l : Launch} {D : va_G} {cy : Nat → ClassId} {B : Nat} {M : MM} {P : PP} {s i n : Nat} {x : Int32} (hs : isSt s) (hp : PS P s) (hc : M s 4 = nI n) (h30 : n ≤ 30) (hx : x = nI i) (hi : i < n) : KQ l D cy B yX4_bookingAt wsX4_bookingAt 0 0 [Value.ref (B + s), Value.int x] M P (qi (some (P (s + 21) i)) M P) := by
  refine met_KQ (cc := cX4_bookingAt) (maxL := 2) (ret := (some (.object "MachineRing$Booking"))) (lv := [some (Value.ref (B + s)), some (Value.int x)]) (by decide) rfl rfl rfl (Nat.le_of_ble_eq_true rfl) ?_
  intro X C F
  refine g_iload_1 (pc := 0) C dX4_bookingAt_0 ?_
  refine g_if_lt (pc := 1) (tgt := 30) C dX4_bookingAt_1 (by decide) (fun c1 => ?_) (fun c1 => ?_)
  · exact absurd c1 (by rw [hx]; exact nI_pos (by omega))
  · refine g_iload_1 (pc := 4) C dX4_bookingAt_4 ?_
    refine g_aload_0 (pc := 5) C dX4_bookingAt_5 ?_
    refine g_geti (pc := 6) C fl_X4_bookingAt_61 (kk_s0 hs) dX4_bookingAt_6 ?_
    rw [hc]
    refine g_icmp_ge (pc := 9) (tgt := 30) C dX4_bookingAt_9 (by decide) (fun c9 => ?_) (fun c9 => ?_)
    · exact absurd c9 (by rw [hx]; exact nI_ge hi (by omega))
    · refine g_iload_1 (pc := 12) C dX4_bookingAt_12 ?_
      refine g_aload_0 (pc := 13) C dX4_bookingAt_13 ?_
      refine g_getr (pc := 14) C hp.r2 fl_X4_bookingAt_27 (kk_s0 hs) dX4_bookingAt_14 ?_
      refine g_alen (pc := 17) C (kk_s21 hs) (ln_s21 hs) rfl dX4_bookingAt_17 ?_
      refine g_icmp_ge (pc := 18) (tgt := 30) C dX4_bookingAt_18 (by decide) (fun c18 => ?_) (fun c18 => ?_)
      · exact absurd c18 (by rw [hx]; exact nI_ge (by omega) (by decide))
      · refine g_aload_0 (pc := 21) C dX4_bookingAt_21 ?_
        refine g_getr (pc := 22) C hp.r2 fl_X4_bookingAt_27 (kk_s0 hs) dX4_bookingAt_22 ?_
        refine g_iload_1 (pc := 25) C dX4_bookingAt_25 ?_
        refine g_aald (pc := 26) C (kk_s21 hs) rfl hx (ln_s21 hs) (by omega) (hp.rb (by omega)) dX4_bookingAt_26 ?_
        refine g_goto (pc := 27) (tgt := 31) C dX4_bookingAt_27 (by decide) ?_
        exact g_aret (post := qi (some (P (s + 21) i)) M P) C F dX4_bookingAt_31 ⟨rfl, rfl, rfl⟩

set_option maxRecDepth 100000 in
set_option maxHeartbeats 1000000 in
theorem c_bookingAtN0 {l : Launch} {D : va_G} {cy : Nat → ClassId} {B : Nat} {M : MM} {P : PP} {s n : Nat} {x : Int32} (hs : isSt s) (hp : PS P s) (hc : M s 4 = nI n) (h30 : n ≤ 30) (hx : ∀ i, i < n → x ≠ nI i) : KQ l D cy B yX4_bookingAt wsX4_bookingAt 0 0 [Value.ref (B + s), Value.int x] M P (qi none M P) := by
  refine met_KQ (cc := cX4_bookingAt) (maxL := 2) (ret := (some (.object "MachineRing$Booking"))) (lv := [some (Value.ref (B + s)), some (Value.int x)]) (by decide) rfl rfl rfl (Nat.le_of_ble_eq_true rfl) ?_
  intro X C F
  refine g_iload_1 (pc := 0) C dX4_bookingAt_0 ?_
  refine g_if_lt (pc := 1) (tgt := 30) C dX4_bookingAt_1 (by decide) (fun c1 => ?_) (fun c1 => ?_)
  · refine g_null (pc := 30) C dX4_bookingAt_30 ?_
    exact g_nret (post := qi none M P) C F dX4_bookingAt_31 ⟨rfl, rfl, rfl⟩
  · refine g_iload_1 (pc := 4) C dX4_bookingAt_4 ?_
    refine g_aload_0 (pc := 5) C dX4_bookingAt_5 ?_
    refine g_geti (pc := 6) C fl_X4_bookingAt_61 (kk_s0 hs) dX4_bookingAt_6 ?_
    rw [hc]
    refine g_icmp_ge (pc := 9) (tgt := 30) C dX4_bookingAt_9 (by decide) (fun c9 => ?_) (fun c9 => ?_)
    · refine g_null (pc := 30) C dX4_bookingAt_30 ?_
      exact g_nret (post := qi none M P) C F dX4_bookingAt_31 ⟨rfl, rfl, rfl⟩
    · obtain ⟨i, hi, e⟩ := i_nat (by omega) c1 c9
      exact absurd e (hx i hi)

theorem c_bookingAt {l : Launch} {D : va_G} {cy : Nat → ClassId} {B : Nat} {M : MM} {P : PP} {s c q : Nat} {f : FF} {x : Int32} (hs : isSt s) (hp : PS P s) (hr : Rp M P s f) (hw : Wf c q f) {i : Nat} (hx : x = nI i) (hi : i < sn f) : KQ l D cy B yX4_bookingAt wsX4_bookingAt 0 0 [Value.ref (B + s), Value.int x] M P (qi (some (P (s + 21) i)) M P) := c_bookingAt0 hs hp (hr.1.2.1.trans hw.s) hw.s30 hx hi

theorem c_bookingAtN {l : Launch} {D : va_G} {cy : Nat → ClassId} {B : Nat} {M : MM} {P : PP} {s c q : Nat} {f : FF} {x : Int32} (hs : isSt s) (hp : PS P s) (hr : Rp M P s f) (hw : Wf c q f) (hx : ∀ i, i < sn f → x ≠ nI i) : KQ l D cy B yX4_bookingAt wsX4_bookingAt 0 0 [Value.ref (B + s), Value.int x] M P (qi none M P) := c_bookingAtN0 hs hp (hr.1.2.1.trans hw.s) hw.s30 hx

set_option maxRecDepth 100000 in
set_option maxHeartbeats 1000000 in
theorem c_isFor {l : Launch} {D : va_G} {cy : Nat → ClassId} {B : Nat} {M : MM} {P : PP} {b : Nat} {m d : Int32} (hb : kk 369 b 0) : KI l D cy B yX0_isFor wsX0_isFor 0 0 [Value.ref (B + b), Value.int m, Value.int d] M P (qi (if M b 2 = m ∧ M b 3 = d then 1 else 0) M P) := by
  refine met_KI (cc := cX0_isFor) (maxL := 3) (ret := (some .boolean)) (lv := [some (Value.ref (B + b)), some (Value.int m), some (Value.int d)]) (by decide) rfl rfl rfl (Nat.le_of_ble_eq_true rfl) ?_
  intro X C F
  refine g_aload_0 (pc := 0) C dX0_isFor_0 ?_
  refine g_geti (pc := 1) C fl_X0_isFor_16 (by assumption) dX0_isFor_1 ?_
  refine g_iload_1 (pc := 4) C dX0_isFor_4 ?_
  refine g_icmp_ne (pc := 5) (tgt := 20) C dX0_isFor_5 (by decide) (fun c5 => ?_) (fun c5 => ?_)
  · refine g_iconst (pc := 20) (v := 0) C dX0_isFor_20 rfl ?_
    exact g_zret (post := qi (if M b 2 = m ∧ M b 3 = d then 1 else 0) M P) C F dX0_isFor_21 (by first | exact Or.inl rfl | exact Or.inr rfl) ⟨(if_neg (fun h => c5 h.1)).symm, rfl, rfl⟩
  · refine g_aload_0 (pc := 8) C dX0_isFor_8 ?_
    refine g_geti (pc := 9) C fl_X0_isFor_19 (by assumption) dX0_isFor_9 ?_
    refine g_iload_2 (pc := 12) C dX0_isFor_12 ?_
    refine g_icmp_ne (pc := 13) (tgt := 20) C dX0_isFor_13 (by decide) (fun c13 => ?_) (fun c13 => ?_)
    · refine g_iconst (pc := 20) (v := 0) C dX0_isFor_20 rfl ?_
      exact g_zret (post := qi (if M b 2 = m ∧ M b 3 = d then 1 else 0) M P) C F dX0_isFor_21 (by first | exact Or.inl rfl | exact Or.inr rfl) ⟨(if_neg (fun h => c13 h.2)).symm, rfl, rfl⟩
    · refine g_iconst (pc := 16) (v := 1) C dX0_isFor_16 rfl ?_
      refine g_goto (pc := 17) (tgt := 21) C dX0_isFor_17 (by decide) ?_
      exact g_zret (post := qi (if M b 2 = m ∧ M b 3 = d then 1 else 0) M P) C F dX0_isFor_21 (by first | exact Or.inl rfl | exact Or.inr rfl) ⟨(if_pos ⟨c5, c13⟩).symm, rfl, rfl⟩
