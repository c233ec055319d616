set_option maxRecDepth 100000 in
set_option maxHeartbeats 1000000 in
theorem c7_in {l : Launch} {D : va_G} {cy : Nat → ClassId} {B : Nat} {M : MM} {P : PP} {x a b : Int32} : KI l D cy B yX7_in wsX7_in 0 0 [Value.int x, Value.int a, Value.int b] M P (qi (if a ≤ x ∧ x ≤ b then 1 else 0) M P) := by
  refine met_KI (cc := cX7_in) (maxL := 3) (ret := (some .boolean)) (lv := [some (Value.int x), some (Value.int a), some (Value.int b)]) (by decide) rfl rfl rfl (Nat.le_of_ble_eq_true rfl) ?_
  intro X C F
  refine g_iload_0 (pc := 0) C dX7_in_0 ?_
  refine g_iload_1 (pc := 1) C dX7_in_1 ?_
  refine g_icmp_lt (pc := 2) (tgt := 14) C dX7_in_2 (by decide) (fun c2 => ?_) (fun c2 => ?_)
  · refine g_iconst (pc := 14) (v := 0) C dX7_in_14 rfl ?_
    exact g_zret (post := qi (if a ≤ x ∧ x ≤ b then 1 else 0) M P) C F dX7_in_15 (by first | exact Or.inl rfl | exact Or.inr rfl) ⟨(if_neg (fun h => Int32.not_lt.mpr h.1 c2)).symm, rfl, rfl⟩
  · refine g_iload_0 (pc := 5) C dX7_in_5 ?_
    refine g_iload_2 (pc := 6) C dX7_in_6 ?_
    refine g_icmp_gt (pc := 7) (tgt := 14) C dX7_in_7 (by decide) (fun c7 => ?_) (fun c7 => ?_)
    · refine g_iconst (pc := 14) (v := 0) C dX7_in_14 rfl ?_
      exact g_zret (post := qi (if a ≤ x ∧ x ≤ b then 1 else 0) M P) C F dX7_in_15 (by first | exact Or.inl rfl | exact Or.inr rfl) ⟨(if_neg (fun h => Int32.not_lt.mpr h.2 c7)).symm, rfl, rfl⟩
    · refine g_iconst (pc := 10) (v := 1) C dX7_in_10 rfl ?_
      refine g_goto (pc := 11) (tgt := 15) C dX7_in_11 (by decide) ?_
      exact g_zret (post := qi (if a ≤ x ∧ x ≤ b then 1 else 0) M P) C F dX7_in_15 (by first | exact Or.inl rfl | exact Or.inr rfl) ⟨(if_pos ⟨Int32.not_lt.mp c2, Int32.not_lt.mp c7⟩).symm, rfl, rfl⟩

set_option maxRecDepth 100000 in
set_option maxHeartbeats 1000000 in
theorem c7_ofFarmer {l : Launch} {D : va_G} {cy : Nat → ClassId} {B : Nat} {M : MM} {P : PP} (hm : PMd P) {x y : Int32} {i k : Nat} (hx : x = nI i) (hy : y = nI k) (hi : i < 6) (hk : k < 6) : KI l D cy B yX7_ofFarmer wsX7_ofFarmer 0 0 [Value.ref (B + 369), Value.int x, Value.int y] M P (qi (M 370 (13 + 6 * i + k)) M P) := by
  refine met_KI (cc := cX7_ofFarmer) (maxL := 3) (ret := (some .int)) (lv := [some (Value.ref (B + 369)), some (Value.int x), some (Value.int y)]) (by decide) rfl rfl rfl (Nat.le_of_ble_eq_true rfl) ?_
  intro X C F
  refine g_aload_0 (pc := 0) C dX7_ofFarmer_0 ?_
  refine g_getr (pc := 1) C hm.s fl_X7_ofFarmer_7 kk369 dX7_ofFarmer_1 ?_
  refine g_bipush (pc := 4) (v := 13) C dX7_ofFarmer_4 rfl ?_
  refine g_bipush (pc := 6) (v := 6) C dX7_ofFarmer_6 rfl ?_
  refine g_iload_1 (pc := 8) C dX7_ofFarmer_8 ?_
  refine g_imul (pc := 9) C dX7_ofFarmer_9 ?_
  refine g_iadd (pc := 10) C dX7_ofFarmer_10 ?_
  refine g_iload_2 (pc := 11) C dX7_ofFarmer_11 ?_
  refine g_iadd (pc := 12) C dX7_ofFarmer_12 ?_
  refine g_iald (pc := 13) (j := (13 + 6 * i + k)) C kk370 (by rw [hx, hy]; exact ix3 13 6 i k) ln370 (by omega) dX7_ofFarmer_13 ?_
  exact g_iret (post := qi (M 370 (13 + 6 * i + k)) M P) C F dX7_ofFarmer_14 ⟨rfl, rfl, rfl⟩

set_option maxRecDepth 100000 in
set_option maxHeartbeats 1000000 in
theorem c7_addFarmer {l : Launch} {D : va_G} {cy : Nat → ClassId} {B : Nat} {M : MM} {P : PP} (hm : PMd P) {x y v : Int32} {i k : Nat} (hx : x = nI i) (hy : y = nI k) (hi : i < 6) (hk : k < 6) : KV l D cy B yX7_addFarmer wsX7_addFarmer 0 0 [Value.ref (B + 369), Value.int x, Value.int y, Value.int v] M P (qv (up M 370 (up (M 370) (13 + 6 * i + k) (M 370 (13 + 6 * i + k) + v))) P) := by
  refine met_KV (cc := cX7_addFarmer) (maxL := 4) (ret := none) (lv := [some (Value.ref (B + 369)), some (Value.int x), some (Value.int y), some (Value.int v)]) (by decide) rfl rfl rfl (Nat.le_of_ble_eq_true rfl) ?_
  intro X C F
  refine g_aload_0 (pc := 0) C dX7_addFarmer_0 ?_
  refine g_getr (pc := 1) C hm.s fl_X7_addFarmer_7 kk369 dX7_addFarmer_1 ?_
  refine g_bipush (pc := 4) (v := 13) C dX7_addFarmer_4 rfl ?_
  refine g_bipush (pc := 6) (v := 6) C dX7_addFarmer_6 rfl ?_
  refine g_iload_1 (pc := 8) C dX7_addFarmer_8 ?_
  refine g_imul (pc := 9) C dX7_addFarmer_9 ?_
  refine g_iadd (pc := 10) C dX7_addFarmer_10 ?_
  refine g_iload_2 (pc := 11) C dX7_addFarmer_11 ?_
  refine g_iadd (pc := 12) C dX7_addFarmer_12 ?_
  refine g_dup2 (pc := 13) C dX7_addFarmer_13 rfl rfl ?_
  refine g_iald (pc := 14) (j := (13 + 6 * i + k)) C kk370 (by rw [hx, hy]; exact ix3 13 6 i k) ln370 (by omega) dX7_addFarmer_14 ?_
  refine g_iload_3 (pc := 15) C dX7_addFarmer_15 ?_
  refine g_iadd (pc := 16) C dX7_addFarmer_16 ?_
  refine g_iast (pc := 17) (j := (13 + 6 * i + k)) C kk370 (by rw [hx, hy]; exact ix3 13 6 i k) ln370 (by omega) dX7_addFarmer_17 ?_
  exact g_vret (post := qv (up M 370 (up (M 370) (13 + 6 * i + k) (M 370 (13 + 6 * i + k) + v))) P) C F dX7_addFarmer_18 ⟨rfl, rfl⟩

set_option maxRecDepth 100000 in
set_option maxHeartbeats 1000000 in
theorem c7_ofMachine {l : Launch} {D : va_G} {cy : Nat → ClassId} {B : Nat} {M : MM} {P : PP} (hm : PMd P) {x y : Int32} {i k : Nat} (hx : x = nI i) (hy : y = nI k) (hi : i < 6) (hk : k < 14) : KI l D cy B yX7_ofMachine wsX7_ofMachine 0 0 [Value.ref (B + 369), Value.int x, Value.int y] M P (qi (M 370 (49 + 14 * i + k)) M P) := by
  refine met_KI (cc := cX7_ofMachine) (maxL := 3) (ret := (some .int)) (lv := [some (Value.ref (B + 369)), some (Value.int x), some (Value.int y)]) (by decide) rfl rfl rfl (Nat.le_of_ble_eq_true rfl) ?_
  intro X C F
  refine g_aload_0 (pc := 0) C dX7_ofMachine_0 ?_
  refine g_getr (pc := 1) C hm.s fl_X7_ofMachine_7 kk369 dX7_ofMachine_1 ?_
  refine g_bipush (pc := 4) (v := 49) C dX7_ofMachine_4 rfl ?_
  refine g_bipush (pc := 6) (v := 14) C dX7_ofMachine_6 rfl ?_
  refine g_iload_1 (pc := 8) C dX7_ofMachine_8 ?_
  refine g_imul (pc := 9) C dX7_ofMachine_9 ?_
  refine g_iadd (pc := 10) C dX7_ofMachine_10 ?_
  refine g_iload_2 (pc := 11) C dX7_ofMachine_11 ?_
  refine g_iadd (pc := 12) C dX7_ofMachine_12 ?_
  refine g_iald (pc := 13) (j := (49 + 14 * i + k)) C kk370 (by rw [hx, hy]; exact ix3 49 14 i k) ln370 (by omega) dX7_ofMachine_13 ?_
  exact g_iret (post := qi (M 370 (49 + 14 * i + k)) M P) C F dX7_ofMachine_14 ⟨rfl, rfl, rfl⟩

set_option maxRecDepth 100000 in
set_option maxHeartbeats 1000000 in
theorem c7_layMachine {l : Launch} {D : va_G} {cy : Nat → ClassId} {B : Nat} {M : MM} {P : PP} (hm : PMd P) {x y v : Int32} {i k : Nat} (hx : x = nI i) (hy : y = nI k) (hi : i < 6) (hk : k < 14) : KV l D cy B yX7_layMachine wsX7_layMachine 0 0 [Value.ref (B + 369), Value.int x, Value.int y, Value.int v] M P (qv (up M 370 (up (M 370) (49 + 14 * i + k) v)) P) := by
  refine met_KV (cc := cX7_layMachine) (maxL := 4) (ret := none) (lv := [some (Value.ref (B + 369)), some (Value.int x), some (Value.int y), some (Value.int v)]) (by decide) rfl rfl rfl (Nat.le_of_ble_eq_true rfl) ?_
  intro X C F
  refine g_aload_0 (pc := 0) C dX7_layMachine_0 ?_
  refine g_getr (pc := 1) C hm.s fl_X7_layMachine_7 kk369 dX7_layMachine_1 ?_
  refine g_bipush (pc := 4) (v := 49) C dX7_layMachine_4 rfl ?_
  refine g_bipush (pc := 6) (v := 14) C dX7_layMachine_6 rfl ?_
  refine g_iload_1 (pc := 8) C dX7_layMachine_8 ?_
  refine g_imul (pc := 9) C dX7_layMachine_9 ?_
  refine g_iadd (pc := 10) C dX7_layMachine_10 ?_
  refine g_iload_2 (pc := 11) C dX7_layMachine_11 ?_
  refine g_iadd (pc := 12) C dX7_layMachine_12 ?_
  refine g_iload_3 (pc := 13) C dX7_layMachine_13 ?_
  refine g_iast (pc := 14) (j := (49 + 14 * i + k)) C kk370 (by rw [hx, hy]; exact ix3 49 14 i k) ln370 (by omega) dX7_layMachine_14 ?_
  exact g_vret (post := qv (up M 370 (up (M 370) (49 + 14 * i + k) v)) P) C F dX7_layMachine_15 ⟨rfl, rfl⟩

set_option maxRecDepth 100000 in
set_option maxHeartbeats 1000000 in
theorem c7_ofBooking {l : Launch} {D : va_G} {cy : Nat → ClassId} {B : Nat} {M : MM} {P : PP} (hm : PMd P) {x y : Int32} {i k : Nat} (hx : x = nI i) (hy : y = nI k) (hi : i < 30) (hk : k < 6) : KI l D cy B yX7_ofBooking wsX7_ofBooking 0 0 [Value.ref (B + 369), Value.int x, Value.int y] M P (qi (M 370 (133 + 6 * i + k)) M P) := by
  refine met_KI (cc := cX7_ofBooking) (maxL := 3) (ret := (some .int)) (lv := [some (Value.ref (B + 369)), some (Value.int x), some (Value.int y)]) (by decide) rfl rfl rfl (Nat.le_of_ble_eq_true rfl) ?_
  intro X C F
  refine g_aload_0 (pc := 0) C dX7_ofBooking_0 ?_
  refine g_getr (pc := 1) C hm.s fl_X7_ofBooking_7 kk369 dX7_ofBooking_1 ?_
  refine g_sipush (pc := 4) (v := 133) C dX7_ofBooking_4 rfl ?_
  refine g_bipush (pc := 7) (v := 6) C dX7_ofBooking_7 rfl ?_
  refine g_iload_1 (pc := 9) C dX7_ofBooking_9 ?_
  refine g_imul (pc := 10) C dX7_ofBooking_10 ?_
  refine g_iadd (pc := 11) C dX7_ofBooking_11 ?_
  refine g_iload_2 (pc := 12) C dX7_ofBooking_12 ?_
  refine g_iadd (pc := 13) C dX7_ofBooking_13 ?_
  refine g_iald (pc := 14) (j := (133 + 6 * i + k)) C kk370 (by rw [hx, hy]; exact ix3 133 6 i k) ln370 (by omega) dX7_ofBooking_14 ?_
  exact g_iret (post := qi (M 370 (133 + 6 * i + k)) M P) C F dX7_ofBooking_15 ⟨rfl, rfl, rfl⟩

set_option maxRecDepth 100000 in
set_option maxHeartbeats 1000000 in
theorem c7_layBooking {l : Launch} {D : va_G} {cy : Nat → ClassId} {B : Nat} {M : MM} {P : PP} (hm : PMd P) {x y v : Int32} {i k : Nat} (hx : x = nI i) (hy : y = nI k) (hi : i < 30) (hk : k < 6) : KV l D cy B yX7_layBooking wsX7_layBooking 0 0 [Value.ref (B + 369), Value.int x, Value.int y, Value.int v] M P (qv (up M 370 (up (M 370) (133 + 6 * i + k) v)) P) := by
  refine met_KV (cc := cX7_layBooking) (maxL := 4) (ret := none) (lv := [some (Value.ref (B + 369)), some (Value.int x), some (Value.int y), some (Value.int v)]) (by decide) rfl rfl rfl (Nat.le_of_ble_eq_true rfl) ?_
  intro X C F
  refine g_aload_0 (pc := 0) C dX7_layBooking_0 ?_
  refine g_getr (pc := 1) C hm.s fl_X7_layBooking_7 kk369 dX7_layBooking_1 ?_
  refine g_sipush (pc := 4) (v := 133) C dX7_layBooking_4 rfl ?_
  refine g_bipush (pc := 7) (v := 6) C dX7_layBooking_7 rfl ?_
  refine g_iload_1 (pc := 9) C dX7_layBooking_9 ?_
  refine g_imul (pc := 10) C dX7_layBooking_10 ?_
  refine g_iadd (pc := 11) C dX7_layBooking_11 ?_
  refine g_iload_2 (pc := 12) C dX7_layBooking_12 ?_
  refine g_iadd (pc := 13) C dX7_layBooking_13 ?_
  refine g_iload_3 (pc := 14) C dX7_layBooking_14 ?_
  refine g_iast (pc := 15) (j := (133 + 6 * i + k)) C kk370 (by rw [hx, hy]; exact ix3 133 6 i k) ln370 (by omega) dX7_layBooking_15 ?_
  exact g_vret (post := qv (up M 370 (up (M 370) (133 + 6 * i + k) v)) P) C F dX7_layBooking_16 ⟨rfl, rfl⟩

set_option maxRecDepth 100000 in
set_option maxHeartbeats 1000000 in
theorem c7_isFarmer {l : Launch} {D : va_G} {cy : Nat → ClassId} {B : Nat} {M : MM} {P : PP} {x : Int32} : KI l D cy B yX7_isFarmer wsX7_isFarmer 1 22 [Value.int x] M P (qi (if 0 ≤ x ∧ x ≤ 5 then 1 else 0) M P) := by
  refine met_KI (cc := cX7_isFarmer) (maxL := 1) (ret := (some .boolean)) (lv := [some (Value.int x)]) (by decide) rfl rfl rfl (Nat.le_of_ble_eq_true rfl) ?_
  intro X C F
  refine g_iload_0 (pc := 0) C dX7_isFarmer_0 ?_
  refine g_iconst (pc := 1) (v := 0) C dX7_isFarmer_1 rfl ?_
  refine g_iconst (pc := 2) (v := 5) C dX7_isFarmer_2 rfl ?_
  refine g_S3ie (pc := 3) C e_X7_isFarmer_32 (Nat.le_of_ble_eq_true rfl) rfl dX7_isFarmer_3 (c7_in) ?_
  exact g_zret (post := qi (if 0 ≤ x ∧ x ≤ 5 then 1 else 0) M P) C F dX7_isFarmer_6 (by by_cases h : 0 ≤ x ∧ x ≤ 5 <;> simp [h]) ⟨rfl, rfl, rfl⟩

set_option maxRecDepth 100000 in
set_option maxHeartbeats 1000000 in
theorem c7_isMachine {l : Launch} {D : va_G} {cy : Nat → ClassId} {B : Nat} {M : MM} {P : PP} (hm : PMd P) {x : Int32} : KI l D cy B yX7_isMachine wsX7_isMachine 1 22 [Value.ref (B + 369), Value.int x] M P (qi (if 0 ≤ x ∧ x ≤ M 370 12 - 1 then 1 else 0) M P) := by
  refine met_KI (cc := cX7_isMachine) (maxL := 2) (ret := (some .boolean)) (lv := [some (Value.ref (B + 369)), some (Value.int x)]) (by decide) rfl rfl rfl (Nat.le_of_ble_eq_true rfl) ?_
  intro X C F
  refine g_iload_1 (pc := 0) C dX7_isMachine_0 ?_
  refine g_iconst (pc := 1) (v := 0) C dX7_isMachine_1 rfl ?_
  refine g_aload_0 (pc := 2) C dX7_isMachine_2 ?_
  refine g_getr (pc := 3) C hm.s fl_X7_isMachine_7 kk369 dX7_isMachine_3 ?_
  refine g_bipush (pc := 6) (v := 12) C dX7_isMachine_6 rfl ?_
  refine g_iald (pc := 8) (j := 12) C kk370 rfl ln370 (by omega) dX7_isMachine_8 ?_
  refine g_iconst (pc := 9) (v := 1) C dX7_isMachine_9 rfl ?_
  refine g_isub (pc := 10) C dX7_isMachine_10 ?_
  refine g_S3ie (pc := 11) C e_X7_isMachine_32 (Nat.le_of_ble_eq_true rfl) rfl dX7_isMachine_11 (c7_in) ?_
  exact g_zret (post := qi (if 0 ≤ x ∧ x ≤ M 370 12 - 1 then 1 else 0) M P) C F dX7_isMachine_14 (by by_cases h : 0 ≤ x ∧ x ≤ M 370 12 - 1 <;> simp [h]) ⟨rfl, rfl, rfl⟩

set_option maxRecDepth 100000 in
set_option maxHeartbeats 1000000 in
theorem c7_season {l : Launch} {D : va_G} {cy : Nat → ClassId} {B : Nat} {M : MM} {P : PP} {x : Int32} : KI l D cy B yX7_season wsX7_season 0 0 [Value.int x] M P (qi (seaI x) M P) := by
  refine met_KI (cc := cX7_season) (maxL := 1) (ret := (some .int)) (lv := [some (Value.int x)]) (by decide) rfl rfl rfl (Nat.le_of_ble_eq_true rfl) ?_
  intro X C F
  refine g_iload_0 (pc := 0) C dX7_season_0 ?_
  refine g_sipush (pc := 1) (v := 360) C dX7_season_1 rfl ?_
  refine g_irem (pc := 4) C dX7_season_4 (by decide) ?_
  refine g_bipush (pc := 5) (v := 90) C dX7_season_5 rfl ?_
  refine g_idiv (pc := 7) C dX7_season_7 (by decide) ?_
  exact g_iret (post := qi (seaI x) M P) C F dX7_season_8 ⟨rfl, rfl, rfl⟩

set_option maxRecDepth 100000 in
set_option maxHeartbeats 1000000 in
theorem c7_factor {l : Launch} {D : va_G} {cy : Nat → ClassId} {B : Nat} {M : MM} {P : PP} {x : Int32} : KF l D cy B yX7_factor wsX7_factor 1 20 [Value.int x] M P (qi (facU (seaI x)) M P) := by
  refine met_KF (cc := cX7_factor) (maxL := 1) (ret := (some .float)) (lv := [some (Value.int x)]) (by decide) rfl rfl rfl (Nat.le_of_ble_eq_true rfl) ?_
  intro X C F
  refine g_iload_0 (pc := 0) C dX7_factor_0 ?_
  refine g_S1ie (pc := 1) C e_X7_factor_44 (Nat.le_of_ble_eq_true rfl) rfl dX7_factor_1 (c7_season) ?_
  by_cases h4_0 : seaI x = 0
  · refine g_tableIn (pc := 4) (tgt := 32) C dX7_factor_4 (by rw [h4_0]; decide) (by rw [h4_0]; decide) (by rw [h4_0]; rfl) (by decide) ?_
    refine g_fconst1 (pc := 32) C dX7_factor_32 ?_
    exact g_fret (post := qi (facU (seaI x)) M P) C F dX7_factor_33 ⟨by rw [facU, if_pos h4_0], rfl, rfl⟩
  by_cases h4_1 : seaI x = 1
  · refine g_tableIn (pc := 4) (tgt := 34) C dX7_factor_4 (by rw [h4_1]; decide) (by rw [h4_1]; decide) (by rw [h4_1]; rfl) (by decide) ?_
    refine g_ldcf (pc := 34) C k_X7_factor_48 dX7_factor_34 ?_
    exact g_fret (post := qi (facU (seaI x)) M P) C F dX7_factor_36 ⟨by rw [facU, if_neg h4_0, if_pos h4_1], rfl, rfl⟩
  by_cases h4_2 : seaI x = 2
  · refine g_tableIn (pc := 4) (tgt := 37) C dX7_factor_4 (by rw [h4_2]; decide) (by rw [h4_2]; decide) (by rw [h4_2]; rfl) (by decide) ?_
    refine g_ldcf (pc := 37) C k_X7_factor_49 dX7_factor_37 ?_
    exact g_fret (post := qi (facU (seaI x)) M P) C F dX7_factor_39 ⟨by rw [facU, if_neg h4_0, if_neg h4_1, if_pos h4_2], rfl, rfl⟩
  have n4_0 := lv_neT h4_0 (a := 0) rfl
  have n4_1 := lv_neT h4_1 (a := 1) rfl
  have n4_2 := lv_neT h4_2 (a := 2) rfl
  refine g_tableOut (pc := 4) (tgt := 40) C dX7_factor_4 (by omega) (by decide) ?_
  refine g_ldcf (pc := 40) C k_X7_factor_50 dX7_factor_40 ?_
  exact g_fret (post := qi (facU (seaI x)) M P) C F dX7_factor_42 ⟨by rw [facU, if_neg h4_0, if_neg h4_1, if_neg h4_2], rfl, rfl⟩

set_option maxRecDepth 100000 in
set_option maxHeartbeats 1000000 in
theorem c7_isWet {l : Launch} {D : va_G} {cy : Nat → ClassId} {B : Nat} {M : MM} {P : PP} (hm : PMd P) {d : Int32} : KI l D cy B yX7_isWet wsX7_isWet 0 0 [Value.ref (B + 369), Value.int d] M P (qi (wet (M 370) d) M P) := by
  refine met_KI (cc := cX7_isWet) (maxL := 2) (ret := (some .boolean)) (lv := [some (Value.ref (B + 369)), some (Value.int d)]) (by decide) rfl rfl rfl (Nat.le_of_ble_eq_true rfl) ?_
  intro X C F
  refine g_sipush (pc := 0) (v := 421) C dX7_isWet_0 rfl ?_
  refine g_iload_1 (pc := 3) C dX7_isWet_3 ?_
  refine g_aload_0 (pc := 4) C dX7_isWet_4 ?_
  refine g_getr (pc := 5) C hm.s fl_X7_isWet_7 kk369 dX7_isWet_5 ?_
  refine g_iconst (pc := 8) (v := 2) C dX7_isWet_8 rfl ?_
  refine g_iald (pc := 9) (j := 2) C kk370 rfl ln370 (by omega) dX7_isWet_9 ?_
  refine g_iadd (pc := 10) C dX7_isWet_10 ?_
  refine g_imul (pc := 11) C dX7_isWet_11 ?_
  refine g_sipush (pc := 12) (v := 1663) C dX7_isWet_12 rfl ?_
  refine g_iadd (pc := 15) C dX7_isWet_15 ?_
  refine g_sipush (pc := 16) (v := 10000) C dX7_isWet_16 rfl ?_
  refine g_irem (pc := 19) C dX7_isWet_19 (by decide) ?_
  refine g_bipush (pc := 20) (v := 16) C dX7_isWet_20 rfl ?_
  refine g_idiv (pc := 22) C dX7_isWet_22 (by decide) ?_
  refine g_iconst (pc := 23) (v := 4) C dX7_isWet_23 rfl ?_
  refine g_irem (pc := 24) C dX7_isWet_24 (by decide) ?_
  refine g_if_ne (pc := 25) (tgt := 32) C dX7_isWet_25 (by decide) (fun c25 => ?_) (fun c25 => ?_)
  · refine g_iconst (pc := 32) (v := 0) C dX7_isWet_32 rfl ?_
    exact g_zret (post := qi (wet (M 370) d) M P) C F dX7_isWet_33 (by first | exact Or.inl rfl | exact Or.inr rfl) ⟨(if_neg c25).symm, rfl, rfl⟩
  · refine g_iconst (pc := 28) (v := 1) C dX7_isWet_28 rfl ?_
    refine g_goto (pc := 29) (tgt := 33) C dX7_isWet_29 (by decide) ?_
    exact g_zret (post := qi (wet (M 370) d) M P) C F dX7_isWet_33 (by first | exact Or.inl rfl | exact Or.inr rfl) ⟨(if_pos c25).symm, rfl, rfl⟩

set_option maxRecDepth 100000 in
set_option maxHeartbeats 1000000 in
theorem c7_fuelOf {l : Launch} {D : va_G} {cy : Nat → ClassId} {B : Nat} {M : MM} {P : PP} (hm : PMd P) {x : Int32} {i : Nat} (hx : x = nI i) (hi : i < 6) (hs : vn_sni2f (M 370 (49 + 14 * i + 6)) = false) : KF l D cy B yX7_fuelOf wsX7_fuelOf 1 23 [Value.ref (B + 369), Value.int x] M P (qi (M 370 (49 + 14 * i + 6)).toUInt32 M P) := by
  refine met_KF (cc := cX7_fuelOf) (maxL := 2) (ret := (some .float)) (lv := [some (Value.ref (B + 369)), some (Value.int x)]) (by decide) rfl rfl rfl (Nat.le_of_ble_eq_true rfl) ?_
  intro X C F
  refine g_aload_0 (pc := 0) C dX7_fuelOf_0 ?_
  refine g_iload_1 (pc := 1) C dX7_fuelOf_1 ?_
  refine g_bipush (pc := 2) (v := 6) C dX7_fuelOf_2 rfl ?_
  refine g_V2ie (pc := 4) C e_X7_fuelOf_51 (Nat.le_of_ble_eq_true rfl) rfl dX7_fuelOf_4 kk369 (c7_ofMachine hm hx (k := 6) rfl hi (by decide)) ?_
  refine g_bits2f (pc := 7) C hs (List.mem_of_getElem? (i := 1) (by decide +kernel)) (List.mem_of_getElem? (i := 2) (by decide +kernel)) (List.mem_of_getElem? (i := 3) (by decide +kernel)) (List.mem_of_getElem? (i := 4) (by decide +kernel)) (Nat.le_of_ble_eq_true rfl) (Nat.le_of_ble_eq_true rfl) rfl dX7_fuelOf_7 ?_
  exact g_fret (post := qi (M 370 (49 + 14 * i + 6)).toUInt32 M P) C F dX7_fuelOf_10 ⟨rfl, rfl, rfl⟩

set_option maxRecDepth 100000 in
set_option maxHeartbeats 1000000 in
theorem c7_wants {l : Launch} {D : va_G} {cy : Nat → ClassId} {B : Nat} {M : MM} {P : PP} (hm : PMd P) {x h : Int32} {i : Nat} (hx : x = nI i) (hi : i < 6) : KF l D cy B yX7_wants wsX7_wants 1 22 [Value.ref (B + 369), Value.int x, Value.int h] M P (qi (wantU (M 370 (49 + 14 * i + 0)) h) M P) := by
  refine met_KF (cc := cX7_wants) (maxL := 5) (ret := (some .float)) (lv := [some (Value.ref (B + 369)), some (Value.int x), some (Value.int h), none, none]) (by decide) rfl rfl rfl (Nat.le_of_ble_eq_true rfl) ?_
  intro X C F
  refine g_aload_0 (pc := 0) C dX7_wants_0 ?_
  refine g_iload_1 (pc := 1) C dX7_wants_1 ?_
  refine g_iconst (pc := 2) (v := 0) C dX7_wants_2 rfl ?_
  refine g_V2ie (pc := 3) C e_X7_wants_51 (Nat.le_of_ble_eq_true rfl) rfl dX7_wants_3 kk369 (c7_ofMachine hm hx (k := 0) rfl hi (by decide)) ?_
  refine g_istore_3 (pc := 6) C dX7_wants_6 ?_
  refine g_iload_3 (pc := 7) C dX7_wants_7 ?_
  refine g_if_ne (pc := 8) (tgt := 16) C dX7_wants_8 (by decide) (fun c8 => ?_) (fun c8 => ?_)
  · refine g_iload_3 (pc := 16) C dX7_wants_16 ?_
    refine g_iconst (pc := 17) (v := 1) C dX7_wants_17 rfl ?_
    refine g_icmp_ne (pc := 18) (tgt := 26) C dX7_wants_18 (by decide) (fun c18 => ?_) (fun c18 => ?_)
    · refine g_ldcf (pc := 26) C k_X7_wants_62 dX7_wants_26 ?_
      refine g_fstore_4 (pc := 28) C dX7_wants_28 ?_
      refine g_iload_2 (pc := 30) C dX7_wants_30 ?_
      refine g_i2f (pc := 31) C dX7_wants_31 ?_
      refine g_fload_4 (pc := 32) C dX7_wants_32 ?_
      have e : (1101398016 : UInt32) = useU (M 370 (49 + 14 * i + 0)) := by rw [useU, if_neg c8, if_neg c18]
      rw [e]
      refine g_fmul (pc := 34) C dX7_wants_34 (use_n32 _ _) ?_
      exact g_fret (post := qi (wantU (M 370 (49 + 14 * i + 0)) h) M P) C F dX7_wants_35 ⟨rfl, rfl, rfl⟩
    · refine g_ldcf (pc := 21) C k_X7_wants_61 dX7_wants_21 ?_
      refine g_goto (pc := 23) (tgt := 28) C dX7_wants_23 (by decide) ?_
      refine g_fstore_4 (pc := 28) C dX7_wants_28 ?_
      refine g_iload_2 (pc := 30) C dX7_wants_30 ?_
      refine g_i2f (pc := 31) C dX7_wants_31 ?_
      refine g_fload_4 (pc := 32) C dX7_wants_32 ?_
      have e : (1084751872 : UInt32) = useU (M 370 (49 + 14 * i + 0)) := by rw [useU, if_neg c8, if_pos c18]
      rw [e]
      refine g_fmul (pc := 34) C dX7_wants_34 (use_n32 _ _) ?_
      exact g_fret (post := qi (wantU (M 370 (49 + 14 * i + 0)) h) M P) C F dX7_wants_35 ⟨rfl, rfl, rfl⟩
  · refine g_ldcf (pc := 11) C k_X7_wants_60 dX7_wants_11 ?_
    refine g_goto (pc := 13) (tgt := 28) C dX7_wants_13 (by decide) ?_
    refine g_fstore_4 (pc := 28) C dX7_wants_28 ?_
    refine g_iload_2 (pc := 30) C dX7_wants_30 ?_
    refine g_i2f (pc := 31) C dX7_wants_31 ?_
    refine g_fload_4 (pc := 32) C dX7_wants_32 ?_
    have e : (1091043328 : UInt32) = useU (M 370 (49 + 14 * i + 0)) := by rw [useU, if_pos c8]
    rw [e]
    refine g_fmul (pc := 34) C dX7_wants_34 (use_n32 _ _) ?_
    exact g_fret (post := qi (wantU (M 370 (49 + 14 * i + 0)) h) M P) C F dX7_wants_35 ⟨rfl, rfl, rfl⟩

set_option maxRecDepth 100000 in
set_option maxHeartbeats 1000000 in
theorem c7_placeOf {l : Launch} {D : va_G} {cy : Nat → ClassId} {B : Nat} {M : MM} {P : PP} (hm : PMd P) {b : Int32} (hf : M 370 6 = nI (sn (M 370))) (h30 : sn (M 370) ≤ 30) : KI l D cy B yX7_placeOf wsX7_placeOf 1 22 [Value.ref (B + 369), Value.int b] M P (qi (match plO (M 370) b with | some i => nI i | none => -100000005) M P) := by
  refine met_KI (cc := cX7_placeOf) (maxL := 3) (ret := (some .int)) (lv := [some (Value.ref (B + 369)), some (Value.int b), none]) (by decide) rfl rfl rfl (Nat.le_of_ble_eq_true rfl) ?_
  intro X C F
  refine g_iconst (pc := 0) (v := 0) C dX7_placeOf_0 rfl ?_
  refine g_istore_2 (pc := 1) C dX7_placeOf_1 ?_
  refine ind_m (fun (k : Nat) => sn (M 370) - k) (p := fun (k : Nat) => k ≤ sn (M 370) → pl (M 370) b k (sn (M 370) - k) = plO (M 370) b → G X D cy B 0 0 376 M P 2 [some (Value.ref (B + 369)), some (Value.int b), some (Value.int (nI k))] []) ?_ 0 (Nat.zero_le _) rfl
  intro k ih hk hpl
  refine g_iload_2 (pc := 2) C dX7_placeOf_2 ?_
  refine g_aload_0 (pc := 3) C dX7_placeOf_3 ?_
  refine g_getr (pc := 4) C hm.s fl_X7_placeOf_7 kk369 dX7_placeOf_4 ?_
  refine g_bipush (pc := 7) (v := 6) C dX7_placeOf_7 rfl ?_
  refine g_iald (pc := 9) (j := 6) C kk370 rfl ln370 (by omega) dX7_placeOf_9 ?_
  rw [hf]
  refine g_icmp_ge (pc := 10) (tgt := 31) C dX7_placeOf_10 (by decide) (fun c10 => ?_) (fun c10 => ?_)
  · have e : sn (M 370) ≤ k := i_le (by omega) (by omega) c10
    have e2 : plO (M 370) b = none := by rw [← hpl, show sn (M 370) - k = 0 by omega]; rfl
    refine g_ldc (pc := 31) C k_X7_placeOf_40 dX7_placeOf_31 ?_
    exact g_iret (post := qi (match plO (M 370) b with | some i => nI i | none => -100000005) M P) C F dX7_placeOf_33 ⟨by rw [e2], rfl, rfl⟩
  · have hk2 : k < sn (M 370) := i_nle (by omega) (by omega) c10
    refine g_aload_0 (pc := 13) C dX7_placeOf_13 ?_
    refine g_iload_2 (pc := 14) C dX7_placeOf_14 ?_
    refine g_iconst (pc := 15) (v := 0) C dX7_placeOf_15 rfl ?_
    refine g_V2ie (pc := 16) C e_X7_placeOf_36 (Nat.le_of_ble_eq_true rfl) rfl dX7_placeOf_16 kk369 (c7_ofBooking hm (i := k) (k := 0) rfl rfl (by omega) (by decide)) ?_
    refine g_iload_1 (pc := 19) C dX7_placeOf_19 ?_
    refine g_icmp_ne (pc := 20) (tgt := 25) C dX7_placeOf_20 (by decide) (fun c20 => ?_) (fun c20 => ?_)
    · refine g_iinc_2 (pc := 25) (v := nI (k + 1)) C dX7_placeOf_25 (nI_1 k) ?_
      refine g_goto (pc := 28) (tgt := 2) C dX7_placeOf_28 (by decide) ?_
      exact ih (k + 1) (by omega) (by omega) (by rw [← hpl, show sn (M 370) - k = sn (M 370) - (k + 1) + 1 by omega]; simp only [pl]; rw [if_neg c20])
    · have e2 : plO (M 370) b = some k := by rw [← hpl, show sn (M 370) - k = sn (M 370) - (k + 1) + 1 by omega]; simp only [pl]; rw [if_pos c20]
      refine g_iload_2 (pc := 23) C dX7_placeOf_23 ?_
      exact g_iret (post := qi (match plO (M 370) b with | some i => nI i | none => -100000005) M P) C F dX7_placeOf_24 ⟨by rw [e2], rfl, rfl⟩

set_option maxRecDepth 100000 in
set_option maxHeartbeats 1000000 in
theorem c7_bookedOn {l : Launch} {D : va_G} {cy : Nat → ClassId} {B : Nat} {M : MM} {P : PP} (hm : PMd P) {m d : Int32} (hf : M 370 6 = nI (sn (M 370))) (h30 : sn (M 370) ≤ 30) : KI l D cy B yX7_bookedOn wsX7_bookedOn 1 22 [Value.ref (B + 369), Value.int m, Value.int d] M P (qi (bkO (M 370) m d) M P) := by
  refine met_KI (cc := cX7_bookedOn) (maxL := 5) (ret := (some .int)) (lv := [some (Value.ref (B + 369)), some (Value.int m), some (Value.int d), none, none]) (by decide) rfl rfl rfl (Nat.le_of_ble_eq_true rfl) ?_
  intro X C F
  refine g_iconst (pc := 0) (v := 0) C dX7_bookedOn_0 rfl ?_
  refine g_istore_3 (pc := 1) C dX7_bookedOn_1 ?_
  refine g_iconst (pc := 2) (v := 0) C dX7_bookedOn_2 rfl ?_
  refine g_istore_4 (pc := 3) C dX7_bookedOn_3 ?_
  refine ind_m (fun (k : Nat) => sn (M 370) - k) (p := fun (k : Nat) => k ≤ sn (M 370) → G X D cy B 0 0 376 M P 5 [some (Value.ref (B + 369)), some (Value.int m), some (Value.int d), some (Value.int (bk (M 370) m d k)), some (Value.int (nI k))] []) ?_ 0 (Nat.zero_le _)
  intro k ih hk
  refine g_iload_4 (pc := 5) C dX7_bookedOn_5 ?_
  refine g_aload_0 (pc := 7) C dX7_bookedOn_7 ?_
  refine g_getr (pc := 8) C hm.s fl_X7_bookedOn_7 kk369 dX7_bookedOn_8 ?_
  refine g_bipush (pc := 11) (v := 6) C dX7_bookedOn_11 rfl ?_
  refine g_iald (pc := 13) (j := 6) C kk370 rfl ln370 (by omega) dX7_bookedOn_13 ?_
  rw [hf]
  refine g_icmp_ge (pc := 14) (tgt := 59) C dX7_bookedOn_14 (by decide) (fun c14 => ?_) (fun c14 => ?_)
  · have e : sn (M 370) ≤ k := i_le (by omega) (by omega) c14
    refine g_iload_3 (pc := 59) C dX7_bookedOn_59 ?_
    exact g_iret (post := qi (bkO (M 370) m d) M P) C F dX7_bookedOn_60 ⟨by rw [show k = sn (M 370) by omega]; rfl, rfl, rfl⟩
  · have hk2 : k < sn (M 370) := i_nle (by omega) (by omega) c14
    refine g_iload_3 (pc := 17) C dX7_bookedOn_17 ?_
    refine g_aload_0 (pc := 18) C dX7_bookedOn_18 ?_
    refine g_iload_4 (pc := 19) C dX7_bookedOn_19 ?_
    refine g_iconst (pc := 21) (v := 2) C dX7_bookedOn_21 rfl ?_
    refine g_V2ie (pc := 22) C e_X7_bookedOn_36 (Nat.le_of_ble_eq_true rfl) rfl dX7_bookedOn_22 kk369 (c7_ofBooking hm (i := k) (k := 2) rfl rfl (by omega) (by decide)) ?_
    refine g_iload_1 (pc := 25) C dX7_bookedOn_25 ?_
    refine g_icmp_ne (pc := 26) (tgt := 50) C dX7_bookedOn_26 (by decide) (fun c26 => ?_) (fun c26 => ?_)
    · refine g_iconst (pc := 50) (v := 0) C dX7_bookedOn_50 rfl ?_
      refine g_iadd (pc := 51) C dX7_bookedOn_51 ?_
      rw [show bk (M 370) m d k + 0 = bk (M 370) m d (k + 1) by simp only [bk]; rw [if_neg (fun h => c26 h.1)]]
      refine g_istore_3 (pc := 52) C dX7_bookedOn_52 ?_
      refine g_iinc_4 (pc := 53) (v := nI (k + 1)) C dX7_bookedOn_53 (nI_1 k) ?_
      refine g_goto (pc := 56) (tgt := 5) C dX7_bookedOn_56 (by decide) ?_
      exact ih (k + 1) (by omega) (by omega)
    · refine g_aload_0 (pc := 29) C dX7_bookedOn_29 ?_
      refine g_iload_4 (pc := 30) C dX7_bookedOn_30 ?_
      refine g_iconst (pc := 32) (v := 3) C dX7_bookedOn_32 rfl ?_
      refine g_V2ie (pc := 33) C e_X7_bookedOn_36 (Nat.le_of_ble_eq_true rfl) rfl dX7_bookedOn_33 kk369 (c7_ofBooking hm (i := k) (k := 3) rfl rfl (by omega) (by decide)) ?_
      refine g_iload_2 (pc := 36) C dX7_bookedOn_36 ?_
      refine g_icmp_ne (pc := 37) (tgt := 50) C dX7_bookedOn_37 (by decide) (fun c37 => ?_) (fun c37 => ?_)
      · refine g_iconst (pc := 50) (v := 0) C dX7_bookedOn_50 rfl ?_
        refine g_iadd (pc := 51) C dX7_bookedOn_51 ?_
        rw [show bk (M 370) m d k + 0 = bk (M 370) m d (k + 1) by simp only [bk]; rw [if_neg (fun h => c37 h.2)]]
        refine g_istore_3 (pc := 52) C dX7_bookedOn_52 ?_
        refine g_iinc_4 (pc := 53) (v := nI (k + 1)) C dX7_bookedOn_53 (nI_1 k) ?_
        refine g_goto (pc := 56) (tgt := 5) C dX7_bookedOn_56 (by decide) ?_
        exact ih (k + 1) (by omega) (by omega)
      · refine g_aload_0 (pc := 40) C dX7_bookedOn_40 ?_
        refine g_iload_4 (pc := 41) C dX7_bookedOn_41 ?_
        refine g_iconst (pc := 43) (v := 4) C dX7_bookedOn_43 rfl ?_
        refine g_V2ie (pc := 44) C e_X7_bookedOn_36 (Nat.le_of_ble_eq_true rfl) rfl dX7_bookedOn_44 kk369 (c7_ofBooking hm (i := k) (k := 4) rfl rfl (by omega) (by decide)) ?_
        refine g_goto (pc := 47) (tgt := 51) C dX7_bookedOn_47 (by decide) ?_
        refine g_iadd (pc := 51) C dX7_bookedOn_51 ?_
        rw [show bk (M 370) m d k + M 370 (133 + 6 * k + 4) = bk (M 370) m d (k + 1) by simp only [bk]; rw [if_pos ⟨c26, c37⟩]]
        refine g_istore_3 (pc := 52) C dX7_bookedOn_52 ?_
        refine g_iinc_4 (pc := 53) (v := nI (k + 1)) C dX7_bookedOn_53 (nI_1 k) ?_
        refine g_goto (pc := 56) (tgt := 5) C dX7_bookedOn_56 (by decide) ?_
        exact ih (k + 1) (by omega) (by omega)

set_option maxRecDepth 100000 in
set_option maxHeartbeats 1000000 in
theorem c7_machinesOf {l : Launch} {D : va_G} {cy : Nat → ClassId} {B : Nat} {M : MM} {P : PP} (hm : PMd P) {w : Int32} (hf : M 370 12 = nI (mn (M 370))) (h30 : mn (M 370) ≤ 6) : KI l D cy B yX7_machinesOf wsX7_machinesOf 1 22 [Value.ref (B + 369), Value.int w] M P (qi (nI (kc (M 370) w (mn (M 370)))) M P) := by
  refine met_KI (cc := cX7_machinesOf) (maxL := 4) (ret := (some .int)) (lv := [some (Value.ref (B + 369)), some (Value.int w), none, none]) (by decide) rfl rfl rfl (Nat.le_of_ble_eq_true rfl) ?_
  intro X C F
  refine g_iconst (pc := 0) (v := 0) C dX7_machinesOf_0 rfl ?_
  refine g_istore_2 (pc := 1) C dX7_machinesOf_1 ?_
  refine g_iconst (pc := 2) (v := 0) C dX7_machinesOf_2 rfl ?_
  refine g_istore_3 (pc := 3) C dX7_machinesOf_3 ?_
  refine ind_m (fun (k : Nat) => mn (M 370) - k) (p := fun (k : Nat) => k ≤ mn (M 370) → G X D cy B 0 0 376 M P 4 [some (Value.ref (B + 369)), some (Value.int w), some (Value.int (nI (kc (M 370) w k))), some (Value.int (nI k))] []) ?_ 0 (Nat.zero_le _)
  intro k ih hk
  refine g_iload_3 (pc := 4) C dX7_machinesOf_4 ?_
  refine g_aload_0 (pc := 5) C dX7_machinesOf_5 ?_
  refine g_getr (pc := 6) C hm.s fl_X7_machinesOf_7 kk369 dX7_machinesOf_6 ?_
  refine g_bipush (pc := 9) (v := 12) C dX7_machinesOf_9 rfl ?_
  refine g_iald (pc := 11) (j := 12) C kk370 rfl ln370 (by omega) dX7_machinesOf_11 ?_
  rw [hf]
  refine g_icmp_ge (pc := 12) (tgt := 39) C dX7_machinesOf_12 (by decide) (fun c12 => ?_) (fun c12 => ?_)
  · have e : mn (M 370) ≤ k := i_le (by omega) (by omega) c12
    refine g_iload_2 (pc := 39) C dX7_machinesOf_39 ?_
    exact g_iret (post := qi (nI (kc (M 370) w (mn (M 370)))) M P) C F dX7_machinesOf_40 ⟨by rw [show k = mn (M 370) by omega], rfl, rfl⟩
  · have hk2 : k < mn (M 370) := i_nle (by omega) (by omega) c12
    refine g_iload_2 (pc := 15) C dX7_machinesOf_15 ?_
    refine g_aload_0 (pc := 16) C dX7_machinesOf_16 ?_
    refine g_iload_3 (pc := 17) C dX7_machinesOf_17 ?_
    refine g_iconst (pc := 18) (v := 0) C dX7_machinesOf_18 rfl ?_
    refine g_V2ie (pc := 19) C e_X7_machinesOf_51 (Nat.le_of_ble_eq_true rfl) rfl dX7_machinesOf_19 kk369 (c7_ofMachine hm (i := k) (k := 0) rfl rfl (by omega) (by decide)) ?_
    refine g_iload_1 (pc := 22) C dX7_machinesOf_22 ?_
    refine g_icmp_ne (pc := 23) (tgt := 30) C dX7_machinesOf_23 (by decide) (fun c23 => ?_) (fun c23 => ?_)
    · refine g_iconst (pc := 30) (v := 0) C dX7_machinesOf_30 rfl ?_
      refine g_iadd (pc := 31) C dX7_machinesOf_31 ?_
      rw [show nI (kc (M 370) w k) + 0 = nI (kc (M 370) w (k + 1)) by simp only [kc]; rw [if_neg c23, z_add]; rfl]
      refine g_istore_2 (pc := 32) C dX7_machinesOf_32 ?_
      refine g_iinc_3 (pc := 33) (v := nI (k + 1)) C dX7_machinesOf_33 (nI_1 k) ?_
      refine g_goto (pc := 36) (tgt := 4) C dX7_machinesOf_36 (by decide) ?_
      exact ih (k + 1) (by omega) (by omega)
    · refine g_iconst (pc := 26) (v := 1) C dX7_machinesOf_26 rfl ?_
      refine g_goto (pc := 27) (tgt := 31) C dX7_machinesOf_27 (by decide) ?_
      refine g_iadd (pc := 31) C dX7_machinesOf_31 ?_
      rw [show nI (kc (M 370) w k) + 1 = nI (kc (M 370) w (k + 1)) by simp only [kc]; rw [if_pos c23]; exact nI_1 _]
      refine g_istore_2 (pc := 32) C dX7_machinesOf_32 ?_
      refine g_iinc_3 (pc := 33) (v := nI (k + 1)) C dX7_machinesOf_33 (nI_1 k) ?_
      refine g_goto (pc := 36) (tgt := 4) C dX7_machinesOf_36 (by decide) ?_
      exact ih (k + 1) (by omega) (by omega)
