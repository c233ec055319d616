set_option maxRecDepth 100000 in
set_option maxHeartbeats 1000000 in
theorem c_factorOf {l : Launch} {D : va_G} {cy : Nat → ClassId} {B : Nat} {M : MM} {P : PP} {x : Int32} : KF l D cy B yX6_factorOf wsX6_factorOf 0 0 [Value.int x] M P (qi (facU x) M P) := by
  refine met_KF (cc := cX6_factorOf) (maxL := 1) (ret := (some .float)) (lv := [some (Value.int x)]) (by decide) rfl rfl rfl (Nat.le_of_ble_eq_true rfl) ?_
  intro X C F
  refine g_iload_0 (pc := 0) C dX6_factorOf_0 ?_
  by_cases h1_0 : x = 0
  · refine g_tableIn (pc := 1) (tgt := 28) C dX6_factorOf_1 (by rw [h1_0]; decide) (by rw [h1_0]; decide) (by rw [h1_0]; rfl) (by decide) ?_
    refine g_fconst1 (pc := 28) C dX6_factorOf_28 ?_
    exact g_fret (post := qi (facU x) M P) C F dX6_factorOf_29 ⟨by rw [facU, if_pos h1_0], rfl, rfl⟩
  by_cases h1_1 : x = 1
  · refine g_tableIn (pc := 1) (tgt := 30) C dX6_factorOf_1 (by rw [h1_1]; decide) (by rw [h1_1]; decide) (by rw [h1_1]; rfl) (by decide) ?_
    refine g_ldcwf (pc := 30) C k_X6_factorOf_271 dX6_factorOf_30 ?_
    exact g_fret (post := qi (facU x) M P) C F dX6_factorOf_33 ⟨by rw [facU, if_neg h1_0, if_pos h1_1], rfl, rfl⟩
  by_cases h1_2 : x = 2
  · refine g_tableIn (pc := 1) (tgt := 34) C dX6_factorOf_1 (by rw [h1_2]; decide) (by rw [h1_2]; decide) (by rw [h1_2]; rfl) (by decide) ?_
    refine g_ldcwf (pc := 34) C k_X6_factorOf_272 dX6_factorOf_34 ?_
    exact g_fret (post := qi (facU x) M P) C F dX6_factorOf_37 ⟨by rw [facU, if_neg h1_0, if_neg h1_1, if_pos h1_2], rfl, rfl⟩
  have n1_0 := lv_neT h1_0 (a := 0) rfl
  have n1_1 := lv_neT h1_1 (a := 1) rfl
  have n1_2 := lv_neT h1_2 (a := 2) rfl
  refine g_tableOut (pc := 1) (tgt := 38) C dX6_factorOf_1 (by omega) (by decide) ?_
  refine g_ldcwf (pc := 38) C k_X6_factorOf_273 dX6_factorOf_38 ?_
  exact g_fret (post := qi (facU x) M P) C F dX6_factorOf_41 ⟨by rw [facU, if_neg h1_0, if_neg h1_1, if_neg h1_2], rfl, rfl⟩

set_option maxRecDepth 100000 in
set_option maxHeartbeats 1000000 in
theorem c_useOf {l : Launch} {D : va_G} {cy : Nat → ClassId} {B : Nat} {M : MM} {P : PP} {x : Int32} : KF l D cy B yX6_useOf wsX6_useOf 0 0 [Value.int x] M P (qi (useU x) M P) := by
  refine met_KF (cc := cX6_useOf) (maxL := 1) (ret := (some .float)) (lv := [some (Value.int x)]) (by decide) rfl rfl rfl (Nat.le_of_ble_eq_true rfl) ?_
  intro X C F
  refine g_iload_0 (pc := 0) C dX6_useOf_0 ?_
  by_cases h1_0 : x = 0
  · refine g_lookup (pc := 1) (off := 27) (tgt := 28) C dX6_useOf_1 (by decide) (by rw [h1_0]; rfl) (by decide) ?_
    refine g_ldcwf (pc := 28) C k_X6_useOf_274 dX6_useOf_28 ?_
    exact g_fret (post := qi (useU x) M P) C F dX6_useOf_31 ⟨by rw [useU, if_pos h1_0], rfl, rfl⟩
  by_cases h1_1 : x = 1
  · refine g_lookup (pc := 1) (off := 31) (tgt := 32) C dX6_useOf_1 (by decide) (by rw [h1_1]; rfl) (by decide) ?_
    refine g_ldcwf (pc := 32) C k_X6_useOf_275 dX6_useOf_32 ?_
    exact g_fret (post := qi (useU x) M P) C F dX6_useOf_35 ⟨by rw [useU, if_neg h1_0, if_pos h1_1], rfl, rfl⟩
  refine g_lookup (pc := 1) (off := 35) (tgt := 36) C dX6_useOf_1 (by decide) ((lv_osw h1_0 rfl).trans ((lv_osw h1_1 rfl).trans rfl)) (by decide) ?_
  refine g_ldcwf (pc := 36) C k_X6_useOf_276 dX6_useOf_36 ?_
  exact g_fret (post := qi (useU x) M P) C F dX6_useOf_39 ⟨by rw [useU, if_neg h1_0, if_neg h1_1], rfl, rfl⟩

set_option maxRecDepth 100000 in
set_option maxHeartbeats 1000000 in
theorem c_fuelFor {l : Launch} {D : va_G} {cy : Nat → ClassId} {B : Nat} {M : MM} {P : PP} {o : Nat} {h : Int32} (ho : kk 369 o 3) : KF l D cy B yX3_fuelFor wsX3_fuelFor 1 20 [Value.ref (B + o), Value.int h] M P (qi (wantU (M o 0) h) M P) := by
  refine met_KF (cc := cX3_fuelFor) (maxL := 2) (ret := (some .float)) (lv := [some (Value.ref (B + o)), some (Value.int h)]) (by decide) rfl rfl rfl (Nat.le_of_ble_eq_true rfl) ?_
  intro X C F
  refine g_iload_1 (pc := 0) C dX3_fuelFor_0 ?_
  refine g_i2f (pc := 1) C dX3_fuelFor_1 ?_
  refine g_aload_0 (pc := 2) C dX3_fuelFor_2 ?_
  refine g_geti (pc := 3) C fl_X3_fuelFor_15 (by assumption) dX3_fuelFor_3 ?_
  refine g_N1fe (pc := 6) C e_X3_fuelFor_47 (Nat.le_of_ble_eq_true rfl) rfl dX3_fuelFor_6 (c_useOf) ?_
  refine g_fmul (pc := 9) C dX3_fuelFor_9 (use_n32 _ _) ?_
  exact g_fret (post := qi (wantU (M o 0) h) M P) C F dX3_fuelFor_10 ⟨rfl, rfl, rfl⟩

set_option maxRecDepth 100000 in
set_option maxHeartbeats 1000000 in
theorem c_mayDrive {l : Launch} {D : va_G} {cy : Nat → ClassId} {B : Nat} {M : MM} {P : PP} {o : Nat} {k : Int32} (ho : kk 369 o 1) : KI l D cy B yX1_mayDrive wsX1_mayDrive 0 0 [Value.ref (B + o), Value.int k] M P (qi (if (M o 1 >>> (k &&& 31)) &&& 1 = 1 then 1 else 0) M P) := by
  refine met_KI (cc := cX1_mayDrive) (maxL := 2) (ret := (some .boolean)) (lv := [some (Value.ref (B + o)), some (Value.int k)]) (by decide) rfl rfl rfl (Nat.le_of_ble_eq_true rfl) ?_
  intro X C F
  refine g_aload_0 (pc := 0) C dX1_mayDrive_0 ?_
  refine g_geti (pc := 1) C fl_X1_mayDrive_7 (by assumption) dX1_mayDrive_1 ?_
  refine g_iload_1 (pc := 4) C dX1_mayDrive_4 ?_
  refine g_ishr (pc := 5) C dX1_mayDrive_5 ?_
  refine g_iconst (pc := 6) (v := 1) C dX1_mayDrive_6 rfl ?_
  refine g_iand (pc := 7) C dX1_mayDrive_7 ?_
  refine g_iconst (pc := 8) (v := 1) C dX1_mayDrive_8 rfl ?_
  refine g_icmp_ne (pc := 9) (tgt := 16) C dX1_mayDrive_9 (by decide) (fun c9 => ?_) (fun c9 => ?_)
  · refine g_iconst (pc := 16) (v := 0) C dX1_mayDrive_16 rfl ?_
    exact g_zret (post := qi (if (M o 1 >>> (k &&& 31)) &&& 1 = 1 then 1 else 0) M P) C F dX1_mayDrive_17 (by first | exact Or.inl rfl | exact Or.inr rfl) ⟨(if_neg c9).symm, rfl, rfl⟩
  · refine g_iconst (pc := 12) (v := 1) C dX1_mayDrive_12 rfl ?_
    refine g_goto (pc := 13) (tgt := 17) C dX1_mayDrive_13 (by decide) ?_
    exact g_zret (post := qi (if (M o 1 >>> (k &&& 31)) &&& 1 = 1 then 1 else 0) M P) C F dX1_mayDrive_17 (by first | exact Or.inl rfl | exact Or.inr rfl) ⟨(if_pos c9).symm, rfl, rfl⟩

set_option maxRecDepth 100000 in
set_option maxHeartbeats 1000000 in
theorem c_charge {l : Launch} {D : va_G} {cy : Nat → ClassId} {B : Nat} {M : MM} {P : PP} {o : Nat} {k : Int32} (ho : kk 369 o 1) : KV l D cy B yX1_charge wsX1_charge 0 0 [Value.ref (B + o), Value.int k] M P (qv (up M o (up (up (M o) 0 (M o 0 - k)) 4 (M o 4 + k))) P) := by
  refine met_KV (cc := cX1_charge) (maxL := 2) (ret := none) (lv := [some (Value.ref (B + o)), some (Value.int k)]) (by decide) rfl rfl rfl (Nat.le_of_ble_eq_true rfl) ?_
  intro X C F
  refine g_aload_0 (pc := 0) C dX1_charge_0 ?_
  refine g_dup (pc := 1) C dX1_charge_1 rfl ?_
  refine g_geti (pc := 2) C fl_X1_charge_13 (by assumption) dX1_charge_2 ?_
  refine g_iload_1 (pc := 5) C dX1_charge_5 ?_
  refine g_isub (pc := 6) C dX1_charge_6 ?_
  refine g_puti (pc := 7) C pf_X1_charge_13 (by assumption) dX1_charge_7 ?_
  refine g_aload_0 (pc := 10) C dX1_charge_10 ?_
  refine g_dup (pc := 11) C dX1_charge_11 rfl ?_
  refine g_geti (pc := 12) C fl_X1_charge_22 (by assumption) dX1_charge_12 ?_
  refine g_iload_1 (pc := 15) C dX1_charge_15 ?_
  refine g_iadd (pc := 16) C dX1_charge_16 ?_
  refine g_puti (pc := 17) C pf_X1_charge_22 (by assumption) dX1_charge_17 ?_
  exact g_vret (post := qv (up M o (up (up (M o) 0 (M o 0 - k)) 4 (M o 4 + k))) P) C F dX1_charge_20 ⟨by simp [up_same, up_up, up_ne], rfl⟩

set_option maxRecDepth 100000 in
set_option maxHeartbeats 1000000 in
theorem c_bearMending {l : Launch} {D : va_G} {cy : Nat → ClassId} {B : Nat} {M : MM} {P : PP} {o : Nat} {k : Int32} (ho : kk 369 o 1) : KV l D cy B yX1_bearMending wsX1_bearMending 0 0 [Value.ref (B + o), Value.int k] M P (qv (up M o (up (up (M o) 0 (M o 0 - k)) 5 (M o 5 + k))) P) := by
  refine met_KV (cc := cX1_bearMending) (maxL := 2) (ret := none) (lv := [some (Value.ref (B + o)), some (Value.int k)]) (by decide) rfl rfl rfl (Nat.le_of_ble_eq_true rfl) ?_
  intro X C F
  refine g_aload_0 (pc := 0) C dX1_bearMending_0 ?_
  refine g_dup (pc := 1) C dX1_bearMending_1 rfl ?_
  refine g_geti (pc := 2) C fl_X1_bearMending_13 (by assumption) dX1_bearMending_2 ?_
  refine g_iload_1 (pc := 5) C dX1_bearMending_5 ?_
  refine g_isub (pc := 6) C dX1_bearMending_6 ?_
  refine g_puti (pc := 7) C pf_X1_bearMending_13 (by assumption) dX1_bearMending_7 ?_
  refine g_aload_0 (pc := 10) C dX1_bearMending_10 ?_
  refine g_dup (pc := 11) C dX1_bearMending_11 rfl ?_
  refine g_geti (pc := 12) C fl_X1_bearMending_25 (by assumption) dX1_bearMending_12 ?_
  refine g_iload_1 (pc := 15) C dX1_bearMending_15 ?_
  refine g_iadd (pc := 16) C dX1_bearMending_16 ?_
  refine g_puti (pc := 17) C pf_X1_bearMending_25 (by assumption) dX1_bearMending_17 ?_
  exact g_vret (post := qv (up M o (up (up (M o) 0 (M o 0 - k)) 5 (M o 5 + k))) P) C F dX1_bearMending_20 ⟨by simp [up_same, up_up, up_ne], rfl⟩

set_option maxRecDepth 100000 in
set_option maxHeartbeats 1000000 in
theorem c_copyFarmer {l : Launch} {D : va_G} {cy : Nat → ClassId} {B : Nat} {M : MM} {P : PP} {o q : Nat} (ho : kk 369 o 1) (ho2 : kk 369 q 1) (hq : q ≠ o) : KV l D cy B yX1_copyFrom wsX1_copyFrom 0 0 [Value.ref (B + o), Value.ref (B + q)] M P (fun M1 P1 => P1 = P ∧ (∀ k, k < 6 → M1 o k = M q k) ∧ ∀ a, a ≠ o → M1 a = M a) := by
  refine met_KV (cc := cX1_copyFrom) (maxL := 2) (ret := none) (lv := [some (Value.ref (B + o)), some (Value.ref (B + q))]) (by decide) rfl rfl rfl (Nat.le_of_ble_eq_true rfl) ?_
  intro X C F
  refine g_aload_0 (pc := 0) C dX1_copyFrom_0 ?_
  refine g_aload_1 (pc := 1) C dX1_copyFrom_1 ?_
  refine g_geti (pc := 2) C fl_X1_copyFrom_13 (by assumption) dX1_copyFrom_2 ?_
  refine g_puti (pc := 5) C pf_X1_copyFrom_13 (by assumption) dX1_copyFrom_5 ?_
  refine g_aload_0 (pc := 8) C dX1_copyFrom_8 ?_
  refine g_aload_1 (pc := 9) C dX1_copyFrom_9 ?_
  refine g_geti (pc := 10) C fl_X1_copyFrom_7 (by assumption) dX1_copyFrom_10 ?_
  refine g_puti (pc := 13) C pf_X1_copyFrom_7 (by assumption) dX1_copyFrom_13 ?_
  refine g_aload_0 (pc := 16) C dX1_copyFrom_16 ?_
  refine g_aload_1 (pc := 17) C dX1_copyFrom_17 ?_
  refine g_geti (pc := 18) C fl_X1_copyFrom_16 (by assumption) dX1_copyFrom_18 ?_
  refine g_puti (pc := 21) C pf_X1_copyFrom_16 (by assumption) dX1_copyFrom_21 ?_
  refine g_aload_0 (pc := 24) C dX1_copyFrom_24 ?_
  refine g_aload_1 (pc := 25) C dX1_copyFrom_25 ?_
  refine g_geti (pc := 26) C fl_X1_copyFrom_19 (by assumption) dX1_copyFrom_26 ?_
  refine g_puti (pc := 29) C pf_X1_copyFrom_19 (by assumption) dX1_copyFrom_29 ?_
  refine g_aload_0 (pc := 32) C dX1_copyFrom_32 ?_
  refine g_aload_1 (pc := 33) C dX1_copyFrom_33 ?_
  refine g_geti (pc := 34) C fl_X1_copyFrom_22 (by assumption) dX1_copyFrom_34 ?_
  refine g_puti (pc := 37) C pf_X1_copyFrom_22 (by assumption) dX1_copyFrom_37 ?_
  refine g_aload_0 (pc := 40) C dX1_copyFrom_40 ?_
  refine g_aload_1 (pc := 41) C dX1_copyFrom_41 ?_
  refine g_geti (pc := 42) C fl_X1_copyFrom_25 (by assumption) dX1_copyFrom_42 ?_
  refine g_puti (pc := 45) C pf_X1_copyFrom_25 (by assumption) dX1_copyFrom_45 ?_
  exact g_vret (post := fun M1 P1 => P1 = P ∧ (∀ k, k < 6 → M1 o k = M q k) ∧ ∀ a, a ≠ o → M1 a = M a) C F dX1_copyFrom_48 ⟨rfl, fun k hk => by rcases (show k = 0 ∨ k = 1 ∨ k = 2 ∨ k = 3 ∨ k = 4 ∨ k = 5 by omega) with rfl | rfl | rfl | rfl | rfl | rfl <;> simp [up_same, up_ne, up_ne _ _ hq], fun a ha => by simp [up_ne, ha]⟩

set_option maxRecDepth 100000 in
set_option maxHeartbeats 1000000 in
theorem c_copyBooking {l : Launch} {D : va_G} {cy : Nat → ClassId} {B : Nat} {M : MM} {P : PP} {o q : Nat} (ho : kk 369 o 0) (ho2 : kk 369 q 0) (hq : q ≠ o) : KV l D cy B yX0_copyFrom wsX0_copyFrom 0 0 [Value.ref (B + o), Value.ref (B + q)] M P (fun M1 P1 => P1 = P ∧ (∀ k, k < 6 → M1 o k = M q k) ∧ ∀ a, a ≠ o → M1 a = M a) := by
  refine met_KV (cc := cX0_copyFrom) (maxL := 2) (ret := none) (lv := [some (Value.ref (B + o)), some (Value.ref (B + q))]) (by decide) rfl rfl rfl (Nat.le_of_ble_eq_true rfl) ?_
  intro X C F
  refine g_aload_0 (pc := 0) C dX0_copyFrom_0 ?_
  refine g_aload_1 (pc := 1) C dX0_copyFrom_1 ?_
  refine g_geti (pc := 2) C fl_X0_copyFrom_7 (by assumption) dX0_copyFrom_2 ?_
  refine g_puti (pc := 5) C pf_X0_copyFrom_7 (by assumption) dX0_copyFrom_5 ?_
  refine g_aload_0 (pc := 8) C dX0_copyFrom_8 ?_
  refine g_aload_1 (pc := 9) C dX0_copyFrom_9 ?_
  refine g_geti (pc := 10) C fl_X0_copyFrom_13 (by assumption) dX0_copyFrom_10 ?_
  refine g_puti (pc := 13) C pf_X0_copyFrom_13 (by assumption) dX0_copyFrom_13 ?_
  refine g_aload_0 (pc := 16) C dX0_copyFrom_16 ?_
  refine g_aload_1 (pc := 17) C dX0_copyFrom_17 ?_
  refine g_geti (pc := 18) C fl_X0_copyFrom_16 (by assumption) dX0_copyFrom_18 ?_
  refine g_puti (pc := 21) C pf_X0_copyFrom_16 (by assumption) dX0_copyFrom_21 ?_
  refine g_aload_0 (pc := 24) C dX0_copyFrom_24 ?_
  refine g_aload_1 (pc := 25) C dX0_copyFrom_25 ?_
  refine g_geti (pc := 26) C fl_X0_copyFrom_19 (by assumption) dX0_copyFrom_26 ?_
  refine g_puti (pc := 29) C pf_X0_copyFrom_19 (by assumption) dX0_copyFrom_29 ?_
  refine g_aload_0 (pc := 32) C dX0_copyFrom_32 ?_
  refine g_aload_1 (pc := 33) C dX0_copyFrom_33 ?_
  refine g_geti (pc := 34) C fl_X0_copyFrom_22 (by assumption) dX0_copyFrom_34 ?_
  refine g_puti (pc := 37) C pf_X0_copyFrom_22 (by assumption) dX0_copyFrom_37 ?_
  refine g_aload_0 (pc := 40) C dX0_copyFrom_40 ?_
  refine g_aload_1 (pc := 41) C dX0_copyFrom_41 ?_
  refine g_geti (pc := 42) C fl_X0_copyFrom_25 (by assumption) dX0_copyFrom_42 ?_
  refine g_puti (pc := 45) C pf_X0_copyFrom_25 (by assumption) dX0_copyFrom_45 ?_
  exact g_vret (post := fun M1 P1 => P1 = P ∧ (∀ k, k < 6 → M1 o k = M q k) ∧ ∀ a, a ≠ o → M1 a = M a) C F dX0_copyFrom_48 ⟨rfl, fun k hk => by rcases (show k = 0 ∨ k = 1 ∨ k = 2 ∨ k = 3 ∨ k = 4 ∨ k = 5 by omega) with rfl | rfl | rfl | rfl | rfl | rfl <;> simp [up_same, up_ne, up_ne _ _ hq], fun a ha => by simp [up_ne, ha]⟩

set_option maxRecDepth 100000 in
set_option maxHeartbeats 1000000 in
theorem c_copyNumbers {l : Launch} {D : va_G} {cy : Nat → ClassId} {B : Nat} {M : MM} {P : PP} {o q : Nat} (ho : kk 369 o 4) (ho2 : kk 369 q 4) (hq : q ≠ o) : KV l D cy B yX4_copyNumbers wsX4_copyNumbers 0 0 [Value.ref (B + o), Value.ref (B + q)] M P (fun M1 P1 => P1 = P ∧ (∀ k, 3 ≤ k → k < 16 → M1 o k = M q k) ∧ ∀ a, a ≠ o → M1 a = M a) := by
  refine met_KV (cc := cX4_copyNumbers) (maxL := 2) (ret := none) (lv := [some (Value.ref (B + o)), some (Value.ref (B + q))]) (by decide) rfl rfl rfl (Nat.le_of_ble_eq_true rfl) ?_
  intro X C F
  refine g_aload_0 (pc := 0) C dX4_copyNumbers_0 ?_
  refine g_aload_1 (pc := 1) C dX4_copyNumbers_1 ?_
  refine g_geti (pc := 2) C fl_X4_copyNumbers_51 (by assumption) dX4_copyNumbers_2 ?_
  refine g_puti (pc := 5) C pf_X4_copyNumbers_51 (by assumption) dX4_copyNumbers_5 ?_
  refine g_aload_0 (pc := 8) C dX4_copyNumbers_8 ?_
  refine g_aload_1 (pc := 9) C dX4_copyNumbers_9 ?_
  refine g_geti (pc := 10) C fl_X4_copyNumbers_61 (by assumption) dX4_copyNumbers_10 ?_
  refine g_puti (pc := 13) C pf_X4_copyNumbers_61 (by assumption) dX4_copyNumbers_13 ?_
  refine g_aload_0 (pc := 16) C dX4_copyNumbers_16 ?_
  refine g_aload_1 (pc := 17) C dX4_copyNumbers_17 ?_
  refine g_geti (pc := 18) C fl_X4_copyNumbers_71 (by assumption) dX4_copyNumbers_18 ?_
  refine g_puti (pc := 21) C pf_X4_copyNumbers_71 (by assumption) dX4_copyNumbers_21 ?_
  refine g_aload_0 (pc := 24) C dX4_copyNumbers_24 ?_
  refine g_aload_1 (pc := 25) C dX4_copyNumbers_25 ?_
  refine g_geti (pc := 26) C fl_X4_copyNumbers_74 (by assumption) dX4_copyNumbers_26 ?_
  refine g_puti (pc := 29) C pf_X4_copyNumbers_74 (by assumption) dX4_copyNumbers_29 ?_
  refine g_aload_0 (pc := 32) C dX4_copyNumbers_32 ?_
  refine g_aload_1 (pc := 33) C dX4_copyNumbers_33 ?_
  refine g_geti (pc := 34) C fl_X4_copyNumbers_77 (by assumption) dX4_copyNumbers_34 ?_
  refine g_puti (pc := 37) C pf_X4_copyNumbers_77 (by assumption) dX4_copyNumbers_37 ?_
  refine g_aload_0 (pc := 40) C dX4_copyNumbers_40 ?_
  refine g_aload_1 (pc := 41) C dX4_copyNumbers_41 ?_
  refine g_geti (pc := 42) C fl_X4_copyNumbers_80 (by assumption) dX4_copyNumbers_42 ?_
  refine g_puti (pc := 45) C pf_X4_copyNumbers_80 (by assumption) dX4_copyNumbers_45 ?_
  refine g_aload_0 (pc := 48) C dX4_copyNumbers_48 ?_
  refine g_aload_1 (pc := 49) C dX4_copyNumbers_49 ?_
  refine g_geti (pc := 50) C fl_X4_copyNumbers_83 (by assumption) dX4_copyNumbers_50 ?_
  refine g_puti (pc := 53) C pf_X4_copyNumbers_83 (by assumption) dX4_copyNumbers_53 ?_
  refine g_aload_0 (pc := 56) C dX4_copyNumbers_56 ?_
  refine g_aload_1 (pc := 57) C dX4_copyNumbers_57 ?_
  refine g_geti (pc := 58) C fl_X4_copyNumbers_32 (by assumption) dX4_copyNumbers_58 ?_
  refine g_puti (pc := 61) C pf_X4_copyNumbers_32 (by assumption) dX4_copyNumbers_61 ?_
  refine g_aload_0 (pc := 64) C dX4_copyNumbers_64 ?_
  refine g_aload_1 (pc := 65) C dX4_copyNumbers_65 ?_
  refine g_geti (pc := 66) C fl_X4_copyNumbers_36 (by assumption) dX4_copyNumbers_66 ?_
  refine g_puti (pc := 69) C pf_X4_copyNumbers_36 (by assumption) dX4_copyNumbers_69 ?_
  refine g_aload_0 (pc := 72) C dX4_copyNumbers_72 ?_
  refine g_aload_1 (pc := 73) C dX4_copyNumbers_73 ?_
  refine g_geti (pc := 74) C fl_X4_copyNumbers_86 (by assumption) dX4_copyNumbers_74 ?_
  refine g_puti (pc := 77) C pf_X4_copyNumbers_86 (by assumption) dX4_copyNumbers_77 ?_
  refine g_aload_0 (pc := 80) C dX4_copyNumbers_80 ?_
  refine g_aload_1 (pc := 81) C dX4_copyNumbers_81 ?_
  refine g_geti (pc := 82) C fl_X4_copyNumbers_89 (by assumption) dX4_copyNumbers_82 ?_
  refine g_puti (pc := 85) C pf_X4_copyNumbers_89 (by assumption) dX4_copyNumbers_85 ?_
  refine g_aload_0 (pc := 88) C dX4_copyNumbers_88 ?_
  refine g_aload_1 (pc := 89) C dX4_copyNumbers_89 ?_
  refine g_geti (pc := 90) C fl_X4_copyNumbers_92 (by assumption) dX4_copyNumbers_90 ?_
  refine g_puti (pc := 93) C pf_X4_copyNumbers_92 (by assumption) dX4_copyNumbers_93 ?_
  refine g_aload_0 (pc := 96) C dX4_copyNumbers_96 ?_
  refine g_aload_1 (pc := 97) C dX4_copyNumbers_97 ?_
  refine g_geti (pc := 98) C fl_X4_copyNumbers_95 (by assumption) dX4_copyNumbers_98 ?_
  refine g_puti (pc := 101) C pf_X4_copyNumbers_95 (by assumption) dX4_copyNumbers_101 ?_
  exact g_vret (post := fun M1 P1 => P1 = P ∧ (∀ k, 3 ≤ k → k < 16 → M1 o k = M q k) ∧ ∀ a, a ≠ o → M1 a = M a) C F dX4_copyNumbers_104 ⟨rfl, fun k hk hk2 => by rcases (show k = 3 ∨ k = 4 ∨ k = 5 ∨ k = 6 ∨ k = 7 ∨ k = 8 ∨ k = 9 ∨ k = 10 ∨ k = 11 ∨ k = 12 ∨ k = 13 ∨ k = 14 ∨ k = 15 by omega) with rfl | rfl | rfl | rfl | rfl | rfl | rfl | rfl | rfl | rfl | rfl | rfl | rfl <;> simp [up_same, up_ne, up_ne _ _ hq], fun a ha => by simp [up_ne, ha]⟩

set_option maxRecDepth 100000 in
set_option maxHeartbeats 1000000 in
theorem c_hoursOf {l : Launch} {D : va_G} {cy : Nat → ClassId} {B : Nat} {M : MM} {P : PP} {o h : Nat} (ho : kk 369 o 3) (hh : kk 369 h 8) (hL : ln h = 6) (hr : rr P o 7 h) {x : Int32} {i : Nat} (hx : x = nI i) (hi : i < 6) : KI l D cy B yX3_hoursOf wsX3_hoursOf 0 0 [Value.ref (B + o), Value.int x] M P (qi (M h i) M P) := by
  refine met_KI (cc := cX3_hoursOf) (maxL := 2) (ret := (some .int)) (lv := [some (Value.ref (B + o)), some (Value.int x)]) (by decide) rfl rfl rfl (Nat.le_of_ble_eq_true rfl) ?_
  intro X C F
  refine g_iload_1 (pc := 0) C dX3_hoursOf_0 ?_
  refine g_if_lt (pc := 1) (tgt := 22) C dX3_hoursOf_1 (by decide) (fun c1 => ?_) (fun c1 => ?_)
  · exact absurd c1 (by rw [hx]; exact nI_pos (by omega))
  · refine g_iload_1 (pc := 4) C dX3_hoursOf_4 ?_
    refine g_aload_0 (pc := 5) C dX3_hoursOf_5 ?_
    refine g_getr (pc := 6) C (by assumption) fl_X3_hoursOf_9 (by assumption) dX3_hoursOf_6 ?_
    refine g_alen (pc := 9) C (by assumption) (by assumption) rfl dX3_hoursOf_9 ?_
    refine g_icmp_ge (pc := 10) (tgt := 22) C dX3_hoursOf_10 (by decide) (fun c10 => ?_) (fun c10 => ?_)
    · exact absurd c10 (by rw [hx]; exact nI_ge hi (by decide))
    · refine g_aload_0 (pc := 13) C dX3_hoursOf_13 ?_
      refine g_getr (pc := 14) C (by assumption) fl_X3_hoursOf_9 (by assumption) dX3_hoursOf_14 ?_
      refine g_iload_1 (pc := 17) C dX3_hoursOf_17 ?_
      refine g_iald (pc := 18) C (by assumption) hx (by assumption) hi dX3_hoursOf_18 ?_
      refine g_goto (pc := 19) (tgt := 23) C dX3_hoursOf_19 (by decide) ?_
      exact g_iret (post := qi (M h i) M P) C F dX3_hoursOf_23 ⟨rfl, rfl, rfl⟩

set_option maxRecDepth 100000 in
set_option maxHeartbeats 1000000 in
theorem c_forgetHours {l : Launch} {D : va_G} {cy : Nat → ClassId} {B : Nat} {M : MM} {P : PP} {o h : Nat} (ho : kk 369 o 3) (hh : kk 369 h 8) (hL : ln h = 6) (hr : rr P o 7 h) : KV l D cy B yX3_forgetHours wsX3_forgetHours 0 0 [Value.ref (B + o)] M P (fun M1 P1 => P1 = P ∧ (∀ j, j < 6 → M1 h j = 0) ∧ ∀ a, a ≠ h → M1 a = M a) := by
  refine met_KV (cc := cX3_forgetHours) (maxL := 2) (ret := none) (lv := [some (Value.ref (B + o)), none]) (by decide) rfl rfl rfl (Nat.le_of_ble_eq_true rfl) ?_
  intro X C F
  refine g_iconst (pc := 0) (v := 0) C dX3_forgetHours_0 rfl ?_
  refine g_istore_1 (pc := 1) C dX3_forgetHours_1 ?_
  refine ind_m (fun (k : Nat) => 6 - k) (p := fun (k : Nat) => ∀ M1 : MM, k ≤ 6 → (∀ j, j < k → M1 h j = 0) → (∀ a, a ≠ h → M1 a = M a) → G X D cy B 0 0 369 M1 P 2 [some (Value.ref (B + o)), some (Value.int (nI k))] []) ?_ 0 M (Nat.zero_le _) (fun j hj => absurd hj (Nat.not_lt_zero _)) (fun _ _ => rfl)
  intro k ih M1 hk i1 i2
  refine g_iload_1 (pc := 2) C dX3_forgetHours_2 ?_
  refine g_aload_0 (pc := 3) C dX3_forgetHours_3 ?_
  refine g_getr (pc := 4) C (by assumption) fl_X3_forgetHours_9 (by assumption) dX3_forgetHours_4 ?_
  refine g_alen (pc := 7) C (by assumption) (by assumption) rfl dX3_forgetHours_7 ?_
  refine g_icmp_ge (pc := 8) (tgt := 24) C dX3_forgetHours_8 (by decide) (fun c8 => ?_) (fun c8 => ?_)
  · have e : 6 ≤ k := i_le (a := 6) (by omega) (by omega) c8
    exact g_vret (post := fun M1 P1 => P1 = P ∧ (∀ j, j < 6 → M1 h j = 0) ∧ ∀ a, a ≠ h → M1 a = M a) C F dX3_forgetHours_24 ⟨rfl, fun j hj => i1 j (by omega), i2⟩
  · have hk2 : k < 6 := i_nle (a := 6) (by omega) (by omega) c8
    refine g_aload_0 (pc := 11) C dX3_forgetHours_11 ?_
    refine g_getr (pc := 12) C (by assumption) fl_X3_forgetHours_9 (by assumption) dX3_forgetHours_12 ?_
    refine g_iload_1 (pc := 15) C dX3_forgetHours_15 ?_
    refine g_iconst (pc := 16) (v := 0) C dX3_forgetHours_16 rfl ?_
    refine g_iast (pc := 17) C (by assumption) rfl (by assumption) (by omega) dX3_forgetHours_17 ?_
    refine g_iinc_1 (pc := 18) (v := nI (k + 1)) C dX3_forgetHours_18 (nI_1 k) ?_
    refine g_goto (pc := 21) (tgt := 2) C dX3_forgetHours_21 (by decide) ?_
    exact ih (k + 1) (by omega) _ (by omega) (fun j hj => by
      rw [up_same]
      by_cases e : j = k
      · rw [e, up_same]
      · rw [up_ne _ _ e]; exact i1 j (by omega)) (fun a ha => (up_ne _ _ ha).trans (i2 a ha))

set_option maxRecDepth 100000 in
set_option maxHeartbeats 1000000 in
theorem c_hoursSinceMended {l : Launch} {D : va_G} {cy : Nat → ClassId} {B : Nat} {M : MM} {P : PP} {o h : Nat} (ho : kk 369 o 3) (hh : kk 369 h 8) (hL : ln h = 6) (hr : rr P o 7 h) : KI l D cy B yX3_hoursSinceMended wsX3_hoursSinceMended 0 0 [Value.ref (B + o)] M P (qi (sm (M h) 6) M P) := by
  refine met_KI (cc := cX3_hoursSinceMended) (maxL := 3) (ret := (some .int)) (lv := [some (Value.ref (B + o)), none, none]) (by decide) rfl rfl rfl (Nat.le_of_ble_eq_true rfl) ?_
  intro X C F
  refine g_iconst (pc := 0) (v := 0) C dX3_hoursSinceMended_0 rfl ?_
  refine g_istore_1 (pc := 1) C dX3_hoursSinceMended_1 ?_
  refine g_iconst (pc := 2) (v := 0) C dX3_hoursSinceMended_2 rfl ?_
  refine g_istore_2 (pc := 3) C dX3_hoursSinceMended_3 ?_
  refine ind_m (fun (k : Nat) => 6 - k) (p := fun (k : Nat) => k ≤ 6 → G X D cy B 0 0 369 M P 4 [some (Value.ref (B + o)), some (Value.int (sm (M h) k)), some (Value.int (nI k))] []) ?_ 0 (Nat.zero_le _)
  intro k ih hk
  refine g_iload_2 (pc := 4) C dX3_hoursSinceMended_4 ?_
  refine g_aload_0 (pc := 5) C dX3_hoursSinceMended_5 ?_
  refine g_getr (pc := 6) C (by assumption) fl_X3_hoursSinceMended_9 (by assumption) dX3_hoursSinceMended_6 ?_
  refine g_alen (pc := 9) C (by assumption) (by assumption) rfl dX3_hoursSinceMended_9 ?_
  refine g_icmp_ge (pc := 10) (tgt := 28) C dX3_hoursSinceMended_10 (by decide) (fun c10 => ?_) (fun c10 => ?_)
  · have e : 6 ≤ k := i_le (a := 6) (by omega) (by omega) c10
    refine g_iload_1 (pc := 28) C dX3_hoursSinceMended_28 ?_
    exact g_iret (post := qi (sm (M h) 6) M P) C F dX3_hoursSinceMended_29 ⟨by rw [show k = 6 by omega], rfl, rfl⟩
  · have hk2 : k < 6 := i_nle (a := 6) (by omega) (by omega) c10
    refine g_iload_1 (pc := 13) C dX3_hoursSinceMended_13 ?_
    refine g_aload_0 (pc := 14) C dX3_hoursSinceMended_14 ?_
    refine g_getr (pc := 15) C (by assumption) fl_X3_hoursSinceMended_9 (by assumption) dX3_hoursSinceMended_15 ?_
    refine g_iload_2 (pc := 18) C dX3_hoursSinceMended_18 ?_
    refine g_iald (pc := 19) C (by assumption) rfl (by assumption) (by omega) dX3_hoursSinceMended_19 ?_
    refine g_iadd (pc := 20) C dX3_hoursSinceMended_20 ?_
    rw [show sm (M h) k + M h k = sm (M h) (k + 1) from rfl]
    refine g_istore_1 (pc := 21) C dX3_hoursSinceMended_21 ?_
    refine g_iinc_2 (pc := 22) (v := nI (k + 1)) C dX3_hoursSinceMended_22 (nI_1 k) ?_
    refine g_goto (pc := 25) (tgt := 4) C dX3_hoursSinceMended_25 (by decide) ?_
    exact ih (k + 1) (by omega) (by omega)

set_option maxRecDepth 100000 in
set_option maxHeartbeats 1000000 in
theorem c_begin {l : Launch} {D : va_G} {cy : Nat → ClassId} {B : Nat} {M : MM} {P : PP} {o h : Nat} (ho : kk 369 o 3) (hh : kk 369 h 8) (hL : ln h = 6) (hr : rr P o 7 h) {k1 k2 k3 : Int32} : KV l D cy B yX3_begin wsX3_begin 1 21 [Value.ref (B + o), Value.int k1, Value.int k2, Value.int k3] M P (fun M1 P1 => P1 = P ∧ (M1 o 0 = k1 ∧ M1 o 1 = k2 ∧ M1 o 2 = k3 ∧ M1 o 3 = FP.fconst0.toInt32 ∧ M1 o 4 = 0 ∧ M1 o 5 = 0 ∧ M1 o 6 = 0) ∧ (∀ j, j < 6 → M1 h j = 0) ∧ ∀ a, a ≠ o → a ≠ h → M1 a = M a) := by
  refine met_KV (cc := cX3_begin) (maxL := 4) (ret := none) (lv := [some (Value.ref (B + o)), some (Value.int k1), some (Value.int k2), some (Value.int k3)]) (by decide) rfl rfl rfl (Nat.le_of_ble_eq_true rfl) ?_
  intro X C F
  refine g_aload_0 (pc := 0) C dX3_begin_0 ?_
  refine g_iload_1 (pc := 1) C dX3_begin_1 ?_
  refine g_puti (pc := 2) C pf_X3_begin_15 (by assumption) dX3_begin_2 ?_
  refine g_aload_0 (pc := 5) C dX3_begin_5 ?_
  refine g_iload_2 (pc := 6) C dX3_begin_6 ?_
  refine g_puti (pc := 7) C pf_X3_begin_19 (by assumption) dX3_begin_7 ?_
  refine g_aload_0 (pc := 10) C dX3_begin_10 ?_
  refine g_iload_3 (pc := 11) C dX3_begin_11 ?_
  refine g_puti (pc := 12) C pf_X3_begin_22 (by assumption) dX3_begin_12 ?_
  refine g_aload_0 (pc := 15) C dX3_begin_15 ?_
  refine g_fconst0 (pc := 16) C dX3_begin_16 ?_
  refine g_putf (pc := 17) C pf_X3_begin_25 (by assumption) dX3_begin_17 ?_
  refine g_aload_0 (pc := 20) C dX3_begin_20 ?_
  refine g_iconst (pc := 21) (v := 0) C dX3_begin_21 rfl ?_
  refine g_putz (pc := 22) C (by first | exact Or.inl rfl | exact Or.inr rfl | assumption) pf_X3_begin_29 (by assumption) dX3_begin_22 ?_
  refine g_aload_0 (pc := 25) C dX3_begin_25 ?_
  refine g_iconst (pc := 26) (v := 0) C dX3_begin_26 rfl ?_
  refine g_puti (pc := 27) C pf_X3_begin_33 (by assumption) dX3_begin_27 ?_
  refine g_aload_0 (pc := 30) C dX3_begin_30 ?_
  refine g_iconst (pc := 31) (v := 0) C dX3_begin_31 rfl ?_
  refine g_puti (pc := 32) C pf_X3_begin_36 (by assumption) dX3_begin_32 ?_
  refine g_aload_0 (pc := 35) C dX3_begin_35 ?_
  refine g_V0v (pc := 36) C e_X3_begin_39 (Nat.le_of_ble_eq_true rfl) rfl dX3_begin_36 (by assumption) (c_forgetHours ho hh hL hr) (fun M1 P1 hq => ?_)
  obtain ⟨hP1, q1, q2⟩ := hq
  subst P1
  have hoh : o ≠ h := fun e => by have := ho.2; rw [e, hh.2] at this; cases this
  exact g_vret (post := fun M1 P1 => P1 = P ∧ (M1 o 0 = k1 ∧ M1 o 1 = k2 ∧ M1 o 2 = k3 ∧ M1 o 3 = FP.fconst0.toInt32 ∧ M1 o 4 = 0 ∧ M1 o 5 = 0 ∧ M1 o 6 = 0) ∧ (∀ j, j < 6 → M1 h j = 0) ∧ ∀ a, a ≠ o → a ≠ h → M1 a = M a) C F dX3_begin_39 ⟨rfl, by rw [q2 o hoh]; simp [up_same, up_up, up_ne], q1, fun a h1 h2 => by rw [q2 a h2]; simp [up_ne, h1]⟩

set_option maxRecDepth 100000 in
set_option maxHeartbeats 1000000 in
theorem c_copyMachine {l : Launch} {D : va_G} {cy : Nat → ClassId} {B : Nat} {M : MM} {P : PP} {o h o2 h2 : Nat} (ho : kk 369 o 3) (hh : kk 369 h 8) (hL : ln h = 6) (hr : rr P o 7 h) (ho2 : kk 369 o2 3) (hh2 : kk 369 h2 8) (hL2 : ln h2 = 6) (hr2 : rr P o2 7 h2) (n1 : o2 ≠ o) (n2 : h2 ≠ h) (hb : M o2 4 = 0 ∨ M o2 4 = 1) : KV l D cy B yX3_copyFrom wsX3_copyFrom 1 21 [Value.ref (B + o), Value.ref (B + o2)] M P (fun M1 P1 => P1 = P ∧ (∀ k, k < 7 → M1 o k = M o2 k) ∧ (∀ j, j < 6 → M1 h j = M h2 j) ∧ ∀ a, a ≠ o → a ≠ h → M1 a = M a) := by
  refine met_KV (cc := cX3_copyFrom) (maxL := 3) (ret := none) (lv := [some (Value.ref (B + o)), some (Value.ref (B + o2)), none]) (by decide) rfl rfl rfl (Nat.le_of_ble_eq_true rfl) ?_
  intro X C F
  refine g_aload_0 (pc := 0) C dX3_copyFrom_0 ?_
  refine g_aload_1 (pc := 1) C dX3_copyFrom_1 ?_
  refine g_geti (pc := 2) C fl_X3_copyFrom_15 (by assumption) dX3_copyFrom_2 ?_
  refine g_puti (pc := 5) C pf_X3_copyFrom_15 (by assumption) dX3_copyFrom_5 ?_
  refine g_aload_0 (pc := 8) C dX3_copyFrom_8 ?_
  refine g_aload_1 (pc := 9) C dX3_copyFrom_9 ?_
  refine g_geti (pc := 10) C fl_X3_copyFrom_19 (by assumption) dX3_copyFrom_10 ?_
  refine g_puti (pc := 13) C pf_X3_copyFrom_19 (by assumption) dX3_copyFrom_13 ?_
  refine g_aload_0 (pc := 16) C dX3_copyFrom_16 ?_
  refine g_aload_1 (pc := 17) C dX3_copyFrom_17 ?_
  refine g_geti (pc := 18) C fl_X3_copyFrom_22 (by assumption) dX3_copyFrom_18 ?_
  refine g_puti (pc := 21) C pf_X3_copyFrom_22 (by assumption) dX3_copyFrom_21 ?_
  refine g_aload_0 (pc := 24) C dX3_copyFrom_24 ?_
  refine g_aload_1 (pc := 25) C dX3_copyFrom_25 ?_
  refine g_getf (pc := 26) C fl_X3_copyFrom_25 (by assumption) dX3_copyFrom_26 ?_
  refine g_putf (pc := 29) C pf_X3_copyFrom_25 (by assumption) dX3_copyFrom_29 ?_
  refine g_aload_0 (pc := 32) C dX3_copyFrom_32 ?_
  refine g_aload_1 (pc := 33) C dX3_copyFrom_33 ?_
  refine g_getz (pc := 34) C fl_X3_copyFrom_29 (by assumption) dX3_copyFrom_34 ?_
  refine g_putz (pc := 37) C (by simp only [up_ne _ _ n1]; exact hb) pf_X3_copyFrom_29 (by assumption) dX3_copyFrom_37 ?_
  refine g_aload_0 (pc := 40) C dX3_copyFrom_40 ?_
  refine g_aload_1 (pc := 41) C dX3_copyFrom_41 ?_
  refine g_geti (pc := 42) C fl_X3_copyFrom_33 (by assumption) dX3_copyFrom_42 ?_
  refine g_puti (pc := 45) C pf_X3_copyFrom_33 (by assumption) dX3_copyFrom_45 ?_
  refine g_aload_0 (pc := 48) C dX3_copyFrom_48 ?_
  refine g_aload_1 (pc := 49) C dX3_copyFrom_49 ?_
  refine g_geti (pc := 50) C fl_X3_copyFrom_36 (by assumption) dX3_copyFrom_50 ?_
  refine g_puti (pc := 53) C pf_X3_copyFrom_36 (by assumption) dX3_copyFrom_53 ?_
  have hoh : o ≠ h := fun e => by have := ho.2; rw [e, hh.2] at this; cases this
  have hoh2 : o2 ≠ h := fun e => by have := ho2.2; rw [e, hh.2] at this; cases this
  have hho2 : h2 ≠ o := fun e => by have := ho.2; rw [← e, hh2.2] at this; cases this
  refine g_memo (fun M0 => (∀ k, k < 7 → M0 o k = M o2 k) ∧ (∀ a, a ≠ o → M0 a = M a)) ⟨fun k hk => by rcases (show k = 0 ∨ k = 1 ∨ k = 2 ∨ k = 3 ∨ k = 4 ∨ k = 5 ∨ k = 6 by omega) with rfl | rfl | rfl | rfl | rfl | rfl | rfl <;> simp [up_same, up_ne, up_ne _ _ n1], fun a ha => by simp [up_ne, ha]⟩ (fun M0 hM0 => ?_)
  refine g_iconst (pc := 56) (v := 0) C dX3_copyFrom_56 rfl ?_
  refine g_istore_2 (pc := 57) C dX3_copyFrom_57 ?_
  refine ind_m (fun (k : Nat) => 6 - k) (p := fun (k : Nat) => ∀ M1 : MM, k ≤ 6 → (∀ j, j < k → M1 h j = M h2 j) → (∀ a, a ≠ h → M1 a = M0 a) → G X D cy B 0 0 369 M1 P 58 [some (Value.ref (B + o)), some (Value.ref (B + o2)), some (Value.int (nI k))] []) ?_ 0 M0 (Nat.zero_le _) (fun j hj => absurd hj (Nat.not_lt_zero _)) (fun _ _ => rfl)
  intro k ih M1 hk i1 i2
  refine g_iload_2 (pc := 58) C dX3_copyFrom_58 ?_
  refine g_aload_0 (pc := 59) C dX3_copyFrom_59 ?_
  refine g_getr (pc := 60) C (by assumption) fl_X3_copyFrom_9 (by assumption) dX3_copyFrom_60 ?_
  refine g_alen (pc := 63) C (by assumption) (by assumption) rfl dX3_copyFrom_63 ?_
  refine g_icmp_ge (pc := 64) (tgt := 84) C dX3_copyFrom_64 (by decide) (fun c64 => ?_) (fun c64 => ?_)
  · have e : 6 ≤ k := i_le (a := 6) (by omega) (by omega) c64
    exact g_vret (post := fun M1 P1 => P1 = P ∧ (∀ k, k < 7 → M1 o k = M o2 k) ∧ (∀ j, j < 6 → M1 h j = M h2 j) ∧ ∀ a, a ≠ o → a ≠ h → M1 a = M a) C F dX3_copyFrom_84 ⟨rfl, fun k2 hk2 => by rw [i2 o hoh]; exact hM0.1 k2 hk2, fun j hj => i1 j (by omega), fun a h1 h2 => by rw [i2 a h2]; exact hM0.2 a h1⟩
  · have hk2 : k < 6 := i_nle (a := 6) (by omega) (by omega) c64
    refine g_aload_0 (pc := 67) C dX3_copyFrom_67 ?_
    refine g_getr (pc := 68) C (by assumption) fl_X3_copyFrom_9 (by assumption) dX3_copyFrom_68 ?_
    refine g_iload_2 (pc := 71) C dX3_copyFrom_71 ?_
    refine g_aload_1 (pc := 72) C dX3_copyFrom_72 ?_
    refine g_iload_2 (pc := 73) C dX3_copyFrom_73 ?_
    refine g_V1ie (pc := 74) C e_X3_copyFrom_42 (Nat.le_of_ble_eq_true rfl) rfl dX3_copyFrom_74 (by assumption) (c_hoursOf ho2 hh2 hL2 hr2 (i := k) rfl hk2) ?_
    refine g_iast (pc := 77) C (by assumption) rfl (by assumption) (by omega) dX3_copyFrom_77 ?_
    refine g_iinc_2 (pc := 78) (v := nI (k + 1)) C dX3_copyFrom_78 (nI_1 k) ?_
    refine g_goto (pc := 81) (tgt := 58) C dX3_copyFrom_81 (by decide) ?_
    exact ih (k + 1) (by omega) _ (by omega) (fun j hj => by
      rw [up_same]
      by_cases e : j = k
      · rw [e, up_same, i2 h2 n2, hM0.2 h2 hho2]
      · rw [up_ne _ _ e]; exact i1 j (by omega)) (fun a ha => (up_ne _ _ ha).trans (i2 a ha))

set_option maxRecDepth 100000 in
set_option maxHeartbeats 1000000 in
theorem c_work {l : Launch} {D : va_G} {cy : Nat → ClassId} {B : Nat} {M : MM} {P : PP} {o h : Nat} (ho : kk 369 o 3) (hh : kk 369 h 8) (hL : ln h = 6) (hr : rr P o 7 h) {x y b : Int32} {w : Nat} (hx : x = nI w) (hw : w < 6) (hn : vf_n32 (FP.fsub (M o 3).toUInt32 (wantU (M o 0) y))) : KV l D cy B yX3_work wsX3_work 2 41 [Value.ref (B + o), Value.int x, Value.int y, Value.int b] M P (fun M1 P1 => P1 = P ∧ (∀ k, k ≠ 3 → k ≠ 4 → k ≠ 5 → M1 o k = M o k) ∧ M1 o 3 = (FP.fsub (M o 3).toUInt32 (wantU (M o 0) y)).toInt32 ∧ M1 o 5 = M o 5 + y ∧ M1 o 4 = (if sm (up (M h) w (M h w + y)) 6 < b then M o 4 else 1) ∧ M1 h = up (M h) w (M h w + y) ∧ ∀ a, a ≠ o → a ≠ h → M1 a = M a) := by
  refine met_KV (cc := cX3_work) (maxL := 4) (ret := none) (lv := [some (Value.ref (B + o)), some (Value.int x), some (Value.int y), some (Value.int b)]) (by decide) rfl rfl rfl (Nat.le_of_ble_eq_true rfl) ?_
  intro X C F
  refine g_aload_0 (pc := 0) C dX3_work_0 ?_
  refine g_aload_0 (pc := 1) C dX3_work_1 ?_
  refine g_getf (pc := 2) C fl_X3_work_25 (by assumption) dX3_work_2 ?_
  refine g_aload_0 (pc := 5) C dX3_work_5 ?_
  refine g_iload_2 (pc := 6) C dX3_work_6 ?_
  refine g_V1fe (pc := 7) C e_X3_work_51 (Nat.le_of_ble_eq_true rfl) rfl dX3_work_7 (by assumption) (c_fuelFor ho) ?_
  refine g_fsub (pc := 10) C dX3_work_10 hn ?_
  refine g_putf (pc := 11) C pf_X3_work_25 (by assumption) dX3_work_11 ?_
  refine g_aload_0 (pc := 14) C dX3_work_14 ?_
  refine g_dup (pc := 15) C dX3_work_15 rfl ?_
  refine g_geti (pc := 16) C fl_X3_work_33 (by assumption) dX3_work_16 ?_
  refine g_iload_2 (pc := 19) C dX3_work_19 ?_
  refine g_iadd (pc := 20) C dX3_work_20 ?_
  refine g_puti (pc := 21) C pf_X3_work_33 (by assumption) dX3_work_21 ?_
  have hoh : o ≠ h := fun e => by have := ho.2; rw [e, hh.2] at this; cases this
  refine g_iload_1 (pc := 24) C dX3_work_24 ?_
  refine g_if_lt (pc := 25) (tgt := 47) C dX3_work_25 (by decide) (fun c25 => ?_) (fun c25 => ?_)
  · exact absurd c25 (by rw [hx]; exact nI_pos (by omega))
  · refine g_iload_1 (pc := 28) C dX3_work_28 ?_
    refine g_aload_0 (pc := 29) C dX3_work_29 ?_
    refine g_getr (pc := 30) C (by assumption) fl_X3_work_9 (by assumption) dX3_work_30 ?_
    refine g_alen (pc := 33) C (by assumption) (by assumption) rfl dX3_work_33 ?_
    refine g_icmp_ge (pc := 34) (tgt := 47) C dX3_work_34 (by decide) (fun c34 => ?_) (fun c34 => ?_)
    · exact absurd c34 (by rw [hx]; exact nI_ge hw (by decide))
    · refine g_aload_0 (pc := 37) C dX3_work_37 ?_
      refine g_getr (pc := 38) C (by assumption) fl_X3_work_9 (by assumption) dX3_work_38 ?_
      refine g_iload_1 (pc := 41) C dX3_work_41 ?_
      refine g_dup2 (pc := 42) C dX3_work_42 rfl rfl ?_
      refine g_iald (pc := 43) (j := w) C (by assumption) hx (by assumption) hw dX3_work_43 ?_
      refine g_iload_2 (pc := 44) C dX3_work_44 ?_
      refine g_iadd (pc := 45) C dX3_work_45 ?_
      refine g_iast (pc := 46) (j := w) C (by assumption) hx (by assumption) hw dX3_work_46 ?_
      refine g_memo (fun M0 => (∀ k, k ≠ 3 → k ≠ 5 → M0 o k = M o k) ∧ M0 o 3 = (FP.fsub (M o 3).toUInt32 (wantU (M o 0) y)).toInt32 ∧ M0 o 5 = M o 5 + y ∧ M0 h = up (M h) w (M h w + y) ∧ ∀ a, a ≠ o → a ≠ h → M0 a = M a) ⟨fun k h3 h5 => by simp [up_same, up_up, up_ne, hoh, h3, h5], by simp [up_same, up_up, up_ne, hoh], by simp [up_same, up_up, up_ne, hoh], by simp [up_same, up_up, up_ne, hoh.symm], fun a h1 h2 => by simp [up_ne, h1, h2]⟩ (fun M0 hM0 => ?_)
      obtain ⟨w1, w2, w3, w4, w5⟩ := hM0
      refine g_aload_0 (pc := 47) C dX3_work_47 ?_
      refine g_V0ie (pc := 48) C e_X3_work_54 (Nat.le_of_ble_eq_true rfl) rfl dX3_work_48 (by assumption) (c_hoursSinceMended ho hh hL hr) ?_
      rw [w4]
      refine g_iload_3 (pc := 51) C dX3_work_51 ?_
      refine g_icmp_lt (pc := 52) (tgt := 60) C dX3_work_52 (by decide) (fun c52 => ?_) (fun c52 => ?_)
      · exact g_vret (post := fun M1 P1 => P1 = P ∧ (∀ k, k ≠ 3 → k ≠ 4 → k ≠ 5 → M1 o k = M o k) ∧ M1 o 3 = (FP.fsub (M o 3).toUInt32 (wantU (M o 0) y)).toInt32 ∧ M1 o 5 = M o 5 + y ∧ M1 o 4 = (if sm (up (M h) w (M h w + y)) 6 < b then M o 4 else 1) ∧ M1 h = up (M h) w (M h w + y) ∧ ∀ a, a ≠ o → a ≠ h → M1 a = M a) C F dX3_work_60 ⟨rfl, fun k h3 h4 h5 => w1 k h3 h5, w2, w3, by rw [if_pos c52]; exact w1 4 (by decide) (by decide), w4, w5⟩
      · refine g_aload_0 (pc := 55) C dX3_work_55 ?_
        refine g_iconst (pc := 56) (v := 1) C dX3_work_56 rfl ?_
        refine g_putz (pc := 57) C (by first | exact Or.inl rfl | exact Or.inr rfl | assumption) pf_X3_work_29 (by assumption) dX3_work_57 ?_
        exact g_vret (post := fun M1 P1 => P1 = P ∧ (∀ k, k ≠ 3 → k ≠ 4 → k ≠ 5 → M1 o k = M o k) ∧ M1 o 3 = (FP.fsub (M o 3).toUInt32 (wantU (M o 0) y)).toInt32 ∧ M1 o 5 = M o 5 + y ∧ M1 o 4 = (if sm (up (M h) w (M h w + y)) 6 < b then M o 4 else 1) ∧ M1 h = up (M h) w (M h w + y) ∧ ∀ a, a ≠ o → a ≠ h → M1 a = M a) C F dX3_work_60 ⟨rfl, fun k h3 h4 h5 => by rw [up_same, up_ne _ _ h4]; exact w1 k h3 h5, by rw [up_same, up_ne _ _ (by decide)]; exact w2, by rw [up_same, up_ne _ _ (by decide)]; exact w3, by rw [up_same, up_same, if_neg c52], by rw [up_ne _ _ hoh.symm]; exact w4, fun a h1 h2 => by rw [up_ne _ _ h1]; exact w5 a h1 h2⟩
