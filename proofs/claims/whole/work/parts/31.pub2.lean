set_option maxRecDepth 100000 in
set_option maxHeartbeats 1000000 in
theorem c7_farmer {l : Launch} {D : va_G} {cy : Nat → ClassId} {B : Nat} {M : MM} {P : PP} {w k : Int32} {A : AS} {c : Nat} (h : JM M P A) (hA : WA c A) : KI l D cy B yX7_farmer wsX7_farmer 2 45 [Value.ref (B + 369), Value.int w, Value.int k] M P (fun r M1 P1 => r = aFarmer A w k ∧ JM M1 P1 A ∧ FLo M P M1 P1) := by
  refine met_KI (cc := cX7_farmer) (maxL := 3) (ret := (some .int)) (lv := [some (Value.ref (B + 369)), some (Value.int w), some (Value.int k)]) (by decide) rfl rfl rfl (Nat.le_of_ble_eq_true rfl) ?_
  intro X C F
  have hw := hA.1
  have h6 := hw.m6
  have h30 := hw.s30
  refine g_aload_0 (pc := 0) C dX7_farmer_0 ?_
  refine g_iconst (pc := 1) (v := 0) C dX7_farmer_1 rfl ?_
  refine g_puti (pc := 2) C pf_X7_farmer_28 kk369 dX7_farmer_2 ?_
  obtain ⟨h1, hl⟩ := JM_thr h 0
  refine g_memo (fun M1 => JM M1 P A ∧ FLo M P M1 P) ⟨h1, hl⟩ (fun M1 hM1 => ?_)
  obtain ⟨hj, hl1⟩ := hM1
  have hm := hj.1
  have hf := hj.2.1
  have hf6 : M1 370 6 = nI (sn (M1 370)) := by rw [hf]; exact hw.s
  have hf12 : M1 370 12 = nI (mn (M1 370)) := by rw [hf]; exact hw.m
  have hs30 : sn (M1 370) ≤ 30 := by rw [hf]; exact h30
  have hm6 : mn (M1 370) ≤ 6 := by rw [hf]; exact h6
  refine g_iload_1 (pc := 5) C dX7_farmer_5 ?_
  refine g_S1ie (pc := 6) C e_X7_farmer_125 (Nat.le_of_ble_eq_true rfl) rfl dX7_farmer_6 (c7_isFarmer) ?_
  refine g_if_ne (pc := 9) (tgt := 15) C dX7_farmer_9 (by decide) (fun c9 => ?_) (fun c9 => ?_)
  · have hi : isF w := if1 c9
    obtain ⟨a, ha, hx, hcl⟩ := isF_of hi
    refine g_iload_2 (pc := 15) C dX7_farmer_15 ?_
    by_cases h16_0 : k = 0
    · refine g_tableIn (pc := 16) (tgt := 60) C dX7_farmer_16 (by rw [h16_0]; decide) (by rw [h16_0]; decide) (by rw [h16_0]; rfl) (by decide) ?_
      refine g_aload_0 (pc := 60) C dX7_farmer_60 ?_
      refine g_iload_1 (pc := 61) C dX7_farmer_61 ?_
      refine g_iload_2 (pc := 62) C dX7_farmer_62 ?_
      refine g_V2ie (pc := 63) C e_X7_farmer_66 (Nat.le_of_ble_eq_true rfl) rfl dX7_farmer_63 kk369 (c7_ofFarmer hm (i := a) (k := 0) hx (by rw [h16_0]; rfl) ha (by decide)) ?_
      rw [hf]
      exact g_iret (post := fun r M1 P1 => r = aFarmer A w k ∧ JM M1 P1 A ∧ FLo M P M1 P1) C F dX7_farmer_66 ⟨by rw [aFarmer, if_pos hi, hcl, if_pos h16_0], hj, hl1⟩
    by_cases h16_1 : k = 1
    · refine g_tableIn (pc := 16) (tgt := 60) C dX7_farmer_16 (by rw [h16_1]; decide) (by rw [h16_1]; decide) (by rw [h16_1]; rfl) (by decide) ?_
      refine g_aload_0 (pc := 60) C dX7_farmer_60 ?_
      refine g_iload_1 (pc := 61) C dX7_farmer_61 ?_
      refine g_iload_2 (pc := 62) C dX7_farmer_62 ?_
      refine g_V2ie (pc := 63) C e_X7_farmer_66 (Nat.le_of_ble_eq_true rfl) rfl dX7_farmer_63 kk369 (c7_ofFarmer hm (i := a) (k := 1) hx (by rw [h16_1]; rfl) ha (by decide)) ?_
      rw [hf]
      exact g_iret (post := fun r M1 P1 => r = aFarmer A w k ∧ JM M1 P1 A ∧ FLo M P M1 P1) C F dX7_farmer_66 ⟨by rw [aFarmer, if_pos hi, hcl, if_neg (by rw [h16_1]; decide), if_pos h16_1], hj, hl1⟩
    by_cases h16_2 : k = 2
    · refine g_tableIn (pc := 16) (tgt := 60) C dX7_farmer_16 (by rw [h16_2]; decide) (by rw [h16_2]; decide) (by rw [h16_2]; rfl) (by decide) ?_
      refine g_aload_0 (pc := 60) C dX7_farmer_60 ?_
      refine g_iload_1 (pc := 61) C dX7_farmer_61 ?_
      refine g_iload_2 (pc := 62) C dX7_farmer_62 ?_
      refine g_V2ie (pc := 63) C e_X7_farmer_66 (Nat.le_of_ble_eq_true rfl) rfl dX7_farmer_63 kk369 (c7_ofFarmer hm (i := a) (k := 2) hx (by rw [h16_2]; rfl) ha (by decide)) ?_
      rw [hf]
      exact g_iret (post := fun r M1 P1 => r = aFarmer A w k ∧ JM M1 P1 A ∧ FLo M P M1 P1) C F dX7_farmer_66 ⟨by rw [aFarmer, if_pos hi, hcl, if_neg (by rw [h16_2]; decide), if_neg (by rw [h16_2]; decide), if_pos h16_2], hj, hl1⟩
    by_cases h16_3 : k = 3
    · refine g_tableIn (pc := 16) (tgt := 60) C dX7_farmer_16 (by rw [h16_3]; decide) (by rw [h16_3]; decide) (by rw [h16_3]; rfl) (by decide) ?_
      refine g_aload_0 (pc := 60) C dX7_farmer_60 ?_
      refine g_iload_1 (pc := 61) C dX7_farmer_61 ?_
      refine g_iload_2 (pc := 62) C dX7_farmer_62 ?_
      refine g_V2ie (pc := 63) C e_X7_farmer_66 (Nat.le_of_ble_eq_true rfl) rfl dX7_farmer_63 kk369 (c7_ofFarmer hm (i := a) (k := 3) hx (by rw [h16_3]; rfl) ha (by decide)) ?_
      rw [hf]
      exact g_iret (post := fun r M1 P1 => r = aFarmer A w k ∧ JM M1 P1 A ∧ FLo M P M1 P1) C F dX7_farmer_66 ⟨by rw [aFarmer, if_pos hi, hcl, if_neg (by rw [h16_3]; decide), if_neg (by rw [h16_3]; decide), if_neg (by rw [h16_3]; decide), if_pos h16_3], hj, hl1⟩
    by_cases h16_4 : k = 4
    · refine g_tableIn (pc := 16) (tgt := 67) C dX7_farmer_16 (by rw [h16_4]; decide) (by rw [h16_4]; decide) (by rw [h16_4]; rfl) (by decide) ?_
      refine g_aload_0 (pc := 67) C dX7_farmer_67 ?_
      refine g_iload_1 (pc := 68) C dX7_farmer_68 ?_
      refine g_V1ie (pc := 69) C e_X7_farmer_183 (Nat.le_of_ble_eq_true rfl) rfl dX7_farmer_69 kk369 (c7_standingOf hm hf6 hs30) ?_
      rw [hf]
      exact g_iret (post := fun r M1 P1 => r = aFarmer A w k ∧ JM M1 P1 A ∧ FLo M P M1 P1) C F dX7_farmer_72 ⟨by rw [aFarmer, if_pos hi, if_neg (by rw [h16_4]; decide), if_neg (by rw [h16_4]; decide), if_neg (by rw [h16_4]; decide), if_neg (by rw [h16_4]; decide), if_pos h16_4], hj, hl1⟩
    by_cases h16_5 : k = 5
    · refine g_tableIn (pc := 16) (tgt := 73) C dX7_farmer_16 (by rw [h16_5]; decide) (by rw [h16_5]; decide) (by rw [h16_5]; rfl) (by decide) ?_
      refine g_aload_0 (pc := 73) C dX7_farmer_73 ?_
      refine g_iload_1 (pc := 74) C dX7_farmer_74 ?_
      refine g_iload_2 (pc := 75) C dX7_farmer_75 ?_
      refine g_iconst (pc := 76) (v := 1) C dX7_farmer_76 rfl ?_
      refine g_isub (pc := 77) C dX7_farmer_77 ?_
      refine g_V2ie (pc := 78) C e_X7_farmer_66 (Nat.le_of_ble_eq_true rfl) rfl dX7_farmer_78 kk369 (c7_ofFarmer hm (i := a) (k := 4) hx (by rw [h16_5]; rfl) ha (by decide)) ?_
      rw [hf]
      exact g_iret (post := fun r M1 P1 => r = aFarmer A w k ∧ JM M1 P1 A ∧ FLo M P M1 P1) C F dX7_farmer_81 ⟨by rw [aFarmer, if_pos hi, hcl, if_neg (by rw [h16_5]; decide), if_neg (by rw [h16_5]; decide), if_neg (by rw [h16_5]; decide), if_neg (by rw [h16_5]; decide), if_neg (by rw [h16_5]; decide), if_pos h16_5], hj, hl1⟩
    by_cases h16_6 : k = 6
    · refine g_tableIn (pc := 16) (tgt := 73) C dX7_farmer_16 (by rw [h16_6]; decide) (by rw [h16_6]; decide) (by rw [h16_6]; rfl) (by decide) ?_
      refine g_aload_0 (pc := 73) C dX7_farmer_73 ?_
      refine g_iload_1 (pc := 74) C dX7_farmer_74 ?_
      refine g_iload_2 (pc := 75) C dX7_farmer_75 ?_
      refine g_iconst (pc := 76) (v := 1) C dX7_farmer_76 rfl ?_
      refine g_isub (pc := 77) C dX7_farmer_77 ?_
      refine g_V2ie (pc := 78) C e_X7_farmer_66 (Nat.le_of_ble_eq_true rfl) rfl dX7_farmer_78 kk369 (c7_ofFarmer hm (i := a) (k := 5) hx (by rw [h16_6]; rfl) ha (by decide)) ?_
      rw [hf]
      exact g_iret (post := fun r M1 P1 => r = aFarmer A w k ∧ JM M1 P1 A ∧ FLo M P M1 P1) C F dX7_farmer_81 ⟨by rw [aFarmer, if_pos hi, hcl, if_neg (by rw [h16_6]; decide), if_neg (by rw [h16_6]; decide), if_neg (by rw [h16_6]; decide), if_neg (by rw [h16_6]; decide), if_neg (by rw [h16_6]; decide), if_neg (by rw [h16_6]; decide), if_pos h16_6], hj, hl1⟩
    have n16_0 := lv_neT h16_0 (a := 0) rfl
    have n16_1 := lv_neT h16_1 (a := 1) rfl
    have n16_2 := lv_neT h16_2 (a := 2) rfl
    have n16_3 := lv_neT h16_3 (a := 3) rfl
    have n16_4 := lv_neT h16_4 (a := 4) rfl
    have n16_5 := lv_neT h16_5 (a := 5) rfl
    have n16_6 := lv_neT h16_6 (a := 6) rfl
    refine g_tableOut (pc := 16) (tgt := 82) C dX7_farmer_16 (by omega) (by decide) ?_
    refine g_ldc (pc := 82) C k_X7_farmer_116 dX7_farmer_82 ?_
    exact g_iret (post := fun r M1 P1 => r = aFarmer A w k ∧ JM M1 P1 A ∧ FLo M P M1 P1) C F dX7_farmer_84 ⟨by rw [aFarmer, if_pos hi, if_neg h16_0, if_neg h16_1, if_neg h16_2, if_neg h16_3, if_neg h16_4, if_neg h16_5, if_neg h16_6], hj, hl1⟩
  · have hi : ¬ isF w := if0 c9
    refine g_ldc (pc := 12) C k_X7_farmer_115 dX7_farmer_12 ?_
    exact g_iret (post := fun r M1 P1 => r = aFarmer A w k ∧ JM M1 P1 A ∧ FLo M P M1 P1) C F dX7_farmer_14 ⟨by exact (if_neg hi).symm, hj, hl1⟩

set_option maxRecDepth 100000 in
set_option maxHeartbeats 1000000 in
theorem c7_fuel {l : Launch} {D : va_G} {cy : Nat → ClassId} {B : Nat} {M : MM} {P : PP} {x : Int32} {A : AS} {c : Nat} (h : JM M P A) (hA : WA c A) : KF l D cy B yX7_fuel wsX7_fuel 2 44 [Value.ref (B + 369), Value.int x] M P (fun r M1 P1 => r = aFuel A x ∧ JM M1 P1 A ∧ FLo M P M1 P1) := by
  refine met_KF (cc := cX7_fuel) (maxL := 2) (ret := (some .float)) (lv := [some (Value.ref (B + 369)), some (Value.int x)]) (by decide) rfl rfl rfl (Nat.le_of_ble_eq_true rfl) ?_
  intro X C F
  have hw := hA.1
  have h6 := hw.m6
  have h30 := hw.s30
  refine g_aload_0 (pc := 0) C dX7_fuel_0 ?_
  refine g_iconst (pc := 1) (v := 0) C dX7_fuel_1 rfl ?_
  refine g_puti (pc := 2) C pf_X7_fuel_28 kk369 dX7_fuel_2 ?_
  obtain ⟨h1, hl⟩ := JM_thr h 0
  refine g_memo (fun M1 => JM M1 P A ∧ FLo M P M1 P) ⟨h1, hl⟩ (fun M1 hM1 => ?_)
  obtain ⟨hj, hl1⟩ := hM1
  have hm := hj.1
  have hf := hj.2.1
  have hf6 : M1 370 6 = nI (sn (M1 370)) := by rw [hf]; exact hw.s
  have hf12 : M1 370 12 = nI (mn (M1 370)) := by rw [hf]; exact hw.m
  have hs30 : sn (M1 370) ≤ 30 := by rw [hf]; exact h30
  have hm6 : mn (M1 370) ≤ 6 := by rw [hf]; exact h6
  refine g_aload_0 (pc := 5) C dX7_fuel_5 ?_
  refine g_iload_1 (pc := 6) C dX7_fuel_6 ?_
  refine g_V1ie (pc := 7) C e_X7_fuel_128 (Nat.le_of_ble_eq_true rfl) rfl dX7_fuel_7 kk369 (c7_isMachine (by assumption)) ?_
  rw [hf]
  refine g_if_eq (pc := 10) (tgt := 21) C dX7_fuel_10 (by decide) (fun c10 => ?_) (fun c10 => ?_)
  · have hi : ¬ isM A x := if0 c10
    refine g_ldcf (pc := 21) C k_X7_fuel_186 dX7_fuel_21 ?_
    exact g_fret (post := fun r M1 P1 => r = aFuel A x ∧ JM M1 P1 A ∧ FLo M P M1 P1) C F dX7_fuel_23 ⟨by rw [aFuel, if_neg hi], hj, hl1⟩
  · have hi : isM A x := if1 c10
    obtain ⟨a, ha, hx, hcl⟩ := isM_of hA hi
    refine g_aload_0 (pc := 13) C dX7_fuel_13 ?_
    refine g_iload_1 (pc := 14) C dX7_fuel_14 ?_
    refine g_V1fe (pc := 15) C e_X7_fuel_77 (Nat.le_of_ble_eq_true rfl) rfl dX7_fuel_15 kk369 (c7_fuelOf hm hx (by omega) (by rw [hf]; exact hw.sni ha)) ?_
    rw [hf]
    refine g_goto (pc := 18) (tgt := 23) C dX7_fuel_18 (by decide) ?_
    exact g_fret (post := fun r M1 P1 => r = aFuel A x ∧ JM M1 P1 A ∧ FLo M P M1 P1) C F dX7_fuel_23 ⟨by rw [aFuel, if_pos hi, hcl], hj, hl1⟩

set_option maxRecDepth 100000 in
set_option maxHeartbeats 1000000 in
theorem c7_hours {l : Launch} {D : va_G} {cy : Nat → ClassId} {B : Nat} {M : MM} {P : PP} {x w : Int32} {A : AS} {c : Nat} (h : JM M P A) (hA : WA c A) : KI l D cy B yX7_hours wsX7_hours 2 43 [Value.ref (B + 369), Value.int x, Value.int w] M P (fun r M1 P1 => r = aHours A x w ∧ JM M1 P1 A ∧ FLo M P M1 P1) := by
  refine met_KI (cc := cX7_hours) (maxL := 3) (ret := (some .int)) (lv := [some (Value.ref (B + 369)), some (Value.int x), some (Value.int w)]) (by decide) rfl rfl rfl (Nat.le_of_ble_eq_true rfl) ?_
  intro X C F
  have hw := hA.1
  have h6 := hw.m6
  have h30 := hw.s30
  refine g_aload_0 (pc := 0) C dX7_hours_0 ?_
  refine g_iconst (pc := 1) (v := 0) C dX7_hours_1 rfl ?_
  refine g_puti (pc := 2) C pf_X7_hours_28 kk369 dX7_hours_2 ?_
  obtain ⟨h1, hl⟩ := JM_thr h 0
  refine g_memo (fun M1 => JM M1 P A ∧ FLo M P M1 P) ⟨h1, hl⟩ (fun M1 hM1 => ?_)
  obtain ⟨hj, hl1⟩ := hM1
  have hm := hj.1
  have hf := hj.2.1
  have hf6 : M1 370 6 = nI (sn (M1 370)) := by rw [hf]; exact hw.s
  have hf12 : M1 370 12 = nI (mn (M1 370)) := by rw [hf]; exact hw.m
  have hs30 : sn (M1 370) ≤ 30 := by rw [hf]; exact h30
  have hm6 : mn (M1 370) ≤ 6 := by rw [hf]; exact h6
  refine g_aload_0 (pc := 5) C dX7_hours_5 ?_
  refine g_iload_1 (pc := 6) C dX7_hours_6 ?_
  refine g_V1ie (pc := 7) C e_X7_hours_128 (Nat.le_of_ble_eq_true rfl) rfl dX7_hours_7 kk369 (c7_isMachine (by assumption)) ?_
  rw [hf]
  refine g_if_eq (pc := 10) (tgt := 32) C dX7_hours_10 (by decide) (fun c10 => ?_) (fun c10 => ?_)
  · have hi : ¬ isM A x := if0 c10
    refine g_ldc (pc := 32) C k_X7_hours_115 dX7_hours_32 ?_
    exact g_iret (post := fun r M1 P1 => r = aHours A x w ∧ JM M1 P1 A ∧ FLo M P M1 P1) C F dX7_hours_34 ⟨by rw [aHours, if_neg (fun z => hi z.1)], hj, hl1⟩
  · have hi : isM A x := if1 c10
    obtain ⟨a, ha, hx, hcl⟩ := isM_of hA hi
    refine g_iload_2 (pc := 13) C dX7_hours_13 ?_
    refine g_S1ie (pc := 14) C e_X7_hours_125 (Nat.le_of_ble_eq_true rfl) rfl dX7_hours_14 (c7_isFarmer) ?_
    refine g_if_eq (pc := 17) (tgt := 32) C dX7_hours_17 (by decide) (fun c17 => ?_) (fun c17 => ?_)
    · have hg : ¬ isF w := if0 c17
      refine g_ldc (pc := 32) C k_X7_hours_115 dX7_hours_32 ?_
      exact g_iret (post := fun r M1 P1 => r = aHours A x w ∧ JM M1 P1 A ∧ FLo M P M1 P1) C F dX7_hours_34 ⟨by rw [aHours, if_neg (fun z => hg z.2)], hj, hl1⟩
    · have hg : isF w := if1 c17
      obtain ⟨b, hb, hy, hcb⟩ := isF_of hg
      refine g_aload_0 (pc := 20) C dX7_hours_20 ?_
      refine g_iload_1 (pc := 21) C dX7_hours_21 ?_
      refine g_bipush (pc := 22) (v := 8) C dX7_hours_22 rfl ?_
      refine g_iload_2 (pc := 24) C dX7_hours_24 ?_
      refine g_iadd (pc := 25) C dX7_hours_25 ?_
      refine g_V2ie (pc := 26) C e_X7_hours_51 (Nat.le_of_ble_eq_true rfl) rfl dX7_hours_26 kk369 (c7_ofMachine hm (i := a) (k := 8 + b) hx (by rw [hy]; exact nI_add 8 b) (by omega) (by omega)) ?_
      rw [hf]
      refine g_goto (pc := 29) (tgt := 34) C dX7_hours_29 (by decide) ?_
      exact g_iret (post := fun r M1 P1 => r = aHours A x w ∧ JM M1 P1 A ∧ FLo M P M1 P1) C F dX7_hours_34 ⟨by rw [aHours, if_pos ⟨hi, hg⟩, hcl, hcb], hj, hl1⟩

set_option maxRecDepth 100000 in
set_option maxHeartbeats 1000000 in
theorem c7_booked {l : Launch} {D : va_G} {cy : Nat → ClassId} {B : Nat} {M : MM} {P : PP} {x d : Int32} {A : AS} {c : Nat} (h : JM M P A) (hA : WA c A) : KI l D cy B yX7_booked wsX7_booked 2 46 [Value.ref (B + 369), Value.int x, Value.int d] M P (fun r M1 P1 => r = aBooked A x d ∧ JM M1 P1 A ∧ FLo M P M1 P1) := by
  refine met_KI (cc := cX7_booked) (maxL := 3) (ret := (some .int)) (lv := [some (Value.ref (B + 369)), some (Value.int x), some (Value.int d)]) (by decide) rfl rfl rfl (Nat.le_of_ble_eq_true rfl) ?_
  intro X C F
  have hw := hA.1
  have h6 := hw.m6
  have h30 := hw.s30
  refine g_aload_0 (pc := 0) C dX7_booked_0 ?_
  refine g_iconst (pc := 1) (v := 0) C dX7_booked_1 rfl ?_
  refine g_puti (pc := 2) C pf_X7_booked_28 kk369 dX7_booked_2 ?_
  obtain ⟨h1, hl⟩ := JM_thr h 0
  refine g_memo (fun M1 => JM M1 P A ∧ FLo M P M1 P) ⟨h1, hl⟩ (fun M1 hM1 => ?_)
  obtain ⟨hj, hl1⟩ := hM1
  have hm := hj.1
  have hf := hj.2.1
  have hf6 : M1 370 6 = nI (sn (M1 370)) := by rw [hf]; exact hw.s
  have hf12 : M1 370 12 = nI (mn (M1 370)) := by rw [hf]; exact hw.m
  have hs30 : sn (M1 370) ≤ 30 := by rw [hf]; exact h30
  have hm6 : mn (M1 370) ≤ 6 := by rw [hf]; exact h6
  refine g_aload_0 (pc := 5) C dX7_booked_5 ?_
  refine g_iload_1 (pc := 6) C dX7_booked_6 ?_
  refine g_V1ie (pc := 7) C e_X7_booked_128 (Nat.le_of_ble_eq_true rfl) rfl dX7_booked_7 kk369 (c7_isMachine (by assumption)) ?_
  rw [hf]
  refine g_if_ne (pc := 10) (tgt := 16) C dX7_booked_10 (by decide) (fun c10 => ?_) (fun c10 => ?_)
  · have hi : isM A x := if1 c10
    obtain ⟨a, ha, hx, hcl⟩ := isM_of hA hi
    refine g_iload_2 (pc := 16) C dX7_booked_16 ?_
    refine g_iconst (pc := 17) (v := 1) C dX7_booked_17 rfl ?_
    refine g_bipush (pc := 18) (v := 99) C dX7_booked_18 rfl ?_
    refine g_S3ie (pc := 20) C e_X7_booked_32 (Nat.le_of_ble_eq_true rfl) rfl dX7_booked_20 (c7_in) ?_
    refine g_if_eq (pc := 23) (tgt := 42) C dX7_booked_23 (by decide) (fun c23 => ?_) (fun c23 => ?_)
    · refine g_ldc (pc := 42) C k_X7_booked_116 dX7_booked_42 ?_
      exact g_iret (post := fun r M1 P1 => r = aBooked A x d ∧ JM M1 P1 A ∧ FLo M P M1 P1) C F dX7_booked_44 ⟨by rw [aBooked, if_pos hi, if_neg (if0 c23)], hj, hl1⟩
    · refine g_aload_0 (pc := 26) C dX7_booked_26 ?_
      refine g_iload_1 (pc := 27) C dX7_booked_27 ?_
      refine g_aload_0 (pc := 28) C dX7_booked_28 ?_
      refine g_getr (pc := 29) C hm.s fl_X7_booked_7 kk369 dX7_booked_29 ?_
      refine g_iconst (pc := 32) (v := 3) C dX7_booked_32 rfl ?_
      refine g_iald (pc := 33) (j := 3) C kk370 rfl ln370 (by omega) dX7_booked_33 ?_
      rw [hf]
      refine g_iload_2 (pc := 34) C dX7_booked_34 ?_
      refine g_iadd (pc := 35) C dX7_booked_35 ?_
      refine g_V2ie (pc := 36) C e_X7_booked_84 (Nat.le_of_ble_eq_true rfl) rfl dX7_booked_36 kk369 (c7_bookedOn hm hf6 hs30) ?_
      rw [hf]
      refine g_goto (pc := 39) (tgt := 44) C dX7_booked_39 (by decide) ?_
      exact g_iret (post := fun r M1 P1 => r = aBooked A x d ∧ JM M1 P1 A ∧ FLo M P M1 P1) C F dX7_booked_44 ⟨by rw [aBooked, if_pos hi, if_pos (if1 c23)], hj, hl1⟩
  · have hi : ¬ isM A x := if0 c10
    refine g_ldc (pc := 13) C k_X7_booked_115 dX7_booked_13 ?_
    exact g_iret (post := fun r M1 P1 => r = aBooked A x d ∧ JM M1 P1 A ∧ FLo M P M1 P1) C F dX7_booked_15 ⟨by exact (if_neg hi).symm, hj, hl1⟩

set_option maxRecDepth 100000 in
set_option maxHeartbeats 1000000 in
theorem c7_wet {l : Launch} {D : va_G} {cy : Nat → ClassId} {B : Nat} {M : MM} {P : PP} {d : Int32} {A : AS} {c : Nat} (h : JM M P A) (hA : WA c A) : KI l D cy B yX7_wet wsX7_wet 1 22 [Value.ref (B + 369), Value.int d] M P (fun r M1 P1 => r = aWet A d ∧ JM M1 P1 A ∧ FLo M P M1 P1) := by
  refine met_KI (cc := cX7_wet) (maxL := 2) (ret := (some .int)) (lv := [some (Value.ref (B + 369)), some (Value.int d)]) (by decide) rfl rfl rfl (Nat.le_of_ble_eq_true rfl) ?_
  intro X C F
  have hw := hA.1
  have h6 := hw.m6
  have h30 := hw.s30
  refine g_aload_0 (pc := 0) C dX7_wet_0 ?_
  refine g_iconst (pc := 1) (v := 0) C dX7_wet_1 rfl ?_
  refine g_puti (pc := 2) C pf_X7_wet_28 kk369 dX7_wet_2 ?_
  obtain ⟨h1, hl⟩ := JM_thr h 0
  refine g_memo (fun M1 => JM M1 P A ∧ FLo M P M1 P) ⟨h1, hl⟩ (fun M1 hM1 => ?_)
  obtain ⟨hj, hl1⟩ := hM1
  have hm := hj.1
  have hf := hj.2.1
  have hf6 : M1 370 6 = nI (sn (M1 370)) := by rw [hf]; exact hw.s
  have hf12 : M1 370 12 = nI (mn (M1 370)) := by rw [hf]; exact hw.m
  have hs30 : sn (M1 370) ≤ 30 := by rw [hf]; exact h30
  have hm6 : mn (M1 370) ≤ 6 := by rw [hf]; exact h6
  refine g_iload_1 (pc := 5) C dX7_wet_5 ?_
  refine g_iconst (pc := 6) (v := 0) C dX7_wet_6 rfl ?_
  refine g_bipush (pc := 7) (v := 99) C dX7_wet_7 rfl ?_
  refine g_S3ie (pc := 9) C e_X7_wet_32 (Nat.le_of_ble_eq_true rfl) rfl dX7_wet_9 (c7_in) ?_
  refine g_if_ne (pc := 12) (tgt := 18) C dX7_wet_12 (by decide) (fun c12 => ?_) (fun c12 => ?_)
  · refine g_aload_0 (pc := 18) C dX7_wet_18 ?_
    refine g_aload_0 (pc := 19) C dX7_wet_19 ?_
    refine g_getr (pc := 20) C hm.s fl_X7_wet_7 kk369 dX7_wet_20 ?_
    refine g_iconst (pc := 23) (v := 3) C dX7_wet_23 rfl ?_
    refine g_iald (pc := 24) (j := 3) C kk370 rfl ln370 (by omega) dX7_wet_24 ?_
    rw [hf]
    refine g_iload_1 (pc := 25) C dX7_wet_25 ?_
    refine g_iadd (pc := 26) C dX7_wet_26 ?_
    refine g_V1ie (pc := 27) C e_X7_wet_73 (Nat.le_of_ble_eq_true rfl) rfl dX7_wet_27 kk369 (c7_isWet hm) ?_
    rw [hf]
    refine g_if_eq (pc := 30) (tgt := 37) C dX7_wet_30 (by decide) (fun c30 => ?_) (fun c30 => ?_)
    · refine g_iconst (pc := 37) (v := 0) C dX7_wet_37 rfl ?_
      exact g_iret (post := fun r M1 P1 => r = aWet A d ∧ JM M1 P1 A ∧ FLo M P M1 P1) C F dX7_wet_38 ⟨by rw [aWet, if_pos (if1 c12), c30], hj, hl1⟩
    · refine g_iconst (pc := 33) (v := 1) C dX7_wet_33 rfl ?_
      refine g_goto (pc := 34) (tgt := 38) C dX7_wet_34 (by decide) ?_
      exact g_iret (post := fun r M1 P1 => r = aWet A d ∧ JM M1 P1 A ∧ FLo M P M1 P1) C F dX7_wet_38 ⟨by rw [aWet, if_pos (if1 c12)]; unfold wet at c30 ⊢; rw [if_pos (if1 c30)], hj, hl1⟩
  · refine g_ldc (pc := 15) C k_X7_wet_116 dX7_wet_15 ?_
    exact g_iret (post := fun r M1 P1 => r = aWet A d ∧ JM M1 P1 A ∧ FLo M P M1 P1) C F dX7_wet_17 ⟨by rw [aWet, if_neg (if0 c12)], hj, hl1⟩

set_option maxRecDepth 100000 in
set_option maxHeartbeats 1000000 in
theorem c7_most {l : Launch} {D : va_G} {cy : Nat → ClassId} {B : Nat} {M : MM} {P : PP} {x : Int32} {A : AS} {c : Nat} (h : JM M P A) (hA : WA c A) : KI l D cy B yX7_most wsX7_most 2 43 [Value.ref (B + 369), Value.int x] M P (fun r M1 P1 => r = aMost A x ∧ JM M1 P1 A ∧ FLo M P M1 P1) := by
  refine met_KI (cc := cX7_most) (maxL := 6) (ret := (some .int)) (lv := [some (Value.ref (B + 369)), some (Value.int x), none, none, none, none]) (by decide) rfl rfl rfl (Nat.le_of_ble_eq_true rfl) ?_
  intro X C F
  have hw := hA.1
  have h6 := hw.m6
  have h30 := hw.s30
  refine g_aload_0 (pc := 0) C dX7_most_0 ?_
  refine g_iconst (pc := 1) (v := 0) C dX7_most_1 rfl ?_
  refine g_puti (pc := 2) C pf_X7_most_28 kk369 dX7_most_2 ?_
  obtain ⟨h1, hl⟩ := JM_thr h 0
  refine g_memo (fun M1 => JM M1 P A ∧ FLo M P M1 P) ⟨h1, hl⟩ (fun M1 hM1 => ?_)
  obtain ⟨hj, hl1⟩ := hM1
  have hm := hj.1
  have hf := hj.2.1
  have hf6 : M1 370 6 = nI (sn (M1 370)) := by rw [hf]; exact hw.s
  have hf12 : M1 370 12 = nI (mn (M1 370)) := by rw [hf]; exact hw.m
  have hs30 : sn (M1 370) ≤ 30 := by rw [hf]; exact h30
  have hm6 : mn (M1 370) ≤ 6 := by rw [hf]; exact h6
  refine g_aload_0 (pc := 5) C dX7_most_5 ?_
  refine g_iload_1 (pc := 6) C dX7_most_6 ?_
  refine g_V1ie (pc := 7) C e_X7_most_128 (Nat.le_of_ble_eq_true rfl) rfl dX7_most_7 kk369 (c7_isMachine (by assumption)) ?_
  rw [hf]
  refine g_if_ne (pc := 10) (tgt := 16) C dX7_most_10 (by decide) (fun c10 => ?_) (fun c10 => ?_)
  · have hi : isM A x := if1 c10
    obtain ⟨a, ha, hx, hcl⟩ := isM_of hA hi
    refine g_ldc (pc := 16) C k_X7_most_40 dX7_most_16 ?_
    refine g_istore_2 (pc := 18) C dX7_most_18 ?_
    refine g_iconst (pc := 19) (v := 0) C dX7_most_19 rfl ?_
    refine g_istore_3 (pc := 20) C dX7_most_20 ?_
    refine g_iconst (pc := 21) (v := 0) C dX7_most_21 rfl ?_
    refine g_istore_4 (pc := 22) C dX7_most_22 ?_
    refine ind_m (fun (k : Nat) => 6 - k) (p := fun (k : Nat) => k ≤ 6 → G X D cy B 0 0 376 M1 P 24 [some (Value.ref (B + 369)), some (Value.int x), some (Value.int (bfm (fun j => A.f (49 + 14 * a + (8 + j))) k).1), some (Value.int (bfm (fun j => A.f (49 + 14 * a + (8 + j))) k).2), some (Value.int (nI k)), none] []) ?_ 0 (Nat.zero_le _)
    intro k ih hk
    refine g_iload_4 (pc := 24) C dX7_most_24 ?_
    refine g_bipush (pc := 26) (v := 6) C dX7_most_26 rfl ?_
    refine g_icmp_ge (pc := 28) (tgt := 75) C dX7_most_28 (by decide) (fun c28 => ?_) (fun c28 => ?_)
    · have e : 6 ≤ k := i_le (a := 6) (by omega) (by omega) c28
      refine g_iload_2 (pc := 75) C dX7_most_75 ?_
      exact g_iret (post := fun r M1 P1 => r = aMost A x ∧ JM M1 P1 A ∧ FLo M P M1 P1) C F dX7_most_76 ⟨by rw [aMost, if_pos hi, hcl, show k = 6 by omega], hj, hl1⟩
    · have hk2 : k < 6 := i_nle (a := 6) (by omega) (by omega) c28
      refine g_aload_0 (pc := 31) C dX7_most_31 ?_
      refine g_iload_1 (pc := 32) C dX7_most_32 ?_
      refine g_bipush (pc := 33) (v := 8) C dX7_most_33 rfl ?_
      refine g_iload_4 (pc := 35) C dX7_most_35 ?_
      refine g_iadd (pc := 37) C dX7_most_37 ?_
      refine g_V2ie (pc := 38) C e_X7_most_51 (Nat.le_of_ble_eq_true rfl) rfl dX7_most_38 kk369 (c7_ofMachine hm (i := a) (k := 8 + k) hx (nI_add 8 k) (by omega) (by omega)) ?_
      rw [hf]
      refine g_istore_5 (pc := 41) C dX7_most_41 ?_
      refine g_iload_5 (pc := 43) C dX7_most_43 ?_
      refine g_iload_3 (pc := 45) C dX7_most_45 ?_
      refine g_icmp_le (pc := 46) (tgt := 54) C dX7_most_46 (by decide) (fun c46 => ?_) (fun c46 => ?_)
      · have e2 : bfm (fun j => A.f (49 + 14 * a + (8 + j))) (k + 1) = bfm (fun j => A.f (49 + 14 * a + (8 + j))) k := by simp only [bfm]; rw [if_neg (Int32.not_lt.mpr c46)]
        refine g_iload_2 (pc := 54) C dX7_most_54 ?_
        refine g_istore_2 (pc := 55) C dX7_most_55 ?_
        refine g_iload_5 (pc := 56) C dX7_most_56 ?_
        refine g_iload_3 (pc := 58) C dX7_most_58 ?_
        refine g_icmp_le (pc := 59) (tgt := 67) C dX7_most_59 (by decide) (fun c59 => ?_) (fun c59 => ?_)
        · refine g_iload_3 (pc := 67) C dX7_most_67 ?_
          refine g_istore_3 (pc := 68) C dX7_most_68 ?_
          refine g_iinc_4 (pc := 69) (v := nI (k + 1)) C dX7_most_69 (nI_1 k) ?_
          refine g_goto (pc := 72) (tgt := 24) C dX7_most_72 (by decide) ?_
          refine g_kill_5 ?_
          have h2 := ih (k + 1) (by omega) (by omega)
          rw [e2] at h2
          exact h2
        · exact absurd c46 c59
      · have e2 : bfm (fun j => A.f (49 + 14 * a + (8 + j))) (k + 1) = (nI k, A.f (49 + 14 * a + (8 + k))) := by simp only [bfm]; rw [if_pos (Int32.not_le.mp c46)]
        refine g_iload_4 (pc := 49) C dX7_most_49 ?_
        refine g_goto (pc := 51) (tgt := 55) C dX7_most_51 (by decide) ?_
        refine g_istore_2 (pc := 55) C dX7_most_55 ?_
        refine g_iload_5 (pc := 56) C dX7_most_56 ?_
        refine g_iload_3 (pc := 58) C dX7_most_58 ?_
        refine g_icmp_le (pc := 59) (tgt := 67) C dX7_most_59 (by decide) (fun c59 => ?_) (fun c59 => ?_)
        · exact absurd c59 c46
        · refine g_iload_5 (pc := 62) C dX7_most_62 ?_
          refine g_goto (pc := 64) (tgt := 68) C dX7_most_64 (by decide) ?_
          refine g_istore_3 (pc := 68) C dX7_most_68 ?_
          refine g_iinc_4 (pc := 69) (v := nI (k + 1)) C dX7_most_69 (nI_1 k) ?_
          refine g_goto (pc := 72) (tgt := 24) C dX7_most_72 (by decide) ?_
          refine g_kill_5 ?_
          have h2 := ih (k + 1) (by omega) (by omega)
          rw [e2] at h2
          exact h2
  · have hi : ¬ isM A x := if0 c10
    refine g_ldc (pc := 13) C k_X7_most_115 dX7_most_13 ?_
    exact g_iret (post := fun r M1 P1 => r = aMost A x ∧ JM M1 P1 A ∧ FLo M P M1 P1) C F dX7_most_15 ⟨by exact (if_neg hi).symm, hj, hl1⟩

set_option maxRecDepth 100000 in
set_option maxHeartbeats 1000000 in
theorem c7_countA {l : Launch} {D : va_G} {cy : Nat → ClassId} {B : Nat} {M : MM} {P : PP} {k : Int32} {A : AS} {c : Nat} (h : JM M P A) (hA : WA c A) (hk : ¬ (15 ≤ k ∧ k ≤ 17)) : KI l D cy B yX7_count wsX7_count 2 44 [Value.ref (B + 369), Value.int k] M P (fun r M1 P1 => r = aCount A k ∧ JM M1 P1 A ∧ FLo M P M1 P1) := by
  refine met_KI (cc := cX7_count) (maxL := 2) (ret := (some .int)) (lv := [some (Value.ref (B + 369)), some (Value.int k)]) (by decide) rfl rfl rfl (Nat.le_of_ble_eq_true rfl) ?_
  intro X C F
  have hw := hA.1
  have h6 := hw.m6
  have h30 := hw.s30
  refine g_aload_0 (pc := 0) C dX7_count_0 ?_
  refine g_iconst (pc := 1) (v := 0) C dX7_count_1 rfl ?_
  refine g_puti (pc := 2) C pf_X7_count_28 kk369 dX7_count_2 ?_
  obtain ⟨h1, hl⟩ := JM_thr h 0
  refine g_memo (fun M1 => JM M1 P A ∧ FLo M P M1 P) ⟨h1, hl⟩ (fun M1 hM1 => ?_)
  obtain ⟨hj, hl1⟩ := hM1
  have hm := hj.1
  have hf := hj.2.1
  have hf6 : M1 370 6 = nI (sn (M1 370)) := by rw [hf]; exact hw.s
  have hf12 : M1 370 12 = nI (mn (M1 370)) := by rw [hf]; exact hw.m
  have hs30 : sn (M1 370) ≤ 30 := by rw [hf]; exact h30
  have hm6 : mn (M1 370) ≤ 6 := by rw [hf]; exact h6
  refine g_iload_1 (pc := 5) C dX7_count_5 ?_
  by_cases h6_0 : k = 0
  · refine g_tableIn (pc := 6) (tgt := 80) C dX7_count_6 (by rw [h6_0]; decide) (by rw [h6_0]; decide) (by rw [h6_0]; rfl) (by decide) ?_
    refine g_aload_0 (pc := 80) C dX7_count_80 ?_
    refine g_getr (pc := 81) C hm.s fl_X7_count_7 kk369 dX7_count_81 ?_
    refine g_iconst (pc := 84) (v := 3) C dX7_count_84 rfl ?_
    refine g_iald (pc := 85) (j := 3) C kk370 rfl ln370 (by omega) dX7_count_85 ?_
    rw [hf]
    exact g_iret (post := fun r M1 P1 => r = aCount A k ∧ JM M1 P1 A ∧ FLo M P M1 P1) C F dX7_count_86 ⟨by rw [aCount, if_pos h6_0], hj, hl1⟩
  by_cases h6_1 : k = 1
  · refine g_tableIn (pc := 6) (tgt := 87) C dX7_count_6 (by rw [h6_1]; decide) (by rw [h6_1]; decide) (by rw [h6_1]; rfl) (by decide) ?_
    refine g_aload_0 (pc := 87) C dX7_count_87 ?_
    refine g_getr (pc := 88) C hm.s fl_X7_count_7 kk369 dX7_count_88 ?_
    refine g_iconst (pc := 91) (v := 3) C dX7_count_91 rfl ?_
    refine g_iald (pc := 92) (j := 3) C kk370 rfl ln370 (by omega) dX7_count_92 ?_
    rw [hf]
    refine g_S1ie (pc := 93) C e_X7_count_44 (Nat.le_of_ble_eq_true rfl) rfl dX7_count_93 (c7_season) ?_
    exact g_iret (post := fun r M1 P1 => r = aCount A k ∧ JM M1 P1 A ∧ FLo M P M1 P1) C F dX7_count_96 ⟨by rw [aCount, if_neg (by rw [h6_1]; decide), if_pos h6_1], hj, hl1⟩
  by_cases h6_2 : k = 2
  · refine g_tableIn (pc := 6) (tgt := 97) C dX7_count_6 (by rw [h6_2]; decide) (by rw [h6_2]; decide) (by rw [h6_2]; rfl) (by decide) ?_
    refine g_aload_0 (pc := 97) C dX7_count_97 ?_
    refine g_getr (pc := 98) C hm.s fl_X7_count_7 kk369 dX7_count_98 ?_
    refine g_bipush (pc := 101) (v := 12) C dX7_count_101 rfl ?_
    refine g_iald (pc := 103) (j := 12) C kk370 rfl ln370 (by omega) dX7_count_103 ?_
    rw [hf]
    exact g_iret (post := fun r M1 P1 => r = aCount A k ∧ JM M1 P1 A ∧ FLo M P M1 P1) C F dX7_count_104 ⟨by rw [aCount, if_neg (by rw [h6_2]; decide), if_neg (by rw [h6_2]; decide), if_pos h6_2], hj, hl1⟩
  by_cases h6_3 : k = 3
  · refine g_tableIn (pc := 6) (tgt := 105) C dX7_count_6 (by rw [h6_3]; decide) (by rw [h6_3]; decide) (by rw [h6_3]; rfl) (by decide) ?_
    refine g_aload_0 (pc := 105) C dX7_count_105 ?_
    refine g_getr (pc := 106) C hm.s fl_X7_count_7 kk369 dX7_count_106 ?_
    refine g_bipush (pc := 109) (v := 6) C dX7_count_109 rfl ?_
    refine g_iald (pc := 111) (j := 6) C kk370 rfl ln370 (by omega) dX7_count_111 ?_
    rw [hf]
    exact g_iret (post := fun r M1 P1 => r = aCount A k ∧ JM M1 P1 A ∧ FLo M P M1 P1) C F dX7_count_112 ⟨by rw [aCount, if_neg (by rw [h6_3]; decide), if_neg (by rw [h6_3]; decide), if_neg (by rw [h6_3]; decide), if_pos h6_3], hj, hl1⟩
  by_cases h6_4 : k = 4
  · refine g_tableIn (pc := 6) (tgt := 113) C dX7_count_6 (by rw [h6_4]; decide) (by rw [h6_4]; decide) (by rw [h6_4]; rfl) (by decide) ?_
    refine g_aload_0 (pc := 113) C dX7_count_113 ?_
    refine g_getr (pc := 114) C hm.s fl_X7_count_7 kk369 dX7_count_114 ?_
    refine g_iconst (pc := 117) (v := 5) C dX7_count_117 rfl ?_
    refine g_iald (pc := 118) (j := 5) C kk370 rfl ln370 (by omega) dX7_count_118 ?_
    rw [hf]
    exact g_iret (post := fun r M1 P1 => r = aCount A k ∧ JM M1 P1 A ∧ FLo M P M1 P1) C F dX7_count_119 ⟨by rw [aCount, if_neg (by rw [h6_4]; decide), if_neg (by rw [h6_4]; decide), if_neg (by rw [h6_4]; decide), if_neg (by rw [h6_4]; decide), if_pos h6_4], hj, hl1⟩
  by_cases h6_5 : k = 5
  · refine g_tableIn (pc := 6) (tgt := 120) C dX7_count_6 (by rw [h6_5]; decide) (by rw [h6_5]; decide) (by rw [h6_5]; rfl) (by decide) ?_
    refine g_aload_0 (pc := 120) C dX7_count_120 ?_
    refine g_getr (pc := 121) C hm.s fl_X7_count_7 kk369 dX7_count_121 ?_
    refine g_bipush (pc := 124) (v := 7) C dX7_count_124 rfl ?_
    refine g_iload_1 (pc := 126) C dX7_count_126 ?_
    refine g_iadd (pc := 127) C dX7_count_127 ?_
    refine g_iconst (pc := 128) (v := 5) C dX7_count_128 rfl ?_
    refine g_isub (pc := 129) C dX7_count_129 ?_
    refine g_iald (pc := 130) (j := 7) C kk370 (by rw [h6_5]; rfl) ln370 (by omega) dX7_count_130 ?_
    rw [hf]
    exact g_iret (post := fun r M1 P1 => r = aCount A k ∧ JM M1 P1 A ∧ FLo M P M1 P1) C F dX7_count_131 ⟨by rw [aCount, if_neg (by rw [h6_5]; decide), if_neg (by rw [h6_5]; decide), if_neg (by rw [h6_5]; decide), if_neg (by rw [h6_5]; decide), if_neg (by rw [h6_5]; decide), if_pos h6_5], hj, hl1⟩
  by_cases h6_6 : k = 6
  · refine g_tableIn (pc := 6) (tgt := 120) C dX7_count_6 (by rw [h6_6]; decide) (by rw [h6_6]; decide) (by rw [h6_6]; rfl) (by decide) ?_
    refine g_aload_0 (pc := 120) C dX7_count_120 ?_
    refine g_getr (pc := 121) C hm.s fl_X7_count_7 kk369 dX7_count_121 ?_
    refine g_bipush (pc := 124) (v := 7) C dX7_count_124 rfl ?_
    refine g_iload_1 (pc := 126) C dX7_count_126 ?_
    refine g_iadd (pc := 127) C dX7_count_127 ?_
    refine g_iconst (pc := 128) (v := 5) C dX7_count_128 rfl ?_
    refine g_isub (pc := 129) C dX7_count_129 ?_
    refine g_iald (pc := 130) (j := 8) C kk370 (by rw [h6_6]; rfl) ln370 (by omega) dX7_count_130 ?_
    rw [hf]
    exact g_iret (post := fun r M1 P1 => r = aCount A k ∧ JM M1 P1 A ∧ FLo M P M1 P1) C F dX7_count_131 ⟨by rw [aCount, if_neg (by rw [h6_6]; decide), if_neg (by rw [h6_6]; decide), if_neg (by rw [h6_6]; decide), if_neg (by rw [h6_6]; decide), if_neg (by rw [h6_6]; decide), if_neg (by rw [h6_6]; decide), if_pos h6_6], hj, hl1⟩
  by_cases h6_7 : k = 7
  · refine g_tableIn (pc := 6) (tgt := 132) C dX7_count_6 (by rw [h6_7]; decide) (by rw [h6_7]; decide) (by rw [h6_7]; rfl) (by decide) ?_
    refine g_aload_0 (pc := 132) C dX7_count_132 ?_
    refine g_getr (pc := 133) C hm.s fl_X7_count_7 kk369 dX7_count_133 ?_
    refine g_iconst (pc := 136) (v := 4) C dX7_count_136 rfl ?_
    refine g_iald (pc := 137) (j := 4) C kk370 rfl ln370 (by omega) dX7_count_137 ?_
    rw [hf]
    exact g_iret (post := fun r M1 P1 => r = aCount A k ∧ JM M1 P1 A ∧ FLo M P M1 P1) C F dX7_count_138 ⟨by rw [aCount, if_neg (by rw [h6_7]; decide), if_neg (by rw [h6_7]; decide), if_neg (by rw [h6_7]; decide), if_neg (by rw [h6_7]; decide), if_neg (by rw [h6_7]; decide), if_neg (by rw [h6_7]; decide), if_neg (by rw [h6_7]; decide), if_pos h6_7], hj, hl1⟩
  by_cases h6_8 : k = 8
  · refine g_tableIn (pc := 6) (tgt := 139) C dX7_count_6 (by rw [h6_8]; decide) (by rw [h6_8]; decide) (by rw [h6_8]; rfl) (by decide) ?_
    refine g_aload_0 (pc := 139) C dX7_count_139 ?_
    refine g_V0ie (pc := 140) C e_X7_count_191 (Nat.le_of_ble_eq_true rfl) rfl dX7_count_140 kk369 (c7_accounts hm) ?_
    rw [hf]
    exact g_iret (post := fun r M1 P1 => r = aCount A k ∧ JM M1 P1 A ∧ FLo M P M1 P1) C F dX7_count_143 ⟨by rw [aCount, if_neg (by rw [h6_8]; decide), if_neg (by rw [h6_8]; decide), if_neg (by rw [h6_8]; decide), if_neg (by rw [h6_8]; decide), if_neg (by rw [h6_8]; decide), if_neg (by rw [h6_8]; decide), if_neg (by rw [h6_8]; decide), if_neg (by rw [h6_8]; decide), if_pos h6_8], hj, hl1⟩
  by_cases h6_9 : k = 9
  · refine g_tableIn (pc := 6) (tgt := 144) C dX7_count_6 (by rw [h6_9]; decide) (by rw [h6_9]; decide) (by rw [h6_9]; rfl) (by decide) ?_
    refine g_aload_0 (pc := 144) C dX7_count_144 ?_
    refine g_getr (pc := 145) C hm.s fl_X7_count_7 kk369 dX7_count_145 ?_
    refine g_iload_1 (pc := 148) C dX7_count_148 ?_
    refine g_bipush (pc := 149) (v := 9) C dX7_count_149 rfl ?_
    refine g_isub (pc := 151) C dX7_count_151 ?_
    refine g_iald (pc := 152) (j := 0) C kk370 (by rw [h6_9]; rfl) ln370 (by omega) dX7_count_152 ?_
    rw [hf]
    exact g_iret (post := fun r M1 P1 => r = aCount A k ∧ JM M1 P1 A ∧ FLo M P M1 P1) C F dX7_count_153 ⟨by rw [aCount, if_neg (by rw [h6_9]; decide), if_neg (by rw [h6_9]; decide), if_neg (by rw [h6_9]; decide), if_neg (by rw [h6_9]; decide), if_neg (by rw [h6_9]; decide), if_neg (by rw [h6_9]; decide), if_neg (by rw [h6_9]; decide), if_neg (by rw [h6_9]; decide), if_neg (by rw [h6_9]; decide), if_pos h6_9], hj, hl1⟩
  by_cases h6_10 : k = 10
  · refine g_tableIn (pc := 6) (tgt := 144) C dX7_count_6 (by rw [h6_10]; decide) (by rw [h6_10]; decide) (by rw [h6_10]; rfl) (by decide) ?_
    refine g_aload_0 (pc := 144) C dX7_count_144 ?_
    refine g_getr (pc := 145) C hm.s fl_X7_count_7 kk369 dX7_count_145 ?_
    refine g_iload_1 (pc := 148) C dX7_count_148 ?_
    refine g_bipush (pc := 149) (v := 9) C dX7_count_149 rfl ?_
    refine g_isub (pc := 151) C dX7_count_151 ?_
    refine g_iald (pc := 152) (j := 1) C kk370 (by rw [h6_10]; rfl) ln370 (by omega) dX7_count_152 ?_
    rw [hf]
    exact g_iret (post := fun r M1 P1 => r = aCount A k ∧ JM M1 P1 A ∧ FLo M P M1 P1) C F dX7_count_153 ⟨by rw [aCount, if_neg (by rw [h6_10]; decide), if_neg (by rw [h6_10]; decide), if_neg (by rw [h6_10]; decide), if_neg (by rw [h6_10]; decide), if_neg (by rw [h6_10]; decide), if_neg (by rw [h6_10]; decide), if_neg (by rw [h6_10]; decide), if_neg (by rw [h6_10]; decide), if_neg (by rw [h6_10]; decide), if_neg (by rw [h6_10]; decide), if_pos h6_10], hj, hl1⟩
  by_cases h6_11 : k = 11
  · refine g_tableIn (pc := 6) (tgt := 144) C dX7_count_6 (by rw [h6_11]; decide) (by rw [h6_11]; decide) (by rw [h6_11]; rfl) (by decide) ?_
    refine g_aload_0 (pc := 144) C dX7_count_144 ?_
    refine g_getr (pc := 145) C hm.s fl_X7_count_7 kk369 dX7_count_145 ?_
    refine g_iload_1 (pc := 148) C dX7_count_148 ?_
    refine g_bipush (pc := 149) (v := 9) C dX7_count_149 rfl ?_
    refine g_isub (pc := 151) C dX7_count_151 ?_
    refine g_iald (pc := 152) (j := 2) C kk370 (by rw [h6_11]; rfl) ln370 (by omega) dX7_count_152 ?_
    rw [hf]
    exact g_iret (post := fun r M1 P1 => r = aCount A k ∧ JM M1 P1 A ∧ FLo M P M1 P1) C F dX7_count_153 ⟨by rw [aCount, if_neg (by rw [h6_11]; decide), if_neg (by rw [h6_11]; decide), if_neg (by rw [h6_11]; decide), if_neg (by rw [h6_11]; decide), if_neg (by rw [h6_11]; decide), if_neg (by rw [h6_11]; decide), if_neg (by rw [h6_11]; decide), if_neg (by rw [h6_11]; decide), if_neg (by rw [h6_11]; decide), if_neg (by rw [h6_11]; decide), if_neg (by rw [h6_11]; decide), if_pos h6_11], hj, hl1⟩
  by_cases h6_12 : k = 12
  · refine g_tableIn (pc := 6) (tgt := 154) C dX7_count_6 (by rw [h6_12]; decide) (by rw [h6_12]; decide) (by rw [h6_12]; rfl) (by decide) ?_
    refine g_aload_0 (pc := 154) C dX7_count_154 ?_
    refine g_V0ie (pc := 155) C e_X7_count_194 (Nat.le_of_ble_eq_true rfl) rfl dX7_count_155 kk369 (c7_brokenOnes hm hf12 hm6) ?_
    rw [hf]
    exact g_iret (post := fun r M1 P1 => r = aCount A k ∧ JM M1 P1 A ∧ FLo M P M1 P1) C F dX7_count_158 ⟨by rw [aCount, if_neg (by rw [h6_12]; decide), if_neg (by rw [h6_12]; decide), if_neg (by rw [h6_12]; decide), if_neg (by rw [h6_12]; decide), if_neg (by rw [h6_12]; decide), if_neg (by rw [h6_12]; decide), if_neg (by rw [h6_12]; decide), if_neg (by rw [h6_12]; decide), if_neg (by rw [h6_12]; decide), if_neg (by rw [h6_12]; decide), if_neg (by rw [h6_12]; decide), if_neg (by rw [h6_12]; decide), if_pos h6_12], hj, hl1⟩
  by_cases h6_13 : k = 13
  · refine g_tableIn (pc := 6) (tgt := 159) C dX7_count_6 (by rw [h6_13]; decide) (by rw [h6_13]; decide) (by rw [h6_13]; rfl) (by decide) ?_
    refine g_aload_0 (pc := 159) C dX7_count_159 ?_
    refine g_geti (pc := 160) C fl_X7_count_41 kk369 dX7_count_160 ?_
    rw [hj.2.2.1.1]
    exact g_iret (post := fun r M1 P1 => r = aCount A k ∧ JM M1 P1 A ∧ FLo M P M1 P1) C F dX7_count_163 ⟨by rw [aCount, if_neg (by rw [h6_13]; decide), if_neg (by rw [h6_13]; decide), if_neg (by rw [h6_13]; decide), if_neg (by rw [h6_13]; decide), if_neg (by rw [h6_13]; decide), if_neg (by rw [h6_13]; decide), if_neg (by rw [h6_13]; decide), if_neg (by rw [h6_13]; decide), if_neg (by rw [h6_13]; decide), if_neg (by rw [h6_13]; decide), if_neg (by rw [h6_13]; decide), if_neg (by rw [h6_13]; decide), if_neg (by rw [h6_13]; decide), if_pos h6_13], hj, hl1⟩
  by_cases h6_14 : k = 14
  · refine g_tableIn (pc := 6) (tgt := 164) C dX7_count_6 (by rw [h6_14]; decide) (by rw [h6_14]; decide) (by rw [h6_14]; rfl) (by decide) ?_
    refine g_aload_0 (pc := 164) C dX7_count_164 ?_
    refine g_geti (pc := 165) C fl_X7_count_155 kk369 dX7_count_165 ?_
    rw [hj.2.2.2.2.2.1]
    exact g_iret (post := fun r M1 P1 => r = aCount A k ∧ JM M1 P1 A ∧ FLo M P M1 P1) C F dX7_count_168 ⟨by rw [aCount, if_neg (by rw [h6_14]; decide), if_neg (by rw [h6_14]; decide), if_neg (by rw [h6_14]; decide), if_neg (by rw [h6_14]; decide), if_neg (by rw [h6_14]; decide), if_neg (by rw [h6_14]; decide), if_neg (by rw [h6_14]; decide), if_neg (by rw [h6_14]; decide), if_neg (by rw [h6_14]; decide), if_neg (by rw [h6_14]; decide), if_neg (by rw [h6_14]; decide), if_neg (by rw [h6_14]; decide), if_neg (by rw [h6_14]; decide), if_neg (by rw [h6_14]; decide), if_pos h6_14], hj, hl1⟩
  have n6_0 := lv_neT h6_0 (a := 0) rfl
  have n6_1 := lv_neT h6_1 (a := 1) rfl
  have n6_2 := lv_neT h6_2 (a := 2) rfl
  have n6_3 := lv_neT h6_3 (a := 3) rfl
  have n6_4 := lv_neT h6_4 (a := 4) rfl
  have n6_5 := lv_neT h6_5 (a := 5) rfl
  have n6_6 := lv_neT h6_6 (a := 6) rfl
  have n6_7 := lv_neT h6_7 (a := 7) rfl
  have n6_8 := lv_neT h6_8 (a := 8) rfl
  have n6_9 := lv_neT h6_9 (a := 9) rfl
  have n6_10 := lv_neT h6_10 (a := 10) rfl
  have n6_11 := lv_neT h6_11 (a := 11) rfl
  have n6_12 := lv_neT h6_12 (a := 12) rfl
  have n6_13 := lv_neT h6_13 (a := 13) rfl
  have n6_14 := lv_neT h6_14 (a := 14) rfl
  refine g_tableOut (pc := 6) (tgt := 169) C dX7_count_6 (by omega) (by decide) ?_
  refine g_iload_1 (pc := 169) C dX7_count_169 ?_
  refine g_bipush (pc := 170) (v := 15) C dX7_count_170 rfl ?_
  refine g_bipush (pc := 172) (v := 17) C dX7_count_172 rfl ?_
  refine g_S3ie (pc := 174) C e_X7_count_32 (Nat.le_of_ble_eq_true rfl) rfl dX7_count_174 (c7_in) ?_
  refine g_if_eq (pc := 177) (tgt := 195) C dX7_count_177 (by decide) (fun c177 => ?_) (fun c177 => ?_)
  · refine g_ldc (pc := 195) C k_X7_count_116 dX7_count_195 ?_
    exact g_iret (post := fun r M1 P1 => r = aCount A k ∧ JM M1 P1 A ∧ FLo M P M1 P1) C F dX7_count_197 ⟨by rw [aCount, if_neg h6_0, if_neg h6_1, if_neg h6_2, if_neg h6_3, if_neg h6_4, if_neg h6_5, if_neg h6_6, if_neg h6_7, if_neg h6_8, if_neg h6_9, if_neg h6_10, if_neg h6_11, if_neg h6_12, if_neg h6_13, if_neg h6_14, if_neg (fun e => hk (by rw [e]; decide)), if_neg (fun e => hk (by rw [e]; decide)), if_neg (fun e => hk (by rw [e]; decide))], hj, hl1⟩
  · exact absurd (if1 c177) hk

set_option maxRecDepth 100000 in
set_option maxHeartbeats 1000000 in
theorem c7_count15 {l : Launch} {D : va_G} {cy : Nat → ClassId} {B : Nat} {M : MM} {P : PP} {k : Int32} {A : AS} {c : Nat} (h : JM M P A) (hA : WA c A) (hk : k = 15) : KI l D cy B yX7_count wsX7_count 2 44 [Value.ref (B + 369), Value.int k] M P (fun r M1 P1 => r = aCount A k ∧ JM M1 P1 A ∧ FLo M P M1 P1) := by
  refine met_KI (cc := cX7_count) (maxL := 2) (ret := (some .int)) (lv := [some (Value.ref (B + 369)), some (Value.int k)]) (by decide) rfl rfl rfl (Nat.le_of_ble_eq_true rfl) ?_
  intro X C F
  have hw := hA.1
  have h6 := hw.m6
  have h30 := hw.s30
  refine g_aload_0 (pc := 0) C dX7_count_0 ?_
  refine g_iconst (pc := 1) (v := 0) C dX7_count_1 rfl ?_
  refine g_puti (pc := 2) C pf_X7_count_28 kk369 dX7_count_2 ?_
  obtain ⟨h1, hl⟩ := JM_thr h 0
  refine g_memo (fun M1 => JM M1 P A ∧ FLo M P M1 P) ⟨h1, hl⟩ (fun M1 hM1 => ?_)
  obtain ⟨hj, hl1⟩ := hM1
  have hm := hj.1
  have hf := hj.2.1
  have hf6 : M1 370 6 = nI (sn (M1 370)) := by rw [hf]; exact hw.s
  have hf12 : M1 370 12 = nI (mn (M1 370)) := by rw [hf]; exact hw.m
  have hs30 : sn (M1 370) ≤ 30 := by rw [hf]; exact h30
  have hm6 : mn (M1 370) ≤ 6 := by rw [hf]; exact h6
  refine g_iload_1 (pc := 5) C dX7_count_5 ?_
  by_cases h6_0 : k = 0
  · refine g_tableIn (pc := 6) (tgt := 80) C dX7_count_6 (by rw [h6_0]; decide) (by rw [h6_0]; decide) (by rw [h6_0]; rfl) (by decide) ?_
    exact absurd h6_0 (by rw [hk]; decide)
  by_cases h6_1 : k = 1
  · refine g_tableIn (pc := 6) (tgt := 87) C dX7_count_6 (by rw [h6_1]; decide) (by rw [h6_1]; decide) (by rw [h6_1]; rfl) (by decide) ?_
    exact absurd h6_1 (by rw [hk]; decide)
  by_cases h6_2 : k = 2
  · refine g_tableIn (pc := 6) (tgt := 97) C dX7_count_6 (by rw [h6_2]; decide) (by rw [h6_2]; decide) (by rw [h6_2]; rfl) (by decide) ?_
    exact absurd h6_2 (by rw [hk]; decide)
  by_cases h6_3 : k = 3
  · refine g_tableIn (pc := 6) (tgt := 105) C dX7_count_6 (by rw [h6_3]; decide) (by rw [h6_3]; decide) (by rw [h6_3]; rfl) (by decide) ?_
    exact absurd h6_3 (by rw [hk]; decide)
  by_cases h6_4 : k = 4
  · refine g_tableIn (pc := 6) (tgt := 113) C dX7_count_6 (by rw [h6_4]; decide) (by rw [h6_4]; decide) (by rw [h6_4]; rfl) (by decide) ?_
    exact absurd h6_4 (by rw [hk]; decide)
  by_cases h6_5 : k = 5
  · refine g_tableIn (pc := 6) (tgt := 120) C dX7_count_6 (by rw [h6_5]; decide) (by rw [h6_5]; decide) (by rw [h6_5]; rfl) (by decide) ?_
    exact absurd h6_5 (by rw [hk]; decide)
  by_cases h6_6 : k = 6
  · refine g_tableIn (pc := 6) (tgt := 120) C dX7_count_6 (by rw [h6_6]; decide) (by rw [h6_6]; decide) (by rw [h6_6]; rfl) (by decide) ?_
    exact absurd h6_6 (by rw [hk]; decide)
  by_cases h6_7 : k = 7
  · refine g_tableIn (pc := 6) (tgt := 132) C dX7_count_6 (by rw [h6_7]; decide) (by rw [h6_7]; decide) (by rw [h6_7]; rfl) (by decide) ?_
    exact absurd h6_7 (by rw [hk]; decide)
  by_cases h6_8 : k = 8
  · refine g_tableIn (pc := 6) (tgt := 139) C dX7_count_6 (by rw [h6_8]; decide) (by rw [h6_8]; decide) (by rw [h6_8]; rfl) (by decide) ?_
    exact absurd h6_8 (by rw [hk]; decide)
  by_cases h6_9 : k = 9
  · refine g_tableIn (pc := 6) (tgt := 144) C dX7_count_6 (by rw [h6_9]; decide) (by rw [h6_9]; decide) (by rw [h6_9]; rfl) (by decide) ?_
    exact absurd h6_9 (by rw [hk]; decide)
  by_cases h6_10 : k = 10
  · refine g_tableIn (pc := 6) (tgt := 144) C dX7_count_6 (by rw [h6_10]; decide) (by rw [h6_10]; decide) (by rw [h6_10]; rfl) (by decide) ?_
    exact absurd h6_10 (by rw [hk]; decide)
  by_cases h6_11 : k = 11
  · refine g_tableIn (pc := 6) (tgt := 144) C dX7_count_6 (by rw [h6_11]; decide) (by rw [h6_11]; decide) (by rw [h6_11]; rfl) (by decide) ?_
    exact absurd h6_11 (by rw [hk]; decide)
  by_cases h6_12 : k = 12
  · refine g_tableIn (pc := 6) (tgt := 154) C dX7_count_6 (by rw [h6_12]; decide) (by rw [h6_12]; decide) (by rw [h6_12]; rfl) (by decide) ?_
    exact absurd h6_12 (by rw [hk]; decide)
  by_cases h6_13 : k = 13
  · refine g_tableIn (pc := 6) (tgt := 159) C dX7_count_6 (by rw [h6_13]; decide) (by rw [h6_13]; decide) (by rw [h6_13]; rfl) (by decide) ?_
    exact absurd h6_13 (by rw [hk]; decide)
  by_cases h6_14 : k = 14
  · refine g_tableIn (pc := 6) (tgt := 164) C dX7_count_6 (by rw [h6_14]; decide) (by rw [h6_14]; decide) (by rw [h6_14]; rfl) (by decide) ?_
    exact absurd h6_14 (by rw [hk]; decide)
  have n6_0 := lv_neT h6_0 (a := 0) rfl
  have n6_1 := lv_neT h6_1 (a := 1) rfl
  have n6_2 := lv_neT h6_2 (a := 2) rfl
  have n6_3 := lv_neT h6_3 (a := 3) rfl
  have n6_4 := lv_neT h6_4 (a := 4) rfl
  have n6_5 := lv_neT h6_5 (a := 5) rfl
  have n6_6 := lv_neT h6_6 (a := 6) rfl
  have n6_7 := lv_neT h6_7 (a := 7) rfl
  have n6_8 := lv_neT h6_8 (a := 8) rfl
  have n6_9 := lv_neT h6_9 (a := 9) rfl
  have n6_10 := lv_neT h6_10 (a := 10) rfl
  have n6_11 := lv_neT h6_11 (a := 11) rfl
  have n6_12 := lv_neT h6_12 (a := 12) rfl
  have n6_13 := lv_neT h6_13 (a := 13) rfl
  have n6_14 := lv_neT h6_14 (a := 14) rfl
  refine g_tableOut (pc := 6) (tgt := 169) C dX7_count_6 (by omega) (by decide) ?_
  refine g_iload_1 (pc := 169) C dX7_count_169 ?_
  refine g_bipush (pc := 170) (v := 15) C dX7_count_170 rfl ?_
  refine g_bipush (pc := 172) (v := 17) C dX7_count_172 rfl ?_
  refine g_S3ie (pc := 174) C e_X7_count_32 (Nat.le_of_ble_eq_true rfl) rfl dX7_count_174 (c7_in) ?_
  refine g_if_eq (pc := 177) (tgt := 195) C dX7_count_177 (by decide) (fun c177 => ?_) (fun c177 => ?_)
  · exact absurd (show 15 ≤ k ∧ k ≤ 17 by rw [hk]; decide) (if0 c177)
  · refine g_aload_0 (pc := 180) C dX7_count_180 ?_
    refine g_getr (pc := 181) C hm.s fl_X7_count_7 kk369 dX7_count_181 ?_
    refine g_bipush (pc := 184) (v := 9) C dX7_count_184 rfl ?_
    refine g_iload_1 (pc := 186) C dX7_count_186 ?_
    refine g_iadd (pc := 187) C dX7_count_187 ?_
    refine g_bipush (pc := 188) (v := 15) C dX7_count_188 rfl ?_
    refine g_isub (pc := 190) C dX7_count_190 ?_
    refine g_iald (pc := 191) (j := 9) C kk370 (by rw [hk]; rfl) ln370 (by omega) dX7_count_191 ?_
    rw [hf]
    refine g_goto (pc := 192) (tgt := 197) C dX7_count_192 (by decide) ?_
    exact g_iret (post := fun r M1 P1 => r = aCount A k ∧ JM M1 P1 A ∧ FLo M P M1 P1) C F dX7_count_197 ⟨by rw [aCount, if_neg h6_0, if_neg h6_1, if_neg h6_2, if_neg h6_3, if_neg h6_4, if_neg h6_5, if_neg h6_6, if_neg h6_7, if_neg h6_8, if_neg h6_9, if_neg h6_10, if_neg h6_11, if_neg h6_12, if_neg h6_13, if_neg h6_14, if_pos hk], hj, hl1⟩

set_option maxRecDepth 100000 in
set_option maxHeartbeats 1000000 in
theorem c7_count16 {l : Launch} {D : va_G} {cy : Nat → ClassId} {B : Nat} {M : MM} {P : PP} {k : Int32} {A : AS} {c : Nat} (h : JM M P A) (hA : WA c A) (hk : k = 16) : KI l D cy B yX7_count wsX7_count 2 44 [Value.ref (B + 369), Value.int k] M P (fun r M1 P1 => r = aCount A k ∧ JM M1 P1 A ∧ FLo M P M1 P1) := by
  refine met_KI (cc := cX7_count) (maxL := 2) (ret := (some .int)) (lv := [some (Value.ref (B + 369)), some (Value.int k)]) (by decide) rfl rfl rfl (Nat.le_of_ble_eq_true rfl) ?_
  intro X C F
  have hw := hA.1
  have h6 := hw.m6
  have h30 := hw.s30
  refine g_aload_0 (pc := 0) C dX7_count_0 ?_
  refine g_iconst (pc := 1) (v := 0) C dX7_count_1 rfl ?_
  refine g_puti (pc := 2) C pf_X7_count_28 kk369 dX7_count_2 ?_
  obtain ⟨h1, hl⟩ := JM_thr h 0
  refine g_memo (fun M1 => JM M1 P A ∧ FLo M P M1 P) ⟨h1, hl⟩ (fun M1 hM1 => ?_)
  obtain ⟨hj, hl1⟩ := hM1
  have hm := hj.1
  have hf := hj.2.1
  have hf6 : M1 370 6 = nI (sn (M1 370)) := by rw [hf]; exact hw.s
  have hf12 : M1 370 12 = nI (mn (M1 370)) := by rw [hf]; exact hw.m
  have hs30 : sn (M1 370) ≤ 30 := by rw [hf]; exact h30
  have hm6 : mn (M1 370) ≤ 6 := by rw [hf]; exact h6
  refine g_iload_1 (pc := 5) C dX7_count_5 ?_
  by_cases h6_0 : k = 0
  · refine g_tableIn (pc := 6) (tgt := 80) C dX7_count_6 (by rw [h6_0]; decide) (by rw [h6_0]; decide) (by rw [h6_0]; rfl) (by decide) ?_
    exact absurd h6_0 (by rw [hk]; decide)
  by_cases h6_1 : k = 1
  · refine g_tableIn (pc := 6) (tgt := 87) C dX7_count_6 (by rw [h6_1]; decide) (by rw [h6_1]; decide) (by rw [h6_1]; rfl) (by decide) ?_
    exact absurd h6_1 (by rw [hk]; decide)
  by_cases h6_2 : k = 2
  · refine g_tableIn (pc := 6) (tgt := 97) C dX7_count_6 (by rw [h6_2]; decide) (by rw [h6_2]; decide) (by rw [h6_2]; rfl) (by decide) ?_
    exact absurd h6_2 (by rw [hk]; decide)
  by_cases h6_3 : k = 3
  · refine g_tableIn (pc := 6) (tgt := 105) C dX7_count_6 (by rw [h6_3]; decide) (by rw [h6_3]; decide) (by rw [h6_3]; rfl) (by decide) ?_
    exact absurd h6_3 (by rw [hk]; decide)
  by_cases h6_4 : k = 4
  · refine g_tableIn (pc := 6) (tgt := 113) C dX7_count_6 (by rw [h6_4]; decide) (by rw [h6_4]; decide) (by rw [h6_4]; rfl) (by decide) ?_
    exact absurd h6_4 (by rw [hk]; decide)
  by_cases h6_5 : k = 5
  · refine g_tableIn (pc := 6) (tgt := 120) C dX7_count_6 (by rw [h6_5]; decide) (by rw [h6_5]; decide) (by rw [h6_5]; rfl) (by decide) ?_
    exact absurd h6_5 (by rw [hk]; decide)
  by_cases h6_6 : k = 6
  · refine g_tableIn (pc := 6) (tgt := 120) C dX7_count_6 (by rw [h6_6]; decide) (by rw [h6_6]; decide) (by rw [h6_6]; rfl) (by decide) ?_
    exact absurd h6_6 (by rw [hk]; decide)
  by_cases h6_7 : k = 7
  · refine g_tableIn (pc := 6) (tgt := 132) C dX7_count_6 (by rw [h6_7]; decide) (by rw [h6_7]; decide) (by rw [h6_7]; rfl) (by decide) ?_
    exact absurd h6_7 (by rw [hk]; decide)
  by_cases h6_8 : k = 8
  · refine g_tableIn (pc := 6) (tgt := 139) C dX7_count_6 (by rw [h6_8]; decide) (by rw [h6_8]; decide) (by rw [h6_8]; rfl) (by decide) ?_
    exact absurd h6_8 (by rw [hk]; decide)
  by_cases h6_9 : k = 9
  · refine g_tableIn (pc := 6) (tgt := 144) C dX7_count_6 (by rw [h6_9]; decide) (by rw [h6_9]; decide) (by rw [h6_9]; rfl) (by decide) ?_
    exact absurd h6_9 (by rw [hk]; decide)
  by_cases h6_10 : k = 10
  · refine g_tableIn (pc := 6) (tgt := 144) C dX7_count_6 (by rw [h6_10]; decide) (by rw [h6_10]; decide) (by rw [h6_10]; rfl) (by decide) ?_
    exact absurd h6_10 (by rw [hk]; decide)
  by_cases h6_11 : k = 11
  · refine g_tableIn (pc := 6) (tgt := 144) C dX7_count_6 (by rw [h6_11]; decide) (by rw [h6_11]; decide) (by rw [h6_11]; rfl) (by decide) ?_
    exact absurd h6_11 (by rw [hk]; decide)
  by_cases h6_12 : k = 12
  · refine g_tableIn (pc := 6) (tgt := 154) C dX7_count_6 (by rw [h6_12]; decide) (by rw [h6_12]; decide) (by rw [h6_12]; rfl) (by decide) ?_
    exact absurd h6_12 (by rw [hk]; decide)
  by_cases h6_13 : k = 13
  · refine g_tableIn (pc := 6) (tgt := 159) C dX7_count_6 (by rw [h6_13]; decide) (by rw [h6_13]; decide) (by rw [h6_13]; rfl) (by decide) ?_
    exact absurd h6_13 (by rw [hk]; decide)
  by_cases h6_14 : k = 14
  · refine g_tableIn (pc := 6) (tgt := 164) C dX7_count_6 (by rw [h6_14]; decide) (by rw [h6_14]; decide) (by rw [h6_14]; rfl) (by decide) ?_
    exact absurd h6_14 (by rw [hk]; decide)
  have n6_0 := lv_neT h6_0 (a := 0) rfl
  have n6_1 := lv_neT h6_1 (a := 1) rfl
  have n6_2 := lv_neT h6_2 (a := 2) rfl
  have n6_3 := lv_neT h6_3 (a := 3) rfl
  have n6_4 := lv_neT h6_4 (a := 4) rfl
  have n6_5 := lv_neT h6_5 (a := 5) rfl
  have n6_6 := lv_neT h6_6 (a := 6) rfl
  have n6_7 := lv_neT h6_7 (a := 7) rfl
  have n6_8 := lv_neT h6_8 (a := 8) rfl
  have n6_9 := lv_neT h6_9 (a := 9) rfl
  have n6_10 := lv_neT h6_10 (a := 10) rfl
  have n6_11 := lv_neT h6_11 (a := 11) rfl
  have n6_12 := lv_neT h6_12 (a := 12) rfl
  have n6_13 := lv_neT h6_13 (a := 13) rfl
  have n6_14 := lv_neT h6_14 (a := 14) rfl
  refine g_tableOut (pc := 6) (tgt := 169) C dX7_count_6 (by omega) (by decide) ?_
  refine g_iload_1 (pc := 169) C dX7_count_169 ?_
  refine g_bipush (pc := 170) (v := 15) C dX7_count_170 rfl ?_
  refine g_bipush (pc := 172) (v := 17) C dX7_count_172 rfl ?_
  refine g_S3ie (pc := 174) C e_X7_count_32 (Nat.le_of_ble_eq_true rfl) rfl dX7_count_174 (c7_in) ?_
  refine g_if_eq (pc := 177) (tgt := 195) C dX7_count_177 (by decide) (fun c177 => ?_) (fun c177 => ?_)
  · exact absurd (show 15 ≤ k ∧ k ≤ 17 by rw [hk]; decide) (if0 c177)
  · refine g_aload_0 (pc := 180) C dX7_count_180 ?_
    refine g_getr (pc := 181) C hm.s fl_X7_count_7 kk369 dX7_count_181 ?_
    refine g_bipush (pc := 184) (v := 9) C dX7_count_184 rfl ?_
    refine g_iload_1 (pc := 186) C dX7_count_186 ?_
    refine g_iadd (pc := 187) C dX7_count_187 ?_
    refine g_bipush (pc := 188) (v := 15) C dX7_count_188 rfl ?_
    refine g_isub (pc := 190) C dX7_count_190 ?_
    refine g_iald (pc := 191) (j := 10) C kk370 (by rw [hk]; rfl) ln370 (by omega) dX7_count_191 ?_
    rw [hf]
    refine g_goto (pc := 192) (tgt := 197) C dX7_count_192 (by decide) ?_
    exact g_iret (post := fun r M1 P1 => r = aCount A k ∧ JM M1 P1 A ∧ FLo M P M1 P1) C F dX7_count_197 ⟨by rw [aCount, if_neg h6_0, if_neg h6_1, if_neg h6_2, if_neg h6_3, if_neg h6_4, if_neg h6_5, if_neg h6_6, if_neg h6_7, if_neg h6_8, if_neg h6_9, if_neg h6_10, if_neg h6_11, if_neg h6_12, if_neg h6_13, if_neg h6_14, if_neg (by rw [hk]; decide), if_pos hk], hj, hl1⟩

set_option maxRecDepth 100000 in
set_option maxHeartbeats 1000000 in
theorem c7_count17 {l : Launch} {D : va_G} {cy : Nat → ClassId} {B : Nat} {M : MM} {P : PP} {k : Int32} {A : AS} {c : Nat} (h : JM M P A) (hA : WA c A) (hk : k = 17) : KI l D cy B yX7_count wsX7_count 2 44 [Value.ref (B + 369), Value.int k] M P (fun r M1 P1 => r = aCount A k ∧ JM M1 P1 A ∧ FLo M P M1 P1) := by
  refine met_KI (cc := cX7_count) (maxL := 2) (ret := (some .int)) (lv := [some (Value.ref (B + 369)), some (Value.int k)]) (by decide) rfl rfl rfl (Nat.le_of_ble_eq_true rfl) ?_
  intro X C F
  have hw := hA.1
  have h6 := hw.m6
  have h30 := hw.s30
  refine g_aload_0 (pc := 0) C dX7_count_0 ?_
  refine g_iconst (pc := 1) (v := 0) C dX7_count_1 rfl ?_
  refine g_puti (pc := 2) C pf_X7_count_28 kk369 dX7_count_2 ?_
  obtain ⟨h1, hl⟩ := JM_thr h 0
  refine g_memo (fun M1 => JM M1 P A ∧ FLo M P M1 P) ⟨h1, hl⟩ (fun M1 hM1 => ?_)
  obtain ⟨hj, hl1⟩ := hM1
  have hm := hj.1
  have hf := hj.2.1
  have hf6 : M1 370 6 = nI (sn (M1 370)) := by rw [hf]; exact hw.s
  have hf12 : M1 370 12 = nI (mn (M1 370)) := by rw [hf]; exact hw.m
  have hs30 : sn (M1 370) ≤ 30 := by rw [hf]; exact h30
  have hm6 : mn (M1 370) ≤ 6 := by rw [hf]; exact h6
  refine g_iload_1 (pc := 5) C dX7_count_5 ?_
  by_cases h6_0 : k = 0
  · refine g_tableIn (pc := 6) (tgt := 80) C dX7_count_6 (by rw [h6_0]; decide) (by rw [h6_0]; decide) (by rw [h6_0]; rfl) (by decide) ?_
    exact absurd h6_0 (by rw [hk]; decide)
  by_cases h6_1 : k = 1
  · refine g_tableIn (pc := 6) (tgt := 87) C dX7_count_6 (by rw [h6_1]; decide) (by rw [h6_1]; decide) (by rw [h6_1]; rfl) (by decide) ?_
    exact absurd h6_1 (by rw [hk]; decide)
  by_cases h6_2 : k = 2
  · refine g_tableIn (pc := 6) (tgt := 97) C dX7_count_6 (by rw [h6_2]; decide) (by rw [h6_2]; decide) (by rw [h6_2]; rfl) (by decide) ?_
    exact absurd h6_2 (by rw [hk]; decide)
  by_cases h6_3 : k = 3
  · refine g_tableIn (pc := 6) (tgt := 105) C dX7_count_6 (by rw [h6_3]; decide) (by rw [h6_3]; decide) (by rw [h6_3]; rfl) (by decide) ?_
    exact absurd h6_3 (by rw [hk]; decide)
  by_cases h6_4 : k = 4
  · refine g_tableIn (pc := 6) (tgt := 113) C dX7_count_6 (by rw [h6_4]; decide) (by rw [h6_4]; decide) (by rw [h6_4]; rfl) (by decide) ?_
    exact absurd h6_4 (by rw [hk]; decide)
  by_cases h6_5 : k = 5
  · refine g_tableIn (pc := 6) (tgt := 120) C dX7_count_6 (by rw [h6_5]; decide) (by rw [h6_5]; decide) (by rw [h6_5]; rfl) (by decide) ?_
    exact absurd h6_5 (by rw [hk]; decide)
  by_cases h6_6 : k = 6
  · refine g_tableIn (pc := 6) (tgt := 120) C dX7_count_6 (by rw [h6_6]; decide) (by rw [h6_6]; decide) (by rw [h6_6]; rfl) (by decide) ?_
    exact absurd h6_6 (by rw [hk]; decide)
  by_cases h6_7 : k = 7
  · refine g_tableIn (pc := 6) (tgt := 132) C dX7_count_6 (by rw [h6_7]; decide) (by rw [h6_7]; decide) (by rw [h6_7]; rfl) (by decide) ?_
    exact absurd h6_7 (by rw [hk]; decide)
  by_cases h6_8 : k = 8
  · refine g_tableIn (pc := 6) (tgt := 139) C dX7_count_6 (by rw [h6_8]; decide) (by rw [h6_8]; decide) (by rw [h6_8]; rfl) (by decide) ?_
    exact absurd h6_8 (by rw [hk]; decide)
  by_cases h6_9 : k = 9
  · refine g_tableIn (pc := 6) (tgt := 144) C dX7_count_6 (by rw [h6_9]; decide) (by rw [h6_9]; decide) (by rw [h6_9]; rfl) (by decide) ?_
    exact absurd h6_9 (by rw [hk]; decide)
  by_cases h6_10 : k = 10
  · refine g_tableIn (pc := 6) (tgt := 144) C dX7_count_6 (by rw [h6_10]; decide) (by rw [h6_10]; decide) (by rw [h6_10]; rfl) (by decide) ?_
    exact absurd h6_10 (by rw [hk]; decide)
  by_cases h6_11 : k = 11
  · refine g_tableIn (pc := 6) (tgt := 144) C dX7_count_6 (by rw [h6_11]; decide) (by rw [h6_11]; decide) (by rw [h6_11]; rfl) (by decide) ?_
    exact absurd h6_11 (by rw [hk]; decide)
  by_cases h6_12 : k = 12
  · refine g_tableIn (pc := 6) (tgt := 154) C dX7_count_6 (by rw [h6_12]; decide) (by rw [h6_12]; decide) (by rw [h6_12]; rfl) (by decide) ?_
    exact absurd h6_12 (by rw [hk]; decide)
  by_cases h6_13 : k = 13
  · refine g_tableIn (pc := 6) (tgt := 159) C dX7_count_6 (by rw [h6_13]; decide) (by rw [h6_13]; decide) (by rw [h6_13]; rfl) (by decide) ?_
    exact absurd h6_13 (by rw [hk]; decide)
  by_cases h6_14 : k = 14
  · refine g_tableIn (pc := 6) (tgt := 164) C dX7_count_6 (by rw [h6_14]; decide) (by rw [h6_14]; decide) (by rw [h6_14]; rfl) (by decide) ?_
    exact absurd h6_14 (by rw [hk]; decide)
  have n6_0 := lv_neT h6_0 (a := 0) rfl
  have n6_1 := lv_neT h6_1 (a := 1) rfl
  have n6_2 := lv_neT h6_2 (a := 2) rfl
  have n6_3 := lv_neT h6_3 (a := 3) rfl
  have n6_4 := lv_neT h6_4 (a := 4) rfl
  have n6_5 := lv_neT h6_5 (a := 5) rfl
  have n6_6 := lv_neT h6_6 (a := 6) rfl
  have n6_7 := lv_neT h6_7 (a := 7) rfl
  have n6_8 := lv_neT h6_8 (a := 8) rfl
  have n6_9 := lv_neT h6_9 (a := 9) rfl
  have n6_10 := lv_neT h6_10 (a := 10) rfl
  have n6_11 := lv_neT h6_11 (a := 11) rfl
  have n6_12 := lv_neT h6_12 (a := 12) rfl
  have n6_13 := lv_neT h6_13 (a := 13) rfl
  have n6_14 := lv_neT h6_14 (a := 14) rfl
  refine g_tableOut (pc := 6) (tgt := 169) C dX7_count_6 (by omega) (by decide) ?_
  refine g_iload_1 (pc := 169) C dX7_count_169 ?_
  refine g_bipush (pc := 170) (v := 15) C dX7_count_170 rfl ?_
  refine g_bipush (pc := 172) (v := 17) C dX7_count_172 rfl ?_
  refine g_S3ie (pc := 174) C e_X7_count_32 (Nat.le_of_ble_eq_true rfl) rfl dX7_count_174 (c7_in) ?_
  refine g_if_eq (pc := 177) (tgt := 195) C dX7_count_177 (by decide) (fun c177 => ?_) (fun c177 => ?_)
  · exact absurd (show 15 ≤ k ∧ k ≤ 17 by rw [hk]; decide) (if0 c177)
  · refine g_aload_0 (pc := 180) C dX7_count_180 ?_
    refine g_getr (pc := 181) C hm.s fl_X7_count_7 kk369 dX7_count_181 ?_
    refine g_bipush (pc := 184) (v := 9) C dX7_count_184 rfl ?_
    refine g_iload_1 (pc := 186) C dX7_count_186 ?_
    refine g_iadd (pc := 187) C dX7_count_187 ?_
    refine g_bipush (pc := 188) (v := 15) C dX7_count_188 rfl ?_
    refine g_isub (pc := 190) C dX7_count_190 ?_
    refine g_iald (pc := 191) (j := 11) C kk370 (by rw [hk]; rfl) ln370 (by omega) dX7_count_191 ?_
    rw [hf]
    refine g_goto (pc := 192) (tgt := 197) C dX7_count_192 (by decide) ?_
    exact g_iret (post := fun r M1 P1 => r = aCount A k ∧ JM M1 P1 A ∧ FLo M P M1 P1) C F dX7_count_197 ⟨by rw [aCount, if_neg h6_0, if_neg h6_1, if_neg h6_2, if_neg h6_3, if_neg h6_4, if_neg h6_5, if_neg h6_6, if_neg h6_7, if_neg h6_8, if_neg h6_9, if_neg h6_10, if_neg h6_11, if_neg h6_12, if_neg h6_13, if_neg h6_14, if_neg (by rw [hk]; decide), if_neg (by rw [hk]; decide), if_pos hk], hj, hl1⟩

theorem k1517 {k : Int32} (h : 15 ≤ k ∧ k ≤ 17) : k = 15 ∨ k = 16 ∨ k = 17 := by
  have h1 : (15 : Int32).toInt ≤ k.toInt := Int32.le_iff_toInt_le.mp h.1
  have h2 : k.toInt ≤ (17 : Int32).toInt := Int32.le_iff_toInt_le.mp h.2
  have e1 : (15 : Int32).toInt = 15 := by decide
  have e2 : (17 : Int32).toInt = 17 := by decide
  rw [e1] at h1
  rw [e2] at h2
  rcases (show k.toInt = 15 ∨ k.toInt = 16 ∨ k.toInt = 17 by omega) with e | e | e
  · exact Or.inl (Int32.toInt_inj.mp (e.trans (by decide)))
  · exact Or.inr (Or.inl (Int32.toInt_inj.mp (e.trans (by decide))))
  · exact Or.inr (Or.inr (Int32.toInt_inj.mp (e.trans (by decide))))
theorem c7_count {l : Launch} {D : va_G} {cy : Nat → ClassId} {B : Nat} {M : MM} {P : PP} {k : Int32} {A : AS} {c : Nat} (h : JM M P A) (hA : WA c A) : KI l D cy B yX7_count wsX7_count 2 44 [Value.ref (B + 369), Value.int k] M P (fun r M1 P1 => r = aCount A k ∧ JM M1 P1 A ∧ FLo M P M1 P1) := by
  by_cases hk : 15 ≤ k ∧ k ≤ 17
  · rcases k1517 hk with e | e | e
    · exact c7_count15 h hA e
    · exact c7_count16 h hA e
    · exact c7_count17 h hA e
  · exact c7_countA h hA hk

set_option maxRecDepth 100000 in
set_option maxHeartbeats 1000000 in
theorem c7_bookingN {l : Launch} {D : va_G} {cy : Nat → ClassId} {B : Nat} {M : MM} {P : PP} {b k : Int32} {A : AS} {c : Nat} (h : JM M P A) (hA : WA c A) (hp : plO A.f b = none) : KI l D cy B yX7_booking wsX7_booking 3 66 [Value.ref (B + 369), Value.int b, Value.int k] M P (fun r M1 P1 => r = aBooking A b k ∧ JM M1 P1 A ∧ FLo M P M1 P1) := by
  refine met_KI (cc := cX7_booking) (maxL := 4) (ret := (some .int)) (lv := [some (Value.ref (B + 369)), some (Value.int b), some (Value.int k), none]) (by decide) rfl rfl rfl (Nat.le_of_ble_eq_true rfl) ?_
  intro X C F
  have hw := hA.1
  have h6 := hw.m6
  have h30 := hw.s30
  refine g_aload_0 (pc := 0) C dX7_booking_0 ?_
  refine g_iconst (pc := 1) (v := 0) C dX7_booking_1 rfl ?_
  refine g_puti (pc := 2) C pf_X7_booking_28 kk369 dX7_booking_2 ?_
  obtain ⟨h1, hl⟩ := JM_thr h 0
  refine g_memo (fun M1 => JM M1 P A ∧ FLo M P M1 P) ⟨h1, hl⟩ (fun M1 hM1 => ?_)
  obtain ⟨hj, hl1⟩ := hM1
  have hm := hj.1
  have hf := hj.2.1
  have hf6 : M1 370 6 = nI (sn (M1 370)) := by rw [hf]; exact hw.s
  have hf12 : M1 370 12 = nI (mn (M1 370)) := by rw [hf]; exact hw.m
  have hs30 : sn (M1 370) ≤ 30 := by rw [hf]; exact h30
  have hm6 : mn (M1 370) ≤ 6 := by rw [hf]; exact h6
  refine g_aload_0 (pc := 5) C dX7_booking_5 ?_
  refine g_iload_1 (pc := 6) C dX7_booking_6 ?_
  refine g_V1ie (pc := 7) C e_X7_booking_149 (Nat.le_of_ble_eq_true rfl) rfl dX7_booking_7 kk369 (c7_placeOf hm hf6 hs30) ?_
  rw [hf, hp]
  refine g_istore_3 (pc := 10) C dX7_booking_10 ?_
  refine g_iload_3 (pc := 11) C dX7_booking_11 ?_
  refine g_ldc (pc := 12) C k_X7_booking_40 dX7_booking_12 ?_
  refine g_icmp_ne (pc := 14) (tgt := 20) C dX7_booking_14 (by decide) (fun c14 => ?_) (fun c14 => ?_)
  · exact absurd rfl c14
  · refine g_ldc (pc := 17) C k_X7_booking_115 dX7_booking_17 ?_
    exact g_iret (post := fun r M1 P1 => r = aBooking A b k ∧ JM M1 P1 A ∧ FLo M P M1 P1) C F dX7_booking_19 ⟨by rw [aBooking, hp], hj, hl1⟩

set_option maxRecDepth 100000 in
set_option maxHeartbeats 1000000 in
theorem c7_booking5 {l : Launch} {D : va_G} {cy : Nat → ClassId} {B : Nat} {M : MM} {P : PP} {b k : Int32} {A : AS} {c : Nat} (h : JM M P A) (hA : WA c A) {p : Nat} (hp : plO A.f b = some p) (hk : k = 5) : KI l D cy B yX7_booking wsX7_booking 3 66 [Value.ref (B + 369), Value.int b, Value.int k] M P (fun r M1 P1 => r = aBooking A b k ∧ JM M1 P1 A ∧ FLo M P M1 P1) := by
  refine met_KI (cc := cX7_booking) (maxL := 4) (ret := (some .int)) (lv := [some (Value.ref (B + 369)), some (Value.int b), some (Value.int k), none]) (by decide) rfl rfl rfl (Nat.le_of_ble_eq_true rfl) ?_
  intro X C F
  have hw := hA.1
  have h6 := hw.m6
  have h30 := hw.s30
  have hpp := plO_lt hp
  obtain ⟨w1, w2⟩ := wO_eq hw hpp
  obtain ⟨m1, m2⟩ := mO_eq hw hpp
  have np5 : nI p ≠ -100000005 := fun e => by
    have h9 : (-100000005 : Int32) < 0 := by decide
    rw [← e] at h9
    exact absurd h9 (nI_pos (by omega))
  refine g_aload_0 (pc := 0) C dX7_booking_0 ?_
  refine g_iconst (pc := 1) (v := 0) C dX7_booking_1 rfl ?_
  refine g_puti (pc := 2) C pf_X7_booking_28 kk369 dX7_booking_2 ?_
  obtain ⟨h1, hl⟩ := JM_thr h 0
  refine g_memo (fun M1 => JM M1 P A ∧ FLo M P M1 P) ⟨h1, hl⟩ (fun M1 hM1 => ?_)
  obtain ⟨hj, hl1⟩ := hM1
  have hm := hj.1
  have hf := hj.2.1
  have hf6 : M1 370 6 = nI (sn (M1 370)) := by rw [hf]; exact hw.s
  have hf12 : M1 370 12 = nI (mn (M1 370)) := by rw [hf]; exact hw.m
  have hs30 : sn (M1 370) ≤ 30 := by rw [hf]; exact h30
  have hm6 : mn (M1 370) ≤ 6 := by rw [hf]; exact h6
  refine g_aload_0 (pc := 5) C dX7_booking_5 ?_
  refine g_iload_1 (pc := 6) C dX7_booking_6 ?_
  refine g_V1ie (pc := 7) C e_X7_booking_149 (Nat.le_of_ble_eq_true rfl) rfl dX7_booking_7 kk369 (c7_placeOf hm hf6 hs30) ?_
  rw [hf, hp]
  refine g_istore_3 (pc := 10) C dX7_booking_10 ?_
  refine g_iload_3 (pc := 11) C dX7_booking_11 ?_
  refine g_ldc (pc := 12) C k_X7_booking_40 dX7_booking_12 ?_
  refine g_icmp_ne (pc := 14) (tgt := 20) C dX7_booking_14 (by decide) (fun c14 => ?_) (fun c14 => ?_)
  · refine g_iload_2 (pc := 20) C dX7_booking_20 ?_
    refine g_iconst (pc := 21) (v := 5) C dX7_booking_21 rfl ?_
    refine g_icmp_ne (pc := 22) (tgt := 54) C dX7_booking_22 (by decide) (fun c22 => ?_) (fun c22 => ?_)
    · exact absurd hk c22
    · refine g_aload_0 (pc := 25) C dX7_booking_25 ?_
      refine g_aload_0 (pc := 26) C dX7_booking_26 ?_
      refine g_iload_3 (pc := 27) C dX7_booking_27 ?_
      refine g_iconst (pc := 28) (v := 1) C dX7_booking_28 rfl ?_
      refine g_V2ie (pc := 29) C e_X7_booking_36 (Nat.le_of_ble_eq_true rfl) rfl dX7_booking_29 kk369 (c7_ofBooking hm (i := p) (k := 1) rfl rfl (by omega) (by decide)) ?_
      rw [hf, w2]
      refine g_aload_0 (pc := 32) C dX7_booking_32 ?_
      refine g_iload_3 (pc := 33) C dX7_booking_33 ?_
      refine g_iconst (pc := 34) (v := 2) C dX7_booking_34 rfl ?_
      refine g_V2ie (pc := 35) C e_X7_booking_36 (Nat.le_of_ble_eq_true rfl) rfl dX7_booking_35 kk369 (c7_ofBooking hm (i := p) (k := 2) rfl rfl (by omega) (by decide)) ?_
      rw [hf, m2]
      refine g_aload_0 (pc := 38) C dX7_booking_38 ?_
      refine g_iload_3 (pc := 39) C dX7_booking_39 ?_
      refine g_iconst (pc := 40) (v := 3) C dX7_booking_40 rfl ?_
      refine g_V2ie (pc := 41) C e_X7_booking_36 (Nat.le_of_ble_eq_true rfl) rfl dX7_booking_41 kk369 (c7_ofBooking hm (i := p) (k := 3) rfl rfl (by omega) (by decide)) ?_
      rw [hf]
      refine g_aload_0 (pc := 44) C dX7_booking_44 ?_
      refine g_iload_3 (pc := 45) C dX7_booking_45 ?_
      refine g_iconst (pc := 46) (v := 4) C dX7_booking_46 rfl ?_
      refine g_V2ie (pc := 47) C e_X7_booking_36 (Nat.le_of_ble_eq_true rfl) rfl dX7_booking_47 kk369 (c7_ofBooking hm (i := p) (k := 4) rfl rfl (by omega) (by decide)) ?_
      rw [hf]
      refine g_V4ie (pc := 50) C e_X7_booking_87 (Nat.le_of_ble_eq_true rfl) rfl dX7_booking_50 kk369 (c7_charge hm (w := wO A.f p) (m := mO A.f p) rfl rfl w1 (by omega)) ?_
      rw [hf]
      exact g_iret (post := fun r M1 P1 => r = aBooking A b k ∧ JM M1 P1 A ∧ FLo M P M1 P1) C F dX7_booking_53 ⟨by rw [aBooking, hp]; simp only []; rw [if_neg (by rw [hk]; decide), if_neg (by rw [hk]; decide), if_neg (by rw [hk]; decide), if_neg (by rw [hk]; decide), if_neg (by rw [hk]; decide), if_pos hk], hj, hl1⟩
  · exact absurd c14 np5

set_option maxRecDepth 100000 in
set_option maxHeartbeats 1000000 in
theorem c7_bookingK0 {l : Launch} {D : va_G} {cy : Nat → ClassId} {B : Nat} {M : MM} {P : PP} {b k : Int32} {A : AS} {c : Nat} (h : JM M P A) (hA : WA c A) {p : Nat} (hp : plO A.f b = some p) (hk : k = 0) : KI l D cy B yX7_booking wsX7_booking 3 66 [Value.ref (B + 369), Value.int b, Value.int k] M P (fun r M1 P1 => r = aBooking A b k ∧ JM M1 P1 A ∧ FLo M P M1 P1) := by
  refine met_KI (cc := cX7_booking) (maxL := 4) (ret := (some .int)) (lv := [some (Value.ref (B + 369)), some (Value.int b), some (Value.int k), none]) (by decide) rfl rfl rfl (Nat.le_of_ble_eq_true rfl) ?_
  intro X C F
  have hw := hA.1
  have h6 := hw.m6
  have h30 := hw.s30
  have hpp := plO_lt hp
  obtain ⟨w1, w2⟩ := wO_eq hw hpp
  obtain ⟨m1, m2⟩ := mO_eq hw hpp
  have np5 : nI p ≠ -100000005 := fun e => by
    have h9 : (-100000005 : Int32) < 0 := by decide
    rw [← e] at h9
    exact absurd h9 (nI_pos (by omega))
  refine g_aload_0 (pc := 0) C dX7_booking_0 ?_
  refine g_iconst (pc := 1) (v := 0) C dX7_booking_1 rfl ?_
  refine g_puti (pc := 2) C pf_X7_booking_28 kk369 dX7_booking_2 ?_
  obtain ⟨h1, hl⟩ := JM_thr h 0
  refine g_memo (fun M1 => JM M1 P A ∧ FLo M P M1 P) ⟨h1, hl⟩ (fun M1 hM1 => ?_)
  obtain ⟨hj, hl1⟩ := hM1
  have hm := hj.1
  have hf := hj.2.1
  have hf6 : M1 370 6 = nI (sn (M1 370)) := by rw [hf]; exact hw.s
  have hf12 : M1 370 12 = nI (mn (M1 370)) := by rw [hf]; exact hw.m
  have hs30 : sn (M1 370) ≤ 30 := by rw [hf]; exact h30
  have hm6 : mn (M1 370) ≤ 6 := by rw [hf]; exact h6
  refine g_aload_0 (pc := 5) C dX7_booking_5 ?_
  refine g_iload_1 (pc := 6) C dX7_booking_6 ?_
  refine g_V1ie (pc := 7) C e_X7_booking_149 (Nat.le_of_ble_eq_true rfl) rfl dX7_booking_7 kk369 (c7_placeOf hm hf6 hs30) ?_
  rw [hf, hp]
  refine g_istore_3 (pc := 10) C dX7_booking_10 ?_
  refine g_iload_3 (pc := 11) C dX7_booking_11 ?_
  refine g_ldc (pc := 12) C k_X7_booking_40 dX7_booking_12 ?_
  refine g_icmp_ne (pc := 14) (tgt := 20) C dX7_booking_14 (by decide) (fun c14 => ?_) (fun c14 => ?_)
  · refine g_iload_2 (pc := 20) C dX7_booking_20 ?_
    refine g_iconst (pc := 21) (v := 5) C dX7_booking_21 rfl ?_
    refine g_icmp_ne (pc := 22) (tgt := 54) C dX7_booking_22 (by decide) (fun c22 => ?_) (fun c22 => ?_)
    · refine g_iload_2 (pc := 54) C dX7_booking_54 ?_
      refine g_iconst (pc := 55) (v := 0) C dX7_booking_55 rfl ?_
      refine g_iconst (pc := 56) (v := 4) C dX7_booking_56 rfl ?_
      refine g_S3ie (pc := 57) C e_X7_booking_32 (Nat.le_of_ble_eq_true rfl) rfl dX7_booking_57 (c7_in) ?_
      refine g_if_eq (pc := 60) (tgt := 74) C dX7_booking_60 (by decide) (fun c60 => ?_) (fun c60 => ?_)
      · exact absurd (show 0 ≤ k ∧ k ≤ 4 by rw [hk]; decide) (if0 c60)
      · refine g_aload_0 (pc := 63) C dX7_booking_63 ?_
        refine g_iload_3 (pc := 64) C dX7_booking_64 ?_
        refine g_iconst (pc := 65) (v := 1) C dX7_booking_65 rfl ?_
        refine g_iload_2 (pc := 66) C dX7_booking_66 ?_
        refine g_iadd (pc := 67) C dX7_booking_67 ?_
        refine g_V2ie (pc := 68) C e_X7_booking_36 (Nat.le_of_ble_eq_true rfl) rfl dX7_booking_68 kk369 (c7_ofBooking hm (i := p) (k := 1) rfl (by rw [hk]; rfl) (by omega) (by decide)) ?_
        rw [hf]
        refine g_goto (pc := 71) (tgt := 76) C dX7_booking_71 (by decide) ?_
        exact g_iret (post := fun r M1 P1 => r = aBooking A b k ∧ JM M1 P1 A ∧ FLo M P M1 P1) C F dX7_booking_76 ⟨by rw [aBooking, hp]; simp only []; rw [if_pos hk], hj, hl1⟩
    · exact absurd c22 (by rw [hk]; decide)
  · exact absurd c14 np5

set_option maxRecDepth 100000 in
set_option maxHeartbeats 1000000 in
theorem c7_bookingK1 {l : Launch} {D : va_G} {cy : Nat → ClassId} {B : Nat} {M : MM} {P : PP} {b k : Int32} {A : AS} {c : Nat} (h : JM M P A) (hA : WA c A) {p : Nat} (hp : plO A.f b = some p) (hk : k = 1) : KI l D cy B yX7_booking wsX7_booking 3 66 [Value.ref (B + 369), Value.int b, Value.int k] M P (fun r M1 P1 => r = aBooking A b k ∧ JM M1 P1 A ∧ FLo M P M1 P1) := by
  refine met_KI (cc := cX7_booking) (maxL := 4) (ret := (some .int)) (lv := [some (Value.ref (B + 369)), some (Value.int b), some (Value.int k), none]) (by decide) rfl rfl rfl (Nat.le_of_ble_eq_true rfl) ?_
  intro X C F
  have hw := hA.1
  have h6 := hw.m6
  have h30 := hw.s30
  have hpp := plO_lt hp
  obtain ⟨w1, w2⟩ := wO_eq hw hpp
  obtain ⟨m1, m2⟩ := mO_eq hw hpp
  have np5 : nI p ≠ -100000005 := fun e => by
    have h9 : (-100000005 : Int32) < 0 := by decide
    rw [← e] at h9
    exact absurd h9 (nI_pos (by omega))
  refine g_aload_0 (pc := 0) C dX7_booking_0 ?_
  refine g_iconst (pc := 1) (v := 0) C dX7_booking_1 rfl ?_
  refine g_puti (pc := 2) C pf_X7_booking_28 kk369 dX7_booking_2 ?_
  obtain ⟨h1, hl⟩ := JM_thr h 0
  refine g_memo (fun M1 => JM M1 P A ∧ FLo M P M1 P) ⟨h1, hl⟩ (fun M1 hM1 => ?_)
  obtain ⟨hj, hl1⟩ := hM1
  have hm := hj.1
  have hf := hj.2.1
  have hf6 : M1 370 6 = nI (sn (M1 370)) := by rw [hf]; exact hw.s
  have hf12 : M1 370 12 = nI (mn (M1 370)) := by rw [hf]; exact hw.m
  have hs30 : sn (M1 370) ≤ 30 := by rw [hf]; exact h30
  have hm6 : mn (M1 370) ≤ 6 := by rw [hf]; exact h6
  refine g_aload_0 (pc := 5) C dX7_booking_5 ?_
  refine g_iload_1 (pc := 6) C dX7_booking_6 ?_
  refine g_V1ie (pc := 7) C e_X7_booking_149 (Nat.le_of_ble_eq_true rfl) rfl dX7_booking_7 kk369 (c7_placeOf hm hf6 hs30) ?_
  rw [hf, hp]
  refine g_istore_3 (pc := 10) C dX7_booking_10 ?_
  refine g_iload_3 (pc := 11) C dX7_booking_11 ?_
  refine g_ldc (pc := 12) C k_X7_booking_40 dX7_booking_12 ?_
  refine g_icmp_ne (pc := 14) (tgt := 20) C dX7_booking_14 (by decide) (fun c14 => ?_) (fun c14 => ?_)
  · refine g_iload_2 (pc := 20) C dX7_booking_20 ?_
    refine g_iconst (pc := 21) (v := 5) C dX7_booking_21 rfl ?_
    refine g_icmp_ne (pc := 22) (tgt := 54) C dX7_booking_22 (by decide) (fun c22 => ?_) (fun c22 => ?_)
    · refine g_iload_2 (pc := 54) C dX7_booking_54 ?_
      refine g_iconst (pc := 55) (v := 0) C dX7_booking_55 rfl ?_
      refine g_iconst (pc := 56) (v := 4) C dX7_booking_56 rfl ?_
      refine g_S3ie (pc := 57) C e_X7_booking_32 (Nat.le_of_ble_eq_true rfl) rfl dX7_booking_57 (c7_in) ?_
      refine g_if_eq (pc := 60) (tgt := 74) C dX7_booking_60 (by decide) (fun c60 => ?_) (fun c60 => ?_)
      · exact absurd (show 0 ≤ k ∧ k ≤ 4 by rw [hk]; decide) (if0 c60)
      · refine g_aload_0 (pc := 63) C dX7_booking_63 ?_
        refine g_iload_3 (pc := 64) C dX7_booking_64 ?_
        refine g_iconst (pc := 65) (v := 1) C dX7_booking_65 rfl ?_
        refine g_iload_2 (pc := 66) C dX7_booking_66 ?_
        refine g_iadd (pc := 67) C dX7_booking_67 ?_
        refine g_V2ie (pc := 68) C e_X7_booking_36 (Nat.le_of_ble_eq_true rfl) rfl dX7_booking_68 kk369 (c7_ofBooking hm (i := p) (k := 2) rfl (by rw [hk]; rfl) (by omega) (by decide)) ?_
        rw [hf]
        refine g_goto (pc := 71) (tgt := 76) C dX7_booking_71 (by decide) ?_
        exact g_iret (post := fun r M1 P1 => r = aBooking A b k ∧ JM M1 P1 A ∧ FLo M P M1 P1) C F dX7_booking_76 ⟨by rw [aBooking, hp]; simp only []; rw [if_neg (by rw [hk]; decide), if_pos hk], hj, hl1⟩
    · exact absurd c22 (by rw [hk]; decide)
  · exact absurd c14 np5

set_option maxRecDepth 100000 in
set_option maxHeartbeats 1000000 in
theorem c7_bookingK2 {l : Launch} {D : va_G} {cy : Nat → ClassId} {B : Nat} {M : MM} {P : PP} {b k : Int32} {A : AS} {c : Nat} (h : JM M P A) (hA : WA c A) {p : Nat} (hp : plO A.f b = some p) (hk : k = 2) : KI l D cy B yX7_booking wsX7_booking 3 66 [Value.ref (B + 369), Value.int b, Value.int k] M P (fun r M1 P1 => r = aBooking A b k ∧ JM M1 P1 A ∧ FLo M P M1 P1) := by
  refine met_KI (cc := cX7_booking) (maxL := 4) (ret := (some .int)) (lv := [some (Value.ref (B + 369)), some (Value.int b), some (Value.int k), none]) (by decide) rfl rfl rfl (Nat.le_of_ble_eq_true rfl) ?_
  intro X C F
  have hw := hA.1
  have h6 := hw.m6
  have h30 := hw.s30
  have hpp := plO_lt hp
  obtain ⟨w1, w2⟩ := wO_eq hw hpp
  obtain ⟨m1, m2⟩ := mO_eq hw hpp
  have np5 : nI p ≠ -100000005 := fun e => by
    have h9 : (-100000005 : Int32) < 0 := by decide
    rw [← e] at h9
    exact absurd h9 (nI_pos (by omega))
  refine g_aload_0 (pc := 0) C dX7_booking_0 ?_
  refine g_iconst (pc := 1) (v := 0) C dX7_booking_1 rfl ?_
  refine g_puti (pc := 2) C pf_X7_booking_28 kk369 dX7_booking_2 ?_
  obtain ⟨h1, hl⟩ := JM_thr h 0
  refine g_memo (fun M1 => JM M1 P A ∧ FLo M P M1 P) ⟨h1, hl⟩ (fun M1 hM1 => ?_)
  obtain ⟨hj, hl1⟩ := hM1
  have hm := hj.1
  have hf := hj.2.1
  have hf6 : M1 370 6 = nI (sn (M1 370)) := by rw [hf]; exact hw.s
  have hf12 : M1 370 12 = nI (mn (M1 370)) := by rw [hf]; exact hw.m
  have hs30 : sn (M1 370) ≤ 30 := by rw [hf]; exact h30
  have hm6 : mn (M1 370) ≤ 6 := by rw [hf]; exact h6
  refine g_aload_0 (pc := 5) C dX7_booking_5 ?_
  refine g_iload_1 (pc := 6) C dX7_booking_6 ?_
  refine g_V1ie (pc := 7) C e_X7_booking_149 (Nat.le_of_ble_eq_true rfl) rfl dX7_booking_7 kk369 (c7_placeOf hm hf6 hs30) ?_
  rw [hf, hp]
  refine g_istore_3 (pc := 10) C dX7_booking_10 ?_
  refine g_iload_3 (pc := 11) C dX7_booking_11 ?_
  refine g_ldc (pc := 12) C k_X7_booking_40 dX7_booking_12 ?_
  refine g_icmp_ne (pc := 14) (tgt := 20) C dX7_booking_14 (by decide) (fun c14 => ?_) (fun c14 => ?_)
  · refine g_iload_2 (pc := 20) C dX7_booking_20 ?_
    refine g_iconst (pc := 21) (v := 5) C dX7_booking_21 rfl ?_
    refine g_icmp_ne (pc := 22) (tgt := 54) C dX7_booking_22 (by decide) (fun c22 => ?_) (fun c22 => ?_)
    · refine g_iload_2 (pc := 54) C dX7_booking_54 ?_
      refine g_iconst (pc := 55) (v := 0) C dX7_booking_55 rfl ?_
      refine g_iconst (pc := 56) (v := 4) C dX7_booking_56 rfl ?_
      refine g_S3ie (pc := 57) C e_X7_booking_32 (Nat.le_of_ble_eq_true rfl) rfl dX7_booking_57 (c7_in) ?_
      refine g_if_eq (pc := 60) (tgt := 74) C dX7_booking_60 (by decide) (fun c60 => ?_) (fun c60 => ?_)
      · exact absurd (show 0 ≤ k ∧ k ≤ 4 by rw [hk]; decide) (if0 c60)
      · refine g_aload_0 (pc := 63) C dX7_booking_63 ?_
        refine g_iload_3 (pc := 64) C dX7_booking_64 ?_
        refine g_iconst (pc := 65) (v := 1) C dX7_booking_65 rfl ?_
        refine g_iload_2 (pc := 66) C dX7_booking_66 ?_
        refine g_iadd (pc := 67) C dX7_booking_67 ?_
        refine g_V2ie (pc := 68) C e_X7_booking_36 (Nat.le_of_ble_eq_true rfl) rfl dX7_booking_68 kk369 (c7_ofBooking hm (i := p) (k := 3) rfl (by rw [hk]; rfl) (by omega) (by decide)) ?_
        rw [hf]
        refine g_goto (pc := 71) (tgt := 76) C dX7_booking_71 (by decide) ?_
        exact g_iret (post := fun r M1 P1 => r = aBooking A b k ∧ JM M1 P1 A ∧ FLo M P M1 P1) C F dX7_booking_76 ⟨by rw [aBooking, hp]; simp only []; rw [if_neg (by rw [hk]; decide), if_neg (by rw [hk]; decide), if_pos hk], hj, hl1⟩
    · exact absurd c22 (by rw [hk]; decide)
  · exact absurd c14 np5

set_option maxRecDepth 100000 in
set_option maxHeartbeats 1000000 in
theorem c7_bookingK3 {l : Launch} {D : va_G} {cy : Nat → ClassId} {B : Nat} {M : MM} {P : PP} {b k : Int32} {A : AS} {c : Nat} (h : JM M P A) (hA : WA c A) {p : Nat} (hp : plO A.f b = some p) (hk : k = 3) : KI l D cy B yX7_booking wsX7_booking 3 66 [Value.ref (B + 369), Value.int b, Value.int k] M P (fun r M1 P1 => r = aBooking A b k ∧ JM M1 P1 A ∧ FLo M P M1 P1) := by
  refine met_KI (cc := cX7_booking) (maxL := 4) (ret := (some .int)) (lv := [some (Value.ref (B + 369)), some (Value.int b), some (Value.int k), none]) (by decide) rfl rfl rfl (Nat.le_of_ble_eq_true rfl) ?_
  intro X C F
  have hw := hA.1
  have h6 := hw.m6
  have h30 := hw.s30
  have hpp := plO_lt hp
  obtain ⟨w1, w2⟩ := wO_eq hw hpp
  obtain ⟨m1, m2⟩ := mO_eq hw hpp
  have np5 : nI p ≠ -100000005 := fun e => by
    have h9 : (-100000005 : Int32) < 0 := by decide
    rw [← e] at h9
    exact absurd h9 (nI_pos (by omega))
  refine g_aload_0 (pc := 0) C dX7_booking_0 ?_
  refine g_iconst (pc := 1) (v := 0) C dX7_booking_1 rfl ?_
  refine g_puti (pc := 2) C pf_X7_booking_28 kk369 dX7_booking_2 ?_
  obtain ⟨h1, hl⟩ := JM_thr h 0
  refine g_memo (fun M1 => JM M1 P A ∧ FLo M P M1 P) ⟨h1, hl⟩ (fun M1 hM1 => ?_)
  obtain ⟨hj, hl1⟩ := hM1
  have hm := hj.1
  have hf := hj.2.1
  have hf6 : M1 370 6 = nI (sn (M1 370)) := by rw [hf]; exact hw.s
  have hf12 : M1 370 12 = nI (mn (M1 370)) := by rw [hf]; exact hw.m
  have hs30 : sn (M1 370) ≤ 30 := by rw [hf]; exact h30
  have hm6 : mn (M1 370) ≤ 6 := by rw [hf]; exact h6
  refine g_aload_0 (pc := 5) C dX7_booking_5 ?_
  refine g_iload_1 (pc := 6) C dX7_booking_6 ?_
  refine g_V1ie (pc := 7) C e_X7_booking_149 (Nat.le_of_ble_eq_true rfl) rfl dX7_booking_7 kk369 (c7_placeOf hm hf6 hs30) ?_
  rw [hf, hp]
  refine g_istore_3 (pc := 10) C dX7_booking_10 ?_
  refine g_iload_3 (pc := 11) C dX7_booking_11 ?_
  refine g_ldc (pc := 12) C k_X7_booking_40 dX7_booking_12 ?_
  refine g_icmp_ne (pc := 14) (tgt := 20) C dX7_booking_14 (by decide) (fun c14 => ?_) (fun c14 => ?_)
  · refine g_iload_2 (pc := 20) C dX7_booking_20 ?_
    refine g_iconst (pc := 21) (v := 5) C dX7_booking_21 rfl ?_
    refine g_icmp_ne (pc := 22) (tgt := 54) C dX7_booking_22 (by decide) (fun c22 => ?_) (fun c22 => ?_)
    · refine g_iload_2 (pc := 54) C dX7_booking_54 ?_
      refine g_iconst (pc := 55) (v := 0) C dX7_booking_55 rfl ?_
      refine g_iconst (pc := 56) (v := 4) C dX7_booking_56 rfl ?_
      refine g_S3ie (pc := 57) C e_X7_booking_32 (Nat.le_of_ble_eq_true rfl) rfl dX7_booking_57 (c7_in) ?_
      refine g_if_eq (pc := 60) (tgt := 74) C dX7_booking_60 (by decide) (fun c60 => ?_) (fun c60 => ?_)
      · exact absurd (show 0 ≤ k ∧ k ≤ 4 by rw [hk]; decide) (if0 c60)
      · refine g_aload_0 (pc := 63) C dX7_booking_63 ?_
        refine g_iload_3 (pc := 64) C dX7_booking_64 ?_
        refine g_iconst (pc := 65) (v := 1) C dX7_booking_65 rfl ?_
        refine g_iload_2 (pc := 66) C dX7_booking_66 ?_
        refine g_iadd (pc := 67) C dX7_booking_67 ?_
        refine g_V2ie (pc := 68) C e_X7_booking_36 (Nat.le_of_ble_eq_true rfl) rfl dX7_booking_68 kk369 (c7_ofBooking hm (i := p) (k := 4) rfl (by rw [hk]; rfl) (by omega) (by decide)) ?_
        rw [hf]
        refine g_goto (pc := 71) (tgt := 76) C dX7_booking_71 (by decide) ?_
        exact g_iret (post := fun r M1 P1 => r = aBooking A b k ∧ JM M1 P1 A ∧ FLo M P M1 P1) C F dX7_booking_76 ⟨by rw [aBooking, hp]; simp only []; rw [if_neg (by rw [hk]; decide), if_neg (by rw [hk]; decide), if_neg (by rw [hk]; decide), if_pos hk], hj, hl1⟩
    · exact absurd c22 (by rw [hk]; decide)
  · exact absurd c14 np5

set_option maxRecDepth 100000 in
set_option maxHeartbeats 1000000 in
theorem c7_bookingK4 {l : Launch} {D : va_G} {cy : Nat → ClassId} {B : Nat} {M : MM} {P : PP} {b k : Int32} {A : AS} {c : Nat} (h : JM M P A) (hA : WA c A) {p : Nat} (hp : plO A.f b = some p) (hk : k = 4) : KI l D cy B yX7_booking wsX7_booking 3 66 [Value.ref (B + 369), Value.int b, Value.int k] M P (fun r M1 P1 => r = aBooking A b k ∧ JM M1 P1 A ∧ FLo M P M1 P1) := by
  refine met_KI (cc := cX7_booking) (maxL := 4) (ret := (some .int)) (lv := [some (Value.ref (B + 369)), some (Value.int b), some (Value.int k), none]) (by decide) rfl rfl rfl (Nat.le_of_ble_eq_true rfl) ?_
  intro X C F
  have hw := hA.1
  have h6 := hw.m6
  have h30 := hw.s30
  have hpp := plO_lt hp
  obtain ⟨w1, w2⟩ := wO_eq hw hpp
  obtain ⟨m1, m2⟩ := mO_eq hw hpp
  have np5 : nI p ≠ -100000005 := fun e => by
    have h9 : (-100000005 : Int32) < 0 := by decide
    rw [← e] at h9
    exact absurd h9 (nI_pos (by omega))
  refine g_aload_0 (pc := 0) C dX7_booking_0 ?_
  refine g_iconst (pc := 1) (v := 0) C dX7_booking_1 rfl ?_
  refine g_puti (pc := 2) C pf_X7_booking_28 kk369 dX7_booking_2 ?_
  obtain ⟨h1, hl⟩ := JM_thr h 0
  refine g_memo (fun M1 => JM M1 P A ∧ FLo M P M1 P) ⟨h1, hl⟩ (fun M1 hM1 => ?_)
  obtain ⟨hj, hl1⟩ := hM1
  have hm := hj.1
  have hf := hj.2.1
  have hf6 : M1 370 6 = nI (sn (M1 370)) := by rw [hf]; exact hw.s
  have hf12 : M1 370 12 = nI (mn (M1 370)) := by rw [hf]; exact hw.m
  have hs30 : sn (M1 370) ≤ 30 := by rw [hf]; exact h30
  have hm6 : mn (M1 370) ≤ 6 := by rw [hf]; exact h6
  refine g_aload_0 (pc := 5) C dX7_booking_5 ?_
  refine g_iload_1 (pc := 6) C dX7_booking_6 ?_
  refine g_V1ie (pc := 7) C e_X7_booking_149 (Nat.le_of_ble_eq_true rfl) rfl dX7_booking_7 kk369 (c7_placeOf hm hf6 hs30) ?_
  rw [hf, hp]
  refine g_istore_3 (pc := 10) C dX7_booking_10 ?_
  refine g_iload_3 (pc := 11) C dX7_booking_11 ?_
  refine g_ldc (pc := 12) C k_X7_booking_40 dX7_booking_12 ?_
  refine g_icmp_ne (pc := 14) (tgt := 20) C dX7_booking_14 (by decide) (fun c14 => ?_) (fun c14 => ?_)
  · refine g_iload_2 (pc := 20) C dX7_booking_20 ?_
    refine g_iconst (pc := 21) (v := 5) C dX7_booking_21 rfl ?_
    refine g_icmp_ne (pc := 22) (tgt := 54) C dX7_booking_22 (by decide) (fun c22 => ?_) (fun c22 => ?_)
    · refine g_iload_2 (pc := 54) C dX7_booking_54 ?_
      refine g_iconst (pc := 55) (v := 0) C dX7_booking_55 rfl ?_
      refine g_iconst (pc := 56) (v := 4) C dX7_booking_56 rfl ?_
      refine g_S3ie (pc := 57) C e_X7_booking_32 (Nat.le_of_ble_eq_true rfl) rfl dX7_booking_57 (c7_in) ?_
      refine g_if_eq (pc := 60) (tgt := 74) C dX7_booking_60 (by decide) (fun c60 => ?_) (fun c60 => ?_)
      · exact absurd (show 0 ≤ k ∧ k ≤ 4 by rw [hk]; decide) (if0 c60)
      · refine g_aload_0 (pc := 63) C dX7_booking_63 ?_
        refine g_iload_3 (pc := 64) C dX7_booking_64 ?_
        refine g_iconst (pc := 65) (v := 1) C dX7_booking_65 rfl ?_
        refine g_iload_2 (pc := 66) C dX7_booking_66 ?_
        refine g_iadd (pc := 67) C dX7_booking_67 ?_
        refine g_V2ie (pc := 68) C e_X7_booking_36 (Nat.le_of_ble_eq_true rfl) rfl dX7_booking_68 kk369 (c7_ofBooking hm (i := p) (k := 5) rfl (by rw [hk]; rfl) (by omega) (by decide)) ?_
        rw [hf]
        refine g_goto (pc := 71) (tgt := 76) C dX7_booking_71 (by decide) ?_
        exact g_iret (post := fun r M1 P1 => r = aBooking A b k ∧ JM M1 P1 A ∧ FLo M P M1 P1) C F dX7_booking_76 ⟨by rw [aBooking, hp]; simp only []; rw [if_neg (by rw [hk]; decide), if_neg (by rw [hk]; decide), if_neg (by rw [hk]; decide), if_neg (by rw [hk]; decide), if_pos hk], hj, hl1⟩
    · exact absurd c22 (by rw [hk]; decide)
  · exact absurd c14 np5

set_option maxRecDepth 100000 in
set_option maxHeartbeats 1000000 in
theorem c7_bookingO {l : Launch} {D : va_G} {cy : Nat → ClassId} {B : Nat} {M : MM} {P : PP} {b k : Int32} {A : AS} {c : Nat} (h : JM M P A) (hA : WA c A) {p : Nat} (hp : plO A.f b = some p) (h5 : ¬ k = 5) (hk : ¬ (0 ≤ k ∧ k ≤ 4)) : KI l D cy B yX7_booking wsX7_booking 3 66 [Value.ref (B + 369), Value.int b, Value.int k] M P (fun r M1 P1 => r = aBooking A b k ∧ JM M1 P1 A ∧ FLo M P M1 P1) := by
  refine met_KI (cc := cX7_booking) (maxL := 4) (ret := (some .int)) (lv := [some (Value.ref (B + 369)), some (Value.int b), some (Value.int k), none]) (by decide) rfl rfl rfl (Nat.le_of_ble_eq_true rfl) ?_
  intro X C F
  have hw := hA.1
  have h6 := hw.m6
  have h30 := hw.s30
  have hpp := plO_lt hp
  obtain ⟨w1, w2⟩ := wO_eq hw hpp
  obtain ⟨m1, m2⟩ := mO_eq hw hpp
  have np5 : nI p ≠ -100000005 := fun e => by
    have h9 : (-100000005 : Int32) < 0 := by decide
    rw [← e] at h9
    exact absurd h9 (nI_pos (by omega))
  refine g_aload_0 (pc := 0) C dX7_booking_0 ?_
  refine g_iconst (pc := 1) (v := 0) C dX7_booking_1 rfl ?_
  refine g_puti (pc := 2) C pf_X7_booking_28 kk369 dX7_booking_2 ?_
  obtain ⟨h1, hl⟩ := JM_thr h 0
  refine g_memo (fun M1 => JM M1 P A ∧ FLo M P M1 P) ⟨h1, hl⟩ (fun M1 hM1 => ?_)
  obtain ⟨hj, hl1⟩ := hM1
  have hm := hj.1
  have hf := hj.2.1
  have hf6 : M1 370 6 = nI (sn (M1 370)) := by rw [hf]; exact hw.s
  have hf12 : M1 370 12 = nI (mn (M1 370)) := by rw [hf]; exact hw.m
  have hs30 : sn (M1 370) ≤ 30 := by rw [hf]; exact h30
  have hm6 : mn (M1 370) ≤ 6 := by rw [hf]; exact h6
  refine g_aload_0 (pc := 5) C dX7_booking_5 ?_
  refine g_iload_1 (pc := 6) C dX7_booking_6 ?_
  refine g_V1ie (pc := 7) C e_X7_booking_149 (Nat.le_of_ble_eq_true rfl) rfl dX7_booking_7 kk369 (c7_placeOf hm hf6 hs30) ?_
  rw [hf, hp]
  refine g_istore_3 (pc := 10) C dX7_booking_10 ?_
  refine g_iload_3 (pc := 11) C dX7_booking_11 ?_
  refine g_ldc (pc := 12) C k_X7_booking_40 dX7_booking_12 ?_
  refine g_icmp_ne (pc := 14) (tgt := 20) C dX7_booking_14 (by decide) (fun c14 => ?_) (fun c14 => ?_)
  · refine g_iload_2 (pc := 20) C dX7_booking_20 ?_
    refine g_iconst (pc := 21) (v := 5) C dX7_booking_21 rfl ?_
    refine g_icmp_ne (pc := 22) (tgt := 54) C dX7_booking_22 (by decide) (fun c22 => ?_) (fun c22 => ?_)
    · refine g_iload_2 (pc := 54) C dX7_booking_54 ?_
      refine g_iconst (pc := 55) (v := 0) C dX7_booking_55 rfl ?_
      refine g_iconst (pc := 56) (v := 4) C dX7_booking_56 rfl ?_
      refine g_S3ie (pc := 57) C e_X7_booking_32 (Nat.le_of_ble_eq_true rfl) rfl dX7_booking_57 (c7_in) ?_
      refine g_if_eq (pc := 60) (tgt := 74) C dX7_booking_60 (by decide) (fun c60 => ?_) (fun c60 => ?_)
      · refine g_ldc (pc := 74) C k_X7_booking_116 dX7_booking_74 ?_
        exact g_iret (post := fun r M1 P1 => r = aBooking A b k ∧ JM M1 P1 A ∧ FLo M P M1 P1) C F dX7_booking_76 ⟨by rw [aBooking, hp]; simp only []; rw [if_neg (fun e => hk (by rw [e]; decide)), if_neg (fun e => hk (by rw [e]; decide)), if_neg (fun e => hk (by rw [e]; decide)), if_neg (fun e => hk (by rw [e]; decide)), if_neg (fun e => hk (by rw [e]; decide)), if_neg h5], hj, hl1⟩
      · exact absurd (if1 c60) hk
    · exact absurd c22 h5
  · exact absurd c14 np5

theorem c7_booking {l : Launch} {D : va_G} {cy : Nat → ClassId} {B : Nat} {M : MM} {P : PP} {b k : Int32} {A : AS} {c : Nat} (h : JM M P A) (hA : WA c A) : KI l D cy B yX7_booking wsX7_booking 3 66 [Value.ref (B + 369), Value.int b, Value.int k] M P (fun r M1 P1 => r = aBooking A b k ∧ JM M1 P1 A ∧ FLo M P M1 P1) := by
  cases hp : plO A.f b with
  | none => exact c7_bookingN h hA hp
  | some p =>
    by_cases h5 : k = 5
    · exact c7_booking5 h hA hp h5
    · by_cases hk : 0 ≤ k ∧ k ≤ 4
      · obtain ⟨i, hi, e⟩ := i_nat (x := k) (N := 5) (by decide) (Int32.not_lt.mpr hk.1) (fun z => absurd (Int32.le_trans z hk.2) (by decide))
        rcases (show i = 0 ∨ i = 1 ∨ i = 2 ∨ i = 3 ∨ i = 4 by omega) with rfl | rfl | rfl | rfl | rfl
        · exact c7_bookingK0 h hA hp e
        · exact c7_bookingK1 h hA hp e
        · exact c7_bookingK2 h hA hp e
        · exact c7_bookingK3 h hA hp e
        · exact c7_bookingK4 h hA hp e
      · exact c7_bookingO h hA hp h5 hk
