theorem i_as (p q : Int32) : p + (q - p) = q := by rw [Int32.add_comm, Int32.sub_add_cancel]
theorem up_self {M : MM} {o : Nat} : up M o (M o) = M := by
  funext a
  by_cases e : a = o
  · rw [e, up_same]
  · rw [up_ne _ _ e]

set_option maxRecDepth 100000 in
set_option maxHeartbeats 1000000 in
theorem c7_license {l : Launch} {D : va_G} {cy : Nat → ClassId} {B : Nat} {M : MM} {P : PP} {w x : Int32} {A : AS} {c : Nat} (h : JM M P A) (hA : WA c A) : KI l D cy B yX7_license wsX7_license 2 42 [Value.ref (B + 369), Value.int w, Value.int x] M P (fun r M1 P1 => r = (sLic A w x).1 ∧ JM M1 P1 (sLic A w x).2 ∧ FLo M P M1 P1) := by
  refine met_KI (cc := cX7_license) (maxL := 4) (ret := (some .int)) (lv := [some (Value.ref (B + 369)), some (Value.int w), some (Value.int x), none]) (by decide) rfl rfl rfl (Nat.le_of_ble_eq_true rfl) ?_
  intro X C F
  have hw := hA.1
  have h6 := hw.m6
  have h30 := hw.s30
  refine g_aload_0 (pc := 0) C dX7_license_0 ?_
  refine g_iconst (pc := 1) (v := 0) C dX7_license_1 rfl ?_
  refine g_puti (pc := 2) C pf_X7_license_28 kk369 dX7_license_2 ?_
  obtain ⟨h1, hl⟩ := JM_thr h 0
  refine g_memo (fun M1 => JM M1 P A ∧ FLo M P M1 P) ⟨h1, hl⟩ (fun M1 hM1 => ?_)
  obtain ⟨hj, hl1⟩ := hM1
  have hm := hj.1
  have hf := hj.2.1
  have hf6 : M1 370 6 = nI (sn (M1 370)) := by rw [hf]; exact hw.s
  have hf12 : M1 370 12 = nI (mn (M1 370)) := by rw [hf]; exact hw.m
  have hs30 : sn (M1 370) ≤ 30 := by rw [hf]; exact h30
  have hm6 : mn (M1 370) ≤ 6 := by rw [hf]; exact h6
  refine g_iload_1 (pc := 5) C dX7_license_5 ?_
  refine g_S1ie (pc := 6) C e_X7_license_125 (Nat.le_of_ble_eq_true rfl) rfl dX7_license_6 (c7_isFarmer) ?_
  refine g_if_ne (pc := 9) (tgt := 15) C dX7_license_9 (by decide) (fun c9 => ?_) (fun c9 => ?_)
  · have hi : isF w := if1 c9
    obtain ⟨a, ha, hx, hcl⟩ := isF_of hi
    refine g_iload_2 (pc := 15) C dX7_license_15 ?_
    refine g_iconst (pc := 16) (v := 0) C dX7_license_16 rfl ?_
    refine g_bipush (pc := 17) (v := 7) C dX7_license_17 rfl ?_
    refine g_S3ie (pc := 19) C e_X7_license_32 (Nat.le_of_ble_eq_true rfl) rfl dX7_license_19 (c7_in) ?_
    refine g_if_ne (pc := 22) (tgt := 28) C dX7_license_22 (by decide) (fun c22 => ?_) (fun c22 => ?_)
    · refine g_aload_0 (pc := 28) C dX7_license_28 ?_
      refine g_iload_1 (pc := 29) C dX7_license_29 ?_
      refine g_iconst (pc := 30) (v := 1) C dX7_license_30 rfl ?_
      refine g_V2ie (pc := 31) C e_X7_license_66 (Nat.le_of_ble_eq_true rfl) rfl dX7_license_31 kk369 (c7_ofFarmer hm (i := a) (k := 1) hx rfl ha (by decide)) ?_
      rw [hf]
      refine g_istore_3 (pc := 34) C dX7_license_34 ?_
      refine g_iload_3 (pc := 35) C dX7_license_35 ?_
      refine g_iload_2 (pc := 36) C dX7_license_36 ?_
      refine g_icmp_ne (pc := 37) (tgt := 43) C dX7_license_37 (by decide) (fun c37 => ?_) (fun c37 => ?_)
      · refine g_aload_0 (pc := 43) C dX7_license_43 ?_
        refine g_V0v (pc := 44) C e_X7_license_122 (Nat.le_of_ble_eq_true rfl) rfl dX7_license_44 kk369 (c7_records hm hA.z hj.2.2.1) (fun M2 P2 hq => ?_)
        obtain ⟨j2, fl2⟩ := JM_rec hj hq
        have hP2 := hq.1
        subst P2
        have f2 : M2 370 = A.f := j2.2.1
        refine g_aload_0 (pc := 47) C dX7_license_47 ?_
        refine g_iload_1 (pc := 48) C dX7_license_48 ?_
        refine g_iconst (pc := 49) (v := 1) C dX7_license_49 rfl ?_
        refine g_iload_2 (pc := 50) C dX7_license_50 ?_
        refine g_iload_3 (pc := 51) C dX7_license_51 ?_
        refine g_isub (pc := 52) C dX7_license_52 ?_
        refine g_V3ve (pc := 53) C e_X7_license_98 (Nat.le_of_ble_eq_true rfl) rfl dX7_license_53 kk369 (c7_addFarmer hm (i := a) (k := 1) hx rfl ha (by decide)) ?_
        rw [f2, i_as]
        refine g_iload_3 (pc := 56) C dX7_license_56 ?_
        exact g_iret (post := fun r M1 P1 => r = (sLic A w x).1 ∧ JM M1 P1 (sLic A w x).2 ∧ FLo M P M1 P1) C F dX7_license_57 ⟨by rw [sLic, if_pos hi, if_pos (if1 c22), hcl, if_neg c37], by rw [sLic, if_pos hi, if_pos (if1 c22), hcl, if_neg c37]; exact (JM_now j2 _).1, (hl1.trans fl2).trans (JM_now j2 _).2⟩
      · refine g_ldc (pc := 40) C k_X7_license_40 dX7_license_40 ?_
        exact g_iret (post := fun r M1 P1 => r = (sLic A w x).1 ∧ JM M1 P1 (sLic A w x).2 ∧ FLo M P M1 P1) C F dX7_license_42 ⟨by rw [sLic, if_pos hi, if_pos (if1 c22), hcl, if_pos c37], by rw [sLic, if_pos hi, if_pos (if1 c22), hcl, if_pos c37]; exact hj, hl1⟩
    · refine g_ldc (pc := 25) C k_X7_license_116 dX7_license_25 ?_
      exact g_iret (post := fun r M1 P1 => r = (sLic A w x).1 ∧ JM M1 P1 (sLic A w x).2 ∧ FLo M P M1 P1) C F dX7_license_27 ⟨by rw [sLic, if_pos hi, if_neg (if0 c22)], by rw [sLic, if_pos hi, if_neg (if0 c22)]; exact hj, hl1⟩
  · have hi : ¬ isF w := if0 c9
    refine g_ldc (pc := 12) C k_X7_license_115 dX7_license_12 ?_
    exact g_iret (post := fun r M1 P1 => r = (sLic A w x).1 ∧ JM M1 P1 (sLic A w x).2 ∧ FLo M P M1 P1) C F dX7_license_14 ⟨by rw [sLic, if_neg hi], by rw [sLic, if_neg hi]; exact hj, hl1⟩

set_option maxRecDepth 100000 in
set_option maxHeartbeats 1000000 in
theorem c7_rate {l : Launch} {D : va_G} {cy : Nat → ClassId} {B : Nat} {M : MM} {P : PP} {m x : Int32} {A : AS} {c : Nat} (h : JM M P A) (hA : WA c A) : KI l D cy B yX7_setRate wsX7_setRate 2 43 [Value.ref (B + 369), Value.int m, Value.int x] M P (fun r M1 P1 => r = (sRate A m x).1 ∧ JM M1 P1 (sRate A m x).2 ∧ FLo M P M1 P1) := by
  refine met_KI (cc := cX7_setRate) (maxL := 4) (ret := (some .int)) (lv := [some (Value.ref (B + 369)), some (Value.int m), some (Value.int x), none]) (by decide) rfl rfl rfl (Nat.le_of_ble_eq_true rfl) ?_
  intro X C F
  have hw := hA.1
  have h6 := hw.m6
  have h30 := hw.s30
  refine g_aload_0 (pc := 0) C dX7_setRate_0 ?_
  refine g_iconst (pc := 1) (v := 0) C dX7_setRate_1 rfl ?_
  refine g_puti (pc := 2) C pf_X7_setRate_28 kk369 dX7_setRate_2 ?_
  obtain ⟨h1, hl⟩ := JM_thr h 0
  refine g_memo (fun M1 => JM M1 P A ∧ FLo M P M1 P) ⟨h1, hl⟩ (fun M1 hM1 => ?_)
  obtain ⟨hj, hl1⟩ := hM1
  have hm := hj.1
  have hf := hj.2.1
  have hf6 : M1 370 6 = nI (sn (M1 370)) := by rw [hf]; exact hw.s
  have hf12 : M1 370 12 = nI (mn (M1 370)) := by rw [hf]; exact hw.m
  have hs30 : sn (M1 370) ≤ 30 := by rw [hf]; exact h30
  have hm6 : mn (M1 370) ≤ 6 := by rw [hf]; exact h6
  refine g_aload_0 (pc := 5) C dX7_setRate_5 ?_
  refine g_iload_1 (pc := 6) C dX7_setRate_6 ?_
  refine g_V1ie (pc := 7) C e_X7_setRate_128 (Nat.le_of_ble_eq_true rfl) rfl dX7_setRate_7 kk369 (c7_isMachine (by assumption)) ?_
  rw [hf]
  refine g_if_ne (pc := 10) (tgt := 16) C dX7_setRate_10 (by decide) (fun c10 => ?_) (fun c10 => ?_)
  · have hi2 : isM A m := if1 c10
    obtain ⟨b, hb, hy, hcm⟩ := isM_of hA hi2
    refine g_iload_2 (pc := 16) C dX7_setRate_16 ?_
    refine g_iconst (pc := 17) (v := 1) C dX7_setRate_17 rfl ?_
    refine g_bipush (pc := 18) (v := 99) C dX7_setRate_18 rfl ?_
    refine g_S3ie (pc := 20) C e_X7_setRate_32 (Nat.le_of_ble_eq_true rfl) rfl dX7_setRate_20 (c7_in) ?_
    refine g_if_ne (pc := 23) (tgt := 29) C dX7_setRate_23 (by decide) (fun c23 => ?_) (fun c23 => ?_)
    · refine g_aload_0 (pc := 29) C dX7_setRate_29 ?_
      refine g_iload_1 (pc := 30) C dX7_setRate_30 ?_
      refine g_iconst (pc := 31) (v := 1) C dX7_setRate_31 rfl ?_
      refine g_V2ie (pc := 32) C e_X7_setRate_51 (Nat.le_of_ble_eq_true rfl) rfl dX7_setRate_32 kk369 (c7_ofMachine hm (i := b) (k := 1) hy rfl (by omega) (by decide)) ?_
      rw [hf]
      refine g_istore_3 (pc := 35) C dX7_setRate_35 ?_
      refine g_iload_3 (pc := 36) C dX7_setRate_36 ?_
      refine g_iload_2 (pc := 37) C dX7_setRate_37 ?_
      refine g_icmp_ne (pc := 38) (tgt := 44) C dX7_setRate_38 (by decide) (fun c38 => ?_) (fun c38 => ?_)
      · refine g_aload_0 (pc := 44) C dX7_setRate_44 ?_
        refine g_V0v (pc := 45) C e_X7_setRate_122 (Nat.le_of_ble_eq_true rfl) rfl dX7_setRate_45 kk369 (c7_records hm hA.z hj.2.2.1) (fun M2 P2 hq => ?_)
        obtain ⟨j2, fl2⟩ := JM_rec hj hq
        have hP2 := hq.1
        subst P2
        have f2 : M2 370 = A.f := j2.2.1
        refine g_aload_0 (pc := 48) C dX7_setRate_48 ?_
        refine g_iload_1 (pc := 49) C dX7_setRate_49 ?_
        refine g_iconst (pc := 50) (v := 1) C dX7_setRate_50 rfl ?_
        refine g_iload_2 (pc := 51) C dX7_setRate_51 ?_
        refine g_V3ve (pc := 52) C e_X7_setRate_95 (Nat.le_of_ble_eq_true rfl) rfl dX7_setRate_52 kk369 (c7_layMachine hm (i := b) (k := 1) hy rfl (by omega) (by decide)) ?_
        rw [f2]
        refine g_iload_3 (pc := 55) C dX7_setRate_55 ?_
        exact g_iret (post := fun r M1 P1 => r = (sRate A m x).1 ∧ JM M1 P1 (sRate A m x).2 ∧ FLo M P M1 P1) C F dX7_setRate_56 ⟨by rw [sRate, if_pos hi2, if_pos (if1 c23), hcm, if_neg c38], by rw [sRate, if_pos hi2, if_pos (if1 c23), hcm, if_neg c38]; exact (JM_now j2 _).1, (hl1.trans fl2).trans (JM_now j2 _).2⟩
      · refine g_ldc (pc := 41) C k_X7_setRate_40 dX7_setRate_41 ?_
        exact g_iret (post := fun r M1 P1 => r = (sRate A m x).1 ∧ JM M1 P1 (sRate A m x).2 ∧ FLo M P M1 P1) C F dX7_setRate_43 ⟨by rw [sRate, if_pos hi2, if_pos (if1 c23), hcm, if_pos c38], by rw [sRate, if_pos hi2, if_pos (if1 c23), hcm, if_pos c38]; exact hj, hl1⟩
    · refine g_ldc (pc := 26) C k_X7_setRate_116 dX7_setRate_26 ?_
      exact g_iret (post := fun r M1 P1 => r = (sRate A m x).1 ∧ JM M1 P1 (sRate A m x).2 ∧ FLo M P M1 P1) C F dX7_setRate_28 ⟨by rw [sRate, if_pos hi2, if_neg (if0 c23)], by rw [sRate, if_pos hi2, if_neg (if0 c23)]; exact hj, hl1⟩
  · have hi2 : ¬ isM A m := if0 c10
    refine g_ldc (pc := 13) C k_X7_setRate_115 dX7_setRate_13 ?_
    exact g_iret (post := fun r M1 P1 => r = (sRate A m x).1 ∧ JM M1 P1 (sRate A m x).2 ∧ FLo M P M1 P1) C F dX7_setRate_15 ⟨by rw [sRate, if_neg hi2], by rw [sRate, if_neg hi2]; exact hj, hl1⟩

set_option maxRecDepth 100000 in
set_option maxHeartbeats 1000000 in
theorem c7_seed {l : Launch} {D : va_G} {cy : Nat → ClassId} {B : Nat} {M : MM} {P : PP} {x : Int32} {A : AS} {c : Nat} (h : JM M P A) (hA : WA c A) : KI l D cy B yX7_setSeed wsX7_setSeed 1 22 [Value.ref (B + 369), Value.int x] M P (fun r M1 P1 => r = (sSeed A x).1 ∧ JM M1 P1 (sSeed A x).2 ∧ FLo M P M1 P1) := by
  refine met_KI (cc := cX7_setSeed) (maxL := 3) (ret := (some .int)) (lv := [some (Value.ref (B + 369)), some (Value.int x), none]) (by decide) rfl rfl rfl (Nat.le_of_ble_eq_true rfl) ?_
  intro X C F
  have hw := hA.1
  have h6 := hw.m6
  have h30 := hw.s30
  refine g_aload_0 (pc := 0) C dX7_setSeed_0 ?_
  refine g_iconst (pc := 1) (v := 0) C dX7_setSeed_1 rfl ?_
  refine g_puti (pc := 2) C pf_X7_setSeed_28 kk369 dX7_setSeed_2 ?_
  obtain ⟨h1, hl⟩ := JM_thr h 0
  refine g_memo (fun M1 => JM M1 P A ∧ FLo M P M1 P) ⟨h1, hl⟩ (fun M1 hM1 => ?_)
  obtain ⟨hj, hl1⟩ := hM1
  have hm := hj.1
  have hf := hj.2.1
  have hf6 : M1 370 6 = nI (sn (M1 370)) := by rw [hf]; exact hw.s
  have hf12 : M1 370 12 = nI (mn (M1 370)) := by rw [hf]; exact hw.m
  have hs30 : sn (M1 370) ≤ 30 := by rw [hf]; exact h30
  have hm6 : mn (M1 370) ≤ 6 := by rw [hf]; exact h6
  refine g_iload_1 (pc := 5) C dX7_setSeed_5 ?_
  refine g_iconst (pc := 6) (v := 0) C dX7_setSeed_6 rfl ?_
  refine g_sipush (pc := 7) (v := 9999) C dX7_setSeed_7 rfl ?_
  refine g_S3ie (pc := 10) C e_X7_setSeed_32 (Nat.le_of_ble_eq_true rfl) rfl dX7_setSeed_10 (c7_in) ?_
  refine g_if_ne (pc := 13) (tgt := 19) C dX7_setSeed_13 (by decide) (fun c13 => ?_) (fun c13 => ?_)
  · refine g_aload_0 (pc := 19) C dX7_setSeed_19 ?_
    refine g_getr (pc := 20) C hm.s fl_X7_setSeed_7 kk369 dX7_setSeed_20 ?_
    refine g_iconst (pc := 23) (v := 2) C dX7_setSeed_23 rfl ?_
    refine g_iald (pc := 24) (j := 2) C kk370 rfl ln370 (by omega) dX7_setSeed_24 ?_
    rw [hf]
    refine g_istore_2 (pc := 25) C dX7_setSeed_25 ?_
    refine g_iload_2 (pc := 26) C dX7_setSeed_26 ?_
    refine g_iload_1 (pc := 27) C dX7_setSeed_27 ?_
    refine g_icmp_ne (pc := 28) (tgt := 34) C dX7_setSeed_28 (by decide) (fun c28 => ?_) (fun c28 => ?_)
    · refine g_aload_0 (pc := 34) C dX7_setSeed_34 ?_
      refine g_V0v (pc := 35) C e_X7_setSeed_122 (Nat.le_of_ble_eq_true rfl) rfl dX7_setSeed_35 kk369 (c7_records hm hA.z hj.2.2.1) (fun M2 P2 hq => ?_)
      obtain ⟨j2, fl2⟩ := JM_rec hj hq
      have hP2 := hq.1
      subst P2
      have f2 : M2 370 = A.f := j2.2.1
      refine g_aload_0 (pc := 38) C dX7_setSeed_38 ?_
      refine g_getr (pc := 39) C hm.s fl_X7_setSeed_7 kk369 dX7_setSeed_39 ?_
      refine g_iconst (pc := 42) (v := 2) C dX7_setSeed_42 rfl ?_
      refine g_iload_1 (pc := 43) C dX7_setSeed_43 ?_
      refine g_iast (pc := 44) (j := 2) C kk370 rfl ln370 (by omega) dX7_setSeed_44 ?_
      rw [f2]
      refine g_iload_2 (pc := 45) C dX7_setSeed_45 ?_
      exact g_iret (post := fun r M1 P1 => r = (sSeed A x).1 ∧ JM M1 P1 (sSeed A x).2 ∧ FLo M P M1 P1) C F dX7_setSeed_46 ⟨by rw [sSeed, if_pos (if1 c13), if_neg c28], by rw [sSeed, if_pos (if1 c13), if_neg c28]; exact (JM_now j2 _).1, (hl1.trans fl2).trans (JM_now j2 _).2⟩
    · refine g_ldc (pc := 31) C k_X7_setSeed_40 dX7_setSeed_31 ?_
      exact g_iret (post := fun r M1 P1 => r = (sSeed A x).1 ∧ JM M1 P1 (sSeed A x).2 ∧ FLo M P M1 P1) C F dX7_setSeed_33 ⟨by rw [sSeed, if_pos (if1 c13), if_pos c28], by rw [sSeed, if_pos (if1 c13), if_pos c28]; exact hj, hl1⟩
  · refine g_ldc (pc := 16) C k_X7_setSeed_116 dX7_setSeed_16 ?_
    exact g_iret (post := fun r M1 P1 => r = (sSeed A x).1 ∧ JM M1 P1 (sSeed A x).2 ∧ FLo M P M1 P1) C F dX7_setSeed_18 ⟨by rw [sSeed, if_neg (if0 c13)], by rw [sSeed, if_neg (if0 c13)]; exact hj, hl1⟩

set_option maxRecDepth 100000 in
set_option maxHeartbeats 1000000 in
theorem c7_setA {l : Launch} {D : va_G} {cy : Nat → ClassId} {B : Nat} {M : MM} {P : PP} {k x : Int32} {A : AS} {c : Nat} (h : JM M P A) (hA : WA c A) (hk : k = 0) : KI l D cy B yX7_set wsX7_set 1 22 [Value.ref (B + 369), Value.int k, Value.int x] M P (fun r M1 P1 => r = (sSet A k x).1 ∧ JM M1 P1 (sSet A k x).2 ∧ FLo M P M1 P1) := by
  refine met_KI (cc := cX7_set) (maxL := 5) (ret := (some .int)) (lv := [some (Value.ref (B + 369)), some (Value.int k), some (Value.int x), none, none]) (by decide) rfl rfl rfl (Nat.le_of_ble_eq_true rfl) ?_
  intro X C F
  have hw := hA.1
  have h6 := hw.m6
  have h30 := hw.s30
  refine g_aload_0 (pc := 0) C dX7_set_0 ?_
  refine g_iconst (pc := 1) (v := 0) C dX7_set_1 rfl ?_
  refine g_puti (pc := 2) C pf_X7_set_28 kk369 dX7_set_2 ?_
  obtain ⟨h1, hl⟩ := JM_thr h 0
  refine g_memo (fun M1 => JM M1 P A ∧ FLo M P M1 P) ⟨h1, hl⟩ (fun M1 hM1 => ?_)
  obtain ⟨hj, hl1⟩ := hM1
  have hm := hj.1
  have hf := hj.2.1
  have hf6 : M1 370 6 = nI (sn (M1 370)) := by rw [hf]; exact hw.s
  have hf12 : M1 370 12 = nI (mn (M1 370)) := by rw [hf]; exact hw.m
  have hs30 : sn (M1 370) ≤ 30 := by rw [hf]; exact h30
  have hm6 : mn (M1 370) ≤ 6 := by rw [hf]; exact h6
  refine g_iload_1 (pc := 5) C dX7_set_5 ?_
  refine g_if_ne (pc := 6) (tgt := 21) C dX7_set_6 (by decide) (fun c6 => ?_) (fun c6 => ?_)
  · exact absurd hk c6
  · refine g_iload_2 (pc := 9) C dX7_set_9 ?_
    refine g_bipush (pc := 10) (v := 10) C dX7_set_10 rfl ?_
    refine g_sipush (pc := 12) (v := 200) C dX7_set_12 rfl ?_
    refine g_S3ie (pc := 15) C e_X7_set_32 (Nat.le_of_ble_eq_true rfl) rfl dX7_set_15 (c7_in) ?_
    refine g_goto (pc := 18) (tgt := 42) C dX7_set_18 (by decide) ?_
    refine g_istore_3 (pc := 42) C dX7_set_42 ?_
    refine g_iload_3 (pc := 43) C dX7_set_43 ?_
    refine g_if_ne (pc := 44) (tgt := 50) C dX7_set_44 (by decide) (fun c44 => ?_) (fun c44 => ?_)
    · refine g_aload_0 (pc := 50) C dX7_set_50 ?_
      refine g_getr (pc := 51) C hm.s fl_X7_set_7 kk369 dX7_set_51 ?_
      refine g_iload_1 (pc := 54) C dX7_set_54 ?_
      refine g_iald (pc := 55) (j := 0) C kk370 hk ln370 (by omega) dX7_set_55 ?_
      rw [hf]
      refine g_istore_4 (pc := 56) C dX7_set_56 ?_
      refine g_iload_4 (pc := 58) C dX7_set_58 ?_
      refine g_iload_2 (pc := 60) C dX7_set_60 ?_
      refine g_icmp_ne (pc := 61) (tgt := 67) C dX7_set_61 (by decide) (fun c61 => ?_) (fun c61 => ?_)
      · refine g_aload_0 (pc := 67) C dX7_set_67 ?_
        refine g_V0v (pc := 68) C e_X7_set_122 (Nat.le_of_ble_eq_true rfl) rfl dX7_set_68 kk369 (c7_records hm hA.z hj.2.2.1) (fun M2 P2 hq => ?_)
        obtain ⟨j2, fl2⟩ := JM_rec hj hq
        have hP2 := hq.1
        subst P2
        have f2 : M2 370 = A.f := j2.2.1
        refine g_aload_0 (pc := 71) C dX7_set_71 ?_
        refine g_getr (pc := 72) C hm.s fl_X7_set_7 kk369 dX7_set_72 ?_
        refine g_iload_1 (pc := 75) C dX7_set_75 ?_
        refine g_iload_2 (pc := 76) C dX7_set_76 ?_
        refine g_iast (pc := 77) (j := 0) C kk370 hk ln370 (by omega) dX7_set_77 ?_
        rw [f2]
        refine g_iload_4 (pc := 78) C dX7_set_78 ?_
        exact g_iret (post := fun r M1 P1 => r = (sSet A k x).1 ∧ JM M1 P1 (sSet A k x).2 ∧ FLo M P M1 P1) C F dX7_set_80 ⟨by rw [sSet, if_pos ⟨hk, if1 c44⟩, if_neg c61], by rw [sSet, if_pos ⟨hk, if1 c44⟩, if_neg c61]; exact (JM_now j2 _).1, (hl1.trans fl2).trans (JM_now j2 _).2⟩
      · refine g_ldc (pc := 64) C k_X7_set_40 dX7_set_64 ?_
        exact g_iret (post := fun r M1 P1 => r = (sSet A k x).1 ∧ JM M1 P1 (sSet A k x).2 ∧ FLo M P M1 P1) C F dX7_set_66 ⟨by rw [sSet, if_pos ⟨hk, if1 c44⟩, if_pos c61], by rw [sSet, if_pos ⟨hk, if1 c44⟩, if_pos c61]; exact hj, hl1⟩
    · refine g_ldc (pc := 47) C k_X7_set_116 dX7_set_47 ?_
      exact g_iret (post := fun r M1 P1 => r = (sSet A k x).1 ∧ JM M1 P1 (sSet A k x).2 ∧ FLo M P M1 P1) C F dX7_set_49 ⟨by rw [sSet, if_neg (fun z => if0 c44 z.2), if_neg (fun z => absurd (hk.symm.trans z.1) (by decide))], by rw [sSet, if_neg (fun z => if0 c44 z.2), if_neg (fun z => absurd (hk.symm.trans z.1) (by decide))]; exact hj, hl1⟩

set_option maxRecDepth 100000 in
set_option maxHeartbeats 1000000 in
theorem c7_setB {l : Launch} {D : va_G} {cy : Nat → ClassId} {B : Nat} {M : MM} {P : PP} {k x : Int32} {A : AS} {c : Nat} (h : JM M P A) (hA : WA c A) (hk : k = 1) : KI l D cy B yX7_set wsX7_set 1 22 [Value.ref (B + 369), Value.int k, Value.int x] M P (fun r M1 P1 => r = (sSet A k x).1 ∧ JM M1 P1 (sSet A k x).2 ∧ FLo M P M1 P1) := by
  refine met_KI (cc := cX7_set) (maxL := 5) (ret := (some .int)) (lv := [some (Value.ref (B + 369)), some (Value.int k), some (Value.int x), none, none]) (by decide) rfl rfl rfl (Nat.le_of_ble_eq_true rfl) ?_
  intro X C F
  have hw := hA.1
  have h6 := hw.m6
  have h30 := hw.s30
  refine g_aload_0 (pc := 0) C dX7_set_0 ?_
  refine g_iconst (pc := 1) (v := 0) C dX7_set_1 rfl ?_
  refine g_puti (pc := 2) C pf_X7_set_28 kk369 dX7_set_2 ?_
  obtain ⟨h1, hl⟩ := JM_thr h 0
  refine g_memo (fun M1 => JM M1 P A ∧ FLo M P M1 P) ⟨h1, hl⟩ (fun M1 hM1 => ?_)
  obtain ⟨hj, hl1⟩ := hM1
  have hm := hj.1
  have hf := hj.2.1
  have hf6 : M1 370 6 = nI (sn (M1 370)) := by rw [hf]; exact hw.s
  have hf12 : M1 370 12 = nI (mn (M1 370)) := by rw [hf]; exact hw.m
  have hs30 : sn (M1 370) ≤ 30 := by rw [hf]; exact h30
  have hm6 : mn (M1 370) ≤ 6 := by rw [hf]; exact h6
  refine g_iload_1 (pc := 5) C dX7_set_5 ?_
  refine g_if_ne (pc := 6) (tgt := 21) C dX7_set_6 (by decide) (fun c6 => ?_) (fun c6 => ?_)
  · refine g_iload_1 (pc := 21) C dX7_set_21 ?_
    refine g_iconst (pc := 22) (v := 1) C dX7_set_22 rfl ?_
    refine g_icmp_ne (pc := 23) (tgt := 41) C dX7_set_23 (by decide) (fun c23 => ?_) (fun c23 => ?_)
    · exact absurd hk c23
    · refine g_iload_2 (pc := 26) C dX7_set_26 ?_
      refine g_iconst (pc := 27) (v := 0) C dX7_set_27 rfl ?_
      refine g_sipush (pc := 28) (v := 9999) C dX7_set_28 rfl ?_
      refine g_S3ie (pc := 31) C e_X7_set_32 (Nat.le_of_ble_eq_true rfl) rfl dX7_set_31 (c7_in) ?_
      refine g_if_eq (pc := 34) (tgt := 41) C dX7_set_34 (by decide) (fun c34 => ?_) (fun c34 => ?_)
      · refine g_iconst (pc := 41) (v := 0) C dX7_set_41 rfl ?_
        refine g_istore_3 (pc := 42) C dX7_set_42 ?_
        refine g_iload_3 (pc := 43) C dX7_set_43 ?_
        refine g_if_ne (pc := 44) (tgt := 50) C dX7_set_44 (by decide) (fun c44 => ?_) (fun c44 => ?_)
        · exact absurd rfl c44
        · refine g_ldc (pc := 47) C k_X7_set_116 dX7_set_47 ?_
          exact g_iret (post := fun r M1 P1 => r = (sSet A k x).1 ∧ JM M1 P1 (sSet A k x).2 ∧ FLo M P M1 P1) C F dX7_set_49 ⟨by rw [sSet, if_neg (fun z => absurd (hk.symm.trans z.1) (by decide)), if_neg (fun z => if0 c34 z.2)], by rw [sSet, if_neg (fun z => absurd (hk.symm.trans z.1) (by decide)), if_neg (fun z => if0 c34 z.2)]; exact hj, hl1⟩
      · refine g_iconst (pc := 37) (v := 1) C dX7_set_37 rfl ?_
        refine g_goto (pc := 38) (tgt := 42) C dX7_set_38 (by decide) ?_
        refine g_istore_3 (pc := 42) C dX7_set_42 ?_
        refine g_iload_3 (pc := 43) C dX7_set_43 ?_
        refine g_if_ne (pc := 44) (tgt := 50) C dX7_set_44 (by decide) (fun c44 => ?_) (fun c44 => ?_)
        · refine g_aload_0 (pc := 50) C dX7_set_50 ?_
          refine g_getr (pc := 51) C hm.s fl_X7_set_7 kk369 dX7_set_51 ?_
          refine g_iload_1 (pc := 54) C dX7_set_54 ?_
          refine g_iald (pc := 55) (j := 1) C kk370 hk ln370 (by omega) dX7_set_55 ?_
          rw [hf]
          refine g_istore_4 (pc := 56) C dX7_set_56 ?_
          refine g_iload_4 (pc := 58) C dX7_set_58 ?_
          refine g_iload_2 (pc := 60) C dX7_set_60 ?_
          refine g_icmp_ne (pc := 61) (tgt := 67) C dX7_set_61 (by decide) (fun c61 => ?_) (fun c61 => ?_)
          · refine g_aload_0 (pc := 67) C dX7_set_67 ?_
            refine g_V0v (pc := 68) C e_X7_set_122 (Nat.le_of_ble_eq_true rfl) rfl dX7_set_68 kk369 (c7_records hm hA.z hj.2.2.1) (fun M2 P2 hq => ?_)
            obtain ⟨j2, fl2⟩ := JM_rec hj hq
            have hP2 := hq.1
            subst P2
            have f2 : M2 370 = A.f := j2.2.1
            refine g_aload_0 (pc := 71) C dX7_set_71 ?_
            refine g_getr (pc := 72) C hm.s fl_X7_set_7 kk369 dX7_set_72 ?_
            refine g_iload_1 (pc := 75) C dX7_set_75 ?_
            refine g_iload_2 (pc := 76) C dX7_set_76 ?_
            refine g_iast (pc := 77) (j := 1) C kk370 hk ln370 (by omega) dX7_set_77 ?_
            rw [f2]
            refine g_iload_4 (pc := 78) C dX7_set_78 ?_
            exact g_iret (post := fun r M1 P1 => r = (sSet A k x).1 ∧ JM M1 P1 (sSet A k x).2 ∧ FLo M P M1 P1) C F dX7_set_80 ⟨by rw [sSet, if_neg (fun z => absurd (hk.symm.trans z.1) (by decide)), if_pos ⟨hk, if1 c34⟩, if_neg c61], by rw [sSet, if_neg (fun z => absurd (hk.symm.trans z.1) (by decide)), if_pos ⟨hk, if1 c34⟩, if_neg c61]; exact (JM_now j2 _).1, (hl1.trans fl2).trans (JM_now j2 _).2⟩
          · refine g_ldc (pc := 64) C k_X7_set_40 dX7_set_64 ?_
            exact g_iret (post := fun r M1 P1 => r = (sSet A k x).1 ∧ JM M1 P1 (sSet A k x).2 ∧ FLo M P M1 P1) C F dX7_set_66 ⟨by rw [sSet, if_neg (fun z => absurd (hk.symm.trans z.1) (by decide)), if_pos ⟨hk, if1 c34⟩, if_pos c61], by rw [sSet, if_neg (fun z => absurd (hk.symm.trans z.1) (by decide)), if_pos ⟨hk, if1 c34⟩, if_pos c61]; exact hj, hl1⟩
        · exact absurd c44 (by decide)
  · exact absurd (hk.symm.trans c6) (by decide)

set_option maxRecDepth 100000 in
set_option maxHeartbeats 1000000 in
theorem c7_setC {l : Launch} {D : va_G} {cy : Nat → ClassId} {B : Nat} {M : MM} {P : PP} {k x : Int32} {A : AS} {c : Nat} (h : JM M P A) (hA : WA c A) (hk0 : ¬ k = 0) (hk1 : ¬ k = 1) : KI l D cy B yX7_set wsX7_set 1 22 [Value.ref (B + 369), Value.int k, Value.int x] M P (fun r M1 P1 => r = (sSet A k x).1 ∧ JM M1 P1 (sSet A k x).2 ∧ FLo M P M1 P1) := by
  refine met_KI (cc := cX7_set) (maxL := 5) (ret := (some .int)) (lv := [some (Value.ref (B + 369)), some (Value.int k), some (Value.int x), none, none]) (by decide) rfl rfl rfl (Nat.le_of_ble_eq_true rfl) ?_
  intro X C F
  have hw := hA.1
  have h6 := hw.m6
  have h30 := hw.s30
  refine g_aload_0 (pc := 0) C dX7_set_0 ?_
  refine g_iconst (pc := 1) (v := 0) C dX7_set_1 rfl ?_
  refine g_puti (pc := 2) C pf_X7_set_28 kk369 dX7_set_2 ?_
  obtain ⟨h1, hl⟩ := JM_thr h 0
  refine g_memo (fun M1 => JM M1 P A ∧ FLo M P M1 P) ⟨h1, hl⟩ (fun M1 hM1 => ?_)
  obtain ⟨hj, hl1⟩ := hM1
  have hm := hj.1
  have hf := hj.2.1
  have hf6 : M1 370 6 = nI (sn (M1 370)) := by rw [hf]; exact hw.s
  have hf12 : M1 370 12 = nI (mn (M1 370)) := by rw [hf]; exact hw.m
  have hs30 : sn (M1 370) ≤ 30 := by rw [hf]; exact h30
  have hm6 : mn (M1 370) ≤ 6 := by rw [hf]; exact h6
  refine g_iload_1 (pc := 5) C dX7_set_5 ?_
  refine g_if_ne (pc := 6) (tgt := 21) C dX7_set_6 (by decide) (fun c6 => ?_) (fun c6 => ?_)
  · refine g_iload_1 (pc := 21) C dX7_set_21 ?_
    refine g_iconst (pc := 22) (v := 1) C dX7_set_22 rfl ?_
    refine g_icmp_ne (pc := 23) (tgt := 41) C dX7_set_23 (by decide) (fun c23 => ?_) (fun c23 => ?_)
    · refine g_iconst (pc := 41) (v := 0) C dX7_set_41 rfl ?_
      refine g_istore_3 (pc := 42) C dX7_set_42 ?_
      refine g_iload_3 (pc := 43) C dX7_set_43 ?_
      refine g_if_ne (pc := 44) (tgt := 50) C dX7_set_44 (by decide) (fun c44 => ?_) (fun c44 => ?_)
      · exact absurd rfl c44
      · refine g_ldc (pc := 47) C k_X7_set_116 dX7_set_47 ?_
        exact g_iret (post := fun r M1 P1 => r = (sSet A k x).1 ∧ JM M1 P1 (sSet A k x).2 ∧ FLo M P M1 P1) C F dX7_set_49 ⟨by rw [sSet, if_neg (fun z => hk0 z.1), if_neg (fun z => hk1 z.1)], by rw [sSet, if_neg (fun z => hk0 z.1), if_neg (fun z => hk1 z.1)]; exact hj, hl1⟩
    · exact absurd c23 hk1
  · exact absurd c6 hk0

theorem c7_set {l : Launch} {D : va_G} {cy : Nat → ClassId} {B : Nat} {M : MM} {P : PP} {k x : Int32} {A : AS} {c : Nat} (h : JM M P A) (hA : WA c A) : KI l D cy B yX7_set wsX7_set 1 22 [Value.ref (B + 369), Value.int k, Value.int x] M P (fun r M1 P1 => r = (sSet A k x).1 ∧ JM M1 P1 (sSet A k x).2 ∧ FLo M P M1 P1) := by
  by_cases hk0 : k = 0
  · exact c7_setA h hA hk0
  · by_cases hk1 : k = 1
    · exact c7_setB h hA hk1
    · exact c7_setC h hA hk0 hk1

set_option maxRecDepth 100000 in
set_option maxHeartbeats 1000000 in
theorem c7_pay {l : Launch} {D : va_G} {cy : Nat → ClassId} {B : Nat} {M : MM} {P : PP} {w x : Int32} {A : AS} {c : Nat} (h : JM M P A) (hA : WA c A) : KI l D cy B yX7_pay wsX7_pay 2 42 [Value.ref (B + 369), Value.int w, Value.int x] M P (fun r M1 P1 => r = (sPay A w x).1 ∧ JM M1 P1 (sPay A w x).2 ∧ FLo M P M1 P1) := by
  refine met_KI (cc := cX7_pay) (maxL := 3) (ret := (some .int)) (lv := [some (Value.ref (B + 369)), some (Value.int w), some (Value.int x)]) (by decide) rfl rfl rfl (Nat.le_of_ble_eq_true rfl) ?_
  intro X C F
  have hw := hA.1
  have h6 := hw.m6
  have h30 := hw.s30
  refine g_aload_0 (pc := 0) C dX7_pay_0 ?_
  refine g_iconst (pc := 1) (v := 0) C dX7_pay_1 rfl ?_
  refine g_puti (pc := 2) C pf_X7_pay_28 kk369 dX7_pay_2 ?_
  obtain ⟨h1, hl⟩ := JM_thr h 0
  refine g_memo (fun M1 => JM M1 P A ∧ FLo M P M1 P) ⟨h1, hl⟩ (fun M1 hM1 => ?_)
  obtain ⟨hj, hl1⟩ := hM1
  have hm := hj.1
  have hf := hj.2.1
  have hf6 : M1 370 6 = nI (sn (M1 370)) := by rw [hf]; exact hw.s
  have hf12 : M1 370 12 = nI (mn (M1 370)) := by rw [hf]; exact hw.m
  have hs30 : sn (M1 370) ≤ 30 := by rw [hf]; exact h30
  have hm6 : mn (M1 370) ≤ 6 := by rw [hf]; exact h6
  refine g_iload_1 (pc := 5) C dX7_pay_5 ?_
  refine g_S1ie (pc := 6) C e_X7_pay_125 (Nat.le_of_ble_eq_true rfl) rfl dX7_pay_6 (c7_isFarmer) ?_
  refine g_if_ne (pc := 9) (tgt := 15) C dX7_pay_9 (by decide) (fun c9 => ?_) (fun c9 => ?_)
  · have hi : isF w := if1 c9
    obtain ⟨a, ha, hx, hcl⟩ := isF_of hi
    refine g_iload_2 (pc := 15) C dX7_pay_15 ?_
    refine g_iconst (pc := 16) (v := 1) C dX7_pay_16 rfl ?_
    refine g_sipush (pc := 17) (v := 9999) C dX7_pay_17 rfl ?_
    refine g_S3ie (pc := 20) C e_X7_pay_32 (Nat.le_of_ble_eq_true rfl) rfl dX7_pay_20 (c7_in) ?_
    refine g_if_ne (pc := 23) (tgt := 29) C dX7_pay_23 (by decide) (fun c23 => ?_) (fun c23 => ?_)
    · refine g_aload_0 (pc := 29) C dX7_pay_29 ?_
      refine g_V0v (pc := 30) C e_X7_pay_122 (Nat.le_of_ble_eq_true rfl) rfl dX7_pay_30 kk369 (c7_records hm hA.z hj.2.2.1) (fun M2 P2 hq => ?_)
      obtain ⟨j2, fl2⟩ := JM_rec hj hq
      have hP2 := hq.1
      subst P2
      have f2 : M2 370 = A.f := j2.2.1
      refine g_aload_0 (pc := 33) C dX7_pay_33 ?_
      refine g_iload_1 (pc := 34) C dX7_pay_34 ?_
      refine g_iconst (pc := 35) (v := 0) C dX7_pay_35 rfl ?_
      refine g_iload_2 (pc := 36) C dX7_pay_36 ?_
      refine g_V3ve (pc := 37) C e_X7_pay_98 (Nat.le_of_ble_eq_true rfl) rfl dX7_pay_37 kk369 (c7_addFarmer hm (i := a) (k := 0) hx rfl ha (by decide)) ?_
      rw [f2]
      refine g_aload_0 (pc := 40) C dX7_pay_40 ?_
      refine g_getr (pc := 41) C hm.s fl_X7_pay_7 kk369 dX7_pay_41 ?_
      refine g_iconst (pc := 44) (v := 4) C dX7_pay_44 rfl ?_
      refine g_dup2 (pc := 45) C dX7_pay_45 rfl rfl ?_
      refine g_iald (pc := 46) (j := 4) C kk370 rfl ln370 (by omega) dX7_pay_46 ?_
      rw [up_same, up_ne _ _ (show 4 ≠ 13 + 6 * a + 0 by omega)]
      refine g_iload_2 (pc := 47) C dX7_pay_47 ?_
      refine g_iadd (pc := 48) C dX7_pay_48 ?_
      refine g_iast (pc := 49) (j := 4) C kk370 rfl ln370 (by omega) dX7_pay_49 ?_
      simp only [up_same, up_up]
      refine g_aload_0 (pc := 50) C dX7_pay_50 ?_
      refine g_getr (pc := 51) C hm.s fl_X7_pay_7 kk369 dX7_pay_51 ?_
      refine g_bipush (pc := 54) (v := 11) C dX7_pay_54 rfl ?_
      refine g_dup2 (pc := 56) C dX7_pay_56 rfl rfl ?_
      refine g_iald (pc := 57) (j := 11) C kk370 rfl ln370 (by omega) dX7_pay_57 ?_
      rw [up_same, up_ne _ _ (show 11 ≠ 4 by decide), up_ne _ _ (show 11 ≠ 13 + 6 * a + 0 by omega)]
      refine g_iload_2 (pc := 58) C dX7_pay_58 ?_
      refine g_iadd (pc := 59) C dX7_pay_59 ?_
      refine g_iast (pc := 60) (j := 11) C kk370 rfl ln370 (by omega) dX7_pay_60 ?_
      simp only [up_same, up_up]
      refine g_aload_0 (pc := 61) C dX7_pay_61 ?_
      refine g_iload_1 (pc := 62) C dX7_pay_62 ?_
      refine g_iconst (pc := 63) (v := 0) C dX7_pay_63 rfl ?_
      refine g_V2ie (pc := 64) C e_X7_pay_66 (Nat.le_of_ble_eq_true rfl) rfl dX7_pay_64 kk369 (c7_ofFarmer hm (i := a) (k := 0) hx rfl ha (by decide)) ?_
      rw [up_same, up_ne _ _ (show 13 + 6 * a + 0 ≠ 11 by omega), up_ne _ _ (show 13 + 6 * a + 0 ≠ 4 by omega), up_same]
      exact g_iret (post := fun r M1 P1 => r = (sPay A w x).1 ∧ JM M1 P1 (sPay A w x).2 ∧ FLo M P M1 P1) C F dX7_pay_67 ⟨by rw [sPay, if_pos hi, if_pos (if1 c23), hcl], by rw [sPay, if_pos hi, if_pos (if1 c23), hcl]; exact (JM_now j2 _).1, (hl1.trans fl2).trans (JM_now j2 _).2⟩
    · refine g_ldc (pc := 26) C k_X7_pay_116 dX7_pay_26 ?_
      exact g_iret (post := fun r M1 P1 => r = (sPay A w x).1 ∧ JM M1 P1 (sPay A w x).2 ∧ FLo M P M1 P1) C F dX7_pay_28 ⟨by rw [sPay, if_pos hi, if_neg (if0 c23)], by rw [sPay, if_pos hi, if_neg (if0 c23)]; exact hj, hl1⟩
  · have hi : ¬ isF w := if0 c9
    refine g_ldc (pc := 12) C k_X7_pay_115 dX7_pay_12 ?_
    exact g_iret (post := fun r M1 P1 => r = (sPay A w x).1 ∧ JM M1 P1 (sPay A w x).2 ∧ FLo M P M1 P1) C F dX7_pay_14 ⟨by rw [sPay, if_neg hi], by rw [sPay, if_neg hi]; exact hj, hl1⟩

set_option maxRecDepth 100000 in
set_option maxHeartbeats 1000000 in
theorem c7_fill {l : Launch} {D : va_G} {cy : Nat → ClassId} {B : Nat} {M : MM} {P : PP} {w m x : Int32} {A : AS} {c : Nat} (h : JM M P A) (hA : WA c A) : KI l D cy B yX7_fill wsX7_fill 2 44 [Value.ref (B + 369), Value.int w, Value.int m, Value.int x] M P (fun r M1 P1 => r = (sFill A w m x).1 ∧ JM M1 P1 (sFill A w m x).2 ∧ FLo M P M1 P1) := by
  refine met_KI (cc := cX7_fill) (maxL := 5) (ret := (some .int)) (lv := [some (Value.ref (B + 369)), some (Value.int w), some (Value.int m), some (Value.int x), none]) (by decide) rfl rfl rfl (Nat.le_of_ble_eq_true rfl) ?_
  intro X C F
  have hw := hA.1
  have h6 := hw.m6
  have h30 := hw.s30
  refine g_aload_0 (pc := 0) C dX7_fill_0 ?_
  refine g_iconst (pc := 1) (v := 0) C dX7_fill_1 rfl ?_
  refine g_puti (pc := 2) C pf_X7_fill_28 kk369 dX7_fill_2 ?_
  obtain ⟨h1, hl⟩ := JM_thr h 0
  refine g_memo (fun M1 => JM M1 P A ∧ FLo M P M1 P) ⟨h1, hl⟩ (fun M1 hM1 => ?_)
  obtain ⟨hj, hl1⟩ := hM1
  have hm := hj.1
  have hf := hj.2.1
  have hf6 : M1 370 6 = nI (sn (M1 370)) := by rw [hf]; exact hw.s
  have hf12 : M1 370 12 = nI (mn (M1 370)) := by rw [hf]; exact hw.m
  have hs30 : sn (M1 370) ≤ 30 := by rw [hf]; exact h30
  have hm6 : mn (M1 370) ≤ 6 := by rw [hf]; exact h6
  refine g_iload_1 (pc := 5) C dX7_fill_5 ?_
  refine g_S1ie (pc := 6) C e_X7_fill_125 (Nat.le_of_ble_eq_true rfl) rfl dX7_fill_6 (c7_isFarmer) ?_
  refine g_if_eq (pc := 9) (tgt := 20) C dX7_fill_9 (by decide) (fun c9 => ?_) (fun c9 => ?_)
  · have hi : ¬ isF w := if0 c9
    refine g_ldc (pc := 20) C k_X7_fill_115 dX7_fill_20 ?_
    exact g_iret (post := fun r M1 P1 => r = (sFill A w m x).1 ∧ JM M1 P1 (sFill A w m x).2 ∧ FLo M P M1 P1) C F dX7_fill_22 ⟨by rw [sFill, if_neg (fun z => hi z.1)], by rw [sFill, if_neg (fun z => hi z.1)]; exact hj, hl1⟩
  · have hi : isF w := if1 c9
    obtain ⟨a, ha, hx, hcl⟩ := isF_of hi
    refine g_aload_0 (pc := 12) C dX7_fill_12 ?_
    refine g_iload_2 (pc := 13) C dX7_fill_13 ?_
    refine g_V1ie (pc := 14) C e_X7_fill_128 (Nat.le_of_ble_eq_true rfl) rfl dX7_fill_14 kk369 (c7_isMachine (by assumption)) ?_
    rw [hf]
    refine g_if_ne (pc := 17) (tgt := 23) C dX7_fill_17 (by decide) (fun c17 => ?_) (fun c17 => ?_)
    · have hi2 : isM A m := if1 c17
      obtain ⟨b, hb, hy, hcm⟩ := isM_of hA hi2
      refine g_iload_3 (pc := 23) C dX7_fill_23 ?_
      refine g_iconst (pc := 24) (v := 1) C dX7_fill_24 rfl ?_
      refine g_sipush (pc := 25) (v := 500) C dX7_fill_25 rfl ?_
      refine g_S3ie (pc := 28) C e_X7_fill_32 (Nat.le_of_ble_eq_true rfl) rfl dX7_fill_28 (c7_in) ?_
      refine g_if_ne (pc := 31) (tgt := 37) C dX7_fill_31 (by decide) (fun c31 => ?_) (fun c31 => ?_)
      · have hx5 : 1 ≤ x ∧ x ≤ 500 := if1 c31
        obtain ⟨n, hn, hxn⟩ := i_nat (x := x) (N := 501) (by decide) (Int32.not_lt.mpr (Int32.le_trans (by decide) hx5.1)) (fun z => absurd (Int32.le_trans z hx5.2) (by decide))
        obtain ⟨k, u1, u2, -, -⟩ := fill_u hw hb (show n ≤ 500 by omega)
        rw [← hxn] at u2
        refine g_aload_0 (pc := 37) C dX7_fill_37 ?_
        refine g_iload_2 (pc := 38) C dX7_fill_38 ?_
        refine g_V1fe (pc := 39) C e_X7_fill_77 (Nat.le_of_ble_eq_true rfl) rfl dX7_fill_39 kk369 (c7_fuelOf hm hy (by omega) (by rw [hf]; exact hw.sni hb)) ?_
        rw [hf]
        refine g_iload_3 (pc := 42) C dX7_fill_42 ?_
        refine g_i2f (pc := 43) C dX7_fill_43 ?_
        refine g_fadd (pc := 44) C dX7_fill_44 (by rw [show FP.fadd (A.f (49 + 14 * b + 6)).toUInt32 (FP.i2f x) = qbU k from u2]; exact qbU_n32 u1) ?_
        rw [show FP.fadd (A.f (49 + 14 * b + 6)).toUInt32 (FP.i2f x) = fillU A.f b x from rfl]
        refine g_fstore_4 (pc := 45) C dX7_fill_45 ?_
        refine g_fload_4 (pc := 47) C dX7_fill_47 ?_
        refine g_ldcf (pc := 49) C k_X7_fill_131 dX7_fill_49 ?_
        refine g_fcmp (pc := 51) C dX7_fill_51 ?_
        refine g_if_le (pc := 52) (tgt := 58) C dX7_fill_52 (by decide) (fun c52 => ?_) (fun c52 => ?_)
        · refine g_aload_0 (pc := 58) C dX7_fill_58 ?_
          refine g_V0v (pc := 59) C e_X7_fill_122 (Nat.le_of_ble_eq_true rfl) rfl dX7_fill_59 kk369 (c7_records hm hA.z hj.2.2.1) (fun M2 P2 hq => ?_)
          obtain ⟨j2, fl2⟩ := JM_rec hj hq
          have hP2 := hq.1
          subst P2
          have f2 : M2 370 = A.f := j2.2.1
          refine g_aload_0 (pc := 62) C dX7_fill_62 ?_
          refine g_iload_2 (pc := 63) C dX7_fill_63 ?_
          refine g_bipush (pc := 64) (v := 6) C dX7_fill_64 rfl ?_
          refine g_fload_4 (pc := 66) C dX7_fill_66 ?_
          refine g_S1ie (pc := 68) C e_X7_fill_91 (Nat.le_of_ble_eq_true rfl) rfl dX7_fill_68 (cJ_bits (by rw [u2]; exact qb_eq u1)) ?_
          refine g_V3ve (pc := 71) C e_X7_fill_95 (Nat.le_of_ble_eq_true rfl) rfl dX7_fill_71 kk369 (c7_layMachine hm (i := b) (k := 6) hy rfl (by omega) (by decide)) ?_
          rw [f2]
          refine g_aload_0 (pc := 74) C dX7_fill_74 ?_
          refine g_iload_1 (pc := 75) C dX7_fill_75 ?_
          refine g_iconst (pc := 76) (v := 3) C dX7_fill_76 rfl ?_
          refine g_iload_3 (pc := 77) C dX7_fill_77 ?_
          refine g_V3ve (pc := 78) C e_X7_fill_98 (Nat.le_of_ble_eq_true rfl) rfl dX7_fill_78 kk369 (c7_addFarmer hm (i := a) (k := 3) hx rfl ha (by decide)) ?_
          simp only [up_same, up_up]
          rw [up_ne (j := 13 + 6 * a + 3) _ _ (show 13 + 6 * a + 3 ≠ 49 + 14 * b + 6 by omega)]
          refine g_aload_0 (pc := 81) C dX7_fill_81 ?_
          refine g_getr (pc := 82) C hm.s fl_X7_fill_7 kk369 dX7_fill_82 ?_
          refine g_iconst (pc := 85) (v := 4) C dX7_fill_85 rfl ?_
          refine g_dup2 (pc := 86) C dX7_fill_86 rfl rfl ?_
          refine g_iald (pc := 87) (j := 4) C kk370 rfl ln370 (by omega) dX7_fill_87 ?_
          rw [up_same, up_ne _ _ (show 4 ≠ 13 + 6 * a + 3 by omega), up_ne _ _ (show 4 ≠ 49 + 14 * b + 6 by omega)]
          refine g_iconst (pc := 88) (v := 2) C dX7_fill_88 rfl ?_
          refine g_iload_3 (pc := 89) C dX7_fill_89 ?_
          refine g_imul (pc := 90) C dX7_fill_90 ?_
          refine g_isub (pc := 91) C dX7_fill_91 ?_
          refine g_iast (pc := 92) (j := 4) C kk370 rfl ln370 (by omega) dX7_fill_92 ?_
          simp only [up_same, up_up]
          refine g_aload_0 (pc := 93) C dX7_fill_93 ?_
          refine g_getr (pc := 94) C hm.s fl_X7_fill_7 kk369 dX7_fill_94 ?_
          refine g_bipush (pc := 97) (v := 10) C dX7_fill_97 rfl ?_
          refine g_dup2 (pc := 99) C dX7_fill_99 rfl rfl ?_
          refine g_iald (pc := 100) (j := 10) C kk370 rfl ln370 (by omega) dX7_fill_100 ?_
          rw [up_same, up_ne _ _ (show 10 ≠ 4 by decide), up_ne _ _ (show 10 ≠ 13 + 6 * a + 3 by omega), up_ne _ _ (show 10 ≠ 49 + 14 * b + 6 by omega)]
          refine g_iconst (pc := 101) (v := 2) C dX7_fill_101 rfl ?_
          refine g_iload_3 (pc := 102) C dX7_fill_102 ?_
          refine g_imul (pc := 103) C dX7_fill_103 ?_
          refine g_iadd (pc := 104) C dX7_fill_104 ?_
          refine g_iast (pc := 105) (j := 10) C kk370 rfl ln370 (by omega) dX7_fill_105 ?_
          simp only [up_same, up_up]
          refine g_iconst (pc := 106) (v := 2) C dX7_fill_106 rfl ?_
          refine g_iload_3 (pc := 107) C dX7_fill_107 ?_
          refine g_imul (pc := 108) C dX7_fill_108 ?_
          exact g_iret (post := fun r M1 P1 => r = (sFill A w m x).1 ∧ JM M1 P1 (sFill A w m x).2 ∧ FLo M P M1 P1) C F dX7_fill_109 ⟨by rw [sFill, if_pos ⟨hi, hi2⟩, if_pos hx5, hcm, hcl, if_pos c52], by rw [sFill, if_pos ⟨hi, hi2⟩, if_pos hx5, hcm, hcl, if_pos c52]; exact (JM_now j2 _).1, (hl1.trans fl2).trans (JM_now j2 _).2⟩
        · refine g_ldc (pc := 55) C k_X7_fill_120 dX7_fill_55 ?_
          exact g_iret (post := fun r M1 P1 => r = (sFill A w m x).1 ∧ JM M1 P1 (sFill A w m x).2 ∧ FLo M P M1 P1) C F dX7_fill_57 ⟨by rw [sFill, if_pos ⟨hi, hi2⟩, if_pos hx5, hcm, if_neg c52], by rw [sFill, if_pos ⟨hi, hi2⟩, if_pos hx5, hcm, if_neg c52]; exact hj, hl1⟩
      · refine g_ldc (pc := 34) C k_X7_fill_116 dX7_fill_34 ?_
        exact g_iret (post := fun r M1 P1 => r = (sFill A w m x).1 ∧ JM M1 P1 (sFill A w m x).2 ∧ FLo M P M1 P1) C F dX7_fill_36 ⟨by rw [sFill, if_pos ⟨hi, hi2⟩, if_neg (if0 c31)], by rw [sFill, if_pos ⟨hi, hi2⟩, if_neg (if0 c31)]; exact hj, hl1⟩
    · have hi2 : ¬ isM A m := if0 c17
      refine g_ldc (pc := 20) C k_X7_fill_115 dX7_fill_20 ?_
      exact g_iret (post := fun r M1 P1 => r = (sFill A w m x).1 ∧ JM M1 P1 (sFill A w m x).2 ∧ FLo M P M1 P1) C F dX7_fill_22 ⟨by rw [sFill, if_neg (fun z => hi2 z.2)], by rw [sFill, if_neg (fun z => hi2 z.2)]; exact hj, hl1⟩

set_option maxRecDepth 100000 in
set_option maxHeartbeats 1000000 in
theorem c7_mend {l : Launch} {D : va_G} {cy : Nat → ClassId} {B : Nat} {M : MM} {P : PP} {m : Int32} {A : AS} {c : Nat} (h : JM M P A) (hA : WA c A) : KI l D cy B yX7_mend wsX7_mend 2 43 [Value.ref (B + 369), Value.int m] M P (fun r M1 P1 => r = (sMend A m).1 ∧ JM M1 P1 (sMend A m).2 ∧ FLo M P M1 P1) := by
  refine met_KI (cc := cX7_mend) (maxL := 5) (ret := (some .int)) (lv := [some (Value.ref (B + 369)), some (Value.int m), none, none, none]) (by decide) rfl rfl rfl (Nat.le_of_ble_eq_true rfl) ?_
  intro X C F
  have hw := hA.1
  have h6 := hw.m6
  have h30 := hw.s30
  refine g_aload_0 (pc := 0) C dX7_mend_0 ?_
  refine g_iconst (pc := 1) (v := 0) C dX7_mend_1 rfl ?_
  refine g_puti (pc := 2) C pf_X7_mend_28 kk369 dX7_mend_2 ?_
  obtain ⟨h1, hl⟩ := JM_thr h 0
  refine g_memo (fun M1 => JM M1 P A ∧ FLo M P M1 P) ⟨h1, hl⟩ (fun M1 hM1 => ?_)
  obtain ⟨hj, hl1⟩ := hM1
  have hm := hj.1
  have hf := hj.2.1
  have hf6 : M1 370 6 = nI (sn (M1 370)) := by rw [hf]; exact hw.s
  have hf12 : M1 370 12 = nI (mn (M1 370)) := by rw [hf]; exact hw.m
  have hs30 : sn (M1 370) ≤ 30 := by rw [hf]; exact h30
  have hm6 : mn (M1 370) ≤ 6 := by rw [hf]; exact h6
  refine g_aload_0 (pc := 5) C dX7_mend_5 ?_
  refine g_iload_1 (pc := 6) C dX7_mend_6 ?_
  refine g_V1ie (pc := 7) C e_X7_mend_128 (Nat.le_of_ble_eq_true rfl) rfl dX7_mend_7 kk369 (c7_isMachine (by assumption)) ?_
  rw [hf]
  refine g_if_ne (pc := 10) (tgt := 16) C dX7_mend_10 (by decide) (fun c10 => ?_) (fun c10 => ?_)
  · have hi2 : isM A m := if1 c10
    obtain ⟨b, hb, hy, hcm⟩ := isM_of hA hi2
    refine g_aload_0 (pc := 16) C dX7_mend_16 ?_
    refine g_iload_1 (pc := 17) C dX7_mend_17 ?_
    refine g_iconst (pc := 18) (v := 2) C dX7_mend_18 rfl ?_
    refine g_V2ie (pc := 19) C e_X7_mend_51 (Nat.le_of_ble_eq_true rfl) rfl dX7_mend_19 kk369 (c7_ofMachine hm (i := b) (k := 2) hy rfl (by omega) (by decide)) ?_
    rw [hf]
    refine g_if_ne (pc := 22) (tgt := 28) C dX7_mend_22 (by decide) (fun c22 => ?_) (fun c22 => ?_)
    · obtain ⟨x, hx1, hx2, hx⟩ := (hw.wm hb).broken c22
      refine g_aload_0 (pc := 28) C dX7_mend_28 ?_
      refine g_V0v (pc := 29) C e_X7_mend_122 (Nat.le_of_ble_eq_true rfl) rfl dX7_mend_29 kk369 (c7_records hm hA.z hj.2.2.1) (fun M2 P2 hq => ?_)
      obtain ⟨j2, fl2⟩ := JM_rec hj hq
      have hP2 := hq.1
      subst P2
      have f2 : M2 370 = A.f := j2.2.1
      refine g_aload_0 (pc := 32) C dX7_mend_32 ?_
      refine g_getr (pc := 33) C hm.s fl_X7_mend_7 kk369 dX7_mend_33 ?_
      refine g_iconst (pc := 36) (v := 1) C dX7_mend_36 rfl ?_
      refine g_iald (pc := 37) (j := 1) C kk370 rfl ln370 (by omega) dX7_mend_37 ?_
      rw [f2]
      refine g_istore_2 (pc := 38) C dX7_mend_38 ?_
      refine g_iconst (pc := 39) (v := 0) C dX7_mend_39 rfl ?_
      refine g_istore_3 (pc := 40) C dX7_mend_40 ?_
      have ez : M2 = up M2 370 (mdA A.f b 0) := by rw [show mdA A.f b 0 = M2 370 from f2.symm, up_self]
      rw [ez]
      refine ind_m (fun (k : Nat) => 6 - k) (p := fun (k : Nat) => k ≤ 6 → G X D cy B 0 0 376 (up M2 370 (mdA A.f b k)) P 41 [some (Value.ref (B + 369)), some (Value.int m), some (Value.int (mdL A.f b k)), some (Value.int (nI k)), none] []) ?_ 0 (Nat.zero_le _)
      intro k ih hk
      refine g_iload_3 (pc := 41) C dX7_mend_41 ?_
      refine g_bipush (pc := 42) (v := 6) C dX7_mend_42 rfl ?_
      refine g_icmp_ge (pc := 44) (tgt := 100) C dX7_mend_44 (by decide) (fun c44 => ?_) (fun c44 => ?_)
      · have e : 6 ≤ k := i_le (a := 6) (by omega) (by omega) c44
        have e1 : k = 6 := by omega
        subst e1
        refine g_iconst (pc := 100) (v := 0) C dX7_mend_100 rfl ?_
        refine g_istore_3 (pc := 101) C dX7_mend_101 ?_
        rw [show mdA A.f b 6 = hz b (mdA A.f b 6) 0 from rfl]
        refine ind_m (fun (k : Nat) => 6 - k) (p := fun (k : Nat) => k ≤ 6 → G X D cy B 0 0 376 (up M2 370 (hz b (mdA A.f b 6) k)) P 102 [some (Value.ref (B + 369)), some (Value.int m), some (Value.int (mdL A.f b 6)), some (Value.int (nI k)), none] []) ?_ 0 (Nat.zero_le _)
        intro g ih2 hg
        refine g_iload_3 (pc := 102) C dX7_mend_102 ?_
        refine g_bipush (pc := 103) (v := 6) C dX7_mend_103 rfl ?_
        refine g_icmp_ge (pc := 105) (tgt := 124) C dX7_mend_105 (by decide) (fun c105 => ?_) (fun c105 => ?_)
        · have e : 6 ≤ g := i_le (a := 6) (by omega) (by omega) c105
          have e1 : g = 6 := by omega
          subst e1
          refine g_aload_0 (pc := 124) C dX7_mend_124 ?_
          refine g_iload_1 (pc := 125) C dX7_mend_125 ?_
          refine g_iconst (pc := 126) (v := 3) C dX7_mend_126 rfl ?_
          refine g_iconst (pc := 127) (v := 0) C dX7_mend_127 rfl ?_
          refine g_V3ve (pc := 128) C e_X7_mend_95 (Nat.le_of_ble_eq_true rfl) rfl dX7_mend_128 kk369 (c7_layMachine hm (i := b) (k := 3) hy rfl (by omega) (by decide)) ?_
          simp only [up_same, up_up]
          refine g_aload_0 (pc := 131) C dX7_mend_131 ?_
          refine g_iload_1 (pc := 132) C dX7_mend_132 ?_
          refine g_iconst (pc := 133) (v := 2) C dX7_mend_133 rfl ?_
          refine g_iconst (pc := 134) (v := 0) C dX7_mend_134 rfl ?_
          refine g_V3ve (pc := 135) C e_X7_mend_95 (Nat.le_of_ble_eq_true rfl) rfl dX7_mend_135 kk369 (c7_layMachine hm (i := b) (k := 2) hy rfl (by omega) (by decide)) ?_
          simp only [up_same, up_up]
          refine g_aload_0 (pc := 138) C dX7_mend_138 ?_
          refine g_iload_1 (pc := 139) C dX7_mend_139 ?_
          refine g_bipush (pc := 140) (v := 7) C dX7_mend_140 rfl ?_
          refine g_aload_0 (pc := 142) C dX7_mend_142 ?_
          refine g_iload_1 (pc := 143) C dX7_mend_143 ?_
          refine g_bipush (pc := 144) (v := 7) C dX7_mend_144 rfl ?_
          refine g_V2ie (pc := 146) C e_X7_mend_51 (Nat.le_of_ble_eq_true rfl) rfl dX7_mend_146 kk369 (c7_ofMachine hm (i := b) (k := 7) hy rfl (by omega) (by decide)) ?_
          rw [up_same]
          refine g_iconst (pc := 149) (v := 1) C dX7_mend_149 rfl ?_
          refine g_iadd (pc := 150) C dX7_mend_150 ?_
          refine g_V3ve (pc := 151) C e_X7_mend_95 (Nat.le_of_ble_eq_true rfl) rfl dX7_mend_151 kk369 (c7_layMachine hm (i := b) (k := 7) hy rfl (by omega) (by decide)) ?_
          simp only [up_same, up_up]
          simp only [aF_def]
          rw [show aF (up (up (hz b (mdA A.f b 6) 6) (49 + 14 * b + 3) 0) (49 + 14 * b + 2) 0) (49 + 14 * b + 7) 1 = mdB A.f b from rfl]
          have l : ∀ j, j < 13 → mdB A.f b j = A.f j := fun j hj2 => by rw [mdB_ne (by omega), mdA_out (Or.inl hj2) (by decide)]
          refine g_aload_0 (pc := 154) C dX7_mend_154 ?_
          refine g_getr (pc := 155) C hm.s fl_X7_mend_7 kk369 dX7_mend_155 ?_
          refine g_iconst (pc := 158) (v := 4) C dX7_mend_158 rfl ?_
          refine g_dup2 (pc := 159) C dX7_mend_159 rfl rfl ?_
          refine g_iald (pc := 160) (j := 4) C kk370 rfl ln370 (by omega) dX7_mend_160 ?_
          rw [up_same, l 4 (by decide)]
          refine g_aload_0 (pc := 161) C dX7_mend_161 ?_
          refine g_getr (pc := 162) C hm.s fl_X7_mend_7 kk369 dX7_mend_162 ?_
          refine g_iconst (pc := 165) (v := 1) C dX7_mend_165 rfl ?_
          refine g_iald (pc := 166) (j := 1) C kk370 rfl ln370 (by omega) dX7_mend_166 ?_
          rw [up_same, l 1 (by decide)]
          refine g_isub (pc := 167) C dX7_mend_167 ?_
          refine g_iast (pc := 168) (j := 4) C kk370 rfl ln370 (by omega) dX7_mend_168 ?_
          simp only [up_same, up_up]
          refine g_aload_0 (pc := 169) C dX7_mend_169 ?_
          refine g_getr (pc := 170) C hm.s fl_X7_mend_7 kk369 dX7_mend_170 ?_
          refine g_bipush (pc := 173) (v := 9) C dX7_mend_173 rfl ?_
          refine g_dup2 (pc := 175) C dX7_mend_175 rfl rfl ?_
          refine g_iald (pc := 176) (j := 9) C kk370 rfl ln370 (by omega) dX7_mend_176 ?_
          rw [up_same, up_ne _ _ (show 9 ≠ 4 by decide), l 9 (by decide)]
          refine g_aload_0 (pc := 177) C dX7_mend_177 ?_
          refine g_getr (pc := 178) C hm.s fl_X7_mend_7 kk369 dX7_mend_178 ?_
          refine g_iconst (pc := 181) (v := 1) C dX7_mend_181 rfl ?_
          refine g_iald (pc := 182) (j := 1) C kk370 rfl ln370 (by omega) dX7_mend_182 ?_
          rw [up_same, up_ne _ _ (show 1 ≠ 4 by decide), l 1 (by decide)]
          refine g_iadd (pc := 183) C dX7_mend_183 ?_
          refine g_iast (pc := 184) (j := 9) C kk370 rfl ln370 (by omega) dX7_mend_184 ?_
          simp only [up_same, up_up]
          refine g_iload_2 (pc := 185) C dX7_mend_185 ?_
          exact g_iret (post := fun r M1 P1 => r = (sMend A m).1 ∧ JM M1 P1 (sMend A m).2 ∧ FLo M P M1 P1) C F dX7_mend_186 ⟨by rw [sMend, if_pos hi2, hcm, if_neg c22], by rw [sMend, if_pos hi2, hcm, if_neg c22]; exact (JM_now j2 _).1, (hl1.trans fl2).trans (JM_now j2 _).2⟩
        · have hg2 : g < 6 := i_nle (a := 6) (by omega) (by omega) c105
          refine g_aload_0 (pc := 108) C dX7_mend_108 ?_
          refine g_iload_1 (pc := 109) C dX7_mend_109 ?_
          refine g_bipush (pc := 110) (v := 8) C dX7_mend_110 rfl ?_
          refine g_iload_3 (pc := 112) C dX7_mend_112 ?_
          refine g_iadd (pc := 113) C dX7_mend_113 ?_
          refine g_iconst (pc := 114) (v := 0) C dX7_mend_114 rfl ?_
          refine g_V3ve (pc := 115) C e_X7_mend_95 (Nat.le_of_ble_eq_true rfl) rfl dX7_mend_115 kk369 (c7_layMachine hm (i := b) (k := 8 + g) hy (nI_add 8 g) (by omega) (by omega)) ?_
          simp only [up_same, up_up]
          rw [show up (hz b (mdA A.f b 6) g) (49 + 14 * b + (8 + g)) 0 = hz b (mdA A.f b 6) (g + 1) from rfl]
          refine g_iinc_3 (pc := 118) (v := nI (g + 1)) C dX7_mend_118 (nI_1 g) ?_
          refine g_goto (pc := 121) (tgt := 102) C dX7_mend_121 (by decide) ?_
          exact ih2 (g + 1) (by omega) (by omega)
      · have hk2 : k < 6 := i_nle (a := 6) (by omega) (by omega) c44
        refine g_aload_0 (pc := 47) C dX7_mend_47 ?_
        refine g_getr (pc := 48) C hm.s fl_X7_mend_7 kk369 dX7_mend_48 ?_
        refine g_iconst (pc := 51) (v := 1) C dX7_mend_51 rfl ?_
        refine g_iald (pc := 52) (j := 1) C kk370 rfl ln370 (by omega) dX7_mend_52 ?_
        rw [up_same, mdA_out (Or.inl (by decide)) hk]
        refine g_aload_0 (pc := 53) C dX7_mend_53 ?_
        refine g_iload_1 (pc := 54) C dX7_mend_54 ?_
        refine g_bipush (pc := 55) (v := 8) C dX7_mend_55 rfl ?_
        refine g_iload_3 (pc := 57) C dX7_mend_57 ?_
        refine g_iadd (pc := 58) C dX7_mend_58 ?_
        refine g_V2ie (pc := 59) C e_X7_mend_51 (Nat.le_of_ble_eq_true rfl) rfl dX7_mend_59 kk369 (c7_ofMachine hm (i := b) (k := 8 + k) hy (nI_add 8 k) (by omega) (by omega)) ?_
        rw [up_same, mdA_out (Or.inr (by omega)) hk]
        refine g_imul (pc := 62) C dX7_mend_62 ?_
        refine g_aload_0 (pc := 63) C dX7_mend_63 ?_
        refine g_iload_1 (pc := 64) C dX7_mend_64 ?_
        refine g_iconst (pc := 65) (v := 3) C dX7_mend_65 rfl ?_
        refine g_V2ie (pc := 66) C e_X7_mend_51 (Nat.le_of_ble_eq_true rfl) rfl dX7_mend_66 kk369 (c7_ofMachine hm (i := b) (k := 3) hy rfl (by omega) (by decide)) ?_
        rw [up_same, mdA_out (Or.inr (by omega)) hk, hx]
        refine g_idiv (pc := 69) C dX7_mend_69 (fun z => absurd (nI_inj (b := 0) (by omega) (by omega) z) (by omega)) ?_
        rw [← hx, show A.f 1 * A.f (49 + 14 * b + (8 + k)) / A.f (49 + 14 * b + 3) = shI A.f b k from rfl]
        refine g_istore_4 (pc := 70) C dX7_mend_70 ?_
        refine g_aload_0 (pc := 72) C dX7_mend_72 ?_
        refine g_iload_3 (pc := 73) C dX7_mend_73 ?_
        refine g_iconst (pc := 74) (v := 0) C dX7_mend_74 rfl ?_
        refine g_iload_4 (pc := 75) C dX7_mend_75 ?_
        refine g_ineg (pc := 77) C dX7_mend_77 ?_
        refine g_V3ve (pc := 78) C e_X7_mend_98 (Nat.le_of_ble_eq_true rfl) rfl dX7_mend_78 kk369 (c7_addFarmer hm (i := k) (k := 0) rfl rfl hk2 (by decide)) ?_
        simp only [up_same, up_up]
        simp only [aF_def]
        refine g_aload_0 (pc := 81) C dX7_mend_81 ?_
        refine g_iload_3 (pc := 82) C dX7_mend_82 ?_
        refine g_iconst (pc := 83) (v := 5) C dX7_mend_83 rfl ?_
        refine g_iload_4 (pc := 84) C dX7_mend_84 ?_
        refine g_V3ve (pc := 86) C e_X7_mend_98 (Nat.le_of_ble_eq_true rfl) rfl dX7_mend_86 kk369 (c7_addFarmer hm (i := k) (k := 5) rfl rfl hk2 (by decide)) ?_
        simp only [up_same, up_up]
        simp only [aF_def]
        rw [show aF (aF (mdA A.f b k) (13 + 6 * k + 0) (-(shI A.f b k))) (13 + 6 * k + 5) (shI A.f b k) = mdA A.f b (k + 1) from rfl]
        refine g_iload_2 (pc := 89) C dX7_mend_89 ?_
        refine g_iload_4 (pc := 90) C dX7_mend_90 ?_
        refine g_isub (pc := 92) C dX7_mend_92 ?_
        rw [show mdL A.f b k - shI A.f b k = mdL A.f b (k + 1) from rfl]
        refine g_istore_2 (pc := 93) C dX7_mend_93 ?_
        refine g_iinc_3 (pc := 94) (v := nI (k + 1)) C dX7_mend_94 (nI_1 k) ?_
        refine g_goto (pc := 97) (tgt := 41) C dX7_mend_97 (by decide) ?_
        refine g_kill_4 ?_
        exact ih (k + 1) (by omega) (by omega)
    · refine g_ldc (pc := 25) C k_X7_mend_40 dX7_mend_25 ?_
      exact g_iret (post := fun r M1 P1 => r = (sMend A m).1 ∧ JM M1 P1 (sMend A m).2 ∧ FLo M P M1 P1) C F dX7_mend_27 ⟨by rw [sMend, if_pos hi2, hcm, if_pos c22], by rw [sMend, if_pos hi2, hcm, if_pos c22]; exact hj, hl1⟩
  · have hi2 : ¬ isM A m := if0 c10
    refine g_ldc (pc := 13) C k_X7_mend_115 dX7_mend_13 ?_
    exact g_iret (post := fun r M1 P1 => r = (sMend A m).1 ∧ JM M1 P1 (sMend A m).2 ∧ FLo M P M1 P1) C F dX7_mend_15 ⟨by rw [sMend, if_neg hi2], by rw [sMend, if_neg hi2]; exact hj, hl1⟩

set_option maxRecDepth 100000 in
set_option maxHeartbeats 1000000 in
theorem c7_book {l : Launch} {D : va_G} {cy : Nat → ClassId} {B : Nat} {M : MM} {P : PP} {w m i x : Int32} {A : AS} {c : Nat} (h : JM M P A) (hA : WA c A) : KI l D cy B yX7_book wsX7_book 3 70 [Value.ref (B + 369), Value.int w, Value.int m, Value.int i, Value.int x] M P (fun r M1 P1 => r = (sBook A w m i x).1 ∧ JM M1 P1 (sBook A w m i x).2 ∧ FLo M P M1 P1) := by
  refine met_KI (cc := cX7_book) (maxL := 6) (ret := (some .int)) (lv := [some (Value.ref (B + 369)), some (Value.int w), some (Value.int m), some (Value.int i), some (Value.int x), none]) (by decide) rfl rfl rfl (Nat.le_of_ble_eq_true rfl) ?_
  intro X C F
  have hw := hA.1
  have h6 := hw.m6
  have h30 := hw.s30
  refine g_aload_0 (pc := 0) C dX7_book_0 ?_
  refine g_iconst (pc := 1) (v := 0) C dX7_book_1 rfl ?_
  refine g_puti (pc := 2) C pf_X7_book_28 kk369 dX7_book_2 ?_
  obtain ⟨h1, hl⟩ := JM_thr h 0
  refine g_memo (fun M1 => JM M1 P A ∧ FLo M P M1 P) ⟨h1, hl⟩ (fun M1 hM1 => ?_)
  obtain ⟨hj, hl1⟩ := hM1
  have hm := hj.1
  have hf := hj.2.1
  have hf6 : M1 370 6 = nI (sn (M1 370)) := by rw [hf]; exact hw.s
  have hf12 : M1 370 12 = nI (mn (M1 370)) := by rw [hf]; exact hw.m
  have hs30 : sn (M1 370) ≤ 30 := by rw [hf]; exact h30
  have hm6 : mn (M1 370) ≤ 6 := by rw [hf]; exact h6
  refine g_aload_0 (pc := 5) C dX7_book_5 ?_
  refine g_iload_1 (pc := 6) C dX7_book_6 ?_
  refine g_iload_2 (pc := 7) C dX7_book_7 ?_
  refine g_iload_3 (pc := 8) C dX7_book_8 ?_
  refine g_iload_4 (pc := 9) C dX7_book_9 ?_
  refine g_V4ie (pc := 11) C e_X7_book_132 (Nat.le_of_ble_eq_true rfl) rfl dX7_book_11 kk369 (c7_refuses hm hf6 hs30) ?_
  rw [hf]
  refine g_istore_5 (pc := 14) C dX7_book_14 ?_
  refine g_iload_5 (pc := 16) C dX7_book_16 ?_
  refine g_if_eq (pc := 18) (tgt := 24) C dX7_book_18 (by decide) (fun c18 => ?_) (fun c18 => ?_)
  · have hroom : sn A.f < 30 := by
      rcases Nat.lt_or_ge (sn A.f) 30 with z | z
      · exact z
      · exact absurd (by rw [hw.s, show sn A.f = 30 by omega]; rfl) (refI_room c18)
    refine g_aload_0 (pc := 24) C dX7_book_24 ?_
    refine g_V0v (pc := 25) C e_X7_book_122 (Nat.le_of_ble_eq_true rfl) rfl dX7_book_25 kk369 (c7_records hm hA.z hj.2.2.1) (fun M2 P2 hq => ?_)
    obtain ⟨j2, fl2⟩ := JM_rec hj hq
    have hP2 := hq.1
    subst P2
    have f2 : M2 370 = A.f := j2.2.1
    refine g_aload_0 (pc := 28) C dX7_book_28 ?_
    refine g_iload_1 (pc := 29) C dX7_book_29 ?_
    refine g_iload_2 (pc := 30) C dX7_book_30 ?_
    refine g_iload_3 (pc := 31) C dX7_book_31 ?_
    refine g_iload_4 (pc := 32) C dX7_book_32 ?_
    refine g_V4ie (pc := 34) C e_X7_book_135 (Nat.le_of_ble_eq_true rfl) rfl dX7_book_34 kk369 (c7_books hm f2 hw.s hroom) ?_
    exact g_iret (post := fun r M1 P1 => r = (sBook A w m i x).1 ∧ JM M1 P1 (sBook A w m i x).2 ∧ FLo M P M1 P1) C F dX7_book_37 ⟨by rw [sBook, if_pos c18], by rw [sBook, if_pos c18]; exact (JM_now j2 _).1, (hl1.trans fl2).trans (JM_now j2 _).2⟩
  · refine g_iload_5 (pc := 21) C dX7_book_21 ?_
    exact g_iret (post := fun r M1 P1 => r = (sBook A w m i x).1 ∧ JM M1 P1 (sBook A w m i x).2 ∧ FLo M P M1 P1) C F dX7_book_23 ⟨by rw [sBook, if_neg c18], by rw [sBook, if_neg c18]; exact hj, hl1⟩

set_option maxRecDepth 100000 in
set_option maxHeartbeats 1000000 in
theorem c7_backN {l : Launch} {D : va_G} {cy : Nat → ClassId} {B : Nat} {M : MM} {P : PP} {b : Int32} {A : AS} {c : Nat} (h : JM M P A) (hA : WA c A) (hp : plO A.f b = none) : KI l D cy B yX7_takeBack wsX7_takeBack 2 45 [Value.ref (B + 369), Value.int b] M P (fun r M1 P1 => r = (sBack A b).1 ∧ JM M1 P1 (sBack A b).2 ∧ FLo M P M1 P1) := by
  refine met_KI (cc := cX7_takeBack) (maxL := 3) (ret := (some .int)) (lv := [some (Value.ref (B + 369)), some (Value.int b), none]) (by decide) rfl rfl rfl (Nat.le_of_ble_eq_true rfl) ?_
  intro X C F
  have hw := hA.1
  have h6 := hw.m6
  have h30 := hw.s30
  refine g_aload_0 (pc := 0) C dX7_takeBack_0 ?_
  refine g_iconst (pc := 1) (v := 0) C dX7_takeBack_1 rfl ?_
  refine g_puti (pc := 2) C pf_X7_takeBack_28 kk369 dX7_takeBack_2 ?_
  obtain ⟨h1, hl⟩ := JM_thr h 0
  refine g_memo (fun M1 => JM M1 P A ∧ FLo M P M1 P) ⟨h1, hl⟩ (fun M1 hM1 => ?_)
  obtain ⟨hj, hl1⟩ := hM1
  have hm := hj.1
  have hf := hj.2.1
  have hf6 : M1 370 6 = nI (sn (M1 370)) := by rw [hf]; exact hw.s
  have hf12 : M1 370 12 = nI (mn (M1 370)) := by rw [hf]; exact hw.m
  have hs30 : sn (M1 370) ≤ 30 := by rw [hf]; exact h30
  have hm6 : mn (M1 370) ≤ 6 := by rw [hf]; exact h6
  refine g_aload_0 (pc := 5) C dX7_takeBack_5 ?_
  refine g_iload_1 (pc := 6) C dX7_takeBack_6 ?_
  refine g_V1ie (pc := 7) C e_X7_takeBack_149 (Nat.le_of_ble_eq_true rfl) rfl dX7_takeBack_7 kk369 (c7_placeOf hm hf6 hs30) ?_
  rw [hf, hp]
  refine g_istore_2 (pc := 10) C dX7_takeBack_10 ?_
  refine g_iload_2 (pc := 11) C dX7_takeBack_11 ?_
  refine g_ldc (pc := 12) C k_X7_takeBack_40 dX7_takeBack_12 ?_
  refine g_icmp_ne (pc := 14) (tgt := 20) C dX7_takeBack_14 (by decide) (fun c14 => ?_) (fun c14 => ?_)
  · exact absurd rfl c14
  · refine g_ldc (pc := 17) C k_X7_takeBack_115 dX7_takeBack_17 ?_
    exact g_iret (post := fun r M1 P1 => r = (sBack A b).1 ∧ JM M1 P1 (sBack A b).2 ∧ FLo M P M1 P1) C F dX7_takeBack_19 ⟨by rw [sBack, hp], by rw [sBack, hp]; exact hj, hl1⟩

set_option maxRecDepth 100000 in
set_option maxHeartbeats 1000000 in
theorem c7_backS {l : Launch} {D : va_G} {cy : Nat → ClassId} {B : Nat} {M : MM} {P : PP} {b : Int32} {A : AS} {c : Nat} (h : JM M P A) (hA : WA c A) {p : Nat} (hp : plO A.f b = some p) : KI l D cy B yX7_takeBack wsX7_takeBack 2 45 [Value.ref (B + 369), Value.int b] M P (fun r M1 P1 => r = (sBack A b).1 ∧ JM M1 P1 (sBack A b).2 ∧ FLo M P M1 P1) := by
  refine met_KI (cc := cX7_takeBack) (maxL := 3) (ret := (some .int)) (lv := [some (Value.ref (B + 369)), some (Value.int b), none]) (by decide) rfl rfl rfl (Nat.le_of_ble_eq_true rfl) ?_
  intro X C F
  have hw := hA.1
  have h6 := hw.m6
  have h30 := hw.s30
  have hpp := plO_lt hp
  have np5 : ∀ p : Nat, p < 100 → nI p ≠ -100000005 := fun p hp e => by
    have h9 : (-100000005 : Int32) < 0 := by decide
    rw [← e] at h9
    exact absurd h9 (nI_pos (by omega))
  refine g_aload_0 (pc := 0) C dX7_takeBack_0 ?_
  refine g_iconst (pc := 1) (v := 0) C dX7_takeBack_1 rfl ?_
  refine g_puti (pc := 2) C pf_X7_takeBack_28 kk369 dX7_takeBack_2 ?_
  obtain ⟨h1, hl⟩ := JM_thr h 0
  refine g_memo (fun M1 => JM M1 P A ∧ FLo M P M1 P) ⟨h1, hl⟩ (fun M1 hM1 => ?_)
  obtain ⟨hj, hl1⟩ := hM1
  have hm := hj.1
  have hf := hj.2.1
  have hf6 : M1 370 6 = nI (sn (M1 370)) := by rw [hf]; exact hw.s
  have hf12 : M1 370 12 = nI (mn (M1 370)) := by rw [hf]; exact hw.m
  have hs30 : sn (M1 370) ≤ 30 := by rw [hf]; exact h30
  have hm6 : mn (M1 370) ≤ 6 := by rw [hf]; exact h6
  refine g_aload_0 (pc := 5) C dX7_takeBack_5 ?_
  refine g_iload_1 (pc := 6) C dX7_takeBack_6 ?_
  refine g_V1ie (pc := 7) C e_X7_takeBack_149 (Nat.le_of_ble_eq_true rfl) rfl dX7_takeBack_7 kk369 (c7_placeOf hm hf6 hs30) ?_
  rw [hf, hp]
  refine g_istore_2 (pc := 10) C dX7_takeBack_10 ?_
  refine g_iload_2 (pc := 11) C dX7_takeBack_11 ?_
  refine g_ldc (pc := 12) C k_X7_takeBack_40 dX7_takeBack_12 ?_
  refine g_icmp_ne (pc := 14) (tgt := 20) C dX7_takeBack_14 (by decide) (fun c14 => ?_) (fun c14 => ?_)
  · refine g_aload_0 (pc := 20) C dX7_takeBack_20 ?_
    refine g_V0v (pc := 21) C e_X7_takeBack_122 (Nat.le_of_ble_eq_true rfl) rfl dX7_takeBack_21 kk369 (c7_records hm hA.z hj.2.2.1) (fun M2 P2 hq => ?_)
    obtain ⟨j2, fl2⟩ := JM_rec hj hq
    have hP2 := hq.1
    subst P2
    have f2 : M2 370 = A.f := j2.2.1
    refine g_aload_0 (pc := 24) C dX7_takeBack_24 ?_
    refine g_iload_2 (pc := 25) C dX7_takeBack_25 ?_
    refine g_V1ve (pc := 26) C e_X7_takeBack_101 (Nat.le_of_ble_eq_true rfl) rfl dX7_takeBack_26 kk369 (c7_dropsBooking hm rfl (n := sn A.f - 1) (by rw [f2, hw.s, show sn A.f - 1 + 1 = sn A.f by omega]) (by omega) (by omega)) ?_
    rw [f2]
    refine g_aload_0 (pc := 29) C dX7_takeBack_29 ?_
    refine g_getr (pc := 30) C hm.s fl_X7_takeBack_7 kk369 dX7_takeBack_30 ?_
    refine g_bipush (pc := 33) (v := 6) C dX7_takeBack_33 rfl ?_
    refine g_iald (pc := 35) (j := 6) C kk370 rfl ln370 (by omega) dX7_takeBack_35 ?_
    rw [up_same, show dropF A.f p (sn A.f - 1) 6 = nI (sn A.f - 1) from if_pos rfl]
    exact g_iret (post := fun r M1 P1 => r = (sBack A b).1 ∧ JM M1 P1 (sBack A b).2 ∧ FLo M P M1 P1) C F dX7_takeBack_36 ⟨by rw [sBack, hp], by rw [sBack, hp]; exact (JM_now j2 _).1, (hl1.trans fl2).trans (JM_now j2 _).2⟩
  · exact absurd c14 (np5 p (by omega))

theorem c7_back {l : Launch} {D : va_G} {cy : Nat → ClassId} {B : Nat} {M : MM} {P : PP} {b : Int32} {A : AS} {c : Nat} (h : JM M P A) (hA : WA c A) : KI l D cy B yX7_takeBack wsX7_takeBack 2 45 [Value.ref (B + 369), Value.int b] M P (fun r M1 P1 => r = (sBack A b).1 ∧ JM M1 P1 (sBack A b).2 ∧ FLo M P M1 P1) := by
  cases hp : plO A.f b with
  | none => exact c7_backN h hA hp
  | some p => exact c7_backS h hA hp

set_option maxRecDepth 100000 in
set_option maxHeartbeats 1000000 in
theorem c7_pass {l : Launch} {D : va_G} {cy : Nat → ClassId} {B : Nat} {M : MM} {P : PP} {d : Int32} {A : AS} {c : Nat} (h : JM M P A) (hA : WA c A) (hc : c + 60 ≤ 40000) : KI l D cy B yX7_pass wsX7_pass 5 113 [Value.ref (B + 369), Value.int d] M P (fun r M1 P1 => r = (sPass A d).1 ∧ JM M1 P1 (sPass A d).2 ∧ FLo M P M1 P1) := by
  refine met_KI (cc := cX7_pass) (maxL := 4) (ret := (some .int)) (lv := [some (Value.ref (B + 369)), some (Value.int d), none, none]) (by decide) rfl rfl rfl (Nat.le_of_ble_eq_true rfl) ?_
  intro X C F
  have hw := hA.1
  have h6 := hw.m6
  have h30 := hw.s30
  refine g_aload_0 (pc := 0) C dX7_pass_0 ?_
  refine g_iconst (pc := 1) (v := 0) C dX7_pass_1 rfl ?_
  refine g_puti (pc := 2) C pf_X7_pass_28 kk369 dX7_pass_2 ?_
  obtain ⟨h1, hl⟩ := JM_thr h 0
  refine g_memo (fun M1 => JM M1 P A ∧ FLo M P M1 P) ⟨h1, hl⟩ (fun M1 hM1 => ?_)
  obtain ⟨hj, hl1⟩ := hM1
  have hm := hj.1
  have hf := hj.2.1
  have hf6 : M1 370 6 = nI (sn (M1 370)) := by rw [hf]; exact hw.s
  have hf12 : M1 370 12 = nI (mn (M1 370)) := by rw [hf]; exact hw.m
  have hs30 : sn (M1 370) ≤ 30 := by rw [hf]; exact h30
  have hm6 : mn (M1 370) ≤ 6 := by rw [hf]; exact h6
  refine g_iload_1 (pc := 5) C dX7_pass_5 ?_
  refine g_iconst (pc := 6) (v := 1) C dX7_pass_6 rfl ?_
  refine g_bipush (pc := 7) (v := 60) C dX7_pass_7 rfl ?_
  refine g_S3ie (pc := 9) C e_X7_pass_32 (Nat.le_of_ble_eq_true rfl) rfl dX7_pass_9 (c7_in) ?_
  refine g_if_ne (pc := 12) (tgt := 18) C dX7_pass_12 (by decide) (fun c12 => ?_) (fun c12 => ?_)
  · have hd := if1 c12
    obtain ⟨n, hn, hx⟩ := i_nat (x := d) (N := 61) (by decide) (Int32.not_lt.mpr (Int32.le_trans (by decide) hd.1)) (fun z => absurd (Int32.le_trans z hd.2) (by decide))
    have hcl : d.toNatClampNeg = n := by rw [hx, nI_clamp (by omega)]
    refine g_aload_0 (pc := 18) C dX7_pass_18 ?_
    refine g_V0v (pc := 19) C e_X7_pass_122 (Nat.le_of_ble_eq_true rfl) rfl dX7_pass_19 kk369 (c7_records hm hA.z hj.2.2.1) (fun M2 P2 hq => ?_)
    obtain ⟨j2, fl2⟩ := JM_rec hj hq
    have hP2 := hq.1
    subst P2
    have f2 : M2 370 = A.f := j2.2.1
    refine g_aload_0 (pc := 22) C dX7_pass_22 ?_
    refine g_getr (pc := 23) C hm.s fl_X7_pass_7 kk369 dX7_pass_23 ?_
    refine g_bipush (pc := 26) (v := 7) C dX7_pass_26 rfl ?_
    refine g_iald (pc := 28) (j := 7) C kk370 rfl ln370 (by omega) dX7_pass_28 ?_
    rw [f2]
    refine g_istore_2 (pc := 29) C dX7_pass_29 ?_
    refine g_iconst (pc := 30) (v := 0) C dX7_pass_30 rfl ?_
    refine g_istore_3 (pc := 31) C dX7_pass_31 ?_
    have ez : M2 = up M2 370 (dFn A.f 0) := by rw [show dFn A.f 0 = M2 370 from f2.symm, up_self]
    rw [ez]
    refine ind_m (fun (k : Nat) => n - k) (p := fun (k : Nat) => k ≤ n → G X D cy B 0 0 376 (up M2 370 (dFn A.f k)) P 32 [some (Value.ref (B + 369)), some (Value.int d), some (Value.int (A.f 7)), some (Value.int (nI k))] []) ?_ 0 (Nat.zero_le _)
    intro k ih hk
    have hwk := Wf_dFn hw (n := k) (by omega)
    refine g_iload_3 (pc := 32) C dX7_pass_32 ?_
    refine g_iload_1 (pc := 33) C dX7_pass_33 ?_
    refine g_icmp_ge (pc := 34) (tgt := 47) C dX7_pass_34 (by decide) (fun c34 => ?_) (fun c34 => ?_)
    · rw [hx] at c34
      have e : n ≤ k := i_le (by omega) (by omega) c34
      have e1 : k = n := by omega
      subst e1
      refine g_aload_0 (pc := 47) C dX7_pass_47 ?_
      refine g_getr (pc := 48) C hm.s fl_X7_pass_7 kk369 dX7_pass_48 ?_
      refine g_bipush (pc := 51) (v := 7) C dX7_pass_51 rfl ?_
      refine g_iald (pc := 53) (j := 7) C kk370 rfl ln370 (by omega) dX7_pass_53 ?_
      rw [up_same]
      refine g_iload_2 (pc := 54) C dX7_pass_54 ?_
      refine g_isub (pc := 55) C dX7_pass_55 ?_
      exact g_iret (post := fun r M1 P1 => r = (sPass A d).1 ∧ JM M1 P1 (sPass A d).2 ∧ FLo M P M1 P1) C F dX7_pass_56 ⟨by rw [sPass, if_pos hd, hcl], by rw [sPass, if_pos hd, hcl]; exact (JM_now j2 _).1, (hl1.trans fl2).trans (JM_now j2 _).2⟩
    · rw [hx] at c34
      have hk2 : k < n := i_nle (by omega) (by omega) c34
      refine g_aload_0 (pc := 37) C dX7_pass_37 ?_
      refine g_V0ve (pc := 38) C e_X7_pass_152 (Nat.le_of_ble_eq_true rfl) rfl dX7_pass_38 kk369 (c7_passesDay hm (up_same _ _ _) hwk (by omega)) ?_
      rw [up_up, show dayF (dFn A.f k) = dFn A.f (k + 1) from rfl]
      refine g_iinc_3 (pc := 41) (v := nI (k + 1)) C dX7_pass_41 (nI_1 k) ?_
      refine g_goto (pc := 44) (tgt := 32) C dX7_pass_44 (by decide) ?_
      exact ih (k + 1) (by omega) (by omega)
  · refine g_ldc (pc := 15) C k_X7_pass_116 dX7_pass_15 ?_
    exact g_iret (post := fun r M1 P1 => r = (sPass A d).1 ∧ JM M1 P1 (sPass A d).2 ∧ FLo M P M1 P1) C F dX7_pass_17 ⟨by rw [sPass, if_neg (if0 c12)], by rw [sPass, if_neg (if0 c12)]; exact hj, hl1⟩

set_option maxRecDepth 100000 in
set_option maxHeartbeats 1000000 in
theorem c7_buy {l : Launch} {D : va_G} {cy : Nat → ClassId} {B : Nat} {M : MM} {P : PP} {x y g : Int32} {A : AS} {c : Nat} (h : JM M P A) (hA : WA c A) : KI l D cy B yX7_buy wsX7_buy 2 45 [Value.ref (B + 369), Value.int x, Value.int y, Value.int g] M P (fun r M1 P1 => r = (sBuy A x y g).1 ∧ JM M1 P1 (sBuy A x y g).2 ∧ FLo M P M1 P1) := by
  refine met_KI (cc := cX7_buy) (maxL := 5) (ret := (some .int)) (lv := [some (Value.ref (B + 369)), some (Value.int x), some (Value.int y), some (Value.int g), none]) (by decide) rfl rfl rfl (Nat.le_of_ble_eq_true rfl) ?_
  intro X C F
  have hw := hA.1
  have h6 := hw.m6
  have h30 := hw.s30
  refine g_aload_0 (pc := 0) C dX7_buy_0 ?_
  refine g_iconst (pc := 1) (v := 0) C dX7_buy_1 rfl ?_
  refine g_puti (pc := 2) C pf_X7_buy_28 kk369 dX7_buy_2 ?_
  obtain ⟨h1, hl⟩ := JM_thr h 0
  refine g_memo (fun M1 => JM M1 P A ∧ FLo M P M1 P) ⟨h1, hl⟩ (fun M1 hM1 => ?_)
  obtain ⟨hj, hl1⟩ := hM1
  have hm := hj.1
  have hf := hj.2.1
  have hf6 : M1 370 6 = nI (sn (M1 370)) := by rw [hf]; exact hw.s
  have hf12 : M1 370 12 = nI (mn (M1 370)) := by rw [hf]; exact hw.m
  have hs30 : sn (M1 370) ≤ 30 := by rw [hf]; exact h30
  have hm6 : mn (M1 370) ≤ 6 := by rw [hf]; exact h6
  refine g_iload_2 (pc := 5) C dX7_buy_5 ?_
  refine g_iconst (pc := 6) (v := 0) C dX7_buy_6 rfl ?_
  refine g_iconst (pc := 7) (v := 2) C dX7_buy_7 rfl ?_
  refine g_S3ie (pc := 8) C e_X7_buy_32 (Nat.le_of_ble_eq_true rfl) rfl dX7_buy_8 (c7_in) ?_
  refine g_if_ne (pc := 11) (tgt := 17) C dX7_buy_11 (by decide) (fun c11 => ?_) (fun c11 => ?_)
  · refine g_iload_1 (pc := 17) C dX7_buy_17 ?_
    refine g_iconst (pc := 18) (v := 0) C dX7_buy_18 rfl ?_
    refine g_iconst (pc := 19) (v := 2) C dX7_buy_19 rfl ?_
    refine g_S3ie (pc := 20) C e_X7_buy_32 (Nat.le_of_ble_eq_true rfl) rfl dX7_buy_20 (c7_in) ?_
    refine g_if_eq (pc := 23) (tgt := 36) C dX7_buy_23 (by decide) (fun c23 => ?_) (fun c23 => ?_)
    · refine g_ldc (pc := 36) C k_X7_buy_116 dX7_buy_36 ?_
      exact g_iret (post := fun r M1 P1 => r = (sBuy A x y g).1 ∧ JM M1 P1 (sBuy A x y g).2 ∧ FLo M P M1 P1) C F dX7_buy_38 ⟨by rw [sBuy, if_pos (if1 c11), if_neg (fun z => if0 c23 z.1)], by rw [sBuy, if_pos (if1 c11), if_neg (fun z => if0 c23 z.1)]; exact hj, hl1⟩
    · refine g_iload_3 (pc := 26) C dX7_buy_26 ?_
      refine g_iconst (pc := 27) (v := 1) C dX7_buy_27 rfl ?_
      refine g_bipush (pc := 28) (v := 99) C dX7_buy_28 rfl ?_
      refine g_S3ie (pc := 30) C e_X7_buy_32 (Nat.le_of_ble_eq_true rfl) rfl dX7_buy_30 (c7_in) ?_
      refine g_if_ne (pc := 33) (tgt := 39) C dX7_buy_33 (by decide) (fun c33 => ?_) (fun c33 => ?_)
      · refine g_aload_0 (pc := 39) C dX7_buy_39 ?_
        refine g_iload_2 (pc := 40) C dX7_buy_40 ?_
        refine g_V1ie (pc := 41) C e_X7_buy_117 (Nat.le_of_ble_eq_true rfl) rfl dX7_buy_41 kk369 (c7_machinesOf hm hf12 hm6) ?_
        rw [hf]
        refine g_iconst (pc := 44) (v := 2) C dX7_buy_44 rfl ?_
        refine g_icmp_ne (pc := 45) (tgt := 51) C dX7_buy_45 (by decide) (fun c45 => ?_) (fun c45 => ?_)
        · have e6 := if1 c11
          have hk2 : kc A.f y (mn A.f) < 2 := by
            obtain ⟨k, hk, e⟩ := i_nat (x := y) (N := 3) (by decide) (Int32.not_lt.mpr e6.1) (fun z => absurd (Int32.le_trans z e6.2) (by decide))
            have h1 := hw.wk hk
            rw [← e] at h1
            rcases Nat.lt_or_ge (kc A.f y (mn A.f)) 2 with z | z
            · exact z
            · exact absurd (by rw [show kc A.f y (mn A.f) = 2 by omega]; rfl) c45
          have hroom : mn A.f < 6 := by
            obtain ⟨k, hk, e⟩ := i_nat (x := y) (N := 3) (by decide) (Int32.not_lt.mpr e6.1) (fun z => absurd (Int32.le_trans z e6.2) (by decide))
            have hk3 := hk2
            rw [e] at hk3
            exact kc_room hw hk hk3
          refine g_iload_1 (pc := 51) C dX7_buy_51 ?_
          refine g_iload_2 (pc := 52) C dX7_buy_52 ?_
          refine g_icmp_eq (pc := 53) (tgt := 59) C dX7_buy_53 (by decide) (fun c53 => ?_) (fun c53 => ?_)
          · refine g_aload_0 (pc := 59) C dX7_buy_59 ?_
            refine g_V0v (pc := 60) C e_X7_buy_122 (Nat.le_of_ble_eq_true rfl) rfl dX7_buy_60 kk369 (c7_records hm hA.z hj.2.2.1) (fun M2 P2 hq => ?_)
            obtain ⟨j2, fl2⟩ := JM_rec hj hq
            have hP2 := hq.1
            subst P2
            have f2 : M2 370 = A.f := j2.2.1
            refine g_aload_0 (pc := 63) C dX7_buy_63 ?_
            refine g_getr (pc := 64) C hm.s fl_X7_buy_7 kk369 dX7_buy_64 ?_
            refine g_bipush (pc := 67) (v := 12) C dX7_buy_67 rfl ?_
            refine g_iald (pc := 69) (j := 12) C kk370 rfl ln370 (by omega) dX7_buy_69 ?_
            rw [f2, hw.m]
            refine g_istore_4 (pc := 70) C dX7_buy_70 ?_
            refine g_aload_0 (pc := 72) C dX7_buy_72 ?_
            refine g_iload_4 (pc := 73) C dX7_buy_73 ?_
            refine g_iconst (pc := 75) (v := 0) C dX7_buy_75 rfl ?_
            refine g_iload_1 (pc := 76) C dX7_buy_76 ?_
            refine g_V3ve (pc := 77) C e_X7_buy_95 (Nat.le_of_ble_eq_true rfl) rfl dX7_buy_77 kk369 (c7_layMachine hm (i := mn A.f) (k := 0) rfl rfl hroom (by decide)) ?_
            rw [f2]
            refine g_aload_0 (pc := 80) C dX7_buy_80 ?_
            refine g_iload_4 (pc := 81) C dX7_buy_81 ?_
            refine g_iconst (pc := 83) (v := 1) C dX7_buy_83 rfl ?_
            refine g_iload_3 (pc := 84) C dX7_buy_84 ?_
            refine g_V3ve (pc := 85) C e_X7_buy_95 (Nat.le_of_ble_eq_true rfl) rfl dX7_buy_85 kk369 (c7_layMachine hm (i := mn A.f) (k := 1) rfl rfl hroom (by decide)) ?_
            simp only [up_same, up_up]
            have em : mn (up (up A.f (49 + 14 * mn A.f + 0) x) (49 + 14 * mn A.f + 1) g) = mn A.f := by
              show (up (up A.f (49 + 14 * mn A.f + 0) x) (49 + 14 * mn A.f + 1) g 12).toNatClampNeg = _
              rw [up_ne _ _ (by omega), up_ne _ _ (by omega)]
              rfl
            have ek : kc (up (up A.f (49 + 14 * mn A.f + 0) x) (49 + 14 * mn A.f + 1) g) x (mn A.f) = kc A.f x (mn A.f) := kc_congr (fun i hi => by rw [up_ne _ _ (by omega), up_ne _ _ (by omega)])
            refine g_aload_0 (pc := 88) C dX7_buy_88 ?_
            refine g_iload_4 (pc := 89) C dX7_buy_89 ?_
            refine g_iconst (pc := 91) (v := 5) C dX7_buy_91 rfl ?_
            refine g_aload_0 (pc := 92) C dX7_buy_92 ?_
            refine g_iload_1 (pc := 93) C dX7_buy_93 ?_
            refine g_V1ie (pc := 94) C e_X7_buy_117 (Nat.le_of_ble_eq_true rfl) rfl dX7_buy_94 kk369 (c7_machinesOf hm (by rw [up_same, em, up_ne _ _ (by omega), up_ne _ _ (by omega)]; exact hw.m) (by rw [up_same, em]; exact h6)) ?_
            rw [up_same, em, ek]
            refine g_V3ve (pc := 97) C e_X7_buy_95 (Nat.le_of_ble_eq_true rfl) rfl dX7_buy_97 kk369 (c7_layMachine hm (i := mn A.f) (k := 5) rfl rfl hroom (by decide)) ?_
            simp only [up_same, up_up]
            refine g_aload_0 (pc := 100) C dX7_buy_100 ?_
            refine g_getr (pc := 101) C hm.s fl_X7_buy_7 kk369 dX7_buy_101 ?_
            refine g_bipush (pc := 104) (v := 12) C dX7_buy_104 rfl ?_
            refine g_dup2 (pc := 106) C dX7_buy_106 rfl rfl ?_
            refine g_iald (pc := 107) (j := 12) C kk370 rfl ln370 (by omega) dX7_buy_107 ?_
            rw [up_same]
            refine g_iconst (pc := 108) (v := 1) C dX7_buy_108 rfl ?_
            refine g_iadd (pc := 109) C dX7_buy_109 ?_
            refine g_iast (pc := 110) (j := 12) C kk370 rfl ln370 (by omega) dX7_buy_110 ?_
            simp only [up_same, up_up]
            refine g_iload_4 (pc := 111) C dX7_buy_111 ?_
            exact g_iret (post := fun r M1 P1 => r = (sBuy A x y g).1 ∧ JM M1 P1 (sBuy A x y g).2 ∧ FLo M P M1 P1) C F dX7_buy_113 ⟨by rw [sBuy, if_pos (if1 c11), if_pos ⟨if1 c23, if1 c33⟩, if_pos hk2, if_pos c53], by rw [sBuy, if_pos (if1 c11), if_pos ⟨if1 c23, if1 c33⟩, if_pos hk2, if_pos c53]; exact (JM_now j2 _).1, (hl1.trans fl2).trans (JM_now j2 _).2⟩
          · refine g_ldc (pc := 56) C k_X7_buy_121 dX7_buy_56 ?_
            exact g_iret (post := fun r M1 P1 => r = (sBuy A x y g).1 ∧ JM M1 P1 (sBuy A x y g).2 ∧ FLo M P M1 P1) C F dX7_buy_58 ⟨by rw [sBuy, if_pos (if1 c11), if_pos ⟨if1 c23, if1 c33⟩, if_pos hk2, if_neg c53], by rw [sBuy, if_pos (if1 c11), if_pos ⟨if1 c23, if1 c33⟩, if_pos hk2, if_neg c53]; exact hj, hl1⟩
        · have hk2 : ¬ kc A.f y (mn A.f) < 2 := fun z => by
            have := nI_inj (b := 2) (by omega) (by omega) c45
            omega
          refine g_ldc (pc := 48) C k_X7_buy_120 dX7_buy_48 ?_
          exact g_iret (post := fun r M1 P1 => r = (sBuy A x y g).1 ∧ JM M1 P1 (sBuy A x y g).2 ∧ FLo M P M1 P1) C F dX7_buy_50 ⟨by rw [sBuy, if_pos (if1 c11), if_pos ⟨if1 c23, if1 c33⟩, if_neg hk2], by rw [sBuy, if_pos (if1 c11), if_pos ⟨if1 c23, if1 c33⟩, if_neg hk2]; exact hj, hl1⟩
      · refine g_ldc (pc := 36) C k_X7_buy_116 dX7_buy_36 ?_
        exact g_iret (post := fun r M1 P1 => r = (sBuy A x y g).1 ∧ JM M1 P1 (sBuy A x y g).2 ∧ FLo M P M1 P1) C F dX7_buy_38 ⟨by rw [sBuy, if_pos (if1 c11), if_neg (fun z => if0 c33 z.2)], by rw [sBuy, if_pos (if1 c11), if_neg (fun z => if0 c33 z.2)]; exact hj, hl1⟩
  · refine g_ldc (pc := 14) C k_X7_buy_115 dX7_buy_14 ?_
    exact g_iret (post := fun r M1 P1 => r = (sBuy A x y g).1 ∧ JM M1 P1 (sBuy A x y g).2 ∧ FLo M P M1 P1) C F dX7_buy_16 ⟨by rw [sBuy, if_neg (if0 c11)], by rw [sBuy, if_neg (if0 c11)]; exact hj, hl1⟩
