set_option maxRecDepth 100000 in
set_option maxHeartbeats 1000000 in
theorem c7_standingOf {l : Launch} {D : va_G} {cy : Nat → ClassId} {B : Nat} {M : MM} {P : PP} (hm : PMd P) {w : Int32} (hf : M 370 6 = nI (sn (M 370))) (h30 : sn (M 370) ≤ 30) : KI l D cy B yX7_standingOf wsX7_standingOf 1 22 [Value.ref (B + 369), Value.int w] M P (qi (st' (M 370) w (sn (M 370))) M P) := by
  refine met_KI (cc := cX7_standingOf) (maxL := 4) (ret := (some .int)) (lv := [some (Value.ref (B + 369)), some (Value.int w), none, none]) (by decide) rfl rfl rfl (Nat.le_of_ble_eq_true rfl) ?_
  intro X C F
  refine g_iconst (pc := 0) (v := 0) C dX7_standingOf_0 rfl ?_
  refine g_istore_2 (pc := 1) C dX7_standingOf_1 ?_
  refine g_iconst (pc := 2) (v := 0) C dX7_standingOf_2 rfl ?_
  refine g_istore_3 (pc := 3) C dX7_standingOf_3 ?_
  refine ind_m (fun (k : Nat) => sn (M 370) - k) (p := fun (k : Nat) => k ≤ sn (M 370) → G X D cy B 0 0 376 M P 4 [some (Value.ref (B + 369)), some (Value.int w), some (Value.int (st' (M 370) w k)), some (Value.int (nI k))] []) ?_ 0 (Nat.zero_le _)
  intro k ih hk
  refine g_iload_3 (pc := 4) C dX7_standingOf_4 ?_
  refine g_aload_0 (pc := 5) C dX7_standingOf_5 ?_
  refine g_getr (pc := 6) C hm.s fl_X7_standingOf_7 kk369 dX7_standingOf_6 ?_
  refine g_bipush (pc := 9) (v := 6) C dX7_standingOf_9 rfl ?_
  refine g_iald (pc := 11) (j := 6) C kk370 rfl ln370 (by omega) dX7_standingOf_11 ?_
  rw [hf]
  refine g_icmp_ge (pc := 12) (tgt := 39) C dX7_standingOf_12 (by decide) (fun c12 => ?_) (fun c12 => ?_)
  · have e : sn (M 370) ≤ k := i_le (by omega) (by omega) c12
    refine g_iload_2 (pc := 39) C dX7_standingOf_39 ?_
    exact g_iret (post := qi (st' (M 370) w (sn (M 370))) M P) C F dX7_standingOf_40 ⟨by rw [show k = sn (M 370) by omega], rfl, rfl⟩
  · have hk2 : k < sn (M 370) := i_nle (by omega) (by omega) c12
    refine g_iload_2 (pc := 15) C dX7_standingOf_15 ?_
    refine g_aload_0 (pc := 16) C dX7_standingOf_16 ?_
    refine g_iload_3 (pc := 17) C dX7_standingOf_17 ?_
    refine g_iconst (pc := 18) (v := 1) C dX7_standingOf_18 rfl ?_
    refine g_V2ie (pc := 19) C e_X7_standingOf_36 (Nat.le_of_ble_eq_true rfl) rfl dX7_standingOf_19 kk369 (c7_ofBooking hm (i := k) (k := 1) rfl rfl (by omega) (by decide)) ?_
    refine g_iload_1 (pc := 22) C dX7_standingOf_22 ?_
    refine g_icmp_ne (pc := 23) (tgt := 30) C dX7_standingOf_23 (by decide) (fun c23 => ?_) (fun c23 => ?_)
    · refine g_iconst (pc := 30) (v := 0) C dX7_standingOf_30 rfl ?_
      refine g_iadd (pc := 31) C dX7_standingOf_31 ?_
      rw [show st' (M 370) w k + 0 = st' (M 370) w (k + 1) by simp only [st']; rw [if_neg c23]]
      refine g_istore_2 (pc := 32) C dX7_standingOf_32 ?_
      refine g_iinc_3 (pc := 33) (v := nI (k + 1)) C dX7_standingOf_33 (nI_1 k) ?_
      refine g_goto (pc := 36) (tgt := 4) C dX7_standingOf_36 (by decide) ?_
      exact ih (k + 1) (by omega) (by omega)
    · refine g_iconst (pc := 26) (v := 1) C dX7_standingOf_26 rfl ?_
      refine g_goto (pc := 27) (tgt := 31) C dX7_standingOf_27 (by decide) ?_
      refine g_iadd (pc := 31) C dX7_standingOf_31 ?_
      rw [show st' (M 370) w k + 1 = st' (M 370) w (k + 1) by simp only [st']; rw [if_pos c23]]
      refine g_istore_2 (pc := 32) C dX7_standingOf_32 ?_
      refine g_iinc_3 (pc := 33) (v := nI (k + 1)) C dX7_standingOf_33 (nI_1 k) ?_
      refine g_goto (pc := 36) (tgt := 4) C dX7_standingOf_36 (by decide) ?_
      exact ih (k + 1) (by omega) (by omega)

set_option maxRecDepth 100000 in
set_option maxHeartbeats 1000000 in
theorem c7_accounts {l : Launch} {D : va_G} {cy : Nat → ClassId} {B : Nat} {M : MM} {P : PP} (hm : PMd P) : KI l D cy B yX7_accounts wsX7_accounts 1 22 [Value.ref (B + 369)] M P (qi (ac (M 370) 6) M P) := by
  refine met_KI (cc := cX7_accounts) (maxL := 3) (ret := (some .int)) (lv := [some (Value.ref (B + 369)), none, none]) (by decide) rfl rfl rfl (Nat.le_of_ble_eq_true rfl) ?_
  intro X C F
  refine g_iconst (pc := 0) (v := 0) C dX7_accounts_0 rfl ?_
  refine g_istore_1 (pc := 1) C dX7_accounts_1 ?_
  refine g_iconst (pc := 2) (v := 0) C dX7_accounts_2 rfl ?_
  refine g_istore_2 (pc := 3) C dX7_accounts_3 ?_
  refine ind_m (fun (k : Nat) => 6 - k) (p := fun (k : Nat) => k ≤ 6 → G X D cy B 0 0 376 M P 4 [some (Value.ref (B + 369)), some (Value.int (ac (M 370) k)), some (Value.int (nI k))] []) ?_ 0 (Nat.zero_le _)
  intro k ih hk
  refine g_iload_2 (pc := 4) C dX7_accounts_4 ?_
  refine g_bipush (pc := 5) (v := 6) C dX7_accounts_5 rfl ?_
  refine g_icmp_ge (pc := 7) (tgt := 25) C dX7_accounts_7 (by decide) (fun c7 => ?_) (fun c7 => ?_)
  · have e : 6 ≤ k := i_le (a := 6) (by omega) (by omega) c7
    refine g_iload_1 (pc := 25) C dX7_accounts_25 ?_
    exact g_iret (post := qi (ac (M 370) 6) M P) C F dX7_accounts_26 ⟨by rw [show k = 6 by omega], rfl, rfl⟩
  · have hk2 : k < 6 := i_nle (a := 6) (by omega) (by omega) c7
    refine g_iload_1 (pc := 10) C dX7_accounts_10 ?_
    refine g_aload_0 (pc := 11) C dX7_accounts_11 ?_
    refine g_iload_2 (pc := 12) C dX7_accounts_12 ?_
    refine g_iconst (pc := 13) (v := 0) C dX7_accounts_13 rfl ?_
    refine g_V2ie (pc := 14) C e_X7_accounts_66 (Nat.le_of_ble_eq_true rfl) rfl dX7_accounts_14 kk369 (c7_ofFarmer hm (i := k) (k := 0) rfl rfl (by omega) (by decide)) ?_
    refine g_iadd (pc := 17) C dX7_accounts_17 ?_
    rw [show ac (M 370) k + M 370 (13 + 6 * k + 0) = ac (M 370) (k + 1) from rfl]
    refine g_istore_1 (pc := 18) C dX7_accounts_18 ?_
    refine g_iinc_2 (pc := 19) (v := nI (k + 1)) C dX7_accounts_19 (nI_1 k) ?_
    refine g_goto (pc := 22) (tgt := 4) C dX7_accounts_22 (by decide) ?_
    exact ih (k + 1) (by omega) (by omega)

set_option maxRecDepth 100000 in
set_option maxHeartbeats 1000000 in
theorem c7_brokenOnes {l : Launch} {D : va_G} {cy : Nat → ClassId} {B : Nat} {M : MM} {P : PP} (hm : PMd P) (hf : M 370 12 = nI (mn (M 370))) (h30 : mn (M 370) ≤ 6) : KI l D cy B yX7_brokenOnes wsX7_brokenOnes 1 22 [Value.ref (B + 369)] M P (qi (br (M 370) (mn (M 370))) M P) := by
  refine met_KI (cc := cX7_brokenOnes) (maxL := 3) (ret := (some .int)) (lv := [some (Value.ref (B + 369)), none, none]) (by decide) rfl rfl rfl (Nat.le_of_ble_eq_true rfl) ?_
  intro X C F
  refine g_iconst (pc := 0) (v := 0) C dX7_brokenOnes_0 rfl ?_
  refine g_istore_1 (pc := 1) C dX7_brokenOnes_1 ?_
  refine g_iconst (pc := 2) (v := 0) C dX7_brokenOnes_2 rfl ?_
  refine g_istore_2 (pc := 3) C dX7_brokenOnes_3 ?_
  refine ind_m (fun (k : Nat) => mn (M 370) - k) (p := fun (k : Nat) => k ≤ mn (M 370) → G X D cy B 0 0 376 M P 4 [some (Value.ref (B + 369)), some (Value.int (br (M 370) k)), some (Value.int (nI k))] []) ?_ 0 (Nat.zero_le _)
  intro k ih hk
  refine g_iload_2 (pc := 4) C dX7_brokenOnes_4 ?_
  refine g_aload_0 (pc := 5) C dX7_brokenOnes_5 ?_
  refine g_getr (pc := 6) C hm.s fl_X7_brokenOnes_7 kk369 dX7_brokenOnes_6 ?_
  refine g_bipush (pc := 9) (v := 12) C dX7_brokenOnes_9 rfl ?_
  refine g_iald (pc := 11) (j := 12) C kk370 rfl ln370 (by omega) dX7_brokenOnes_11 ?_
  rw [hf]
  refine g_icmp_ge (pc := 12) (tgt := 30) C dX7_brokenOnes_12 (by decide) (fun c12 => ?_) (fun c12 => ?_)
  · have e : mn (M 370) ≤ k := i_le (by omega) (by omega) c12
    refine g_iload_1 (pc := 30) C dX7_brokenOnes_30 ?_
    exact g_iret (post := qi (br (M 370) (mn (M 370))) M P) C F dX7_brokenOnes_31 ⟨by rw [show k = mn (M 370) by omega], rfl, rfl⟩
  · have hk2 : k < mn (M 370) := i_nle (by omega) (by omega) c12
    refine g_iload_1 (pc := 15) C dX7_brokenOnes_15 ?_
    refine g_aload_0 (pc := 16) C dX7_brokenOnes_16 ?_
    refine g_iload_2 (pc := 17) C dX7_brokenOnes_17 ?_
    refine g_iconst (pc := 18) (v := 2) C dX7_brokenOnes_18 rfl ?_
    refine g_V2ie (pc := 19) C e_X7_brokenOnes_51 (Nat.le_of_ble_eq_true rfl) rfl dX7_brokenOnes_19 kk369 (c7_ofMachine hm (i := k) (k := 2) rfl rfl (by omega) (by decide)) ?_
    refine g_iadd (pc := 22) C dX7_brokenOnes_22 ?_
    rw [show br (M 370) k + M 370 (49 + 14 * k + 2) = br (M 370) (k + 1) from rfl]
    refine g_istore_1 (pc := 23) C dX7_brokenOnes_23 ?_
    refine g_iinc_2 (pc := 24) (v := nI (k + 1)) C dX7_brokenOnes_24 (nI_1 k) ?_
    refine g_goto (pc := 27) (tgt := 4) C dX7_brokenOnes_27 (by decide) ?_
    exact ih (k + 1) (by omega) (by omega)

set_option maxRecDepth 100000 in
set_option maxHeartbeats 1000000 in
theorem c7_charge {l : Launch} {D : va_G} {cy : Nat → ClassId} {B : Nat} {M : MM} {P : PP} (hm : PMd P) {x y d h : Int32} {w m : Nat} (hx : x = nI w) (hy : y = nI m) (hw : w < 6) (hmm : m < 6) : KI l D cy B yX7_charge wsX7_charge 2 40 [Value.ref (B + 369), Value.int x, Value.int y, Value.int d, Value.int h] M P (qi (chg (M 370 (13 + 6 * w + 1)) (M 370 (49 + 14 * m + 0)) (M 370 (49 + 14 * m + 1)) d h) M P) := by
  refine met_KI (cc := cX7_charge) (maxL := 7) (ret := (some .int)) (lv := [some (Value.ref (B + 369)), some (Value.int x), some (Value.int y), some (Value.int d), some (Value.int h), none, none]) (by decide) rfl rfl rfl (Nat.le_of_ble_eq_true rfl) ?_
  intro X C F
  refine g_iload_4 (pc := 0) C dX7_charge_0 ?_
  refine g_aload_0 (pc := 2) C dX7_charge_2 ?_
  refine g_iload_2 (pc := 3) C dX7_charge_3 ?_
  refine g_iconst (pc := 4) (v := 1) C dX7_charge_4 rfl ?_
  refine g_V2ie (pc := 5) C e_X7_charge_51 (Nat.le_of_ble_eq_true rfl) rfl dX7_charge_5 kk369 (c7_ofMachine hm (k := 1) hy rfl hmm (by decide)) ?_
  refine g_imul (pc := 8) C dX7_charge_8 ?_
  refine g_i2f (pc := 9) C dX7_charge_9 ?_
  refine g_iload_3 (pc := 10) C dX7_charge_10 ?_
  refine g_S1fe (pc := 11) C e_X7_charge_63 (Nat.le_of_ble_eq_true rfl) rfl dX7_charge_11 (c7_factor) ?_
  refine g_fmul (pc := 14) C dX7_charge_14 (fac_n32 _ _) ?_
  refine g_f2i (pc := 15) C dX7_charge_15 ?_
  refine g_istore_5 (pc := 16) C dX7_charge_16 ?_
  refine g_aload_0 (pc := 18) C dX7_charge_18 ?_
  refine g_iload_1 (pc := 19) C dX7_charge_19 ?_
  refine g_iconst (pc := 20) (v := 1) C dX7_charge_20 rfl ?_
  refine g_V2ie (pc := 21) C e_X7_charge_66 (Nat.le_of_ble_eq_true rfl) rfl dX7_charge_21 kk369 (c7_ofFarmer hm (k := 1) hx rfl hw (by decide)) ?_
  refine g_aload_0 (pc := 24) C dX7_charge_24 ?_
  refine g_iload_2 (pc := 25) C dX7_charge_25 ?_
  refine g_iconst (pc := 26) (v := 0) C dX7_charge_26 rfl ?_
  refine g_V2ie (pc := 27) C e_X7_charge_51 (Nat.le_of_ble_eq_true rfl) rfl dX7_charge_27 kk369 (c7_ofMachine hm (k := 0) hy rfl hmm (by decide)) ?_
  refine g_ishr (pc := 30) C dX7_charge_30 ?_
  refine g_iconst (pc := 31) (v := 1) C dX7_charge_31 rfl ?_
  refine g_iand (pc := 32) C dX7_charge_32 ?_
  refine g_iconst (pc := 33) (v := 1) C dX7_charge_33 rfl ?_
  refine g_icmp_ne (pc := 34) (tgt := 41) C dX7_charge_34 (by decide) (fun c34 => ?_) (fun c34 => ?_)
  · refine g_iconst (pc := 41) (v := 0) C dX7_charge_41 rfl ?_
    refine g_istore_6 (pc := 42) C dX7_charge_42 ?_
    refine g_iload_6 (pc := 44) C dX7_charge_44 ?_
    refine g_if_eq (pc := 46) (tgt := 54) C dX7_charge_46 (by decide) (fun c46 => ?_) (fun c46 => ?_)
    · refine g_iload_5 (pc := 54) C dX7_charge_54 ?_
      refine g_bipush (pc := 56) (v := 6) C dX7_charge_56 rfl ?_
      refine g_iload_4 (pc := 58) C dX7_charge_58 ?_
      refine g_imul (pc := 60) C dX7_charge_60 ?_
      refine g_iadd (pc := 61) C dX7_charge_61 ?_
      exact g_iret (post := qi (chg (M 370 (13 + 6 * w + 1)) (M 370 (49 + 14 * m + 0)) (M 370 (49 + 14 * m + 1)) d h) M P) C F dX7_charge_62 ⟨(if_neg c34).symm, rfl, rfl⟩
    · exact absurd rfl c46
  · refine g_iconst (pc := 37) (v := 1) C dX7_charge_37 rfl ?_
    refine g_goto (pc := 38) (tgt := 42) C dX7_charge_38 (by decide) ?_
    refine g_istore_6 (pc := 42) C dX7_charge_42 ?_
    refine g_iload_6 (pc := 44) C dX7_charge_44 ?_
    refine g_if_eq (pc := 46) (tgt := 54) C dX7_charge_46 (by decide) (fun c46 => ?_) (fun c46 => ?_)
    · exact absurd c46 (by decide)
    · refine g_iload_5 (pc := 49) C dX7_charge_49 ?_
      refine g_goto (pc := 51) (tgt := 62) C dX7_charge_51 (by decide) ?_
      exact g_iret (post := qi (chg (M 370 (13 + 6 * w + 1)) (M 370 (49 + 14 * m + 0)) (M 370 (49 + 14 * m + 1)) d h) M P) C F dX7_charge_62 ⟨(if_pos c34).symm, rfl, rfl⟩

set_option maxRecDepth 100000 in
set_option maxHeartbeats 1000000 in
theorem c7_works {l : Launch} {D : va_G} {cy : Nat → ClassId} {B : Nat} {M : MM} {P : PP} (hm : PMd P) {x h : Int32} {m : Nat} (hx : x = nI m) (hmm : m < 6) (hs : vn_sni2f (M 370 (49 + 14 * m + 6)) = false) : KI l D cy B yX7_works wsX7_works 2 46 [Value.ref (B + 369), Value.int x, Value.int h] M P (qi (canI (M 370) m h) M P) := by
  refine met_KI (cc := cX7_works) (maxL := 4) (ret := (some .boolean)) (lv := [some (Value.ref (B + 369)), some (Value.int x), some (Value.int h), none]) (by decide) rfl rfl rfl (Nat.le_of_ble_eq_true rfl) ?_
  intro X C F
  refine g_aload_0 (pc := 0) C dX7_works_0 ?_
  refine g_iload_1 (pc := 1) C dX7_works_1 ?_
  refine g_iconst (pc := 2) (v := 0) C dX7_works_2 rfl ?_
  refine g_V2ie (pc := 3) C e_X7_works_51 (Nat.le_of_ble_eq_true rfl) rfl dX7_works_3 kk369 (c7_ofMachine hm hx (k := 0) rfl hmm (by decide)) ?_
  refine g_if_eq (pc := 6) (tgt := 22) C dX7_works_6 (by decide) (fun c6 => ?_) (fun c6 => ?_)
  · refine g_iconst (pc := 22) (v := 1) C dX7_works_22 rfl ?_
    refine g_goto (pc := 23) (tgt := 27) C dX7_works_23 (by decide) ?_
    refine g_istore_3 (pc := 27) C dX7_works_27 ?_
    refine g_iload_3 (pc := 28) C dX7_works_28 ?_
    refine g_if_eq (pc := 29) (tgt := 60) C dX7_works_29 (by decide) (fun c29 => ?_) (fun c29 => ?_)
    · exact absurd c29 (by decide)
    · refine g_aload_0 (pc := 32) C dX7_works_32 ?_
      refine g_iload_1 (pc := 33) C dX7_works_33 ?_
      refine g_iconst (pc := 34) (v := 2) C dX7_works_34 rfl ?_
      refine g_V2ie (pc := 35) C e_X7_works_51 (Nat.le_of_ble_eq_true rfl) rfl dX7_works_35 kk369 (c7_ofMachine hm hx (k := 2) rfl hmm (by decide)) ?_
      refine g_if_ne (pc := 38) (tgt := 60) C dX7_works_38 (by decide) (fun c38 => ?_) (fun c38 => ?_)
      · refine g_iconst (pc := 60) (v := 0) C dX7_works_60 rfl ?_
        exact g_zret (post := qi (canI (M 370) m h) M P) C F dX7_works_61 (by first | exact Or.inl rfl | exact Or.inr rfl) ⟨(if_neg (fun h9 => c38 h9.2.1)).symm, rfl, rfl⟩
      · refine g_aload_0 (pc := 41) C dX7_works_41 ?_
        refine g_iload_1 (pc := 42) C dX7_works_42 ?_
        refine g_V1fe (pc := 43) C e_X7_works_77 (Nat.le_of_ble_eq_true rfl) rfl dX7_works_43 kk369 (c7_fuelOf hm hx hmm hs) ?_
        refine g_aload_0 (pc := 46) C dX7_works_46 ?_
        refine g_iload_1 (pc := 47) C dX7_works_47 ?_
        refine g_iload_2 (pc := 48) C dX7_works_48 ?_
        refine g_V2fe (pc := 49) C e_X7_works_80 (Nat.le_of_ble_eq_true rfl) rfl dX7_works_49 kk369 (c7_wants hm hx hmm) ?_
        refine g_fcmp (pc := 52) C dX7_works_52 ?_
        refine g_if_lt (pc := 53) (tgt := 60) C dX7_works_53 (by decide) (fun c53 => ?_) (fun c53 => ?_)
        · refine g_iconst (pc := 60) (v := 0) C dX7_works_60 rfl ?_
          exact g_zret (post := qi (canI (M 370) m h) M P) C F dX7_works_61 (by first | exact Or.inl rfl | exact Or.inr rfl) ⟨(if_neg (fun h9 => h9.2.2 c53)).symm, rfl, rfl⟩
        · refine g_iconst (pc := 56) (v := 1) C dX7_works_56 rfl ?_
          refine g_goto (pc := 57) (tgt := 61) C dX7_works_57 (by decide) ?_
          exact g_zret (post := qi (canI (M 370) m h) M P) C F dX7_works_61 (by first | exact Or.inl rfl | exact Or.inr rfl) ⟨(if_pos ⟨Or.inl c6, c38, c53⟩).symm, rfl, rfl⟩
  · refine g_aload_0 (pc := 9) C dX7_works_9 ?_
    refine g_aload_0 (pc := 10) C dX7_works_10 ?_
    refine g_getr (pc := 11) C hm.s fl_X7_works_7 kk369 dX7_works_11 ?_
    refine g_iconst (pc := 14) (v := 3) C dX7_works_14 rfl ?_
    refine g_iald (pc := 15) (j := 3) C kk370 rfl ln370 (by omega) dX7_works_15 ?_
    refine g_V1ie (pc := 16) C e_X7_works_73 (Nat.le_of_ble_eq_true rfl) rfl dX7_works_16 kk369 (c7_isWet hm) ?_
    refine g_if_ne (pc := 19) (tgt := 26) C dX7_works_19 (by decide) (fun c19 => ?_) (fun c19 => ?_)
    · refine g_iconst (pc := 26) (v := 0) C dX7_works_26 rfl ?_
      refine g_istore_3 (pc := 27) C dX7_works_27 ?_
      refine g_iload_3 (pc := 28) C dX7_works_28 ?_
      refine g_if_eq (pc := 29) (tgt := 60) C dX7_works_29 (by decide) (fun c29 => ?_) (fun c29 => ?_)
      · refine g_iconst (pc := 60) (v := 0) C dX7_works_60 rfl ?_
        exact g_zret (post := qi (canI (M 370) m h) M P) C F dX7_works_61 (by first | exact Or.inl rfl | exact Or.inr rfl) ⟨(if_neg (fun h9 => h9.1.elim c6 c19)).symm, rfl, rfl⟩
      · exact absurd rfl c29
    · refine g_iconst (pc := 22) (v := 1) C dX7_works_22 rfl ?_
      refine g_goto (pc := 23) (tgt := 27) C dX7_works_23 (by decide) ?_
      refine g_istore_3 (pc := 27) C dX7_works_27 ?_
      refine g_iload_3 (pc := 28) C dX7_works_28 ?_
      refine g_if_eq (pc := 29) (tgt := 60) C dX7_works_29 (by decide) (fun c29 => ?_) (fun c29 => ?_)
      · exact absurd c29 (by decide)
      · refine g_aload_0 (pc := 32) C dX7_works_32 ?_
        refine g_iload_1 (pc := 33) C dX7_works_33 ?_
        refine g_iconst (pc := 34) (v := 2) C dX7_works_34 rfl ?_
        refine g_V2ie (pc := 35) C e_X7_works_51 (Nat.le_of_ble_eq_true rfl) rfl dX7_works_35 kk369 (c7_ofMachine hm hx (k := 2) rfl hmm (by decide)) ?_
        refine g_if_ne (pc := 38) (tgt := 60) C dX7_works_38 (by decide) (fun c38 => ?_) (fun c38 => ?_)
        · refine g_iconst (pc := 60) (v := 0) C dX7_works_60 rfl ?_
          exact g_zret (post := qi (canI (M 370) m h) M P) C F dX7_works_61 (by first | exact Or.inl rfl | exact Or.inr rfl) ⟨(if_neg (fun h9 => c38 h9.2.1)).symm, rfl, rfl⟩
        · refine g_aload_0 (pc := 41) C dX7_works_41 ?_
          refine g_iload_1 (pc := 42) C dX7_works_42 ?_
          refine g_V1fe (pc := 43) C e_X7_works_77 (Nat.le_of_ble_eq_true rfl) rfl dX7_works_43 kk369 (c7_fuelOf hm hx hmm hs) ?_
          refine g_aload_0 (pc := 46) C dX7_works_46 ?_
          refine g_iload_1 (pc := 47) C dX7_works_47 ?_
          refine g_iload_2 (pc := 48) C dX7_works_48 ?_
          refine g_V2fe (pc := 49) C e_X7_works_80 (Nat.le_of_ble_eq_true rfl) rfl dX7_works_49 kk369 (c7_wants hm hx hmm) ?_
          refine g_fcmp (pc := 52) C dX7_works_52 ?_
          refine g_if_lt (pc := 53) (tgt := 60) C dX7_works_53 (by decide) (fun c53 => ?_) (fun c53 => ?_)
          · refine g_iconst (pc := 60) (v := 0) C dX7_works_60 rfl ?_
            exact g_zret (post := qi (canI (M 370) m h) M P) C F dX7_works_61 (by first | exact Or.inl rfl | exact Or.inr rfl) ⟨(if_neg (fun h9 => h9.2.2 c53)).symm, rfl, rfl⟩
          · refine g_iconst (pc := 56) (v := 1) C dX7_works_56 rfl ?_
            refine g_goto (pc := 57) (tgt := 61) C dX7_works_57 (by decide) ?_
            exact g_zret (post := qi (canI (M 370) m h) M P) C F dX7_works_61 (by first | exact Or.inl rfl | exact Or.inr rfl) ⟨(if_pos ⟨Or.inr c19, c38, c53⟩).symm, rfl, rfl⟩

set_option maxRecDepth 100000 in
set_option maxHeartbeats 1000000 in
theorem c7_dropsBooking {l : Launch} {D : va_G} {cy : Nat → ClassId} {B : Nat} {M : MM} {P : PP} (hm : PMd P) {x : Int32} {i n : Nat} (hx : x = nI i) (hn : M 370 6 = nI (n + 1)) (hi : i < n + 1) (h30 : n + 1 ≤ 30) : KV l D cy B yX7_dropsBooking wsX7_dropsBooking 1 23 [Value.ref (B + 369), Value.int x] M P (qv (up M 370 (dropF (M 370) i n)) P) := by
  refine met_KV (cc := cX7_dropsBooking) (maxL := 3) (ret := none) (lv := [some (Value.ref (B + 369)), some (Value.int x), none]) (by decide) rfl rfl rfl (Nat.le_of_ble_eq_true rfl) ?_
  intro X C F
  refine g_aload_0 (pc := 0) C dX7_dropsBooking_0 ?_
  refine g_getr (pc := 1) C hm.s fl_X7_dropsBooking_7 kk369 dX7_dropsBooking_1 ?_
  refine g_bipush (pc := 4) (v := 6) C dX7_dropsBooking_4 rfl ?_
  refine g_dup2 (pc := 6) C dX7_dropsBooking_6 rfl rfl ?_
  refine g_iald (pc := 7) (j := 6) C kk370 rfl ln370 (by omega) dX7_dropsBooking_7 ?_
  rw [hn]
  refine g_iconst (pc := 8) (v := 1) C dX7_dropsBooking_8 rfl ?_
  refine g_isub (pc := 9) C dX7_dropsBooking_9 ?_
  refine g_iast (pc := 10) (j := 6) C kk370 rfl ln370 (by omega) dX7_dropsBooking_10 ?_
  refine g_memo (fun M0 => (∀ a, a ≠ 370 → M0 a = M a) ∧ M0 370 6 = nI n ∧ ∀ j, j ≠ 6 → M0 370 j = M 370 j) ⟨fun a ha => up_ne _ _ ha, by rw [up_same, up_same]; exact nI_pred n, fun j hj => by rw [up_same, up_ne _ _ hj]⟩ (fun M0 hM0 => ?_)
  obtain ⟨o1, o2, o3⟩ := hM0
  refine g_bipush (pc := 11) (v := 6) C dX7_dropsBooking_11 rfl ?_
  refine g_iload_1 (pc := 13) C dX7_dropsBooking_13 ?_
  refine g_imul (pc := 14) C dX7_dropsBooking_14 ?_
  rw [hx, show (6 : Int32) * nI i = nI (6 * i) from pk_mul 6 i]
  refine g_istore_2 (pc := 15) C dX7_dropsBooking_15 ?_
  refine ind_m (fun (k : Nat) => 6 * n - k) (p := fun (k : Nat) => ∀ M1 : MM, 6 * i ≤ k → k ≤ 6 * n → (∀ a, a ≠ 370 → M1 a = M a) → M1 370 6 = nI n → (∀ j, j ≠ 6 → M1 370 j = if 133 + 6 * i ≤ j ∧ j < 133 + k then M 370 (j + 6) else M 370 j) → G X D cy B 0 0 376 M1 P 16 [some (Value.ref (B + 369)), some (Value.int (nI i)), some (Value.int (nI k))] []) ?_ (6 * i) M0 (Nat.le_refl _) (by omega) o1 o2 (fun j hj => by rw [o3 j hj, if_neg (by omega)])
  intro k ih M1 hk1 hk2 i1 i2 i3
  refine g_iload_2 (pc := 16) C dX7_dropsBooking_16 ?_
  refine g_bipush (pc := 17) (v := 6) C dX7_dropsBooking_17 rfl ?_
  refine g_aload_0 (pc := 19) C dX7_dropsBooking_19 ?_
  refine g_getr (pc := 20) C hm.s fl_X7_dropsBooking_7 kk369 dX7_dropsBooking_20 ?_
  refine g_bipush (pc := 23) (v := 6) C dX7_dropsBooking_23 rfl ?_
  refine g_iald (pc := 25) (j := 6) C kk370 rfl ln370 (by omega) dX7_dropsBooking_25 ?_
  rw [i2]
  refine g_imul (pc := 26) C dX7_dropsBooking_26 ?_
  rw [show (6 : Int32) * nI n = nI (6 * n) from pk_mul 6 n]
  refine g_icmp_ge (pc := 27) (tgt := 59) C dX7_dropsBooking_27 (by decide) (fun c27 => ?_) (fun c27 => ?_)
  · have e : 6 * n ≤ k := i_le (by omega) (by omega) c27
    have e1 : k = 6 * n := by omega
    subst e1
    refine g_iconst (pc := 59) (v := 0) C dX7_dropsBooking_59 rfl ?_
    refine g_istore_2 (pc := 60) C dX7_dropsBooking_60 ?_
    refine ind_m (fun (k : Nat) => 6 - k) (p := fun (k : Nat) => ∀ M2 : MM, k ≤ 6 → (∀ a, a ≠ 370 → M2 a = M a) → M2 370 6 = nI n → (∀ j, j ≠ 6 → M2 370 j = if 133 + 6 * n ≤ j ∧ j < 133 + 6 * n + k then 0 else if 133 + 6 * i ≤ j ∧ j < 133 + 6 * n then M 370 (j + 6) else M 370 j) → G X D cy B 0 0 376 M2 P 61 [some (Value.ref (B + 369)), some (Value.int (nI i)), some (Value.int (nI k))] []) ?_ 0 M1 (Nat.zero_le _) i1 i2 (fun j hj => by rw [if_neg (by omega)]; exact i3 j hj)
    intro k ih2 M2 hk4 j1 j2 j3
    refine g_iload_2 (pc := 61) C dX7_dropsBooking_61 ?_
    refine g_bipush (pc := 62) (v := 6) C dX7_dropsBooking_62 rfl ?_
    refine g_icmp_ge (pc := 64) (tgt := 86) C dX7_dropsBooking_64 (by decide) (fun c64 => ?_) (fun c64 => ?_)
    · have e : 6 ≤ k := i_le (a := 6) (by omega) (by omega) c64
      exact g_vret (post := qv (up M 370 (dropF (M 370) i n)) P) C F dX7_dropsBooking_86 ⟨by
        have e6 : k = 6 := by omega
        subst e6
        funext a
        by_cases ha : a = 370
        · rw [ha, up_same]
          funext j
          unfold dropF
          by_cases hj : j = 6
          · rw [if_pos hj, hj, j2]
          · rw [if_neg hj, j3 j hj]
        · rw [up_ne _ _ ha, j1 a ha], rfl⟩
    · have hk5 : k < 6 := i_nle (a := 6) (by omega) (by omega) c64
      refine g_aload_0 (pc := 67) C dX7_dropsBooking_67 ?_
      refine g_aload_0 (pc := 68) C dX7_dropsBooking_68 ?_
      refine g_getr (pc := 69) C hm.s fl_X7_dropsBooking_7 kk369 dX7_dropsBooking_69 ?_
      refine g_bipush (pc := 72) (v := 6) C dX7_dropsBooking_72 rfl ?_
      refine g_iald (pc := 74) (j := 6) C kk370 rfl ln370 (by omega) dX7_dropsBooking_74 ?_
      rw [j2]
      refine g_iload_2 (pc := 75) C dX7_dropsBooking_75 ?_
      refine g_iconst (pc := 76) (v := 0) C dX7_dropsBooking_76 rfl ?_
      refine g_V3ve (pc := 77) C e_X7_dropsBooking_69 (Nat.le_of_ble_eq_true rfl) rfl dX7_dropsBooking_77 kk369 (c7_layBooking hm (i := n) (k := k) rfl rfl (by omega) (by omega)) ?_
      refine g_iinc_2 (pc := 80) (v := nI (k + 1)) C dX7_dropsBooking_80 (nI_1 k) ?_
      refine g_goto (pc := 83) (tgt := 61) C dX7_dropsBooking_83 (by decide) ?_
      refine ih2 (k + 1) (by omega) _ (by omega) (fun a ha => (up_ne _ _ ha).trans (j1 a ha)) (by rw [up_same, up_ne _ _ (by omega)]; exact j2) (fun j hj => ?_)
      rw [up_same]
      by_cases e : j = 133 + 6 * n + k
      · rw [e, up_same, if_pos (by omega)]
      · rw [up_ne _ _ e, j3 j hj]
        by_cases e2 : 133 + 6 * n ≤ j ∧ j < 133 + 6 * n + k
        · rw [if_pos e2, if_pos (show 133 + 6 * n ≤ j ∧ j < 133 + 6 * n + (k + 1) by omega)]
        · rw [if_neg e2, if_neg (show ¬ (133 + 6 * n ≤ j ∧ j < 133 + 6 * n + (k + 1)) by omega)]
  · have hk3 : k < 6 * n := i_nle (by omega) (by omega) c27
    refine g_aload_0 (pc := 30) C dX7_dropsBooking_30 ?_
    refine g_getr (pc := 31) C hm.s fl_X7_dropsBooking_7 kk369 dX7_dropsBooking_31 ?_
    refine g_sipush (pc := 34) (v := 133) C dX7_dropsBooking_34 rfl ?_
    refine g_iload_2 (pc := 37) C dX7_dropsBooking_37 ?_
    refine g_iadd (pc := 38) C dX7_dropsBooking_38 ?_
    refine g_aload_0 (pc := 39) C dX7_dropsBooking_39 ?_
    refine g_getr (pc := 40) C hm.s fl_X7_dropsBooking_7 kk369 dX7_dropsBooking_40 ?_
    refine g_sipush (pc := 43) (v := 133) C dX7_dropsBooking_43 rfl ?_
    refine g_iload_2 (pc := 46) C dX7_dropsBooking_46 ?_
    refine g_iadd (pc := 47) C dX7_dropsBooking_47 ?_
    refine g_bipush (pc := 48) (v := 6) C dX7_dropsBooking_48 rfl ?_
    refine g_iadd (pc := 50) C dX7_dropsBooking_50 ?_
    refine g_iald (pc := 51) (j := (133 + k + 6)) C kk370 (by rw [show (133 : Int32) + nI k = nI (133 + k) from nI_add 133 k]; exact nI_add (133 + k) 6) ln370 (by omega) dX7_dropsBooking_51 ?_
    refine g_iast (pc := 52) (j := (133 + k)) C kk370 (nI_add 133 k) ln370 (by omega) dX7_dropsBooking_52 ?_
    refine g_iinc_2 (pc := 53) (v := nI (k + 1)) C dX7_dropsBooking_53 (nI_1 k) ?_
    refine g_goto (pc := 56) (tgt := 16) C dX7_dropsBooking_56 (by decide) ?_
    refine ih (k + 1) (by omega) _ (by omega) (by omega) (fun a ha => (up_ne _ _ ha).trans (i1 a ha)) (by rw [up_same, up_ne _ _ (by omega)]; exact i2) (fun j hj => ?_)
    rw [up_same]
    by_cases e : j = 133 + k
    · rw [e, up_same, i3 _ (by omega), if_neg (by omega), if_pos (by omega)]
    · rw [up_ne _ _ e, i3 j hj]
      by_cases e2 : 133 + 6 * i ≤ j ∧ j < 133 + k
      · rw [if_pos e2, if_pos (by omega)]
      · rw [if_neg e2, if_neg (by omega)]
