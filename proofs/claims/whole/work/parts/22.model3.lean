set_option maxRecDepth 100000 in
set_option maxHeartbeats 1000000 in
theorem cJ_isNaN {l : Launch} {D : va_G} {cy : Nat → ClassId} {B : Nat} {M : MM} {P : PP} {x : UInt32} (hx : FP.fcmp x x = some .eq) : KI l D cy B yJxf58ca_isNaN_12338 wsJxf58ca_isNaN_12338 0 0 [Value.float x] M P (qi 0 M P) := by
  refine met_KIF (cc := cJxf58ca_isNaN_12338) (maxL := 1) (ret := (some .boolean)) (lv := [some (Value.float x)]) (by decide +kernel) rfl rfl rfl (Nat.le_of_ble_eq_true rfl) ?_
  intro X C F
  refine g_fload_0 (pc := 0) C dJxf58ca_isNaN_12338_0 ?_
  refine g_fload_0 (pc := 1) C dJxf58ca_isNaN_12338_1 ?_
  refine g_fcmp (pc := 2) C dJxf58ca_isNaN_12338_2 ?_
  rw [hx]
  refine g_if_eq (pc := 3) (tgt := 10) C dJxf58ca_isNaN_12338_3 (by decide) (fun c3 => ?_) (fun c3 => ?_)
  · refine g_iconst (pc := 10) (v := 0) C dJxf58ca_isNaN_12338_10 rfl ?_
    exact g_zret (post := qi 0 M P) C F dJxf58ca_isNaN_12338_11 (by first | exact Or.inl rfl | exact Or.inr rfl) ⟨rfl, rfl, rfl⟩
  · exact absurd rfl c3

set_option maxRecDepth 100000 in
set_option maxHeartbeats 1000000 in
theorem cJ_bits {l : Launch} {D : va_G} {cy : Nat → ClassId} {B : Nat} {M : MM} {P : PP} {x : UInt32} (hx : FP.fcmp x x = some .eq) : KI l D cy B yJxf58ca_floatToIntBits_5c35a wsJxf58ca_floatToIntBits_5c35a 1 23 [Value.float x] M P (qi x.toInt32 M P) := by
  refine met_KIF (cc := cJxf58ca_floatToIntBits_5c35a) (maxL := 1) (ret := (some .int)) (lv := [some (Value.float x)]) (by decide +kernel) rfl rfl rfl (Nat.le_of_ble_eq_true rfl) ?_
  intro X C F
  refine g_fload_0 (pc := 0) C dJxf58ca_floatToIntBits_5c35a_0 ?_
  refine g_S1ie (pc := 1) C e_Jxf58ca_floatToIntBits_5c35a_59 (Nat.le_of_ble_eq_true rfl) rfl dJxf58ca_floatToIntBits_5c35a_1 (cJ_isNaN hx) ?_
  refine g_if_ne (pc := 4) (tgt := 12) C dJxf58ca_floatToIntBits_5c35a_4 (by decide) (fun c4 => ?_) (fun c4 => ?_)
  · exact absurd rfl c4
  · refine g_fload_0 (pc := 7) C dJxf58ca_floatToIntBits_5c35a_7 ?_
    refine g_f2bits (pc := 8) C (List.mem_of_getElem? (i := 1) (by decide +kernel)) (List.mem_of_getElem? (i := 2) (by decide +kernel)) (List.mem_of_getElem? (i := 3) (by decide +kernel)) (List.mem_of_getElem? (i := 4) (by decide +kernel)) (Nat.le_of_ble_eq_true rfl) (Nat.le_of_ble_eq_true rfl) rfl dJxf58ca_floatToIntBits_5c35a_8 ?_
    exact g_iret (post := qi x.toInt32 M P) C F dJxf58ca_floatToIntBits_5c35a_11 ⟨rfl, rfl, rfl⟩

set_option maxRecDepth 100000 in
set_option maxHeartbeats 1000000 in
theorem c7_refuses {l : Launch} {D : va_G} {cy : Nat → ClassId} {B : Nat} {M : MM} {P : PP} (hm : PMd P) {w m i h : Int32} (hf : M 370 6 = nI (sn (M 370))) (h30 : sn (M 370) ≤ 30) : KI l D cy B yX7_refuses wsX7_refuses 2 46 [Value.ref (B + 369), Value.int w, Value.int m, Value.int i, Value.int h] M P (qi (refI (M 370) w m i h) M P) := by
  refine met_KI (cc := cX7_refuses) (maxL := 5) (ret := (some .int)) (lv := [some (Value.ref (B + 369)), some (Value.int w), some (Value.int m), some (Value.int i), some (Value.int h)]) (by decide) rfl rfl rfl (Nat.le_of_ble_eq_true rfl) ?_
  intro X C F
  refine g_iload_1 (pc := 0) C dX7_refuses_0 ?_
  refine g_S1ie (pc := 1) C e_X7_refuses_125 (Nat.le_of_ble_eq_true rfl) rfl dX7_refuses_1 (c7_isFarmer) ?_
  refine g_if_eq (pc := 4) (tgt := 15) C dX7_refuses_4 (by decide) (fun c4 => ?_) (fun c4 => ?_)
  · have d4 := if0 c4
    refine g_ldc (pc := 15) C k_X7_refuses_115 dX7_refuses_15 ?_
    exact g_iret (post := qi (refI (M 370) w m i h) M P) C F dX7_refuses_17 ⟨by first | rw [refI, if_neg (fun h9 => d4 h9.1)] | rw [refI, if_neg (fun h9 => d12 h9.2)], rfl, rfl⟩
  · have d4 := if1 c4
    refine g_aload_0 (pc := 7) C dX7_refuses_7 ?_
    refine g_iload_2 (pc := 8) C dX7_refuses_8 ?_
    refine g_V1ie (pc := 9) C e_X7_refuses_128 (Nat.le_of_ble_eq_true rfl) rfl dX7_refuses_9 kk369 (c7_isMachine hm) ?_
    refine g_if_ne (pc := 12) (tgt := 18) C dX7_refuses_12 (by decide) (fun c12 => ?_) (fun c12 => ?_)
    · have d12 := if1 c12
      refine g_iload_3 (pc := 18) C dX7_refuses_18 ?_
      refine g_iconst (pc := 19) (v := 1) C dX7_refuses_19 rfl ?_
      refine g_bipush (pc := 20) (v := 99) C dX7_refuses_20 rfl ?_
      refine g_S3ie (pc := 22) C e_X7_refuses_32 (Nat.le_of_ble_eq_true rfl) rfl dX7_refuses_22 (c7_in) ?_
      refine g_if_eq (pc := 25) (tgt := 39) C dX7_refuses_25 (by decide) (fun c25 => ?_) (fun c25 => ?_)
      · have d25 := if0 c25
        refine g_ldc (pc := 39) C k_X7_refuses_116 dX7_refuses_39 ?_
        exact g_iret (post := qi (refI (M 370) w m i h) M P) C F dX7_refuses_41 ⟨by first | rw [refI, if_pos ⟨d4, d12⟩, if_neg (fun h9 => d25 h9.1)] | rw [refI, if_pos ⟨d4, d12⟩, if_neg (fun h9 => d36 h9.2)], rfl, rfl⟩
      · have d25 := if1 c25
        refine g_iload_4 (pc := 28) C dX7_refuses_28 ?_
        refine g_iconst (pc := 30) (v := 1) C dX7_refuses_30 rfl ?_
        refine g_bipush (pc := 31) (v := 12) C dX7_refuses_31 rfl ?_
        refine g_S3ie (pc := 33) C e_X7_refuses_32 (Nat.le_of_ble_eq_true rfl) rfl dX7_refuses_33 (c7_in) ?_
        refine g_if_ne (pc := 36) (tgt := 42) C dX7_refuses_36 (by decide) (fun c36 => ?_) (fun c36 => ?_)
        · have d36 := if1 c36
          refine g_aload_0 (pc := 42) C dX7_refuses_42 ?_
          refine g_getr (pc := 43) C hm.s fl_X7_refuses_7 kk369 dX7_refuses_43 ?_
          refine g_bipush (pc := 46) (v := 6) C dX7_refuses_46 rfl ?_
          refine g_iald (pc := 48) (j := 6) C kk370 rfl ln370 (by omega) dX7_refuses_48 ?_
          refine g_bipush (pc := 49) (v := 30) C dX7_refuses_49 rfl ?_
          refine g_icmp_ne (pc := 51) (tgt := 59) C dX7_refuses_51 (by decide) (fun c51 => ?_) (fun c51 => ?_)
          · refine g_aload_0 (pc := 59) C dX7_refuses_59 ?_
            refine g_iload_2 (pc := 60) C dX7_refuses_60 ?_
            refine g_aload_0 (pc := 61) C dX7_refuses_61 ?_
            refine g_getr (pc := 62) C hm.s fl_X7_refuses_7 kk369 dX7_refuses_62 ?_
            refine g_iconst (pc := 65) (v := 3) C dX7_refuses_65 rfl ?_
            refine g_iald (pc := 66) (j := 3) C kk370 rfl ln370 (by omega) dX7_refuses_66 ?_
            refine g_iload_3 (pc := 67) C dX7_refuses_67 ?_
            refine g_iadd (pc := 68) C dX7_refuses_68 ?_
            refine g_V2ie (pc := 69) C e_X7_refuses_84 (Nat.le_of_ble_eq_true rfl) rfl dX7_refuses_69 kk369 (c7_bookedOn hm hf h30) ?_
            refine g_iload_4 (pc := 72) C dX7_refuses_72 ?_
            refine g_iadd (pc := 74) C dX7_refuses_74 ?_
            refine g_bipush (pc := 75) (v := 12) C dX7_refuses_75 rfl ?_
            refine g_icmp_le (pc := 77) (tgt := 85) C dX7_refuses_77 (by decide) (fun c77 => ?_) (fun c77 => ?_)
            · refine g_iconst (pc := 85) (v := 0) C dX7_refuses_85 rfl ?_
              exact g_iret (post := qi (refI (M 370) w m i h) M P) C F dX7_refuses_86 ⟨by rw [refI, if_pos ⟨d4, d12⟩, if_pos ⟨d25, d36⟩, if_neg c51, if_neg (Int32.not_lt.mpr c77)], rfl, rfl⟩
            · refine g_ldc (pc := 80) C k_X7_refuses_121 dX7_refuses_80 ?_
              refine g_goto (pc := 82) (tgt := 86) C dX7_refuses_82 (by decide) ?_
              exact g_iret (post := qi (refI (M 370) w m i h) M P) C F dX7_refuses_86 ⟨by rw [refI, if_pos ⟨d4, d12⟩, if_pos ⟨d25, d36⟩, if_neg c51, if_pos (Int32.not_le.mp c77)], rfl, rfl⟩
          · refine g_ldc (pc := 54) C k_X7_refuses_120 dX7_refuses_54 ?_
            refine g_goto (pc := 56) (tgt := 86) C dX7_refuses_56 (by decide) ?_
            exact g_iret (post := qi (refI (M 370) w m i h) M P) C F dX7_refuses_86 ⟨by rw [refI, if_pos ⟨d4, d12⟩, if_pos ⟨d25, d36⟩, if_pos c51], rfl, rfl⟩
        · have d36 := if0 c36
          refine g_ldc (pc := 39) C k_X7_refuses_116 dX7_refuses_39 ?_
          exact g_iret (post := qi (refI (M 370) w m i h) M P) C F dX7_refuses_41 ⟨by first | rw [refI, if_pos ⟨d4, d12⟩, if_neg (fun h9 => d25 h9.1)] | rw [refI, if_pos ⟨d4, d12⟩, if_neg (fun h9 => d36 h9.2)], rfl, rfl⟩
    · have d12 := if0 c12
      refine g_ldc (pc := 15) C k_X7_refuses_115 dX7_refuses_15 ?_
      exact g_iret (post := qi (refI (M 370) w m i h) M P) C F dX7_refuses_17 ⟨by first | rw [refI, if_neg (fun h9 => d4 h9.1)] | rw [refI, if_neg (fun h9 => d12 h9.2)], rfl, rfl⟩

set_option maxRecDepth 100000 in
set_option maxHeartbeats 1000000 in
theorem c7_books {l : Launch} {D : va_G} {cy : Nat → ClassId} {B : Nat} {M : MM} {P : PP} (hm : PMd P) {w m i h : Int32} {n : Nat} {f : FF} (hfe : M 370 = f) (hf : f 6 = nI n) (h30 : n < 30) : KI l D cy B yX7_books wsX7_books 1 23 [Value.ref (B + 369), Value.int w, Value.int m, Value.int i, Value.int h] M P (qi (f 5) (up M 370 (bookF f n w m i h)) P) := by
  refine met_KI (cc := cX7_books) (maxL := 6) (ret := (some .int)) (lv := [some (Value.ref (B + 369)), some (Value.int w), some (Value.int m), some (Value.int i), some (Value.int h), none]) (by decide) rfl rfl rfl (Nat.le_of_ble_eq_true rfl) ?_
  intro X C F
  refine g_aload_0 (pc := 0) C dX7_books_0 ?_
  refine g_getr (pc := 1) C hm.s fl_X7_books_7 kk369 dX7_books_1 ?_
  refine g_bipush (pc := 4) (v := 6) C dX7_books_4 rfl ?_
  refine g_iald (pc := 6) (j := 6) C kk370 rfl ln370 (by omega) dX7_books_6 ?_
  rw [hfe, hf]
  refine g_istore_5 (pc := 7) C dX7_books_7 ?_
  refine g_aload_0 (pc := 9) C dX7_books_9 ?_
  refine g_iload_5 (pc := 10) C dX7_books_10 ?_
  refine g_iconst (pc := 12) (v := 0) C dX7_books_12 rfl ?_
  refine g_aload_0 (pc := 13) C dX7_books_13 ?_
  refine g_getr (pc := 14) C hm.s fl_X7_books_7 kk369 dX7_books_14 ?_
  refine g_iconst (pc := 17) (v := 5) C dX7_books_17 rfl ?_
  refine g_iald (pc := 18) (j := 5) C kk370 rfl ln370 (by omega) dX7_books_18 ?_
  rw [hfe]
  refine g_V3ve (pc := 19) C e_X7_books_69 (Nat.le_of_ble_eq_true rfl) rfl dX7_books_19 kk369 (c7_layBooking hm (i := n) (k := 0) rfl rfl (by omega) (by decide)) ?_
  rw [hfe]
  refine g_aload_0 (pc := 22) C dX7_books_22 ?_
  refine g_iload_5 (pc := 23) C dX7_books_23 ?_
  refine g_iconst (pc := 25) (v := 1) C dX7_books_25 rfl ?_
  refine g_iload_1 (pc := 26) C dX7_books_26 ?_
  refine g_V3ve (pc := 27) C e_X7_books_69 (Nat.le_of_ble_eq_true rfl) rfl dX7_books_27 kk369 (c7_layBooking hm (i := n) (k := 1) rfl rfl (by omega) (by decide)) ?_
  simp only [up_same, up_up]
  refine g_aload_0 (pc := 30) C dX7_books_30 ?_
  refine g_iload_5 (pc := 31) C dX7_books_31 ?_
  refine g_iconst (pc := 33) (v := 2) C dX7_books_33 rfl ?_
  refine g_iload_2 (pc := 34) C dX7_books_34 ?_
  refine g_V3ve (pc := 35) C e_X7_books_69 (Nat.le_of_ble_eq_true rfl) rfl dX7_books_35 kk369 (c7_layBooking hm (i := n) (k := 2) rfl rfl (by omega) (by decide)) ?_
  simp only [up_same, up_up]
  refine g_aload_0 (pc := 38) C dX7_books_38 ?_
  refine g_iload_5 (pc := 39) C dX7_books_39 ?_
  refine g_iconst (pc := 41) (v := 3) C dX7_books_41 rfl ?_
  refine g_aload_0 (pc := 42) C dX7_books_42 ?_
  refine g_getr (pc := 43) C hm.s fl_X7_books_7 kk369 dX7_books_43 ?_
  refine g_iconst (pc := 46) (v := 3) C dX7_books_46 rfl ?_
  refine g_iald (pc := 47) (j := 3) C kk370 rfl ln370 (by omega) dX7_books_47 ?_
  simp only [up_same, up_up]
  rw [show ∀ (a b d : Int32), up (up (up f (133 + 6 * n + 0) a) (133 + 6 * n + 1) b) (133 + 6 * n + 2) d 3 = f 3 from fun a b d => by rw [up_ne _ _ (by omega), up_ne _ _ (by omega), up_ne _ _ (by omega)]]
  refine g_iload_3 (pc := 48) C dX7_books_48 ?_
  refine g_iadd (pc := 49) C dX7_books_49 ?_
  refine g_V3ve (pc := 50) C e_X7_books_69 (Nat.le_of_ble_eq_true rfl) rfl dX7_books_50 kk369 (c7_layBooking hm (i := n) (k := 3) rfl rfl (by omega) (by decide)) ?_
  simp only [up_same, up_up]
  refine g_aload_0 (pc := 53) C dX7_books_53 ?_
  refine g_iload_5 (pc := 54) C dX7_books_54 ?_
  refine g_iconst (pc := 56) (v := 4) C dX7_books_56 rfl ?_
  refine g_iload_4 (pc := 57) C dX7_books_57 ?_
  refine g_V3ve (pc := 59) C e_X7_books_69 (Nat.le_of_ble_eq_true rfl) rfl dX7_books_59 kk369 (c7_layBooking hm (i := n) (k := 4) rfl rfl (by omega) (by decide)) ?_
  simp only [up_same, up_up]
  refine g_aload_0 (pc := 62) C dX7_books_62 ?_
  refine g_iload_5 (pc := 63) C dX7_books_63 ?_
  refine g_iconst (pc := 65) (v := 5) C dX7_books_65 rfl ?_
  refine g_iconst (pc := 66) (v := 0) C dX7_books_66 rfl ?_
  refine g_V3ve (pc := 67) C e_X7_books_69 (Nat.le_of_ble_eq_true rfl) rfl dX7_books_67 kk369 (c7_layBooking hm (i := n) (k := 5) rfl rfl (by omega) (by decide)) ?_
  simp only [up_same, up_up]
  refine g_aload_0 (pc := 70) C dX7_books_70 ?_
  refine g_getr (pc := 71) C hm.s fl_X7_books_7 kk369 dX7_books_71 ?_
  refine g_bipush (pc := 74) (v := 6) C dX7_books_74 rfl ?_
  refine g_dup2 (pc := 76) C dX7_books_76 rfl rfl ?_
  refine g_iald (pc := 77) (j := 6) C kk370 rfl ln370 (by omega) dX7_books_77 ?_
  refine g_iconst (pc := 78) (v := 1) C dX7_books_78 rfl ?_
  refine g_iadd (pc := 79) C dX7_books_79 ?_
  refine g_iast (pc := 80) (j := 6) C kk370 rfl ln370 (by omega) dX7_books_80 ?_
  simp only [up_same, up_up]
  refine g_aload_0 (pc := 81) C dX7_books_81 ?_
  refine g_getr (pc := 82) C hm.s fl_X7_books_7 kk369 dX7_books_82 ?_
  refine g_iconst (pc := 85) (v := 5) C dX7_books_85 rfl ?_
  refine g_dup2 (pc := 86) C dX7_books_86 rfl rfl ?_
  refine g_iald (pc := 87) (j := 5) C kk370 rfl ln370 (by omega) dX7_books_87 ?_
  refine g_iconst (pc := 88) (v := 1) C dX7_books_88 rfl ?_
  refine g_iadd (pc := 89) C dX7_books_89 ?_
  refine g_iast (pc := 90) (j := 5) C kk370 rfl ln370 (by omega) dX7_books_90 ?_
  simp only [up_same, up_up]
  refine g_aload_0 (pc := 91) C dX7_books_91 ?_
  refine g_getr (pc := 92) C hm.s fl_X7_books_7 kk369 dX7_books_92 ?_
  refine g_iconst (pc := 95) (v := 5) C dX7_books_95 rfl ?_
  refine g_iald (pc := 96) (j := 5) C kk370 rfl ln370 (by omega) dX7_books_96 ?_
  simp only [up_same, up_up]
  refine g_iconst (pc := 97) (v := 1) C dX7_books_97 rfl ?_
  refine g_isub (pc := 98) C dX7_books_98 ?_
  exact g_iret (post := qi (f 5) (up M 370 (bookF f n w m i h)) P) C F dX7_books_99 ⟨by rw [Int32.add_sub_cancel, up_ne _ _ (by decide), up_ne _ _ (by omega), up_ne _ _ (by omega), up_ne _ _ (by omega), up_ne _ _ (by omega), up_ne _ _ (by omega), up_ne _ _ (by omega)], rfl, rfl⟩

set_option maxRecDepth 100000 in
set_option maxHeartbeats 1000000 in
theorem c7_putsOff {l : Launch} {D : va_G} {cy : Nat → ClassId} {B : Nat} {M : MM} {P : PP} (hm : PMd P) {x : Int32} {p m i : Nat} {f : FF} (hfe : M 370 = f) (hx : x = nI p) (hp : p < 30) (hf : f 6 = nI (sn f)) (h30 : sn f ≤ 30) (hmm : f (133 + 6 * p + 2) = nI m) (hi1 : 1 ≤ i) (hi2 : i ≤ 30) (hok : bkO f (nI m) (f 3 + nI i) + f (133 + 6 * p + 4) ≤ 12) (hno : ∀ j, 1 ≤ j → j < i → ¬ bkO f (nI m) (f 3 + nI j) + f (133 + 6 * p + 4) ≤ 12) : KV l D cy B yX7_putsOff wsX7_putsOff 2 46 [Value.ref (B + 369), Value.int x] M P (qv (up M 370 (poF f p i)) P) := by
  refine met_KV (cc := cX7_putsOff) (maxL := 4) (ret := none) (lv := [some (Value.ref (B + 369)), some (Value.int x), none, none]) (by decide) rfl rfl rfl (Nat.le_of_ble_eq_true rfl) ?_
  intro X C F
  refine g_aload_0 (pc := 0) C dX7_putsOff_0 ?_
  refine g_iload_1 (pc := 1) C dX7_putsOff_1 ?_
  refine g_iconst (pc := 2) (v := 2) C dX7_putsOff_2 rfl ?_
  refine g_V2ie (pc := 3) C e_X7_putsOff_36 (Nat.le_of_ble_eq_true rfl) rfl dX7_putsOff_3 kk369 (c7_ofBooking hm (k := 2) hx rfl hp (by decide)) ?_
  rw [hfe, hmm]
  refine g_istore_2 (pc := 6) C dX7_putsOff_6 ?_
  refine g_aload_0 (pc := 7) C dX7_putsOff_7 ?_
  refine g_getr (pc := 8) C hm.s fl_X7_putsOff_7 kk369 dX7_putsOff_8 ?_
  refine g_iconst (pc := 11) (v := 3) C dX7_putsOff_11 rfl ?_
  refine g_iald (pc := 12) (j := 3) C kk370 rfl ln370 (by omega) dX7_putsOff_12 ?_
  rw [hfe]
  refine g_iconst (pc := 13) (v := 1) C dX7_putsOff_13 rfl ?_
  refine g_iadd (pc := 14) C dX7_putsOff_14 ?_
  refine g_istore_3 (pc := 15) C dX7_putsOff_15 ?_
  refine ind_m (fun (k : Nat) => i - k) (p := fun (k : Nat) => 1 ≤ k → k ≤ i → G X D cy B 0 0 376 M P 16 [some (Value.ref (B + 369)), some (Value.int x), some (Value.int (nI m)), some (Value.int (f 3 + nI k))] []) ?_ 1 (Nat.le_refl _) hi1
  intro k ih hk1 hk2
  refine g_aload_0 (pc := 16) C dX7_putsOff_16 ?_
  refine g_iload_2 (pc := 17) C dX7_putsOff_17 ?_
  refine g_iload_3 (pc := 18) C dX7_putsOff_18 ?_
  refine g_V2ie (pc := 19) C e_X7_putsOff_84 (Nat.le_of_ble_eq_true rfl) rfl dX7_putsOff_19 kk369 (c7_bookedOn hm (by rw [hfe]; exact hf) (by rw [hfe]; exact h30)) ?_
  refine g_aload_0 (pc := 22) C dX7_putsOff_22 ?_
  refine g_iload_1 (pc := 23) C dX7_putsOff_23 ?_
  refine g_iconst (pc := 24) (v := 4) C dX7_putsOff_24 rfl ?_
  refine g_V2ie (pc := 25) C e_X7_putsOff_36 (Nat.le_of_ble_eq_true rfl) rfl dX7_putsOff_25 kk369 (c7_ofBooking hm (k := 4) hx rfl hp (by decide)) ?_
  rw [hfe]
  refine g_iadd (pc := 28) C dX7_putsOff_28 ?_
  refine g_bipush (pc := 29) (v := 12) C dX7_putsOff_29 rfl ?_
  refine g_icmp_le (pc := 31) (tgt := 40) C dX7_putsOff_31 (by decide) (fun c31 => ?_) (fun c31 => ?_)
  · have e : k = i := by
      rcases Nat.lt_or_ge k i with h9 | h9
      · exact absurd c31 (hno k hk1 h9)
      · omega
    subst k
    refine g_aload_0 (pc := 40) C dX7_putsOff_40 ?_
    refine g_iload_1 (pc := 41) C dX7_putsOff_41 ?_
    refine g_iconst (pc := 42) (v := 3) C dX7_putsOff_42 rfl ?_
    refine g_iload_3 (pc := 43) C dX7_putsOff_43 ?_
    refine g_V3ve (pc := 44) C e_X7_putsOff_69 (Nat.le_of_ble_eq_true rfl) rfl dX7_putsOff_44 kk369 (c7_layBooking hm (k := 3) hx rfl hp (by decide)) ?_
    rw [hfe]
    refine g_aload_0 (pc := 47) C dX7_putsOff_47 ?_
    refine g_iload_1 (pc := 48) C dX7_putsOff_48 ?_
    refine g_iconst (pc := 49) (v := 5) C dX7_putsOff_49 rfl ?_
    refine g_aload_0 (pc := 50) C dX7_putsOff_50 ?_
    refine g_iload_1 (pc := 51) C dX7_putsOff_51 ?_
    refine g_iconst (pc := 52) (v := 5) C dX7_putsOff_52 rfl ?_
    refine g_V2ie (pc := 53) C e_X7_putsOff_36 (Nat.le_of_ble_eq_true rfl) rfl dX7_putsOff_53 kk369 (c7_ofBooking hm (k := 5) hx rfl hp (by decide)) ?_
    simp only [up_same, up_up]
    rw [up_ne _ _ (show 133 + 6 * p + 5 ≠ 133 + 6 * p + 3 by omega)]
    refine g_iconst (pc := 56) (v := 1) C dX7_putsOff_56 rfl ?_
    refine g_iadd (pc := 57) C dX7_putsOff_57 ?_
    refine g_V3ve (pc := 58) C e_X7_putsOff_69 (Nat.le_of_ble_eq_true rfl) rfl dX7_putsOff_58 kk369 (c7_layBooking hm (k := 5) hx rfl hp (by decide)) ?_
    simp only [up_same, up_up]
    refine g_aload_0 (pc := 61) C dX7_putsOff_61 ?_
    refine g_getr (pc := 62) C hm.s fl_X7_putsOff_7 kk369 dX7_putsOff_62 ?_
    refine g_bipush (pc := 65) (v := 8) C dX7_putsOff_65 rfl ?_
    refine g_dup2 (pc := 67) C dX7_putsOff_67 rfl rfl ?_
    refine g_iald (pc := 68) (j := 8) C kk370 rfl ln370 (by omega) dX7_putsOff_68 ?_
    refine g_iconst (pc := 69) (v := 1) C dX7_putsOff_69 rfl ?_
    refine g_iadd (pc := 70) C dX7_putsOff_70 ?_
    refine g_iast (pc := 71) (j := 8) C kk370 rfl ln370 (by omega) dX7_putsOff_71 ?_
    simp only [up_same, up_up]
    exact g_vret (post := qv (up M 370 (poF f p i)) P) C F dX7_putsOff_72 ⟨rfl, rfl⟩
  · have e : k < i := by
      rcases Nat.lt_or_ge k i with h9 | h9
      · exact h9
      · exact absurd (by rw [show k = i by omega]; exact hok) c31
    refine g_iinc_3 (pc := 34) (v := f 3 + nI (k + 1)) C dX7_putsOff_34 (by rw [← nI_1, ← Int32.add_assoc]; rfl) ?_
    refine g_goto (pc := 37) (tgt := 16) C dX7_putsOff_37 (by decide) ?_
    exact ih (k + 1) (by omega) (by omega) (by omega)

set_option maxRecDepth 100000 in
set_option maxHeartbeats 1000000 in
theorem c7_does {l : Launch} {D : va_G} {cy : Nat → ClassId} {B : Nat} {M : MM} {P : PP} (hm : PMd P) {x : Int32} {p w m n : Nat} {h : Int32} {f : FF} (hfe : M 370 = f) (hx : x = nI p) (hp : p < n + 1) (hn : n + 1 ≤ 30) (h6 : f 6 = nI (n + 1)) (hww : f (133 + 6 * p + 1) = nI w) (hw : w < 6) (hmm : f (133 + 6 * p + 2) = nI m) (hm6 : m < 6) (hh : f (133 + 6 * p + 4) = h) (hs : vn_sni2f (f (49 + 14 * m + 6)) = false) (hr1 : vf_n32 (FP.fsub (f (49 + 14 * m + 6)).toUInt32 (wantU (f (49 + 14 * m + 0)) h))) (hr2 : FP.fcmp (FP.fsub (f (49 + 14 * m + 6)).toUInt32 (wantU (f (49 + 14 * m + 0)) h)) (FP.fsub (f (49 + 14 * m + 6)).toUInt32 (wantU (f (49 + 14 * m + 0)) h)) = some .eq) : KV l D cy B yX7_does wsX7_does 3 66 [Value.ref (B + 369), Value.int x] M P (qv (up M 370 (dropF (doB f w m h (chg (f (13 + 6 * w + 1)) (f (49 + 14 * m + 0)) (f (49 + 14 * m + 1)) (f 3) h)) p n)) P) := by
  refine met_KV (cc := cX7_does) (maxL := 6) (ret := none) (lv := [some (Value.ref (B + 369)), some (Value.int x), none, none, none, none]) (by decide) rfl rfl rfl (Nat.le_of_ble_eq_true rfl) ?_
  intro X C F
  refine g_aload_0 (pc := 0) C dX7_does_0 ?_
  refine g_iload_1 (pc := 1) C dX7_does_1 ?_
  refine g_iconst (pc := 2) (v := 1) C dX7_does_2 rfl ?_
  refine g_V2ie (pc := 3) C e_X7_does_36 (Nat.le_of_ble_eq_true rfl) rfl dX7_does_3 kk369 (c7_ofBooking hm (k := 1) hx rfl (by omega) (by decide)) ?_
  rw [hfe, hww]
  refine g_istore_2 (pc := 6) C dX7_does_6 ?_
  refine g_aload_0 (pc := 7) C dX7_does_7 ?_
  refine g_iload_1 (pc := 8) C dX7_does_8 ?_
  refine g_iconst (pc := 9) (v := 2) C dX7_does_9 rfl ?_
  refine g_V2ie (pc := 10) C e_X7_does_36 (Nat.le_of_ble_eq_true rfl) rfl dX7_does_10 kk369 (c7_ofBooking hm (k := 2) hx rfl (by omega) (by decide)) ?_
  rw [hfe, hmm]
  refine g_istore_3 (pc := 13) C dX7_does_13 ?_
  refine g_aload_0 (pc := 14) C dX7_does_14 ?_
  refine g_iload_1 (pc := 15) C dX7_does_15 ?_
  refine g_iconst (pc := 16) (v := 4) C dX7_does_16 rfl ?_
  refine g_V2ie (pc := 17) C e_X7_does_36 (Nat.le_of_ble_eq_true rfl) rfl dX7_does_17 kk369 (c7_ofBooking hm (k := 4) hx rfl (by omega) (by decide)) ?_
  rw [hfe, hh]
  refine g_istore_4 (pc := 20) C dX7_does_20 ?_
  refine g_aload_0 (pc := 22) C dX7_does_22 ?_
  refine g_iload_2 (pc := 23) C dX7_does_23 ?_
  refine g_iload_3 (pc := 24) C dX7_does_24 ?_
  refine g_aload_0 (pc := 25) C dX7_does_25 ?_
  refine g_getr (pc := 26) C hm.s fl_X7_does_7 kk369 dX7_does_26 ?_
  refine g_iconst (pc := 29) (v := 3) C dX7_does_29 rfl ?_
  refine g_iald (pc := 30) (j := 3) C kk370 rfl ln370 (by omega) dX7_does_30 ?_
  rw [hfe]
  refine g_iload_4 (pc := 31) C dX7_does_31 ?_
  refine g_V4ie (pc := 33) C e_X7_does_87 (Nat.le_of_ble_eq_true rfl) rfl dX7_does_33 kk369 (c7_charge hm (w := w) (m := m) rfl rfl hw hm6) ?_
  rw [hfe]
  obtain ⟨ch, hch⟩ : ∃ z, z = chg (f (13 + 6 * w + 1)) (f (49 + 14 * m + 0)) (f (49 + 14 * m + 1)) (f 3) h := ⟨_, rfl⟩
  rw [← hch]
  refine g_istore_5 (pc := 36) C dX7_does_36 ?_
  refine g_aload_0 (pc := 38) C dX7_does_38 ?_
  refine g_iload_3 (pc := 39) C dX7_does_39 ?_
  refine g_bipush (pc := 40) (v := 6) C dX7_does_40 rfl ?_
  refine g_aload_0 (pc := 42) C dX7_does_42 ?_
  refine g_iload_3 (pc := 43) C dX7_does_43 ?_
  refine g_V1fe (pc := 44) C e_X7_does_77 (Nat.le_of_ble_eq_true rfl) rfl dX7_does_44 kk369 (c7_fuelOf hm (i := m) rfl hm6 (by rw [hfe]; exact hs)) ?_
  rw [hfe]
  refine g_aload_0 (pc := 47) C dX7_does_47 ?_
  refine g_iload_3 (pc := 48) C dX7_does_48 ?_
  refine g_iload_4 (pc := 49) C dX7_does_49 ?_
  refine g_V2fe (pc := 51) C e_X7_does_80 (Nat.le_of_ble_eq_true rfl) rfl dX7_does_51 kk369 (c7_wants hm (i := m) rfl hm6) ?_
  rw [hfe]
  refine g_fsub (pc := 54) C dX7_does_54 hr1 ?_
  refine g_S1ie (pc := 55) C e_X7_does_91 (Nat.le_of_ble_eq_true rfl) rfl dX7_does_55 (cJ_bits hr2) ?_
  refine g_V3ve (pc := 58) C e_X7_does_95 (Nat.le_of_ble_eq_true rfl) rfl dX7_does_58 kk369 (c7_layMachine hm (i := m) (k := 6) rfl rfl hm6 (by decide)) ?_
  rw [hfe]
  refine g_aload_0 (pc := 61) C dX7_does_61 ?_
  refine g_iload_2 (pc := 62) C dX7_does_62 ?_
  refine g_iconst (pc := 63) (v := 0) C dX7_does_63 rfl ?_
  refine g_iload_5 (pc := 64) C dX7_does_64 ?_
  refine g_ineg (pc := 66) C dX7_does_66 ?_
  refine g_V3ve (pc := 67) C e_X7_does_98 (Nat.le_of_ble_eq_true rfl) rfl dX7_does_67 kk369 (c7_addFarmer hm (i := w) (k := 0) rfl rfl hw (by decide)) ?_
  simp only [up_same, up_up]
  simp only [aF_def]
  refine g_aload_0 (pc := 70) C dX7_does_70 ?_
  refine g_iload_2 (pc := 71) C dX7_does_71 ?_
  refine g_iconst (pc := 72) (v := 4) C dX7_does_72 rfl ?_
  refine g_iload_5 (pc := 73) C dX7_does_73 ?_
  refine g_V3ve (pc := 75) C e_X7_does_98 (Nat.le_of_ble_eq_true rfl) rfl dX7_does_75 kk369 (c7_addFarmer hm (i := w) (k := 4) rfl rfl hw (by decide)) ?_
  simp only [up_same, up_up]
  simp only [aF_def]
  refine g_aload_0 (pc := 78) C dX7_does_78 ?_
  refine g_iload_2 (pc := 79) C dX7_does_79 ?_
  refine g_iconst (pc := 80) (v := 2) C dX7_does_80 rfl ?_
  refine g_iload_4 (pc := 81) C dX7_does_81 ?_
  refine g_V3ve (pc := 83) C e_X7_does_98 (Nat.le_of_ble_eq_true rfl) rfl dX7_does_83 kk369 (c7_addFarmer hm (i := w) (k := 2) rfl rfl hw (by decide)) ?_
  simp only [up_same, up_up]
  simp only [aF_def]
  refine g_aload_0 (pc := 86) C dX7_does_86 ?_
  refine g_iload_3 (pc := 87) C dX7_does_87 ?_
  refine g_iconst (pc := 88) (v := 3) C dX7_does_88 rfl ?_
  refine g_aload_0 (pc := 89) C dX7_does_89 ?_
  refine g_iload_3 (pc := 90) C dX7_does_90 ?_
  refine g_iconst (pc := 91) (v := 3) C dX7_does_91 rfl ?_
  refine g_V2ie (pc := 92) C e_X7_does_51 (Nat.le_of_ble_eq_true rfl) rfl dX7_does_92 kk369 (c7_ofMachine hm (i := m) (k := 3) rfl rfl hm6 (by decide)) ?_
  rw [up_same]
  refine g_iload_4 (pc := 95) C dX7_does_95 ?_
  refine g_iadd (pc := 97) C dX7_does_97 ?_
  refine g_V3ve (pc := 98) C e_X7_does_95 (Nat.le_of_ble_eq_true rfl) rfl dX7_does_98 kk369 (c7_layMachine hm (i := m) (k := 3) rfl rfl hm6 (by decide)) ?_
  simp only [up_same, up_up]
  simp only [aF_def]
  refine g_aload_0 (pc := 101) C dX7_does_101 ?_
  refine g_iload_3 (pc := 102) C dX7_does_102 ?_
  refine g_iconst (pc := 103) (v := 4) C dX7_does_103 rfl ?_
  refine g_aload_0 (pc := 104) C dX7_does_104 ?_
  refine g_iload_3 (pc := 105) C dX7_does_105 ?_
  refine g_iconst (pc := 106) (v := 4) C dX7_does_106 rfl ?_
  refine g_V2ie (pc := 107) C e_X7_does_51 (Nat.le_of_ble_eq_true rfl) rfl dX7_does_107 kk369 (c7_ofMachine hm (i := m) (k := 4) rfl rfl hm6 (by decide)) ?_
  rw [up_same]
  refine g_iload_4 (pc := 110) C dX7_does_110 ?_
  refine g_iadd (pc := 112) C dX7_does_112 ?_
  refine g_V3ve (pc := 113) C e_X7_does_95 (Nat.le_of_ble_eq_true rfl) rfl dX7_does_113 kk369 (c7_layMachine hm (i := m) (k := 4) rfl rfl hm6 (by decide)) ?_
  simp only [up_same, up_up]
  simp only [aF_def]
  refine g_aload_0 (pc := 116) C dX7_does_116 ?_
  refine g_iload_3 (pc := 117) C dX7_does_117 ?_
  refine g_bipush (pc := 118) (v := 8) C dX7_does_118 rfl ?_
  refine g_iload_2 (pc := 120) C dX7_does_120 ?_
  refine g_iadd (pc := 121) C dX7_does_121 ?_
  refine g_aload_0 (pc := 122) C dX7_does_122 ?_
  refine g_iload_3 (pc := 123) C dX7_does_123 ?_
  refine g_bipush (pc := 124) (v := 8) C dX7_does_124 rfl ?_
  refine g_iload_2 (pc := 126) C dX7_does_126 ?_
  refine g_iadd (pc := 127) C dX7_does_127 ?_
  refine g_V2ie (pc := 128) C e_X7_does_51 (Nat.le_of_ble_eq_true rfl) rfl dX7_does_128 kk369 (c7_ofMachine hm (i := m) (k := 8 + w) rfl (nI_add 8 w) hm6 (by omega)) ?_
  rw [up_same]
  refine g_iload_4 (pc := 131) C dX7_does_131 ?_
  refine g_iadd (pc := 133) C dX7_does_133 ?_
  refine g_V3ve (pc := 134) C e_X7_does_95 (Nat.le_of_ble_eq_true rfl) rfl dX7_does_134 kk369 (c7_layMachine hm (i := m) (k := 8 + w) rfl (nI_add 8 w) hm6 (by omega)) ?_
  simp only [up_same, up_up]
  simp only [aF_def]
  rw [show aF (aF (aF (aF (aF (aF (up f (49 + 14 * m + 6) (FP.fsub (f (49 + 14 * m + 6)).toUInt32 (wantU (f (49 + 14 * m + 0)) h)).toInt32) (13 + 6 * w + 0) (-ch)) (13 + 6 * w + 4) ch) (13 + 6 * w + 2) h) (49 + 14 * m + 3) h) (49 + 14 * m + 4) h) (49 + 14 * m + (8 + w)) h = doA f w m h ch from rfl]
  refine g_aload_0 (pc := 137) C dX7_does_137 ?_
  refine g_iload_3 (pc := 138) C dX7_does_138 ?_
  refine g_iconst (pc := 139) (v := 3) C dX7_does_139 rfl ?_
  refine g_V2ie (pc := 140) C e_X7_does_51 (Nat.le_of_ble_eq_true rfl) rfl dX7_does_140 kk369 (c7_ofMachine hm (i := m) (k := 3) rfl rfl hm6 (by decide)) ?_
  rw [up_same]
  refine g_aload_0 (pc := 143) C dX7_does_143 ?_
  refine g_getr (pc := 144) C hm.s fl_X7_does_7 kk369 dX7_does_144 ?_
  refine g_iconst (pc := 147) (v := 0) C dX7_does_147 rfl ?_
  refine g_iald (pc := 148) (j := 0) C kk370 rfl ln370 (by omega) dX7_does_148 ?_
  rw [up_same]
  refine g_icmp_lt (pc := 149) (tgt := 159) C dX7_does_149 (by decide) (fun c149 => ?_) (fun c149 => ?_)
  · have e8 : (if doA f w m h ch (49 + 14 * m + 3) < doA f w m h ch 0 then doA f w m h ch else up (doA f w m h ch) (49 + 14 * m + 2) 1) = doA f w m h ch := if_pos c149
    rw [← e8]
    generalize e9 : (if doA f w m h ch (49 + 14 * m + 3) < doA f w m h ch 0 then doA f w m h ch else up (doA f w m h ch) (49 + 14 * m + 2) 1) = f9
    refine g_aload_0 (pc := 159) C dX7_does_159 ?_
    refine g_getr (pc := 160) C hm.s fl_X7_does_7 kk369 dX7_does_160 ?_
    refine g_bipush (pc := 163) (v := 7) C dX7_does_163 rfl ?_
    refine g_dup2 (pc := 165) C dX7_does_165 rfl rfl ?_
    refine g_iald (pc := 166) (j := 7) C kk370 rfl ln370 (by omega) dX7_does_166 ?_
    refine g_iconst (pc := 167) (v := 1) C dX7_does_167 rfl ?_
    refine g_iadd (pc := 168) C dX7_does_168 ?_
    refine g_iast (pc := 169) (j := 7) C kk370 rfl ln370 (by omega) dX7_does_169 ?_
    simp only [up_same, up_up]
    simp only [aF_def]
    refine g_aload_0 (pc := 170) C dX7_does_170 ?_
    refine g_iload_1 (pc := 171) C dX7_does_171 ?_
    refine g_V1ve (pc := 172) C e_X7_does_101 (Nat.le_of_ble_eq_true rfl) rfl dX7_does_172 kk369 (c7_dropsBooking hm hx (n := n) (by rw [up_same, ← e9]; exact (doB_ne (by omega) (by omega) (by omega) (by omega) (by omega) (by omega) (by omega) (by omega) (by omega)).trans h6) hp hn) ?_
    simp only [up_same, up_up]
    exact g_vret (post := qv (up M 370 (dropF (doB f w m h (chg (f (13 + 6 * w + 1)) (f (49 + 14 * m + 0)) (f (49 + 14 * m + 1)) (f 3) h)) p n)) P) C F dX7_does_175 ⟨by rw [← e9, ← hch]; rfl, rfl⟩
  · have e8 : (if doA f w m h ch (49 + 14 * m + 3) < doA f w m h ch 0 then doA f w m h ch else up (doA f w m h ch) (49 + 14 * m + 2) 1) = up (doA f w m h ch) (49 + 14 * m + 2) 1 := if_neg c149
    refine g_aload_0 (pc := 152) C dX7_does_152 ?_
    refine g_iload_3 (pc := 153) C dX7_does_153 ?_
    refine g_iconst (pc := 154) (v := 2) C dX7_does_154 rfl ?_
    refine g_iconst (pc := 155) (v := 1) C dX7_does_155 rfl ?_
    refine g_V3ve (pc := 156) C e_X7_does_95 (Nat.le_of_ble_eq_true rfl) rfl dX7_does_156 kk369 (c7_layMachine hm (i := m) (k := 2) rfl rfl hm6 (by decide)) ?_
    simp only [up_same, up_up]
    rw [← e8]
    generalize e9 : (if doA f w m h ch (49 + 14 * m + 3) < doA f w m h ch 0 then doA f w m h ch else up (doA f w m h ch) (49 + 14 * m + 2) 1) = f9
    refine g_aload_0 (pc := 159) C dX7_does_159 ?_
    refine g_getr (pc := 160) C hm.s fl_X7_does_7 kk369 dX7_does_160 ?_
    refine g_bipush (pc := 163) (v := 7) C dX7_does_163 rfl ?_
    refine g_dup2 (pc := 165) C dX7_does_165 rfl rfl ?_
    refine g_iald (pc := 166) (j := 7) C kk370 rfl ln370 (by omega) dX7_does_166 ?_
    refine g_iconst (pc := 167) (v := 1) C dX7_does_167 rfl ?_
    refine g_iadd (pc := 168) C dX7_does_168 ?_
    refine g_iast (pc := 169) (j := 7) C kk370 rfl ln370 (by omega) dX7_does_169 ?_
    simp only [up_same, up_up]
    simp only [aF_def]
    refine g_aload_0 (pc := 170) C dX7_does_170 ?_
    refine g_iload_1 (pc := 171) C dX7_does_171 ?_
    refine g_V1ve (pc := 172) C e_X7_does_101 (Nat.le_of_ble_eq_true rfl) rfl dX7_does_172 kk369 (c7_dropsBooking hm hx (n := n) (by rw [up_same, ← e9]; exact (doB_ne (by omega) (by omega) (by omega) (by omega) (by omega) (by omega) (by omega) (by omega) (by omega)).trans h6) hp hn) ?_
    simp only [up_same, up_up]
    exact g_vret (post := qv (up M 370 (dropF (doB f w m h (chg (f (13 + 6 * w + 1)) (f (49 + 14 * m + 0)) (f (49 + 14 * m + 1)) (f 3) h)) p n)) P) C F dX7_does_175 ⟨by rw [← e9, ← hch]; rfl, rfl⟩
