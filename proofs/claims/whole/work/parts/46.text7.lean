set_option maxRecDepth 100000 in
set_option maxHeartbeats 1000000 in
theorem c7_numN {l : Launch} {D : va_G} {cy : Nat → ClassId} {B : Nat} {M : MM} {P : PP} {t : FF} {len p : Nat} (hm : PMd P) (h1 : M 369 8 = nI len) (h2 : M 369 9 = nI p) (hl : len ≤ 60) (hp : p ≤ len) (ht : ∀ i, i < len → M 374 i = t i) {m : Int32} (hb : M 369 10 = 1) (hx : ¬ (49 ≤ sm0 t len p ∧ sm0 t len p ≤ 57)) : KI l D cy B yX7_number wsX7_number 1 22 [Value.ref (B + 369), Value.int m] M P (qi (sm0 t len p - 48) (up M 369 (up (up (M 369) 10 0) 9 (nI p))) P) := by
  refine met_KI (cc := cX7_number) (maxL := 3) (ret := (some .int)) (lv := [some (Value.ref (B + 369)), some (Value.int m), none]) (by decide) rfl rfl rfl (Nat.le_of_ble_eq_true rfl) ?_
  intro X C F
  refine g_aload_0 (pc := 0) C dX7_number_0 ?_
  refine g_aload_0 (pc := 1) C dX7_number_1 ?_
  refine g_getz (pc := 2) C fl_X7_number_161 kk369 dX7_number_2 ?_
  rw [hb]
  refine g_if_eq (pc := 5) (tgt := 26) C dX7_number_5 (by decide) (fun c5 => ?_) (fun c5 => ?_)
  · exact absurd c5 (by decide)
  · refine g_aload_0 (pc := 8) C dX7_number_8 ?_
    refine g_V0ie (pc := 9) C e_X7_number_165 (Nat.le_of_ble_eq_true rfl) rfl dX7_number_9 kk369 (c7_sign hm h1 h2 hl hp ht) ?_
    refine g_bipush (pc := 12) (v := 49) C dX7_number_12 rfl ?_
    refine g_bipush (pc := 14) (v := 57) C dX7_number_14 rfl ?_
    refine g_S3ie (pc := 16) C e_X7_number_32 (Nat.le_of_ble_eq_true rfl) rfl dX7_number_16 (c7_in) ?_
    refine g_if_eq (pc := 19) (tgt := 26) C dX7_number_19 (by decide) (fun c19 => ?_) (fun c19 => ?_)
    · refine g_iconst (pc := 26) (v := 0) C dX7_number_26 rfl ?_
      refine g_putz (pc := 27) C (by first | exact Or.inl rfl | exact Or.inr rfl | assumption) pf_X7_number_161 kk369 dX7_number_27 ?_
      refine g_aload_0 (pc := 30) C dX7_number_30 ?_
      refine g_V0ie (pc := 31) C e_X7_number_165 (Nat.le_of_ble_eq_true rfl) rfl dX7_number_31 kk369 (c7_sign (t := t) (len := len) hm (by rw [up_same, up_ne _ _ (by decide)]; exact h1) (by rw [up_same, up_ne _ _ (by decide)]; exact h2) hl hp (fun i hi => by rw [up_ne _ _ (by decide)]; exact ht i hi)) ?_
      refine g_bipush (pc := 34) (v := 48) C dX7_number_34 rfl ?_
      refine g_isub (pc := 36) C dX7_number_36 ?_
      refine g_istore_2 (pc := 37) C dX7_number_37 ?_
      refine g_aload_0 (pc := 38) C dX7_number_38 ?_
      refine g_dup (pc := 39) C dX7_number_39 rfl ?_
      refine g_geti (pc := 40) C fl_X7_number_158 kk369 dX7_number_40 ?_
      rw [up_same, up_ne _ _ (by decide), h2]
      refine g_aload_0 (pc := 43) C dX7_number_43 ?_
      refine g_getz (pc := 44) C fl_X7_number_161 kk369 dX7_number_44 ?_
      rw [up_same, up_same]
      refine g_if_eq (pc := 47) (tgt := 54) C dX7_number_47 (by decide) (fun c47 => ?_) (fun c47 => ?_)
      · refine g_iconst (pc := 54) (v := 0) C dX7_number_54 rfl ?_
        refine g_iadd (pc := 55) C dX7_number_55 ?_
        rw [z_add]
        refine g_puti (pc := 56) C pf_X7_number_158 kk369 dX7_number_56 ?_
        simp only [up_same, up_up]
        refine g_aload_0 (pc := 59) C dX7_number_59 ?_
        refine g_getz (pc := 60) C fl_X7_number_161 kk369 dX7_number_60 ?_
        rw [up_same, up_ne _ _ (by decide), up_same]
        refine g_if_eq (pc := 63) (tgt := 119) C dX7_number_63 (by decide) (fun c63 => ?_) (fun c63 => ?_)
        · refine g_iload_2 (pc := 119) C dX7_number_119 ?_
          exact g_iret (post := qi (sm0 t len p - 48) (up M 369 (up (up (M 369) 10 0) 9 (nI p))) P) C F dX7_number_120 ⟨rfl, rfl, rfl⟩
        · exact absurd rfl c63
      · exact absurd rfl c47
    · exact absurd (if1 c19) hx

set_option maxRecDepth 100000 in
set_option maxHeartbeats 1000000 in
theorem c7_num0 {l : Launch} {D : va_G} {cy : Nat → ClassId} {B : Nat} {M : MM} {P : PP} {t : FF} {len p : Nat} (hm : PMd P) (h1 : M 369 8 = nI len) (h2 : M 369 9 = nI p) (hl : len ≤ 60) (hp : p ≤ len) (ht : ∀ i, i < len → M 374 i = t i) {m : Int32} (hb : M 369 10 = 0) : KI l D cy B yX7_number wsX7_number 1 22 [Value.ref (B + 369), Value.int m] M P (qi (sm0 t len p - 48) (up M 369 (up (up (M 369) 10 0) 9 (nI p))) P) := by
  refine met_KI (cc := cX7_number) (maxL := 3) (ret := (some .int)) (lv := [some (Value.ref (B + 369)), some (Value.int m), none]) (by decide) rfl rfl rfl (Nat.le_of_ble_eq_true rfl) ?_
  intro X C F
  refine g_aload_0 (pc := 0) C dX7_number_0 ?_
  refine g_aload_0 (pc := 1) C dX7_number_1 ?_
  refine g_getz (pc := 2) C fl_X7_number_161 kk369 dX7_number_2 ?_
  rw [hb]
  refine g_if_eq (pc := 5) (tgt := 26) C dX7_number_5 (by decide) (fun c5 => ?_) (fun c5 => ?_)
  · refine g_iconst (pc := 26) (v := 0) C dX7_number_26 rfl ?_
    refine g_putz (pc := 27) C (by first | exact Or.inl rfl | exact Or.inr rfl | assumption) pf_X7_number_161 kk369 dX7_number_27 ?_
    refine g_aload_0 (pc := 30) C dX7_number_30 ?_
    refine g_V0ie (pc := 31) C e_X7_number_165 (Nat.le_of_ble_eq_true rfl) rfl dX7_number_31 kk369 (c7_sign (t := t) (len := len) hm (by rw [up_same, up_ne _ _ (by decide)]; exact h1) (by rw [up_same, up_ne _ _ (by decide)]; exact h2) hl hp (fun i hi => by rw [up_ne _ _ (by decide)]; exact ht i hi)) ?_
    refine g_bipush (pc := 34) (v := 48) C dX7_number_34 rfl ?_
    refine g_isub (pc := 36) C dX7_number_36 ?_
    refine g_istore_2 (pc := 37) C dX7_number_37 ?_
    refine g_aload_0 (pc := 38) C dX7_number_38 ?_
    refine g_dup (pc := 39) C dX7_number_39 rfl ?_
    refine g_geti (pc := 40) C fl_X7_number_158 kk369 dX7_number_40 ?_
    rw [up_same, up_ne _ _ (by decide), h2]
    refine g_aload_0 (pc := 43) C dX7_number_43 ?_
    refine g_getz (pc := 44) C fl_X7_number_161 kk369 dX7_number_44 ?_
    rw [up_same, up_same]
    refine g_if_eq (pc := 47) (tgt := 54) C dX7_number_47 (by decide) (fun c47 => ?_) (fun c47 => ?_)
    · refine g_iconst (pc := 54) (v := 0) C dX7_number_54 rfl ?_
      refine g_iadd (pc := 55) C dX7_number_55 ?_
      rw [z_add]
      refine g_puti (pc := 56) C pf_X7_number_158 kk369 dX7_number_56 ?_
      simp only [up_same, up_up]
      refine g_aload_0 (pc := 59) C dX7_number_59 ?_
      refine g_getz (pc := 60) C fl_X7_number_161 kk369 dX7_number_60 ?_
      rw [up_same, up_ne _ _ (by decide), up_same]
      refine g_if_eq (pc := 63) (tgt := 119) C dX7_number_63 (by decide) (fun c63 => ?_) (fun c63 => ?_)
      · refine g_iload_2 (pc := 119) C dX7_number_119 ?_
        exact g_iret (post := qi (sm0 t len p - 48) (up M 369 (up (up (M 369) 10 0) 9 (nI p))) P) C F dX7_number_120 ⟨rfl, rfl, rfl⟩
      · exact absurd rfl c63
    · exact absurd rfl c47
  · exact absurd rfl c5

set_option maxRecDepth 100000 in
set_option maxHeartbeats 1000000 in
theorem c7_num1 {l : Launch} {D : va_G} {cy : Nat → ClassId} {B : Nat} {M : MM} {P : PP} {t : FF} {len p : Nat} (hm : PMd P) (h1 : M 369 8 = nI len) (h2 : M 369 9 = nI p) (hl : len ≤ 60) (hp : p ≤ len) (ht : ∀ i, i < len → M 374 i = t i) {m : Int32} (hb : M 369 10 = 1) (hx : 49 ≤ sm0 t len p ∧ sm0 t len p ≤ 57) (hp1 : p + 1 ≤ len) (hy : ¬ ((48 ≤ sm0 t len (p + 1) ∧ sm0 t len (p + 1) ≤ 57) ∧ 10 * (sm0 t len p - 48) + sm0 t len (p + 1) - 48 ≤ m)) : KI l D cy B yX7_number wsX7_number 1 22 [Value.ref (B + 369), Value.int m] M P (qi (sm0 t len p - 48) (up M 369 (up (up (M 369) 10 1) 9 (nI (p + 1)))) P) := by
  refine met_KI (cc := cX7_number) (maxL := 3) (ret := (some .int)) (lv := [some (Value.ref (B + 369)), some (Value.int m), none]) (by decide) rfl rfl rfl (Nat.le_of_ble_eq_true rfl) ?_
  intro X C F
  refine g_aload_0 (pc := 0) C dX7_number_0 ?_
  refine g_aload_0 (pc := 1) C dX7_number_1 ?_
  refine g_getz (pc := 2) C fl_X7_number_161 kk369 dX7_number_2 ?_
  rw [hb]
  refine g_if_eq (pc := 5) (tgt := 26) C dX7_number_5 (by decide) (fun c5 => ?_) (fun c5 => ?_)
  · exact absurd c5 (by decide)
  · refine g_aload_0 (pc := 8) C dX7_number_8 ?_
    refine g_V0ie (pc := 9) C e_X7_number_165 (Nat.le_of_ble_eq_true rfl) rfl dX7_number_9 kk369 (c7_sign hm h1 h2 hl hp ht) ?_
    refine g_bipush (pc := 12) (v := 49) C dX7_number_12 rfl ?_
    refine g_bipush (pc := 14) (v := 57) C dX7_number_14 rfl ?_
    refine g_S3ie (pc := 16) C e_X7_number_32 (Nat.le_of_ble_eq_true rfl) rfl dX7_number_16 (c7_in) ?_
    refine g_if_eq (pc := 19) (tgt := 26) C dX7_number_19 (by decide) (fun c19 => ?_) (fun c19 => ?_)
    · exact absurd hx (if0 c19)
    · refine g_iconst (pc := 22) (v := 1) C dX7_number_22 rfl ?_
      refine g_goto (pc := 23) (tgt := 27) C dX7_number_23 (by decide) ?_
      refine g_putz (pc := 27) C (by first | exact Or.inl rfl | exact Or.inr rfl | assumption) pf_X7_number_161 kk369 dX7_number_27 ?_
      refine g_aload_0 (pc := 30) C dX7_number_30 ?_
      refine g_V0ie (pc := 31) C e_X7_number_165 (Nat.le_of_ble_eq_true rfl) rfl dX7_number_31 kk369 (c7_sign (t := t) (len := len) hm (by rw [up_same, up_ne _ _ (by decide)]; exact h1) (by rw [up_same, up_ne _ _ (by decide)]; exact h2) hl hp (fun i hi => by rw [up_ne _ _ (by decide)]; exact ht i hi)) ?_
      refine g_bipush (pc := 34) (v := 48) C dX7_number_34 rfl ?_
      refine g_isub (pc := 36) C dX7_number_36 ?_
      refine g_istore_2 (pc := 37) C dX7_number_37 ?_
      refine g_aload_0 (pc := 38) C dX7_number_38 ?_
      refine g_dup (pc := 39) C dX7_number_39 rfl ?_
      refine g_geti (pc := 40) C fl_X7_number_158 kk369 dX7_number_40 ?_
      rw [up_same, up_ne _ _ (by decide), h2]
      refine g_aload_0 (pc := 43) C dX7_number_43 ?_
      refine g_getz (pc := 44) C fl_X7_number_161 kk369 dX7_number_44 ?_
      rw [up_same, up_same]
      refine g_if_eq (pc := 47) (tgt := 54) C dX7_number_47 (by decide) (fun c47 => ?_) (fun c47 => ?_)
      · exact absurd c47 (by decide)
      · refine g_iconst (pc := 50) (v := 1) C dX7_number_50 rfl ?_
        refine g_goto (pc := 51) (tgt := 55) C dX7_number_51 (by decide) ?_
        refine g_iadd (pc := 55) C dX7_number_55 ?_
        rw [nI_1]
        refine g_puti (pc := 56) C pf_X7_number_158 kk369 dX7_number_56 ?_
        simp only [up_same, up_up]
        refine g_aload_0 (pc := 59) C dX7_number_59 ?_
        refine g_getz (pc := 60) C fl_X7_number_161 kk369 dX7_number_60 ?_
        rw [up_same, up_ne _ _ (by decide), up_same]
        refine g_if_eq (pc := 63) (tgt := 119) C dX7_number_63 (by decide) (fun c63 => ?_) (fun c63 => ?_)
        · exact absurd c63 (by decide)
        · refine g_aload_0 (pc := 66) C dX7_number_66 ?_
          refine g_V0ie (pc := 67) C e_X7_number_165 (Nat.le_of_ble_eq_true rfl) rfl dX7_number_67 kk369 (c7_sign (t := t) (len := len) (p := p + 1) hm (by rw [up_same, up_ne _ _ (by decide), up_ne _ _ (by decide)]; exact h1) (by rw [up_same, up_same]) hl hp1 (fun i hi => by rw [up_ne _ _ (by decide)]; exact ht i hi)) ?_
          refine g_bipush (pc := 70) (v := 48) C dX7_number_70 rfl ?_
          refine g_bipush (pc := 72) (v := 57) C dX7_number_72 rfl ?_
          refine g_S3ie (pc := 74) C e_X7_number_32 (Nat.le_of_ble_eq_true rfl) rfl dX7_number_74 (c7_in) ?_
          refine g_if_eq (pc := 77) (tgt := 119) C dX7_number_77 (by decide) (fun c77 => ?_) (fun c77 => ?_)
          · refine g_iload_2 (pc := 119) C dX7_number_119 ?_
            exact g_iret (post := qi (sm0 t len p - 48) (up M 369 (up (up (M 369) 10 1) 9 (nI (p + 1)))) P) C F dX7_number_120 ⟨rfl, rfl, rfl⟩
          · refine g_bipush (pc := 80) (v := 10) C dX7_number_80 rfl ?_
            refine g_iload_2 (pc := 82) C dX7_number_82 ?_
            refine g_imul (pc := 83) C dX7_number_83 ?_
            refine g_aload_0 (pc := 84) C dX7_number_84 ?_
            refine g_V0ie (pc := 85) C e_X7_number_165 (Nat.le_of_ble_eq_true rfl) rfl dX7_number_85 kk369 (c7_sign (t := t) (len := len) (p := p + 1) hm (by rw [up_same, up_ne _ _ (by decide), up_ne _ _ (by decide)]; exact h1) (by rw [up_same, up_same]) hl hp1 (fun i hi => by rw [up_ne _ _ (by decide)]; exact ht i hi)) ?_
            refine g_iadd (pc := 88) C dX7_number_88 ?_
            refine g_bipush (pc := 89) (v := 48) C dX7_number_89 rfl ?_
            refine g_isub (pc := 91) C dX7_number_91 ?_
            refine g_iload_1 (pc := 92) C dX7_number_92 ?_
            refine g_icmp_gt (pc := 93) (tgt := 119) C dX7_number_93 (by decide) (fun c93 => ?_) (fun c93 => ?_)
            · refine g_iload_2 (pc := 119) C dX7_number_119 ?_
              exact g_iret (post := qi (sm0 t len p - 48) (up M 369 (up (up (M 369) 10 1) 9 (nI (p + 1)))) P) C F dX7_number_120 ⟨rfl, rfl, rfl⟩
            · exact absurd ⟨if1 c77, Int32.not_lt.mp c93⟩ hy

set_option maxRecDepth 100000 in
set_option maxHeartbeats 1000000 in
theorem c7_num2 {l : Launch} {D : va_G} {cy : Nat → ClassId} {B : Nat} {M : MM} {P : PP} {t : FF} {len p : Nat} (hm : PMd P) (h1 : M 369 8 = nI len) (h2 : M 369 9 = nI p) (hl : len ≤ 60) (hp : p ≤ len) (ht : ∀ i, i < len → M 374 i = t i) {m : Int32} (hb : M 369 10 = 1) (hx : 49 ≤ sm0 t len p ∧ sm0 t len p ≤ 57) (hp1 : p + 1 ≤ len) (hp2 : p + 2 ≤ len) (hy : (48 ≤ sm0 t len (p + 1) ∧ sm0 t len (p + 1) ≤ 57) ∧ 10 * (sm0 t len p - 48) + sm0 t len (p + 1) - 48 ≤ m) : KI l D cy B yX7_number wsX7_number 1 22 [Value.ref (B + 369), Value.int m] M P (qi (10 * (sm0 t len p - 48) + sm0 t len (p + 1) - 48) (up M 369 (up (up (M 369) 10 1) 9 (nI (p + 2)))) P) := by
  refine met_KI (cc := cX7_number) (maxL := 3) (ret := (some .int)) (lv := [some (Value.ref (B + 369)), some (Value.int m), none]) (by decide) rfl rfl rfl (Nat.le_of_ble_eq_true rfl) ?_
  intro X C F
  refine g_aload_0 (pc := 0) C dX7_number_0 ?_
  refine g_aload_0 (pc := 1) C dX7_number_1 ?_
  refine g_getz (pc := 2) C fl_X7_number_161 kk369 dX7_number_2 ?_
  rw [hb]
  refine g_if_eq (pc := 5) (tgt := 26) C dX7_number_5 (by decide) (fun c5 => ?_) (fun c5 => ?_)
  · exact absurd c5 (by decide)
  · refine g_aload_0 (pc := 8) C dX7_number_8 ?_
    refine g_V0ie (pc := 9) C e_X7_number_165 (Nat.le_of_ble_eq_true rfl) rfl dX7_number_9 kk369 (c7_sign hm h1 h2 hl hp ht) ?_
    refine g_bipush (pc := 12) (v := 49) C dX7_number_12 rfl ?_
    refine g_bipush (pc := 14) (v := 57) C dX7_number_14 rfl ?_
    refine g_S3ie (pc := 16) C e_X7_number_32 (Nat.le_of_ble_eq_true rfl) rfl dX7_number_16 (c7_in) ?_
    refine g_if_eq (pc := 19) (tgt := 26) C dX7_number_19 (by decide) (fun c19 => ?_) (fun c19 => ?_)
    · exact absurd hx (if0 c19)
    · refine g_iconst (pc := 22) (v := 1) C dX7_number_22 rfl ?_
      refine g_goto (pc := 23) (tgt := 27) C dX7_number_23 (by decide) ?_
      refine g_putz (pc := 27) C (by first | exact Or.inl rfl | exact Or.inr rfl | assumption) pf_X7_number_161 kk369 dX7_number_27 ?_
      refine g_aload_0 (pc := 30) C dX7_number_30 ?_
      refine g_V0ie (pc := 31) C e_X7_number_165 (Nat.le_of_ble_eq_true rfl) rfl dX7_number_31 kk369 (c7_sign (t := t) (len := len) hm (by rw [up_same, up_ne _ _ (by decide)]; exact h1) (by rw [up_same, up_ne _ _ (by decide)]; exact h2) hl hp (fun i hi => by rw [up_ne _ _ (by decide)]; exact ht i hi)) ?_
      refine g_bipush (pc := 34) (v := 48) C dX7_number_34 rfl ?_
      refine g_isub (pc := 36) C dX7_number_36 ?_
      refine g_istore_2 (pc := 37) C dX7_number_37 ?_
      refine g_aload_0 (pc := 38) C dX7_number_38 ?_
      refine g_dup (pc := 39) C dX7_number_39 rfl ?_
      refine g_geti (pc := 40) C fl_X7_number_158 kk369 dX7_number_40 ?_
      rw [up_same, up_ne _ _ (by decide), h2]
      refine g_aload_0 (pc := 43) C dX7_number_43 ?_
      refine g_getz (pc := 44) C fl_X7_number_161 kk369 dX7_number_44 ?_
      rw [up_same, up_same]
      refine g_if_eq (pc := 47) (tgt := 54) C dX7_number_47 (by decide) (fun c47 => ?_) (fun c47 => ?_)
      · exact absurd c47 (by decide)
      · refine g_iconst (pc := 50) (v := 1) C dX7_number_50 rfl ?_
        refine g_goto (pc := 51) (tgt := 55) C dX7_number_51 (by decide) ?_
        refine g_iadd (pc := 55) C dX7_number_55 ?_
        rw [nI_1]
        refine g_puti (pc := 56) C pf_X7_number_158 kk369 dX7_number_56 ?_
        simp only [up_same, up_up]
        refine g_aload_0 (pc := 59) C dX7_number_59 ?_
        refine g_getz (pc := 60) C fl_X7_number_161 kk369 dX7_number_60 ?_
        rw [up_same, up_ne _ _ (by decide), up_same]
        refine g_if_eq (pc := 63) (tgt := 119) C dX7_number_63 (by decide) (fun c63 => ?_) (fun c63 => ?_)
        · exact absurd c63 (by decide)
        · refine g_aload_0 (pc := 66) C dX7_number_66 ?_
          refine g_V0ie (pc := 67) C e_X7_number_165 (Nat.le_of_ble_eq_true rfl) rfl dX7_number_67 kk369 (c7_sign (t := t) (len := len) (p := p + 1) hm (by rw [up_same, up_ne _ _ (by decide), up_ne _ _ (by decide)]; exact h1) (by rw [up_same, up_same]) hl hp1 (fun i hi => by rw [up_ne _ _ (by decide)]; exact ht i hi)) ?_
          refine g_bipush (pc := 70) (v := 48) C dX7_number_70 rfl ?_
          refine g_bipush (pc := 72) (v := 57) C dX7_number_72 rfl ?_
          refine g_S3ie (pc := 74) C e_X7_number_32 (Nat.le_of_ble_eq_true rfl) rfl dX7_number_74 (c7_in) ?_
          refine g_if_eq (pc := 77) (tgt := 119) C dX7_number_77 (by decide) (fun c77 => ?_) (fun c77 => ?_)
          · exact absurd hy.1 (if0 c77)
          · refine g_bipush (pc := 80) (v := 10) C dX7_number_80 rfl ?_
            refine g_iload_2 (pc := 82) C dX7_number_82 ?_
            refine g_imul (pc := 83) C dX7_number_83 ?_
            refine g_aload_0 (pc := 84) C dX7_number_84 ?_
            refine g_V0ie (pc := 85) C e_X7_number_165 (Nat.le_of_ble_eq_true rfl) rfl dX7_number_85 kk369 (c7_sign (t := t) (len := len) (p := p + 1) hm (by rw [up_same, up_ne _ _ (by decide), up_ne _ _ (by decide)]; exact h1) (by rw [up_same, up_same]) hl hp1 (fun i hi => by rw [up_ne _ _ (by decide)]; exact ht i hi)) ?_
            refine g_iadd (pc := 88) C dX7_number_88 ?_
            refine g_bipush (pc := 89) (v := 48) C dX7_number_89 rfl ?_
            refine g_isub (pc := 91) C dX7_number_91 ?_
            refine g_iload_1 (pc := 92) C dX7_number_92 ?_
            refine g_icmp_gt (pc := 93) (tgt := 119) C dX7_number_93 (by decide) (fun c93 => ?_) (fun c93 => ?_)
            · exact absurd hy.2 (Int32.not_le.mpr c93)
            · refine g_bipush (pc := 96) (v := 10) C dX7_number_96 rfl ?_
              refine g_iload_2 (pc := 98) C dX7_number_98 ?_
              refine g_imul (pc := 99) C dX7_number_99 ?_
              refine g_aload_0 (pc := 100) C dX7_number_100 ?_
              refine g_V0ie (pc := 101) C e_X7_number_165 (Nat.le_of_ble_eq_true rfl) rfl dX7_number_101 kk369 (c7_sign (t := t) (len := len) (p := p + 1) hm (by rw [up_same, up_ne _ _ (by decide), up_ne _ _ (by decide)]; exact h1) (by rw [up_same, up_same]) hl hp1 (fun i hi => by rw [up_ne _ _ (by decide)]; exact ht i hi)) ?_
              refine g_iadd (pc := 104) C dX7_number_104 ?_
              refine g_bipush (pc := 105) (v := 48) C dX7_number_105 rfl ?_
              refine g_isub (pc := 107) C dX7_number_107 ?_
              refine g_istore_2 (pc := 108) C dX7_number_108 ?_
              refine g_aload_0 (pc := 109) C dX7_number_109 ?_
              refine g_dup (pc := 110) C dX7_number_110 rfl ?_
              refine g_geti (pc := 111) C fl_X7_number_158 kk369 dX7_number_111 ?_
              rw [up_same, up_same]
              refine g_iconst (pc := 114) (v := 1) C dX7_number_114 rfl ?_
              refine g_iadd (pc := 115) C dX7_number_115 ?_
              rw [nI_1]
              refine g_puti (pc := 116) C pf_X7_number_158 kk369 dX7_number_116 ?_
              simp only [up_same, up_up]
              refine g_iload_2 (pc := 119) C dX7_number_119 ?_
              exact g_iret (post := qi (10 * (sm0 t len p - 48) + sm0 t len (p + 1) - 48) (up M 369 (up (up (M 369) 10 1) 9 (nI (p + 2)))) P) C F dX7_number_120 ⟨rfl, rfl, rfl⟩
