set_option maxRecDepth 100000 in
set_option maxHeartbeats 1000000 in
theorem c5_start {l : Launch} {D : va_G} {cy : Nat → ClassId} {B : Nat} {M : MM} {P : PP}  : KV l D cy B yX5_startReading wsX5_startReading 0 0 [Value.ref (B + 367)] M P (qv (up M 367 (up (M 367) 2 0)) P) := by
  refine met_KV (cc := cX5_startReading) (maxL := 1) (ret := none) (lv := [some (Value.ref (B + 367))]) (by decide) rfl rfl rfl (Nat.le_of_ble_eq_true rfl) ?_
  intro X C F
  refine g_aload_0 (pc := 0) C dX5_startReading_0 ?_
  refine g_iconst (pc := 1) (v := 0) C dX5_startReading_1 rfl ?_
  refine g_puti (pc := 2) C pf_X5_startReading_19 kk367 dX5_startReading_2 ?_
  exact g_vret (post := qv (up M 367 (up (M 367) 2 0)) P) C F dX5_startReading_5 ⟨rfl, rfl⟩

set_option maxRecDepth 100000 in
set_option maxHeartbeats 1000000 in
theorem c5_next {l : Launch} {D : va_G} {cy : Nat → ClassId} {B : Nat} {M : MM} {P : PP} {t : FF} {len p : Nat} (hs : rr P 367 0 368) (h1 : M 367 1 = nI len) (h2 : M 367 2 = nI p) (hl : len ≤ 60) (hp : p ≤ len) (ht : ∀ i, i < len → M 368 i = t i) : KI l D cy B yX5_nextSign wsX5_nextSign 0 0 [Value.ref (B + 367)] M P (qi (if p < len then t p else -1) M P) := by
  refine met_KI (cc := cX5_nextSign) (maxL := 1) (ret := (some .int)) (lv := [some (Value.ref (B + 367))]) (by decide) rfl rfl rfl (Nat.le_of_ble_eq_true rfl) ?_
  intro X C F
  refine g_aload_0 (pc := 0) C dX5_nextSign_0 ?_
  refine g_geti (pc := 1) C fl_X5_nextSign_19 kk367 dX5_nextSign_1 ?_
  rw [h2]
  refine g_if_lt (pc := 4) (tgt := 42) C dX5_nextSign_4 (by decide) (fun c4 => ?_) (fun c4 => ?_)
  · exact absurd c4 (nI_pos (by omega))
  · refine g_aload_0 (pc := 7) C dX5_nextSign_7 ?_
    refine g_geti (pc := 8) C fl_X5_nextSign_19 kk367 dX5_nextSign_8 ?_
    rw [h2]
    refine g_aload_0 (pc := 11) C dX5_nextSign_11 ?_
    refine g_geti (pc := 12) C fl_X5_nextSign_15 kk367 dX5_nextSign_12 ?_
    rw [h1]
    refine g_icmp_ge (pc := 15) (tgt := 42) C dX5_nextSign_15 (by decide) (fun c15 => ?_) (fun c15 => ?_)
    · have e : len ≤ p := i_le (by omega) (by omega) c15
      refine g_iconst (pc := 42) (v := -1) C dX5_nextSign_42 rfl ?_
      exact g_iret (post := qi (if p < len then t p else -1) M P) C F dX5_nextSign_43 ⟨(if_neg (by omega)).symm, rfl, rfl⟩
    · have e : p < len := i_nle (by omega) (by omega) c15
      refine g_aload_0 (pc := 18) C dX5_nextSign_18 ?_
      refine g_geti (pc := 19) C fl_X5_nextSign_19 kk367 dX5_nextSign_19 ?_
      rw [h2]
      refine g_aload_0 (pc := 22) C dX5_nextSign_22 ?_
      refine g_getr (pc := 23) C hs fl_X5_nextSign_9 kk367 dX5_nextSign_23 ?_
      refine g_alen (pc := 26) C kk368 ln368 rfl dX5_nextSign_26 ?_
      refine g_icmp_ge (pc := 27) (tgt := 42) C dX5_nextSign_27 (by decide) (fun c27 => ?_) (fun c27 => ?_)
      · exact absurd c27 (nI_ge (b := 60) (by omega) (by decide))
      · refine g_aload_0 (pc := 30) C dX5_nextSign_30 ?_
        refine g_getr (pc := 31) C hs fl_X5_nextSign_9 kk367 dX5_nextSign_31 ?_
        refine g_aload_0 (pc := 34) C dX5_nextSign_34 ?_
        refine g_geti (pc := 35) C fl_X5_nextSign_19 kk367 dX5_nextSign_35 ?_
        rw [h2]
        refine g_cald (pc := 38) C kk368 rfl ln368 (by omega) dX5_nextSign_38 ?_
        rw [ht p e]
        refine g_goto (pc := 39) (tgt := 43) C dX5_nextSign_39 (by decide) ?_
        exact g_iret (post := qi (if p < len then t p else -1) M P) C F dX5_nextSign_43 ⟨(if_pos e).symm, rfl, rfl⟩

set_option maxRecDepth 100000 in
set_option maxHeartbeats 1000000 in
theorem c5_signN {l : Launch} {D : va_G} {cy : Nat → ClassId} {B : Nat} {M : MM} {P : PP} {t : FF} {len p : Nat} (hs : rr P 367 0 368) (h1 : M 367 1 = nI len) (h2 : M 367 2 = nI p) (hl : len ≤ 60) (hp : p ≤ len) (ht : ∀ i, i < len → M 368 i = t i) {x : Int32} (hx : (if p < len then t p else -1) ≠ x) : KI l D cy B yX5_takeSign wsX5_takeSign 1 20 [Value.ref (B + 367), Value.int x] M P (qi 0 M P) := by
  refine met_KI (cc := cX5_takeSign) (maxL := 2) (ret := (some .boolean)) (lv := [some (Value.ref (B + 367)), some (Value.int x)]) (by decide) rfl rfl rfl (Nat.le_of_ble_eq_true rfl) ?_
  intro X C F
  refine g_aload_0 (pc := 0) C dX5_takeSign_0 ?_
  refine g_V0ie (pc := 1) C e_X5_takeSign_53 (Nat.le_of_ble_eq_true rfl) rfl dX5_takeSign_1 kk367 (c5_next hs h1 h2 hl hp ht) ?_
  refine g_iload_1 (pc := 4) C dX5_takeSign_4 ?_
  refine g_icmp_eq (pc := 5) (tgt := 10) C dX5_takeSign_5 (by decide) (fun c5 => ?_) (fun c5 => ?_)
  · exact absurd c5 hx
  · refine g_iconst (pc := 8) (v := 0) C dX5_takeSign_8 rfl ?_
    exact g_zret (post := qi 0 M P) C F dX5_takeSign_9 (by first | exact Or.inl rfl | exact Or.inr rfl) ⟨rfl, rfl, rfl⟩

set_option maxRecDepth 100000 in
set_option maxHeartbeats 1000000 in
theorem c5_signS {l : Launch} {D : va_G} {cy : Nat → ClassId} {B : Nat} {M : MM} {P : PP} {t : FF} {len p : Nat} (hs : rr P 367 0 368) (h1 : M 367 1 = nI len) (h2 : M 367 2 = nI p) (hl : len ≤ 60) (hp : p ≤ len) (ht : ∀ i, i < len → M 368 i = t i) {x : Int32} (hx : (if p < len then t p else -1) = x) : KI l D cy B yX5_takeSign wsX5_takeSign 1 20 [Value.ref (B + 367), Value.int x] M P (qi 1 (up M 367 (up (M 367) 2 (nI (p + 1)))) P) := by
  refine met_KI (cc := cX5_takeSign) (maxL := 2) (ret := (some .boolean)) (lv := [some (Value.ref (B + 367)), some (Value.int x)]) (by decide) rfl rfl rfl (Nat.le_of_ble_eq_true rfl) ?_
  intro X C F
  refine g_aload_0 (pc := 0) C dX5_takeSign_0 ?_
  refine g_V0ie (pc := 1) C e_X5_takeSign_53 (Nat.le_of_ble_eq_true rfl) rfl dX5_takeSign_1 kk367 (c5_next hs h1 h2 hl hp ht) ?_
  refine g_iload_1 (pc := 4) C dX5_takeSign_4 ?_
  refine g_icmp_eq (pc := 5) (tgt := 10) C dX5_takeSign_5 (by decide) (fun c5 => ?_) (fun c5 => ?_)
  · refine g_aload_0 (pc := 10) C dX5_takeSign_10 ?_
    refine g_dup (pc := 11) C dX5_takeSign_11 rfl ?_
    refine g_geti (pc := 12) C fl_X5_takeSign_19 kk367 dX5_takeSign_12 ?_
    rw [h2]
    refine g_iconst (pc := 15) (v := 1) C dX5_takeSign_15 rfl ?_
    refine g_iadd (pc := 16) C dX5_takeSign_16 ?_
    rw [nI_1]
    refine g_puti (pc := 17) C pf_X5_takeSign_19 kk367 dX5_takeSign_17 ?_
    refine g_iconst (pc := 20) (v := 1) C dX5_takeSign_20 rfl ?_
    exact g_zret (post := qi 1 (up M 367 (up (M 367) 2 (nI (p + 1)))) P) C F dX5_takeSign_21 (by first | exact Or.inl rfl | exact Or.inr rfl) ⟨rfl, rfl, rfl⟩
  · exact absurd hx c5

set_option maxRecDepth 100000 in
set_option maxHeartbeats 1000000 in
theorem c5_digitN {l : Launch} {D : va_G} {cy : Nat → ClassId} {B : Nat} {M : MM} {P : PP} {t : FF} {len p : Nat} (hs : rr P 367 0 368) (h1 : M 367 1 = nI len) (h2 : M 367 2 = nI p) (hl : len ≤ 60) (hp : p ≤ len) (ht : ∀ i, i < len → M 368 i = t i) {x y : Int32} (hx : ¬ (x ≤ (if p < len then t p else -1) - 48 ∧ (if p < len then t p else -1) - 48 ≤ y)) : KI l D cy B yX5_takeDigit wsX5_takeDigit 1 22 [Value.ref (B + 367), Value.int x, Value.int y] M P (qi (-1) M P) := by
  refine met_KI (cc := cX5_takeDigit) (maxL := 4) (ret := (some .int)) (lv := [some (Value.ref (B + 367)), some (Value.int x), some (Value.int y), none]) (by decide) rfl rfl rfl (Nat.le_of_ble_eq_true rfl) ?_
  intro X C F
  refine g_aload_0 (pc := 0) C dX5_takeDigit_0 ?_
  refine g_V0ie (pc := 1) C e_X5_takeDigit_53 (Nat.le_of_ble_eq_true rfl) rfl dX5_takeDigit_1 kk367 (c5_next hs h1 h2 hl hp ht) ?_
  refine g_bipush (pc := 4) (v := 48) C dX5_takeDigit_4 rfl ?_
  refine g_isub (pc := 6) C dX5_takeDigit_6 ?_
  refine g_istore_3 (pc := 7) C dX5_takeDigit_7 ?_
  refine g_iload_3 (pc := 8) C dX5_takeDigit_8 ?_
  refine g_iload_1 (pc := 9) C dX5_takeDigit_9 ?_
  refine g_iload_2 (pc := 10) C dX5_takeDigit_10 ?_
  refine g_N3ie (pc := 11) C e_X5_takeDigit_57 (Nat.le_of_ble_eq_true rfl) rfl dX5_takeDigit_11 (c_outside) ?_
  refine g_if_eq (pc := 14) (tgt := 19) C dX5_takeDigit_14 (by decide) (fun c14 => ?_) (fun c14 => ?_)
  · exact absurd (io (if0 c14)) hx
  · refine g_iconst (pc := 17) (v := -1) C dX5_takeDigit_17 rfl ?_
    exact g_iret (post := qi (-1) M P) C F dX5_takeDigit_18 ⟨rfl, rfl, rfl⟩

set_option maxRecDepth 100000 in
set_option maxHeartbeats 1000000 in
theorem c5_digitS {l : Launch} {D : va_G} {cy : Nat → ClassId} {B : Nat} {M : MM} {P : PP} {t : FF} {len p : Nat} (hs : rr P 367 0 368) (h1 : M 367 1 = nI len) (h2 : M 367 2 = nI p) (hl : len ≤ 60) (hp : p ≤ len) (ht : ∀ i, i < len → M 368 i = t i) {x y : Int32} (hx : x ≤ (if p < len then t p else -1) - 48 ∧ (if p < len then t p else -1) - 48 ≤ y) : KI l D cy B yX5_takeDigit wsX5_takeDigit 1 22 [Value.ref (B + 367), Value.int x, Value.int y] M P (qi ((if p < len then t p else -1) - 48) (up M 367 (up (M 367) 2 (nI (p + 1)))) P) := by
  refine met_KI (cc := cX5_takeDigit) (maxL := 4) (ret := (some .int)) (lv := [some (Value.ref (B + 367)), some (Value.int x), some (Value.int y), none]) (by decide) rfl rfl rfl (Nat.le_of_ble_eq_true rfl) ?_
  intro X C F
  refine g_aload_0 (pc := 0) C dX5_takeDigit_0 ?_
  refine g_V0ie (pc := 1) C e_X5_takeDigit_53 (Nat.le_of_ble_eq_true rfl) rfl dX5_takeDigit_1 kk367 (c5_next hs h1 h2 hl hp ht) ?_
  refine g_bipush (pc := 4) (v := 48) C dX5_takeDigit_4 rfl ?_
  refine g_isub (pc := 6) C dX5_takeDigit_6 ?_
  refine g_istore_3 (pc := 7) C dX5_takeDigit_7 ?_
  refine g_iload_3 (pc := 8) C dX5_takeDigit_8 ?_
  refine g_iload_1 (pc := 9) C dX5_takeDigit_9 ?_
  refine g_iload_2 (pc := 10) C dX5_takeDigit_10 ?_
  refine g_N3ie (pc := 11) C e_X5_takeDigit_57 (Nat.le_of_ble_eq_true rfl) rfl dX5_takeDigit_11 (c_outside) ?_
  refine g_if_eq (pc := 14) (tgt := 19) C dX5_takeDigit_14 (by decide) (fun c14 => ?_) (fun c14 => ?_)
  · refine g_aload_0 (pc := 19) C dX5_takeDigit_19 ?_
    refine g_dup (pc := 20) C dX5_takeDigit_20 rfl ?_
    refine g_geti (pc := 21) C fl_X5_takeDigit_19 kk367 dX5_takeDigit_21 ?_
    rw [h2]
    refine g_iconst (pc := 24) (v := 1) C dX5_takeDigit_24 rfl ?_
    refine g_iadd (pc := 25) C dX5_takeDigit_25 ?_
    rw [nI_1]
    refine g_puti (pc := 26) C pf_X5_takeDigit_19 kk367 dX5_takeDigit_26 ?_
    refine g_iload_3 (pc := 29) C dX5_takeDigit_29 ?_
    exact g_iret (post := qi ((if p < len then t p else -1) - 48) (up M 367 (up (M 367) 2 (nI (p + 1)))) P) C F dX5_takeDigit_30 ⟨rfl, rfl, rfl⟩
  · exact absurd hx (oi (if1 c14))

set_option maxRecDepth 100000 in
set_option maxHeartbeats 1000000 in
theorem c7_sign {l : Launch} {D : va_G} {cy : Nat → ClassId} {B : Nat} {M : MM} {P : PP} {t : FF} {len p : Nat} (hm : PMd P) (h1 : M 369 8 = nI len) (h2 : M 369 9 = nI p) (hl : len ≤ 60) (hp : p ≤ len) (ht : ∀ i, i < len → M 374 i = t i) : KI l D cy B yX7_sign wsX7_sign 0 0 [Value.ref (B + 369)] M P (qi (if p < len then t p else 0) M P) := by
  refine met_KI (cc := cX7_sign) (maxL := 1) (ret := (some .int)) (lv := [some (Value.ref (B + 369))]) (by decide) rfl rfl rfl (Nat.le_of_ble_eq_true rfl) ?_
  intro X C F
  refine g_aload_0 (pc := 0) C dX7_sign_0 ?_
  refine g_geti (pc := 1) C fl_X7_sign_158 kk369 dX7_sign_1 ?_
  rw [h2]
  refine g_aload_0 (pc := 4) C dX7_sign_4 ?_
  refine g_geti (pc := 5) C fl_X7_sign_155 kk369 dX7_sign_5 ?_
  rw [h1]
  refine g_icmp_ge (pc := 8) (tgt := 23) C dX7_sign_8 (by decide) (fun c8 => ?_) (fun c8 => ?_)
  · have e : len ≤ p := i_le (by omega) (by omega) c8
    refine g_iconst (pc := 23) (v := 0) C dX7_sign_23 rfl ?_
    exact g_iret (post := qi (if p < len then t p else 0) M P) C F dX7_sign_24 ⟨(if_neg (by omega)).symm, rfl, rfl⟩
  · have e : p < len := i_nle (by omega) (by omega) c8
    refine g_aload_0 (pc := 11) C dX7_sign_11 ?_
    refine g_getr (pc := 12) C hm.text fl_X7_sign_22 kk369 dX7_sign_12 ?_
    refine g_aload_0 (pc := 15) C dX7_sign_15 ?_
    refine g_geti (pc := 16) C fl_X7_sign_158 kk369 dX7_sign_16 ?_
    rw [h2]
    refine g_iald (pc := 19) (j := p) C kk374 rfl ln374 (by omega) dX7_sign_19 ?_
    rw [ht p e]
    refine g_goto (pc := 20) (tgt := 24) C dX7_sign_20 (by decide) ?_
    exact g_iret (post := qi (if p < len then t p else 0) M P) C F dX7_sign_24 ⟨(if_pos e).symm, rfl, rfl⟩
