/-- the sign at a place, as the reference tells it -/
abbrev sm0 (t : FF) (len p : Nat) : Int32 := if p < len then t p else 0
theorem wl_self {M : MM} {p : Nat} {b : Int32} (hb : M 369 10 = b) (h2 : M 369 9 = nI p) : up M 369 (up (up (M 369) 10 b) 9 (nI p)) = M := by
  funext a
  by_cases e : a = 369
  · subst e
    rw [up_same]
    funext j
    by_cases g : j = 9
    · rw [g, up_same, h2]
    · rw [up_ne _ _ g]
      by_cases g2 : j = 10
      · rw [g2, up_same, hb]
      · rw [up_ne _ _ g2]
  · rw [up_ne _ _ e]

set_option maxRecDepth 100000 in
set_option maxHeartbeats 1000000 in
theorem c7_asksS {l : Launch} {D : va_G} {cy : Nat → ClassId} {B : Nat} {M : MM} {P : PP} {t : FF} {len p : Nat} (hm : PMd P) (h1 : M 369 8 = nI len) (h2 : M 369 9 = nI p) (hl : len ≤ 60) (hp : p ≤ len) (ht : ∀ i, i < len → M 374 i = t i) {x : Int32} (hb : M 369 10 = 1) (hx : sm0 t len p = x) : KV l D cy B yX7_asks wsX7_asks 1 20 [Value.ref (B + 369), Value.int x] M P (qv (up M 369 (up (up (M 369) 10 1) 9 (nI (p + 1)))) P) := by
  refine met_KV (cc := cX7_asks) (maxL := 2) (ret := none) (lv := [some (Value.ref (B + 369)), some (Value.int x)]) (by decide) rfl rfl rfl (Nat.le_of_ble_eq_true rfl) ?_
  intro X C F
  refine g_aload_0 (pc := 0) C dX7_asks_0 ?_
  refine g_aload_0 (pc := 1) C dX7_asks_1 ?_
  refine g_getz (pc := 2) C fl_X7_asks_161 kk369 dX7_asks_2 ?_
  rw [hb]
  refine g_if_eq (pc := 5) (tgt := 20) C dX7_asks_5 (by decide) (fun c5 => ?_) (fun c5 => ?_)
  · exact absurd c5 (by decide)
  · refine g_aload_0 (pc := 8) C dX7_asks_8 ?_
    refine g_V0ie (pc := 9) C e_X7_asks_165 (Nat.le_of_ble_eq_true rfl) rfl dX7_asks_9 kk369 (c7_sign hm h1 h2 hl hp ht) ?_
    refine g_iload_1 (pc := 12) C dX7_asks_12 ?_
    refine g_icmp_ne (pc := 13) (tgt := 20) C dX7_asks_13 (by decide) (fun c13 => ?_) (fun c13 => ?_)
    · exact absurd hx c13
    · refine g_iconst (pc := 16) (v := 1) C dX7_asks_16 rfl ?_
      refine g_goto (pc := 17) (tgt := 21) C dX7_asks_17 (by decide) ?_
      refine g_putz (pc := 21) C (by first | exact Or.inl rfl | exact Or.inr rfl | assumption) pf_X7_asks_161 kk369 dX7_asks_21 ?_
      refine g_aload_0 (pc := 24) C dX7_asks_24 ?_
      refine g_dup (pc := 25) C dX7_asks_25 rfl ?_
      refine g_geti (pc := 26) C fl_X7_asks_158 kk369 dX7_asks_26 ?_
      rw [up_same, up_ne _ _ (by decide), h2]
      refine g_aload_0 (pc := 29) C dX7_asks_29 ?_
      refine g_getz (pc := 30) C fl_X7_asks_161 kk369 dX7_asks_30 ?_
      rw [up_same, up_same]
      refine g_if_eq (pc := 33) (tgt := 40) C dX7_asks_33 (by decide) (fun c33 => ?_) (fun c33 => ?_)
      · exact absurd c33 (by decide)
      · refine g_iconst (pc := 36) (v := 1) C dX7_asks_36 rfl ?_
        refine g_goto (pc := 37) (tgt := 41) C dX7_asks_37 (by decide) ?_
        refine g_iadd (pc := 41) C dX7_asks_41 ?_
        rw [nI_1]
        refine g_puti (pc := 42) C pf_X7_asks_158 kk369 dX7_asks_42 ?_
        exact g_vret (post := qv (up M 369 (up (up (M 369) 10 1) 9 (nI (p + 1)))) P) C F dX7_asks_45 ⟨by simp only [up_same, up_up], rfl⟩

set_option maxRecDepth 100000 in
set_option maxHeartbeats 1000000 in
theorem c7_asksN {l : Launch} {D : va_G} {cy : Nat → ClassId} {B : Nat} {M : MM} {P : PP} {t : FF} {len p : Nat} (hm : PMd P) (h1 : M 369 8 = nI len) (h2 : M 369 9 = nI p) (hl : len ≤ 60) (hp : p ≤ len) (ht : ∀ i, i < len → M 374 i = t i) {x : Int32} (hb : M 369 10 = 1) (hx : ¬ sm0 t len p = x) : KV l D cy B yX7_asks wsX7_asks 1 20 [Value.ref (B + 369), Value.int x] M P (qv (up M 369 (up (up (M 369) 10 0) 9 (nI p))) P) := by
  refine met_KV (cc := cX7_asks) (maxL := 2) (ret := none) (lv := [some (Value.ref (B + 369)), some (Value.int x)]) (by decide) rfl rfl rfl (Nat.le_of_ble_eq_true rfl) ?_
  intro X C F
  refine g_aload_0 (pc := 0) C dX7_asks_0 ?_
  refine g_aload_0 (pc := 1) C dX7_asks_1 ?_
  refine g_getz (pc := 2) C fl_X7_asks_161 kk369 dX7_asks_2 ?_
  rw [hb]
  refine g_if_eq (pc := 5) (tgt := 20) C dX7_asks_5 (by decide) (fun c5 => ?_) (fun c5 => ?_)
  · exact absurd c5 (by decide)
  · refine g_aload_0 (pc := 8) C dX7_asks_8 ?_
    refine g_V0ie (pc := 9) C e_X7_asks_165 (Nat.le_of_ble_eq_true rfl) rfl dX7_asks_9 kk369 (c7_sign hm h1 h2 hl hp ht) ?_
    refine g_iload_1 (pc := 12) C dX7_asks_12 ?_
    refine g_icmp_ne (pc := 13) (tgt := 20) C dX7_asks_13 (by decide) (fun c13 => ?_) (fun c13 => ?_)
    · refine g_iconst (pc := 20) (v := 0) C dX7_asks_20 rfl ?_
      refine g_putz (pc := 21) C (by first | exact Or.inl rfl | exact Or.inr rfl | assumption) pf_X7_asks_161 kk369 dX7_asks_21 ?_
      refine g_aload_0 (pc := 24) C dX7_asks_24 ?_
      refine g_dup (pc := 25) C dX7_asks_25 rfl ?_
      refine g_geti (pc := 26) C fl_X7_asks_158 kk369 dX7_asks_26 ?_
      rw [up_same, up_ne _ _ (by decide), h2]
      refine g_aload_0 (pc := 29) C dX7_asks_29 ?_
      refine g_getz (pc := 30) C fl_X7_asks_161 kk369 dX7_asks_30 ?_
      rw [up_same, up_same]
      refine g_if_eq (pc := 33) (tgt := 40) C dX7_asks_33 (by decide) (fun c33 => ?_) (fun c33 => ?_)
      · refine g_iconst (pc := 40) (v := 0) C dX7_asks_40 rfl ?_
        refine g_iadd (pc := 41) C dX7_asks_41 ?_
        rw [z_add]
        refine g_puti (pc := 42) C pf_X7_asks_158 kk369 dX7_asks_42 ?_
        exact g_vret (post := qv (up M 369 (up (up (M 369) 10 0) 9 (nI p))) P) C F dX7_asks_45 ⟨by simp only [up_same, up_up], rfl⟩
      · exact absurd rfl c33
    · exact absurd c13 hx

set_option maxRecDepth 100000 in
set_option maxHeartbeats 1000000 in
theorem c7_asks0 {l : Launch} {D : va_G} {cy : Nat → ClassId} {B : Nat} {M : MM} {P : PP} {t : FF} {len p : Nat} (hm : PMd P) (h1 : M 369 8 = nI len) (h2 : M 369 9 = nI p) (hl : len ≤ 60) (hp : p ≤ len) (ht : ∀ i, i < len → M 374 i = t i) {x : Int32} (hb : M 369 10 = 0) : KV l D cy B yX7_asks wsX7_asks 1 20 [Value.ref (B + 369), Value.int x] M P (qv (up M 369 (up (up (M 369) 10 0) 9 (nI p))) P) := by
  refine met_KV (cc := cX7_asks) (maxL := 2) (ret := none) (lv := [some (Value.ref (B + 369)), some (Value.int x)]) (by decide) rfl rfl rfl (Nat.le_of_ble_eq_true rfl) ?_
  intro X C F
  refine g_aload_0 (pc := 0) C dX7_asks_0 ?_
  refine g_aload_0 (pc := 1) C dX7_asks_1 ?_
  refine g_getz (pc := 2) C fl_X7_asks_161 kk369 dX7_asks_2 ?_
  rw [hb]
  refine g_if_eq (pc := 5) (tgt := 20) C dX7_asks_5 (by decide) (fun c5 => ?_) (fun c5 => ?_)
  · refine g_iconst (pc := 20) (v := 0) C dX7_asks_20 rfl ?_
    refine g_putz (pc := 21) C (by first | exact Or.inl rfl | exact Or.inr rfl | assumption) pf_X7_asks_161 kk369 dX7_asks_21 ?_
    refine g_aload_0 (pc := 24) C dX7_asks_24 ?_
    refine g_dup (pc := 25) C dX7_asks_25 rfl ?_
    refine g_geti (pc := 26) C fl_X7_asks_158 kk369 dX7_asks_26 ?_
    rw [up_same, up_ne _ _ (by decide), h2]
    refine g_aload_0 (pc := 29) C dX7_asks_29 ?_
    refine g_getz (pc := 30) C fl_X7_asks_161 kk369 dX7_asks_30 ?_
    rw [up_same, up_same]
    refine g_if_eq (pc := 33) (tgt := 40) C dX7_asks_33 (by decide) (fun c33 => ?_) (fun c33 => ?_)
    · refine g_iconst (pc := 40) (v := 0) C dX7_asks_40 rfl ?_
      refine g_iadd (pc := 41) C dX7_asks_41 ?_
      rw [z_add]
      refine g_puti (pc := 42) C pf_X7_asks_158 kk369 dX7_asks_42 ?_
      exact g_vret (post := qv (up M 369 (up (up (M 369) 10 0) 9 (nI p))) P) C F dX7_asks_45 ⟨by simp only [up_same, up_up], rfl⟩
    · exact absurd rfl c33
  · exact absurd rfl c5

set_option maxRecDepth 100000 in
set_option maxHeartbeats 1000000 in
theorem c7_digitS {l : Launch} {D : va_G} {cy : Nat → ClassId} {B : Nat} {M : MM} {P : PP} {t : FF} {len p : Nat} (hm : PMd P) (h1 : M 369 8 = nI len) (h2 : M 369 9 = nI p) (hl : len ≤ 60) (hp : p ≤ len) (ht : ∀ i, i < len → M 374 i = t i) (hb : M 369 10 = 1) (hx : 48 ≤ sm0 t len p ∧ sm0 t len p ≤ 53) : KI l D cy B yX7_digit wsX7_digit 1 22 [Value.ref (B + 369)] M P (qi (sm0 t len p - 48) (up M 369 (up (up (M 369) 10 1) 9 (nI (p + 1)))) P) := by
  refine met_KI (cc := cX7_digit) (maxL := 2) (ret := (some .int)) (lv := [some (Value.ref (B + 369)), none]) (by decide) rfl rfl rfl (Nat.le_of_ble_eq_true rfl) ?_
  intro X C F
  refine g_aload_0 (pc := 0) C dX7_digit_0 ?_
  refine g_aload_0 (pc := 1) C dX7_digit_1 ?_
  refine g_getz (pc := 2) C fl_X7_digit_161 kk369 dX7_digit_2 ?_
  rw [hb]
  refine g_if_eq (pc := 5) (tgt := 26) C dX7_digit_5 (by decide) (fun c5 => ?_) (fun c5 => ?_)
  · exact absurd c5 (by decide)
  · refine g_aload_0 (pc := 8) C dX7_digit_8 ?_
    refine g_V0ie (pc := 9) C e_X7_digit_165 (Nat.le_of_ble_eq_true rfl) rfl dX7_digit_9 kk369 (c7_sign hm h1 h2 hl hp ht) ?_
    refine g_bipush (pc := 12) (v := 48) C dX7_digit_12 rfl ?_
    refine g_bipush (pc := 14) (v := 53) C dX7_digit_14 rfl ?_
    refine g_S3ie (pc := 16) C e_X7_digit_32 (Nat.le_of_ble_eq_true rfl) rfl dX7_digit_16 (c7_in) ?_
    refine g_if_eq (pc := 19) (tgt := 26) C dX7_digit_19 (by decide) (fun c19 => ?_) (fun c19 => ?_)
    · exact absurd hx (if0 c19)
    · refine g_iconst (pc := 22) (v := 1) C dX7_digit_22 rfl ?_
      refine g_goto (pc := 23) (tgt := 27) C dX7_digit_23 (by decide) ?_
      refine g_putz (pc := 27) C (by first | exact Or.inl rfl | exact Or.inr rfl | assumption) pf_X7_digit_161 kk369 dX7_digit_27 ?_
      refine g_aload_0 (pc := 30) C dX7_digit_30 ?_
      refine g_V0ie (pc := 31) C e_X7_digit_165 (Nat.le_of_ble_eq_true rfl) rfl dX7_digit_31 kk369 (c7_sign (t := t) (len := len) hm (by rw [up_same, up_ne _ _ (by decide)]; exact h1) (by rw [up_same, up_ne _ _ (by decide)]; exact h2) hl hp (fun i hi => by rw [up_ne _ _ (by decide)]; exact ht i hi)) ?_
      refine g_bipush (pc := 34) (v := 48) C dX7_digit_34 rfl ?_
      refine g_isub (pc := 36) C dX7_digit_36 ?_
      refine g_istore_1 (pc := 37) C dX7_digit_37 ?_
      refine g_aload_0 (pc := 38) C dX7_digit_38 ?_
      refine g_dup (pc := 39) C dX7_digit_39 rfl ?_
      refine g_geti (pc := 40) C fl_X7_digit_158 kk369 dX7_digit_40 ?_
      rw [up_same, up_ne _ _ (by decide), h2]
      refine g_aload_0 (pc := 43) C dX7_digit_43 ?_
      refine g_getz (pc := 44) C fl_X7_digit_161 kk369 dX7_digit_44 ?_
      rw [up_same, up_same]
      refine g_if_eq (pc := 47) (tgt := 54) C dX7_digit_47 (by decide) (fun c47 => ?_) (fun c47 => ?_)
      · exact absurd c47 (by decide)
      · refine g_iconst (pc := 50) (v := 1) C dX7_digit_50 rfl ?_
        refine g_goto (pc := 51) (tgt := 55) C dX7_digit_51 (by decide) ?_
        refine g_iadd (pc := 55) C dX7_digit_55 ?_
        rw [nI_1]
        refine g_puti (pc := 56) C pf_X7_digit_158 kk369 dX7_digit_56 ?_
        refine g_iload_1 (pc := 59) C dX7_digit_59 ?_
        exact g_iret (post := qi (sm0 t len p - 48) (up M 369 (up (up (M 369) 10 1) 9 (nI (p + 1)))) P) C F dX7_digit_60 ⟨rfl, by simp only [up_same, up_up], rfl⟩

set_option maxRecDepth 100000 in
set_option maxHeartbeats 1000000 in
theorem c7_digitN {l : Launch} {D : va_G} {cy : Nat → ClassId} {B : Nat} {M : MM} {P : PP} {t : FF} {len p : Nat} (hm : PMd P) (h1 : M 369 8 = nI len) (h2 : M 369 9 = nI p) (hl : len ≤ 60) (hp : p ≤ len) (ht : ∀ i, i < len → M 374 i = t i) (hb : M 369 10 = 1) (hx : ¬ (48 ≤ sm0 t len p ∧ sm0 t len p ≤ 53)) : KI l D cy B yX7_digit wsX7_digit 1 22 [Value.ref (B + 369)] M P (qi (sm0 t len p - 48) (up M 369 (up (up (M 369) 10 0) 9 (nI p))) P) := by
  refine met_KI (cc := cX7_digit) (maxL := 2) (ret := (some .int)) (lv := [some (Value.ref (B + 369)), none]) (by decide) rfl rfl rfl (Nat.le_of_ble_eq_true rfl) ?_
  intro X C F
  refine g_aload_0 (pc := 0) C dX7_digit_0 ?_
  refine g_aload_0 (pc := 1) C dX7_digit_1 ?_
  refine g_getz (pc := 2) C fl_X7_digit_161 kk369 dX7_digit_2 ?_
  rw [hb]
  refine g_if_eq (pc := 5) (tgt := 26) C dX7_digit_5 (by decide) (fun c5 => ?_) (fun c5 => ?_)
  · exact absurd c5 (by decide)
  · refine g_aload_0 (pc := 8) C dX7_digit_8 ?_
    refine g_V0ie (pc := 9) C e_X7_digit_165 (Nat.le_of_ble_eq_true rfl) rfl dX7_digit_9 kk369 (c7_sign hm h1 h2 hl hp ht) ?_
    refine g_bipush (pc := 12) (v := 48) C dX7_digit_12 rfl ?_
    refine g_bipush (pc := 14) (v := 53) C dX7_digit_14 rfl ?_
    refine g_S3ie (pc := 16) C e_X7_digit_32 (Nat.le_of_ble_eq_true rfl) rfl dX7_digit_16 (c7_in) ?_
    refine g_if_eq (pc := 19) (tgt := 26) C dX7_digit_19 (by decide) (fun c19 => ?_) (fun c19 => ?_)
    · refine g_iconst (pc := 26) (v := 0) C dX7_digit_26 rfl ?_
      refine g_putz (pc := 27) C (by first | exact Or.inl rfl | exact Or.inr rfl | assumption) pf_X7_digit_161 kk369 dX7_digit_27 ?_
      refine g_aload_0 (pc := 30) C dX7_digit_30 ?_
      refine g_V0ie (pc := 31) C e_X7_digit_165 (Nat.le_of_ble_eq_true rfl) rfl dX7_digit_31 kk369 (c7_sign (t := t) (len := len) hm (by rw [up_same, up_ne _ _ (by decide)]; exact h1) (by rw [up_same, up_ne _ _ (by decide)]; exact h2) hl hp (fun i hi => by rw [up_ne _ _ (by decide)]; exact ht i hi)) ?_
      refine g_bipush (pc := 34) (v := 48) C dX7_digit_34 rfl ?_
      refine g_isub (pc := 36) C dX7_digit_36 ?_
      refine g_istore_1 (pc := 37) C dX7_digit_37 ?_
      refine g_aload_0 (pc := 38) C dX7_digit_38 ?_
      refine g_dup (pc := 39) C dX7_digit_39 rfl ?_
      refine g_geti (pc := 40) C fl_X7_digit_158 kk369 dX7_digit_40 ?_
      rw [up_same, up_ne _ _ (by decide), h2]
      refine g_aload_0 (pc := 43) C dX7_digit_43 ?_
      refine g_getz (pc := 44) C fl_X7_digit_161 kk369 dX7_digit_44 ?_
      rw [up_same, up_same]
      refine g_if_eq (pc := 47) (tgt := 54) C dX7_digit_47 (by decide) (fun c47 => ?_) (fun c47 => ?_)
      · refine g_iconst (pc := 54) (v := 0) C dX7_digit_54 rfl ?_
        refine g_iadd (pc := 55) C dX7_digit_55 ?_
        rw [z_add]
        refine g_puti (pc := 56) C pf_X7_digit_158 kk369 dX7_digit_56 ?_
        refine g_iload_1 (pc := 59) C dX7_digit_59 ?_
        exact g_iret (post := qi (sm0 t len p - 48) (up M 369 (up (up (M 369) 10 0) 9 (nI p))) P) C F dX7_digit_60 ⟨rfl, by simp only [up_same, up_up], rfl⟩
      · exact absurd rfl c47
    · exact absurd (if1 c19) hx

set_option maxRecDepth 100000 in
set_option maxHeartbeats 1000000 in
theorem c7_digit0 {l : Launch} {D : va_G} {cy : Nat → ClassId} {B : Nat} {M : MM} {P : PP} {t : FF} {len p : Nat} (hm : PMd P) (h1 : M 369 8 = nI len) (h2 : M 369 9 = nI p) (hl : len ≤ 60) (hp : p ≤ len) (ht : ∀ i, i < len → M 374 i = t i) (hb : M 369 10 = 0) : KI l D cy B yX7_digit wsX7_digit 1 22 [Value.ref (B + 369)] M P (qi (sm0 t len p - 48) (up M 369 (up (up (M 369) 10 0) 9 (nI p))) P) := by
  refine met_KI (cc := cX7_digit) (maxL := 2) (ret := (some .int)) (lv := [some (Value.ref (B + 369)), none]) (by decide) rfl rfl rfl (Nat.le_of_ble_eq_true rfl) ?_
  intro X C F
  refine g_aload_0 (pc := 0) C dX7_digit_0 ?_
  refine g_aload_0 (pc := 1) C dX7_digit_1 ?_
  refine g_getz (pc := 2) C fl_X7_digit_161 kk369 dX7_digit_2 ?_
  rw [hb]
  refine g_if_eq (pc := 5) (tgt := 26) C dX7_digit_5 (by decide) (fun c5 => ?_) (fun c5 => ?_)
  · refine g_iconst (pc := 26) (v := 0) C dX7_digit_26 rfl ?_
    refine g_putz (pc := 27) C (by first | exact Or.inl rfl | exact Or.inr rfl | assumption) pf_X7_digit_161 kk369 dX7_digit_27 ?_
    refine g_aload_0 (pc := 30) C dX7_digit_30 ?_
    refine g_V0ie (pc := 31) C e_X7_digit_165 (Nat.le_of_ble_eq_true rfl) rfl dX7_digit_31 kk369 (c7_sign (t := t) (len := len) hm (by rw [up_same, up_ne _ _ (by decide)]; exact h1) (by rw [up_same, up_ne _ _ (by decide)]; exact h2) hl hp (fun i hi => by rw [up_ne _ _ (by decide)]; exact ht i hi)) ?_
    refine g_bipush (pc := 34) (v := 48) C dX7_digit_34 rfl ?_
    refine g_isub (pc := 36) C dX7_digit_36 ?_
    refine g_istore_1 (pc := 37) C dX7_digit_37 ?_
    refine g_aload_0 (pc := 38) C dX7_digit_38 ?_
    refine g_dup (pc := 39) C dX7_digit_39 rfl ?_
    refine g_geti (pc := 40) C fl_X7_digit_158 kk369 dX7_digit_40 ?_
    rw [up_same, up_ne _ _ (by decide), h2]
    refine g_aload_0 (pc := 43) C dX7_digit_43 ?_
    refine g_getz (pc := 44) C fl_X7_digit_161 kk369 dX7_digit_44 ?_
    rw [up_same, up_same]
    refine g_if_eq (pc := 47) (tgt := 54) C dX7_digit_47 (by decide) (fun c47 => ?_) (fun c47 => ?_)
    · refine g_iconst (pc := 54) (v := 0) C dX7_digit_54 rfl ?_
      refine g_iadd (pc := 55) C dX7_digit_55 ?_
      rw [z_add]
      refine g_puti (pc := 56) C pf_X7_digit_158 kk369 dX7_digit_56 ?_
      refine g_iload_1 (pc := 59) C dX7_digit_59 ?_
      exact g_iret (post := qi (sm0 t len p - 48) (up M 369 (up (up (M 369) 10 0) 9 (nI p))) P) C F dX7_digit_60 ⟨rfl, by simp only [up_same, up_up], rfl⟩
    · exact absurd rfl c47
  · exact absurd rfl c5
