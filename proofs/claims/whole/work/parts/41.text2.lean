/-- the sign at a place, as the class tells it -/
abbrev sg (t : FF) (len p : Nat) : Int32 := if p < len then t p else -1
theorem d_ne {x s : Int32} (h : 0 ≤ s) : s ≠ -1 := fun e => by
  rw [e] at h
  exact absurd h (by decide)
theorem d_pos {s : Int32} (h : 1 ≤ s) : 0 ≤ s := Int32.le_trans (by decide) h
/-- the most that the second figure may be -/
abbrev mxF (m d : Int32) : Int32 := if m - 10 * d < 9 then m - 10 * d else 9
/-- a number up to m, read from the place p on; none, or the number and the next place -/
def pNum (t : FF) (len p : Nat) (m : Int32) : Option (Int32 × Nat) := if 1 ≤ sg t len p - 48 ∧ sg t len p - 48 ≤ 9 then (if 0 ≤ sg t len (p + 1) - 48 ∧ sg t len (p + 1) - 48 ≤ mxF m (sg t len p - 48) then some (10 * (sg t len p - 48) + (sg t len (p + 1) - 48), p + 2) else some (sg t len p - 48, p + 1)) else none
theorem sg_lt {t : FF} {len p : Nat} (h : 0 ≤ sg t len p - 48) : p < len := by
  rcases Nat.lt_or_ge p len with z | z
  · exact z
  · unfold sg at h
    rw [if_neg (by omega)] at h
    exact absurd h (by decide)

set_option maxRecDepth 100000 in
set_option maxHeartbeats 1000000 in
theorem c5_numberN {l : Launch} {D : va_G} {cy : Nat → ClassId} {B : Nat} {M : MM} {P : PP} {t : FF} {len p : Nat} (hs : rr P 367 0 368) (h1 : M 367 1 = nI len) (h2 : M 367 2 = nI p) (hl : len ≤ 60) (hp : p ≤ len) (ht : ∀ i, i < len → M 368 i = t i) {m : Int32} (hx : ¬ (1 ≤ sg t len p - 48 ∧ sg t len p - 48 ≤ 9)) : KI l D cy B yX5_takeNumber wsX5_takeNumber 2 45 [Value.ref (B + 367), Value.int m] M P (qi (-1) M P) := by
  refine met_KI (cc := cX5_takeNumber) (maxL := 4) (ret := (some .int)) (lv := [some (Value.ref (B + 367)), some (Value.int m), none, none]) (by decide) rfl rfl rfl (Nat.le_of_ble_eq_true rfl) ?_
  intro X C F
  refine g_aload_0 (pc := 0) C dX5_takeNumber_0 ?_
  refine g_iconst (pc := 1) (v := 1) C dX5_takeNumber_1 rfl ?_
  refine g_bipush (pc := 2) (v := 9) C dX5_takeNumber_2 rfl ?_
  refine g_V2ie (pc := 4) C e_X5_takeNumber_33 (Nat.le_of_ble_eq_true rfl) rfl dX5_takeNumber_4 kk367 (c5_digitN hs h1 h2 hl hp ht hx) ?_
  refine g_istore_2 (pc := 7) C dX5_takeNumber_7 ?_
  refine g_iload_2 (pc := 8) C dX5_takeNumber_8 ?_
  refine g_iconst (pc := 9) (v := -1) C dX5_takeNumber_9 rfl ?_
  refine g_icmp_ne (pc := 10) (tgt := 15) C dX5_takeNumber_10 (by decide) (fun c10 => ?_) (fun c10 => ?_)
  · exact absurd rfl c10
  · refine g_iconst (pc := 13) (v := -1) C dX5_takeNumber_13 rfl ?_
    exact g_iret (post := qi (-1) M P) C F dX5_takeNumber_14 ⟨rfl, rfl, rfl⟩

set_option maxRecDepth 100000 in
set_option maxHeartbeats 1000000 in
theorem c5_number1 {l : Launch} {D : va_G} {cy : Nat → ClassId} {B : Nat} {M : MM} {P : PP} {t : FF} {len p : Nat} (hs : rr P 367 0 368) (h1 : M 367 1 = nI len) (h2 : M 367 2 = nI p) (hl : len ≤ 60) (hp : p ≤ len) (ht : ∀ i, i < len → M 368 i = t i) {m : Int32} (hx : 1 ≤ sg t len p - 48 ∧ sg t len p - 48 ≤ 9) (hy : ¬ (0 ≤ sg t len (p + 1) - 48 ∧ sg t len (p + 1) - 48 ≤ mxF m (sg t len p - 48))) : KI l D cy B yX5_takeNumber wsX5_takeNumber 2 45 [Value.ref (B + 367), Value.int m] M P (qi (sg t len p - 48) (up M 367 (up (M 367) 2 (nI (p + 1)))) P) := by
  refine met_KI (cc := cX5_takeNumber) (maxL := 4) (ret := (some .int)) (lv := [some (Value.ref (B + 367)), some (Value.int m), none, none]) (by decide) rfl rfl rfl (Nat.le_of_ble_eq_true rfl) ?_
  intro X C F
  have hpl := sg_lt (d_pos hx.1)
  refine g_aload_0 (pc := 0) C dX5_takeNumber_0 ?_
  refine g_iconst (pc := 1) (v := 1) C dX5_takeNumber_1 rfl ?_
  refine g_bipush (pc := 2) (v := 9) C dX5_takeNumber_2 rfl ?_
  refine g_V2ie (pc := 4) C e_X5_takeNumber_33 (Nat.le_of_ble_eq_true rfl) rfl dX5_takeNumber_4 kk367 (c5_digitS hs h1 h2 hl hp ht hx) ?_
  refine g_istore_2 (pc := 7) C dX5_takeNumber_7 ?_
  refine g_iload_2 (pc := 8) C dX5_takeNumber_8 ?_
  refine g_iconst (pc := 9) (v := -1) C dX5_takeNumber_9 rfl ?_
  refine g_icmp_ne (pc := 10) (tgt := 15) C dX5_takeNumber_10 (by decide) (fun c10 => ?_) (fun c10 => ?_)
  · refine g_aload_0 (pc := 15) C dX5_takeNumber_15 ?_
    refine g_iconst (pc := 16) (v := 0) C dX5_takeNumber_16 rfl ?_
    refine g_bipush (pc := 17) (v := 9) C dX5_takeNumber_17 rfl ?_
    refine g_iload_1 (pc := 19) C dX5_takeNumber_19 ?_
    refine g_bipush (pc := 20) (v := 10) C dX5_takeNumber_20 rfl ?_
    refine g_iload_2 (pc := 22) C dX5_takeNumber_22 ?_
    refine g_imul (pc := 23) C dX5_takeNumber_23 ?_
    refine g_isub (pc := 24) C dX5_takeNumber_24 ?_
    refine g_mmin (pc := 25) C (List.mem_of_getElem? (i := 1) (by decide +kernel)) (List.mem_of_getElem? (i := 2) (by decide +kernel)) (List.mem_of_getElem? (i := 3) (by decide +kernel)) (List.mem_of_getElem? (i := 4) (by decide +kernel)) (Nat.le_of_ble_eq_true rfl) (Nat.le_of_ble_eq_true rfl) rfl (Nat.le_of_ble_eq_true rfl) (Nat.le_of_ble_eq_true rfl) dX5_takeNumber_25 ?_
    refine g_V2ie (pc := 28) C e_X5_takeNumber_33 (Nat.le_of_ble_eq_true rfl) rfl dX5_takeNumber_28 kk367 (c5_digitN hs (M := (up M 367 (up (M 367) 2 (nI (p + 1))))) (p := p + 1) (by rw [up_same, up_ne _ _ (by decide)]; exact h1) (by rw [up_same, up_same]) hl (by omega) (fun i hi => by rw [up_ne _ _ (by decide)]; exact ht i hi) hy) ?_
    refine g_istore_3 (pc := 31) C dX5_takeNumber_31 ?_
    refine g_iload_3 (pc := 32) C dX5_takeNumber_32 ?_
    refine g_iconst (pc := 33) (v := -1) C dX5_takeNumber_33 rfl ?_
    refine g_icmp_ne (pc := 34) (tgt := 41) C dX5_takeNumber_34 (by decide) (fun c34 => ?_) (fun c34 => ?_)
    · exact absurd rfl c34
    · refine g_iload_2 (pc := 37) C dX5_takeNumber_37 ?_
      refine g_goto (pc := 38) (tgt := 47) C dX5_takeNumber_38 (by decide) ?_
      exact g_iret (post := qi (sg t len p - 48) (up M 367 (up (M 367) 2 (nI (p + 1)))) P) C F dX5_takeNumber_47 ⟨rfl, rfl, rfl⟩
  · exact absurd c10 (d_ne (x := 0) (d_pos hx.1))

set_option maxRecDepth 100000 in
set_option maxHeartbeats 1000000 in
theorem c5_number2 {l : Launch} {D : va_G} {cy : Nat → ClassId} {B : Nat} {M : MM} {P : PP} {t : FF} {len p : Nat} (hs : rr P 367 0 368) (h1 : M 367 1 = nI len) (h2 : M 367 2 = nI p) (hl : len ≤ 60) (hp : p ≤ len) (ht : ∀ i, i < len → M 368 i = t i) {m : Int32} (hx : 1 ≤ sg t len p - 48 ∧ sg t len p - 48 ≤ 9) (hy : 0 ≤ sg t len (p + 1) - 48 ∧ sg t len (p + 1) - 48 ≤ mxF m (sg t len p - 48)) : KI l D cy B yX5_takeNumber wsX5_takeNumber 2 45 [Value.ref (B + 367), Value.int m] M P (qi (10 * (sg t len p - 48) + (sg t len (p + 1) - 48)) (up M 367 (up (M 367) 2 (nI (p + 2)))) P) := by
  refine met_KI (cc := cX5_takeNumber) (maxL := 4) (ret := (some .int)) (lv := [some (Value.ref (B + 367)), some (Value.int m), none, none]) (by decide) rfl rfl rfl (Nat.le_of_ble_eq_true rfl) ?_
  intro X C F
  have hpl := sg_lt (d_pos hx.1)
  have hpl2 := sg_lt hy.1
  refine g_aload_0 (pc := 0) C dX5_takeNumber_0 ?_
  refine g_iconst (pc := 1) (v := 1) C dX5_takeNumber_1 rfl ?_
  refine g_bipush (pc := 2) (v := 9) C dX5_takeNumber_2 rfl ?_
  refine g_V2ie (pc := 4) C e_X5_takeNumber_33 (Nat.le_of_ble_eq_true rfl) rfl dX5_takeNumber_4 kk367 (c5_digitS hs h1 h2 hl hp ht hx) ?_
  refine g_istore_2 (pc := 7) C dX5_takeNumber_7 ?_
  refine g_iload_2 (pc := 8) C dX5_takeNumber_8 ?_
  refine g_iconst (pc := 9) (v := -1) C dX5_takeNumber_9 rfl ?_
  refine g_icmp_ne (pc := 10) (tgt := 15) C dX5_takeNumber_10 (by decide) (fun c10 => ?_) (fun c10 => ?_)
  · refine g_aload_0 (pc := 15) C dX5_takeNumber_15 ?_
    refine g_iconst (pc := 16) (v := 0) C dX5_takeNumber_16 rfl ?_
    refine g_bipush (pc := 17) (v := 9) C dX5_takeNumber_17 rfl ?_
    refine g_iload_1 (pc := 19) C dX5_takeNumber_19 ?_
    refine g_bipush (pc := 20) (v := 10) C dX5_takeNumber_20 rfl ?_
    refine g_iload_2 (pc := 22) C dX5_takeNumber_22 ?_
    refine g_imul (pc := 23) C dX5_takeNumber_23 ?_
    refine g_isub (pc := 24) C dX5_takeNumber_24 ?_
    refine g_mmin (pc := 25) C (List.mem_of_getElem? (i := 1) (by decide +kernel)) (List.mem_of_getElem? (i := 2) (by decide +kernel)) (List.mem_of_getElem? (i := 3) (by decide +kernel)) (List.mem_of_getElem? (i := 4) (by decide +kernel)) (Nat.le_of_ble_eq_true rfl) (Nat.le_of_ble_eq_true rfl) rfl (Nat.le_of_ble_eq_true rfl) (Nat.le_of_ble_eq_true rfl) dX5_takeNumber_25 ?_
    refine g_V2ie (pc := 28) C e_X5_takeNumber_33 (Nat.le_of_ble_eq_true rfl) rfl dX5_takeNumber_28 kk367 (c5_digitS hs (M := (up M 367 (up (M 367) 2 (nI (p + 1))))) (p := p + 1) (by rw [up_same, up_ne _ _ (by decide)]; exact h1) (by rw [up_same, up_same]) hl (by omega) (fun i hi => by rw [up_ne _ _ (by decide)]; exact ht i hi) hy) ?_
    rw [up_up, up_same, up_up]
    refine g_istore_3 (pc := 31) C dX5_takeNumber_31 ?_
    refine g_iload_3 (pc := 32) C dX5_takeNumber_32 ?_
    refine g_iconst (pc := 33) (v := -1) C dX5_takeNumber_33 rfl ?_
    refine g_icmp_ne (pc := 34) (tgt := 41) C dX5_takeNumber_34 (by decide) (fun c34 => ?_) (fun c34 => ?_)
    · refine g_bipush (pc := 41) (v := 10) C dX5_takeNumber_41 rfl ?_
      refine g_iload_2 (pc := 43) C dX5_takeNumber_43 ?_
      refine g_imul (pc := 44) C dX5_takeNumber_44 ?_
      refine g_iload_3 (pc := 45) C dX5_takeNumber_45 ?_
      refine g_iadd (pc := 46) C dX5_takeNumber_46 ?_
      exact g_iret (post := qi (10 * (sg t len p - 48) + (sg t len (p + 1) - 48)) (up M 367 (up (M 367) 2 (nI (p + 2)))) P) C F dX5_takeNumber_47 ⟨rfl, rfl, rfl⟩
    · exact absurd c34 (d_ne (x := 0) hy.1)
  · exact absurd c10 (d_ne (x := 0) (d_pos hx.1))

theorem mx9 {s m d : Int32} (h : s ≤ mxF m d) : s ≤ 9 := by
  unfold mxF at h
  split at h
  · rename_i g
    exact Int32.le_trans h (Int32.le_of_lt g)
  · exact h
theorem num_pos {d s : Int32} (h1 : 1 ≤ d) (h2 : d ≤ 9) (h3 : 0 ≤ s) (h4 : s ≤ 9) : 0 ≤ 10 * d + s := by
  have h0 : ¬ d < 0 := Int32.not_lt.mpr (d_pos h1)
  have h5 : ¬ s < 0 := Int32.not_lt.mpr h3
  obtain ⟨a, ha, rfl⟩ := nI_of h0
  obtain ⟨b, hb, rfl⟩ := nI_of h5
  rw [show (10 : Int32) * nI a + nI b = nI (10 * a + b) from ix2 10 a b]
  have g1 := i_le (b := 9) ha (by decide) h2
  have g2 := i_le (b := 9) hb (by decide) h4
  exact nI_le (a := 0) (Nat.zero_le _) (by omega)

theorem c5_number {l : Launch} {D : va_G} {cy : Nat → ClassId} {B : Nat} {M : MM} {P : PP} {t : FF} {len p : Nat} (hs : rr P 367 0 368) (h1 : M 367 1 = nI len) (h2 : M 367 2 = nI p) (hl : len ≤ 60) (hp : p ≤ len) (ht : ∀ i, i < len → M 368 i = t i) {m : Int32} : KI l D cy B yX5_takeNumber wsX5_takeNumber 2 45 [Value.ref (B + 367), Value.int m] M P (fun r M1 P1 => P1 = P ∧ ((pNum t len p m = none ∧ r = -1 ∧ M1 = M) ∨ ∃ v q, pNum t len p m = some (v, q) ∧ q ≤ len ∧ p < q ∧ 0 ≤ v ∧ r = v ∧ M1 = up M 367 (up (M 367) 2 (nI q)))) := by
  by_cases hx : 1 ≤ sg t len p - 48 ∧ sg t len p - 48 ≤ 9
  · have hpl := sg_lt (d_pos hx.1)
    by_cases hy : 0 ≤ sg t len (p + 1) - 48 ∧ sg t len (p + 1) - 48 ≤ mxF m (sg t len p - 48)
    · have hpl2 := sg_lt hy.1
      have hv : 0 ≤ 10 * (sg t len p - 48) + (sg t len (p + 1) - 48) := num_pos hx.1 hx.2 hy.1 (mx9 hy.2)
      exact ki_post (c5_number2 hs h1 h2 hl hp ht hx hy) fun r M1 P1 ⟨g1, g2, g3⟩ => ⟨g3, Or.inr ⟨_, _, by rw [pNum, if_pos hx, if_pos hy], by omega, by omega, hv, g1, g2⟩⟩
    · exact ki_post (c5_number1 hs h1 h2 hl hp ht hx hy) fun r M1 P1 ⟨g1, g2, g3⟩ => ⟨g3, Or.inr ⟨_, _, by rw [pNum, if_pos hx, if_neg hy], by omega, by omega, d_pos hx.1, g1, g2⟩⟩
  · exact ki_post (c5_numberN hs h1 h2 hl hp ht hx) fun r M1 P1 ⟨g1, g2, g3⟩ => ⟨g3, Or.inl ⟨by rw [pNum, if_neg hx], g1, g2⟩⟩
