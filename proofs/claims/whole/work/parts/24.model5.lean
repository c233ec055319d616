/-- the reference's saved states -/
def HS (M : MM) (z : Nat) (hf : Nat → FF) : Prop := M 369 4 = nI z ∧ ∀ j, j < z → ∀ k, k < 313 → M 372 (313 * j + k) = hf j k
theorem row313 {x z : Nat} (h : x < 313 * z) : ∃ j k, j < z ∧ k < 313 ∧ x = 313 * j + k := ⟨x / 313, x % 313, by omega, by omega, by omega⟩
theorem HS_rec {M3 M4 M : MM} {z : Nat} {hf : Nat → FF} (h1 : M4 369 4 = nI (z + 1)) (h2 : ∀ j, j < z → ∀ k, k < 313 → M3 372 (313 * j + k) = hf j k) (i1 : ∀ x, x < 313 → M4 372 (313 * z + x) = M 370 x) (i2 : ∀ x, x < 313 * z → M4 372 x = M3 372 x) : HS M4 (z + 1) (fun j => if j = z then M 370 else hf j) := by
  refine ⟨h1, fun j hj k hk => ?_⟩
  show M4 372 (313 * j + k) = (if j = z then M 370 else hf j) k
  by_cases e : j = z
  · rw [if_pos e, e]
    exact i1 k hk
  · rw [if_neg e, i2 _ (by omega)]
    exact h2 j (by omega) k hk

set_option maxRecDepth 100000 in
set_option maxHeartbeats 1000000 in
theorem c7_recordsA {l : Launch} {D : va_G} {cy : Nat → ClassId} {B : Nat} {M : MM} {P : PP} (hm : PMd P) {z : Nat} {hf : Nat → FF} (hz : z < 4) (hS : HS M z hf) : KV l D cy B yX7_records wsX7_records 0 0 [Value.ref (B + 369)] M P (fun M1 P1 => P1 = P ∧ HS M1 (pshZ z) (pshH z hf (M 370)) ∧ (∀ k, k ≠ 4 → M1 369 k = M 369 k) ∧ (∀ a, a ≠ 369 → a ≠ 372 → M1 a = M a)) := by
  refine met_KV (cc := cX7_records) (maxL := 2) (ret := none) (lv := [some (Value.ref (B + 369)), none]) (by decide) rfl rfl rfl (Nat.le_of_ble_eq_true rfl) ?_
  intro X C F
  have z3 := hS.1
  have s3 : M 370 = M 370 := rfl
  refine g_aload_0 (pc := 0) C dX7_records_0 ?_
  refine g_geti (pc := 1) C fl_X7_records_41 kk369 dX7_records_1 ?_
  rw [hS.1]
  refine g_iconst (pc := 4) (v := 4) C dX7_records_4 rfl ?_
  refine g_icmp_ne (pc := 5) (tgt := 49) C dX7_records_5 (by decide) (fun c5 => ?_) (fun c5 => ?_)
  · refine g_iconst (pc := 49) (v := 0) C dX7_records_49 rfl ?_
    refine g_istore_1 (pc := 50) C dX7_records_50 ?_
    refine ind_m (fun (k : Nat) => 313 - k) (p := fun (k : Nat) => ∀ M4 : MM, k ≤ 313 → (∀ x, x < k → M4 372 (313 * z + x) = M 370 x) → (∀ x, x < 313 * z → M4 372 x = M 372 x) → (∀ a, a ≠ 372 → M4 a = M a) → G X D cy B 0 0 376 M4 P 51 [some (Value.ref (B + 369)), some (Value.int (nI k))] []) ?_ 0 M (Nat.zero_le _) (fun j hj => absurd hj (Nat.not_lt_zero _)) (fun _ _ => rfl) (fun _ _ => rfl)
    intro k ih M4 hk i1 i2 i3
    refine g_iload_1 (pc := 51) C dX7_records_51 ?_
    refine g_sipush (pc := 52) (v := 313) C dX7_records_52 rfl ?_
    refine g_icmp_ge (pc := 55) (tgt := 85) C dX7_records_55 (by decide) (fun c55 => ?_) (fun c55 => ?_)
    · have e : 313 ≤ k := i_le (a := 313) (by omega) (by omega) c55
      have e1 : k = 313 := by omega
      subst e1
      refine g_aload_0 (pc := 85) C dX7_records_85 ?_
      refine g_dup (pc := 86) C dX7_records_86 rfl ?_
      refine g_geti (pc := 87) C fl_X7_records_41 kk369 dX7_records_87 ?_
      rw [i3 369 (by decide), z3]
      refine g_iconst (pc := 90) (v := 1) C dX7_records_90 rfl ?_
      refine g_iadd (pc := 91) C dX7_records_91 ?_
      rw [nI_1]
      refine g_puti (pc := 92) C pf_X7_records_41 kk369 dX7_records_92 ?_
      exact g_vret (post := fun M1 P1 => P1 = P ∧ HS M1 (pshZ z) (pshH z hf (M 370)) ∧ (∀ k, k ≠ 4 → M1 369 k = M 369 k) ∧ (∀ a, a ≠ 369 → a ≠ 372 → M1 a = M a)) C F dX7_records_95 ⟨rfl, by rw [show pshZ z = z + 1 from if_neg (by omega), show pshH z hf (M 370) = (fun j => if j = z then M 370 else hf j) from if_neg (by omega)]; exact HS_rec (M3 := M) (by rw [up_same, up_same]) hS.2 (fun x hx => by rw [up_ne _ _ (by decide)]; exact i1 x hx) (fun x hx => by rw [up_ne _ _ (by decide)]; exact i2 x hx), fun k hk => by rw [up_same, up_ne _ _ hk, i3 369 (by decide)], fun a h1 h2 => by rw [up_ne _ _ h1, i3 a h2]⟩
    · have hk2 : k < 313 := i_nle (a := 313) (by omega) (by omega) c55
      refine g_aload_0 (pc := 58) C dX7_records_58 ?_
      refine g_getr (pc := 59) C hm.saved fl_X7_records_16 kk369 dX7_records_59 ?_
      refine g_sipush (pc := 62) (v := 313) C dX7_records_62 rfl ?_
      refine g_aload_0 (pc := 65) C dX7_records_65 ?_
      refine g_geti (pc := 66) C fl_X7_records_41 kk369 dX7_records_66 ?_
      rw [i3 369 (by decide), z3]
      refine g_imul (pc := 69) C dX7_records_69 ?_
      refine g_iload_1 (pc := 70) C dX7_records_70 ?_
      refine g_iadd (pc := 71) C dX7_records_71 ?_
      rw [show (313 : Int32) * nI z + nI k = nI (313 * z + k) from ix2 313 z k]
      refine g_aload_0 (pc := 72) C dX7_records_72 ?_
      refine g_getr (pc := 73) C hm.s fl_X7_records_7 kk369 dX7_records_73 ?_
      refine g_iload_1 (pc := 76) C dX7_records_76 ?_
      refine g_iald (pc := 77) (j := k) C kk370 rfl ln370 (by omega) dX7_records_77 ?_
      refine g_iast (pc := 78) (j := (313 * z + k)) C kk372 rfl ln372 (by omega) dX7_records_78 ?_
      refine g_iinc_1 (pc := 79) (v := nI (k + 1)) C dX7_records_79 (nI_1 k) ?_
      refine g_goto (pc := 82) (tgt := 51) C dX7_records_82 (by decide) ?_
      refine ih (k + 1) (by omega) _ (by omega) (fun x hx => ?_) (fun x hx => ?_) (fun a ha => by rw [up_ne _ _ ha]; exact i3 a ha)
      · rw [up_same]
        by_cases e : x = k
        · subst e
          rw [up_same, i3 370 (by decide), s3]
        · rw [up_ne _ _ (by omega)]; exact i1 x (by omega)
      · rw [up_same, up_ne _ _ (by omega)]; exact i2 x hx
  · exact absurd (nI_inj (b := 4) (by omega) (by omega) c5) (by omega)

set_option maxRecDepth 100000 in
set_option maxHeartbeats 1000000 in
theorem c7_recordsB {l : Launch} {D : va_G} {cy : Nat → ClassId} {B : Nat} {M : MM} {P : PP} (hm : PMd P) {hf : Nat → FF} (hS : HS M 4 hf) : KV l D cy B yX7_records wsX7_records 0 0 [Value.ref (B + 369)] M P (fun M1 P1 => P1 = P ∧ HS M1 (pshZ 4) (pshH 4 hf (M 370)) ∧ (∀ k, k ≠ 4 → M1 369 k = M 369 k) ∧ (∀ a, a ≠ 369 → a ≠ 372 → M1 a = M a)) := by
  refine met_KV (cc := cX7_records) (maxL := 2) (ret := none) (lv := [some (Value.ref (B + 369)), none]) (by decide) rfl rfl rfl (Nat.le_of_ble_eq_true rfl) ?_
  intro X C F
  refine g_aload_0 (pc := 0) C dX7_records_0 ?_
  refine g_geti (pc := 1) C fl_X7_records_41 kk369 dX7_records_1 ?_
  rw [hS.1]
  refine g_iconst (pc := 4) (v := 4) C dX7_records_4 rfl ?_
  refine g_icmp_ne (pc := 5) (tgt := 49) C dX7_records_5 (by decide) (fun c5 => ?_) (fun c5 => ?_)
  · exact absurd rfl c5
  · refine g_iconst (pc := 8) (v := 0) C dX7_records_8 rfl ?_
    refine g_istore_1 (pc := 9) C dX7_records_9 ?_
    refine ind_m (fun (k : Nat) => 939 - k) (p := fun (k : Nat) => ∀ M2 : MM, k ≤ 939 → (∀ x, x < k → M2 372 x = M 372 (313 + x)) → (∀ x, k ≤ x → M2 372 x = M 372 x) → (∀ a, a ≠ 372 → M2 a = M a) → G X D cy B 0 0 376 M2 P 10 [some (Value.ref (B + 369)), some (Value.int (nI k))] []) ?_ 0 M (Nat.zero_le _) (fun j hj => absurd hj (Nat.not_lt_zero _)) (fun _ _ => rfl) (fun _ _ => rfl)
    intro k ih M2 hk j1 j2 j3
    refine g_iload_1 (pc := 10) C dX7_records_10 ?_
    refine g_sipush (pc := 11) (v := 939) C dX7_records_11 rfl ?_
    refine g_icmp_ge (pc := 14) (tgt := 39) C dX7_records_14 (by decide) (fun c14 => ?_) (fun c14 => ?_)
    · have e : 939 ≤ k := i_le (a := 939) (by omega) (by omega) c14
      have e1 : k = 939 := by omega
      subst e1
      refine g_aload_0 (pc := 39) C dX7_records_39 ?_
      refine g_dup (pc := 40) C dX7_records_40 rfl ?_
      refine g_geti (pc := 41) C fl_X7_records_41 kk369 dX7_records_41 ?_
      rw [j3 369 (by decide), hS.1]
      refine g_iconst (pc := 44) (v := 1) C dX7_records_44 rfl ?_
      refine g_isub (pc := 45) C dX7_records_45 ?_
      refine g_puti (pc := 46) C pf_X7_records_41 kk369 dX7_records_46 ?_
      rw [j3 369 (by decide)]
      refine g_memo (fun M3 => M3 369 4 = nI 3 ∧ (∀ k, k ≠ 4 → M3 369 k = M 369 k) ∧ (∀ j, j < 3 → ∀ k, k < 313 → M3 372 (313 * j + k) = hf (j + 1) k) ∧ (∀ a, a ≠ 369 → a ≠ 372 → M3 a = M a)) ⟨by rw [up_same, up_same]; rfl, fun k hk => by rw [up_same, up_ne _ _ hk], fun j hj k hk => by rw [up_ne _ _ (by decide), j1 _ (by omega), show 313 + (313 * j + k) = 313 * (j + 1) + k by omega]; exact hS.2 (j + 1) (by omega) k hk, fun a h1 h2 => by rw [up_ne _ _ h1]; exact j3 a h2⟩ (fun M3 hM3 => ?_)
      obtain ⟨z3, z4, z5, z6⟩ := hM3
      have s3 : M3 370 = M 370 := z6 370 (by decide) (by decide)
      refine g_iconst (pc := 49) (v := 0) C dX7_records_49 rfl ?_
      refine g_istore_1 (pc := 50) C dX7_records_50 ?_
      refine ind_m (fun (k : Nat) => 313 - k) (p := fun (k : Nat) => ∀ M4 : MM, k ≤ 313 → (∀ x, x < k → M4 372 (313 * 3 + x) = M 370 x) → (∀ x, x < 313 * 3 → M4 372 x = M3 372 x) → (∀ a, a ≠ 372 → M4 a = M3 a) → G X D cy B 0 0 376 M4 P 51 [some (Value.ref (B + 369)), some (Value.int (nI k))] []) ?_ 0 M3 (Nat.zero_le _) (fun j hj => absurd hj (Nat.not_lt_zero _)) (fun _ _ => rfl) (fun _ _ => rfl)
      intro k ih M4 hk i1 i2 i3
      refine g_iload_1 (pc := 51) C dX7_records_51 ?_
      refine g_sipush (pc := 52) (v := 313) C dX7_records_52 rfl ?_
      refine g_icmp_ge (pc := 55) (tgt := 85) C dX7_records_55 (by decide) (fun c55 => ?_) (fun c55 => ?_)
      · have e : 313 ≤ k := i_le (a := 313) (by omega) (by omega) c55
        have e1 : k = 313 := by omega
        subst e1
        refine g_aload_0 (pc := 85) C dX7_records_85 ?_
        refine g_dup (pc := 86) C dX7_records_86 rfl ?_
        refine g_geti (pc := 87) C fl_X7_records_41 kk369 dX7_records_87 ?_
        rw [i3 369 (by decide), z3]
        refine g_iconst (pc := 90) (v := 1) C dX7_records_90 rfl ?_
        refine g_iadd (pc := 91) C dX7_records_91 ?_
        rw [nI_1]
        refine g_puti (pc := 92) C pf_X7_records_41 kk369 dX7_records_92 ?_
        exact g_vret (post := fun M1 P1 => P1 = P ∧ HS M1 (pshZ 4) (pshH 4 hf (M 370)) ∧ (∀ k, k ≠ 4 → M1 369 k = M 369 k) ∧ (∀ a, a ≠ 369 → a ≠ 372 → M1 a = M a)) C F dX7_records_95 ⟨rfl, by rw [show pshZ 4 = 3 + 1 from rfl, show pshH 4 hf (M 370) = (fun j => if j = 3 then M 370 else hf (j + 1)) from if_pos rfl]; exact HS_rec (M3 := M3) (hf := fun j => hf (j + 1)) (by rw [up_same, up_same]) z5 (fun x hx => by rw [up_ne _ _ (by decide)]; exact i1 x hx) (fun x hx => by rw [up_ne _ _ (by decide)]; exact i2 x hx), fun k hk => by rw [up_same, up_ne _ _ hk, i3 369 (by decide)]; exact z4 k hk, fun a h1 h2 => by rw [up_ne _ _ h1, i3 a h2]; exact z6 a h1 h2⟩
      · have hk2 : k < 313 := i_nle (a := 313) (by omega) (by omega) c55
        refine g_aload_0 (pc := 58) C dX7_records_58 ?_
        refine g_getr (pc := 59) C hm.saved fl_X7_records_16 kk369 dX7_records_59 ?_
        refine g_sipush (pc := 62) (v := 313) C dX7_records_62 rfl ?_
        refine g_aload_0 (pc := 65) C dX7_records_65 ?_
        refine g_geti (pc := 66) C fl_X7_records_41 kk369 dX7_records_66 ?_
        rw [i3 369 (by decide), z3]
        refine g_imul (pc := 69) C dX7_records_69 ?_
        refine g_iload_1 (pc := 70) C dX7_records_70 ?_
        refine g_iadd (pc := 71) C dX7_records_71 ?_
        rw [show (313 : Int32) * nI 3 + nI k = nI (313 * 3 + k) from ix2 313 3 k]
        refine g_aload_0 (pc := 72) C dX7_records_72 ?_
        refine g_getr (pc := 73) C hm.s fl_X7_records_7 kk369 dX7_records_73 ?_
        refine g_iload_1 (pc := 76) C dX7_records_76 ?_
        refine g_iald (pc := 77) (j := k) C kk370 rfl ln370 (by omega) dX7_records_77 ?_
        refine g_iast (pc := 78) (j := (313 * 3 + k)) C kk372 rfl ln372 (by omega) dX7_records_78 ?_
        refine g_iinc_1 (pc := 79) (v := nI (k + 1)) C dX7_records_79 (nI_1 k) ?_
        refine g_goto (pc := 82) (tgt := 51) C dX7_records_82 (by decide) ?_
        refine ih (k + 1) (by omega) _ (by omega) (fun x hx => ?_) (fun x hx => ?_) (fun a ha => by rw [up_ne _ _ ha]; exact i3 a ha)
        · rw [up_same]
          by_cases e : x = k
          · subst e
            rw [up_same, i3 370 (by decide), s3]
          · rw [up_ne _ _ (by omega)]; exact i1 x (by omega)
        · rw [up_same, up_ne _ _ (by omega)]; exact i2 x hx
    · have hk2 : k < 939 := i_nle (a := 939) (by omega) (by omega) c14
      refine g_aload_0 (pc := 17) C dX7_records_17 ?_
      refine g_getr (pc := 18) C hm.saved fl_X7_records_16 kk369 dX7_records_18 ?_
      refine g_iload_1 (pc := 21) C dX7_records_21 ?_
      refine g_aload_0 (pc := 22) C dX7_records_22 ?_
      refine g_getr (pc := 23) C hm.saved fl_X7_records_16 kk369 dX7_records_23 ?_
      refine g_iload_1 (pc := 26) C dX7_records_26 ?_
      refine g_sipush (pc := 27) (v := 313) C dX7_records_27 rfl ?_
      refine g_iadd (pc := 30) C dX7_records_30 ?_
      rw [show nI k + 313 = nI (k + 313) from nI_add k 313]
      refine g_iald (pc := 31) (j := (k + 313)) C kk372 rfl ln372 (by omega) dX7_records_31 ?_
      refine g_iast (pc := 32) (j := k) C kk372 rfl ln372 (by omega) dX7_records_32 ?_
      refine g_iinc_1 (pc := 33) (v := nI (k + 1)) C dX7_records_33 (nI_1 k) ?_
      refine g_goto (pc := 36) (tgt := 10) C dX7_records_36 (by decide) ?_
      refine ih (k + 1) (by omega) _ (by omega) (fun x hx => ?_) (fun x hx => ?_) (fun a ha => by rw [up_ne _ _ ha]; exact j3 a ha)
      · rw [up_same]
        by_cases e : x = k
        · subst e
          rw [up_same, j2 _ (by omega), Nat.add_comm]
        · rw [up_ne _ _ e]; exact j1 x (by omega)
      · rw [up_same, up_ne _ _ (by omega)]; exact j2 x (by omega)

theorem c7_records {l : Launch} {D : va_G} {cy : Nat → ClassId} {B : Nat} {M : MM} {P : PP} (hm : PMd P) {z : Nat} {hf : Nat → FF} (hz : z ≤ 4) (hS : HS M z hf) : KV l D cy B yX7_records wsX7_records 0 0 [Value.ref (B + 369)] M P (fun M1 P1 => P1 = P ∧ HS M1 (pshZ z) (pshH z hf (M 370)) ∧ (∀ k, k ≠ 4 → M1 369 k = M 369 k) ∧ (∀ a, a ≠ 369 → a ≠ 372 → M1 a = M a)) := by
  by_cases e : z = 4
  · subst e
    exact c7_recordsB hm hS
  · exact c7_recordsA hm (by omega) hS

set_option maxRecDepth 100000 in
set_option maxHeartbeats 1000000 in
theorem c7_swapsAside {l : Launch} {D : va_G} {cy : Nat → ClassId} {B : Nat} {M : MM} {P : PP} (hm : PMd P) : KV l D cy B yX7_swapsAside wsX7_swapsAside 0 0 [Value.ref (B + 369)] M P (fun M1 P1 => P1 = P ∧ (∀ x, x < 313 → M1 370 x = M 371 x) ∧ (∀ x, x < 313 → M1 371 x = M 370 x) ∧ (∀ a, a ≠ 370 → a ≠ 371 → M1 a = M a)) := by
  refine met_KV (cc := cX7_swapsAside) (maxL := 3) (ret := none) (lv := [some (Value.ref (B + 369)), none, none]) (by decide) rfl rfl rfl (Nat.le_of_ble_eq_true rfl) ?_
  intro X C F
  refine g_iconst (pc := 0) (v := 0) C dX7_swapsAside_0 rfl ?_
  refine g_istore_1 (pc := 1) C dX7_swapsAside_1 ?_
  refine ind_m (fun (k : Nat) => 313 - k) (p := fun (k : Nat) => ∀ M2 : MM, k ≤ 313 → (∀ x, x < k → M2 370 x = M 371 x) → (∀ x, x < k → M2 371 x = M 370 x) → (∀ x, k ≤ x → M2 370 x = M 370 x) → (∀ x, k ≤ x → M2 371 x = M 371 x) → (∀ a, a ≠ 370 → a ≠ 371 → M2 a = M a) → G X D cy B 0 0 376 M2 P 2 [some (Value.ref (B + 369)), some (Value.int (nI k)), none] []) ?_ 0 M (Nat.zero_le _) (fun j hj => absurd hj (Nat.not_lt_zero _)) (fun j hj => absurd hj (Nat.not_lt_zero _)) (fun _ _ => rfl) (fun _ _ => rfl) (fun _ _ _ => rfl)
  intro k ih M2 hk i1 i2 i3 i4 i5
  refine g_iload_1 (pc := 2) C dX7_swapsAside_2 ?_
  refine g_sipush (pc := 3) (v := 313) C dX7_swapsAside_3 rfl ?_
  refine g_icmp_ge (pc := 6) (tgt := 41) C dX7_swapsAside_6 (by decide) (fun c6 => ?_) (fun c6 => ?_)
  · have e : 313 ≤ k := i_le (a := 313) (by omega) (by omega) c6
    have e1 : k = 313 := by omega
    subst e1
    exact g_vret (post := fun M1 P1 => P1 = P ∧ (∀ x, x < 313 → M1 370 x = M 371 x) ∧ (∀ x, x < 313 → M1 371 x = M 370 x) ∧ (∀ a, a ≠ 370 → a ≠ 371 → M1 a = M a)) C F dX7_swapsAside_41 ⟨rfl, i1, i2, i5⟩
  · have hk2 : k < 313 := i_nle (a := 313) (by omega) (by omega) c6
    refine g_aload_0 (pc := 9) C dX7_swapsAside_9 ?_
    refine g_getr (pc := 10) C hm.s fl_X7_swapsAside_7 kk369 dX7_swapsAside_10 ?_
    refine g_iload_1 (pc := 13) C dX7_swapsAside_13 ?_
    refine g_iald (pc := 14) (j := k) C kk370 rfl ln370 (by omega) dX7_swapsAside_14 ?_
    refine g_istore_2 (pc := 15) C dX7_swapsAside_15 ?_
    refine g_aload_0 (pc := 16) C dX7_swapsAside_16 ?_
    refine g_getr (pc := 17) C hm.s fl_X7_swapsAside_7 kk369 dX7_swapsAside_17 ?_
    refine g_iload_1 (pc := 20) C dX7_swapsAside_20 ?_
    refine g_aload_0 (pc := 21) C dX7_swapsAside_21 ?_
    refine g_getr (pc := 22) C hm.aside fl_X7_swapsAside_13 kk369 dX7_swapsAside_22 ?_
    refine g_iload_1 (pc := 25) C dX7_swapsAside_25 ?_
    refine g_iald (pc := 26) (j := k) C kk371 rfl ln371 (by omega) dX7_swapsAside_26 ?_
    refine g_iast (pc := 27) (j := k) C kk370 rfl ln370 (by omega) dX7_swapsAside_27 ?_
    refine g_aload_0 (pc := 28) C dX7_swapsAside_28 ?_
    refine g_getr (pc := 29) C hm.aside fl_X7_swapsAside_13 kk369 dX7_swapsAside_29 ?_
    refine g_iload_1 (pc := 32) C dX7_swapsAside_32 ?_
    refine g_iload_2 (pc := 33) C dX7_swapsAside_33 ?_
    refine g_iast (pc := 34) (j := k) C kk371 rfl ln371 (by omega) dX7_swapsAside_34 ?_
    refine g_iinc_1 (pc := 35) (v := nI (k + 1)) C dX7_swapsAside_35 (nI_1 k) ?_
    refine g_goto (pc := 38) (tgt := 2) C dX7_swapsAside_38 (by decide) ?_
    refine g_kill_2 ?_
    refine ih (k + 1) (by omega) _ (by omega) (fun x hx => ?_) (fun x hx => ?_) (fun x hx => ?_) (fun x hx => ?_) (fun a h1 h2 => by rw [up_ne _ _ h2, up_ne _ _ h1]; exact i5 a h1 h2)
    · rw [up_ne _ _ (by decide), up_same]
      by_cases e : x = k
      · subst e
        rw [up_same]; exact i4 _ (Nat.le_refl _)
      · rw [up_ne _ _ e]; exact i1 x (by omega)
    · rw [up_same]
      by_cases e : x = k
      · subst e
        rw [up_same]; exact i3 _ (Nat.le_refl _)
      · rw [up_ne _ _ e, up_ne _ _ (by decide)]; exact i2 x (by omega)
    · rw [up_ne _ _ (by decide), up_same, up_ne _ _ (by omega)]; exact i3 x (by omega)
    · rw [up_same, up_ne _ _ (by omega), up_ne _ _ (by decide)]; exact i4 x (by omega)
