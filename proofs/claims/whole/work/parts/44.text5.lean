theorem pnQ_lt {t : FF} {len p : Nat} {m : Int32} (h : ¬ pNum t len p m = none) : p < pnQ t len p m := by
  unfold pnQ
  by_cases hx : 1 ≤ sg t len p - 48 ∧ sg t len p - 48 ≤ 9
  · by_cases hy : 0 ≤ sg t len (p + 1) - 48 ∧ sg t len (p + 1) - 48 ≤ mxF m (sg t len p - 48)
    · rw [show pNum t len p m = some (10 * (sg t len p - 48) + (sg t len (p + 1) - 48), p + 2) from by rw [pNum, if_pos hx, if_pos hy]]
      show p < p + 2
      omega
    · rw [show pNum t len p m = some (sg t len p - 48, p + 1) from by rw [pNum, if_pos hx, if_neg hy]]
      show p < p + 1
      omega
  · exact absurd (by rw [pNum, if_neg hx]) h

theorem pBook_le {t : FF} {len p : Nat} (hp : p ≤ len) : match pBook t len p with | .inl f => f ≤ len ∧ p ≤ f | .inr (_, _, _, _, q) => q ≤ len ∧ p + 7 ≤ q := by
  by_cases a0 : dg5 t len p
  · have b0 := sg_lt a0.1
    by_cases a1 : sg t len (p + 1) = 109
    · have b1 := sg_le a1 (by decide)
      by_cases a2 : dg5 t len (p + 2)
      · have b2 := sg_lt a2.1
        by_cases a3 : sg t len (p + 3) = 43
        · have b3 := sg_le a3 (by decide)
          have b4 := pnQ_le (t := t) (m := 99) (show p + 4 ≤ len by omega)
          by_cases a4 : pNum t len (p + 4) 99 = none
          · rw [pBook, if_pos a0, if_pos a1, if_pos a2, if_pos a3, if_pos a4]
            show p + 4 ≤ len ∧ p ≤ p + 4
            omega
          · have c4 := pnQ_lt a4
            by_cases a5 : sg t len (pnQ t len (p + 4) 99) = 104
            · have b5 := sg_le a5 (by decide)
              have b6 := pnQ_le (t := t) (m := 12) b5
              by_cases a6 : pNum t len (pnQ t len (p + 4) 99 + 1) 12 = none
              · rw [pBook, if_pos a0, if_pos a1, if_pos a2, if_pos a3, if_neg a4, if_pos a5, if_pos a6]
                show pnQ t len (p + 4) 99 + 1 ≤ len ∧ p ≤ pnQ t len (p + 4) 99 + 1
                omega
              · have c6 := pnQ_lt a6
                rw [pBook, if_pos a0, if_pos a1, if_pos a2, if_pos a3, if_neg a4, if_pos a5, if_neg a6]
                show pnQ t len (pnQ t len (p + 4) 99 + 1) 12 ≤ len ∧ p + 7 ≤ pnQ t len (pnQ t len (p + 4) 99 + 1) 12
                omega
            · rw [pBook, if_pos a0, if_pos a1, if_pos a2, if_pos a3, if_neg a4, if_neg a5]
              show pnQ t len (p + 4) 99 ≤ len ∧ p ≤ pnQ t len (p + 4) 99
              omega
        · rw [pBook, if_pos a0, if_pos a1, if_pos a2, if_neg a3]
          show p + 3 ≤ len ∧ p ≤ p + 3
          omega
      · rw [pBook, if_pos a0, if_pos a1, if_neg a2]
        show p + 2 ≤ len ∧ p ≤ p + 2
        omega
    · rw [pBook, if_pos a0, if_neg a1]
      show p + 1 ≤ len ∧ p ≤ p + 1
      omega
  · rw [pBook, if_neg a0]
    exact ⟨hp, Nat.le_refl _⟩
/-- the first fault of the bookings from the place p on, n of them at most; none if there is none -/
def fF (t : FF) (len : Nat) : Nat → Nat → Option Nat
  | 0, p => some p
  | n + 1, p => match pBook t len p with
    | .inl f => some f
    | .inr (_, _, _, _, q) => if len ≤ q then none else if sg t len q = 44 then fF t len n (q + 1) else some q
theorem PB_yes {M1 : MM} {x : Nat ⊕ (Int32 × Int32 × Int32 × Int32 × Nat)} {r : Int32} (h : PBp M1 x r) (hr : r ≠ 0) : ∃ w m i g q, x = .inr (w, m, i, g, q) ∧ M1 367 2 = nI q ∧ M1 367 3 = w ∧ M1 367 4 = m ∧ M1 367 5 = i ∧ M1 367 6 = g := by
  unfold PBp at h
  split at h
  · exact absurd h.1 hr
  · exact ⟨_, _, _, _, _, rfl, h.2⟩
theorem PB_no {M1 : MM} {x : Nat ⊕ (Int32 × Int32 × Int32 × Int32 × Nat)} {r : Int32} (h : PBp M1 x r) (hr : r = 0) : ∃ f, x = .inl f ∧ M1 367 2 = nI f := by
  unfold PBp at h
  split at h
  · exact ⟨_, rfl, h.2⟩
  · exact absurd (h.1.symm.trans hr) (by decide)

set_option maxRecDepth 100000 in
set_option maxHeartbeats 1000000 in
theorem c5_findFault {l : Launch} {D : va_G} {cy : Nat → ClassId} {B : Nat} {M : MM} {P : PP} {t : FF} {len : Nat} (hs : rr P 367 0 368) (h1 : M 367 1 = nI len) (hl : len ≤ 60) (ht : ∀ i, i < len → M 368 i = t i) : KI l D cy B yX5_findFault wsX5_findFault 4 88 [Value.ref (B + 367)] M P (fun r M1 P1 => r = (match fF t len 8 0 with | none => (-1 : Int32) | some f => nI f) ∧ P1 = P ∧ (∀ a, a ≠ 367 → M1 a = M a) ∧ M1 367 1 = nI len) := by
  refine met_KI (cc := cX5_findFault) (maxL := 2) (ret := (some .int)) (lv := [some (Value.ref (B + 367)), none]) (by decide) rfl rfl rfl (Nat.le_of_ble_eq_true rfl) ?_
  intro X C F
  refine g_aload_0 (pc := 0) C dX5_findFault_0 ?_
  refine g_V0ve (pc := 1) C e_X5_findFault_22 (Nat.le_of_ble_eq_true rfl) rfl dX5_findFault_1 kk367 (c5_start) ?_
  refine g_iconst (pc := 4) (v := 0) C dX5_findFault_4 rfl ?_
  refine g_istore_1 (pc := 5) C dX5_findFault_5 ?_
  obtain ⟨R, hR⟩ : ∃ R, R = fF t len 8 0 := ⟨_, rfl⟩
  refine ind_m (fun (k : Nat) => 8 - k) (p := fun (k : Nat) => ∀ (M1 : MM) (p : Nat), k ≤ 8 → p ≤ len → M1 367 1 = nI len → M1 367 2 = nI p → (∀ a, a ≠ 367 → M1 a = M a) → fF t len (8 - k) p = R → G X D cy B 0 0 376 M1 P 6 [some (Value.ref (B + 367)), some (Value.int (nI k))] []) ?_ 0 (up M 367 (up (M 367) 2 0)) 0 (Nat.zero_le _) (Nat.zero_le _) (by rw [up_same, up_ne _ _ (by decide)]; exact h1) (by rw [up_same, up_same]; rfl) (fun a ha => up_ne _ _ ha) hR.symm
  intro k ih M1 p hk i1 i2 i3 i4 i5
  have ht1 : ∀ i, i < len → M1 368 i = t i := fun i hi => by rw [i4 368 (by decide)]; exact ht i hi
  refine g_iload_1 (pc := 6) C dX5_findFault_6 ?_
  refine g_bipush (pc := 7) (v := 8) C dX5_findFault_7 rfl ?_
  refine g_icmp_ge (pc := 9) (tgt := 57) C dX5_findFault_9 (by decide) (fun c9 => ?_) (fun c9 => ?_)
  · have e : 8 ≤ k := i_le (a := 8) (by omega) (by omega) c9
    rw [show 8 - k = 0 by omega] at i5
    refine g_aload_0 (pc := 57) C dX5_findFault_57 ?_
    refine g_geti (pc := 58) C fl_X5_findFault_19 kk367 dX5_findFault_58 ?_
    rw [i3]
    exact g_iret (post := fun r M1 P1 => r = (match fF t len 8 0 with | none => (-1 : Int32) | some f => nI f) ∧ P1 = P ∧ (∀ a, a ≠ 367 → M1 a = M a) ∧ M1 367 1 = nI len) C F dX5_findFault_61 ⟨by rw [← hR, ← i5]; rfl, rfl, i4, i2⟩
  · have hk2 : k < 8 := i_nle (a := 8) (by omega) (by omega) c9
    rw [show 8 - k = 8 - (k + 1) + 1 by omega] at i5
    simp only [fF] at i5
    have hle := pBook_le (t := t) i1
    refine g_aload_0 (pc := 12) C dX5_findFault_12 ?_
    refine g_V0i (pc := 13) C e_X5_findFault_25 (Nat.le_of_ble_eq_true rfl) rfl dX5_findFault_13 kk367 (c5_readBooking hs i2 i3 hl i1 ht1) (fun r M2 P2 hq => ?_)
    obtain ⟨g1, g9, f1, g2⟩ := hq
    subst P2
    have f9 : ∀ a, a ≠ 367 → M2 a = M a := fun a ha => (g9 a ha).trans (i4 a ha)
    refine g_if_ne (pc := 16) (tgt := 24) C dX5_findFault_16 (by decide) (fun c16 => ?_) (fun c16 => ?_)
    · obtain ⟨w, m, i, g, q, eB, f2, -⟩ := PB_yes g2 c16
      rw [eB] at i5 hle
      have hq0 : q ≤ len := hle.1
      have ht2 : ∀ i, i < len → M2 368 i = t i := fun i hi => by rw [f9 368 (by decide)]; exact ht i hi
      simp only [] at i5
      refine g_aload_0 (pc := 24) C dX5_findFault_24 ?_
      refine g_geti (pc := 25) C fl_X5_findFault_19 kk367 dX5_findFault_25 ?_
      rw [f2]
      refine g_aload_0 (pc := 28) C dX5_findFault_28 ?_
      refine g_geti (pc := 29) C fl_X5_findFault_15 kk367 dX5_findFault_29 ?_
      rw [f1]
      refine g_icmp_lt (pc := 32) (tgt := 37) C dX5_findFault_32 (by decide) (fun c32 => ?_) (fun c32 => ?_)
      · have e : q < len := i_lt (by omega) (by omega) c32
        rw [if_neg (show ¬ len ≤ q by omega)] at i5
        refine g_aload_0 (pc := 37) C dX5_findFault_37 ?_
        refine g_bipush (pc := 38) (v := 44) C dX5_findFault_38 rfl ?_
        refine g_V1ie (pc := 40) C e_X5_findFault_29 (Nat.le_of_ble_eq_true rfl) rfl dX5_findFault_40 kk367 (c5_sign hs f1 f2 hl hq0 ht2) ?_
        refine g_if_ne (pc := 43) (tgt := 51) C dX5_findFault_43 (by decide) (fun c43 => ?_) (fun c43 => ?_)
        · have a7 : sg t len q = 44 := if1 c43
          have hq1 := sg_le a7 (by decide)
          rw [if_pos a7] at i5
          rw [if_pos a7]
          have i6 := i5
          refine g_iinc_1 (pc := 51) (v := nI (k + 1)) C dX5_findFault_51 (nI_1 k) ?_
          refine g_goto (pc := 54) (tgt := 6) C dX5_findFault_54 (by decide) ?_
          exact ih (k + 1) (by omega) _ (q + 1) (by omega) hq1 (by rw [up_same, up_ne _ _ (by decide)]; exact f1) (by rw [up_same, up_same]) (fun a ha => by rw [up_ne _ _ ha]; exact f9 a ha) i6
        · have a7 : ¬ sg t len q = 44 := if0 c43
          rw [if_neg a7] at i5
          rw [if_neg a7, at_self f2]
          refine g_aload_0 (pc := 46) C dX5_findFault_46 ?_
          refine g_geti (pc := 47) C fl_X5_findFault_19 kk367 dX5_findFault_47 ?_
          rw [f2]
          exact g_iret (post := fun r M1 P1 => r = (match fF t len 8 0 with | none => (-1 : Int32) | some f => nI f) ∧ P1 = P ∧ (∀ a, a ≠ 367 → M1 a = M a) ∧ M1 367 1 = nI len) C F dX5_findFault_50 ⟨by rw [← hR, ← i5], rfl, f9, f1⟩
      · have e : len ≤ q := i_nlt (by omega) (by omega) c32
        rw [if_pos e] at i5
        refine g_iconst (pc := 35) (v := -1) C dX5_findFault_35 rfl ?_
        exact g_iret (post := fun r M1 P1 => r = (match fF t len 8 0 with | none => (-1 : Int32) | some f => nI f) ∧ P1 = P ∧ (∀ a, a ≠ 367 → M1 a = M a) ∧ M1 367 1 = nI len) C F dX5_findFault_36 ⟨by rw [← hR, ← i5], rfl, f9, f1⟩
    · obtain ⟨f, eB, f2⟩ := PB_no g2 c16
      rw [eB] at i5
      refine g_aload_0 (pc := 19) C dX5_findFault_19 ?_
      refine g_geti (pc := 20) C fl_X5_findFault_19 kk367 dX5_findFault_20 ?_
      rw [f2]
      exact g_iret (post := fun r M1 P1 => r = (match fF t len 8 0 with | none => (-1 : Int32) | some f => nI f) ∧ P1 = P ∧ (∀ a, a ≠ 367 → M1 a = M a) ∧ M1 367 1 = nI len) C F dX5_findFault_23 ⟨by rw [← hR, ← i5], rfl, f9, f1⟩
