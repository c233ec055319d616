/-- is there a figure from 0 to 5 -/
abbrev dg5 (t : FF) (len p : Nat) : Prop := 0 ≤ sg t len p - 48 ∧ sg t len p - 48 ≤ 5
/-- a booking read from the place p on: the place of the fault, or the booking and the next place -/
def pBook (t : FF) (len p : Nat) : Nat ⊕ (Int32 × Int32 × Int32 × Int32 × Nat) := if dg5 t len p then (if sg t len (p + 1) = 109 then (if dg5 t len (p + 2) then (if sg t len (p + 3) = 43 then (if pNum t len (p + 4) 99 = none then .inl (p + 4) else if sg t len (pnQ t len (p + 4) 99) = 104 then (if pNum t len (pnQ t len (p + 4) 99 + 1) 12 = none then .inl (pnQ t len (p + 4) 99 + 1) else .inr (sg t len p - 48, sg t len (p + 2) - 48, pnV t len (p + 4) 99, pnV t len (pnQ t len (p + 4) 99 + 1) 12, pnQ t len (pnQ t len (p + 4) 99 + 1) 12)) else .inl (pnQ t len (p + 4) 99)) else .inl (p + 3)) else .inl (p + 2)) else .inl (p + 1)) else .inl p
/-- what the class's text holds then -/
def PBp (M1 : MM) (x : Nat ⊕ (Int32 × Int32 × Int32 × Int32 × Nat)) (r : Int32) : Prop := match x with
  | .inl f => r = 0 ∧ M1 367 2 = nI f
  | .inr (w, m, i, h, q) => r = 1 ∧ M1 367 2 = nI q ∧ M1 367 3 = w ∧ M1 367 4 = m ∧ M1 367 5 = i ∧ M1 367 6 = h

set_option maxRecDepth 100000 in
set_option maxHeartbeats 1000000 in
theorem c5_readBooking {l : Launch} {D : va_G} {cy : Nat → ClassId} {B : Nat} {M : MM} {P : PP} {t : FF} {len p : Nat} (hs : rr P 367 0 368) (h1 : M 367 1 = nI len) (h2 : M 367 2 = nI p) (hl : len ≤ 60) (hp : p ≤ len) (ht : ∀ i, i < len → M 368 i = t i) : KI l D cy B yX5_readBooking wsX5_readBooking 3 68 [Value.ref (B + 367)] M P (fun r M1 P1 => P1 = P ∧ (∀ a, a ≠ 367 → M1 a = M a) ∧ M1 367 1 = nI len ∧ PBp M1 (pBook t len p) r) := by
  refine met_KI (cc := cX5_readBooking) (maxL := 1) (ret := (some .boolean)) (lv := [some (Value.ref (B + 367))]) (by decide) rfl rfl rfl (Nat.le_of_ble_eq_true rfl) ?_
  intro X C F
  refine g_aload_0 (pc := 0) C dX5_readBooking_0 ?_
  refine g_aload_0 (pc := 1) C dX5_readBooking_1 ?_
  refine g_iconst (pc := 2) (v := 0) C dX5_readBooking_2 rfl ?_
  refine g_iconst (pc := 3) (v := 5) C dX5_readBooking_3 rfl ?_
  refine g_V2ie (pc := 4) C e_X5_readBooking_33 (Nat.le_of_ble_eq_true rfl) rfl dX5_readBooking_4 kk367 (c5_digit hs h1 h2 hl hp ht) ?_
  refine g_puti (pc := 7) C pf_X5_readBooking_37 kk367 dX5_readBooking_7 ?_
  refine g_memo (fun M1 => M1 367 1 = nI len ∧ M1 367 2 = nI (if dg5 t len p then p + 1 else p) ∧ M1 367 3 = (if dg5 t len p then sg t len p - 48 else -1) ∧ (∀ a, a ≠ 367 → M1 a = M a)) ⟨by simp [up_same, up_ne, h1], by simp [up_same, up_ne, h1], by simp [up_same, up_ne, h1], fun a ha => by simp [up_ne, ha, h1]⟩ (fun M1 hM1 => ?_)
  obtain ⟨f1, f2, s3, f9⟩ := hM1
  have ht2 : ∀ i, i < len → M1 368 i = t i := fun i hi => by rw [f9 368 (by decide)]; exact ht i hi
  refine g_aload_0 (pc := 10) C dX5_readBooking_10 ?_
  refine g_geti (pc := 11) C fl_X5_readBooking_37 kk367 dX5_readBooking_11 ?_
  rw [s3]
  refine g_iconst (pc := 14) (v := -1) C dX5_readBooking_14 rfl ?_
  refine g_icmp_eq (pc := 15) (tgt := 27) C dX5_readBooking_15 (by decide) (fun c15 => ?_) (fun c15 => ?_)
  · have hn : ¬ dg5 t len (p) := fun z => absurd (by rw [if_pos z] at c15; exact c15) (d_ne (x := 0) z.1)
    rw [if_neg hn] at f2
    refine g_iconst (pc := 27) (v := 0) C dX5_readBooking_27 rfl ?_
    exact g_zret (post := fun r M1 P1 => P1 = P ∧ (∀ a, a ≠ 367 → M1 a = M a) ∧ M1 367 1 = nI len ∧ PBp M1 (pBook t len p) r) C F dX5_readBooking_28 (by first | exact Or.inl rfl | exact Or.inr rfl) ⟨rfl, f9, f1, by rw [pBook, if_neg hn]; exact ⟨rfl, f2⟩⟩
  · have a0 : dg5 t len (p) := Decidable.byContradiction fun z => c15 (if_neg z)
    rw [if_pos a0] at f2
    rw [if_pos a0] at s3
    have b0 := sg_lt a0.1
    refine g_aload_0 (pc := 18) C dX5_readBooking_18 ?_
    refine g_bipush (pc := 19) (v := 109) C dX5_readBooking_19 rfl ?_
    refine g_V1ie (pc := 21) C e_X5_readBooking_29 (Nat.le_of_ble_eq_true rfl) rfl dX5_readBooking_21 kk367 (c5_sign hs (M := M1) (p := p + 1) f1 f2 hl (by omega) ht2) ?_
    refine g_memo (fun M2 => M2 367 1 = nI len ∧ M2 367 2 = nI (if sg t len (p + 1) = 109 then p + 1 + 1 else p + 1) ∧ M2 367 3 = sg t len p - 48 ∧ (∀ a, a ≠ 367 → M2 a = M a)) ⟨by simp [up_same, up_ne, f1, s3], by simp [up_same, up_ne, f1, s3], by simp [up_same, up_ne, f1, s3], fun a ha => by simp [up_ne, ha, f9 a ha]⟩ (fun M2 hM2 => ?_)
    obtain ⟨f1, f2, s3, f9⟩ := hM2
    have ht2 : ∀ i, i < len → M2 368 i = t i := fun i hi => by rw [f9 368 (by decide)]; exact ht i hi
    refine g_if_ne (pc := 24) (tgt := 29) C dX5_readBooking_24 (by decide) (fun c24 => ?_) (fun c24 => ?_)
    · have a1 : sg t len (p + 1) = 109 := if1 c24
      rw [if_pos a1] at f2
      have b1 := sg_le a1 (by decide)
      refine g_aload_0 (pc := 29) C dX5_readBooking_29 ?_
      refine g_aload_0 (pc := 30) C dX5_readBooking_30 ?_
      refine g_iconst (pc := 31) (v := 0) C dX5_readBooking_31 rfl ?_
      refine g_iconst (pc := 32) (v := 5) C dX5_readBooking_32 rfl ?_
      refine g_V2ie (pc := 33) C e_X5_readBooking_33 (Nat.le_of_ble_eq_true rfl) rfl dX5_readBooking_33 kk367 (c5_digit hs (M := M2) (p := p + 2) f1 f2 hl (by omega) ht2) ?_
      refine g_puti (pc := 36) C pf_X5_readBooking_40 kk367 dX5_readBooking_36 ?_
      refine g_memo (fun M3 => M3 367 1 = nI len ∧ M3 367 2 = nI (if dg5 t len (p + 2) then p + 2 + 1 else p + 2) ∧ M3 367 3 = sg t len p - 48 ∧ M3 367 4 = (if dg5 t len (p + 2) then sg t len (p + 2) - 48 else -1) ∧ (∀ a, a ≠ 367 → M3 a = M a)) ⟨by simp [up_same, up_ne, f1, s3], by simp [up_same, up_ne, f1, s3], by simp [up_same, up_ne, f1, s3], by simp [up_same, up_ne, f1, s3], fun a ha => by simp [up_ne, ha, f9 a ha]⟩ (fun M3 hM3 => ?_)
      obtain ⟨f1, f2, s3, s4, f9⟩ := hM3
      have ht2 : ∀ i, i < len → M3 368 i = t i := fun i hi => by rw [f9 368 (by decide)]; exact ht i hi
      refine g_aload_0 (pc := 39) C dX5_readBooking_39 ?_
      refine g_geti (pc := 40) C fl_X5_readBooking_40 kk367 dX5_readBooking_40 ?_
      rw [s4]
      refine g_iconst (pc := 43) (v := -1) C dX5_readBooking_43 rfl ?_
      refine g_icmp_eq (pc := 44) (tgt := 56) C dX5_readBooking_44 (by decide) (fun c44 => ?_) (fun c44 => ?_)
      · have hn : ¬ dg5 t len (p + 2) := fun z => absurd (by rw [if_pos z] at c44; exact c44) (d_ne (x := 0) z.1)
        rw [if_neg hn] at f2
        refine g_iconst (pc := 56) (v := 0) C dX5_readBooking_56 rfl ?_
        exact g_zret (post := fun r M1 P1 => P1 = P ∧ (∀ a, a ≠ 367 → M1 a = M a) ∧ M1 367 1 = nI len ∧ PBp M1 (pBook t len p) r) C F dX5_readBooking_57 (by first | exact Or.inl rfl | exact Or.inr rfl) ⟨rfl, f9, f1, by rw [pBook, if_pos a0, if_pos a1, if_neg hn]; exact ⟨rfl, f2⟩⟩
      · have a2 : dg5 t len (p + 2) := Decidable.byContradiction fun z => c44 (if_neg z)
        rw [if_pos a2] at f2
        rw [if_pos a2] at s4
        have b2 := sg_lt a2.1
        refine g_aload_0 (pc := 47) C dX5_readBooking_47 ?_
        refine g_bipush (pc := 48) (v := 43) C dX5_readBooking_48 rfl ?_
        refine g_V1ie (pc := 50) C e_X5_readBooking_29 (Nat.le_of_ble_eq_true rfl) rfl dX5_readBooking_50 kk367 (c5_sign hs (M := M3) (p := p + 3) f1 f2 hl (by omega) ht2) ?_
        refine g_memo (fun M4 => M4 367 1 = nI len ∧ M4 367 2 = nI (if sg t len (p + 3) = 43 then p + 3 + 1 else p + 3) ∧ M4 367 3 = sg t len p - 48 ∧ M4 367 4 = sg t len (p + 2) - 48 ∧ (∀ a, a ≠ 367 → M4 a = M a)) ⟨by simp [up_same, up_ne, f1, s3, s4], by simp [up_same, up_ne, f1, s3, s4], by simp [up_same, up_ne, f1, s3, s4], by simp [up_same, up_ne, f1, s3, s4], fun a ha => by simp [up_ne, ha, f9 a ha]⟩ (fun M4 hM4 => ?_)
        obtain ⟨f1, f2, s3, s4, f9⟩ := hM4
        have ht2 : ∀ i, i < len → M4 368 i = t i := fun i hi => by rw [f9 368 (by decide)]; exact ht i hi
        refine g_if_ne (pc := 53) (tgt := 58) C dX5_readBooking_53 (by decide) (fun c53 => ?_) (fun c53 => ?_)
        · have a3 : sg t len (p + 3) = 43 := if1 c53
          rw [if_pos a3] at f2
          have b3 := sg_le a3 (by decide)
          have b4 := pnQ_le (t := t) (m := 99) (show p + 4 ≤ len by omega)
          refine g_aload_0 (pc := 58) C dX5_readBooking_58 ?_
          refine g_aload_0 (pc := 59) C dX5_readBooking_59 ?_
          refine g_bipush (pc := 60) (v := 99) C dX5_readBooking_60 rfl ?_
          refine g_V1ie (pc := 62) C e_X5_readBooking_43 (Nat.le_of_ble_eq_true rfl) rfl dX5_readBooking_62 kk367 (c5_num hs (M := M4) (p := p + 4) f1 f2 hl (by omega) ht2) ?_
          refine g_puti (pc := 65) C pf_X5_readBooking_47 kk367 dX5_readBooking_65 ?_
          refine g_memo (fun M5 => M5 367 1 = nI len ∧ M5 367 2 = nI (pnQ t len (p + 4) 99) ∧ M5 367 3 = sg t len p - 48 ∧ M5 367 4 = sg t len (p + 2) - 48 ∧ M5 367 5 = pnV t len (p + 4) 99 ∧ (∀ a, a ≠ 367 → M5 a = M a)) ⟨by simp [up_same, up_ne, f1, s3, s4], by simp [up_same, up_ne, f1, s3, s4], by simp [up_same, up_ne, f1, s3, s4], by simp [up_same, up_ne, f1, s3, s4], by simp [up_same, up_ne, f1, s3, s4], fun a ha => by simp [up_ne, ha, f9 a ha]⟩ (fun M5 hM5 => ?_)
          obtain ⟨f1, f2, s3, s4, s5, f9⟩ := hM5
          have ht2 : ∀ i, i < len → M5 368 i = t i := fun i hi => by rw [f9 368 (by decide)]; exact ht i hi
          refine g_aload_0 (pc := 68) C dX5_readBooking_68 ?_
          refine g_geti (pc := 69) C fl_X5_readBooking_47 kk367 dX5_readBooking_69 ?_
          rw [s5]
          refine g_iconst (pc := 72) (v := -1) C dX5_readBooking_72 rfl ?_
          refine g_icmp_eq (pc := 73) (tgt := 85) C dX5_readBooking_73 (by decide) (fun c73 => ?_) (fun c73 => ?_)
          · have a4 := pnV_none.mp c73
            rw [show pnQ t len (p + 4) 99 = p + 4 by unfold pnQ; rw [a4]] at f2
            refine g_iconst (pc := 85) (v := 0) C dX5_readBooking_85 rfl ?_
            exact g_zret (post := fun r M1 P1 => P1 = P ∧ (∀ a, a ≠ 367 → M1 a = M a) ∧ M1 367 1 = nI len ∧ PBp M1 (pBook t len p) r) C F dX5_readBooking_86 (by first | exact Or.inl rfl | exact Or.inr rfl) ⟨rfl, f9, f1, by rw [pBook, if_pos a0, if_pos a1, if_pos a2, if_pos a3, if_pos a4]; exact ⟨rfl, f2⟩⟩
          · have a4 : ¬ pNum t len (p + 4) 99 = none := fun z => c73 (pnV_none.mpr z)
            refine g_aload_0 (pc := 76) C dX5_readBooking_76 ?_
            refine g_bipush (pc := 77) (v := 104) C dX5_readBooking_77 rfl ?_
            refine g_V1ie (pc := 79) C e_X5_readBooking_29 (Nat.le_of_ble_eq_true rfl) rfl dX5_readBooking_79 kk367 (c5_sign hs (M := M5) (p := pnQ t len (p + 4) 99) f1 f2 hl b4.1 ht2) ?_
            refine g_memo (fun M6 => M6 367 1 = nI len ∧ M6 367 2 = nI (if sg t len (pnQ t len (p + 4) 99) = 104 then pnQ t len (p + 4) 99 + 1 else pnQ t len (p + 4) 99) ∧ M6 367 3 = sg t len p - 48 ∧ M6 367 4 = sg t len (p + 2) - 48 ∧ M6 367 5 = pnV t len (p + 4) 99 ∧ (∀ a, a ≠ 367 → M6 a = M a)) ⟨by simp [up_same, up_ne, f1, s3, s4, s5], by simp [up_same, up_ne, f1, s3, s4, s5], by simp [up_same, up_ne, f1, s3, s4, s5], by simp [up_same, up_ne, f1, s3, s4, s5], by simp [up_same, up_ne, f1, s3, s4, s5], fun a ha => by simp [up_ne, ha, f9 a ha]⟩ (fun M6 hM6 => ?_)
            obtain ⟨f1, f2, s3, s4, s5, f9⟩ := hM6
            have ht2 : ∀ i, i < len → M6 368 i = t i := fun i hi => by rw [f9 368 (by decide)]; exact ht i hi
            refine g_if_ne (pc := 82) (tgt := 87) C dX5_readBooking_82 (by decide) (fun c82 => ?_) (fun c82 => ?_)
            · have a5 : sg t len (pnQ t len (p + 4) 99) = 104 := if1 c82
              rw [if_pos a5] at f2
              have b5 := sg_le a5 (by decide)
              refine g_aload_0 (pc := 87) C dX5_readBooking_87 ?_
              refine g_aload_0 (pc := 88) C dX5_readBooking_88 ?_
              refine g_bipush (pc := 89) (v := 12) C dX5_readBooking_89 rfl ?_
              refine g_V1ie (pc := 91) C e_X5_readBooking_43 (Nat.le_of_ble_eq_true rfl) rfl dX5_readBooking_91 kk367 (c5_num hs (M := M6) (p := pnQ t len (p + 4) 99 + 1) f1 f2 hl b5 ht2) ?_
              refine g_puti (pc := 94) C pf_X5_readBooking_50 kk367 dX5_readBooking_94 ?_
              refine g_memo (fun M7 => M7 367 1 = nI len ∧ M7 367 2 = nI (pnQ t len (pnQ t len (p + 4) 99 + 1) 12) ∧ M7 367 3 = sg t len p - 48 ∧ M7 367 4 = sg t len (p + 2) - 48 ∧ M7 367 5 = pnV t len (p + 4) 99 ∧ M7 367 6 = pnV t len (pnQ t len (p + 4) 99 + 1) 12 ∧ (∀ a, a ≠ 367 → M7 a = M a)) ⟨by simp [up_same, up_ne, f1, s3, s4, s5], by simp [up_same, up_ne, f1, s3, s4, s5], by simp [up_same, up_ne, f1, s3, s4, s5], by simp [up_same, up_ne, f1, s3, s4, s5], by simp [up_same, up_ne, f1, s3, s4, s5], by simp [up_same, up_ne, f1, s3, s4, s5], fun a ha => by simp [up_ne, ha, f9 a ha]⟩ (fun M7 hM7 => ?_)
              obtain ⟨f1, f2, s3, s4, s5, s6, f9⟩ := hM7
              have ht2 : ∀ i, i < len → M7 368 i = t i := fun i hi => by rw [f9 368 (by decide)]; exact ht i hi
              refine g_aload_0 (pc := 97) C dX5_readBooking_97 ?_
              refine g_geti (pc := 98) C fl_X5_readBooking_50 kk367 dX5_readBooking_98 ?_
              rw [s6]
              refine g_iconst (pc := 101) (v := -1) C dX5_readBooking_101 rfl ?_
              refine g_icmp_eq (pc := 102) (tgt := 109) C dX5_readBooking_102 (by decide) (fun c102 => ?_) (fun c102 => ?_)
              · have a6 := pnV_none.mp c102
                rw [show pnQ t len (pnQ t len (p + 4) 99 + 1) 12 = pnQ t len (p + 4) 99 + 1 by rw [pnQ, a6]] at f2
                refine g_iconst (pc := 109) (v := 0) C dX5_readBooking_109 rfl ?_
                exact g_zret (post := fun r M1 P1 => P1 = P ∧ (∀ a, a ≠ 367 → M1 a = M a) ∧ M1 367 1 = nI len ∧ PBp M1 (pBook t len p) r) C F dX5_readBooking_110 (by first | exact Or.inl rfl | exact Or.inr rfl) ⟨rfl, f9, f1, by rw [pBook, if_pos a0, if_pos a1, if_pos a2, if_pos a3, if_neg a4, if_pos a5, if_pos a6]; exact ⟨rfl, f2⟩⟩
              · have a6 : ¬ pNum t len (pnQ t len (p + 4) 99 + 1) 12 = none := fun z => c102 (pnV_none.mpr z)
                refine g_iconst (pc := 105) (v := 1) C dX5_readBooking_105 rfl ?_
                refine g_goto (pc := 106) (tgt := 110) C dX5_readBooking_106 (by decide) ?_
                exact g_zret (post := fun r M1 P1 => P1 = P ∧ (∀ a, a ≠ 367 → M1 a = M a) ∧ M1 367 1 = nI len ∧ PBp M1 (pBook t len p) r) C F dX5_readBooking_110 (by first | exact Or.inl rfl | exact Or.inr rfl) ⟨rfl, f9, f1, by rw [pBook, if_pos a0, if_pos a1, if_pos a2, if_pos a3, if_neg a4, if_pos a5, if_neg a6]; exact ⟨rfl, f2, s3, s4, s5, s6⟩⟩
            · have a5 : ¬ sg t len (pnQ t len (p + 4) 99) = 104 := if0 c82
              rw [if_neg a5] at f2
              refine g_iconst (pc := 85) (v := 0) C dX5_readBooking_85 rfl ?_
              exact g_zret (post := fun r M1 P1 => P1 = P ∧ (∀ a, a ≠ 367 → M1 a = M a) ∧ M1 367 1 = nI len ∧ PBp M1 (pBook t len p) r) C F dX5_readBooking_86 (by first | exact Or.inl rfl | exact Or.inr rfl) ⟨rfl, f9, f1, by rw [pBook, if_pos a0, if_pos a1, if_pos a2, if_pos a3, if_neg a4, if_neg a5]; exact ⟨rfl, f2⟩⟩
        · have a3 : ¬ sg t len (p + 3) = 43 := if0 c53
          rw [if_neg a3] at f2
          refine g_iconst (pc := 56) (v := 0) C dX5_readBooking_56 rfl ?_
          exact g_zret (post := fun r M1 P1 => P1 = P ∧ (∀ a, a ≠ 367 → M1 a = M a) ∧ M1 367 1 = nI len ∧ PBp M1 (pBook t len p) r) C F dX5_readBooking_57 (by first | exact Or.inl rfl | exact Or.inr rfl) ⟨rfl, f9, f1, by rw [pBook, if_pos a0, if_pos a1, if_pos a2, if_neg a3]; exact ⟨rfl, f2⟩⟩
    · have a1 : ¬ sg t len (p + 1) = 109 := if0 c24
      rw [if_neg a1] at f2
      refine g_iconst (pc := 27) (v := 0) C dX5_readBooking_27 rfl ?_
      exact g_zret (post := fun r M1 P1 => P1 = P ∧ (∀ a, a ≠ 367 → M1 a = M a) ∧ M1 367 1 = nI len ∧ PBp M1 (pBook t len p) r) C F dX5_readBooking_28 (by first | exact Or.inl rfl | exact Or.inr rfl) ⟨rfl, f9, f1, by rw [pBook, if_pos a0, if_neg a1]; exact ⟨rfl, f2⟩⟩
