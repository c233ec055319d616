set_option maxRecDepth 100000 in
set_option maxHeartbeats 1000000 in
theorem c_bitsOfA {l : Launch} {D : va_G} {cy : Nat → ClassId} {B : Nat} {M : MM} {P : PP} {x : UInt32} (h0 : 0 < Op.cmpValue (FP.fcmp x FP.fconst0) .g) (h1 : bo1 126 x = true) (h2 : bo2 126 (bR1 x).1 = true) (h3 : vf_n32 (bFr x)) (h4 : vf_n32 (FP.fmul (bFr x) 1258291200)) : KI l D cy B yX6_bitsOf wsX6_bitsOf 0 0 [Value.float x] M P (qi (bOut x) M P) := by
  refine met_KI (cc := cX6_bitsOf) (maxL := 4) (ret := (some .int)) (lv := [some (Value.float x), none, none, none]) (by decide) rfl rfl rfl (Nat.le_of_ble_eq_true rfl) ?_
  intro X C F
  refine g_fload_0 (pc := 0) C dX6_bitsOf_0 ?_
  refine g_fconst0 (pc := 1) C dX6_bitsOf_1 ?_
  refine g_fcmp (pc := 2) C dX6_bitsOf_2 ?_
  refine g_if_gt (pc := 3) (tgt := 8) C dX6_bitsOf_3 (by decide) (fun c3 => ?_) (fun c3 => ?_)
  · refine g_bipush (pc := 8) (v := 127) C dX6_bitsOf_8 rfl ?_
    refine g_istore_1 (pc := 10) C dX6_bitsOf_10 ?_
    refine g_fload_0 (pc := 11) C dX6_bitsOf_11 ?_
    refine g_fstore_2 (pc := 12) C dX6_bitsOf_12 ?_
    refine g_iconst (pc := 13) (v := 0) C dX6_bitsOf_13 rfl ?_
    refine g_istore_3 (pc := 14) C dX6_bitsOf_14 ?_
    refine ind_m (fun (k : Nat) => 126 - k) (p := fun (k : Nat) => ∀ (f : UInt32) (e : Int32), k ≤ 126 → bl1 (126 - k) f e = bR1 x → bo1 (126 - k) f = true → G X D cy B 0 0 369 M P 15 [some (Value.float x), some (Value.int e), some (Value.float f), some (Value.int (nI k))] []) ?_ 0 x 127 (Nat.zero_le _) rfl h1
    intro k ih f e hk i1 i2
    refine g_iload_3 (pc := 15) C dX6_bitsOf_15 ?_
    refine g_bipush (pc := 16) (v := 126) C dX6_bitsOf_16 rfl ?_
    refine g_icmp_ge (pc := 18) (tgt := 42) C dX6_bitsOf_18 (by decide) (fun c18 => ?_) (fun c18 => ?_)
    · have z : 126 ≤ k := i_le (a := 126) (by omega) (by omega) c18
      rw [show 126 - k = 0 by omega] at i1
      have i3 : bR1 x = (f, e) := i1.symm
      refine g_iconst (pc := 42) (v := 0) C dX6_bitsOf_42 rfl ?_
      refine g_istore_3 (pc := 43) C dX6_bitsOf_43 ?_
      have i4 : bl2 126 f e = bR2 x := by unfold bR2; rw [i3]
      have i5 : bo2 126 f = true := by rw [show f = (bR1 x).1 by rw [i3]]; exact h2
      clear ih i1 i2 i3
      revert i4 i5
      refine ind_m (fun (k : Nat) => 126 - k) (p := fun (k : Nat) => ∀ (f : UInt32) (e : Int32), k ≤ 126 → bl2 (126 - k) f e = bR2 x → bo2 (126 - k) f = true → G X D cy B 0 0 369 M P 44 [some (Value.float x), some (Value.int e), some (Value.float f), some (Value.int (nI k))] []) ?_ 0 f e (Nat.zero_le _)
      intro k ih f e hk i1 i2
      refine g_iload_3 (pc := 44) C dX6_bitsOf_44 ?_
      refine g_bipush (pc := 45) (v := 126) C dX6_bitsOf_45 rfl ?_
      refine g_icmp_ge (pc := 47) (tgt := 69) C dX6_bitsOf_47 (by decide) (fun c47 => ?_) (fun c47 => ?_)
      · have z : 126 ≤ k := i_le (a := 126) (by omega) (by omega) c47
        rw [show 126 - k = 0 by omega] at i1
        have i3 : bR2 x = (f, e) := i1.symm
        refine g_iload_1 (pc := 69) C dX6_bitsOf_69 ?_
        refine g_bipush (pc := 70) (v := 23) C dX6_bitsOf_70 rfl ?_
        refine g_ishl (pc := 72) C dX6_bitsOf_72 ?_
        refine g_fload_2 (pc := 73) C dX6_bitsOf_73 ?_
        refine g_fconst1 (pc := 74) C dX6_bitsOf_74 ?_
        refine g_fsub (pc := 75) C dX6_bitsOf_75 (by rw [show f = (bR2 x).1 by rw [i3]]; exact h3) ?_
        refine g_ldcwf (pc := 76) C k_X6_bitsOf_277 dX6_bitsOf_76 ?_
        refine g_fmul (pc := 79) C dX6_bitsOf_79 (by rw [show f = (bR2 x).1 by rw [i3]]; exact h4) ?_
        refine g_f2i (pc := 80) C dX6_bitsOf_80 ?_
        refine g_ior (pc := 81) C dX6_bitsOf_81 ?_
        exact g_iret (post := qi (bOut x) M P) C F dX6_bitsOf_82 ⟨by unfold bOut bFr; rw [i3], rfl, rfl⟩
      · have hk2 : k < 126 := i_nle (a := 126) (by omega) (by omega) c47
        refine g_fload_2 (pc := 50) C dX6_bitsOf_50 ?_
        refine g_fconst1 (pc := 51) C dX6_bitsOf_51 ?_
        refine g_fcmp (pc := 52) C dX6_bitsOf_52 ?_
        refine g_if_ge (pc := 53) (tgt := 69) C dX6_bitsOf_53 (by decide) (fun c53 => ?_) (fun c53 => ?_)
        · have i3 : bR2 x = (f, e) := by
            rw [← i1, show 126 - k = 126 - (k + 1) + 1 by omega]
            simp only [bl2, if_pos c53]
          refine g_iload_1 (pc := 69) C dX6_bitsOf_69 ?_
          refine g_bipush (pc := 70) (v := 23) C dX6_bitsOf_70 rfl ?_
          refine g_ishl (pc := 72) C dX6_bitsOf_72 ?_
          refine g_fload_2 (pc := 73) C dX6_bitsOf_73 ?_
          refine g_fconst1 (pc := 74) C dX6_bitsOf_74 ?_
          refine g_fsub (pc := 75) C dX6_bitsOf_75 (by rw [show f = (bR2 x).1 by rw [i3]]; exact h3) ?_
          refine g_ldcwf (pc := 76) C k_X6_bitsOf_277 dX6_bitsOf_76 ?_
          refine g_fmul (pc := 79) C dX6_bitsOf_79 (by rw [show f = (bR2 x).1 by rw [i3]]; exact h4) ?_
          refine g_f2i (pc := 80) C dX6_bitsOf_80 ?_
          refine g_ior (pc := 81) C dX6_bitsOf_81 ?_
          exact g_iret (post := qi (bOut x) M P) C F dX6_bitsOf_82 ⟨by unfold bOut bFr; rw [i3], rfl, rfl⟩
        · rw [show 126 - k = 126 - (k + 1) + 1 by omega] at i2
          obtain ⟨g1, g2⟩ := bo2_s i2 c53
          refine g_fload_2 (pc := 56) C dX6_bitsOf_56 ?_
          refine g_fconst2 (pc := 57) C dX6_bitsOf_57 ?_
          refine g_fmul (pc := 58) C dX6_bitsOf_58 g1 ?_
          refine g_fstore_2 (pc := 59) C dX6_bitsOf_59 ?_
          refine g_iinc_1 (pc := 60) (v := (e + -1)) C dX6_bitsOf_60 rfl ?_
          refine g_iinc_3 (pc := 63) (v := nI (k + 1)) C dX6_bitsOf_63 (nI_1 k) ?_
          refine g_goto (pc := 66) (tgt := 44) C dX6_bitsOf_66 (by decide) ?_
          exact ih (k + 1) (by omega) _ _ (by omega) (by rw [← i1, show 126 - k = 126 - (k + 1) + 1 by omega]; simp only [bl2, if_neg c53]) g2
    · have hk2 : k < 126 := i_nle (a := 126) (by omega) (by omega) c18
      refine g_fload_2 (pc := 21) C dX6_bitsOf_21 ?_
      refine g_fconst2 (pc := 22) C dX6_bitsOf_22 ?_
      refine g_fcmp (pc := 23) C dX6_bitsOf_23 ?_
      refine g_if_lt (pc := 24) (tgt := 42) C dX6_bitsOf_24 (by decide) (fun c24 => ?_) (fun c24 => ?_)
      · have i3 : bR1 x = (f, e) := by
          rw [← i1, show 126 - k = 126 - (k + 1) + 1 by omega]
          simp only [bl1, if_pos c24]
        refine g_iconst (pc := 42) (v := 0) C dX6_bitsOf_42 rfl ?_
        refine g_istore_3 (pc := 43) C dX6_bitsOf_43 ?_
        have i4 : bl2 126 f e = bR2 x := by unfold bR2; rw [i3]
        have i5 : bo2 126 f = true := by rw [show f = (bR1 x).1 by rw [i3]]; exact h2
        clear ih i1 i2 i3
        revert i4 i5
        refine ind_m (fun (k : Nat) => 126 - k) (p := fun (k : Nat) => ∀ (f : UInt32) (e : Int32), k ≤ 126 → bl2 (126 - k) f e = bR2 x → bo2 (126 - k) f = true → G X D cy B 0 0 369 M P 44 [some (Value.float x), some (Value.int e), some (Value.float f), some (Value.int (nI k))] []) ?_ 0 f e (Nat.zero_le _)
        intro k ih f e hk i1 i2
        refine g_iload_3 (pc := 44) C dX6_bitsOf_44 ?_
        refine g_bipush (pc := 45) (v := 126) C dX6_bitsOf_45 rfl ?_
        refine g_icmp_ge (pc := 47) (tgt := 69) C dX6_bitsOf_47 (by decide) (fun c47 => ?_) (fun c47 => ?_)
        · have z : 126 ≤ k := i_le (a := 126) (by omega) (by omega) c47
          rw [show 126 - k = 0 by omega] at i1
          have i3 : bR2 x = (f, e) := i1.symm
          refine g_iload_1 (pc := 69) C dX6_bitsOf_69 ?_
          refine g_bipush (pc := 70) (v := 23) C dX6_bitsOf_70 rfl ?_
          refine g_ishl (pc := 72) C dX6_bitsOf_72 ?_
          refine g_fload_2 (pc := 73) C dX6_bitsOf_73 ?_
          refine g_fconst1 (pc := 74) C dX6_bitsOf_74 ?_
          refine g_fsub (pc := 75) C dX6_bitsOf_75 (by rw [show f = (bR2 x).1 by rw [i3]]; exact h3) ?_
          refine g_ldcwf (pc := 76) C k_X6_bitsOf_277 dX6_bitsOf_76 ?_
          refine g_fmul (pc := 79) C dX6_bitsOf_79 (by rw [show f = (bR2 x).1 by rw [i3]]; exact h4) ?_
          refine g_f2i (pc := 80) C dX6_bitsOf_80 ?_
          refine g_ior (pc := 81) C dX6_bitsOf_81 ?_
          exact g_iret (post := qi (bOut x) M P) C F dX6_bitsOf_82 ⟨by unfold bOut bFr; rw [i3], rfl, rfl⟩
        · have hk2 : k < 126 := i_nle (a := 126) (by omega) (by omega) c47
          refine g_fload_2 (pc := 50) C dX6_bitsOf_50 ?_
          refine g_fconst1 (pc := 51) C dX6_bitsOf_51 ?_
          refine g_fcmp (pc := 52) C dX6_bitsOf_52 ?_
          refine g_if_ge (pc := 53) (tgt := 69) C dX6_bitsOf_53 (by decide) (fun c53 => ?_) (fun c53 => ?_)
          · have i3 : bR2 x = (f, e) := by
              rw [← i1, show 126 - k = 126 - (k + 1) + 1 by omega]
              simp only [bl2, if_pos c53]
            refine g_iload_1 (pc := 69) C dX6_bitsOf_69 ?_
            refine g_bipush (pc := 70) (v := 23) C dX6_bitsOf_70 rfl ?_
            refine g_ishl (pc := 72) C dX6_bitsOf_72 ?_
            refine g_fload_2 (pc := 73) C dX6_bitsOf_73 ?_
            refine g_fconst1 (pc := 74) C dX6_bitsOf_74 ?_
            refine g_fsub (pc := 75) C dX6_bitsOf_75 (by rw [show f = (bR2 x).1 by rw [i3]]; exact h3) ?_
            refine g_ldcwf (pc := 76) C k_X6_bitsOf_277 dX6_bitsOf_76 ?_
            refine g_fmul (pc := 79) C dX6_bitsOf_79 (by rw [show f = (bR2 x).1 by rw [i3]]; exact h4) ?_
            refine g_f2i (pc := 80) C dX6_bitsOf_80 ?_
            refine g_ior (pc := 81) C dX6_bitsOf_81 ?_
            exact g_iret (post := qi (bOut x) M P) C F dX6_bitsOf_82 ⟨by unfold bOut bFr; rw [i3], rfl, rfl⟩
          · rw [show 126 - k = 126 - (k + 1) + 1 by omega] at i2
            obtain ⟨g1, g2⟩ := bo2_s i2 c53
            refine g_fload_2 (pc := 56) C dX6_bitsOf_56 ?_
            refine g_fconst2 (pc := 57) C dX6_bitsOf_57 ?_
            refine g_fmul (pc := 58) C dX6_bitsOf_58 g1 ?_
            refine g_fstore_2 (pc := 59) C dX6_bitsOf_59 ?_
            refine g_iinc_1 (pc := 60) (v := (e + -1)) C dX6_bitsOf_60 rfl ?_
            refine g_iinc_3 (pc := 63) (v := nI (k + 1)) C dX6_bitsOf_63 (nI_1 k) ?_
            refine g_goto (pc := 66) (tgt := 44) C dX6_bitsOf_66 (by decide) ?_
            exact ih (k + 1) (by omega) _ _ (by omega) (by rw [← i1, show 126 - k = 126 - (k + 1) + 1 by omega]; simp only [bl2, if_neg c53]) g2
      · rw [show 126 - k = 126 - (k + 1) + 1 by omega] at i2
        obtain ⟨g1, g2⟩ := bo1_s i2 c24
        refine g_fload_2 (pc := 27) C dX6_bitsOf_27 ?_
        refine g_ldcwf (pc := 28) C k_X6_bitsOf_273 dX6_bitsOf_28 ?_
        refine g_fmul (pc := 31) C dX6_bitsOf_31 g1 ?_
        refine g_fstore_2 (pc := 32) C dX6_bitsOf_32 ?_
        refine g_iinc_1 (pc := 33) (v := (e + 1)) C dX6_bitsOf_33 rfl ?_
        refine g_iinc_3 (pc := 36) (v := nI (k + 1)) C dX6_bitsOf_36 (nI_1 k) ?_
        refine g_goto (pc := 39) (tgt := 15) C dX6_bitsOf_39 (by decide) ?_
        exact ih (k + 1) (by omega) _ _ (by omega) (by rw [← i1, show 126 - k = 126 - (k + 1) + 1 by omega]; simp only [bl1, if_neg c24]) g2
  · exact absurd h0 c3

set_option maxRecDepth 100000 in
set_option maxHeartbeats 1000000 in
theorem c_bitsOf0 {l : Launch} {D : va_G} {cy : Nat → ClassId} {B : Nat} {M : MM} {P : PP} {x : UInt32} (h0 : ¬ 0 < Op.cmpValue (FP.fcmp x FP.fconst0) .g) : KI l D cy B yX6_bitsOf wsX6_bitsOf 0 0 [Value.float x] M P (qi 0 M P) := by
  refine met_KI (cc := cX6_bitsOf) (maxL := 4) (ret := (some .int)) (lv := [some (Value.float x), none, none, none]) (by decide) rfl rfl rfl (Nat.le_of_ble_eq_true rfl) ?_
  intro X C F
  refine g_fload_0 (pc := 0) C dX6_bitsOf_0 ?_
  refine g_fconst0 (pc := 1) C dX6_bitsOf_1 ?_
  refine g_fcmp (pc := 2) C dX6_bitsOf_2 ?_
  refine g_if_gt (pc := 3) (tgt := 8) C dX6_bitsOf_3 (by decide) (fun c3 => ?_) (fun c3 => ?_)
  · exact absurd c3 h0
  · refine g_iconst (pc := 6) (v := 0) C dX6_bitsOf_6 rfl ?_
    exact g_iret (post := qi 0 M P) C F dX6_bitsOf_7 ⟨rfl, rfl, rfl⟩

theorem c_bitsOf {l : Launch} {D : va_G} {cy : Nat → ClassId} {B : Nat} {M : MM} {P : PP} {q : Nat} (hq : q ≤ 2400) : KI l D cy B yX6_bitsOf wsX6_bitsOf 0 0 [Value.float (qbU q)] M P (qi (qb q) M P) := by
  rcases Nat.eq_zero_or_pos q with e | e
  · subst e
    rw [qb_0]
    exact c_bitsOf0 (by rw [← q_0]; decide +kernel)
  · have h := bChk_ok e hq
    unfold bChk at h
    simp only [Bool.and_eq_true, decide_eq_true_eq, Bool.not_eq_true'] at h
    obtain ⟨⟨⟨⟨⟨h0, h1⟩, h2⟩, h3⟩, h4⟩, h5⟩ := h
    rw [← h5]
    exact c_bitsOfA h0 h1 h2 (n32_of h3) (n32_of h4)
