theorem n64_of {x : UInt64} (h : FP.Core.dIsNaN x = false) : vf_n64 x := by
  have h1 : ¬ 9218868437227405312 < x.toNat % 2 ^ 63 := fun z => by
    have := (FP.Core.isNaN_bits x).mpr z
    rw [h] at this
    cases this
  unfold vf_n64
  rw [UInt64.le_iff_toNat_le, UInt64.toNat_and]
  have e : (0x7fffffffffffffff : UInt64).toNat = 2 ^ 63 - 1 := by decide
  have e2 : (0x7ff0000000000000 : UInt64).toNat = 9218868437227405312 := by decide
  rw [e, e2, Nat.and_two_pow_sub_one_eq_mod]
  omega
theorem aFuel_d {A : AS} {c : Nat} (hA : WA c A) (x : Int32) : vf_n64 (FP.f2d (aFuel A x)) := by
  refine n64_of ((FP.f2d_nan _).trans ?_)
  unfold aFuel
  by_cases hi : isM A x
  · obtain ⟨a, ha, hx, hcl⟩ := isM_of hA hi
    rw [if_pos hi, hcl, (fq_of (hA.1.wm ha)).2, qb_U]
    exact (qbU_fin (by have := (fq_of (hA.1.wm ha)).1; omega)).notNaN
  · rw [if_neg hi]
    decide
theorem hasL_law {ls : Array Slot} {l : List (Nat × Value)} {b B i : Nat} (h : lv_has ls 8 l) (h0 : (0, Value.ref b) ∈ l) (h1 : (1, Value.ref (B + 0)) ∈ l) (h2 : (2, Value.ref (B + 369)) ∈ l) (h3 : (3, Value.int (nI i)) ∈ l) : hasL ls [some (Value.ref b), some (Value.ref (B + 0)), some (Value.ref (B + 369)), some (Value.int (nI (i))), none, none, none, none] := by
  refine hasL.of h rfl fun j v hj => ?_
  rcases (show j = 0 ∨ j = 1 ∨ j = 2 ∨ j = 3 ∨ j = 4 ∨ j = 5 ∨ j = 6 ∨ j = 7 ∨ 8 ≤ j by omega) with rfl | rfl | rfl | rfl | rfl | rfl | rfl | rfl | hj8
  · cases hj
    exact ⟨h0, rfl⟩
  · cases hj
    exact ⟨h1, rfl⟩
  · cases hj
    exact ⟨h2, rfl⟩
  · cases hj
    exact ⟨h3, rfl⟩
  · cases hj
  · cases hj
  · cases hj
  · cases hj
  · rw [List.getElem?_eq_none (by simpa using hj8)] at hj
    cases hj
set_option maxRecDepth 100000 in
set_option maxHeartbeats 1000000 in
theorem law_19 {X : GX} {l : Launch} {D : va_G} {cy : Nat → ClassId} {B b L : Nat} {xs : Nat → Int32} {M : MM} {P : PP} (C : Cx X D cy B cL_law 8 RL wsL_law l 8 278 600000 7302250) (S : Sx X B b L xs) (hL : L ≤ 2560) {i c : Nat} {A : AS} (hi : i + 4 < L) (hj : JC M P A) (hm : JM M P A) (hA : WA c A) (hT : TA A) (hc : c + 60 ≤ 40000) (nx : ∀ (M1 : MM) (P1 : PP) (A1 : AS), JC M1 P1 A1 → JM M1 P1 A1 → WA (c + 60) A1 → TA A1 → G X D cy B 600000 7302250 376 M1 P1 919 [some (Value.ref b), some (Value.ref (B + 0)), some (Value.ref (B + 369)), some (Value.int (nI (i))), none, none, none, none] []) : G X D cy B 600000 7302250 376 M P 675 [some (Value.ref b), some (Value.ref (B + 0)), some (Value.ref (B + 369)), some (Value.int (nI (i))), none, none, none, none] [] := by
  refine g_aload_1 (pc := 675) C dL_law_675 ?_
  refine g_aload_0 (pc := 676) C dL_law_676 ?_
  refine g_iload_3 (pc := 677) C dL_law_677 ?_
  refine g_iconst (pc := 678) (v := 1) C dL_law_678 rfl ?_
  refine g_iadd (pc := 679) C dL_law_679 ?_
  refine g_sld (pc := 680) (j := i + 1) C S (show nI (i) + 1 = nI (i + 1) from nI_add _ 1) (by omega) hL dL_law_680 ?_
  refine g_V1fe (pc := 681) C e_L_law_95 (Nat.le_of_ble_eq_true rfl) rfl dL_law_681 kk0 (c6_fuel hj hA) ?_
  have hne := aFuel_d hA (xs (i + 1))
  have hM7 := c7_fuel (l := l) (D := D) (cy := cy) (B := B) (x := xs (i + 1)) hm hA
  generalize aFuel A (xs (i + 1)) = q at hne hM7 ⊢
  obtain ⟨bytes, maxL, ret, ws', T, N, e1, e2, e3, e4, e5, e6⟩ := e_L_law_99
  obtain ⟨p, l0, e, R, s, m, args, below, meth, c0, Q⟩ := X
  obtain ⟨hx, hb, hml, hown, hts, hK, hN, hRf, hRl, hRc, hRs, hll, hBs⟩ := id C
  obtain ⟨s1, s2, s3⟩ := id S
  intro H locs ls hP hS hl
  subst hll
  have h4 : lv_has ls 8 [(0, .ref b), (1, .ref (B + 0)), (2, .ref (B + 369)), (3, .int (nI i))] := hl.lv
  refine lv_f2d hx hb dL_law_684 hne ?_
  refine lv_dstore (lv' := [(4, .double (FP.f2d q)), (0, .ref b), (1, .ref (B + 0)), (2, .ref (B + 369)), (3, .int (nI i))]) hx hb dL_law_685 h4 (by decide) rfl (fun ls1 h5 => ?_)
  refine lv_aload_n hx hb dL_law_687 rfl (lv_at h5 3 rfl) ?_
  refine lv_aload_n hx hb dL_law_688 rfl (lv_at h5 1 rfl) ?_
  refine lv_iload_n hx hb dL_law_689 rfl (lv_at h5 4 rfl) ?_
  refine lv_iconst (v := 1) hx hb dL_law_690 rfl ?_
  refine lv_iadd hx hb dL_law_691 ?_
  refine va_sld (A := fun q => B ≤ q) hx hb s1 s2 (by rw [← s3]; exact Nat.not_le.mpr s2) hS (by rw [show nI i + 1 = nI (i + 1) from nI_add _ 1]; exact vp_in_nI (show i + 1 < L by omega) (by omega)) dL_law_692 ?_
  rw [show nI i + 1 = nI (i + 1) from nI_add _ 1, nI_clamp (show i + 1 < 2 ^ 31 by omega)]
  refine va_callf (va_runV (As := [Value.int (xs (i + 1))]) (rest := []) ⟨hx, hb, hml, hown, hts⟩ hM7 (cwV 1 hts e1 e2 rfl rfl e3 (by rw [hRf, hRl]; exact e4)) ⟨fun a U g mk q => ⟨q.1, q.2.blind g mk a⟩, va_recv hK hP (ci := 7) (q0 := 369) e5 ((wl_get kk369.1).trans (by rw [ce_obj kk369.2 e6])), fun U hU hW => ⟨rfl, by rw [hU]; exact hP, va_K.moved hW.alike hK, nws.warm hW hN⟩⟩ rfl rfl h5.1 rfl (lv_room (Nat.le_of_ble_eq_true rfl)) dL_law_693 ⟨by rw [hRc]; exact Nat.le_refl _, by rw [hRs]; exact Nat.le_refl _⟩) hS (fun q _ h => h) (fun q h => h) (fun r u t H1 locs1 ht hvm hp hB hz1 hk1 hS1 => ?_)
  obtain ⟨rfl, m2, fl2⟩ := hp
  have j2 := JC_FL hj hA.z fl2
  have hP1 : va_P D vwCl (wl cy B 376 u.1 u.2) H1 := by rw [← ht]; exact hB.1
  refine lv_f2d hx hb dL_law_696 hne ?_
  refine lv_dstore (lv' := [(6, .double (FP.f2d r)), (4, .double (FP.f2d r)), (0, .ref b), (1, .ref (B + 0)), (2, .ref (B + 369)), (3, .int (nI i))]) hx hb dL_law_697 h5 (by decide) rfl (fun ls2 h6 => ?_)
  have hls : hasL ls2 [some (Value.ref b), some (Value.ref (B + 0)), some (Value.ref (B + 369)), some (Value.int (nI (i))), none, none, none, none] := hasL_law h6 (by simp) (by simp) (by simp) (by simp)
  have fin : W p l0 e R s m args below meth c0 H1 locs1 600000 7302250 Q (F0 m 919 ls2 []) := nx u.1 u.2 A j2 m2 (WA_mono hA (by omega) hc) hT H1 locs1 ls2 hP1 hS1 hls
  refine lv_dload hx hb dL_law_699 (lv_at h6 1 rfl) ?_
  refine lv_dload hx hb dL_law_701 (lv_at h6 0 rfl) ?_
  refine lv_dcmp hx hb dL_law_703 ?_
  refine lv_if_eq (tgt := 725) hx hb dL_law_704 (by decide) (fun _ => ?_) (fun c704 => ?_)
  · exact lv_goto (tgt := 919) hx hb dL_law_725 (by decide) fin
  refine lv_dload hx hb dL_law_707 (lv_at h6 1 rfl) ?_
  refine lv_dload hx hb dL_law_709 (lv_at h6 1 rfl) ?_
  refine lv_dcmp hx hb dL_law_711 ?_
  refine lv_if_eq (tgt := 723) hx hb dL_law_712 (by decide) (fun c712 => absurd c712 c704) (fun _ => ?_)
  refine lv_dload hx hb dL_law_715 (lv_at h6 0 rfl) ?_
  refine lv_dload hx hb dL_law_717 (lv_at h6 0 rfl) ?_
  refine lv_dcmp hx hb dL_law_719 ?_
  refine lv_if_ne (tgt := 725) hx hb dL_law_720 (by decide) (fun _ => ?_) (fun c720 => absurd c720 c704)
  exact lv_goto (tgt := 919) hx hb dL_law_725 (by decide) fin

set_option maxRecDepth 100000 in
set_option maxHeartbeats 4000000 in
theorem law_loop {X : GX} {l : Launch} {D : va_G} {cy : Nat → ClassId} {B b L : Nat} {xs : Nat → Int32} {M : MM} {P : PP} (C : Cx X D cy B cL_law 8 RL wsL_law l 8 278 600000 7302250) (S : Sx X B b L xs) (hL : L ≤ 2560) {A : AS} (hj : JC M P A) (hm : JM M P A) (hA : WA 0 A) (hT : TA A) (E : ∀ (M : MM) (P : PP) (lv : List (Option Value)), G X D cy B 600000 7302250 376 M P 925 lv []) : G X D cy B 600000 7302250 376 M P 18 [some (Value.ref b), some (Value.ref (B + 0)), some (Value.ref (B + 369)), some (Value.int (nI (0))), none, none, none, none] [] := by
  refine ind_m (fun (k : Nat) => 512 - k) (p := fun (k : Nat) => ∀ (M : MM) (P : PP) (A : AS), 5 * k ≤ L + 4 → JC M P A → JM M P A → WA (60 * k) A → TA A → G X D cy B 600000 7302250 376 M P 18 [some (Value.ref b), some (Value.ref (B + 0)), some (Value.ref (B + 369)), some (Value.int (nI (5 * k))), none, none, none, none] []) ?_ 0 M P A (by omega) hj hm hA hT
  clear hj hm hA hT
  intro k ih M P A hk hj hm hA hT
  refine g_iload_3 (pc := 18) C dL_law_18 ?_
  refine g_aload_0 (pc := 19) C dL_law_19 ?_
  refine g_slen (pc := 20) C S dL_law_20 ?_
  refine g_iconst (pc := 21) (v := 5) C dL_law_21 rfl ?_
  refine g_isub (pc := 22) C dL_law_22 ?_
  refine g_icmp_gt (pc := 23) (tgt := 925) C dL_law_23 (by decide) (fun c23 => ?_) (fun c23 => ?_)
  · exact E _ _ _
  · have hk5 : ¬ L < 5 * k + 5 := fun z => c23 ((law_gt (i := 5 * k) (by omega) hL).mpr z)
    have hc60 : 60 * k + 60 ≤ 40000 := by omega
    have hi4 : 5 * k + 4 < L := by omega
    have nx : ∀ (M1 : MM) (P1 : PP) (A1 : AS), JC M1 P1 A1 → JM M1 P1 A1 → WA (60 * k + 60) A1 → TA A1 → G X D cy B 600000 7302250 376 M1 P1 919 [some (Value.ref b), some (Value.ref (B + 0)), some (Value.ref (B + 369)), some (Value.int (nI (5 * k))), none, none, none, none] [] := by
      intro M1 P1 A1 g1 g2 g3 g4
      refine g_iinc_3 (pc := 919) (v := nI (5 * (k + 1))) C dL_law_919 (show nI (5 * k) + 5 = nI (5 * (k + 1)) from nI_add _ 5) ?_
      refine g_goto (pc := 922) (tgt := 18) C dL_law_922 (by decide) ?_
      exact ih (k + 1) (by omega) M1 P1 A1 (by omega) g1 g2 g3 g4
    refine g_aload_0 (pc := 26) C dL_law_26 ?_
    refine g_iload_3 (pc := 27) C dL_law_27 ?_
    refine g_sld (pc := 28) (j := 5 * k) C S rfl (by omega) hL dL_law_28 ?_
    refine g_bipush (pc := 29) (v := 31) C dL_law_29 rfl ?_
    refine g_iand (pc := 31) C dL_law_31 ?_
    by_cases h32_0 : (xs (5 * k) &&& 31) = 0
    · refine g_tableIn (pc := 32) (tgt := 156) C dL_law_32 (by rw [h32_0]; decide) (by rw [h32_0]; decide) (by rw [h32_0]; rfl) (by decide) ?_
      exact law_0 C S hL hi4 hj hm hA hT hc60 nx
    by_cases h32_1 : (xs (5 * k) &&& 31) = 1
    · refine g_tableIn (pc := 32) (tgt := 199) C dL_law_32 (by rw [h32_1]; decide) (by rw [h32_1]; decide) (by rw [h32_1]; rfl) (by decide) ?_
      exact law_1 C S hL hi4 hj hm hA hT hc60 nx
    by_cases h32_2 : (xs (5 * k) &&& 31) = 2
    · refine g_tableIn (pc := 32) (tgt := 232) C dL_law_32 (by rw [h32_2]; decide) (by rw [h32_2]; decide) (by rw [h32_2]; rfl) (by decide) ?_
      exact law_2 C S hL hi4 hj hm hA hT hc60 nx
    by_cases h32_3 : (xs (5 * k) &&& 31) = 3
    · refine g_tableIn (pc := 32) (tgt := 265) C dL_law_32 (by rw [h32_3]; decide) (by rw [h32_3]; decide) (by rw [h32_3]; rfl) (by decide) ?_
      exact law_3 C S hL hi4 hj hm hA hT hc60 nx
    by_cases h32_4 : (xs (5 * k) &&& 31) = 4
    · refine g_tableIn (pc := 32) (tgt := 308) C dL_law_32 (by rw [h32_4]; decide) (by rw [h32_4]; decide) (by rw [h32_4]; rfl) (by decide) ?_
      exact law_4 C S hL hi4 hj hm hA hT hc60 nx
    by_cases h32_5 : (xs (5 * k) &&& 31) = 5
    · refine g_tableIn (pc := 32) (tgt := 331) C dL_law_32 (by rw [h32_5]; decide) (by rw [h32_5]; decide) (by rw [h32_5]; rfl) (by decide) ?_
      exact law_5 C S hL hi4 hj hm hA hT hc60 nx
    by_cases h32_6 : (xs (5 * k) &&& 31) = 6
    · refine g_tableIn (pc := 32) (tgt := 364) C dL_law_32 (by rw [h32_6]; decide) (by rw [h32_6]; decide) (by rw [h32_6]; rfl) (by decide) ?_
      exact law_6 C S hL hi4 hj hm hA hT hc60 nx
    by_cases h32_7 : (xs (5 * k) &&& 31) = 7
    · refine g_tableIn (pc := 32) (tgt := 417) C dL_law_32 (by rw [h32_7]; decide) (by rw [h32_7]; decide) (by rw [h32_7]; rfl) (by decide) ?_
      exact law_7 C S hL hi4 hj hm hA hT hc60 nx
    by_cases h32_8 : (xs (5 * k) &&& 31) = 8
    · refine g_tableIn (pc := 32) (tgt := 430) C dL_law_32 (by rw [h32_8]; decide) (by rw [h32_8]; decide) (by rw [h32_8]; rfl) (by decide) ?_
      exact law_8 C S hL hi4 hj hm hA hT hc60 nx
    by_cases h32_9 : (xs (5 * k) &&& 31) = 9
    · refine g_tableIn (pc := 32) (tgt := 453) C dL_law_32 (by rw [h32_9]; decide) (by rw [h32_9]; decide) (by rw [h32_9]; rfl) (by decide) ?_
      exact law_9 C S hL hi4 hj hm hA hT hc60 nx
    by_cases h32_10 : (xs (5 * k) &&& 31) = 10
    · refine g_tableIn (pc := 32) (tgt := 476) C dL_law_32 (by rw [h32_10]; decide) (by rw [h32_10]; decide) (by rw [h32_10]; rfl) (by decide) ?_
      exact law_10 C S hL hi4 hj hm hA hT hc60 nx
    by_cases h32_11 : (xs (5 * k) &&& 31) = 11
    · refine g_tableIn (pc := 32) (tgt := 509) C dL_law_32 (by rw [h32_11]; decide) (by rw [h32_11]; decide) (by rw [h32_11]; rfl) (by decide) ?_
      exact law_11 C S hL hi4 hj hm hA hT hc60 nx
    by_cases h32_12 : (xs (5 * k) &&& 31) = 12
    · refine g_tableIn (pc := 32) (tgt := 532) C dL_law_32 (by rw [h32_12]; decide) (by rw [h32_12]; decide) (by rw [h32_12]; rfl) (by decide) ?_
      exact law_12 C S hL hi4 hj hm hA hT hc60 nx
    by_cases h32_13 : (xs (5 * k) &&& 31) = 13
    · refine g_tableIn (pc := 32) (tgt := 557) C dL_law_32 (by rw [h32_13]; decide) (by rw [h32_13]; decide) (by rw [h32_13]; rfl) (by decide) ?_
      exact law_13 C S hL hi4 hj hm hA hT hc60 nx
    by_cases h32_14 : (xs (5 * k) &&& 31) = 14
    · refine g_tableIn (pc := 32) (tgt := 570) C dL_law_32 (by rw [h32_14]; decide) (by rw [h32_14]; decide) (by rw [h32_14]; rfl) (by decide) ?_
      exact law_14 C S hL hi4 hj hm hA hT hc60 nx
    by_cases h32_15 : (xs (5 * k) &&& 31) = 15
    · refine g_tableIn (pc := 32) (tgt := 583) C dL_law_32 (by rw [h32_15]; decide) (by rw [h32_15]; decide) (by rw [h32_15]; rfl) (by decide) ?_
      exact law_15 C S hL hi4 hj hm hA hT hc60 nx
    by_cases h32_16 : (xs (5 * k) &&& 31) = 16
    · refine g_tableIn (pc := 32) (tgt := 596) C dL_law_32 (by rw [h32_16]; decide) (by rw [h32_16]; decide) (by rw [h32_16]; rfl) (by decide) ?_
      exact law_16 C S hL hi4 hj hm hA hT hc60 nx
    by_cases h32_17 : (xs (5 * k) &&& 31) = 17
    · refine g_tableIn (pc := 32) (tgt := 609) C dL_law_32 (by rw [h32_17]; decide) (by rw [h32_17]; decide) (by rw [h32_17]; rfl) (by decide) ?_
      exact law_17 C S hL hi4 hj hm hA hT hc60 nx
    by_cases h32_18 : (xs (5 * k) &&& 31) = 18
    · refine g_tableIn (pc := 32) (tgt := 642) C dL_law_32 (by rw [h32_18]; decide) (by rw [h32_18]; decide) (by rw [h32_18]; rfl) (by decide) ?_
      exact law_18 C S hL hi4 hj hm hA hT hc60 nx
    by_cases h32_19 : (xs (5 * k) &&& 31) = 19
    · refine g_tableIn (pc := 32) (tgt := 675) C dL_law_32 (by rw [h32_19]; decide) (by rw [h32_19]; decide) (by rw [h32_19]; rfl) (by decide) ?_
      exact law_19 C S hL hi4 hj hm hA hT hc60 nx
    by_cases h32_20 : (xs (5 * k) &&& 31) = 20
    · refine g_tableIn (pc := 32) (tgt := 728) C dL_law_32 (by rw [h32_20]; decide) (by rw [h32_20]; decide) (by rw [h32_20]; rfl) (by decide) ?_
      exact law_20 C S hL hi4 hj hm hA hT hc60 nx
    by_cases h32_21 : (xs (5 * k) &&& 31) = 21
    · refine g_tableIn (pc := 32) (tgt := 761) C dL_law_32 (by rw [h32_21]; decide) (by rw [h32_21]; decide) (by rw [h32_21]; rfl) (by decide) ?_
      exact law_21 C S hL hi4 hj hm hA hT hc60 nx
    by_cases h32_22 : (xs (5 * k) &&& 31) = 22
    · refine g_tableIn (pc := 32) (tgt := 794) C dL_law_32 (by rw [h32_22]; decide) (by rw [h32_22]; decide) (by rw [h32_22]; rfl) (by decide) ?_
      exact law_22 C S hL hi4 hj hm hA hT hc60 nx
    by_cases h32_23 : (xs (5 * k) &&& 31) = 23
    · refine g_tableIn (pc := 32) (tgt := 827) C dL_law_32 (by rw [h32_23]; decide) (by rw [h32_23]; decide) (by rw [h32_23]; rfl) (by decide) ?_
      exact law_23 C S hL hi4 hj hm hA hT hc60 nx
    by_cases h32_24 : (xs (5 * k) &&& 31) = 24
    · refine g_tableIn (pc := 32) (tgt := 850) C dL_law_32 (by rw [h32_24]; decide) (by rw [h32_24]; decide) (by rw [h32_24]; rfl) (by decide) ?_
      exact law_24 C S hL hi4 hj hm hA hT hc60 nx
    by_cases h32_25 : (xs (5 * k) &&& 31) = 25
    · refine g_tableIn (pc := 32) (tgt := 873) C dL_law_32 (by rw [h32_25]; decide) (by rw [h32_25]; decide) (by rw [h32_25]; rfl) (by decide) ?_
      exact law_25 C S hL hi4 hj hm hA hT hc60 nx
    by_cases h32_26 : (xs (5 * k) &&& 31) = 26
    · refine g_tableIn (pc := 32) (tgt := 896) C dL_law_32 (by rw [h32_26]; decide) (by rw [h32_26]; decide) (by rw [h32_26]; rfl) (by decide) ?_
      exact law_26 C S hL hi4 hj hm hA hT hc60 nx
    have n32_0 := lv_neT h32_0 (a := 0) rfl
    have n32_1 := lv_neT h32_1 (a := 1) rfl
    have n32_2 := lv_neT h32_2 (a := 2) rfl
    have n32_3 := lv_neT h32_3 (a := 3) rfl
    have n32_4 := lv_neT h32_4 (a := 4) rfl
    have n32_5 := lv_neT h32_5 (a := 5) rfl
    have n32_6 := lv_neT h32_6 (a := 6) rfl
    have n32_7 := lv_neT h32_7 (a := 7) rfl
    have n32_8 := lv_neT h32_8 (a := 8) rfl
    have n32_9 := lv_neT h32_9 (a := 9) rfl
    have n32_10 := lv_neT h32_10 (a := 10) rfl
    have n32_11 := lv_neT h32_11 (a := 11) rfl
    have n32_12 := lv_neT h32_12 (a := 12) rfl
    have n32_13 := lv_neT h32_13 (a := 13) rfl
    have n32_14 := lv_neT h32_14 (a := 14) rfl
    have n32_15 := lv_neT h32_15 (a := 15) rfl
    have n32_16 := lv_neT h32_16 (a := 16) rfl
    have n32_17 := lv_neT h32_17 (a := 17) rfl
    have n32_18 := lv_neT h32_18 (a := 18) rfl
    have n32_19 := lv_neT h32_19 (a := 19) rfl
    have n32_20 := lv_neT h32_20 (a := 20) rfl
    have n32_21 := lv_neT h32_21 (a := 21) rfl
    have n32_22 := lv_neT h32_22 (a := 22) rfl
    have n32_23 := lv_neT h32_23 (a := 23) rfl
    have n32_24 := lv_neT h32_24 (a := 24) rfl
    have n32_25 := lv_neT h32_25 (a := 25) rfl
    have n32_26 := lv_neT h32_26 (a := 26) rfl
    refine g_tableOut (pc := 32) (tgt := 919) C dL_law_32 (by omega) (by decide) ?_
    exact nx _ _ _ hj hm (WA_mono hA (by omega) hc60) hT

