def aMachine (A : AS) (x k : Int32) : Int32 := if isM A x then (if 0 ≤ k ∧ k ≤ 7 then A.f (49 + 14 * x.toNatClampNeg + k.toNatClampNeg) else -100000002) else -100000001
theorem k07 {k : Int32} (h : 0 ≤ k ∧ k ≤ 7) : ∃ j, j < 8 ∧ k = nI j ∧ k.toNatClampNeg = j := by
  obtain ⟨j, h1, h2⟩ := i_nat (x := k) (N := 8) (by decide) (Int32.not_lt.mpr h.1) (fun z => absurd (Int32.le_trans z h.2) (by decide))
  exact ⟨j, h1, h2, by rw [h2, nI_clamp (by omega)]⟩
theorem k07_no {k : Int32} (h0 : ¬ k = 0) (h1 : ¬ k = 1) (h2 : ¬ k = 2) (h3 : ¬ k = 3) (h4 : ¬ k = 4) (h5 : ¬ k = 5) (h6 : ¬ k = 6) (h7 : ¬ k = 7) : ¬ (0 ≤ k ∧ k ≤ 7) := fun z => by
  obtain ⟨j, hj, e, -⟩ := k07 z
  rcases (show j = 0 ∨ j = 1 ∨ j = 2 ∨ j = 3 ∨ j = 4 ∨ j = 5 ∨ j = 6 ∨ j = 7 by omega) with rfl | rfl | rfl | rfl | rfl | rfl | rfl | rfl
  · exact h0 e
  · exact h1 e
  · exact h2 e
  · exact h3 e
  · exact h4 e
  · exact h5 e
  · exact h6 e
  · exact h7 e

set_option maxRecDepth 100000 in
set_option maxHeartbeats 1000000 in
theorem c6_machineS {l : Launch} {D : va_G} {cy : Nat → ClassId} {B : Nat} {M : MM} {P : PP} {x k : Int32} {A : AS} {c : Nat} (h : JC M P A) (hA : WA c A) (hi : isM A x) {a : Nat} (ha : a < mn A.f) (hx : x = nI a) (hcl : x.toNatClampNeg = a) : KI l D cy B yX6_machine wsX6_machine 1 23 [Value.ref (B + 0), Value.int x, Value.int k] M P (qi (aMachine A x k) M P) := by
  refine met_KI (cc := cX6_machine) (maxL := 4) (ret := (some .int)) (lv := [some (Value.ref (B + 0)), some (Value.int x), some (Value.int k), none]) (by decide) rfl rfl rfl (Nat.le_of_ble_eq_true rfl) ?_
  intro X C F
  have pc := h.1
  have hr := h.2.1
  have hw := hA.1
  have h6 := hw.m6
  have h30 := hw.s30
  have hm7 := hr.2.2.1 a ha (by omega)
  have km := kk_m is1 (i := a) (by omega)
  have kh := kk_h is1 (i := a) (by omega)
  have lh := ln_h is1 (i := a) (by omega)
  have rh := pc.p1.rh (i := a) (by omega)
  obtain ⟨-, -, hbk, ⟨q, hq, eq⟩, -⟩ := hw.wm ha
  refine g_aload_0 (pc := 0) C dX6_machine_0 ?_
  refine g_getr (pc := 1) C pc.now fl_X6_machine_10 kk0 dX6_machine_1 ?_
  refine g_iload_1 (pc := 4) C dX6_machine_4 ?_
  refine g_V1qs (pc := 5) C e_X6_machine_67 (Nat.le_of_ble_eq_true rfl) rfl dX6_machine_5 (kk_s0 is1) (c_machineAt is1 pc.p1 hr hw hx ha) ?_
  refine g_astore_3 (pc := 8) C dX6_machine_8 ?_
  refine g_aload_3 (pc := 9) C dX6_machine_9 ?_
  refine g_ifnonnull (pc := 10) (tgt := 16) C dX6_machine_10 (by decide) ?_
  refine g_iload_2 (pc := 16) C dX6_machine_16 ?_
  by_cases h17_0 : k = 0
  · refine g_tableIn (pc := 17) (tgt := 64) C dX6_machine_17 (by rw [h17_0]; decide) (by rw [h17_0]; decide) (by rw [h17_0]; rfl) (by decide) ?_
    refine g_aload_3 (pc := 64) C dX6_machine_64 ?_
    refine g_geti (pc := 65) C fl_X6_machine_196 km dX6_machine_65 ?_
    rw [hm7.1]
    exact g_iret (post := qi (aMachine A x k) M P) C F dX6_machine_68 ⟨by rw [aMachine, if_pos hi, if_pos (by rw [h17_0]; decide), hcl, h17_0]; rfl, rfl, rfl⟩
  by_cases h17_1 : k = 1
  · refine g_tableIn (pc := 17) (tgt := 69) C dX6_machine_17 (by rw [h17_1]; decide) (by rw [h17_1]; decide) (by rw [h17_1]; rfl) (by decide) ?_
    refine g_aload_3 (pc := 69) C dX6_machine_69 ?_
    refine g_geti (pc := 70) C fl_X6_machine_71 km dX6_machine_70 ?_
    rw [hm7.2.1]
    exact g_iret (post := qi (aMachine A x k) M P) C F dX6_machine_73 ⟨by rw [aMachine, if_pos hi, if_pos (by rw [h17_1]; decide), hcl, h17_1]; rfl, rfl, rfl⟩
  by_cases h17_2 : k = 2
  · refine g_tableIn (pc := 17) (tgt := 74) C dX6_machine_17 (by rw [h17_2]; decide) (by rw [h17_2]; decide) (by rw [h17_2]; rfl) (by decide) ?_
    refine g_aload_3 (pc := 74) C dX6_machine_74 ?_
    refine g_getz (pc := 75) C fl_X6_machine_90 km dX6_machine_75 ?_
    rw [hm7.2.2.2.2.1]
    refine g_if_eq (pc := 78) (tgt := 85) C dX6_machine_78 (by decide) (fun c78 => ?_) (fun c78 => ?_)
    · refine g_iconst (pc := 85) (v := 0) C dX6_machine_85 rfl ?_
      exact g_iret (post := qi (aMachine A x k) M P) C F dX6_machine_86 ⟨by rw [aMachine, if_pos hi, if_pos (by rw [h17_2]; decide), hcl, h17_2]; exact c78.symm, rfl, rfl⟩
    · refine g_iconst (pc := 81) (v := 1) C dX6_machine_81 rfl ?_
      refine g_goto (pc := 82) (tgt := 86) C dX6_machine_82 (by decide) ?_
      exact g_iret (post := qi (aMachine A x k) M P) C F dX6_machine_86 ⟨by rw [aMachine, if_pos hi, if_pos (by rw [h17_2]; decide), hcl, h17_2]; exact (hbk.resolve_left c78).symm, rfl, rfl⟩
  by_cases h17_3 : k = 3
  · refine g_tableIn (pc := 17) (tgt := 87) C dX6_machine_17 (by rw [h17_3]; decide) (by rw [h17_3]; decide) (by rw [h17_3]; rfl) (by decide) ?_
    refine g_aload_3 (pc := 87) C dX6_machine_87 ?_
    refine g_V0ie (pc := 88) C e_X6_machine_199 (Nat.le_of_ble_eq_true rfl) rfl dX6_machine_88 km (c_hoursSinceMended km kh lh rh) ?_
    rw [sm_congr hm7.2.2.2.2.2.2.2, (hw.wm ha).since]
    exact g_iret (post := qi (aMachine A x k) M P) C F dX6_machine_91 ⟨by rw [aMachine, if_pos hi, if_pos (by rw [h17_3]; decide), hcl, h17_3]; rfl, rfl, rfl⟩
  by_cases h17_4 : k = 4
  · refine g_tableIn (pc := 17) (tgt := 92) C dX6_machine_17 (by rw [h17_4]; decide) (by rw [h17_4]; decide) (by rw [h17_4]; rfl) (by decide) ?_
    refine g_aload_3 (pc := 92) C dX6_machine_92 ?_
    refine g_geti (pc := 93) C fl_X6_machine_202 km dX6_machine_93 ?_
    rw [hm7.2.2.2.2.2.1]
    exact g_iret (post := qi (aMachine A x k) M P) C F dX6_machine_96 ⟨by rw [aMachine, if_pos hi, if_pos (by rw [h17_4]; decide), hcl, h17_4]; rfl, rfl, rfl⟩
  by_cases h17_5 : k = 5
  · refine g_tableIn (pc := 17) (tgt := 97) C dX6_machine_17 (by rw [h17_5]; decide) (by rw [h17_5]; decide) (by rw [h17_5]; rfl) (by decide) ?_
    refine g_aload_3 (pc := 97) C dX6_machine_97 ?_
    refine g_geti (pc := 98) C fl_X6_machine_205 km dX6_machine_98 ?_
    rw [hm7.2.2.1]
    exact g_iret (post := qi (aMachine A x k) M P) C F dX6_machine_101 ⟨by rw [aMachine, if_pos hi, if_pos (by rw [h17_5]; decide), hcl, h17_5]; rfl, rfl, rfl⟩
  by_cases h17_6 : k = 6
  · refine g_tableIn (pc := 17) (tgt := 102) C dX6_machine_17 (by rw [h17_6]; decide) (by rw [h17_6]; decide) (by rw [h17_6]; rfl) (by decide) ?_
    refine g_aload_3 (pc := 102) C dX6_machine_102 ?_
    refine g_getf (pc := 103) C fl_X6_machine_76 km dX6_machine_103 ?_
    rw [hm7.2.2.2.1, eq, qb_U]
    refine g_S1ie (pc := 106) C e_X6_machine_208 (Nat.le_of_ble_eq_true rfl) rfl dX6_machine_106 (c_bitsOf hq) ?_
    rw [← eq]
    exact g_iret (post := qi (aMachine A x k) M P) C F dX6_machine_109 ⟨by rw [aMachine, if_pos hi, if_pos (by rw [h17_6]; decide), hcl, h17_6]; rfl, rfl, rfl⟩
  by_cases h17_7 : k = 7
  · refine g_tableIn (pc := 17) (tgt := 110) C dX6_machine_17 (by rw [h17_7]; decide) (by rw [h17_7]; decide) (by rw [h17_7]; rfl) (by decide) ?_
    refine g_aload_3 (pc := 110) C dX6_machine_110 ?_
    refine g_geti (pc := 111) C fl_X6_machine_212 km dX6_machine_111 ?_
    rw [hm7.2.2.2.2.2.2.1]
    exact g_iret (post := qi (aMachine A x k) M P) C F dX6_machine_114 ⟨by rw [aMachine, if_pos hi, if_pos (by rw [h17_7]; decide), hcl, h17_7]; rfl, rfl, rfl⟩
  have n17_0 := lv_neT h17_0 (a := 0) rfl
  have n17_1 := lv_neT h17_1 (a := 1) rfl
  have n17_2 := lv_neT h17_2 (a := 2) rfl
  have n17_3 := lv_neT h17_3 (a := 3) rfl
  have n17_4 := lv_neT h17_4 (a := 4) rfl
  have n17_5 := lv_neT h17_5 (a := 5) rfl
  have n17_6 := lv_neT h17_6 (a := 6) rfl
  have n17_7 := lv_neT h17_7 (a := 7) rfl
  refine g_tableOut (pc := 17) (tgt := 115) C dX6_machine_17 (by omega) (by decide) ?_
  refine g_ldc (pc := 115) C k_X6_machine_41 dX6_machine_115 ?_
  exact g_iret (post := qi (aMachine A x k) M P) C F dX6_machine_117 ⟨by rw [aMachine, if_pos hi, if_neg (k07_no h17_0 h17_1 h17_2 h17_3 h17_4 h17_5 h17_6 h17_7)], rfl, rfl⟩

set_option maxRecDepth 100000 in
set_option maxHeartbeats 1000000 in
theorem c6_machineN {l : Launch} {D : va_G} {cy : Nat → ClassId} {B : Nat} {M : MM} {P : PP} {x k : Int32} {A : AS} {c : Nat} (h : JC M P A) (hA : WA c A) (hn : ∀ i, i < mn A.f → x ≠ nI i) : KI l D cy B yX6_machine wsX6_machine 1 23 [Value.ref (B + 0), Value.int x, Value.int k] M P (qi (-100000001) M P) := by
  refine met_KI (cc := cX6_machine) (maxL := 4) (ret := (some .int)) (lv := [some (Value.ref (B + 0)), some (Value.int x), some (Value.int k), none]) (by decide) rfl rfl rfl (Nat.le_of_ble_eq_true rfl) ?_
  intro X C F
  have pc := h.1
  have hr := h.2.1
  have hw := hA.1
  have h6 := hw.m6
  have h30 := hw.s30
  
  refine g_aload_0 (pc := 0) C dX6_machine_0 ?_
  refine g_getr (pc := 1) C pc.now fl_X6_machine_10 kk0 dX6_machine_1 ?_
  refine g_iload_1 (pc := 4) C dX6_machine_4 ?_
  refine g_V1qn (pc := 5) C e_X6_machine_67 (Nat.le_of_ble_eq_true rfl) rfl dX6_machine_5 (kk_s0 is1) (c_machineAtN is1 pc.p1 hr hw hn) ?_
  refine g_astoreZ_3 (pc := 8) C dX6_machine_8 ?_
  refine g_aloadZ_3 (pc := 9) C dX6_machine_9 ?_
  refine g_ifnonnullN (pc := 10) C dX6_machine_10 ?_
  refine g_ldc (pc := 13) C k_X6_machine_40 dX6_machine_13 ?_
  exact g_iret (post := qi (-100000001) M P) C F dX6_machine_15 ⟨rfl, rfl, rfl⟩

theorem c6_machine {l : Launch} {D : va_G} {cy : Nat → ClassId} {B : Nat} {M : MM} {P : PP} {x k : Int32} {A : AS} {c : Nat} (h : JC M P A) (hA : WA c A) : KI l D cy B yX6_machine wsX6_machine 1 23 [Value.ref (B + 0), Value.int x, Value.int k] M P (qi (aMachine A x k) M P) := by
  by_cases hi : isM A x
  · obtain ⟨a, ha, hx, hcl⟩ := isM_of hA hi
    exact c6_machineS h hA hi ha hx hcl
  · rw [show aMachine A x k = -100000001 from if_neg hi]
    exact c6_machineN h hA (isM_no hA hi)
