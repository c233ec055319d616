/-! bookAll, the reference -/
theorem JM_rd {M M1 : MM} {P : PP} {A : AS} (h : JM M P A) (hf : RFr M M1 0) : JM M1 P A ∧ FLo M P M1 P := by
  obtain ⟨r, c2, c3, c4, c5, c6, c7⟩ := h
  obtain ⟨f1, f2, -⟩ := hf
  exact ⟨⟨r, by rw [f2 370 (by decide) (by decide)]; exact c2, ⟨by rw [f1 4 (by decide) (by decide) (by decide)]; exact c3.1, by rw [f2 372 (by decide) (by decide)]; exact c3.2⟩, by rw [f1 6 (by decide) (by decide) (by decide)]; exact c4, by rw [f2 373 (by decide) (by decide)]; exact c5, by rw [f1 8 (by decide) (by decide) (by decide)]; exact c6, by rw [f2 374 (by decide) (by decide)]; exact c7⟩, fun a ha => ⟨f2 a (by omega) (by omega), rfl⟩⟩
theorem JM_as {M M1 : MM} {P : PP} {A : AS} {f1 : FF} (h : JM M P A) (hf : ∀ a, a ≠ 370 → a ≠ 371 → M1 a = M a) (h1 : M1 370 = f1) : JM M1 P (stF A f1) ∧ FLo M P M1 P := by
  obtain ⟨r, c2, c3, c4, c5, c6, c7⟩ := h
  have e9 := hf 369 (by decide) (by decide)
  exact ⟨⟨r, h1, ⟨by rw [e9]; exact c3.1, by rw [hf 372 (by decide) (by decide)]; exact c3.2⟩, by rw [e9]; exact c4, by rw [hf 373 (by decide) (by decide)]; exact c5, by rw [e9]; exact c6, by rw [hf 374 (by decide) (by decide)]; exact c7⟩, fun a ha => ⟨hf a (by omega) (by omega), rfl⟩⟩
theorem fn313 {a b : FF} (h : ∀ x, x < 313 → a x = b x) (h2 : ∀ x, 313 ≤ x → a x = b x) : a = b := by
  funext x
  rcases Nat.lt_or_ge x 313 with z | z
  · exact h x z
  · exact h2 x z
theorem bookF_hi {f : FF} {n : Nat} {w m i h : Int32} (hn : n < 30) {x : Nat} (hx : 313 ≤ x) : bookF f n w m i h x = f x := bookF_ne (by omega) (by omega) (by omega)
/-- the reference's loop: k bookings made, the state is g -/
def IVm (M M1 : MM) (P : PP) (A : AS) (c : Nat) (R : Int32 × FF) (L : List B4) (k : Nat) (g : FF) : Prop := k ≤ L.length ∧ JM M1 P (stF A g) ∧ FLo M P M1 P ∧ (∀ x, x < 313 → M1 371 x = A.f x) ∧ RDs M1 L ∧ Wf c 30 g ∧ bkL (L.drop k) g = R ∧ ∀ x, 313 ≤ x → g x = A.f x
theorem drop_at {M : MM} {L : List B4} {k : Nat} (h : HB M L.length L) (hk : k < L.length) : L.drop k = (M 375 (4 * k + 0), M 375 (4 * k + 1), M 375 (4 * k + 2), M 375 (4 * k + 3)) :: L.drop (k + 1) := by
  rw [List.drop_eq_getElem_cons hk]
  have := h k hk
  rw [List.getElem?_eq_getElem hk] at this
  injection this with this
  rw [this]

set_option maxRecDepth 100000 in
set_option maxHeartbeats 1000000 in
theorem c7_allS {l : Launch} {D : va_G} {cy : Nat → ClassId} {B : Nat} {M : MM} {P : PP} {A : AS} {c : Nat} (h : JM M P A) (hA : WA c A) (hT : CH A.txt A.len) {k : Nat} (hF : fF A.txt A.len 8 0 = some k) : KI l D cy B yX7_bookAll wsX7_bookAll 4 85 [Value.ref (B + 369)] M P (fun r M1 P1 => r = (sAll A).1 ∧ JM M1 P1 (sAll A).2 ∧ FLo M P M1 P1) := by
  refine met_KI (cc := cX7_bookAll) (maxL := 4) (ret := (some .int)) (lv := [some (Value.ref (B + 369)), none, none, none]) (by decide) rfl rfl rfl (Nat.le_of_ble_eq_true rfl) ?_
  intro X C F
  have hw := hA.1
  have h6 := hw.m6
  have h30 := hw.s30
  have hlen : A.len ≤ 60 := hA.2.2.2.2.2
  refine g_aload_0 (pc := 0) C dX7_bookAll_0 ?_
  refine g_iconst (pc := 1) (v := 0) C dX7_bookAll_1 rfl ?_
  refine g_puti (pc := 2) C pf_X7_bookAll_28 kk369 dX7_bookAll_2 ?_
  obtain ⟨h1, hl⟩ := JM_thr h 0
  refine g_memo (fun M1 => JM M1 P A ∧ FLo M P M1 P) ⟨h1, hl⟩ (fun M1 hM1 => ?_)
  obtain ⟨hj, hl1⟩ := hM1
  have hm := hj.1
  have hf := hj.2.1
  have hf6 : M1 370 6 = nI (sn (M1 370)) := by rw [hf]; exact hw.s
  have hf12 : M1 370 12 = nI (mn (M1 370)) := by rw [hf]; exact hw.m
  have hs30 : sn (M1 370) ≤ 30 := by rw [hf]; exact h30
  have hm6 : mn (M1 370) ≤ 6 := by rw [hf]; exact h6
  refine g_aload_0 (pc := 5) C dX7_bookAll_5 ?_
  refine g_V0i (pc := 6) C e_X7_bookAll_138 (Nat.le_of_ble_eq_true rfl) rfl dX7_bookAll_6 kk369 (c7_reads hm hj.2.2.2.2.2.1 hlen hj.2.2.2.2.2.2 hT) (fun r2 M2 P2 hq => ?_)
  obtain ⟨e1, e2, e3, e4⟩ := hq
  subst P2
  obtain ⟨j2, fl2⟩ := JM_rd hj e3
  have e5 : r2 = nI k := by rw [e1, hF]
  rw [e5]
  have hk := fF_le _ _ _ (Nat.zero_le _) hF
  refine g_istore_1 (pc := 9) C dX7_bookAll_9 ?_
  refine g_iload_1 (pc := 10) C dX7_bookAll_10 ?_
  refine g_ldc (pc := 11) C k_X7_bookAll_40 dX7_bookAll_11 ?_
  refine g_icmp_eq (pc := 13) (tgt := 21) C dX7_bookAll_13 (by decide) (fun c13 => ?_) (fun c13 => ?_)
  · have z : (0 : Int32) ≤ nI k := Int32.not_lt.mp (nI_pos (by omega))
    rw [c13] at z
    exact absurd z (by decide)
  · refine g_ldc (pc := 16) C k_X7_bookAll_142 dX7_bookAll_16 ?_
    refine g_iload_1 (pc := 18) C dX7_bookAll_18 ?_
    refine g_isub (pc := 19) C dX7_bookAll_19 ?_
    exact g_iret (post := fun r M1 P1 => r = (sAll A).1 ∧ JM M1 P1 (sAll A).2 ∧ FLo M P M1 P1) C F dX7_bookAll_20 ⟨by rw [sAll_S hF], by rw [sAll_S hF]; exact j2, hl1.trans fl2⟩

set_option maxRecDepth 100000 in
set_option maxHeartbeats 1000000 in
theorem c7_allN {l : Launch} {D : va_G} {cy : Nat → ClassId} {B : Nat} {M : MM} {P : PP} {A : AS} {c : Nat} (h : JM M P A) (hA : WA c A) (hT : CH A.txt A.len) (hF : fF A.txt A.len 8 0 = none) : KI l D cy B yX7_bookAll wsX7_bookAll 4 85 [Value.ref (B + 369)] M P (fun r M1 P1 => r = (sAll A).1 ∧ JM M1 P1 (sAll A).2 ∧ FLo M P M1 P1) := by
  refine met_KI (cc := cX7_bookAll) (maxL := 4) (ret := (some .int)) (lv := [some (Value.ref (B + 369)), none, none, none]) (by decide) rfl rfl rfl (Nat.le_of_ble_eq_true rfl) ?_
  intro X C F
  have hw := hA.1
  have h6 := hw.m6
  have h30 := hw.s30
  have hlen : A.len ≤ 60 := hA.2.2.2.2.2
  refine g_aload_0 (pc := 0) C dX7_bookAll_0 ?_
  refine g_iconst (pc := 1) (v := 0) C dX7_bookAll_1 rfl ?_
  refine g_puti (pc := 2) C pf_X7_bookAll_28 kk369 dX7_bookAll_2 ?_
  obtain ⟨h1, hl⟩ := JM_thr h 0
  refine g_memo (fun M1 => JM M1 P A ∧ FLo M P M1 P) ⟨h1, hl⟩ (fun M1 hM1 => ?_)
  obtain ⟨hj, hl1⟩ := hM1
  have hm := hj.1
  have hf := hj.2.1
  have hf6 : M1 370 6 = nI (sn (M1 370)) := by rw [hf]; exact hw.s
  have hf12 : M1 370 12 = nI (mn (M1 370)) := by rw [hf]; exact hw.m
  have hs30 : sn (M1 370) ≤ 30 := by rw [hf]; exact h30
  have hm6 : mn (M1 370) ≤ 6 := by rw [hf]; exact h6
  refine g_aload_0 (pc := 5) C dX7_bookAll_5 ?_
  refine g_V0i (pc := 6) C e_X7_bookAll_138 (Nat.le_of_ble_eq_true rfl) rfl dX7_bookAll_6 kk369 (c7_reads hm hj.2.2.2.2.2.1 hlen hj.2.2.2.2.2.2 hT) (fun r2 M2 P2 hq => ?_)
  obtain ⟨e1, e2, e3, e4⟩ := hq
  subst P2
  obtain ⟨j2, fl2⟩ := JM_rd hj e3
  have e5 : r2 = -100000005 := by rw [e1, hF]
  rw [e5]
  have hm2 := j2.1
  have f2 := j2.2.1
  obtain ⟨L, hL⟩ : ∃ L, L = bks A.txt A.len 8 0 := ⟨_, rfl⟩
  obtain ⟨R, hR⟩ : ∃ R, R = bkL L A.f := ⟨_, rfl⟩
  have hRd := e4 hF
  rw [← hL] at hRd
  refine g_istore_1 (pc := 9) C dX7_bookAll_9 ?_
  refine g_iload_1 (pc := 10) C dX7_bookAll_10 ?_
  refine g_ldc (pc := 11) C k_X7_bookAll_40 dX7_bookAll_11 ?_
  refine g_icmp_eq (pc := 13) (tgt := 21) C dX7_bookAll_13 (by decide) (fun c13 => ?_) (fun c13 => ?_)
  · refine g_iconst (pc := 21) (v := 0) C dX7_bookAll_21 rfl ?_
    refine g_istore_2 (pc := 22) C dX7_bookAll_22 ?_
    refine ind_m (fun (k : Nat) => 313 - k) (p := fun (k : Nat) => ∀ M3 : MM, k ≤ 313 → (∀ x, x < k → M3 371 x = A.f x) → (∀ a, a ≠ 371 → M3 a = M2 a) → G X D cy B 0 0 376 M3 P 23 [some (Value.ref (B + 369)), some (Value.int (-100000005)), some (Value.int (nI k)), none] []) ?_ 0 M2 (Nat.zero_le _) (fun j hj => absurd hj (Nat.not_lt_zero _)) (fun _ _ => rfl)
    intro k ih M3 hk i1 i2
    refine g_iload_2 (pc := 23) C dX7_bookAll_23 ?_
    refine g_sipush (pc := 24) (v := 313) C dX7_bookAll_24 rfl ?_
    refine g_icmp_ge (pc := 27) (tgt := 48) C dX7_bookAll_27 (by decide) (fun c27 => ?_) (fun c27 => ?_)
    · have e : 313 ≤ k := i_le (a := 313) (by omega) (by omega) c27
      have e7 : k = 313 := by omega
      subst e7
      obtain ⟨j3, fl3⟩ := JM_as (f1 := A.f) j2 (fun a _ z => i2 a z) (by rw [i2 370 (by decide)]; exact f2)
      have I0 : IVm M M3 P A c R L 0 A.f := ⟨Nat.zero_le _, j3, (hl1.trans fl2).trans fl3, i1, ⟨by rw [i2 369 (by decide)]; exact hRd.1, hRd.2.1, fun k hk => by rw [i2 375 (by decide)]; exact hRd.2.2 k hk⟩, hw, hR.symm, fun _ _ => rfl⟩
      refine g_iconst (pc := 48) (v := 0) C dX7_bookAll_48 rfl ?_
      refine g_istore_2 (pc := 49) C dX7_bookAll_49 ?_
      refine ind_m (fun (k : Nat) => L.length - k) (p := fun (k : Nat) => ∀ (M4 : MM) (g : FF), IVm M M4 P A c R L k g → G X D cy B 0 0 376 M4 P 50 [some (Value.ref (B + 369)), some (Value.int (-100000005)), some (Value.int (nI k)), none] []) ?_ 0 M3 A.f I0
      clear I0 j3 fl3 i1 i2 hRd e4 e3 e1 ih
      intro k ih M4 g hI
      obtain ⟨i1, i2, i3, i4, i5, i6, i7, i8⟩ := hI
      obtain ⟨n1, n2, n3⟩ := i5
      have g2 : M4 370 = g := i2.2.1
      refine g_iload_2 (pc := 50) C dX7_bookAll_50 ?_
      refine g_aload_0 (pc := 51) C dX7_bookAll_51 ?_
      refine g_geti (pc := 52) C fl_X7_bookAll_143 kk369 dX7_bookAll_52 ?_
      rw [n1]
      refine g_icmp_ge (pc := 55) (tgt := 160) C dX7_bookAll_55 (by decide) (fun c55 => ?_) (fun c55 => ?_)
      · have e : L.length ≤ k := i_le (by omega) (by omega) c55
        have eL : L.drop k = [] := List.drop_eq_nil_iff.mpr e
        have eR : R = (0, g) := by rw [← i7, eL]; rfl
        refine g_aload_0 (pc := 160) C dX7_bookAll_160 ?_
        refine g_V0v (pc := 161) C e_X7_bookAll_146 (Nat.le_of_ble_eq_true rfl) rfl dX7_bookAll_161 kk369 (c7_swaps2 hm) (fun M5 P5 hq5 => ?_)
        obtain ⟨k1, k2, k3, k4, k5⟩ := hq5
        subst P5
        obtain ⟨j5, fl5⟩ := JM_as (f1 := A.f) i2 k4 (fn313 (fun x hx => (k2 x hx).trans (i4 x hx)) (fun x hx => by rw [k5 x hx, g2]; exact i8 x hx))
        refine g_aload_0 (pc := 164) C dX7_bookAll_164 ?_
        refine g_V0v (pc := 165) C e_X7_bookAll_122 (Nat.le_of_ble_eq_true rfl) rfl dX7_bookAll_165 kk369 (c7_records hm hA.z j5.2.2.1) (fun M6 P6 hq6 => ?_)
        obtain ⟨j6, fl6⟩ := JM_rec j5 hq6
        have hP6 := hq6.1
        subst P6
        have f6 : M6 370 = A.f := j6.2.1
        have h371 : M6 371 = M5 371 := hq6.2.2.2 371 (by decide) (by decide)
        refine g_aload_0 (pc := 168) C dX7_bookAll_168 ?_
        refine g_V0v (pc := 169) C e_X7_bookAll_146 (Nat.le_of_ble_eq_true rfl) rfl dX7_bookAll_169 kk369 (c7_swaps2 hm) (fun M7 P7 hq7 => ?_)
        obtain ⟨k6, k7, k8, k9, k10⟩ := hq7
        subst P7
        obtain ⟨j7, fl7⟩ := JM_as (f1 := g) j6 k9 (fn313 (fun x hx => by rw [k7 x hx, h371, k3 x hx, g2]) (fun x hx => by rw [k10 x hx, f6]; exact (i8 x hx).symm))
        refine g_aload_0 (pc := 172) C dX7_bookAll_172 ?_
        refine g_geti (pc := 173) C fl_X7_bookAll_143 kk369 dX7_bookAll_173 ?_
        rw [k9 369 (by decide) (by decide), hq6.2.2.1 12 (by decide), k4 369 (by decide) (by decide), n1]
        exact g_iret (post := fun r M1 P1 => r = (sAll A).1 ∧ JM M1 P1 (sAll A).2 ∧ FLo M P M1 P1) C F dX7_bookAll_176 ⟨by rw [sAll_N hF hL, ← hR, eR, if_pos rfl], by rw [sAll_N hF hL, ← hR, eR, if_pos rfl]; exact j7, ((i3.trans fl5).trans fl6).trans fl7⟩
      · have hk2 : k < L.length := i_nle (by omega) (by omega) c55
        have hd := drop_at n3 hk2
        refine g_aload_0 (pc := 58) C dX7_bookAll_58 ?_
        refine g_aload_0 (pc := 59) C dX7_bookAll_59 ?_
        refine g_getr (pc := 60) C hm.read fl_X7_bookAll_25 kk369 dX7_bookAll_60 ?_
        refine g_iconst (pc := 63) (v := 4) C dX7_bookAll_63 rfl ?_
        refine g_iload_2 (pc := 64) C dX7_bookAll_64 ?_
        refine g_imul (pc := 65) C dX7_bookAll_65 ?_
        rw [show (4 : Int32) * nI k = nI (4 * k + 0) from pk_mul 4 k]
        refine g_iald (pc := 66) (j := (4 * k + 0)) C kk375 rfl ln375 (by omega) dX7_bookAll_66 ?_
        refine g_aload_0 (pc := 67) C dX7_bookAll_67 ?_
        refine g_getr (pc := 68) C hm.read fl_X7_bookAll_25 kk369 dX7_bookAll_68 ?_
        refine g_iconst (pc := 71) (v := 4) C dX7_bookAll_71 rfl ?_
        refine g_iload_2 (pc := 72) C dX7_bookAll_72 ?_
        refine g_imul (pc := 73) C dX7_bookAll_73 ?_
        rw [show (4 : Int32) * nI k = nI (4 * k + 0) from pk_mul 4 k]
        refine g_iconst (pc := 74) (v := 1) C dX7_bookAll_74 rfl ?_
        refine g_iadd (pc := 75) C dX7_bookAll_75 ?_
        rw [show nI (4 * k + 0) + 1 = nI (4 * k + 1) from nI_add _ 1]
        refine g_iald (pc := 76) (j := (4 * k + 1)) C kk375 rfl ln375 (by omega) dX7_bookAll_76 ?_
        refine g_aload_0 (pc := 77) C dX7_bookAll_77 ?_
        refine g_getr (pc := 78) C hm.read fl_X7_bookAll_25 kk369 dX7_bookAll_78 ?_
        refine g_iconst (pc := 81) (v := 4) C dX7_bookAll_81 rfl ?_
        refine g_iload_2 (pc := 82) C dX7_bookAll_82 ?_
        refine g_imul (pc := 83) C dX7_bookAll_83 ?_
        rw [show (4 : Int32) * nI k = nI (4 * k + 0) from pk_mul 4 k]
        refine g_iconst (pc := 84) (v := 2) C dX7_bookAll_84 rfl ?_
        refine g_iadd (pc := 85) C dX7_bookAll_85 ?_
        rw [show nI (4 * k + 0) + 2 = nI (4 * k + 2) from nI_add _ 2]
        refine g_iald (pc := 86) (j := (4 * k + 2)) C kk375 rfl ln375 (by omega) dX7_bookAll_86 ?_
        refine g_aload_0 (pc := 87) C dX7_bookAll_87 ?_
        refine g_getr (pc := 88) C hm.read fl_X7_bookAll_25 kk369 dX7_bookAll_88 ?_
        refine g_iconst (pc := 91) (v := 4) C dX7_bookAll_91 rfl ?_
        refine g_iload_2 (pc := 92) C dX7_bookAll_92 ?_
        refine g_imul (pc := 93) C dX7_bookAll_93 ?_
        rw [show (4 : Int32) * nI k = nI (4 * k + 0) from pk_mul 4 k]
        refine g_iconst (pc := 94) (v := 3) C dX7_bookAll_94 rfl ?_
        refine g_iadd (pc := 95) C dX7_bookAll_95 ?_
        rw [show nI (4 * k + 0) + 3 = nI (4 * k + 3) from nI_add _ 3]
        refine g_iald (pc := 96) (j := (4 * k + 3)) C kk375 rfl ln375 (by omega) dX7_bookAll_96 ?_
        refine g_V4ie (pc := 97) C e_X7_bookAll_132 (Nat.le_of_ble_eq_true rfl) rfl dX7_bookAll_97 kk369 (c7_refuses hm (by rw [g2]; exact i6.s) (by rw [g2]; exact i6.s30)) ?_
        rw [g2]
        refine g_istore_3 (pc := 100) C dX7_bookAll_100 ?_
        refine g_iload_3 (pc := 101) C dX7_bookAll_101 ?_
        refine g_if_eq (pc := 102) (tgt := 111) C dX7_bookAll_102 (by decide) (fun c102 => ?_) (fun c102 => ?_)
        · have hz : refI g (M4 375 (4 * k + 0)) (M4 375 (4 * k + 1)) (M4 375 (4 * k + 2)) (M4 375 (4 * k + 3)) = 0 := c102
          have hWr := Wf_ref (WA_now (f1 := g) hA i6) hz
          have w6 : Wf c 30 (bookF g (sn g) (M4 375 (4 * k + 0)) (M4 375 (4 * k + 1)) (M4 375 (4 * k + 2)) (M4 375 (4 * k + 3))) := hWr.1
          have h30b : sn g < 30 := hWr.2
          refine g_aload_0 (pc := 111) C dX7_bookAll_111 ?_
          refine g_aload_0 (pc := 112) C dX7_bookAll_112 ?_
          refine g_getr (pc := 113) C hm.read fl_X7_bookAll_25 kk369 dX7_bookAll_113 ?_
          refine g_iconst (pc := 116) (v := 4) C dX7_bookAll_116 rfl ?_
          refine g_iload_2 (pc := 117) C dX7_bookAll_117 ?_
          refine g_imul (pc := 118) C dX7_bookAll_118 ?_
          rw [show (4 : Int32) * nI k = nI (4 * k + 0) from pk_mul 4 k]
          refine g_iald (pc := 119) (j := (4 * k + 0)) C kk375 rfl ln375 (by omega) dX7_bookAll_119 ?_
          refine g_aload_0 (pc := 120) C dX7_bookAll_120 ?_
          refine g_getr (pc := 121) C hm.read fl_X7_bookAll_25 kk369 dX7_bookAll_121 ?_
          refine g_iconst (pc := 124) (v := 4) C dX7_bookAll_124 rfl ?_
          refine g_iload_2 (pc := 125) C dX7_bookAll_125 ?_
          refine g_imul (pc := 126) C dX7_bookAll_126 ?_
          rw [show (4 : Int32) * nI k = nI (4 * k + 0) from pk_mul 4 k]
          refine g_iconst (pc := 127) (v := 1) C dX7_bookAll_127 rfl ?_
          refine g_iadd (pc := 128) C dX7_bookAll_128 ?_
          rw [show nI (4 * k + 0) + 1 = nI (4 * k + 1) from nI_add _ 1]
          refine g_iald (pc := 129) (j := (4 * k + 1)) C kk375 rfl ln375 (by omega) dX7_bookAll_129 ?_
          refine g_aload_0 (pc := 130) C dX7_bookAll_130 ?_
          refine g_getr (pc := 131) C hm.read fl_X7_bookAll_25 kk369 dX7_bookAll_131 ?_
          refine g_iconst (pc := 134) (v := 4) C dX7_bookAll_134 rfl ?_
          refine g_iload_2 (pc := 135) C dX7_bookAll_135 ?_
          refine g_imul (pc := 136) C dX7_bookAll_136 ?_
          rw [show (4 : Int32) * nI k = nI (4 * k + 0) from pk_mul 4 k]
          refine g_iconst (pc := 137) (v := 2) C dX7_bookAll_137 rfl ?_
          refine g_iadd (pc := 138) C dX7_bookAll_138 ?_
          rw [show nI (4 * k + 0) + 2 = nI (4 * k + 2) from nI_add _ 2]
          refine g_iald (pc := 139) (j := (4 * k + 2)) C kk375 rfl ln375 (by omega) dX7_bookAll_139 ?_
          refine g_aload_0 (pc := 140) C dX7_bookAll_140 ?_
          refine g_getr (pc := 141) C hm.read fl_X7_bookAll_25 kk369 dX7_bookAll_141 ?_
          refine g_iconst (pc := 144) (v := 4) C dX7_bookAll_144 rfl ?_
          refine g_iload_2 (pc := 145) C dX7_bookAll_145 ?_
          refine g_imul (pc := 146) C dX7_bookAll_146 ?_
          rw [show (4 : Int32) * nI k = nI (4 * k + 0) from pk_mul 4 k]
          refine g_iconst (pc := 147) (v := 3) C dX7_bookAll_147 rfl ?_
          refine g_iadd (pc := 148) C dX7_bookAll_148 ?_
          rw [show nI (4 * k + 0) + 3 = nI (4 * k + 3) from nI_add _ 3]
          refine g_iald (pc := 149) (j := (4 * k + 3)) C kk375 rfl ln375 (by omega) dX7_bookAll_149 ?_
          refine g_V4ie (pc := 150) C e_X7_bookAll_135 (Nat.le_of_ble_eq_true rfl) rfl dX7_bookAll_150 kk369 (c7_books hm g2 i6.s h30b) ?_
          refine g_pop (pc := 153) C dX7_bookAll_153 rfl ?_
          refine g_iinc_2 (pc := 154) (v := nI (k + 1)) C dX7_bookAll_154 (nI_1 k) ?_
          refine g_goto (pc := 157) (tgt := 50) C dX7_bookAll_157 (by decide) ?_
          refine g_kill_3 ?_
          exact ih (k + 1) (by omega) _ (bookF g (sn g) (M4 375 (4 * k + 0)) (M4 375 (4 * k + 1)) (M4 375 (4 * k + 2)) (M4 375 (4 * k + 3))) ⟨by omega, (JM_as i2 (fun a z _ => up_ne _ _ z) (up_same _ _ _)).1, i3.trans (JM_as (M1 := up M4 370 (bookF g (sn g) (M4 375 (4 * k + 0)) (M4 375 (4 * k + 1)) (M4 375 (4 * k + 2)) (M4 375 (4 * k + 3)))) i2 (fun a z _ => up_ne _ _ z) (up_same _ _ _)).2, fun x hx => by rw [up_ne _ _ (by decide)]; exact i4 x hx, ⟨by rw [up_ne _ _ (by decide)]; exact n1, n2, fun j hj => by rw [up_ne _ _ (by decide)]; exact n3 j hj⟩, w6, by rw [← i7, hd, bkL_yes hz], fun x hx => by rw [bookF_hi h30b hx]; exact i8 x hx⟩
        · have hz : ¬ refI g (M4 375 (4 * k + 0)) (M4 375 (4 * k + 1)) (M4 375 (4 * k + 2)) (M4 375 (4 * k + 3)) = 0 := c102
          refine g_aload_0 (pc := 105) C dX7_bookAll_105 ?_
          refine g_V0v (pc := 106) C e_X7_bookAll_146 (Nat.le_of_ble_eq_true rfl) rfl dX7_bookAll_106 kk369 (c7_swaps2 hm) (fun M5 P5 hq5 => ?_)
          obtain ⟨k1, k2, k3, k4, k5⟩ := hq5
          subst P5
          obtain ⟨j5, fl5⟩ := JM_as (f1 := A.f) i2 k4 (fn313 (fun x hx => (k2 x hx).trans (i4 x hx)) (fun x hx => by rw [k5 x hx, g2]; exact i8 x hx))
          refine g_iload_3 (pc := 109) C dX7_bookAll_109 ?_
          exact g_iret (post := fun r M1 P1 => r = (sAll A).1 ∧ JM M1 P1 (sAll A).2 ∧ FLo M P M1 P1) C F dX7_bookAll_110 ⟨by rw [sAll_N hF hL, ← hR, ← i7, hd, bkL_no hz, if_neg (show ¬ (refI g _ _ _ _, g).1 = 0 from hz)], by rw [sAll_N hF hL, ← hR, ← i7, hd, bkL_no hz, if_neg (show ¬ (refI g _ _ _ _, g).1 = 0 from hz)]; exact j5, i3.trans fl5⟩
    · have hk2 : k < 313 := i_nle (a := 313) (by omega) (by omega) c27
      refine g_aload_0 (pc := 30) C dX7_bookAll_30 ?_
      refine g_getr (pc := 31) C hm.aside fl_X7_bookAll_13 kk369 dX7_bookAll_31 ?_
      refine g_iload_2 (pc := 34) C dX7_bookAll_34 ?_
      refine g_aload_0 (pc := 35) C dX7_bookAll_35 ?_
      refine g_getr (pc := 36) C hm.s fl_X7_bookAll_7 kk369 dX7_bookAll_36 ?_
      refine g_iload_2 (pc := 39) C dX7_bookAll_39 ?_
      refine g_iald (pc := 40) (j := k) C kk370 rfl ln370 (by omega) dX7_bookAll_40 ?_
      refine g_iast (pc := 41) (j := k) C kk371 rfl ln371 (by omega) dX7_bookAll_41 ?_
      refine g_iinc_2 (pc := 42) (v := nI (k + 1)) C dX7_bookAll_42 (nI_1 k) ?_
      refine g_goto (pc := 45) (tgt := 23) C dX7_bookAll_45 (by decide) ?_
      refine ih (k + 1) (by omega) _ (by omega) (fun x hx => ?_) (fun a ha => by rw [up_ne _ _ ha]; exact i2 a ha)
      rw [up_same]
      by_cases e : x = k
      · subst e
        rw [up_same, i2 370 (by decide), f2]
      · rw [up_ne _ _ e]; exact i1 x (by omega)
  · exact absurd rfl c13

theorem c7_bookAll {l : Launch} {D : va_G} {cy : Nat → ClassId} {B : Nat} {M : MM} {P : PP} {A : AS} {c : Nat} (h : JM M P A) (hA : WA c A) (hT : CH A.txt A.len) : KI l D cy B yX7_bookAll wsX7_bookAll 4 85 [Value.ref (B + 369)] M P (fun r M1 P1 => r = (sAll A).1 ∧ JM M1 P1 (sAll A).2 ∧ FLo M P M1 P1) := by
  cases hF : fF A.txt A.len 8 0 with
  | none => exact c7_allN h hA hT hF
  | some k => exact c7_allS h hA hT hF
