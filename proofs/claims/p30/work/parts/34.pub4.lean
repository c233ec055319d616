theorem Wf_dFn {c : Nat} {f : FF} (hw : Wf c 30 f) : ∀ {n : Nat}, c + n ≤ 40000 → Wf (c + n) 30 (dFn f n)
  | 0, _ => hw
  | n + 1, h => Wf_dayF (Wf_dFn hw (n := n) (by omega)) (by omega)
theorem fill_u {c q a n : Nat} {f : FF} (hw : Wf c q f) (ha : a < mn f) (h1 : n ≤ 500) : ∃ k, k ≤ 4400 ∧ fillU f a (nI n) = qbU k ∧ f (49 + 14 * a + 6) = qb (k - 4 * n) ∧ 4 * n ≤ k := by
  obtain ⟨-, -, -, ⟨q2, hq2, eq2⟩, -⟩ := hw.wm ha
  refine ⟨q2 + 4 * n, by omega, ?_, by rw [Nat.add_sub_cancel]; exact eq2, by omega⟩
  unfold fillU
  rw [eq2, qb_U, q_i2f (by omega), q_add (by omega) (by omega)]
def sUndo (A : AS) : Int32 × AS := if A.z = 0 then (-100000005, A) else (nI (A.z - 1), rest (A.hf (A.z - 1)) A.f, A.z - 1, A.2.2)
def sKeep (A : AS) : Int32 × AS := (A.f 3, A.f, A.z, A.hf, 1, A.f, A.len, A.txt)
def sRest (A : AS) : Int32 × AS := if A.kept = 0 then (-100000005, A) else (A.sf 3, stF (psh A) (rest A.sf A.f))
def sType (A : AS) (x : Int32) : Int32 × AS := if A.len = 60 then (-100000003, A) else (nI (A.len + 1), A.f, A.z, A.hf, A.kept, A.sf, A.len + 1, up A.txt A.len x)
def sClear (A : AS) : Int32 × AS := (nI A.len, A.f, A.z, A.hf, A.kept, A.sf, 0, A.txt)
theorem JC_size {M : MM} {P : PP} {A : AS} {n : Nat} (h : JC M P A) (hn : n ≤ A.z) (hz : A.z ≤ 4) : JC (up M 157 (up (M 157) 1 (nI n))) P (A.f, n, A.2.2) ∧ FHi M P (up M 157 (up (M 157) 1 (nI n))) P := by
  have e : ∀ a, a ≠ 157 → up M 157 (up (M 157) 1 (nI n)) a = M a := fun a ha => up_ne _ _ ha
  obtain ⟨b, c2, c3, c5, c6, c7, c8⟩ := h
  have hst : ∀ s f, isSt s → PS P s → Rp M P s f → Rp (up M 157 (up (M 157) 1 (nI n))) P s f := fun s f hs hp hr => Rp_fr hp hr (fun a g1 g2 => e a (by rcases hs with h | h | h | h | h | h | h <;> omega))
  refine ⟨⟨b, hst _ _ is1 b.p1 c2, ⟨by rw [up_same, up_same], fun j hj => ?_⟩, by rw [e 0 (by decide)]; exact c5, fun hk => hst _ _ is105 b.p105 (c6 hk), by rw [e 367 (by decide)]; exact c7, fun i hi => by rw [e 368 (by decide)]; exact c8 i hi⟩, fun a ha => ⟨e a (by omega), rfl⟩⟩
  have hj2 : j < n := hj
  have hi := b.hh.2.1 j (by omega)
  exact hst _ _ hi.is (b.hh.2.2.2 _ hi) (c3.2 j (by omega))
theorem JC_text {M M1 : MM} {P : PP} {A : AS} {len : Nat} {txt : FF} (h : JC M P A) (hz : A.z ≤ 4) (e : ∀ a, a ≠ 367 → a ≠ 368 → M1 a = M a) (h1 : M1 367 1 = nI len) (h2 : ∀ i, i < len → M1 368 i = txt i) : JC M1 P (A.f, A.z, A.hf, A.kept, A.sf, len, txt) ∧ FHi M P M1 P := by
  obtain ⟨b, c2, c3, c5, c6, c7, c8⟩ := h
  have hst : ∀ s f, isSt s → PS P s → Rp M P s f → Rp M1 P s f := fun s f hs hp hr => Rp_fr hp hr (fun a g1 g2 => e a (by have := st_pos hs; omega) (by have := st_pos hs; omega))
  refine ⟨⟨b, hst _ _ is1 b.p1 c2, ⟨by rw [e 157 (by decide) (by decide)]; exact c3.1, fun j hj => ?_⟩, by rw [e 0 (by decide) (by decide)]; exact c5, fun hk => hst _ _ is105 b.p105 (c6 hk), h1, h2⟩, fun a ha => ⟨e a (by omega) (by omega), rfl⟩⟩
  have hj2 : j < A.z := hj
  have hi := b.hh.2.1 j (by omega)
  exact hst _ _ hi.is (b.hh.2.2.2 _ hi) (c3.2 j (by omega))
theorem JC_keep {M M1 : MM} {P : PP} {A : AS} (h : JC M P A) (hz : A.z ≤ 4) (hr : Rp M1 P 105 A.f) (e : ∀ a, a < 105 ∨ 157 ≤ a → a ≠ 0 → M1 a = M a) (h1 : M1 0 5 = 1) : JC M1 P (A.f, A.z, A.hf, 1, A.f, A.len, A.txt) ∧ FHi M P M1 P := by
  obtain ⟨b, c2, c3, c5, c6, c7, c8⟩ := h
  refine ⟨⟨b, Rp_fr b.p1 c2 (fun a g1 g2 => e a (by omega) (by omega)), ⟨by rw [e 157 (by decide) (by decide)]; exact c3.1, fun j hj => ?_⟩, h1, fun _ => hr, by rw [e 367 (by decide) (by decide)]; exact c7, fun i hi => by rw [e 368 (by decide) (by decide)]; exact c8 i hi⟩, fun a ha => ⟨e a (by omega) (by omega), rfl⟩⟩
  have hj2 : j < A.z := hj
  have hi := b.hh.2.1 j (by omega)
  have hl := hi.lo
  exact Rp_fr (b.hh.2.2.2 _ hi) (c3.2 j (by omega)) (fun a g1 g2 => e a (by omega) (by omega))

set_option maxRecDepth 100000 in
set_option maxHeartbeats 1000000 in
theorem c6_setA {l : Launch} {D : va_G} {cy : Nat → ClassId} {B : Nat} {M : MM} {P : PP} {k x : Int32} {A : AS} {c : Nat} (h : JC M P A) (hA : WA c A) (hk : k = 0) : KI l D cy B yX6_set wsX6_set 4 89 [Value.ref (B + 0), Value.int k, Value.int x] M P (fun r M1 P1 => r = (sSet A k x).1 ∧ JC M1 P1 (sSet A k x).2 ∧ FHi M P M1 P1) := by
  refine met_KI (cc := cX6_set) (maxL := 5) (ret := (some .int)) (lv := [some (Value.ref (B + 0)), some (Value.int k), some (Value.int x), none, none]) (by decide) rfl rfl rfl (Nat.le_of_ble_eq_true rfl) ?_
  intro X C F
  have pc := h.1
  have hr := h.2.1
  have hw := hA.1
  have h6 := hw.m6
  have h30 := hw.s30
  
  refine g_iload_1 (pc := 0) C dX6_set_0 ?_
  refine g_if_ne (pc := 1) (tgt := 24) C dX6_set_1 (by decide) (fun c1 => ?_) (fun c1 => ?_)
  · exact absurd hk c1
  · refine g_iload_2 (pc := 4) C dX6_set_4 ?_
    refine g_bipush (pc := 5) (v := 10) C dX6_set_5 rfl ?_
    refine g_sipush (pc := 7) (v := 200) C dX6_set_7 rfl ?_
    refine g_S3ie (pc := 10) C e_X6_set_36 (Nat.le_of_ble_eq_true rfl) rfl dX6_set_10 (c_outside) ?_
    refine g_if_ne (pc := 13) (tgt := 20) C dX6_set_13 (by decide) (fun c13 => ?_) (fun c13 => ?_)
    · refine g_iconst (pc := 20) (v := 0) C dX6_set_20 rfl ?_
      refine g_goto (pc := 21) (tgt := 45) C dX6_set_21 (by decide) ?_
      refine g_istore_3 (pc := 45) C dX6_set_45 ?_
      refine g_iload_3 (pc := 46) C dX6_set_46 ?_
      refine g_if_ne (pc := 47) (tgt := 53) C dX6_set_47 (by decide) (fun c47 => ?_) (fun c47 => ?_)
      · exact absurd rfl c47
      · refine g_ldc (pc := 50) C k_X6_set_41 dX6_set_50 ?_
        exact g_iret (post := fun r M1 P1 => r = (sSet A k x).1 ∧ JC M1 P1 (sSet A k x).2 ∧ FHi M P M1 P1) C F dX6_set_52 ⟨by rw [sSet, if_neg (fun z => oi (if1 c13) z.2), if_neg (fun z => absurd (hk.symm.trans z.1) (by decide))], by rw [sSet, if_neg (fun z => oi (if1 c13) z.2), if_neg (fun z => absurd (hk.symm.trans z.1) (by decide))]; exact h, FHi.refl⟩
    · refine g_iconst (pc := 16) (v := 1) C dX6_set_16 rfl ?_
      refine g_goto (pc := 17) (tgt := 45) C dX6_set_17 (by decide) ?_
      refine g_istore_3 (pc := 45) C dX6_set_45 ?_
      refine g_iload_3 (pc := 46) C dX6_set_46 ?_
      refine g_if_ne (pc := 47) (tgt := 53) C dX6_set_47 (by decide) (fun c47 => ?_) (fun c47 => ?_)
      · refine g_iload_1 (pc := 53) C dX6_set_53 ?_
        refine g_if_ne (pc := 54) (tgt := 67) C dX6_set_54 (by decide) (fun c54 => ?_) (fun c54 => ?_)
        · exact absurd hk c54
        · refine g_aload_0 (pc := 57) C dX6_set_57 ?_
          refine g_getr (pc := 58) C pc.now fl_X6_set_10 kk0 dX6_set_58 ?_
          refine g_geti (pc := 61) C fl_X6_set_158 (kk_s0 is1) dX6_set_61 ?_
          rw [hr.1.2.2.2.2.2.2.2.1]
          refine g_goto (pc := 64) (tgt := 74) C dX6_set_64 (by decide) ?_
          refine g_istore_4 (pc := 74) C dX6_set_74 ?_
          refine g_iload_2 (pc := 76) C dX6_set_76 ?_
          refine g_iload_4 (pc := 77) C dX6_set_77 ?_
          refine g_icmp_ne (pc := 79) (tgt := 85) C dX6_set_79 (by decide) (fun c79 => ?_) (fun c79 => ?_)
          · refine g_aload_0 (pc := 85) C dX6_set_85 ?_
            refine g_getr (pc := 86) C pc.hist fl_X6_set_25 kk0 dX6_set_86 ?_
            refine g_aload_0 (pc := 89) C dX6_set_89 ?_
            refine g_getr (pc := 90) C pc.now fl_X6_set_10 kk0 dX6_set_90 ?_
            refine g_V1v (pc := 93) C e_X6_set_48 (Nat.le_of_ble_eq_true rfl) rfl dX6_set_93 kk157 (c_push is1 (by decide) pc.p1 hr hw pc.hh hA.z h.2.2.1) (fun M1 P1 hq => ?_)
            obtain ⟨j1, fh1⟩ := JC_push h hq
            have pc1 := j1.1
            have hr1 : Rp M1 P1 1 A.f := j1.2.1
            have hz1 : (psh A).z ≤ 4 := pshZ_le hA.z
            refine g_iload_1 (pc := 96) C dX6_set_96 ?_
            refine g_if_ne (pc := 97) (tgt := 111) C dX6_set_97 (by decide) (fun c97 => ?_) (fun c97 => ?_)
            · exact absurd hk c97
            · refine g_aload_0 (pc := 100) C dX6_set_100 ?_
              refine g_getr (pc := 101) C pc1.now fl_X6_set_10 kk0 dX6_set_101 ?_
              refine g_iload_2 (pc := 104) C dX6_set_104 ?_
              refine g_puti (pc := 105) C pf_X6_set_158 (kk_s0 is1) dX6_set_105 ?_
              refine g_goto (pc := 108) (tgt := 119) C dX6_set_108 (by decide) ?_
              refine g_iload_4 (pc := 119) C dX6_set_119 ?_
              exact g_iret (post := fun r M1 P1 => r = (sSet A k x).1 ∧ JC M1 P1 (sSet A k x).2 ∧ FHi M P M1 P1) C F dX6_set_121 ⟨by rw [sSet, if_pos ⟨hk, io (if0 c13)⟩, if_neg (fun z => c79 z.symm)], by rw [sSet, if_pos ⟨hk, io (if0 c13)⟩, if_neg (fun z => c79 z.symm)]; exact (JC_now j1 hz1 pc1.p1 (Rp_sn is1 pc1.p1 hr1 (Or.inr (Or.inl ⟨rfl, rfl⟩))) (fun a ha => up_ne _ _ (by omega)) (fun _ _ => rfl)).1, fh1.trans (JC_now j1 hz1 pc1.p1 (Rp_sn is1 pc1.p1 hr1 (Or.inr (Or.inl ⟨rfl, rfl⟩))) (fun a ha => up_ne _ _ (by omega)) (fun _ _ => rfl)).2⟩
          · refine g_ldc (pc := 82) C k_X6_set_66 dX6_set_82 ?_
            exact g_iret (post := fun r M1 P1 => r = (sSet A k x).1 ∧ JC M1 P1 (sSet A k x).2 ∧ FHi M P M1 P1) C F dX6_set_84 ⟨by rw [sSet, if_pos ⟨hk, io (if0 c13)⟩, if_pos c79.symm], by rw [sSet, if_pos ⟨hk, io (if0 c13)⟩, if_pos c79.symm]; exact h, FHi.refl⟩
      · exact absurd c47 (by decide)

set_option maxRecDepth 100000 in
set_option maxHeartbeats 1000000 in
theorem c6_setB {l : Launch} {D : va_G} {cy : Nat → ClassId} {B : Nat} {M : MM} {P : PP} {k x : Int32} {A : AS} {c : Nat} (h : JC M P A) (hA : WA c A) (hk : k = 1) : KI l D cy B yX6_set wsX6_set 4 89 [Value.ref (B + 0), Value.int k, Value.int x] M P (fun r M1 P1 => r = (sSet A k x).1 ∧ JC M1 P1 (sSet A k x).2 ∧ FHi M P M1 P1) := by
  refine met_KI (cc := cX6_set) (maxL := 5) (ret := (some .int)) (lv := [some (Value.ref (B + 0)), some (Value.int k), some (Value.int x), none, none]) (by decide) rfl rfl rfl (Nat.le_of_ble_eq_true rfl) ?_
  intro X C F
  have pc := h.1
  have hr := h.2.1
  have hw := hA.1
  have h6 := hw.m6
  have h30 := hw.s30
  
  refine g_iload_1 (pc := 0) C dX6_set_0 ?_
  refine g_if_ne (pc := 1) (tgt := 24) C dX6_set_1 (by decide) (fun c1 => ?_) (fun c1 => ?_)
  · refine g_iload_1 (pc := 24) C dX6_set_24 ?_
    refine g_iconst (pc := 25) (v := 1) C dX6_set_25 rfl ?_
    refine g_icmp_ne (pc := 26) (tgt := 44) C dX6_set_26 (by decide) (fun c26 => ?_) (fun c26 => ?_)
    · exact absurd hk c26
    · refine g_iload_2 (pc := 29) C dX6_set_29 ?_
      refine g_iconst (pc := 30) (v := 0) C dX6_set_30 rfl ?_
      refine g_sipush (pc := 31) (v := 9999) C dX6_set_31 rfl ?_
      refine g_S3ie (pc := 34) C e_X6_set_36 (Nat.le_of_ble_eq_true rfl) rfl dX6_set_34 (c_outside) ?_
      refine g_if_ne (pc := 37) (tgt := 44) C dX6_set_37 (by decide) (fun c37 => ?_) (fun c37 => ?_)
      · refine g_iconst (pc := 44) (v := 0) C dX6_set_44 rfl ?_
        refine g_istore_3 (pc := 45) C dX6_set_45 ?_
        refine g_iload_3 (pc := 46) C dX6_set_46 ?_
        refine g_if_ne (pc := 47) (tgt := 53) C dX6_set_47 (by decide) (fun c47 => ?_) (fun c47 => ?_)
        · exact absurd rfl c47
        · refine g_ldc (pc := 50) C k_X6_set_41 dX6_set_50 ?_
          exact g_iret (post := fun r M1 P1 => r = (sSet A k x).1 ∧ JC M1 P1 (sSet A k x).2 ∧ FHi M P M1 P1) C F dX6_set_52 ⟨by rw [sSet, if_neg (fun z => absurd (hk.symm.trans z.1) (by decide)), if_neg (fun z => oi (if1 c37) z.2)], by rw [sSet, if_neg (fun z => absurd (hk.symm.trans z.1) (by decide)), if_neg (fun z => oi (if1 c37) z.2)]; exact h, FHi.refl⟩
      · refine g_iconst (pc := 40) (v := 1) C dX6_set_40 rfl ?_
        refine g_goto (pc := 41) (tgt := 45) C dX6_set_41 (by decide) ?_
        refine g_istore_3 (pc := 45) C dX6_set_45 ?_
        refine g_iload_3 (pc := 46) C dX6_set_46 ?_
        refine g_if_ne (pc := 47) (tgt := 53) C dX6_set_47 (by decide) (fun c47 => ?_) (fun c47 => ?_)
        · refine g_iload_1 (pc := 53) C dX6_set_53 ?_
          refine g_if_ne (pc := 54) (tgt := 67) C dX6_set_54 (by decide) (fun c54 => ?_) (fun c54 => ?_)
          · refine g_aload_0 (pc := 67) C dX6_set_67 ?_
            refine g_getr (pc := 68) C pc.now fl_X6_set_10 kk0 dX6_set_68 ?_
            refine g_geti (pc := 71) C fl_X6_set_161 (kk_s0 is1) dX6_set_71 ?_
            rw [hr.1.2.2.2.2.2.2.2.2.1]
            refine g_istore_4 (pc := 74) C dX6_set_74 ?_
            refine g_iload_2 (pc := 76) C dX6_set_76 ?_
            refine g_iload_4 (pc := 77) C dX6_set_77 ?_
            refine g_icmp_ne (pc := 79) (tgt := 85) C dX6_set_79 (by decide) (fun c79 => ?_) (fun c79 => ?_)
            · refine g_aload_0 (pc := 85) C dX6_set_85 ?_
              refine g_getr (pc := 86) C pc.hist fl_X6_set_25 kk0 dX6_set_86 ?_
              refine g_aload_0 (pc := 89) C dX6_set_89 ?_
              refine g_getr (pc := 90) C pc.now fl_X6_set_10 kk0 dX6_set_90 ?_
              refine g_V1v (pc := 93) C e_X6_set_48 (Nat.le_of_ble_eq_true rfl) rfl dX6_set_93 kk157 (c_push is1 (by decide) pc.p1 hr hw pc.hh hA.z h.2.2.1) (fun M1 P1 hq => ?_)
              obtain ⟨j1, fh1⟩ := JC_push h hq
              have pc1 := j1.1
              have hr1 : Rp M1 P1 1 A.f := j1.2.1
              have hz1 : (psh A).z ≤ 4 := pshZ_le hA.z
              refine g_iload_1 (pc := 96) C dX6_set_96 ?_
              refine g_if_ne (pc := 97) (tgt := 111) C dX6_set_97 (by decide) (fun c97 => ?_) (fun c97 => ?_)
              · refine g_aload_0 (pc := 111) C dX6_set_111 ?_
                refine g_getr (pc := 112) C pc1.now fl_X6_set_10 kk0 dX6_set_112 ?_
                refine g_iload_2 (pc := 115) C dX6_set_115 ?_
                refine g_puti (pc := 116) C pf_X6_set_161 (kk_s0 is1) dX6_set_116 ?_
                refine g_iload_4 (pc := 119) C dX6_set_119 ?_
                exact g_iret (post := fun r M1 P1 => r = (sSet A k x).1 ∧ JC M1 P1 (sSet A k x).2 ∧ FHi M P M1 P1) C F dX6_set_121 ⟨by rw [sSet, if_neg (fun z => absurd (hk.symm.trans z.1) (by decide)), if_pos ⟨hk, io (if0 c37)⟩, if_neg (fun z => c79 z.symm)], by rw [sSet, if_neg (fun z => absurd (hk.symm.trans z.1) (by decide)), if_pos ⟨hk, io (if0 c37)⟩, if_neg (fun z => c79 z.symm)]; exact (JC_now j1 hz1 pc1.p1 (Rp_sn is1 pc1.p1 hr1 (Or.inr (Or.inr (Or.inl ⟨rfl, rfl⟩)))) (fun a ha => up_ne _ _ (by omega)) (fun _ _ => rfl)).1, fh1.trans (JC_now j1 hz1 pc1.p1 (Rp_sn is1 pc1.p1 hr1 (Or.inr (Or.inr (Or.inl ⟨rfl, rfl⟩)))) (fun a ha => up_ne _ _ (by omega)) (fun _ _ => rfl)).2⟩
              · exact absurd (hk.symm.trans c97) (by decide)
            · refine g_ldc (pc := 82) C k_X6_set_66 dX6_set_82 ?_
              exact g_iret (post := fun r M1 P1 => r = (sSet A k x).1 ∧ JC M1 P1 (sSet A k x).2 ∧ FHi M P M1 P1) C F dX6_set_84 ⟨by rw [sSet, if_neg (fun z => absurd (hk.symm.trans z.1) (by decide)), if_pos ⟨hk, io (if0 c37)⟩, if_pos c79.symm], by rw [sSet, if_neg (fun z => absurd (hk.symm.trans z.1) (by decide)), if_pos ⟨hk, io (if0 c37)⟩, if_pos c79.symm]; exact h, FHi.refl⟩
          · exact absurd (hk.symm.trans c54) (by decide)
        · exact absurd c47 (by decide)
  · exact absurd (hk.symm.trans c1) (by decide)

set_option maxRecDepth 100000 in
set_option maxHeartbeats 1000000 in
theorem c6_setC {l : Launch} {D : va_G} {cy : Nat → ClassId} {B : Nat} {M : MM} {P : PP} {k x : Int32} {A : AS} {c : Nat} (h : JC M P A) (hA : WA c A) (hk0 : ¬ k = 0) (hk1 : ¬ k = 1) : KI l D cy B yX6_set wsX6_set 4 89 [Value.ref (B + 0), Value.int k, Value.int x] M P (fun r M1 P1 => r = (sSet A k x).1 ∧ JC M1 P1 (sSet A k x).2 ∧ FHi M P M1 P1) := by
  refine met_KI (cc := cX6_set) (maxL := 5) (ret := (some .int)) (lv := [some (Value.ref (B + 0)), some (Value.int k), some (Value.int x), none, none]) (by decide) rfl rfl rfl (Nat.le_of_ble_eq_true rfl) ?_
  intro X C F
  have pc := h.1
  have hr := h.2.1
  have hw := hA.1
  have h6 := hw.m6
  have h30 := hw.s30
  
  refine g_iload_1 (pc := 0) C dX6_set_0 ?_
  refine g_if_ne (pc := 1) (tgt := 24) C dX6_set_1 (by decide) (fun c1 => ?_) (fun c1 => ?_)
  · refine g_iload_1 (pc := 24) C dX6_set_24 ?_
    refine g_iconst (pc := 25) (v := 1) C dX6_set_25 rfl ?_
    refine g_icmp_ne (pc := 26) (tgt := 44) C dX6_set_26 (by decide) (fun c26 => ?_) (fun c26 => ?_)
    · refine g_iconst (pc := 44) (v := 0) C dX6_set_44 rfl ?_
      refine g_istore_3 (pc := 45) C dX6_set_45 ?_
      refine g_iload_3 (pc := 46) C dX6_set_46 ?_
      refine g_if_ne (pc := 47) (tgt := 53) C dX6_set_47 (by decide) (fun c47 => ?_) (fun c47 => ?_)
      · exact absurd rfl c47
      · refine g_ldc (pc := 50) C k_X6_set_41 dX6_set_50 ?_
        exact g_iret (post := fun r M1 P1 => r = (sSet A k x).1 ∧ JC M1 P1 (sSet A k x).2 ∧ FHi M P M1 P1) C F dX6_set_52 ⟨by rw [sSet, if_neg (fun z => hk0 z.1), if_neg (fun z => hk1 z.1)], by rw [sSet, if_neg (fun z => hk0 z.1), if_neg (fun z => hk1 z.1)]; exact h, FHi.refl⟩
    · exact absurd c26 hk1
  · exact absurd c1 hk0

theorem c6_set {l : Launch} {D : va_G} {cy : Nat → ClassId} {B : Nat} {M : MM} {P : PP} {k x : Int32} {A : AS} {c : Nat} (h : JC M P A) (hA : WA c A) : KI l D cy B yX6_set wsX6_set 4 89 [Value.ref (B + 0), Value.int k, Value.int x] M P (fun r M1 P1 => r = (sSet A k x).1 ∧ JC M1 P1 (sSet A k x).2 ∧ FHi M P M1 P1) := by
  by_cases hk0 : k = 0
  · exact c6_setA h hA hk0
  · by_cases hk1 : k = 1
    · exact c6_setB h hA hk1
    · exact c6_setC h hA hk0 hk1

set_option maxRecDepth 100000 in
set_option maxHeartbeats 1000000 in
theorem c6_fillT {l : Launch} {D : va_G} {cy : Nat → ClassId} {B : Nat} {M : MM} {P : PP} {w m x : Int32} {A : AS} {c : Nat} (h : JC M P A) (hA : WA c A) (hi : isF w) {a : Nat} (ha : a < 6) (hx : w = nI a) (hcl : w.toNatClampNeg = a) (hi2 : isM A m) {b : Nat} (hb : b < mn A.f) (hy : m = nI b) (hcm : m.toNatClampNeg = b) (hx5 : ¬ (1 ≤ x ∧ x ≤ 500)) : KI l D cy B yX6_fill wsX6_fill 4 89 [Value.ref (B + 0), Value.int w, Value.int m, Value.int x] M P (fun r M1 P1 => r = (sFill A w m x).1 ∧ JC M1 P1 (sFill A w m x).2 ∧ FHi M P M1 P1) := by
  refine met_KI (cc := cX6_fill) (maxL := 8) (ret := (some .int)) (lv := [some (Value.ref (B + 0)), some (Value.int w), some (Value.int m), some (Value.int x), none, none, none, none]) (by decide) rfl rfl rfl (Nat.le_of_ble_eq_true rfl) ?_
  intro X C F
  have pc := h.1
  have hr := h.2.1
  have hw := hA.1
  have h6 := hw.m6
  have h30 := hw.s30
  have hF := hr.2.1 a ha
  have kf := kk_f is1 ha
  have hm7 := hr.2.2.1 b hb (by omega)
  have km := kk_m is1 (i := b) (by omega)
  refine g_aload_0 (pc := 0) C dX6_fill_0 ?_
  refine g_getr (pc := 1) C pc.now fl_X6_fill_10 kk0 dX6_fill_1 ?_
  refine g_iload_1 (pc := 4) C dX6_fill_4 ?_
  refine g_V1qs (pc := 5) C e_X6_fill_56 (Nat.le_of_ble_eq_true rfl) rfl dX6_fill_5 (kk_s0 is1) (c_farmerAt is1 pc.p1 hx ha) ?_
  refine g_astore_4 (pc := 8) C dX6_fill_8 ?_
  refine g_aload_0 (pc := 10) C dX6_fill_10 ?_
  refine g_getr (pc := 11) C pc.now fl_X6_fill_10 kk0 dX6_fill_11 ?_
  refine g_iload_2 (pc := 14) C dX6_fill_14 ?_
  refine g_V1qs (pc := 15) C e_X6_fill_67 (Nat.le_of_ble_eq_true rfl) rfl dX6_fill_15 (kk_s0 is1) (c_machineAt is1 pc.p1 hr hw hy hb) ?_
  refine g_astore_5 (pc := 18) C dX6_fill_18 ?_
  refine g_aload_4 (pc := 20) C dX6_fill_20 ?_
  refine g_ifnull (pc := 22) C dX6_fill_22 ?_
  refine g_aload_5 (pc := 25) C dX6_fill_25 ?_
  refine g_ifnonnull (pc := 27) (tgt := 33) C dX6_fill_27 (by decide) ?_
  refine g_iload_3 (pc := 33) C dX6_fill_33 ?_
  refine g_iconst (pc := 34) (v := 1) C dX6_fill_34 rfl ?_
  refine g_sipush (pc := 35) (v := 500) C dX6_fill_35 rfl ?_
  refine g_S3ie (pc := 38) C e_X6_fill_36 (Nat.le_of_ble_eq_true rfl) rfl dX6_fill_38 (c_outside) ?_
  refine g_if_eq (pc := 41) (tgt := 47) C dX6_fill_41 (by decide) (fun c41 => ?_) (fun c41 => ?_)
  · exact absurd (io (if0 c41)) hx5
  · refine g_ldc (pc := 44) C k_X6_fill_41 dX6_fill_44 ?_
    exact g_iret (post := fun r M1 P1 => r = (sFill A w m x).1 ∧ JC M1 P1 (sFill A w m x).2 ∧ FHi M P M1 P1) C F dX6_fill_46 ⟨by rw [sFill, if_pos ⟨hi, hi2⟩, if_neg hx5], by rw [sFill, if_pos ⟨hi, hi2⟩, if_neg hx5]; exact h, FHi.refl⟩

set_option maxRecDepth 100000 in
set_option maxHeartbeats 1000000 in
theorem c6_fillS {l : Launch} {D : va_G} {cy : Nat → ClassId} {B : Nat} {M : MM} {P : PP} {w m x : Int32} {A : AS} {c : Nat} (h : JC M P A) (hA : WA c A) (hi : isF w) {a : Nat} (ha : a < 6) (hx : w = nI a) (hcl : w.toNatClampNeg = a) (hi2 : isM A m) {b : Nat} (hb : b < mn A.f) (hy : m = nI b) (hcm : m.toNatClampNeg = b) (hx5 : 1 ≤ x ∧ x ≤ 500) {n : Nat} (hn : n ≤ 500) (hxn : x = nI n) : KI l D cy B yX6_fill wsX6_fill 4 89 [Value.ref (B + 0), Value.int w, Value.int m, Value.int x] M P (fun r M1 P1 => r = (sFill A w m x).1 ∧ JC M1 P1 (sFill A w m x).2 ∧ FHi M P M1 P1) := by
  refine met_KI (cc := cX6_fill) (maxL := 8) (ret := (some .int)) (lv := [some (Value.ref (B + 0)), some (Value.int w), some (Value.int m), some (Value.int x), none, none, none, none]) (by decide) rfl rfl rfl (Nat.le_of_ble_eq_true rfl) ?_
  intro X C F
  have pc := h.1
  have hr := h.2.1
  have hw := hA.1
  have h6 := hw.m6
  have h30 := hw.s30
  have hF := hr.2.1 a ha
  have kf := kk_f is1 ha
  have hm7 := hr.2.2.1 b hb (by omega)
  have km := kk_m is1 (i := b) (by omega)
  obtain ⟨k, u1, u2, -, -⟩ := fill_u hw hb hn
  refine g_aload_0 (pc := 0) C dX6_fill_0 ?_
  refine g_getr (pc := 1) C pc.now fl_X6_fill_10 kk0 dX6_fill_1 ?_
  refine g_iload_1 (pc := 4) C dX6_fill_4 ?_
  refine g_V1qs (pc := 5) C e_X6_fill_56 (Nat.le_of_ble_eq_true rfl) rfl dX6_fill_5 (kk_s0 is1) (c_farmerAt is1 pc.p1 hx ha) ?_
  refine g_astore_4 (pc := 8) C dX6_fill_8 ?_
  refine g_aload_0 (pc := 10) C dX6_fill_10 ?_
  refine g_getr (pc := 11) C pc.now fl_X6_fill_10 kk0 dX6_fill_11 ?_
  refine g_iload_2 (pc := 14) C dX6_fill_14 ?_
  refine g_V1qs (pc := 15) C e_X6_fill_67 (Nat.le_of_ble_eq_true rfl) rfl dX6_fill_15 (kk_s0 is1) (c_machineAt is1 pc.p1 hr hw hy hb) ?_
  refine g_astore_5 (pc := 18) C dX6_fill_18 ?_
  refine g_aload_4 (pc := 20) C dX6_fill_20 ?_
  refine g_ifnull (pc := 22) C dX6_fill_22 ?_
  refine g_aload_5 (pc := 25) C dX6_fill_25 ?_
  refine g_ifnonnull (pc := 27) (tgt := 33) C dX6_fill_27 (by decide) ?_
  refine g_iload_3 (pc := 33) C dX6_fill_33 ?_
  refine g_iconst (pc := 34) (v := 1) C dX6_fill_34 rfl ?_
  refine g_sipush (pc := 35) (v := 500) C dX6_fill_35 rfl ?_
  refine g_S3ie (pc := 38) C e_X6_fill_36 (Nat.le_of_ble_eq_true rfl) rfl dX6_fill_38 (c_outside) ?_
  refine g_if_eq (pc := 41) (tgt := 47) C dX6_fill_41 (by decide) (fun c41 => ?_) (fun c41 => ?_)
  · refine g_aload_5 (pc := 47) C dX6_fill_47 ?_
    refine g_getf (pc := 49) C fl_X6_fill_76 km dX6_fill_49 ?_
    rw [hm7.2.2.2.1]
    refine g_iload_3 (pc := 52) C dX6_fill_52 ?_
    refine g_i2f (pc := 53) C dX6_fill_53 ?_
    refine g_fadd (pc := 54) C dX6_fill_54 (by rw [show FP.fadd (A.f (49 + 14 * b + 6)).toUInt32 (FP.i2f x) = qbU k from by rw [← u2, hxn]; rfl]; exact qbU_n32 u1) ?_
    rw [show FP.fadd (A.f (49 + 14 * b + 6)).toUInt32 (FP.i2f x) = fillU A.f b x from rfl]
    refine g_fstore_6 (pc := 55) C dX6_fill_55 ?_
    refine g_fload_6 (pc := 57) C dX6_fill_57 ?_
    refine g_ldcf (pc := 59) C k_X6_fill_80 dX6_fill_59 ?_
    refine g_fcmp (pc := 61) C dX6_fill_61 ?_
    refine g_if_le (pc := 62) (tgt := 68) C dX6_fill_62 (by decide) (fun c62 => ?_) (fun c62 => ?_)
    · refine g_aload_0 (pc := 68) C dX6_fill_68 ?_
      refine g_getr (pc := 69) C pc.hist fl_X6_fill_25 kk0 dX6_fill_69 ?_
      refine g_aload_0 (pc := 72) C dX6_fill_72 ?_
      refine g_getr (pc := 73) C pc.now fl_X6_fill_10 kk0 dX6_fill_73 ?_
      refine g_V1v (pc := 76) C e_X6_fill_48 (Nat.le_of_ble_eq_true rfl) rfl dX6_fill_76 kk157 (c_push is1 (by decide) pc.p1 hr hw pc.hh hA.z h.2.2.1) (fun M1 P1 hq => ?_)
      obtain ⟨j1, fh1⟩ := JC_push h hq
      have pc1 := j1.1
      have hr1 : Rp M1 P1 1 A.f := j1.2.1
      have hz1 : (psh A).z ≤ 4 := pshZ_le hA.z
      refine g_iconst (pc := 79) (v := 2) C dX6_fill_79 rfl ?_
      refine g_iload_3 (pc := 80) C dX6_fill_80 ?_
      refine g_imul (pc := 81) C dX6_fill_81 ?_
      refine g_istore_7 (pc := 82) C dX6_fill_82 ?_
      refine g_aload_5 (pc := 84) C dX6_fill_84 ?_
      refine g_fload_6 (pc := 86) C dX6_fill_86 ?_
      refine g_putf (pc := 88) C pf_X6_fill_76 km dX6_fill_88 ?_
      have g1 := Rp_mf is1 pc1.p1 hr1 (a := b) (sl := 3) (j := 6) (v := (fillU A.f b x).toInt32) (by omega) (Or.inr ⟨rfl, rfl⟩)
      have e1 : ∀ o, o < 1 ∨ 53 ≤ o → up M1 (1 + 9 + 2 * b) (up (M1 (1 + 9 + 2 * b)) 3 (fillU A.f b x).toInt32) o = M1 o := fun o ho => up_ne _ _ (by omega)
      generalize up M1 (1 + 9 + 2 * b) (up (M1 (1 + 9 + 2 * b)) 3 (fillU A.f b x).toInt32) = M2 at g1 e1 ⊢
      refine g_aload_4 (pc := 91) C dX6_fill_91 ?_
      refine g_dup (pc := 93) C dX6_fill_93 rfl ?_
      refine g_geti (pc := 94) C fl_X6_fill_81 kf dX6_fill_94 ?_
      rw [g1.2.1 a ha 3 (by decide), up_ne _ _ (show 13 + 6 * a + 3 ≠ 49 + 14 * b + 6 by omega)]
      refine g_iload_3 (pc := 97) C dX6_fill_97 ?_
      refine g_iadd (pc := 98) C dX6_fill_98 ?_
      refine g_puti (pc := 99) C pf_X6_fill_81 kf dX6_fill_99 ?_
      have g2 := Rp_ff is1 pc1.p1 g1 ha (k := 3) (v := A.f (13 + 6 * a + 3) + x) (by decide)
      have e2 : ∀ o, o < 1 ∨ 53 ≤ o → up M2 (1 + 2 + a) (up (M2 (1 + 2 + a)) 3 (A.f (13 + 6 * a + 3) + x)) o = M1 o := fun o ho => by rw [up_ne _ _ (by omega)]; exact e1 o ho
      generalize up M2 (1 + 2 + a) (up (M2 (1 + 2 + a)) 3 (A.f (13 + 6 * a + 3) + x)) = M3 at g2 e2 ⊢
      refine g_aload_0 (pc := 102) C dX6_fill_102 ?_
      refine g_getr (pc := 103) C pc1.now fl_X6_fill_10 kk0 dX6_fill_103 ?_
      refine g_dup (pc := 106) C dX6_fill_106 rfl ?_
      refine g_geti (pc := 107) C fl_X6_fill_84 (kk_s0 is1) dX6_fill_107 ?_
      rw [g2.1.2.2.2.2.2.2.1, up_ne _ _ (show 4 ≠ 13 + 6 * a + 3 by omega), up_ne _ _ (show 4 ≠ 49 + 14 * b + 6 by omega)]
      refine g_iload_7 (pc := 110) C dX6_fill_110 ?_
      refine g_isub (pc := 112) C dX6_fill_112 ?_
      refine g_puti (pc := 113) C pf_X6_fill_84 (kk_s0 is1) dX6_fill_113 ?_
      have g3 := Rp_sn is1 pc1.p1 g2 (sl := 9) (j := 4) (v := A.f 4 - 2 * x) (Or.inl ⟨rfl, rfl⟩)
      refine g_aload_0 (pc := 116) C dX6_fill_116 ?_
      refine g_getr (pc := 117) C pc1.now fl_X6_fill_10 kk0 dX6_fill_117 ?_
      refine g_dup (pc := 120) C dX6_fill_120 rfl ?_
      refine g_geti (pc := 121) C fl_X6_fill_87 (kk_s0 is1) dX6_fill_121 ?_
      rw [g3.1.2.2.2.2.2.2.2.2.2.2.2.1, up_ne _ _ (show 10 ≠ 4 by decide), up_ne _ _ (show 10 ≠ 13 + 6 * a + 3 by omega), up_ne _ _ (show 10 ≠ 49 + 14 * b + 6 by omega)]
      refine g_iload_7 (pc := 124) C dX6_fill_124 ?_
      refine g_iadd (pc := 126) C dX6_fill_126 ?_
      refine g_puti (pc := 127) C pf_X6_fill_87 (kk_s0 is1) dX6_fill_127 ?_
      have g4 := Rp_sn is1 pc1.p1 g3 (sl := 14) (j := 10) (v := A.f 10 + 2 * x) (Or.inr (Or.inr (Or.inr (Or.inr (Or.inl ⟨rfl, rfl⟩)))))
      refine g_iload_7 (pc := 130) C dX6_fill_130 ?_
      exact g_iret (post := fun r M1 P1 => r = (sFill A w m x).1 ∧ JC M1 P1 (sFill A w m x).2 ∧ FHi M P M1 P1) C F dX6_fill_132 ⟨by rw [sFill, if_pos ⟨hi, hi2⟩, if_pos hx5, hcm, hcl, if_pos c62], by rw [sFill, if_pos ⟨hi, hi2⟩, if_pos hx5, hcm, hcl, if_pos c62]; exact (JC_now j1 hz1 pc1.p1 g4 (fun o ho => by rw [up_ne _ _ (by omega), up_ne _ _ (by omega)]; exact e2 o ho) (fun _ _ => rfl)).1, fh1.trans (JC_now j1 hz1 pc1.p1 g4 (fun o ho => by rw [up_ne _ _ (by omega), up_ne _ _ (by omega)]; exact e2 o ho) (fun _ _ => rfl)).2⟩
    · refine g_ldc (pc := 65) C k_X6_fill_46 dX6_fill_65 ?_
      exact g_iret (post := fun r M1 P1 => r = (sFill A w m x).1 ∧ JC M1 P1 (sFill A w m x).2 ∧ FHi M P M1 P1) C F dX6_fill_67 ⟨by rw [sFill, if_pos ⟨hi, hi2⟩, if_pos hx5, hcm, if_neg c62], by rw [sFill, if_pos ⟨hi, hi2⟩, if_pos hx5, hcm, if_neg c62]; exact h, FHi.refl⟩
  · exact absurd hx5 (oi (if1 c41))

set_option maxRecDepth 100000 in
set_option maxHeartbeats 1000000 in
theorem c6_fillN1 {l : Launch} {D : va_G} {cy : Nat → ClassId} {B : Nat} {M : MM} {P : PP} {w m x : Int32} {A : AS} {c : Nat} (h : JC M P A) (hA : WA c A) (hi : ¬ isF w) (hi2 : isM A m) {b : Nat} (hb : b < mn A.f) (hy : m = nI b) (hcm : m.toNatClampNeg = b) : KI l D cy B yX6_fill wsX6_fill 4 89 [Value.ref (B + 0), Value.int w, Value.int m, Value.int x] M P (fun r M1 P1 => r = (sFill A w m x).1 ∧ JC M1 P1 (sFill A w m x).2 ∧ FHi M P M1 P1) := by
  refine met_KI (cc := cX6_fill) (maxL := 8) (ret := (some .int)) (lv := [some (Value.ref (B + 0)), some (Value.int w), some (Value.int m), some (Value.int x), none, none, none, none]) (by decide) rfl rfl rfl (Nat.le_of_ble_eq_true rfl) ?_
  intro X C F
  have pc := h.1
  have hr := h.2.1
  have hw := hA.1
  have h6 := hw.m6
  have h30 := hw.s30
  
  refine g_aload_0 (pc := 0) C dX6_fill_0 ?_
  refine g_getr (pc := 1) C pc.now fl_X6_fill_10 kk0 dX6_fill_1 ?_
  refine g_iload_1 (pc := 4) C dX6_fill_4 ?_
  refine g_V1qn (pc := 5) C e_X6_fill_56 (Nat.le_of_ble_eq_true rfl) rfl dX6_fill_5 (kk_s0 is1) (c_farmerAtN is1 pc.p1 (isF_no hi)) ?_
  refine g_astoreZ_4 (pc := 8) C dX6_fill_8 ?_
  refine g_aload_0 (pc := 10) C dX6_fill_10 ?_
  refine g_getr (pc := 11) C pc.now fl_X6_fill_10 kk0 dX6_fill_11 ?_
  refine g_iload_2 (pc := 14) C dX6_fill_14 ?_
  refine g_V1qs (pc := 15) C e_X6_fill_67 (Nat.le_of_ble_eq_true rfl) rfl dX6_fill_15 (kk_s0 is1) (c_machineAt is1 pc.p1 hr hw hy hb) ?_
  refine g_astore_5 (pc := 18) C dX6_fill_18 ?_
  refine g_aloadZ_4 (pc := 20) C dX6_fill_20 ?_
  refine g_ifnullN (pc := 22) (tgt := 30) C dX6_fill_22 (by decide) ?_
  refine g_ldc (pc := 30) C k_X6_fill_40 dX6_fill_30 ?_
  exact g_iret (post := fun r M1 P1 => r = (sFill A w m x).1 ∧ JC M1 P1 (sFill A w m x).2 ∧ FHi M P M1 P1) C F dX6_fill_32 ⟨by rw [sFill, if_neg (fun z => hi z.1)], by rw [sFill, if_neg (fun z => hi z.1)]; exact h, FHi.refl⟩

set_option maxRecDepth 100000 in
set_option maxHeartbeats 1000000 in
theorem c6_fillN2 {l : Launch} {D : va_G} {cy : Nat → ClassId} {B : Nat} {M : MM} {P : PP} {w m x : Int32} {A : AS} {c : Nat} (h : JC M P A) (hA : WA c A) (hi : ¬ isF w) (hi2 : ¬ isM A m) : KI l D cy B yX6_fill wsX6_fill 4 89 [Value.ref (B + 0), Value.int w, Value.int m, Value.int x] M P (fun r M1 P1 => r = (sFill A w m x).1 ∧ JC M1 P1 (sFill A w m x).2 ∧ FHi M P M1 P1) := by
  refine met_KI (cc := cX6_fill) (maxL := 8) (ret := (some .int)) (lv := [some (Value.ref (B + 0)), some (Value.int w), some (Value.int m), some (Value.int x), none, none, none, none]) (by decide) rfl rfl rfl (Nat.le_of_ble_eq_true rfl) ?_
  intro X C F
  have pc := h.1
  have hr := h.2.1
  have hw := hA.1
  have h6 := hw.m6
  have h30 := hw.s30
  
  refine g_aload_0 (pc := 0) C dX6_fill_0 ?_
  refine g_getr (pc := 1) C pc.now fl_X6_fill_10 kk0 dX6_fill_1 ?_
  refine g_iload_1 (pc := 4) C dX6_fill_4 ?_
  refine g_V1qn (pc := 5) C e_X6_fill_56 (Nat.le_of_ble_eq_true rfl) rfl dX6_fill_5 (kk_s0 is1) (c_farmerAtN is1 pc.p1 (isF_no hi)) ?_
  refine g_astoreZ_4 (pc := 8) C dX6_fill_8 ?_
  refine g_aload_0 (pc := 10) C dX6_fill_10 ?_
  refine g_getr (pc := 11) C pc.now fl_X6_fill_10 kk0 dX6_fill_11 ?_
  refine g_iload_2 (pc := 14) C dX6_fill_14 ?_
  refine g_V1qn (pc := 15) C e_X6_fill_67 (Nat.le_of_ble_eq_true rfl) rfl dX6_fill_15 (kk_s0 is1) (c_machineAtN is1 pc.p1 hr hw (isM_no hA hi2)) ?_
  refine g_astoreZ_5 (pc := 18) C dX6_fill_18 ?_
  refine g_aloadZ_4 (pc := 20) C dX6_fill_20 ?_
  refine g_ifnullN (pc := 22) (tgt := 30) C dX6_fill_22 (by decide) ?_
  refine g_ldc (pc := 30) C k_X6_fill_40 dX6_fill_30 ?_
  exact g_iret (post := fun r M1 P1 => r = (sFill A w m x).1 ∧ JC M1 P1 (sFill A w m x).2 ∧ FHi M P M1 P1) C F dX6_fill_32 ⟨by rw [sFill, if_neg (fun z => hi z.1)], by rw [sFill, if_neg (fun z => hi z.1)]; exact h, FHi.refl⟩

set_option maxRecDepth 100000 in
set_option maxHeartbeats 1000000 in
theorem c6_fillN3 {l : Launch} {D : va_G} {cy : Nat → ClassId} {B : Nat} {M : MM} {P : PP} {w m x : Int32} {A : AS} {c : Nat} (h : JC M P A) (hA : WA c A) (hi : isF w) {a : Nat} (ha : a < 6) (hx : w = nI a) (hcl : w.toNatClampNeg = a) (hi2 : ¬ isM A m) : KI l D cy B yX6_fill wsX6_fill 4 89 [Value.ref (B + 0), Value.int w, Value.int m, Value.int x] M P (fun r M1 P1 => r = (sFill A w m x).1 ∧ JC M1 P1 (sFill A w m x).2 ∧ FHi M P M1 P1) := by
  refine met_KI (cc := cX6_fill) (maxL := 8) (ret := (some .int)) (lv := [some (Value.ref (B + 0)), some (Value.int w), some (Value.int m), some (Value.int x), none, none, none, none]) (by decide) rfl rfl rfl (Nat.le_of_ble_eq_true rfl) ?_
  intro X C F
  have pc := h.1
  have hr := h.2.1
  have hw := hA.1
  have h6 := hw.m6
  have h30 := hw.s30
  
  refine g_aload_0 (pc := 0) C dX6_fill_0 ?_
  refine g_getr (pc := 1) C pc.now fl_X6_fill_10 kk0 dX6_fill_1 ?_
  refine g_iload_1 (pc := 4) C dX6_fill_4 ?_
  refine g_V1qs (pc := 5) C e_X6_fill_56 (Nat.le_of_ble_eq_true rfl) rfl dX6_fill_5 (kk_s0 is1) (c_farmerAt is1 pc.p1 hx ha) ?_
  refine g_astore_4 (pc := 8) C dX6_fill_8 ?_
  refine g_aload_0 (pc := 10) C dX6_fill_10 ?_
  refine g_getr (pc := 11) C pc.now fl_X6_fill_10 kk0 dX6_fill_11 ?_
  refine g_iload_2 (pc := 14) C dX6_fill_14 ?_
  refine g_V1qn (pc := 15) C e_X6_fill_67 (Nat.le_of_ble_eq_true rfl) rfl dX6_fill_15 (kk_s0 is1) (c_machineAtN is1 pc.p1 hr hw (isM_no hA hi2)) ?_
  refine g_astoreZ_5 (pc := 18) C dX6_fill_18 ?_
  refine g_aload_4 (pc := 20) C dX6_fill_20 ?_
  refine g_ifnull (pc := 22) C dX6_fill_22 ?_
  refine g_aloadZ_5 (pc := 25) C dX6_fill_25 ?_
  refine g_ifnonnullN (pc := 27) C dX6_fill_27 ?_
  refine g_ldc (pc := 30) C k_X6_fill_40 dX6_fill_30 ?_
  exact g_iret (post := fun r M1 P1 => r = (sFill A w m x).1 ∧ JC M1 P1 (sFill A w m x).2 ∧ FHi M P M1 P1) C F dX6_fill_32 ⟨by rw [sFill, if_neg (fun z => hi2 z.2)], by rw [sFill, if_neg (fun z => hi2 z.2)]; exact h, FHi.refl⟩

theorem c6_fill {l : Launch} {D : va_G} {cy : Nat → ClassId} {B : Nat} {M : MM} {P : PP} {w m x : Int32} {A : AS} {c : Nat} (h : JC M P A) (hA : WA c A) : KI l D cy B yX6_fill wsX6_fill 4 89 [Value.ref (B + 0), Value.int w, Value.int m, Value.int x] M P (fun r M1 P1 => r = (sFill A w m x).1 ∧ JC M1 P1 (sFill A w m x).2 ∧ FHi M P M1 P1) := by
  by_cases hi : isF w
  · obtain ⟨a, ha, hx, hcl⟩ := isF_of hi
    by_cases hi2 : isM A m
    · obtain ⟨b, hb, hy, hcm⟩ := isM_of hA hi2
      by_cases hx5 : 1 ≤ x ∧ x ≤ 500
      · obtain ⟨n, hn, hxn⟩ := i_nat (x := x) (N := 501) (by decide) (Int32.not_lt.mpr (Int32.le_trans (by decide) hx5.1)) (fun z => absurd (Int32.le_trans z hx5.2) (by decide))
        exact c6_fillS h hA hi ha hx hcl hi2 hb hy hcm hx5 (by omega) hxn
      · exact c6_fillT h hA hi ha hx hcl hi2 hb hy hcm hx5
    · exact c6_fillN3 h hA hi ha hx hcl hi2
  · by_cases hi2 : isM A m
    · obtain ⟨b, hb, hy, hcm⟩ := isM_of hA hi2
      exact c6_fillN1 h hA hi hi2 hb hy hcm
    · exact c6_fillN2 h hA hi hi2

set_option maxRecDepth 100000 in
set_option maxHeartbeats 1000000 in
theorem c6_passN {l : Launch} {D : va_G} {cy : Nat → ClassId} {B : Nat} {M : MM} {P : PP} {d : Int32} {A : AS} {c : Nat} (h : JC M P A) (hA : WA c A) (hd : ¬ (1 ≤ d ∧ d ≤ 60)) : KI l D cy B yX6_pass wsX6_pass 5 116 [Value.ref (B + 0), Value.int d] M P (fun r M1 P1 => r = (sPass A d).1 ∧ JC M1 P1 (sPass A d).2 ∧ FHi M P M1 P1) := by
  refine met_KI (cc := cX6_pass) (maxL := 4) (ret := (some .int)) (lv := [some (Value.ref (B + 0)), some (Value.int d), none, none]) (by decide) rfl rfl rfl (Nat.le_of_ble_eq_true rfl) ?_
  intro X C F
  have pc := h.1
  have hr := h.2.1
  have hw := hA.1
  have h6 := hw.m6
  have h30 := hw.s30
  
  refine g_iload_1 (pc := 0) C dX6_pass_0 ?_
  refine g_iconst (pc := 1) (v := 1) C dX6_pass_1 rfl ?_
  refine g_bipush (pc := 2) (v := 60) C dX6_pass_2 rfl ?_
  refine g_S3ie (pc := 4) C e_X6_pass_36 (Nat.le_of_ble_eq_true rfl) rfl dX6_pass_4 (c_outside) ?_
  refine g_if_eq (pc := 7) (tgt := 13) C dX6_pass_7 (by decide) (fun c7 => ?_) (fun c7 => ?_)
  · exact absurd (io (if0 c7)) hd
  · refine g_ldc (pc := 10) C k_X6_pass_41 dX6_pass_10 ?_
    exact g_iret (post := fun r M1 P1 => r = (sPass A d).1 ∧ JC M1 P1 (sPass A d).2 ∧ FHi M P M1 P1) C F dX6_pass_12 ⟨by rw [sPass, if_neg hd], by rw [sPass, if_neg hd]; exact h, FHi.refl⟩

set_option maxRecDepth 100000 in
set_option maxHeartbeats 1000000 in
theorem c6_passS {l : Launch} {D : va_G} {cy : Nat → ClassId} {B : Nat} {M : MM} {P : PP} {d : Int32} {A : AS} {c : Nat} (h : JC M P A) (hA : WA c A) (hc : c + 60 ≤ 40000) (hd : 1 ≤ d ∧ d ≤ 60) {n : Nat} (hn : n ≤ 60) (hx : d = nI n) (hcl : d.toNatClampNeg = n) : KI l D cy B yX6_pass wsX6_pass 5 116 [Value.ref (B + 0), Value.int d] M P (fun r M1 P1 => r = (sPass A d).1 ∧ JC M1 P1 (sPass A d).2 ∧ FHi M P M1 P1) := by
  refine met_KI (cc := cX6_pass) (maxL := 4) (ret := (some .int)) (lv := [some (Value.ref (B + 0)), some (Value.int d), none, none]) (by decide) rfl rfl rfl (Nat.le_of_ble_eq_true rfl) ?_
  intro X C F
  have pc := h.1
  have hr := h.2.1
  have hw := hA.1
  have h6 := hw.m6
  have h30 := hw.s30
  
  refine g_iload_1 (pc := 0) C dX6_pass_0 ?_
  refine g_iconst (pc := 1) (v := 1) C dX6_pass_1 rfl ?_
  refine g_bipush (pc := 2) (v := 60) C dX6_pass_2 rfl ?_
  refine g_S3ie (pc := 4) C e_X6_pass_36 (Nat.le_of_ble_eq_true rfl) rfl dX6_pass_4 (c_outside) ?_
  refine g_if_eq (pc := 7) (tgt := 13) C dX6_pass_7 (by decide) (fun c7 => ?_) (fun c7 => ?_)
  · refine g_aload_0 (pc := 13) C dX6_pass_13 ?_
    refine g_getr (pc := 14) C pc.hist fl_X6_pass_25 kk0 dX6_pass_14 ?_
    refine g_aload_0 (pc := 17) C dX6_pass_17 ?_
    refine g_getr (pc := 18) C pc.now fl_X6_pass_10 kk0 dX6_pass_18 ?_
    refine g_V1v (pc := 21) C e_X6_pass_48 (Nat.le_of_ble_eq_true rfl) rfl dX6_pass_21 kk157 (c_push is1 (by decide) pc.p1 hr hw pc.hh hA.z h.2.2.1) (fun M1 P1 hq => ?_)
    obtain ⟨j1, fh1⟩ := JC_push h hq
    have pc1 := j1.1
    have hr1 : Rp M1 P1 1 A.f := j1.2.1
    have hz1 : (psh A).z ≤ 4 := pshZ_le hA.z
    refine g_aload_0 (pc := 24) C dX6_pass_24 ?_
    refine g_getr (pc := 25) C pc1.now fl_X6_pass_10 kk0 dX6_pass_25 ?_
    refine g_geti (pc := 28) C fl_X6_pass_152 (kk_s0 is1) dX6_pass_28 ?_
    rw [hr1.1.2.2.2.2.1]
    refine g_istore_2 (pc := 31) C dX6_pass_31 ?_
    refine g_iconst (pc := 32) (v := 0) C dX6_pass_32 rfl ?_
    refine g_istore_3 (pc := 33) C dX6_pass_33 ?_
    refine ind_m (fun (k : Nat) => n - k) (p := fun (k : Nat) => ∀ (M2 : MM) (P2 : PP), k ≤ n → JC M2 P2 (stF (psh A) (dFn A.f k)) → FHi M P M2 P2 → G X D cy B 0 0 369 M2 P2 34 [some (Value.ref (B + 0)), some (Value.int d), some (Value.int (A.f 7)), some (Value.int (nI k))] []) ?_ 0 M1 P1 (Nat.zero_le _) j1 fh1
    intro k ih M2 P2 hk j2 fh2
    have pc2 := j2.1
    have hr2 : Rp M2 P2 1 (dFn A.f k) := j2.2.1
    have hwk := Wf_dFn hw (n := k) (by omega)
    refine g_iload_3 (pc := 34) C dX6_pass_34 ?_
    refine g_iload_1 (pc := 35) C dX6_pass_35 ?_
    refine g_icmp_ge (pc := 36) (tgt := 52) C dX6_pass_36 (by decide) (fun c36 => ?_) (fun c36 => ?_)
    · rw [hx] at c36
      have e : n ≤ k := i_le (by omega) (by omega) c36
      have e1 : k = n := by omega
      subst e1
      refine g_aload_0 (pc := 52) C dX6_pass_52 ?_
      refine g_getr (pc := 53) C pc2.now fl_X6_pass_10 kk0 dX6_pass_53 ?_
      refine g_geti (pc := 56) C fl_X6_pass_152 (kk_s0 is1) dX6_pass_56 ?_
      rw [hr2.1.2.2.2.2.1]
      refine g_iload_2 (pc := 59) C dX6_pass_59 ?_
      refine g_isub (pc := 60) C dX6_pass_60 ?_
      exact g_iret (post := fun r M1 P1 => r = (sPass A d).1 ∧ JC M1 P1 (sPass A d).2 ∧ FHi M P M1 P1) C F dX6_pass_61 ⟨by rw [sPass, if_pos hd, hcl], by rw [sPass, if_pos hd, hcl]; exact j2, fh2⟩
    · rw [hx] at c36
      have hk2 : k < n := i_nle (by omega) (by omega) c36
      refine g_aload_0 (pc := 39) C dX6_pass_39 ?_
      refine g_getr (pc := 40) C pc2.now fl_X6_pass_10 kk0 dX6_pass_40 ?_
      refine g_V0v (pc := 43) C e_X6_pass_155 (Nat.le_of_ble_eq_true rfl) rfl dX6_pass_43 (kk_s0 is1) (c_passDay is1 pc2.p1 hr2 hwk (by omega)) (fun M3 P3 hq3 => ?_)
      refine g_iinc_3 (pc := 46) (v := nI (k + 1)) C dX6_pass_46 (nI_1 k) ?_
      refine g_goto (pc := 49) (tgt := 34) C dX6_pass_49 (by decide) ?_
      obtain ⟨q1, q2, q3, q4⟩ := hq3
      have j3 := JC_now j2 hz1 q1 q2 q3 q4
      exact ih (k + 1) (by omega) M3 P3 (by omega) j3.1 (fh2.trans j3.2)
  · exact absurd hd (oi (if1 c7))

theorem c6_pass {l : Launch} {D : va_G} {cy : Nat → ClassId} {B : Nat} {M : MM} {P : PP} {d : Int32} {A : AS} {c : Nat} (h : JC M P A) (hA : WA c A) (hc : c + 60 ≤ 40000) : KI l D cy B yX6_pass wsX6_pass 5 116 [Value.ref (B + 0), Value.int d] M P (fun r M1 P1 => r = (sPass A d).1 ∧ JC M1 P1 (sPass A d).2 ∧ FHi M P M1 P1) := by
  by_cases hd : 1 ≤ d ∧ d ≤ 60
  · obtain ⟨n, hn, hx⟩ := i_nat (x := d) (N := 61) (by decide) (Int32.not_lt.mpr (Int32.le_trans (by decide) hd.1)) (fun z => absurd (Int32.le_trans z hd.2) (by decide))
    exact c6_passS h hA hc hd (by omega) hx (by rw [hx, nI_clamp (by omega)])
  · exact c6_passN h hA hd
