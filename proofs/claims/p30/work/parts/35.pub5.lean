set_option maxRecDepth 100000 in
set_option maxHeartbeats 1000000 in
theorem c6_undoN {l : Launch} {D : va_G} {cy : Nat → ClassId} {B : Nat} {M : MM} {P : PP} {A : AS} {c : Nat} (h : JC M P A) (hA : WA c A) (hz : A.z = 0) : KI l D cy B yX6_undo wsX6_undo 3 67 [Value.ref (B + 0)] M P (fun r M1 P1 => r = (sUndo A).1 ∧ JC M1 P1 (sUndo A).2 ∧ FHi M P M1 P1) := by
  refine met_KI (cc := cX6_undo) (maxL := 2) (ret := (some .int)) (lv := [some (Value.ref (B + 0)), none]) (by decide) rfl rfl rfl (Nat.le_of_ble_eq_true rfl) ?_
  intro X C F
  have pc := h.1
  have hr := h.2.1
  have hw := hA.1
  have h6 := hw.m6
  have h30 := hw.s30
  
  refine g_aload_0 (pc := 0) C dX6_undo_0 ?_
  refine g_getr (pc := 1) C pc.hist fl_X6_undo_25 kk0 dX6_undo_1 ?_
  refine g_V0qn (pc := 4) C e_X6_undo_173 (Nat.le_of_ble_eq_true rfl) rfl dX6_undo_4 kk157 (c_takeLatestN pc.hh (by rw [h.2.2.1.1, hz]; rfl)) ?_
  refine g_astoreZ_1 (pc := 7) C dX6_undo_7 ?_
  refine g_aloadZ_1 (pc := 8) C dX6_undo_8 ?_
  refine g_ifnonnullN (pc := 9) C dX6_undo_9 ?_
  refine g_ldc (pc := 12) C k_X6_undo_66 dX6_undo_12 ?_
  exact g_iret (post := fun r M1 P1 => r = (sUndo A).1 ∧ JC M1 P1 (sUndo A).2 ∧ FHi M P M1 P1) C F dX6_undo_14 ⟨by rw [sUndo, if_pos hz], by rw [sUndo, if_pos hz]; exact h, FHi.refl⟩

set_option maxRecDepth 100000 in
set_option maxHeartbeats 1000000 in
theorem c6_undoS {l : Launch} {D : va_G} {cy : Nat → ClassId} {B : Nat} {M : MM} {P : PP} {A : AS} {c : Nat} (h : JC M P A) (hA : WA c A) {n : Nat} (hz : A.z = n + 1) : KI l D cy B yX6_undo wsX6_undo 3 67 [Value.ref (B + 0)] M P (fun r M1 P1 => r = (sUndo A).1 ∧ JC M1 P1 (sUndo A).2 ∧ FHi M P M1 P1) := by
  refine met_KI (cc := cX6_undo) (maxL := 2) (ret := (some .int)) (lv := [some (Value.ref (B + 0)), none]) (by decide) rfl rfl rfl (Nat.le_of_ble_eq_true rfl) ?_
  intro X C F
  have pc := h.1
  have hr := h.2.1
  have hw := hA.1
  have h6 := hw.m6
  have h30 := hw.s30
  have hn := pc.hh.2.1 n (by have := hA.z; omega)
  have hnl := hn.lo
  refine g_aload_0 (pc := 0) C dX6_undo_0 ?_
  refine g_getr (pc := 1) C pc.hist fl_X6_undo_25 kk0 dX6_undo_1 ?_
  refine g_V0qs (pc := 4) C e_X6_undo_173 (Nat.le_of_ble_eq_true rfl) rfl dX6_undo_4 kk157 (c_takeLatest pc.hh (z := n) (by have := hA.z; omega) (by rw [h.2.2.1.1, hz])) ?_
  obtain ⟨j1, fh1⟩ := JC_size (n := n) h (by omega) hA.z
  have j1h : Rp (up M 157 (up (M 157) 1 (nI n))) P (P 158 n) (A.hf n) := Rp_fr (pc.hh.2.2.2 _ hn) (h.2.2.1.2 n (by omega)) (fun a g1 g2 => up_ne _ _ (by omega))
  generalize up M 157 (up (M 157) 1 (nI n)) = M1 at j1 fh1 j1h ⊢
  refine g_astore_1 (pc := 7) C dX6_undo_7 ?_
  refine g_aload_1 (pc := 8) C dX6_undo_8 ?_
  refine g_ifnonnull (pc := 9) (tgt := 15) C dX6_undo_9 (by decide) ?_
  refine g_aload_0 (pc := 15) C dX6_undo_15 ?_
  refine g_getr (pc := 16) C pc.now fl_X6_undo_10 kk0 dX6_undo_16 ?_
  refine g_aload_1 (pc := 19) C dX6_undo_19 ?_
  refine g_V1v (pc := 20) C e_X6_undo_116 (Nat.le_of_ble_eq_true rfl) rfl dX6_undo_20 (kk_s0 is1) (c_copyState is1 hn.is (by omega) pc.p1 (pc.hh.2.2.2 _ hn) (j1h) (hA.2.1 n (by omega))) (fun M2 P2 hq => ?_)
  obtain ⟨q1, q2, q3⟩ := hq
  subst P2
  have j2 := JC_now j1 (by show n ≤ 4; have := hA.z; omega) pc.p1 (Rp_ext q2 (f1 := rest (A.hf n) A.f) (fun k hk => rest_lo hk)) q3 (fun _ _ => rfl)
  have pc2 := j2.1.1
  refine g_aload_0 (pc := 23) C dX6_undo_23 ?_
  refine g_getr (pc := 24) C pc2.hist fl_X6_undo_25 kk0 dX6_undo_24 ?_
  refine g_geti (pc := 27) C fl_X6_undo_177 kk157 dX6_undo_27 ?_
  rw [j2.1.2.2.1.1]
  exact g_iret (post := fun r M1 P1 => r = (sUndo A).1 ∧ JC M1 P1 (sUndo A).2 ∧ FHi M P M1 P1) C F dX6_undo_30 ⟨by rw [sUndo, if_neg (by omega)]; show nI n = nI (A.z - 1); rw [hz]; rfl, by rw [sUndo, if_neg (by omega), hz]; exact j2.1, fh1.trans j2.2⟩

theorem c6_undo {l : Launch} {D : va_G} {cy : Nat → ClassId} {B : Nat} {M : MM} {P : PP}  {A : AS} {c : Nat} (h : JC M P A) (hA : WA c A) : KI l D cy B yX6_undo wsX6_undo 3 67 [Value.ref (B + 0)] M P (fun r M1 P1 => r = (sUndo A).1 ∧ JC M1 P1 (sUndo A).2 ∧ FHi M P M1 P1) := by
  rcases Nat.eq_zero_or_pos A.z with hz | hz
  · exact c6_undoN h hA hz
  · exact c6_undoS h hA (n := A.z - 1) (by omega)

set_option maxRecDepth 100000 in
set_option maxHeartbeats 1000000 in
theorem c6_keep {l : Launch} {D : va_G} {cy : Nat → ClassId} {B : Nat} {M : MM} {P : PP} {A : AS} {c : Nat} (h : JC M P A) (hA : WA c A) : KI l D cy B yX6_keep wsX6_keep 3 67 [Value.ref (B + 0)] M P (fun r M1 P1 => r = (sKeep A).1 ∧ JC M1 P1 (sKeep A).2 ∧ FHi M P M1 P1) := by
  refine met_KI (cc := cX6_keep) (maxL := 1) (ret := (some .int)) (lv := [some (Value.ref (B + 0))]) (by decide) rfl rfl rfl (Nat.le_of_ble_eq_true rfl) ?_
  intro X C F
  have pc := h.1
  have hr := h.2.1
  have hw := hA.1
  have h6 := hw.m6
  have h30 := hw.s30
  
  refine g_aload_0 (pc := 0) C dX6_keep_0 ?_
  refine g_getr (pc := 1) C pc.snap fl_X6_keep_19 kk0 dX6_keep_1 ?_
  refine g_aload_0 (pc := 4) C dX6_keep_4 ?_
  refine g_getr (pc := 5) C pc.now fl_X6_keep_10 kk0 dX6_keep_5 ?_
  refine g_V1v (pc := 8) C e_X6_keep_116 (Nat.le_of_ble_eq_true rfl) rfl dX6_keep_8 (kk_s0 is105) (c_copyState is105 is1 (by decide) pc.p105 pc.p1 hr hw) (fun M1 P1 hq => ?_)
  obtain ⟨q1, q2, q3⟩ := hq
  subst P1
  refine g_aload_0 (pc := 11) C dX6_keep_11 ?_
  refine g_iconst (pc := 12) (v := 1) C dX6_keep_12 rfl ?_
  refine g_putz (pc := 13) C (Or.inr rfl) pf_X6_keep_180 kk0 dX6_keep_13 ?_
  have j2 := JC_keep (M1 := up M1 0 (up (M1 0) 5 1)) h hA.z (Rp_fr pc.p105 q2 (fun a g1 g2 => up_ne _ _ (by omega))) (fun a g1 g2 => by rw [up_ne _ _ g2]; exact q3 a (by omega)) (by rw [up_same, up_same])
  generalize up M1 0 (up (M1 0) 5 1) = M2 at j2 ⊢
  refine g_aload_0 (pc := 16) C dX6_keep_16 ?_
  refine g_getr (pc := 17) C j2.1.1.now fl_X6_keep_10 kk0 dX6_keep_17 ?_
  refine g_geti (pc := 20) C fl_X6_keep_183 (kk_s0 is1) dX6_keep_20 ?_
  rw [j2.1.2.1.1.2.2.1]
  exact g_iret (post := fun r M1 P1 => r = (sKeep A).1 ∧ JC M1 P1 (sKeep A).2 ∧ FHi M P M1 P1) C F dX6_keep_23 ⟨rfl, j2.1, j2.2⟩

set_option maxRecDepth 100000 in
set_option maxHeartbeats 1000000 in
theorem c6_restore {l : Launch} {D : va_G} {cy : Nat → ClassId} {B : Nat} {M : MM} {P : PP} {A : AS} {c : Nat} (h : JC M P A) (hA : WA c A) : KI l D cy B yX6_restore wsX6_restore 4 89 [Value.ref (B + 0)] M P (fun r M1 P1 => r = (sRest A).1 ∧ JC M1 P1 (sRest A).2 ∧ FHi M P M1 P1) := by
  refine met_KI (cc := cX6_restore) (maxL := 1) (ret := (some .int)) (lv := [some (Value.ref (B + 0))]) (by decide) rfl rfl rfl (Nat.le_of_ble_eq_true rfl) ?_
  intro X C F
  have pc := h.1
  have hr := h.2.1
  have hw := hA.1
  have h6 := hw.m6
  have h30 := hw.s30
  
  refine g_aload_0 (pc := 0) C dX6_restore_0 ?_
  refine g_getz (pc := 1) C fl_X6_restore_180 kk0 dX6_restore_1 ?_
  rw [h.2.2.2.1]
  refine g_if_ne (pc := 4) (tgt := 10) C dX6_restore_4 (by decide) (fun c4 => ?_) (fun c4 => ?_)
  · have hk1 : A.kept = 1 := hA.2.2.2.1.resolve_left c4
    refine g_aload_0 (pc := 10) C dX6_restore_10 ?_
    refine g_getr (pc := 11) C pc.hist fl_X6_restore_25 kk0 dX6_restore_11 ?_
    refine g_aload_0 (pc := 14) C dX6_restore_14 ?_
    refine g_getr (pc := 15) C pc.now fl_X6_restore_10 kk0 dX6_restore_15 ?_
    refine g_V1v (pc := 18) C e_X6_restore_48 (Nat.le_of_ble_eq_true rfl) rfl dX6_restore_18 kk157 (c_push is1 (by decide) pc.p1 hr hw pc.hh hA.z h.2.2.1) (fun M1 P1 hq => ?_)
    obtain ⟨j1, fh1⟩ := JC_push h hq
    have pc1 := j1.1
    have hr1 : Rp M1 P1 1 A.f := j1.2.1
    have hz1 : (psh A).z ≤ 4 := pshZ_le hA.z
    refine g_aload_0 (pc := 21) C dX6_restore_21 ?_
    refine g_getr (pc := 22) C pc1.now fl_X6_restore_10 kk0 dX6_restore_22 ?_
    refine g_aload_0 (pc := 25) C dX6_restore_25 ?_
    refine g_getr (pc := 26) C pc1.snap fl_X6_restore_19 kk0 dX6_restore_26 ?_
    refine g_V1v (pc := 29) C e_X6_restore_116 (Nat.le_of_ble_eq_true rfl) rfl dX6_restore_29 (kk_s0 is1) (c_copyState is1 is105 (by decide) pc1.p1 pc1.p105 (j1.2.2.2.2.1 hk1) (hA.2.2.2.2.1 hk1)) (fun M2 P2 hq2 => ?_)
    obtain ⟨q1, q2, q3⟩ := hq2
    subst q1
    have j2 := JC_now j1 hz1 pc1.p1 (Rp_ext q2 (f1 := rest A.sf A.f) (fun k hk => rest_lo hk)) q3 (fun _ _ => rfl)
    have pc2 := j2.1.1
    refine g_aload_0 (pc := 32) C dX6_restore_32 ?_
    refine g_getr (pc := 33) C pc2.now fl_X6_restore_10 kk0 dX6_restore_33 ?_
    refine g_geti (pc := 36) C fl_X6_restore_183 (kk_s0 is1) dX6_restore_36 ?_
    rw [j2.1.2.1.1.2.2.1, show (stF (psh A) (rest A.sf A.f)).f 3 = A.sf 3 from rest_lo (g := A.sf) (f := A.f) (k := 3) (by decide)]
    exact g_iret (post := fun r M1 P1 => r = (sRest A).1 ∧ JC M1 P1 (sRest A).2 ∧ FHi M P M1 P1) C F dX6_restore_39 ⟨by rw [sRest, if_neg c4], by rw [sRest, if_neg c4]; exact j2.1, fh1.trans j2.2⟩
  · refine g_ldc (pc := 7) C k_X6_restore_66 dX6_restore_7 ?_
    exact g_iret (post := fun r M1 P1 => r = (sRest A).1 ∧ JC M1 P1 (sRest A).2 ∧ FHi M P M1 P1) C F dX6_restore_9 ⟨by rw [sRest, if_pos c4], by rw [sRest, if_pos c4]; exact h, FHi.refl⟩
