/-- the first k of g, then f -/
def cpF (g f : FF) (k : Nat) : FF := fun j => if j < k then g j else f j
theorem cp_0 {g f : FF} : cpF g f 0 = f := by
  funext j
  exact if_neg (Nat.not_lt_zero _)
theorem cp_s {g f : FF} {k : Nat} : up (cpF g f k) k (g k) = cpF g f (k + 1) := by
  funext j
  unfold cpF
  by_cases e : j = k
  · rw [e, up_same, if_pos (Nat.lt_succ_self k)]
  · rw [up_ne _ _ e]
    by_cases h : j < k
    · rw [if_pos h, if_pos (by omega)]
    · rw [if_neg h, if_neg (by omega)]
theorem up_self2 {M : MM} {o : Nat} : up M o (M o) = M := by
  funext a
  by_cases e : a = o
  · rw [e, up_same]
  · rw [up_ne _ _ e]
theorem JM_keep {M1 : MM} {P : PP} {A : AS} (h : JM M1 P A) : JM (up (up M1 373 (cpF A.f (M1 373) 313)) 369 (up (M1 369) 6 1)) P (A.f, A.z, A.hf, 1, A.f, A.len, A.txt) ∧ FLo M1 P (up (up M1 373 (cpF A.f (M1 373) 313)) 369 (up (M1 369) 6 1)) P := by
  obtain ⟨r, c2, c3, c4, c5, c6, c7⟩ := h
  refine ⟨⟨r, by rw [up_ne _ _ (by decide), up_ne _ _ (by decide)]; exact c2, ⟨by rw [up_same, up_ne _ _ (by decide)]; exact c3.1, by rw [up_ne _ _ (by decide), up_ne _ _ (by decide)]; exact c3.2⟩, by rw [up_same, up_same], fun _ k hk => by rw [up_ne _ _ (by decide), up_same]; exact if_pos hk, by rw [up_same, up_ne _ _ (by decide)]; exact c6, by rw [up_ne _ _ (by decide), up_ne _ _ (by decide)]; exact c7⟩, fun a ha => ⟨by rw [up_ne _ _ (by omega), up_ne _ _ (by omega)], rfl⟩⟩
theorem JM_many {M1 : MM} {P : PP} {A : AS} {n : Nat} (h : JM M1 P A) (hn : n ≤ A.z) : JM (up M1 369 (up (M1 369) 4 (nI n))) P (A.f, n, A.2.2) ∧ FLo M1 P (up M1 369 (up (M1 369) 4 (nI n))) P := by
  obtain ⟨r, c2, c3, c4, c5, c6, c7⟩ := h
  refine ⟨⟨r, by rw [up_ne _ _ (by decide)]; exact c2, ⟨by rw [up_same, up_same], fun j hj k hk => by rw [up_ne _ _ (by decide)]; exact c3.2 j (Nat.lt_of_lt_of_le hj hn) k hk⟩, by rw [up_same, up_ne _ _ (by decide)]; exact c4, by rw [up_ne _ _ (by decide)]; exact c5, by rw [up_same, up_ne _ _ (by decide)]; exact c6, by rw [up_ne _ _ (by decide)]; exact c7⟩, fun a ha => ⟨up_ne _ _ (by omega), rfl⟩⟩
theorem JM_text {M1 : MM} {P : PP} {A : AS} {len : Nat} {txt : FF} (h : JM M1 P A) {t : FF} (ht : ∀ i, i < len → t i = txt i) : JM (up (up M1 374 t) 369 (up (M1 369) 8 (nI len))) P (A.f, A.z, A.hf, A.kept, A.sf, len, txt) ∧ FLo M1 P (up (up M1 374 t) 369 (up (M1 369) 8 (nI len))) P := by
  obtain ⟨r, c2, c3, c4, c5, c6, c7⟩ := h
  refine ⟨⟨r, by rw [up_ne _ _ (by decide), up_ne _ _ (by decide)]; exact c2, ⟨by rw [up_same, up_ne _ _ (by decide)]; exact c3.1, by rw [up_ne _ _ (by decide), up_ne _ _ (by decide)]; exact c3.2⟩, by rw [up_same, up_ne _ _ (by decide)]; exact c4, by rw [up_ne _ _ (by decide), up_ne _ _ (by decide)]; exact c5, by rw [up_same, up_same], fun i hi => by rw [up_ne _ _ (by decide), up_same]; exact ht i hi⟩, fun a ha => ⟨by rw [up_ne _ _ (by omega), up_ne _ _ (by omega)], rfl⟩⟩

set_option maxRecDepth 100000 in
set_option maxHeartbeats 1000000 in
theorem c7_undoN {l : Launch} {D : va_G} {cy : Nat → ClassId} {B : Nat} {M : MM} {P : PP} {A : AS} {c : Nat} (h : JM M P A) (hA : WA c A) (hz : A.z = 0) : KI l D cy B yX7_undo wsX7_undo 0 0 [Value.ref (B + 369)] M P (fun r M1 P1 => r = (sUndo A).1 ∧ JM M1 P1 (sUndo A).2 ∧ FLo M P M1 P1) := by
  refine met_KI (cc := cX7_undo) (maxL := 2) (ret := (some .int)) (lv := [some (Value.ref (B + 369)), none]) (by decide) rfl rfl rfl (Nat.le_of_ble_eq_true rfl) ?_
  intro X C F
  have hw := hA.1
  have h6 := hw.m6
  have h30 := hw.s30
  refine g_aload_0 (pc := 0) C dX7_undo_0 ?_
  refine g_iconst (pc := 1) (v := 0) C dX7_undo_1 rfl ?_
  refine g_puti (pc := 2) C pf_X7_undo_28 kk369 dX7_undo_2 ?_
  obtain ⟨h1, hl⟩ := JM_thr h 0
  refine g_memo (fun M1 => JM M1 P A ∧ FLo M P M1 P) ⟨h1, hl⟩ (fun M1 hM1 => ?_)
  obtain ⟨hj, hl1⟩ := hM1
  have hm := hj.1
  have hf := hj.2.1
  have hf6 : M1 370 6 = nI (sn (M1 370)) := by rw [hf]; exact hw.s
  have hf12 : M1 370 12 = nI (mn (M1 370)) := by rw [hf]; exact hw.m
  have hs30 : sn (M1 370) ≤ 30 := by rw [hf]; exact h30
  have hm6 : mn (M1 370) ≤ 6 := by rw [hf]; exact h6
  refine g_aload_0 (pc := 5) C dX7_undo_5 ?_
  refine g_geti (pc := 6) C fl_X7_undo_41 kk369 dX7_undo_6 ?_
  rw [hj.2.2.1.1, hz]
  refine g_if_ne (pc := 9) (tgt := 15) C dX7_undo_9 (by decide) (fun c9 => ?_) (fun c9 => ?_)
  · exact absurd rfl c9
  · refine g_ldc (pc := 12) C k_X7_undo_40 dX7_undo_12 ?_
    exact g_iret (post := fun r M1 P1 => r = (sUndo A).1 ∧ JM M1 P1 (sUndo A).2 ∧ FLo M P M1 P1) C F dX7_undo_14 ⟨by rw [sUndo, if_pos hz], by rw [sUndo, if_pos hz]; exact hj, hl1⟩

set_option maxRecDepth 100000 in
set_option maxHeartbeats 1000000 in
theorem c7_undoS {l : Launch} {D : va_G} {cy : Nat → ClassId} {B : Nat} {M : MM} {P : PP} {A : AS} {c : Nat} (h : JM M P A) (hA : WA c A) {n : Nat} (hz : A.z = n + 1) : KI l D cy B yX7_undo wsX7_undo 0 0 [Value.ref (B + 369)] M P (fun r M1 P1 => r = (sUndo A).1 ∧ JM M1 P1 (sUndo A).2 ∧ FLo M P M1 P1) := by
  refine met_KI (cc := cX7_undo) (maxL := 2) (ret := (some .int)) (lv := [some (Value.ref (B + 369)), none]) (by decide) rfl rfl rfl (Nat.le_of_ble_eq_true rfl) ?_
  intro X C F
  have hw := hA.1
  have h6 := hw.m6
  have h30 := hw.s30
  refine g_aload_0 (pc := 0) C dX7_undo_0 ?_
  refine g_iconst (pc := 1) (v := 0) C dX7_undo_1 rfl ?_
  refine g_puti (pc := 2) C pf_X7_undo_28 kk369 dX7_undo_2 ?_
  obtain ⟨h1, hl⟩ := JM_thr h 0
  refine g_memo (fun M1 => JM M1 P A ∧ FLo M P M1 P) ⟨h1, hl⟩ (fun M1 hM1 => ?_)
  obtain ⟨hj, hl1⟩ := hM1
  have hm := hj.1
  have hf := hj.2.1
  have hf6 : M1 370 6 = nI (sn (M1 370)) := by rw [hf]; exact hw.s
  have hf12 : M1 370 12 = nI (mn (M1 370)) := by rw [hf]; exact hw.m
  have hs30 : sn (M1 370) ≤ 30 := by rw [hf]; exact h30
  have hm6 : mn (M1 370) ≤ 6 := by rw [hf]; exact h6
  refine g_aload_0 (pc := 5) C dX7_undo_5 ?_
  refine g_geti (pc := 6) C fl_X7_undo_41 kk369 dX7_undo_6 ?_
  rw [hj.2.2.1.1, hz]
  refine g_if_ne (pc := 9) (tgt := 15) C dX7_undo_9 (by decide) (fun c9 => ?_) (fun c9 => ?_)
  · refine g_aload_0 (pc := 15) C dX7_undo_15 ?_
    refine g_dup (pc := 16) C dX7_undo_16 rfl ?_
    refine g_geti (pc := 17) C fl_X7_undo_41 kk369 dX7_undo_17 ?_
    rw [hj.2.2.1.1, hz]
    refine g_iconst (pc := 20) (v := 1) C dX7_undo_20 rfl ?_
    refine g_isub (pc := 21) C dX7_undo_21 ?_
    rw [nI_pred]
    refine g_puti (pc := 22) C pf_X7_undo_41 kk369 dX7_undo_22 ?_
    have hrow0 : ∀ k, k < 313 → up M1 369 (up (M1 369) 4 (nI n)) 372 (313 * n + k) = A.hf n k := fun k hk => by rw [up_ne _ _ (by decide)]; exact hj.2.2.1.2 n (by omega) k hk
    obtain ⟨j2, fl2⟩ := JM_many (n := n) hj (by omega)
    generalize up M1 369 (up (M1 369) 4 (nI n)) = M2 at j2 fl2 hrow0 ⊢
    have hrow := hrow0
    have f2 : M2 370 = A.f := j2.2.1
    refine g_iconst (pc := 25) (v := 0) C dX7_undo_25 rfl ?_
    refine g_istore_1 (pc := 26) C dX7_undo_26 ?_
    have ez : M2 = up M2 370 (cpF (A.hf n) A.f 0) := by rw [cp_0, ← f2, up_self2]
    rw [ez]
    refine ind_m (fun (k : Nat) => 313 - k) (p := fun (k : Nat) => k ≤ 313 → G X D cy B 0 0 376 (up M2 370 (cpF (A.hf n) A.f k)) P 27 [some (Value.ref (B + 369)), some (Value.int (nI k))] []) ?_ 0 (Nat.zero_le _)
    intro k ih hk
    refine g_iload_1 (pc := 27) C dX7_undo_27 ?_
    refine g_sipush (pc := 28) (v := 313) C dX7_undo_28 rfl ?_
    refine g_icmp_ge (pc := 31) (tgt := 61) C dX7_undo_31 (by decide) (fun c31 => ?_) (fun c31 => ?_)
    · have e : 313 ≤ k := i_le (a := 313) (by omega) (by omega) c31
      have e1 : k = 313 := by omega
      subst e1
      refine g_aload_0 (pc := 61) C dX7_undo_61 ?_
      refine g_geti (pc := 62) C fl_X7_undo_41 kk369 dX7_undo_62 ?_
      rw [up_ne _ _ (by decide), j2.2.2.1.1]
      exact g_iret (post := fun r M1 P1 => r = (sUndo A).1 ∧ JM M1 P1 (sUndo A).2 ∧ FLo M P M1 P1) C F dX7_undo_65 ⟨by rw [sUndo, if_neg (by omega)]; show nI n = nI (A.z - 1); rw [hz]; rfl, by rw [sUndo, if_neg (by omega), hz]; exact (JM_now j2 _).1, (hl1.trans fl2).trans (JM_now j2 _).2⟩
    · have hk2 : k < 313 := i_nle (a := 313) (by omega) (by omega) c31
      refine g_aload_0 (pc := 34) C dX7_undo_34 ?_
      refine g_getr (pc := 35) C hm.s fl_X7_undo_7 kk369 dX7_undo_35 ?_
      refine g_iload_1 (pc := 38) C dX7_undo_38 ?_
      refine g_aload_0 (pc := 39) C dX7_undo_39 ?_
      refine g_getr (pc := 40) C hm.saved fl_X7_undo_16 kk369 dX7_undo_40 ?_
      refine g_sipush (pc := 43) (v := 313) C dX7_undo_43 rfl ?_
      refine g_aload_0 (pc := 46) C dX7_undo_46 ?_
      refine g_geti (pc := 47) C fl_X7_undo_41 kk369 dX7_undo_47 ?_
      rw [up_ne _ _ (by decide), j2.2.2.1.1]
      refine g_imul (pc := 50) C dX7_undo_50 ?_
      refine g_iload_1 (pc := 51) C dX7_undo_51 ?_
      refine g_iadd (pc := 52) C dX7_undo_52 ?_
      rw [show (313 : Int32) * nI n + nI k = nI (313 * n + k) from ix2 313 n k]
      refine g_iald (pc := 53) (j := (313 * n + k)) C kk372 rfl ln372 (by have := hA.z; omega) dX7_undo_53 ?_
      rw [up_ne _ _ (by decide), hrow k hk2]
      refine g_iast (pc := 54) (j := k) C kk370 rfl ln370 (by omega) dX7_undo_54 ?_
      rw [up_up, up_same, cp_s]
      refine g_iinc_1 (pc := 55) (v := nI (k + 1)) C dX7_undo_55 (nI_1 k) ?_
      refine g_goto (pc := 58) (tgt := 27) C dX7_undo_58 (by decide) ?_
      exact ih (k + 1) (by omega) (by omega)
  · exact absurd (nI_inj (b := 0) (by have := hA.z; omega) (by omega) c9) (by omega)

theorem c7_undo {l : Launch} {D : va_G} {cy : Nat → ClassId} {B : Nat} {M : MM} {P : PP}  {A : AS} {c : Nat} (h : JM M P A) (hA : WA c A) : KI l D cy B yX7_undo wsX7_undo 0 0 [Value.ref (B + 369)] M P (fun r M1 P1 => r = (sUndo A).1 ∧ JM M1 P1 (sUndo A).2 ∧ FLo M P M1 P1) := by
  rcases Nat.eq_zero_or_pos A.z with hz | hz
  · exact c7_undoN h hA hz
  · exact c7_undoS h hA (n := A.z - 1) (by omega)

set_option maxRecDepth 100000 in
set_option maxHeartbeats 1000000 in
theorem c7_keep {l : Launch} {D : va_G} {cy : Nat → ClassId} {B : Nat} {M : MM} {P : PP} {A : AS} {c : Nat} (h : JM M P A) (hA : WA c A) : KI l D cy B yX7_keep wsX7_keep 0 0 [Value.ref (B + 369)] M P (fun r M1 P1 => r = (sKeep A).1 ∧ JM M1 P1 (sKeep A).2 ∧ FLo M P M1 P1) := by
  refine met_KI (cc := cX7_keep) (maxL := 2) (ret := (some .int)) (lv := [some (Value.ref (B + 369)), none]) (by decide) rfl rfl rfl (Nat.le_of_ble_eq_true rfl) ?_
  intro X C F
  have hw := hA.1
  have h6 := hw.m6
  have h30 := hw.s30
  refine g_aload_0 (pc := 0) C dX7_keep_0 ?_
  refine g_iconst (pc := 1) (v := 0) C dX7_keep_1 rfl ?_
  refine g_puti (pc := 2) C pf_X7_keep_28 kk369 dX7_keep_2 ?_
  obtain ⟨h1, hl⟩ := JM_thr h 0
  refine g_memo (fun M1 => JM M1 P A ∧ FLo M P M1 P) ⟨h1, hl⟩ (fun M1 hM1 => ?_)
  obtain ⟨hj, hl1⟩ := hM1
  have hm := hj.1
  have hf := hj.2.1
  have hf6 : M1 370 6 = nI (sn (M1 370)) := by rw [hf]; exact hw.s
  have hf12 : M1 370 12 = nI (mn (M1 370)) := by rw [hf]; exact hw.m
  have hs30 : sn (M1 370) ≤ 30 := by rw [hf]; exact h30
  have hm6 : mn (M1 370) ≤ 6 := by rw [hf]; exact h6
  refine g_iconst (pc := 5) (v := 0) C dX7_keep_5 rfl ?_
  refine g_istore_1 (pc := 6) C dX7_keep_6 ?_
  have ez : M1 = up M1 373 (cpF A.f (M1 373) 0) := by rw [cp_0, up_self2]
  have m370 : ∀ k, up M1 373 (cpF A.f (M1 373) k) 370 = A.f := fun k => by rw [up_ne _ _ (by decide)]; exact hf
  rw [ez]
  refine ind_m (fun (k : Nat) => 313 - k) (p := fun (k : Nat) => k ≤ 313 → G X D cy B 0 0 376 (up M1 373 (cpF A.f (M1 373) k)) P 7 [some (Value.ref (B + 369)), some (Value.int (nI k))] []) ?_ 0 (Nat.zero_le _)
  intro k ih hk
  refine g_iload_1 (pc := 7) C dX7_keep_7 ?_
  refine g_sipush (pc := 8) (v := 313) C dX7_keep_8 rfl ?_
  refine g_icmp_ge (pc := 11) (tgt := 32) C dX7_keep_11 (by decide) (fun c11 => ?_) (fun c11 => ?_)
  · have e : 313 ≤ k := i_le (a := 313) (by omega) (by omega) c11
    have e1 : k = 313 := by omega
    subst e1
    refine g_aload_0 (pc := 32) C dX7_keep_32 ?_
    refine g_iconst (pc := 33) (v := 1) C dX7_keep_33 rfl ?_
    refine g_putz (pc := 34) C (Or.inr rfl) pf_X7_keep_180 kk369 dX7_keep_34 ?_
    rw [show up M1 373 (cpF A.f (M1 373) 313) 369 = M1 369 from up_ne _ _ (by decide)]
    obtain ⟨j2, fl2⟩ := JM_keep hj
    generalize up (up M1 373 (cpF A.f (M1 373) 313)) 369 (up (M1 369) 6 1) = M2 at j2 fl2 ⊢
    refine g_aload_0 (pc := 37) C dX7_keep_37 ?_
    refine g_getr (pc := 38) C hm.s fl_X7_keep_7 kk369 dX7_keep_38 ?_
    refine g_iconst (pc := 41) (v := 3) C dX7_keep_41 rfl ?_
    refine g_iald (pc := 42) (j := 3) C kk370 rfl ln370 (by omega) dX7_keep_42 ?_
    rw [j2.2.1]
    exact g_iret (post := fun r M1 P1 => r = (sKeep A).1 ∧ JM M1 P1 (sKeep A).2 ∧ FLo M P M1 P1) C F dX7_keep_43 ⟨rfl, j2, hl1.trans fl2⟩
  · have hk2 : k < 313 := i_nle (a := 313) (by omega) (by omega) c11
    refine g_aload_0 (pc := 14) C dX7_keep_14 ?_
    refine g_getr (pc := 15) C hm.snap fl_X7_keep_19 kk369 dX7_keep_15 ?_
    refine g_iload_1 (pc := 18) C dX7_keep_18 ?_
    refine g_aload_0 (pc := 19) C dX7_keep_19 ?_
    refine g_getr (pc := 20) C hm.s fl_X7_keep_7 kk369 dX7_keep_20 ?_
    refine g_iload_1 (pc := 23) C dX7_keep_23 ?_
    refine g_iald (pc := 24) (j := k) C kk370 rfl ln370 (by omega) dX7_keep_24 ?_
    rw [m370]
    refine g_iast (pc := 25) (j := k) C kk373 rfl ln373 (by omega) dX7_keep_25 ?_
    rw [up_up, up_same, cp_s]
    refine g_iinc_1 (pc := 26) (v := nI (k + 1)) C dX7_keep_26 (nI_1 k) ?_
    refine g_goto (pc := 29) (tgt := 7) C dX7_keep_29 (by decide) ?_
    exact ih (k + 1) (by omega) (by omega)

set_option maxRecDepth 100000 in
set_option maxHeartbeats 1000000 in
theorem c7_restore {l : Launch} {D : va_G} {cy : Nat → ClassId} {B : Nat} {M : MM} {P : PP} {A : AS} {c : Nat} (h : JM M P A) (hA : WA c A) : KI l D cy B yX7_restore wsX7_restore 1 21 [Value.ref (B + 369)] M P (fun r M1 P1 => r = (sRest A).1 ∧ JM M1 P1 (sRest A).2 ∧ FLo M P M1 P1) := by
  refine met_KI (cc := cX7_restore) (maxL := 2) (ret := (some .int)) (lv := [some (Value.ref (B + 369)), none]) (by decide) rfl rfl rfl (Nat.le_of_ble_eq_true rfl) ?_
  intro X C F
  have hw := hA.1
  have h6 := hw.m6
  have h30 := hw.s30
  refine g_aload_0 (pc := 0) C dX7_restore_0 ?_
  refine g_iconst (pc := 1) (v := 0) C dX7_restore_1 rfl ?_
  refine g_puti (pc := 2) C pf_X7_restore_28 kk369 dX7_restore_2 ?_
  obtain ⟨h1, hl⟩ := JM_thr h 0
  refine g_memo (fun M1 => JM M1 P A ∧ FLo M P M1 P) ⟨h1, hl⟩ (fun M1 hM1 => ?_)
  obtain ⟨hj, hl1⟩ := hM1
  have hm := hj.1
  have hf := hj.2.1
  have hf6 : M1 370 6 = nI (sn (M1 370)) := by rw [hf]; exact hw.s
  have hf12 : M1 370 12 = nI (mn (M1 370)) := by rw [hf]; exact hw.m
  have hs30 : sn (M1 370) ≤ 30 := by rw [hf]; exact h30
  have hm6 : mn (M1 370) ≤ 6 := by rw [hf]; exact h6
  refine g_aload_0 (pc := 5) C dX7_restore_5 ?_
  refine g_getz (pc := 6) C fl_X7_restore_180 kk369 dX7_restore_6 ?_
  rw [hj.2.2.2.1]
  refine g_if_ne (pc := 9) (tgt := 15) C dX7_restore_9 (by decide) (fun c9 => ?_) (fun c9 => ?_)
  · have hk1 : A.kept = 1 := hA.2.2.2.1.resolve_left c9
    refine g_aload_0 (pc := 15) C dX7_restore_15 ?_
    refine g_V0v (pc := 16) C e_X7_restore_122 (Nat.le_of_ble_eq_true rfl) rfl dX7_restore_16 kk369 (c7_records hm hA.z hj.2.2.1) (fun M2 P2 hq => ?_)
    obtain ⟨j2, fl2⟩ := JM_rec hj hq
    have hP2 := hq.1
    subst P2
    have f2 : M2 370 = A.f := j2.2.1
    refine g_iconst (pc := 19) (v := 0) C dX7_restore_19 rfl ?_
    refine g_istore_1 (pc := 20) C dX7_restore_20 ?_
    have ez : M2 = up M2 370 (cpF A.sf A.f 0) := by rw [cp_0, ← f2, up_self2]
    rw [ez]
    refine ind_m (fun (k : Nat) => 313 - k) (p := fun (k : Nat) => k ≤ 313 → G X D cy B 0 0 376 (up M2 370 (cpF A.sf A.f k)) P 21 [some (Value.ref (B + 369)), some (Value.int (nI k))] []) ?_ 0 (Nat.zero_le _)
    intro k ih hk
    refine g_iload_1 (pc := 21) C dX7_restore_21 ?_
    refine g_sipush (pc := 22) (v := 313) C dX7_restore_22 rfl ?_
    refine g_icmp_ge (pc := 25) (tgt := 46) C dX7_restore_25 (by decide) (fun c25 => ?_) (fun c25 => ?_)
    · have e : 313 ≤ k := i_le (a := 313) (by omega) (by omega) c25
      have e1 : k = 313 := by omega
      subst e1
      refine g_aload_0 (pc := 46) C dX7_restore_46 ?_
      refine g_getr (pc := 47) C hm.s fl_X7_restore_7 kk369 dX7_restore_47 ?_
      refine g_iconst (pc := 50) (v := 3) C dX7_restore_50 rfl ?_
      refine g_iald (pc := 51) (j := 3) C kk370 rfl ln370 (by omega) dX7_restore_51 ?_
      rw [up_same, show cpF A.sf A.f 313 3 = A.sf 3 from if_pos (by decide)]
      exact g_iret (post := fun r M1 P1 => r = (sRest A).1 ∧ JM M1 P1 (sRest A).2 ∧ FLo M P M1 P1) C F dX7_restore_52 ⟨by rw [sRest, if_neg c9], by rw [sRest, if_neg c9]; exact (JM_now j2 _).1, (hl1.trans fl2).trans (JM_now j2 _).2⟩
    · have hk2 : k < 313 := i_nle (a := 313) (by omega) (by omega) c25
      refine g_aload_0 (pc := 28) C dX7_restore_28 ?_
      refine g_getr (pc := 29) C hm.s fl_X7_restore_7 kk369 dX7_restore_29 ?_
      refine g_iload_1 (pc := 32) C dX7_restore_32 ?_
      refine g_aload_0 (pc := 33) C dX7_restore_33 ?_
      refine g_getr (pc := 34) C hm.snap fl_X7_restore_19 kk369 dX7_restore_34 ?_
      refine g_iload_1 (pc := 37) C dX7_restore_37 ?_
      refine g_iald (pc := 38) (j := k) C kk373 rfl ln373 (by omega) dX7_restore_38 ?_
      rw [up_ne _ _ (by decide), j2.2.2.2.2.1 hk1 k hk2]
      refine g_iast (pc := 39) (j := k) C kk370 rfl ln370 (by omega) dX7_restore_39 ?_
      rw [up_up, up_same, cp_s]
      refine g_iinc_1 (pc := 40) (v := nI (k + 1)) C dX7_restore_40 (nI_1 k) ?_
      refine g_goto (pc := 43) (tgt := 21) C dX7_restore_43 (by decide) ?_
      exact ih (k + 1) (by omega) (by omega)
  · refine g_ldc (pc := 12) C k_X7_restore_40 dX7_restore_12 ?_
    exact g_iret (post := fun r M1 P1 => r = (sRest A).1 ∧ JM M1 P1 (sRest A).2 ∧ FLo M P M1 P1) C F dX7_restore_14 ⟨by rw [sRest, if_pos c9], by rw [sRest, if_pos c9]; exact hj, hl1⟩

set_option maxRecDepth 100000 in
set_option maxHeartbeats 1000000 in
theorem c7_type {l : Launch} {D : va_G} {cy : Nat → ClassId} {B : Nat} {M : MM} {P : PP} {x : Int32} {A : AS} {c : Nat} (h : JM M P A) (hA : WA c A) : KI l D cy B yX7_type wsX7_type 0 0 [Value.ref (B + 369), Value.int x] M P (fun r M1 P1 => r = (sType A x).1 ∧ JM M1 P1 (sType A x).2 ∧ FLo M P M1 P1) := by
  refine met_KI (cc := cX7_type) (maxL := 2) (ret := (some .int)) (lv := [some (Value.ref (B + 369)), some (Value.int x)]) (by decide) rfl rfl rfl (Nat.le_of_ble_eq_true rfl) ?_
  intro X C F
  have hw := hA.1
  have h6 := hw.m6
  have h30 := hw.s30
  refine g_aload_0 (pc := 0) C dX7_type_0 ?_
  refine g_iconst (pc := 1) (v := 0) C dX7_type_1 rfl ?_
  refine g_puti (pc := 2) C pf_X7_type_28 kk369 dX7_type_2 ?_
  obtain ⟨h1, hl⟩ := JM_thr h 0
  refine g_memo (fun M1 => JM M1 P A ∧ FLo M P M1 P) ⟨h1, hl⟩ (fun M1 hM1 => ?_)
  obtain ⟨hj, hl1⟩ := hM1
  have hm := hj.1
  have hf := hj.2.1
  have hf6 : M1 370 6 = nI (sn (M1 370)) := by rw [hf]; exact hw.s
  have hf12 : M1 370 12 = nI (mn (M1 370)) := by rw [hf]; exact hw.m
  have hs30 : sn (M1 370) ≤ 30 := by rw [hf]; exact h30
  have hm6 : mn (M1 370) ≤ 6 := by rw [hf]; exact h6
  refine g_aload_0 (pc := 5) C dX7_type_5 ?_
  refine g_geti (pc := 6) C fl_X7_type_155 kk369 dX7_type_6 ?_
  rw [hj.2.2.2.2.2.1]
  refine g_bipush (pc := 9) (v := 60) C dX7_type_9 rfl ?_
  refine g_icmp_ne (pc := 11) (tgt := 17) C dX7_type_11 (by decide) (fun c11 => ?_) (fun c11 => ?_)
  · have hl2 : A.len < 60 := by
      have := hA.2.2.2.2.2
      rcases Nat.lt_or_ge A.len 60 with z | z
      · exact z
      · exact absurd (by rw [show A.len = 60 by omega]; rfl) c11
    refine g_aload_0 (pc := 17) C dX7_type_17 ?_
    refine g_getr (pc := 18) C hm.text fl_X7_type_22 kk369 dX7_type_18 ?_
    refine g_aload_0 (pc := 21) C dX7_type_21 ?_
    refine g_geti (pc := 22) C fl_X7_type_155 kk369 dX7_type_22 ?_
    rw [hj.2.2.2.2.2.1]
    refine g_iload_1 (pc := 25) C dX7_type_25 ?_
    refine g_iast (pc := 26) (j := A.len) C kk374 rfl ln374 (by omega) dX7_type_26 ?_
    refine g_aload_0 (pc := 27) C dX7_type_27 ?_
    refine g_dup (pc := 28) C dX7_type_28 rfl ?_
    refine g_geti (pc := 29) C fl_X7_type_155 kk369 dX7_type_29 ?_
    rw [up_ne _ _ (by decide), hj.2.2.2.2.2.1]
    refine g_iconst (pc := 32) (v := 1) C dX7_type_32 rfl ?_
    refine g_iadd (pc := 33) C dX7_type_33 ?_
    rw [nI_1]
    refine g_puti (pc := 34) C pf_X7_type_155 kk369 dX7_type_34 ?_
    rw [show up M1 374 (up (M1 374) A.len x) 369 = M1 369 from up_ne _ _ (by decide)]
    obtain ⟨j2, fl2⟩ := JM_text (len := A.len + 1) (txt := up A.txt A.len x) hj (t := up (M1 374) A.len x) (fun i hi => by
      by_cases e : i = A.len
      · rw [e, up_same, up_same]
      · rw [up_ne _ _ e, up_ne _ _ e]; exact hj.2.2.2.2.2.2 i (by omega))
    generalize up (up M1 374 (up (M1 374) A.len x)) 369 (up (M1 369) 8 (nI (A.len + 1))) = M2 at j2 fl2 ⊢
    refine g_aload_0 (pc := 37) C dX7_type_37 ?_
    refine g_geti (pc := 38) C fl_X7_type_155 kk369 dX7_type_38 ?_
    rw [j2.2.2.2.2.2.1]
    exact g_iret (post := fun r M1 P1 => r = (sType A x).1 ∧ JM M1 P1 (sType A x).2 ∧ FLo M P M1 P1) C F dX7_type_41 ⟨by rw [sType, if_neg (by omega)], by rw [sType, if_neg (by omega)]; exact j2, hl1.trans fl2⟩
  · have hl2 : A.len = 60 := nI_inj (b := 60) (by have := hA.2.2.2.2.2; omega) (by decide) c11
    refine g_ldc (pc := 14) C k_X7_type_120 dX7_type_14 ?_
    exact g_iret (post := fun r M1 P1 => r = (sType A x).1 ∧ JM M1 P1 (sType A x).2 ∧ FLo M P M1 P1) C F dX7_type_16 ⟨by rw [sType, if_pos hl2], by rw [sType, if_pos hl2]; exact hj, hl1⟩

set_option maxRecDepth 100000 in
set_option maxHeartbeats 1000000 in
theorem c7_clear {l : Launch} {D : va_G} {cy : Nat → ClassId} {B : Nat} {M : MM} {P : PP} {A : AS} {c : Nat} (h : JM M P A) (hA : WA c A) : KI l D cy B yX7_clearText wsX7_clearText 0 0 [Value.ref (B + 369)] M P (fun r M1 P1 => r = (sClear A).1 ∧ JM M1 P1 (sClear A).2 ∧ FLo M P M1 P1) := by
  refine met_KI (cc := cX7_clearText) (maxL := 2) (ret := (some .int)) (lv := [some (Value.ref (B + 369)), none]) (by decide) rfl rfl rfl (Nat.le_of_ble_eq_true rfl) ?_
  intro X C F
  have hw := hA.1
  have h6 := hw.m6
  have h30 := hw.s30
  refine g_aload_0 (pc := 0) C dX7_clearText_0 ?_
  refine g_iconst (pc := 1) (v := 0) C dX7_clearText_1 rfl ?_
  refine g_puti (pc := 2) C pf_X7_clearText_28 kk369 dX7_clearText_2 ?_
  obtain ⟨h1, hl⟩ := JM_thr h 0
  refine g_memo (fun M1 => JM M1 P A ∧ FLo M P M1 P) ⟨h1, hl⟩ (fun M1 hM1 => ?_)
  obtain ⟨hj, hl1⟩ := hM1
  have hm := hj.1
  have hf := hj.2.1
  have hf6 : M1 370 6 = nI (sn (M1 370)) := by rw [hf]; exact hw.s
  have hf12 : M1 370 12 = nI (mn (M1 370)) := by rw [hf]; exact hw.m
  have hs30 : sn (M1 370) ≤ 30 := by rw [hf]; exact h30
  have hm6 : mn (M1 370) ≤ 6 := by rw [hf]; exact h6
  refine g_aload_0 (pc := 5) C dX7_clearText_5 ?_
  refine g_geti (pc := 6) C fl_X7_clearText_155 kk369 dX7_clearText_6 ?_
  rw [hj.2.2.2.2.2.1]
  refine g_istore_1 (pc := 9) C dX7_clearText_9 ?_
  refine g_aload_0 (pc := 10) C dX7_clearText_10 ?_
  refine g_iconst (pc := 11) (v := 0) C dX7_clearText_11 rfl ?_
  refine g_puti (pc := 12) C pf_X7_clearText_155 kk369 dX7_clearText_12 ?_
  obtain ⟨j2, fl2⟩ := JM_text (len := 0) (txt := A.txt) hj (t := M1 374) (fun i hi => absurd hi (Nat.not_lt_zero _))
  rw [up_self2] at j2 fl2
  refine g_iload_1 (pc := 15) C dX7_clearText_15 ?_
  exact g_iret (post := fun r M1 P1 => r = (sClear A).1 ∧ JM M1 P1 (sClear A).2 ∧ FLo M P M1 P1) C F dX7_clearText_16 ⟨rfl, j2, hl1.trans fl2⟩
