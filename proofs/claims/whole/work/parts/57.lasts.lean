set_option maxRecDepth 100000 in
set_option maxHeartbeats 1000000 in
theorem c_daysOfFuel {l : Launch} {D : va_G} {cy : Nat → ClassId} {B : Nat} {M : MM} {P : PP} {s c : Nat} {f : FF} (hs : isSt s) (hp : PS P s) (hr : Rp M P s f) (hw : Wf c 30 f) {a : Nat} (ha : a < mn f) : KI l D cy B yX4_daysOfFuel wsX4_daysOfFuel 2 41 [Value.ref (B + s), Value.int (nI a), Value.ref (B + (s + 9 + 2 * a))] M P (qi (lX f a (dn f + 1) 0 (fq f a)) M P) := by
  refine met_KI (cc := cX4_daysOfFuel) (maxL := 7) (ret := (some .int)) (lv := [some (Value.ref (B + s)), some (Value.int (nI a)), some (Value.ref (B + (s + 9 + 2 * a))), none, none, none, none]) (by decide) rfl rfl rfl (Nat.le_of_ble_eq_true rfl) ?_
  intro X C F
  have h30 := hw.s30
  have h6 := hw.m6
  have hD : ∀ p, p < sn f → dD f p ≤ dn f + 99 := fun p hp => (Wb_day hw hp).2.2
  have hdn := hw.2.2.1.2
  have km := kk_m hs (i := a) (by omega)
  have hm7 := hr.2.2.1 a ha (by omega)
  refine g_aload_2 (pc := 0) C dX4_daysOfFuel_0 ?_
  refine g_getf (pc := 1) C fl_X4_daysOfFuel_206 km dX4_daysOfFuel_1 ?_
  rw [hm7.2.2.2.1, (fq_of (hw.wm ha)).2, qb_U]
  obtain ⟨R, hR⟩ : ∃ R, R = lX f a (dn f + 1) 0 (fq f a) := ⟨_, rfl⟩
  refine g_fstore_3 (pc := 4) C dX4_daysOfFuel_4 ?_
  refine g_iconst (pc := 5) (v := 1) C dX4_daysOfFuel_5 rfl ?_
  refine g_istore_4 (pc := 6) C dX4_daysOfFuel_6 ?_
  refine ind_m (fun (k : Nat) => 100 - k) (p := fun (k : Nat) => ∀ (q : Nat), 1 ≤ k → k ≤ 100 → q ≤ 2400 → lX f a (dn f + k) 0 q = R → G X D cy B 0 0 376 M P 8 [some (Value.ref (B + s)), some (Value.int (nI a)), some (Value.ref (B + (s + 9 + 2 * a))), some (Value.float (qbU q)), some (Value.int (nI k)), none, none] []) ?_ 1 (fq f a) (Nat.le_refl _) (by decide) (fq_of (hw.wm ha)).1 hR.symm
  intro k ih q hk1 hk hq24 hX
  refine g_iload_4 (pc := 8) C dX4_daysOfFuel_8 ?_
  refine g_bipush (pc := 10) (v := 99) C dX4_daysOfFuel_10 rfl ?_
  refine g_icmp_gt (pc := 12) (tgt := 97) C dX4_daysOfFuel_12 (by decide) (fun c12 => ?_) (fun c12 => ?_)
  · have e : 99 < k := i_lt (a := 99) (by omega) (by omega) c12
    have ek : k = 100 := by omega
    subst ek
    refine g_ldc (pc := 97) C k_X4_daysOfFuel_213 dX4_daysOfFuel_97 ?_
    exact g_iret (post := qi (lX f a (dn f + 1) 0 (fq f a)) M P) C F dX4_daysOfFuel_99 ⟨by rw [← hR, ← hX, lX_end hD], rfl, rfl⟩
  · have hk99 : k ≤ 99 := i_nlt (a := 99) (by omega) (by omega) c12
    refine g_iconst (pc := 15) (v := 0) C dX4_daysOfFuel_15 rfl ?_
    refine g_istore_5 (pc := 16) C dX4_daysOfFuel_16 ?_
    refine ind_m (fun (i : Nat) => sn f - i) (p := fun (i : Nat) => ∀ (q : Nat), i ≤ sn f → q ≤ 2400 → lX f a (dn f + k) i q = R → G X D cy B 0 0 376 M P 18 [some (Value.ref (B + s)), some (Value.int (nI a)), some (Value.ref (B + (s + 9 + 2 * a))), some (Value.float (qbU q)), some (Value.int (nI k)), some (Value.int (nI i)), none] []) ?_ 0 q (Nat.zero_le _) hq24 hX
    clear hX hq24
    intro i ih2 q2 hi hq2 hX2
    refine g_iload_5 (pc := 18) C dX4_daysOfFuel_18 ?_
    refine g_aload_0 (pc := 20) C dX4_daysOfFuel_20 ?_
    refine g_geti (pc := 21) C fl_X4_daysOfFuel_61 (kk_s0 hs) dX4_daysOfFuel_21 ?_
    rw [hr.1.2.1, hw.s]
    refine g_icmp_ge (pc := 24) (tgt := 91) C dX4_daysOfFuel_24 (by decide) (fun c24 => ?_) (fun c24 => ?_)
    · have e : sn f ≤ i := i_le (by omega) (by omega) c24
      have ei : i = sn f := by omega
      subst ei
      refine g_iinc_4 (pc := 91) (v := nI (k + 1)) C dX4_daysOfFuel_91 (nI_1 k) ?_
      refine g_goto (pc := 94) (tgt := 8) C dX4_daysOfFuel_94 (by decide) ?_
      refine g_kill_5 (g_kill_6 ?_)
      exact ih (k + 1) (by omega) q2 (by omega) (by omega) hq2 (by rw [← Nat.add_assoc, ← lX_day]; exact hX2)
    · have hi2 : i < sn f := i_nle (by omega) (by omega) c24
      have hq := hr.2.2.2 i hi2 (by omega)
      have hkb := hp.kb hs (i := i) (by omega)
      have hW := Wb_want hw ha hi2
      have hdy := Wb_day hw hi2
      refine g_aload_0 (pc := 27) C dX4_daysOfFuel_27 ?_
      refine g_iload_5 (pc := 28) C dX4_daysOfFuel_28 ?_
      refine g_V1qs (pc := 30) C e_X4_daysOfFuel_64 (Nat.le_of_ble_eq_true rfl) rfl dX4_daysOfFuel_30 (kk_s0 hs) (c_bookingAt hs hp hr hw (i := i) rfl hi2) ?_
      refine g_astore_6 (pc := 33) C dX4_daysOfFuel_33 ?_
      refine g_aload_6 (pc := 35) C dX4_daysOfFuel_35 ?_
      refine g_ifnull (pc := 37) C dX4_daysOfFuel_37 ?_
      refine g_aload_6 (pc := 40) C dX4_daysOfFuel_40 ?_
      refine g_iload_1 (pc := 42) C dX4_daysOfFuel_42 ?_
      refine g_aload_0 (pc := 43) C dX4_daysOfFuel_43 ?_
      refine g_geti (pc := 44) C fl_X4_daysOfFuel_71 (kk_s0 hs) dX4_daysOfFuel_44 ?_
      rw [hr.1.2.2.1, hw.d]
      refine g_iload_4 (pc := 47) C dX4_daysOfFuel_47 ?_
      refine g_iadd (pc := 49) C dX4_daysOfFuel_49 ?_
      rw [nI_add]
      refine g_V2ie (pc := 50) C e_X4_daysOfFuel_158 (Nat.le_of_ble_eq_true rfl) rfl dX4_daysOfFuel_50 hkb (c_isFor hkb) ?_
      rw [hq 2 (by decide), hq 3 (by decide), hdy.1]
      refine g_if_eq (pc := 53) (tgt := 85) C dX4_daysOfFuel_53 (by decide) (fun c53 => ?_) (fun c53 => ?_)
      · have hno := if0 c53
        have hX3 : lX f a (dn f + k) (i + 1) q2 = R := by
          rw [← hX2]
          exact (lX_next (fun z => hno ⟨z.1, by rw [z.2]⟩)).symm
        refine g_iinc_5 (pc := 85) (v := nI (i + 1)) C dX4_daysOfFuel_85 (nI_1 i) ?_
        refine g_goto (pc := 88) (tgt := 18) C dX4_daysOfFuel_88 (by decide) ?_
        refine g_kill_6 ?_
        exact ih2 (i + 1) (by omega) q2 (by omega) hq2 hX3
      · have hyes := if1 c53
        have hdk : dD f i = dn f + k := nI_inj (by have := hdy.2; omega) (by omega) hyes.2
        have hX4 := lX_hit (q := q2) h30 hD (show dn f ≤ dn f + k by omega) hi2 hyes.1 hdk
        rw [hX2] at hX4
        refine g_fload_3 (pc := 56) C dX4_daysOfFuel_56 ?_
        refine g_aload_2 (pc := 57) C dX4_daysOfFuel_57 ?_
        refine g_aload_6 (pc := 58) C dX4_daysOfFuel_58 ?_
        refine g_geti (pc := 60) C fl_X4_daysOfFuel_152 hkb dX4_daysOfFuel_60 ?_
        refine g_V1fe (pc := 63) C e_X4_daysOfFuel_210 (Nat.le_of_ble_eq_true rfl) rfl dX4_daysOfFuel_63 km (c_fuelFor km) ?_
        rw [hm7.1, hq 4 (by decide), hW.1]
        refine g_fcmp (pc := 66) C dX4_daysOfFuel_66 ?_
        refine g_if_ge (pc := 67) (tgt := 73) C dX4_daysOfFuel_67 (by decide) (fun c67 => ?_) (fun c67 => ?_)
        · have hge := (cmp_gl (by omega) (by omega)).1 c67
          rw [if_neg (show ¬ q2 < dV f a i by omega)] at hX4
          refine g_fload_3 (pc := 73) C dX4_daysOfFuel_73 ?_
          refine g_aload_2 (pc := 74) C dX4_daysOfFuel_74 ?_
          refine g_aload_6 (pc := 75) C dX4_daysOfFuel_75 ?_
          refine g_geti (pc := 77) C fl_X4_daysOfFuel_152 hkb dX4_daysOfFuel_77 ?_
          refine g_V1fe (pc := 80) C e_X4_daysOfFuel_210 (Nat.le_of_ble_eq_true rfl) rfl dX4_daysOfFuel_80 km (c_fuelFor km) ?_
          rw [hm7.1, hq 4 (by decide), hW.1]
          refine g_fsub (pc := 83) C dX4_daysOfFuel_83 (by rw [q_sub (by omega) hge]; exact qbU_n32 (by omega)) ?_
          rw [q_sub (by omega) hge]
          refine g_fstore_3 (pc := 84) C dX4_daysOfFuel_84 ?_
          refine g_iinc_5 (pc := 85) (v := nI (i + 1)) C dX4_daysOfFuel_85 (nI_1 i) ?_
          refine g_goto (pc := 88) (tgt := 18) C dX4_daysOfFuel_88 (by decide) ?_
          refine g_kill_6 ?_
          exact ih2 (i + 1) (by omega) (q2 - dV f a i) (by omega) (by omega) hX4.symm
        · have hlt := (cmp_gl (by omega) (by omega)).2 c67
          rw [if_pos hlt, show dn f + k - dn f = k by omega] at hX4
          refine g_iload_4 (pc := 70) C dX4_daysOfFuel_70 ?_
          exact g_iret (post := qi (lX f a (dn f + 1) 0 (fq f a)) M P) C F dX4_daysOfFuel_72 ⟨hX4.symm.trans hR, rfl, rfl⟩

set_option maxRecDepth 100000 in
set_option maxHeartbeats 1000000 in
theorem c6_lastsS {l : Launch} {D : va_G} {cy : Nat → ClassId} {B : Nat} {M : MM} {P : PP} {A : AS} {c : Nat} (h : JC M P A) (hA : WA c A) {a : Nat} (hi : isM A (nI a)) (ha : a < mn A.f) (hcl : (nI a).toNatClampNeg = a) : KI l D cy B yX6_lasts wsX6_lasts 3 67 [Value.ref (B + 0), Value.int (nI a)] M P (qi (aLasts A (nI a)) M P) := by
  refine met_KI (cc := cX6_lasts) (maxL := 3) (ret := (some .int)) (lv := [some (Value.ref (B + 0)), some (Value.int (nI a)), none]) (by decide) rfl rfl rfl (Nat.le_of_ble_eq_true rfl) ?_
  intro X C F
  have pc := h.1
  have hr := h.2.1
  have hw := hA.1
  have h6 := hw.m6
  have h30 := hw.s30
  have hm7 := hr.2.2.1 a ha (by omega)
  have km := kk_m is1 (i := a) (by omega)
  have kh := kk_h is1 (i := a) (by omega)
  have lh := ln_h is1 (i := a) (by omega)
  have rh := pc.p1.rh (i := a) (by omega)
  refine g_aload_0 (pc := 0) C dX6_lasts_0 ?_
  refine g_getr (pc := 1) C pc.now fl_X6_lasts_10 kk0 dX6_lasts_1 ?_
  refine g_iload_1 (pc := 4) C dX6_lasts_4 ?_
  refine g_V1qs (pc := 5) C e_X6_lasts_67 (Nat.le_of_ble_eq_true rfl) rfl dX6_lasts_5 (kk_s0 is1) (c_machineAt is1 pc.p1 hr hw rfl ha) ?_
  refine g_astore_2 (pc := 8) C dX6_lasts_8 ?_
  refine g_aload_2 (pc := 9) C dX6_lasts_9 ?_
  refine g_ifnonnull (pc := 10) (tgt := 18) C dX6_lasts_10 (by decide) ?_
  refine g_aload_0 (pc := 18) C dX6_lasts_18 ?_
  refine g_getr (pc := 19) C pc.now fl_X6_lasts_10 kk0 dX6_lasts_19 ?_
  refine g_iload_1 (pc := 22) C dX6_lasts_22 ?_
  refine g_aload_2 (pc := 23) C dX6_lasts_23 ?_
  refine g_V2ie (pc := 24) C e_X6_lasts_246 (Nat.le_of_ble_eq_true rfl) rfl dX6_lasts_24 (kk_s0 is1) (c_daysOfFuel is1 pc.p1 hr hw ha) ?_
  exact g_iret (post := qi (aLasts A (nI a)) M P) C F dX6_lasts_27 ⟨by rw [aLasts, if_pos hi, hcl], rfl, rfl⟩

set_option maxRecDepth 100000 in
set_option maxHeartbeats 1000000 in
theorem c6_lastsN {l : Launch} {D : va_G} {cy : Nat → ClassId} {B : Nat} {M : MM} {P : PP} {x : Int32} {A : AS} {c : Nat} (h : JC M P A) (hA : WA c A) (hn : ∀ i, i < mn A.f → x ≠ nI i) : KI l D cy B yX6_lasts wsX6_lasts 3 67 [Value.ref (B + 0), Value.int x] M P (qi (-100000001) M P) := by
  refine met_KI (cc := cX6_lasts) (maxL := 3) (ret := (some .int)) (lv := [some (Value.ref (B + 0)), some (Value.int x), none]) (by decide) rfl rfl rfl (Nat.le_of_ble_eq_true rfl) ?_
  intro X C F
  have pc := h.1
  have hr := h.2.1
  have hw := hA.1
  have h6 := hw.m6
  have h30 := hw.s30
  
  refine g_aload_0 (pc := 0) C dX6_lasts_0 ?_
  refine g_getr (pc := 1) C pc.now fl_X6_lasts_10 kk0 dX6_lasts_1 ?_
  refine g_iload_1 (pc := 4) C dX6_lasts_4 ?_
  refine g_V1qn (pc := 5) C e_X6_lasts_67 (Nat.le_of_ble_eq_true rfl) rfl dX6_lasts_5 (kk_s0 is1) (c_machineAtN is1 pc.p1 hr hw hn) ?_
  refine g_astoreZ_2 (pc := 8) C dX6_lasts_8 ?_
  refine g_aloadZ_2 (pc := 9) C dX6_lasts_9 ?_
  refine g_ifnonnullN (pc := 10) C dX6_lasts_10 ?_
  refine g_ldc (pc := 13) C k_X6_lasts_40 dX6_lasts_13 ?_
  refine g_goto (pc := 15) (tgt := 27) C dX6_lasts_15 (by decide) ?_
  exact g_iret (post := qi (-100000001) M P) C F dX6_lasts_27 ⟨rfl, rfl, rfl⟩

theorem c6_lasts {l : Launch} {D : va_G} {cy : Nat → ClassId} {B : Nat} {M : MM} {P : PP} {x : Int32} {A : AS} {c : Nat} (h : JC M P A) (hA : WA c A) : KI l D cy B yX6_lasts wsX6_lasts 3 67 [Value.ref (B + 0), Value.int x] M P (qi (aLasts A x) M P) := by
  by_cases hi : isM A x
  · obtain ⟨a, ha, hx, hcl⟩ := isM_of hA hi
    subst hx
    exact c6_lastsS h hA hi ha hcl
  · rw [show aLasts A x = -100000001 from if_neg hi]
    exact c6_lastsN h hA (isM_no hA hi)

theorem nI_sub {a b : Nat} (h : b ≤ a) : nI a - nI b = nI (a - b) := by
  have e : nI a = nI (a - b) + nI b := by rw [nI_add, Nat.sub_add_cancel h]
  rw [e]
  exact Int32.add_sub_cancel _ _
/-- none or a place, as a number -/
def eN : Option Nat → Int32
  | none => -100000005
  | some p => nI p
theorem eN_none {o : Option Nat} {m : Nat} (hm : m ≤ 100) (h : ∀ b, o = some b → b < m) (e : eN o = -100000005) : o = none := by
  cases o with
  | none => rfl
  | some b =>
    have hb := h b rfl
    have e2 : nI b = -100000005 := e
    have z : (0 : Int32) ≤ nI b := Int32.not_lt.mp (nI_pos (by omega))
    rw [e2] at z
    exact absurd z (by decide)
theorem eN_some {o : Option Nat} (e : ¬ eN o = -100000005) : ∃ b, o = some b := by
  cases o with
  | none => exact absurd rfl e
  | some b => exact ⟨b, rfl⟩

set_option maxRecDepth 100000 in
set_option maxHeartbeats 1000000 in
theorem c7_nextOf {l : Launch} {D : va_G} {cy : Nat → ClassId} {B : Nat} {M : MM} {P : PP} (hm : PMd P) {c : Nat} {f : FF} (hfe : M 370 = f) (hw : Wf c 30 f) {a d b : Nat} (hd : d ≤ 50000) (hb : b ≤ 30) : KI l D cy B yX7_nextOf wsX7_nextOf 1 22 [Value.ref (B + 369), Value.int (nI a), Value.int (nI d), Value.int (nI b)] M P (qi (eN (nb f a d (b + 1) (sn f))) M P) := by
  refine met_KI (cc := cX7_nextOf) (maxL := 8) (ret := (some .int)) (lv := [some (Value.ref (B + 369)), some (Value.int (nI a)), some (Value.int (nI d)), some (Value.int (nI b)), none, none, none, none]) (by decide) rfl rfl rfl (Nat.le_of_ble_eq_true rfl) ?_
  intro X C F
  have h30 := hw.s30
  have hdn := hw.2.2.1.2
  refine g_ldc (pc := 0) C k_X7_nextOf_40 dX7_nextOf_0 ?_
  refine g_istore_4 (pc := 2) C dX7_nextOf_2 ?_
  refine g_iconst (pc := 4) (v := 0) C dX7_nextOf_4 rfl ?_
  refine g_istore_5 (pc := 5) C dX7_nextOf_5 ?_
  refine ind_m (fun (k : Nat) => sn f - k) (p := fun (k : Nat) => ∀ (v : Int32), k ≤ sn f → v = eN (nb f a d (b + 1) k) → G X D cy B 0 0 376 M P 7 [some (Value.ref (B + 369)), some (Value.int (nI a)), some (Value.int (nI d)), some (Value.int (nI b)), some (Value.int v), some (Value.int (nI k)), none, none] []) ?_ 0 _ (Nat.zero_le _) rfl
  intro k ih v hk hv
  refine g_iload_5 (pc := 7) C dX7_nextOf_7 ?_
  refine g_aload_0 (pc := 9) C dX7_nextOf_9 ?_
  refine g_getr (pc := 10) C hm.s fl_X7_nextOf_7 kk369 dX7_nextOf_10 ?_
  refine g_bipush (pc := 13) (v := 6) C dX7_nextOf_13 rfl ?_
  refine g_iald (pc := 15) (j := 6) C kk370 rfl ln370 (by omega) dX7_nextOf_15 ?_
  rw [hfe, hw.s]
  refine g_icmp_ge (pc := 16) (tgt := 103) C dX7_nextOf_16 (by decide) (fun c16 => ?_) (fun c16 => ?_)
  · have e : sn f ≤ k := i_le (by omega) (by omega) c16
    have ek : k = sn f := by omega
    subst ek
    refine g_iload_4 (pc := 103) C dX7_nextOf_103 ?_
    exact g_iret (post := qi (eN (nb f a d (b + 1) (sn f))) M P) C F dX7_nextOf_105 ⟨hv, rfl, rfl⟩
  · have hk2 : k < sn f := i_nle (by omega) (by omega) c16
    have hdy := Wb_day hw hk2
    refine g_aload_0 (pc := 19) C dX7_nextOf_19 ?_
    refine g_iload_5 (pc := 20) C dX7_nextOf_20 ?_
    refine g_iconst (pc := 22) (v := 3) C dX7_nextOf_22 rfl ?_
    refine g_V2ie (pc := 23) C e_X7_nextOf_36 (Nat.le_of_ble_eq_true rfl) rfl dX7_nextOf_23 kk369 (c7_ofBooking hm (i := k) (k := 3) rfl rfl (by omega) (by decide)) ?_
    rw [hfe, hdy.1]
    refine g_istore_6 (pc := 26) C dX7_nextOf_26 ?_
    refine g_aload_0 (pc := 28) C dX7_nextOf_28 ?_
    refine g_iload_5 (pc := 29) C dX7_nextOf_29 ?_
    refine g_iconst (pc := 31) (v := 2) C dX7_nextOf_31 rfl ?_
    refine g_V2ie (pc := 32) C e_X7_nextOf_36 (Nat.le_of_ble_eq_true rfl) rfl dX7_nextOf_32 kk369 (c7_ofBooking hm (i := k) (k := 2) rfl rfl (by omega) (by decide)) ?_
    rw [hfe]
    refine g_iload_1 (pc := 35) C dX7_nextOf_35 ?_
    refine g_icmp_ne (pc := 36) (tgt := 61) C dX7_nextOf_36 (by decide) (fun c36 => ?_) (fun c36 => ?_)
    · refine g_iconst (pc := 61) (v := 0) C dX7_nextOf_61 rfl ?_
      refine g_istore_7 (pc := 62) C dX7_nextOf_62 ?_
      refine g_iload_7 (pc := 64) C dX7_nextOf_64 ?_
      have his : ¬ isN f a d (b + 1) k := fun z => c36 z.1
      refine g_if_eq (pc := 66) (tgt := 93) C dX7_nextOf_66 (by decide) (fun c66 => ?_) (fun c66 => ?_)
      · refine g_iload_4 (pc := 93) C dX7_nextOf_93 ?_
        refine g_istore_4 (pc := 95) C dX7_nextOf_95 ?_
        refine g_iinc_5 (pc := 97) (v := nI (k + 1)) C dX7_nextOf_97 (nI_1 k) ?_
        refine g_goto (pc := 100) (tgt := 7) C dX7_nextOf_100 (by decide) ?_
        refine g_kill_6 ?_
        refine g_kill_7 ?_
        exact ih (k + 1) (by omega) _ (by omega) (by rw [nb_no his]; exact hv)
      · exact absurd rfl c66
    · have hwh : f (133 + 6 * k + 2) = nI a := c36
      refine g_iload_6 (pc := 39) C dX7_nextOf_39 ?_
      refine g_iload_2 (pc := 41) C dX7_nextOf_41 ?_
      refine g_icmp_gt (pc := 42) (tgt := 57) C dX7_nextOf_42 (by decide) (fun c42 => ?_) (fun c42 => ?_)
      · have g42 : d < dD f k := i_lt (by omega) (by omega) c42
        refine g_iconst (pc := 57) (v := 1) C dX7_nextOf_57 rfl ?_
        refine g_goto (pc := 58) (tgt := 62) C dX7_nextOf_58 (by decide) ?_
        refine g_istore_7 (pc := 62) C dX7_nextOf_62 ?_
        refine g_iload_7 (pc := 64) C dX7_nextOf_64 ?_
        have his : isN f a d (b + 1) k := ⟨hwh, Or.inl g42⟩
        refine g_if_eq (pc := 66) (tgt := 93) C dX7_nextOf_66 (by decide) (fun c66 => ?_) (fun c66 => ?_)
        · exact absurd c66 (by decide)
        · refine g_iload_4 (pc := 69) C dX7_nextOf_69 ?_
          refine g_ldc (pc := 71) C k_X7_nextOf_40 dX7_nextOf_71 ?_
          refine g_icmp_eq (pc := 73) (tgt := 88) C dX7_nextOf_73 (by decide) (fun c73 => ?_) (fun c73 => ?_)
          · refine g_iload_5 (pc := 88) C dX7_nextOf_88 ?_
            refine g_goto (pc := 90) (tgt := 95) C dX7_nextOf_90 (by decide) ?_
            refine g_istore_4 (pc := 95) C dX7_nextOf_95 ?_
            refine g_iinc_5 (pc := 97) (v := nI (k + 1)) C dX7_nextOf_97 (nI_1 k) ?_
            refine g_goto (pc := 100) (tgt := 7) C dX7_nextOf_100 (by decide) ?_
            refine g_kill_6 ?_
            refine g_kill_7 ?_
            exact ih (k + 1) (by omega) _ (by omega) (by rw [nb_first his (eN_none (by omega) (fun b2 hb2 => ((nb_spec k).2 b2 hb2).1) (hv.symm.trans c73))]; rfl)
          · obtain ⟨b2, hb2⟩ := eN_some (fun z => c73 (hv.trans z))
            have hv2 : v = nI b2 := by rw [hv, hb2]; rfl
            have hlt2 := ((nb_spec k).2 b2 hb2).1
            have hdy2 := Wb_day hw (show b2 < sn f by omega)
            refine g_iload_6 (pc := 76) C dX7_nextOf_76 ?_
            refine g_aload_0 (pc := 78) C dX7_nextOf_78 ?_
            refine g_iload_4 (pc := 79) C dX7_nextOf_79 ?_
            refine g_iconst (pc := 81) (v := 3) C dX7_nextOf_81 rfl ?_
            refine g_V2ie (pc := 82) C e_X7_nextOf_36 (Nat.le_of_ble_eq_true rfl) rfl dX7_nextOf_82 kk369 (c7_ofBooking hm (i := b2) (k := 3) hv2 rfl (by omega) (by decide)) ?_
            rw [hfe, hdy2.1]
            refine g_icmp_ge (pc := 85) (tgt := 93) C dX7_nextOf_85 (by decide) (fun c85 => ?_) (fun c85 => ?_)
            · have hcm : ¬ dD f k < dD f b2 := by have g85 : dD f b2 ≤ dD f k := i_le (by omega) (by omega) c85; omega
              refine g_iload_4 (pc := 93) C dX7_nextOf_93 ?_
              refine g_istore_4 (pc := 95) C dX7_nextOf_95 ?_
              refine g_iinc_5 (pc := 97) (v := nI (k + 1)) C dX7_nextOf_97 (nI_1 k) ?_
              refine g_goto (pc := 100) (tgt := 7) C dX7_nextOf_100 (by decide) ?_
              refine g_kill_6 ?_
              refine g_kill_7 ?_
              exact ih (k + 1) (by omega) _ (by omega) (by rw [nb_ge hb2 hcm, ← hb2]; exact hv)
            · have hcm : dD f k < dD f b2 := i_nle (by omega) (by omega) c85
              refine g_iload_5 (pc := 88) C dX7_nextOf_88 ?_
              refine g_goto (pc := 90) (tgt := 95) C dX7_nextOf_90 (by decide) ?_
              refine g_istore_4 (pc := 95) C dX7_nextOf_95 ?_
              refine g_iinc_5 (pc := 97) (v := nI (k + 1)) C dX7_nextOf_97 (nI_1 k) ?_
              refine g_goto (pc := 100) (tgt := 7) C dX7_nextOf_100 (by decide) ?_
              refine g_kill_6 ?_
              refine g_kill_7 ?_
              exact ih (k + 1) (by omega) _ (by omega) (by rw [nb_less his hb2 hcm]; rfl)
      · have g42 : dD f k ≤ d := i_nlt (by omega) (by omega) c42
        refine g_iload_6 (pc := 45) C dX7_nextOf_45 ?_
        refine g_iload_2 (pc := 47) C dX7_nextOf_47 ?_
        refine g_icmp_ne (pc := 48) (tgt := 61) C dX7_nextOf_48 (by decide) (fun c48 => ?_) (fun c48 => ?_)
        · have g48 : dD f k ≠ d := fun z => c48 (by rw [z])
          refine g_iconst (pc := 61) (v := 0) C dX7_nextOf_61 rfl ?_
          refine g_istore_7 (pc := 62) C dX7_nextOf_62 ?_
          refine g_iload_7 (pc := 64) C dX7_nextOf_64 ?_
          have his : ¬ isN f a d (b + 1) k := fun z => by have := z.2; omega
          refine g_if_eq (pc := 66) (tgt := 93) C dX7_nextOf_66 (by decide) (fun c66 => ?_) (fun c66 => ?_)
          · refine g_iload_4 (pc := 93) C dX7_nextOf_93 ?_
            refine g_istore_4 (pc := 95) C dX7_nextOf_95 ?_
            refine g_iinc_5 (pc := 97) (v := nI (k + 1)) C dX7_nextOf_97 (nI_1 k) ?_
            refine g_goto (pc := 100) (tgt := 7) C dX7_nextOf_100 (by decide) ?_
            refine g_kill_6 ?_
            refine g_kill_7 ?_
            exact ih (k + 1) (by omega) _ (by omega) (by rw [nb_no his]; exact hv)
          · exact absurd rfl c66
        · have g48 : dD f k = d := nI_inj (by omega) (by omega) c48
          refine g_iload_5 (pc := 51) C dX7_nextOf_51 ?_
          refine g_iload_3 (pc := 53) C dX7_nextOf_53 ?_
          refine g_icmp_le (pc := 54) (tgt := 61) C dX7_nextOf_54 (by decide) (fun c54 => ?_) (fun c54 => ?_)
          · have g54 : k ≤ b := i_le (by omega) (by omega) c54
            refine g_iconst (pc := 61) (v := 0) C dX7_nextOf_61 rfl ?_
            refine g_istore_7 (pc := 62) C dX7_nextOf_62 ?_
            refine g_iload_7 (pc := 64) C dX7_nextOf_64 ?_
            have his : ¬ isN f a d (b + 1) k := fun z => by have := z.2; omega
            refine g_if_eq (pc := 66) (tgt := 93) C dX7_nextOf_66 (by decide) (fun c66 => ?_) (fun c66 => ?_)
            · refine g_iload_4 (pc := 93) C dX7_nextOf_93 ?_
              refine g_istore_4 (pc := 95) C dX7_nextOf_95 ?_
              refine g_iinc_5 (pc := 97) (v := nI (k + 1)) C dX7_nextOf_97 (nI_1 k) ?_
              refine g_goto (pc := 100) (tgt := 7) C dX7_nextOf_100 (by decide) ?_
              refine g_kill_6 ?_
              refine g_kill_7 ?_
              exact ih (k + 1) (by omega) _ (by omega) (by rw [nb_no his]; exact hv)
            · exact absurd rfl c66
          · have g54 : b < k := i_nle (by omega) (by omega) c54
            refine g_iconst (pc := 57) (v := 1) C dX7_nextOf_57 rfl ?_
            refine g_goto (pc := 58) (tgt := 62) C dX7_nextOf_58 (by decide) ?_
            refine g_istore_7 (pc := 62) C dX7_nextOf_62 ?_
            refine g_iload_7 (pc := 64) C dX7_nextOf_64 ?_
            have his : isN f a d (b + 1) k := ⟨hwh, Or.inr ⟨g48, by omega⟩⟩
            refine g_if_eq (pc := 66) (tgt := 93) C dX7_nextOf_66 (by decide) (fun c66 => ?_) (fun c66 => ?_)
            · exact absurd c66 (by decide)
            · refine g_iload_4 (pc := 69) C dX7_nextOf_69 ?_
              refine g_ldc (pc := 71) C k_X7_nextOf_40 dX7_nextOf_71 ?_
              refine g_icmp_eq (pc := 73) (tgt := 88) C dX7_nextOf_73 (by decide) (fun c73 => ?_) (fun c73 => ?_)
              · refine g_iload_5 (pc := 88) C dX7_nextOf_88 ?_
                refine g_goto (pc := 90) (tgt := 95) C dX7_nextOf_90 (by decide) ?_
                refine g_istore_4 (pc := 95) C dX7_nextOf_95 ?_
                refine g_iinc_5 (pc := 97) (v := nI (k + 1)) C dX7_nextOf_97 (nI_1 k) ?_
                refine g_goto (pc := 100) (tgt := 7) C dX7_nextOf_100 (by decide) ?_
                refine g_kill_6 ?_
                refine g_kill_7 ?_
                exact ih (k + 1) (by omega) _ (by omega) (by rw [nb_first his (eN_none (by omega) (fun b2 hb2 => ((nb_spec k).2 b2 hb2).1) (hv.symm.trans c73))]; rfl)
              · obtain ⟨b2, hb2⟩ := eN_some (fun z => c73 (hv.trans z))
                have hv2 : v = nI b2 := by rw [hv, hb2]; rfl
                have hlt2 := ((nb_spec k).2 b2 hb2).1
                have hdy2 := Wb_day hw (show b2 < sn f by omega)
                refine g_iload_6 (pc := 76) C dX7_nextOf_76 ?_
                refine g_aload_0 (pc := 78) C dX7_nextOf_78 ?_
                refine g_iload_4 (pc := 79) C dX7_nextOf_79 ?_
                refine g_iconst (pc := 81) (v := 3) C dX7_nextOf_81 rfl ?_
                refine g_V2ie (pc := 82) C e_X7_nextOf_36 (Nat.le_of_ble_eq_true rfl) rfl dX7_nextOf_82 kk369 (c7_ofBooking hm (i := b2) (k := 3) hv2 rfl (by omega) (by decide)) ?_
                rw [hfe, hdy2.1]
                refine g_icmp_ge (pc := 85) (tgt := 93) C dX7_nextOf_85 (by decide) (fun c85 => ?_) (fun c85 => ?_)
                · have hcm : ¬ dD f k < dD f b2 := by have g85 : dD f b2 ≤ dD f k := i_le (by omega) (by omega) c85; omega
                  refine g_iload_4 (pc := 93) C dX7_nextOf_93 ?_
                  refine g_istore_4 (pc := 95) C dX7_nextOf_95 ?_
                  refine g_iinc_5 (pc := 97) (v := nI (k + 1)) C dX7_nextOf_97 (nI_1 k) ?_
                  refine g_goto (pc := 100) (tgt := 7) C dX7_nextOf_100 (by decide) ?_
                  refine g_kill_6 ?_
                  refine g_kill_7 ?_
                  exact ih (k + 1) (by omega) _ (by omega) (by rw [nb_ge hb2 hcm, ← hb2]; exact hv)
                · have hcm : dD f k < dD f b2 := i_nle (by omega) (by omega) c85
                  refine g_iload_5 (pc := 88) C dX7_nextOf_88 ?_
                  refine g_goto (pc := 90) (tgt := 95) C dX7_nextOf_90 (by decide) ?_
                  refine g_istore_4 (pc := 95) C dX7_nextOf_95 ?_
                  refine g_iinc_5 (pc := 97) (v := nI (k + 1)) C dX7_nextOf_97 (nI_1 k) ?_
                  refine g_goto (pc := 100) (tgt := 7) C dX7_nextOf_100 (by decide) ?_
                  refine g_kill_6 ?_
                  refine g_kill_7 ?_
                  exact ih (k + 1) (by omega) _ (by omega) (by rw [nb_less his hb2 hcm]; rfl)

set_option maxRecDepth 100000 in
set_option maxHeartbeats 1000000 in
theorem c7_lastsN {l : Launch} {D : va_G} {cy : Nat → ClassId} {B : Nat} {M : MM} {P : PP} {x : Int32} {A : AS} {c : Nat} (h : JM M P A) (hA : WA c A) (hi : ¬ isM A x) : KI l D cy B yX7_lasts wsX7_lasts 2 49 [Value.ref (B + 369), Value.int x] M P (fun r M1 P1 => r = aLasts A x ∧ JM M1 P1 A ∧ FLo M P M1 P1) := by
  refine met_KI (cc := cX7_lasts) (maxL := 5) (ret := (some .int)) (lv := [some (Value.ref (B + 369)), some (Value.int x), none, none, none]) (by decide) rfl rfl rfl (Nat.le_of_ble_eq_true rfl) ?_
  intro X C F
  have hw := hA.1
  have h6 := hw.m6
  have h30 := hw.s30
  have hdn := hw.2.2.1.2
  have hD : ∀ p, p < sn A.f → dD A.f p ≤ dn A.f + 99 := fun p hp => (Wb_day hw hp).2.2
  refine g_aload_0 (pc := 0) C dX7_lasts_0 ?_
  refine g_iconst (pc := 1) (v := 0) C dX7_lasts_1 rfl ?_
  refine g_puti (pc := 2) C pf_X7_lasts_28 kk369 dX7_lasts_2 ?_
  obtain ⟨h1, hl⟩ := JM_thr h 0
  refine g_memo (fun M1 => JM M1 P A ∧ FLo M P M1 P) ⟨h1, hl⟩ (fun M1 hM1 => ?_)
  obtain ⟨hj, hl1⟩ := hM1
  have hm := hj.1
  have hf := hj.2.1
  have hf6 : M1 370 6 = nI (sn (M1 370)) := by rw [hf]; exact hw.s
  have hf12 : M1 370 12 = nI (mn (M1 370)) := by rw [hf]; exact hw.m
  have hs30 : sn (M1 370) ≤ 30 := by rw [hf]; exact h30
  have hm6 : mn (M1 370) ≤ 6 := by rw [hf]; exact h6
  refine g_aload_0 (pc := 5) C dX7_lasts_5 ?_
  refine g_iload_1 (pc := 6) C dX7_lasts_6 ?_
  refine g_V1ie (pc := 7) C e_X7_lasts_128 (Nat.le_of_ble_eq_true rfl) rfl dX7_lasts_7 kk369 (c7_isMachine (by assumption)) ?_
  rw [hf]
  refine g_if_ne (pc := 10) (tgt := 16) C dX7_lasts_10 (by decide) (fun c10 => ?_) (fun c10 => ?_)
  · exact absurd (if1 c10) hi
  · refine g_ldc (pc := 13) C k_X7_lasts_115 dX7_lasts_13 ?_
    exact g_iret (post := fun r M1 P1 => r = aLasts A x ∧ JM M1 P1 A ∧ FLo M P M1 P1) C F dX7_lasts_15 ⟨(if_neg hi).symm, hj, hl1⟩

set_option maxRecDepth 100000 in
set_option maxHeartbeats 1000000 in
theorem c7_lastsS {l : Launch} {D : va_G} {cy : Nat → ClassId} {B : Nat} {M : MM} {P : PP} {A : AS} {c : Nat} (h : JM M P A) (hA : WA c A) {a : Nat} (hi : isM A (nI a)) (ha : a < mn A.f) (hcl : (nI a).toNatClampNeg = a) : KI l D cy B yX7_lasts wsX7_lasts 2 49 [Value.ref (B + 369), Value.int (nI a)] M P (fun r M1 P1 => r = aLasts A (nI a) ∧ JM M1 P1 A ∧ FLo M P M1 P1) := by
  refine met_KI (cc := cX7_lasts) (maxL := 5) (ret := (some .int)) (lv := [some (Value.ref (B + 369)), some (Value.int (nI a)), none, none, none]) (by decide) rfl rfl rfl (Nat.le_of_ble_eq_true rfl) ?_
  intro X C F
  have hw := hA.1
  have h6 := hw.m6
  have h30 := hw.s30
  have hdn := hw.2.2.1.2
  have hD : ∀ p, p < sn A.f → dD A.f p ≤ dn A.f + 99 := fun p hp => (Wb_day hw hp).2.2
  refine g_aload_0 (pc := 0) C dX7_lasts_0 ?_
  refine g_iconst (pc := 1) (v := 0) C dX7_lasts_1 rfl ?_
  refine g_puti (pc := 2) C pf_X7_lasts_28 kk369 dX7_lasts_2 ?_
  obtain ⟨h1, hl⟩ := JM_thr h 0
  refine g_memo (fun M1 => JM M1 P A ∧ FLo M P M1 P) ⟨h1, hl⟩ (fun M1 hM1 => ?_)
  obtain ⟨hj, hl1⟩ := hM1
  have hm := hj.1
  have hf := hj.2.1
  have hf6 : M1 370 6 = nI (sn (M1 370)) := by rw [hf]; exact hw.s
  have hf12 : M1 370 12 = nI (mn (M1 370)) := by rw [hf]; exact hw.m
  have hs30 : sn (M1 370) ≤ 30 := by rw [hf]; exact h30
  have hm6 : mn (M1 370) ≤ 6 := by rw [hf]; exact h6
  refine g_aload_0 (pc := 5) C dX7_lasts_5 ?_
  refine g_iload_1 (pc := 6) C dX7_lasts_6 ?_
  refine g_V1ie (pc := 7) C e_X7_lasts_128 (Nat.le_of_ble_eq_true rfl) rfl dX7_lasts_7 kk369 (c7_isMachine (by assumption)) ?_
  rw [hf]
  refine g_if_ne (pc := 10) (tgt := 16) C dX7_lasts_10 (by decide) (fun c10 => ?_) (fun c10 => ?_)
  · refine g_aload_0 (pc := 16) C dX7_lasts_16 ?_
    refine g_iload_1 (pc := 17) C dX7_lasts_17 ?_
    refine g_V1fe (pc := 18) C e_X7_lasts_77 (Nat.le_of_ble_eq_true rfl) rfl dX7_lasts_18 kk369 (c7_fuelOf hm (i := a) rfl (by omega) (by rw [hf]; exact hw.sni ha)) ?_
    rw [hf, (fq_of (hw.wm ha)).2, qb_U]
    refine g_fstore_2 (pc := 21) C dX7_lasts_21 ?_
    refine g_aload_0 (pc := 22) C dX7_lasts_22 ?_
    refine g_iload_1 (pc := 23) C dX7_lasts_23 ?_
    refine g_aload_0 (pc := 24) C dX7_lasts_24 ?_
    refine g_getr (pc := 25) C hm.s fl_X7_lasts_7 kk369 dX7_lasts_25 ?_
    refine g_iconst (pc := 28) (v := 3) C dX7_lasts_28 rfl ?_
    refine g_iald (pc := 29) (j := 3) C kk370 rfl ln370 (by omega) dX7_lasts_29 ?_
    rw [hf, hw.d]
    refine g_bipush (pc := 30) (v := 30) C dX7_lasts_30 rfl ?_
    refine g_V3ie (pc := 32) C e_X7_lasts_187 (Nat.le_of_ble_eq_true rfl) rfl dX7_lasts_32 kk369 (c7_nextOf hm (b := 30) hf hw (by omega) (Nat.le_refl _)) ?_
    refine g_istore_3 (pc := 35) C dX7_lasts_35 ?_
    refine ind_m (fun (k : Nat × Nat) => 32 * (dn A.f + 100 - k.1) - k.2) (p := fun (k : Nat × Nat) => ∀ (q : Nat), dn A.f ≤ k.1 → k.2 ≤ 31 → q ≤ 2400 → lX A.f a k.1 k.2 q = aLasts A (nI a) → G X D cy B 0 0 376 M1 P 36 [some (Value.ref (B + 369)), some (Value.int (nI a)), some (Value.float (qbU q)), some (Value.int (eN (nb A.f a k.1 k.2 (sn A.f)))), none] []) ?_ (dn A.f, 31) (fq A.f a) (Nat.le_refl _) (Nat.le_refl _) (fq_of (hw.wm ha)).1 (by rw [aLasts, if_pos hi, hcl]; exact lX_first h30)
    intro k ih q hk1 hk2 hq hX
    obtain ⟨d, i⟩ := k
    refine g_iload_3 (pc := 36) C dX7_lasts_36 ?_
    refine g_ldc (pc := 37) C k_X7_lasts_40 dX7_lasts_37 ?_
    refine g_icmp_eq (pc := 39) (tgt := 97) C dX7_lasts_39 (by decide) (fun c39 => ?_) (fun c39 => ?_)
    · have e : nb A.f a d i (sn A.f) = none := eN_none (m := sn A.f) (by omega) (fun b2 hb2 => ((nb_spec (sn A.f)).2 b2 hb2).1) c39
      have hX0 : lX A.f a d i q = -100000005 := lx_none e
      refine g_ldc (pc := 97) C k_X7_lasts_40 dX7_lasts_97 ?_
      exact g_iret (post := fun r M1 P1 => r = aLasts A (nI a) ∧ JM M1 P1 A ∧ FLo M P M1 P1) C F dX7_lasts_99 ⟨by rw [← hX]; exact hX0.symm, hj, hl1⟩
    · obtain ⟨p, hb2⟩ := eN_some c39
      obtain ⟨j1, ⟨-, j2⟩, -⟩ := (nb_spec (sn A.f)).2 p hb2
      have hdy := Wb_day hw j1
      have hW := Wb_want hw ha j1
      have hS : lX A.f a d i q = _ := lX_some h30 hD hk1 hk2 hb2
      rw [show eN (nb A.f a (d, i).1 (d, i).2 (sn A.f)) = nI p by show eN (nb A.f a d i (sn A.f)) = nI p; rw [hb2]; rfl]
      have hi31 : i ≤ 31 := hk2
      have hk1b : dn A.f ≤ d := hk1
      refine g_aload_0 (pc := 42) C dX7_lasts_42 ?_
      refine g_iload_1 (pc := 43) C dX7_lasts_43 ?_
      refine g_aload_0 (pc := 44) C dX7_lasts_44 ?_
      refine g_iload_3 (pc := 45) C dX7_lasts_45 ?_
      refine g_iconst (pc := 46) (v := 4) C dX7_lasts_46 rfl ?_
      refine g_V2ie (pc := 47) C e_X7_lasts_36 (Nat.le_of_ble_eq_true rfl) rfl dX7_lasts_47 kk369 (c7_ofBooking hm (i := p) (k := 4) rfl rfl (by omega) (by decide)) ?_
      rw [hf]
      refine g_V2fe (pc := 50) C e_X7_lasts_80 (Nat.le_of_ble_eq_true rfl) rfl dX7_lasts_50 kk369 (c7_wants hm (i := a) rfl (by omega)) ?_
      rw [hf, hW.1]
      refine g_fstore_4 (pc := 53) C dX7_lasts_53 ?_
      refine g_fload_2 (pc := 55) C dX7_lasts_55 ?_
      refine g_fload_4 (pc := 56) C dX7_lasts_56 ?_
      refine g_fcmp (pc := 58) C dX7_lasts_58 ?_
      refine g_if_ge (pc := 59) (tgt := 76) C dX7_lasts_59 (by decide) (fun c59 => ?_) (fun c59 => ?_)
      · have hge := (cmp_gl (by omega) (by omega)).1 c59
        rw [if_neg (show ¬ q < dV A.f a p by omega)] at hS
        refine g_fload_2 (pc := 76) C dX7_lasts_76 ?_
        refine g_fload_4 (pc := 77) C dX7_lasts_77 ?_
        refine g_fsub (pc := 79) C dX7_lasts_79 (by rw [q_sub (by omega) hge]; exact qbU_n32 (by omega)) ?_
        rw [q_sub (by omega) hge]
        refine g_fstore_2 (pc := 80) C dX7_lasts_80 ?_
        refine g_aload_0 (pc := 81) C dX7_lasts_81 ?_
        refine g_iload_1 (pc := 82) C dX7_lasts_82 ?_
        refine g_aload_0 (pc := 83) C dX7_lasts_83 ?_
        refine g_iload_3 (pc := 84) C dX7_lasts_84 ?_
        refine g_iconst (pc := 85) (v := 3) C dX7_lasts_85 rfl ?_
        refine g_V2ie (pc := 86) C e_X7_lasts_36 (Nat.le_of_ble_eq_true rfl) rfl dX7_lasts_86 kk369 (c7_ofBooking hm (i := p) (k := 3) rfl rfl (by omega) (by decide)) ?_
        rw [hf, hdy.1]
        refine g_iload_3 (pc := 89) C dX7_lasts_89 ?_
        refine g_V3ie (pc := 90) C e_X7_lasts_187 (Nat.le_of_ble_eq_true rfl) rfl dX7_lasts_90 kk369 (c7_nextOf hm (b := p) hf hw (by omega) (by omega)) ?_
        refine g_istore_3 (pc := 93) C dX7_lasts_93 ?_
        refine g_goto (pc := 94) (tgt := 36) C dX7_lasts_94 (by decide) ?_
        refine g_kill_4 ?_
        exact ih (dD A.f p, p + 1) (by show 32 * (dn A.f + 100 - dD A.f p) - (p + 1) < 32 * (dn A.f + 100 - d) - i; omega) (q - dV A.f a p) hdy.2.1 (by show p + 1 ≤ 31; omega) (by omega) (by rw [← hX]; exact hS.symm)
      · have hlt := (cmp_gl (by omega) (by omega)).2 c59
        rw [if_pos hlt] at hS
        refine g_aload_0 (pc := 62) C dX7_lasts_62 ?_
        refine g_iload_3 (pc := 63) C dX7_lasts_63 ?_
        refine g_iconst (pc := 64) (v := 3) C dX7_lasts_64 rfl ?_
        refine g_V2ie (pc := 65) C e_X7_lasts_36 (Nat.le_of_ble_eq_true rfl) rfl dX7_lasts_65 kk369 (c7_ofBooking hm (i := p) (k := 3) rfl rfl (by omega) (by decide)) ?_
        rw [hf, hdy.1]
        refine g_aload_0 (pc := 68) C dX7_lasts_68 ?_
        refine g_getr (pc := 69) C hm.s fl_X7_lasts_7 kk369 dX7_lasts_69 ?_
        refine g_iconst (pc := 72) (v := 3) C dX7_lasts_72 rfl ?_
        refine g_iald (pc := 73) (j := 3) C kk370 rfl ln370 (by omega) dX7_lasts_73 ?_
        rw [hf, hw.d]
        refine g_isub (pc := 74) C dX7_lasts_74 ?_
        exact g_iret (post := fun r M1 P1 => r = aLasts A (nI a) ∧ JM M1 P1 A ∧ FLo M P M1 P1) C F dX7_lasts_75 ⟨by rw [← hX]; exact (nI_sub hdy.2.1).trans hS.symm, hj, hl1⟩
  · exact absurd hi (if0 c10)

theorem c7_lasts {l : Launch} {D : va_G} {cy : Nat → ClassId} {B : Nat} {M : MM} {P : PP} {x : Int32} {A : AS} {c : Nat} (h : JM M P A) (hA : WA c A) : KI l D cy B yX7_lasts wsX7_lasts 2 49 [Value.ref (B + 369), Value.int x] M P (fun r M1 P1 => r = aLasts A x ∧ JM M1 P1 A ∧ FLo M P M1 P1) := by
  by_cases hi : isM A x
  · obtain ⟨a, ha, hx, hcl⟩ := isM_of hA hi
    subst hx
    exact c7_lastsS h hA hi ha hcl
  · exact c7_lastsN h hA hi
