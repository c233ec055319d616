/-! the orders -/
def sLic (A : AS) (w x : Int32) : Int32 × AS := if isF w then (if 0 ≤ x ∧ x ≤ 7 then (if A.f (13 + 6 * w.toNatClampNeg + 1) = x then (-100000005, A) else (A.f (13 + 6 * w.toNatClampNeg + 1), stF (psh A) (up A.f (13 + 6 * w.toNatClampNeg + 1) x))) else (-100000002, A)) else (-100000001, A)
def sRate (A : AS) (m x : Int32) : Int32 × AS := if isM A m then (if 1 ≤ x ∧ x ≤ 99 then (if A.f (49 + 14 * m.toNatClampNeg + 1) = x then (-100000005, A) else (A.f (49 + 14 * m.toNatClampNeg + 1), stF (psh A) (up A.f (49 + 14 * m.toNatClampNeg + 1) x))) else (-100000002, A)) else (-100000001, A)
def sSeed (A : AS) (x : Int32) : Int32 × AS := if 0 ≤ x ∧ x ≤ 9999 then (if A.f 2 = x then (-100000005, A) else (A.f 2, stF (psh A) (up A.f 2 x))) else (-100000002, A)
def sSet (A : AS) (k x : Int32) : Int32 × AS := if k = 0 ∧ 10 ≤ x ∧ x ≤ 200 then (if A.f 0 = x then (-100000005, A) else (A.f 0, stF (psh A) (up A.f 0 x))) else if k = 1 ∧ 0 ≤ x ∧ x ≤ 9999 then (if A.f 1 = x then (-100000005, A) else (A.f 1, stF (psh A) (up A.f 1 x))) else (-100000002, A)
def payF (f : FF) (w : Nat) (x : Int32) : FF := up (up (up f (13 + 6 * w + 0) (f (13 + 6 * w + 0) + x)) 4 (f 4 + x)) 11 (f 11 + x)
def sPay (A : AS) (w x : Int32) : Int32 × AS := if isF w then (if 1 ≤ x ∧ x ≤ 9999 then (A.f (13 + 6 * w.toNatClampNeg + 0) + x, stF (psh A) (payF A.f w.toNatClampNeg x)) else (-100000002, A)) else (-100000001, A)
def fillU (f : FF) (m : Nat) (x : Int32) : UInt32 := FP.fadd (f (49 + 14 * m + 6)).toUInt32 (FP.i2f x)
def fillF (f : FF) (w m : Nat) (x : Int32) : FF := up (up (up (up f (49 + 14 * m + 6) (fillU f m x).toInt32) (13 + 6 * w + 3) (f (13 + 6 * w + 3) + x)) 4 (f 4 - 2 * x)) 10 (f 10 + 2 * x)
def sFill (A : AS) (w m x : Int32) : Int32 × AS := if isF w ∧ isM A m then (if 1 ≤ x ∧ x ≤ 500 then (if Op.cmpValue (FP.fcmp (fillU A.f m.toNatClampNeg x) 1142292480) .l ≤ 0 then (2 * x, stF (psh A) (fillF A.f w.toNatClampNeg m.toNatClampNeg x)) else (-100000003, A)) else (-100000002, A)) else (-100000001, A)
def sMend (A : AS) (m : Int32) : Int32 × AS := if isM A m then (if A.f (49 + 14 * m.toNatClampNeg + 2) = 0 then (-100000005, A) else (mdL A.f m.toNatClampNeg 6, stF (psh A) (mendF A.f m.toNatClampNeg))) else (-100000001, A)
def sBook (A : AS) (w m i x : Int32) : Int32 × AS := if refI A.f w m i x = 0 then (A.f 5, stF (psh A) (bookF A.f (sn A.f) w m i x)) else (refI A.f w m i x, A)
def sBack (A : AS) (b : Int32) : Int32 × AS := match plO A.f b with
  | none => (-100000001, A)
  | some p => (nI (sn A.f - 1), stF (psh A) (dropF A.f p (sn A.f - 1)))
def dFn (f : FF) : Nat → FF
  | 0 => f
  | n + 1 => dayF (dFn f n)
def sPass (A : AS) (d : Int32) : Int32 × AS := if 1 ≤ d ∧ d ≤ 60 then (dFn A.f d.toNatClampNeg 7 - A.f 7, stF (psh A) (dFn A.f d.toNatClampNeg)) else (-100000002, A)
def sBuy (A : AS) (x y r : Int32) : Int32 × AS := if 0 ≤ y ∧ y ≤ 2 then (if (0 ≤ x ∧ x ≤ 2) ∧ (1 ≤ r ∧ r ≤ 99) then (if kc A.f y (mn A.f) < 2 then (if x = y then (nI (mn A.f), stF (psh A) (buyF A.f (mn A.f) x r (nI (kc A.f x (mn A.f))))) else (-100000004, A)) else (-100000003, A)) else (-100000002, A)) else (-100000001, A)
theorem refI_room {f : FF} {w m i x : Int32} (h : refI f w m i x = 0) : f 6 ≠ 30 := fun z => by
  unfold refI at h
  rw [if_pos z] at h
  split at h
  · split at h
    · exact absurd h (by decide)
    · exact absurd h (by decide)
  · exact absurd h (by decide)

set_option maxRecDepth 100000 in
set_option maxHeartbeats 1000000 in
theorem c6_licenseS {l : Launch} {D : va_G} {cy : Nat → ClassId} {B : Nat} {M : MM} {P : PP} {w x : Int32} {A : AS} {c : Nat} (h : JC M P A) (hA : WA c A) (hi : isF w) {a : Nat} (ha : a < 6) (hx : w = nI a) (hcl : w.toNatClampNeg = a) : KI l D cy B yX6_license wsX6_license 4 89 [Value.ref (B + 0), Value.int w, Value.int x] M P (fun r M1 P1 => r = (sLic A w x).1 ∧ JC M1 P1 (sLic A w x).2 ∧ FHi M P M1 P1) := by
  refine met_KI (cc := cX6_license) (maxL := 5) (ret := (some .int)) (lv := [some (Value.ref (B + 0)), some (Value.int w), some (Value.int x), none, none]) (by decide) rfl rfl rfl (Nat.le_of_ble_eq_true rfl) ?_
  intro X C F
  have pc := h.1
  have hr := h.2.1
  have hw := hA.1
  have h6 := hw.m6
  have h30 := hw.s30
  have hF := hr.2.1 a ha
  have kf := kk_f is1 ha
  refine g_aload_0 (pc := 0) C dX6_license_0 ?_
  refine g_getr (pc := 1) C pc.now fl_X6_license_10 kk0 dX6_license_1 ?_
  refine g_iload_1 (pc := 4) C dX6_license_4 ?_
  refine g_V1qs (pc := 5) C e_X6_license_56 (Nat.le_of_ble_eq_true rfl) rfl dX6_license_5 (kk_s0 is1) (c_farmerAt is1 pc.p1 hx ha) ?_
  refine g_astore_3 (pc := 8) C dX6_license_8 ?_
  refine g_aload_3 (pc := 9) C dX6_license_9 ?_
  refine g_ifnonnull (pc := 10) (tgt := 16) C dX6_license_10 (by decide) ?_
  refine g_iload_2 (pc := 16) C dX6_license_16 ?_
  refine g_iconst (pc := 17) (v := 0) C dX6_license_17 rfl ?_
  refine g_bipush (pc := 18) (v := 7) C dX6_license_18 rfl ?_
  refine g_S3ie (pc := 20) C e_X6_license_36 (Nat.le_of_ble_eq_true rfl) rfl dX6_license_20 (c_outside) ?_
  refine g_if_eq (pc := 23) (tgt := 29) C dX6_license_23 (by decide) (fun c23 => ?_) (fun c23 => ?_)
  · refine g_aload_3 (pc := 29) C dX6_license_29 ?_
    refine g_geti (pc := 30) C fl_X6_license_60 kf dX6_license_30 ?_
    rw [hF 1 (by decide)]
    refine g_istore_4 (pc := 33) C dX6_license_33 ?_
    refine g_iload_2 (pc := 35) C dX6_license_35 ?_
    refine g_iload_4 (pc := 36) C dX6_license_36 ?_
    refine g_icmp_ne (pc := 38) (tgt := 44) C dX6_license_38 (by decide) (fun c38 => ?_) (fun c38 => ?_)
    · refine g_aload_0 (pc := 44) C dX6_license_44 ?_
      refine g_getr (pc := 45) C pc.hist fl_X6_license_25 kk0 dX6_license_45 ?_
      refine g_aload_0 (pc := 48) C dX6_license_48 ?_
      refine g_getr (pc := 49) C pc.now fl_X6_license_10 kk0 dX6_license_49 ?_
      refine g_V1v (pc := 52) C e_X6_license_48 (Nat.le_of_ble_eq_true rfl) rfl dX6_license_52 kk157 (c_push is1 (by decide) pc.p1 hr hw pc.hh hA.z h.2.2.1) (fun M1 P1 hq => ?_)
      obtain ⟨j1, fh1⟩ := JC_push h hq
      have pc1 := j1.1
      have hr1 : Rp M1 P1 1 A.f := j1.2.1
      have hz1 : (psh A).z ≤ 4 := pshZ_le hA.z
      refine g_aload_3 (pc := 55) C dX6_license_55 ?_
      refine g_iload_2 (pc := 56) C dX6_license_56 ?_
      refine g_puti (pc := 57) C pf_X6_license_60 kf dX6_license_57 ?_
      refine g_iload_4 (pc := 60) C dX6_license_60 ?_
      exact g_iret (post := fun r M1 P1 => r = (sLic A w x).1 ∧ JC M1 P1 (sLic A w x).2 ∧ FHi M P M1 P1) C F dX6_license_62 ⟨by rw [sLic, if_pos hi, if_pos (io (if0 c23)), hcl, if_neg (fun z => c38 z.symm)], by rw [sLic, if_pos hi, if_pos (io (if0 c23)), hcl, if_neg (fun z => c38 z.symm)]; exact (JC_now j1 hz1 pc1.p1 (Rp_ff is1 pc1.p1 hr1 ha (by decide)) (fun a ha => up_ne _ _ (by omega)) (fun _ _ => rfl)).1, fh1.trans (JC_now j1 hz1 pc1.p1 (Rp_ff is1 pc1.p1 hr1 ha (by decide)) (fun a ha => up_ne _ _ (by omega)) (fun _ _ => rfl)).2⟩
    · refine g_ldc (pc := 41) C k_X6_license_66 dX6_license_41 ?_
      exact g_iret (post := fun r M1 P1 => r = (sLic A w x).1 ∧ JC M1 P1 (sLic A w x).2 ∧ FHi M P M1 P1) C F dX6_license_43 ⟨by rw [sLic, if_pos hi, if_pos (io (if0 c23)), hcl, if_pos c38.symm], by rw [sLic, if_pos hi, if_pos (io (if0 c23)), hcl, if_pos c38.symm]; exact h, FHi.refl⟩
  · refine g_ldc (pc := 26) C k_X6_license_41 dX6_license_26 ?_
    exact g_iret (post := fun r M1 P1 => r = (sLic A w x).1 ∧ JC M1 P1 (sLic A w x).2 ∧ FHi M P M1 P1) C F dX6_license_28 ⟨by rw [sLic, if_pos hi, if_neg (oi (if1 c23))], by rw [sLic, if_pos hi, if_neg (oi (if1 c23))]; exact h, FHi.refl⟩

set_option maxRecDepth 100000 in
set_option maxHeartbeats 1000000 in
theorem c6_licenseN {l : Launch} {D : va_G} {cy : Nat → ClassId} {B : Nat} {M : MM} {P : PP} {w x : Int32} {A : AS} {c : Nat} (h : JC M P A) (hA : WA c A) (hi : ¬ isF w) : KI l D cy B yX6_license wsX6_license 4 89 [Value.ref (B + 0), Value.int w, Value.int x] M P (fun r M1 P1 => r = (sLic A w x).1 ∧ JC M1 P1 (sLic A w x).2 ∧ FHi M P M1 P1) := by
  refine met_KI (cc := cX6_license) (maxL := 5) (ret := (some .int)) (lv := [some (Value.ref (B + 0)), some (Value.int w), some (Value.int x), none, none]) (by decide) rfl rfl rfl (Nat.le_of_ble_eq_true rfl) ?_
  intro X C F
  have pc := h.1
  have hr := h.2.1
  have hw := hA.1
  have h6 := hw.m6
  have h30 := hw.s30
  
  refine g_aload_0 (pc := 0) C dX6_license_0 ?_
  refine g_getr (pc := 1) C pc.now fl_X6_license_10 kk0 dX6_license_1 ?_
  refine g_iload_1 (pc := 4) C dX6_license_4 ?_
  refine g_V1qn (pc := 5) C e_X6_license_56 (Nat.le_of_ble_eq_true rfl) rfl dX6_license_5 (kk_s0 is1) (c_farmerAtN is1 pc.p1 (isF_no hi)) ?_
  refine g_astoreZ_3 (pc := 8) C dX6_license_8 ?_
  refine g_aloadZ_3 (pc := 9) C dX6_license_9 ?_
  refine g_ifnonnullN (pc := 10) C dX6_license_10 ?_
  refine g_ldc (pc := 13) C k_X6_license_40 dX6_license_13 ?_
  exact g_iret (post := fun r M1 P1 => r = (sLic A w x).1 ∧ JC M1 P1 (sLic A w x).2 ∧ FHi M P M1 P1) C F dX6_license_15 ⟨by rw [sLic, if_neg hi], by rw [sLic, if_neg hi]; exact h, FHi.refl⟩

theorem c6_license {l : Launch} {D : va_G} {cy : Nat → ClassId} {B : Nat} {M : MM} {P : PP} {w x : Int32} {A : AS} {c : Nat} (h : JC M P A) (hA : WA c A) : KI l D cy B yX6_license wsX6_license 4 89 [Value.ref (B + 0), Value.int w, Value.int x] M P (fun r M1 P1 => r = (sLic A w x).1 ∧ JC M1 P1 (sLic A w x).2 ∧ FHi M P M1 P1) := by
  by_cases hi : isF w
  · obtain ⟨a, ha, hx, hcl⟩ := isF_of hi
    exact c6_licenseS h hA hi ha hx hcl
  · exact c6_licenseN h hA hi

set_option maxRecDepth 100000 in
set_option maxHeartbeats 1000000 in
theorem c6_rateS {l : Launch} {D : va_G} {cy : Nat → ClassId} {B : Nat} {M : MM} {P : PP} {m x : Int32} {A : AS} {c : Nat} (h : JC M P A) (hA : WA c A) (hi : isM A m) {b : Nat} (hb : b < mn A.f) (hy : m = nI b) (hcm : m.toNatClampNeg = b) : KI l D cy B yX6_setRate wsX6_setRate 4 89 [Value.ref (B + 0), Value.int m, Value.int x] M P (fun r M1 P1 => r = (sRate A m x).1 ∧ JC M1 P1 (sRate A m x).2 ∧ FHi M P M1 P1) := by
  refine met_KI (cc := cX6_setRate) (maxL := 5) (ret := (some .int)) (lv := [some (Value.ref (B + 0)), some (Value.int m), some (Value.int x), none, none]) (by decide) rfl rfl rfl (Nat.le_of_ble_eq_true rfl) ?_
  intro X C F
  have pc := h.1
  have hr := h.2.1
  have hw := hA.1
  have h6 := hw.m6
  have h30 := hw.s30
  have hm7 := hr.2.2.1 b hb (by omega)
  have km := kk_m is1 (i := b) (by omega)
  refine g_aload_0 (pc := 0) C dX6_setRate_0 ?_
  refine g_getr (pc := 1) C pc.now fl_X6_setRate_10 kk0 dX6_setRate_1 ?_
  refine g_iload_1 (pc := 4) C dX6_setRate_4 ?_
  refine g_V1qs (pc := 5) C e_X6_setRate_67 (Nat.le_of_ble_eq_true rfl) rfl dX6_setRate_5 (kk_s0 is1) (c_machineAt is1 pc.p1 hr hw hy hb) ?_
  refine g_astore_3 (pc := 8) C dX6_setRate_8 ?_
  refine g_aload_3 (pc := 9) C dX6_setRate_9 ?_
  refine g_ifnonnull (pc := 10) (tgt := 16) C dX6_setRate_10 (by decide) ?_
  refine g_iload_2 (pc := 16) C dX6_setRate_16 ?_
  refine g_iconst (pc := 17) (v := 1) C dX6_setRate_17 rfl ?_
  refine g_bipush (pc := 18) (v := 99) C dX6_setRate_18 rfl ?_
  refine g_S3ie (pc := 20) C e_X6_setRate_36 (Nat.le_of_ble_eq_true rfl) rfl dX6_setRate_20 (c_outside) ?_
  refine g_if_eq (pc := 23) (tgt := 29) C dX6_setRate_23 (by decide) (fun c23 => ?_) (fun c23 => ?_)
  · refine g_aload_3 (pc := 29) C dX6_setRate_29 ?_
    refine g_geti (pc := 30) C fl_X6_setRate_71 km dX6_setRate_30 ?_
    rw [hm7.2.1]
    refine g_istore_4 (pc := 33) C dX6_setRate_33 ?_
    refine g_iload_2 (pc := 35) C dX6_setRate_35 ?_
    refine g_iload_4 (pc := 36) C dX6_setRate_36 ?_
    refine g_icmp_ne (pc := 38) (tgt := 44) C dX6_setRate_38 (by decide) (fun c38 => ?_) (fun c38 => ?_)
    · refine g_aload_0 (pc := 44) C dX6_setRate_44 ?_
      refine g_getr (pc := 45) C pc.hist fl_X6_setRate_25 kk0 dX6_setRate_45 ?_
      refine g_aload_0 (pc := 48) C dX6_setRate_48 ?_
      refine g_getr (pc := 49) C pc.now fl_X6_setRate_10 kk0 dX6_setRate_49 ?_
      refine g_V1v (pc := 52) C e_X6_setRate_48 (Nat.le_of_ble_eq_true rfl) rfl dX6_setRate_52 kk157 (c_push is1 (by decide) pc.p1 hr hw pc.hh hA.z h.2.2.1) (fun M1 P1 hq => ?_)
      obtain ⟨j1, fh1⟩ := JC_push h hq
      have pc1 := j1.1
      have hr1 : Rp M1 P1 1 A.f := j1.2.1
      have hz1 : (psh A).z ≤ 4 := pshZ_le hA.z
      refine g_aload_3 (pc := 55) C dX6_setRate_55 ?_
      refine g_iload_2 (pc := 56) C dX6_setRate_56 ?_
      refine g_puti (pc := 57) C pf_X6_setRate_71 km dX6_setRate_57 ?_
      refine g_iload_4 (pc := 60) C dX6_setRate_60 ?_
      exact g_iret (post := fun r M1 P1 => r = (sRate A m x).1 ∧ JC M1 P1 (sRate A m x).2 ∧ FHi M P M1 P1) C F dX6_setRate_62 ⟨by rw [sRate, if_pos hi, if_pos (io (if0 c23)), hcm, if_neg (fun z => c38 z.symm)], by rw [sRate, if_pos hi, if_pos (io (if0 c23)), hcm, if_neg (fun z => c38 z.symm)]; exact (JC_now j1 hz1 pc1.p1 (Rp_mf is1 pc1.p1 hr1 (a := b) (by omega) (Or.inl ⟨rfl, rfl⟩)) (fun a ha => up_ne _ _ (by omega)) (fun _ _ => rfl)).1, fh1.trans (JC_now j1 hz1 pc1.p1 (Rp_mf is1 pc1.p1 hr1 (a := b) (by omega) (Or.inl ⟨rfl, rfl⟩)) (fun a ha => up_ne _ _ (by omega)) (fun _ _ => rfl)).2⟩
    · refine g_ldc (pc := 41) C k_X6_setRate_66 dX6_setRate_41 ?_
      exact g_iret (post := fun r M1 P1 => r = (sRate A m x).1 ∧ JC M1 P1 (sRate A m x).2 ∧ FHi M P M1 P1) C F dX6_setRate_43 ⟨by rw [sRate, if_pos hi, if_pos (io (if0 c23)), hcm, if_pos c38.symm], by rw [sRate, if_pos hi, if_pos (io (if0 c23)), hcm, if_pos c38.symm]; exact h, FHi.refl⟩
  · refine g_ldc (pc := 26) C k_X6_setRate_41 dX6_setRate_26 ?_
    exact g_iret (post := fun r M1 P1 => r = (sRate A m x).1 ∧ JC M1 P1 (sRate A m x).2 ∧ FHi M P M1 P1) C F dX6_setRate_28 ⟨by rw [sRate, if_pos hi, if_neg (oi (if1 c23))], by rw [sRate, if_pos hi, if_neg (oi (if1 c23))]; exact h, FHi.refl⟩

set_option maxRecDepth 100000 in
set_option maxHeartbeats 1000000 in
theorem c6_rateN {l : Launch} {D : va_G} {cy : Nat → ClassId} {B : Nat} {M : MM} {P : PP} {m x : Int32} {A : AS} {c : Nat} (h : JC M P A) (hA : WA c A) (hi : ¬ isM A m) : KI l D cy B yX6_setRate wsX6_setRate 4 89 [Value.ref (B + 0), Value.int m, Value.int x] M P (fun r M1 P1 => r = (sRate A m x).1 ∧ JC M1 P1 (sRate A m x).2 ∧ FHi M P M1 P1) := by
  refine met_KI (cc := cX6_setRate) (maxL := 5) (ret := (some .int)) (lv := [some (Value.ref (B + 0)), some (Value.int m), some (Value.int x), none, none]) (by decide) rfl rfl rfl (Nat.le_of_ble_eq_true rfl) ?_
  intro X C F
  have pc := h.1
  have hr := h.2.1
  have hw := hA.1
  have h6 := hw.m6
  have h30 := hw.s30
  
  refine g_aload_0 (pc := 0) C dX6_setRate_0 ?_
  refine g_getr (pc := 1) C pc.now fl_X6_setRate_10 kk0 dX6_setRate_1 ?_
  refine g_iload_1 (pc := 4) C dX6_setRate_4 ?_
  refine g_V1qn (pc := 5) C e_X6_setRate_67 (Nat.le_of_ble_eq_true rfl) rfl dX6_setRate_5 (kk_s0 is1) (c_machineAtN is1 pc.p1 hr hw (isM_no hA hi)) ?_
  refine g_astoreZ_3 (pc := 8) C dX6_setRate_8 ?_
  refine g_aloadZ_3 (pc := 9) C dX6_setRate_9 ?_
  refine g_ifnonnullN (pc := 10) C dX6_setRate_10 ?_
  refine g_ldc (pc := 13) C k_X6_setRate_40 dX6_setRate_13 ?_
  exact g_iret (post := fun r M1 P1 => r = (sRate A m x).1 ∧ JC M1 P1 (sRate A m x).2 ∧ FHi M P M1 P1) C F dX6_setRate_15 ⟨by rw [sRate, if_neg hi], by rw [sRate, if_neg hi]; exact h, FHi.refl⟩

theorem c6_rate {l : Launch} {D : va_G} {cy : Nat → ClassId} {B : Nat} {M : MM} {P : PP} {m x : Int32} {A : AS} {c : Nat} (h : JC M P A) (hA : WA c A) : KI l D cy B yX6_setRate wsX6_setRate 4 89 [Value.ref (B + 0), Value.int m, Value.int x] M P (fun r M1 P1 => r = (sRate A m x).1 ∧ JC M1 P1 (sRate A m x).2 ∧ FHi M P M1 P1) := by
  by_cases hi : isM A m
  · obtain ⟨b, hb, hy, hcm⟩ := isM_of hA hi
    exact c6_rateS h hA hi hb hy hcm
  · exact c6_rateN h hA hi

set_option maxRecDepth 100000 in
set_option maxHeartbeats 1000000 in
theorem c6_seed {l : Launch} {D : va_G} {cy : Nat → ClassId} {B : Nat} {M : MM} {P : PP} {x : Int32} {A : AS} {c : Nat} (h : JC M P A) (hA : WA c A) : KI l D cy B yX6_setSeed wsX6_setSeed 4 89 [Value.ref (B + 0), Value.int x] M P (fun r M1 P1 => r = (sSeed A x).1 ∧ JC M1 P1 (sSeed A x).2 ∧ FHi M P M1 P1) := by
  refine met_KI (cc := cX6_setSeed) (maxL := 3) (ret := (some .int)) (lv := [some (Value.ref (B + 0)), some (Value.int x), none]) (by decide) rfl rfl rfl (Nat.le_of_ble_eq_true rfl) ?_
  intro X C F
  have pc := h.1
  have hr := h.2.1
  have hw := hA.1
  have h6 := hw.m6
  have h30 := hw.s30
  
  refine g_iload_1 (pc := 0) C dX6_setSeed_0 ?_
  refine g_iconst (pc := 1) (v := 0) C dX6_setSeed_1 rfl ?_
  refine g_sipush (pc := 2) (v := 9999) C dX6_setSeed_2 rfl ?_
  refine g_S3ie (pc := 5) C e_X6_setSeed_36 (Nat.le_of_ble_eq_true rfl) rfl dX6_setSeed_5 (c_outside) ?_
  refine g_if_eq (pc := 8) (tgt := 14) C dX6_setSeed_8 (by decide) (fun c8 => ?_) (fun c8 => ?_)
  · refine g_aload_0 (pc := 14) C dX6_setSeed_14 ?_
    refine g_getr (pc := 15) C pc.now fl_X6_setSeed_10 kk0 dX6_setSeed_15 ?_
    refine g_geti (pc := 18) C fl_X6_setSeed_164 (kk_s0 is1) dX6_setSeed_18 ?_
    rw [hr.1.2.2.2.2.2.2.2.2.2.1]
    refine g_istore_2 (pc := 21) C dX6_setSeed_21 ?_
    refine g_iload_1 (pc := 22) C dX6_setSeed_22 ?_
    refine g_iload_2 (pc := 23) C dX6_setSeed_23 ?_
    refine g_icmp_ne (pc := 24) (tgt := 30) C dX6_setSeed_24 (by decide) (fun c24 => ?_) (fun c24 => ?_)
    · refine g_aload_0 (pc := 30) C dX6_setSeed_30 ?_
      refine g_getr (pc := 31) C pc.hist fl_X6_setSeed_25 kk0 dX6_setSeed_31 ?_
      refine g_aload_0 (pc := 34) C dX6_setSeed_34 ?_
      refine g_getr (pc := 35) C pc.now fl_X6_setSeed_10 kk0 dX6_setSeed_35 ?_
      refine g_V1v (pc := 38) C e_X6_setSeed_48 (Nat.le_of_ble_eq_true rfl) rfl dX6_setSeed_38 kk157 (c_push is1 (by decide) pc.p1 hr hw pc.hh hA.z h.2.2.1) (fun M1 P1 hq => ?_)
      obtain ⟨j1, fh1⟩ := JC_push h hq
      have pc1 := j1.1
      have hr1 : Rp M1 P1 1 A.f := j1.2.1
      have hz1 : (psh A).z ≤ 4 := pshZ_le hA.z
      refine g_aload_0 (pc := 41) C dX6_setSeed_41 ?_
      refine g_getr (pc := 42) C pc1.now fl_X6_setSeed_10 kk0 dX6_setSeed_42 ?_
      refine g_iload_1 (pc := 45) C dX6_setSeed_45 ?_
      refine g_puti (pc := 46) C pf_X6_setSeed_164 (kk_s0 is1) dX6_setSeed_46 ?_
      refine g_iload_2 (pc := 49) C dX6_setSeed_49 ?_
      exact g_iret (post := fun r M1 P1 => r = (sSeed A x).1 ∧ JC M1 P1 (sSeed A x).2 ∧ FHi M P M1 P1) C F dX6_setSeed_50 ⟨by rw [sSeed, if_pos (io (if0 c8)), if_neg (fun z => c24 z.symm)], by rw [sSeed, if_pos (io (if0 c8)), if_neg (fun z => c24 z.symm)]; exact (JC_now j1 hz1 pc1.p1 (Rp_sn is1 pc1.p1 hr1 (Or.inr (Or.inr (Or.inr (Or.inl ⟨rfl, rfl⟩))))) (fun a ha => up_ne _ _ (by omega)) (fun _ _ => rfl)).1, fh1.trans (JC_now j1 hz1 pc1.p1 (Rp_sn is1 pc1.p1 hr1 (Or.inr (Or.inr (Or.inr (Or.inl ⟨rfl, rfl⟩))))) (fun a ha => up_ne _ _ (by omega)) (fun _ _ => rfl)).2⟩
    · refine g_ldc (pc := 27) C k_X6_setSeed_66 dX6_setSeed_27 ?_
      exact g_iret (post := fun r M1 P1 => r = (sSeed A x).1 ∧ JC M1 P1 (sSeed A x).2 ∧ FHi M P M1 P1) C F dX6_setSeed_29 ⟨by rw [sSeed, if_pos (io (if0 c8)), if_pos c24.symm], by rw [sSeed, if_pos (io (if0 c8)), if_pos c24.symm]; exact h, FHi.refl⟩
  · refine g_ldc (pc := 11) C k_X6_setSeed_41 dX6_setSeed_11 ?_
    exact g_iret (post := fun r M1 P1 => r = (sSeed A x).1 ∧ JC M1 P1 (sSeed A x).2 ∧ FHi M P M1 P1) C F dX6_setSeed_13 ⟨by rw [sSeed, if_neg (oi (if1 c8))], by rw [sSeed, if_neg (oi (if1 c8))]; exact h, FHi.refl⟩

set_option maxRecDepth 100000 in
set_option maxHeartbeats 1000000 in
theorem c6_payS {l : Launch} {D : va_G} {cy : Nat → ClassId} {B : Nat} {M : MM} {P : PP} {w x : Int32} {A : AS} {c : Nat} (h : JC M P A) (hA : WA c A) (hi : isF w) {a : Nat} (ha : a < 6) (hx : w = nI a) (hcl : w.toNatClampNeg = a) : KI l D cy B yX6_pay wsX6_pay 4 89 [Value.ref (B + 0), Value.int w, Value.int x] M P (fun r M1 P1 => r = (sPay A w x).1 ∧ JC M1 P1 (sPay A w x).2 ∧ FHi M P M1 P1) := by
  refine met_KI (cc := cX6_pay) (maxL := 4) (ret := (some .int)) (lv := [some (Value.ref (B + 0)), some (Value.int w), some (Value.int x), none]) (by decide) rfl rfl rfl (Nat.le_of_ble_eq_true rfl) ?_
  intro X C F
  have pc := h.1
  have hr := h.2.1
  have hw := hA.1
  have h6 := hw.m6
  have h30 := hw.s30
  have hF := hr.2.1 a ha
  have kf := kk_f is1 ha
  refine g_aload_0 (pc := 0) C dX6_pay_0 ?_
  refine g_getr (pc := 1) C pc.now fl_X6_pay_10 kk0 dX6_pay_1 ?_
  refine g_iload_1 (pc := 4) C dX6_pay_4 ?_
  refine g_V1qs (pc := 5) C e_X6_pay_56 (Nat.le_of_ble_eq_true rfl) rfl dX6_pay_5 (kk_s0 is1) (c_farmerAt is1 pc.p1 hx ha) ?_
  refine g_astore_3 (pc := 8) C dX6_pay_8 ?_
  refine g_aload_3 (pc := 9) C dX6_pay_9 ?_
  refine g_ifnonnull (pc := 10) (tgt := 16) C dX6_pay_10 (by decide) ?_
  refine g_iload_2 (pc := 16) C dX6_pay_16 ?_
  refine g_iconst (pc := 17) (v := 1) C dX6_pay_17 rfl ?_
  refine g_sipush (pc := 18) (v := 9999) C dX6_pay_18 rfl ?_
  refine g_S3ie (pc := 21) C e_X6_pay_36 (Nat.le_of_ble_eq_true rfl) rfl dX6_pay_21 (c_outside) ?_
  refine g_if_eq (pc := 24) (tgt := 30) C dX6_pay_24 (by decide) (fun c24 => ?_) (fun c24 => ?_)
  · refine g_aload_0 (pc := 30) C dX6_pay_30 ?_
    refine g_getr (pc := 31) C pc.hist fl_X6_pay_25 kk0 dX6_pay_31 ?_
    refine g_aload_0 (pc := 34) C dX6_pay_34 ?_
    refine g_getr (pc := 35) C pc.now fl_X6_pay_10 kk0 dX6_pay_35 ?_
    refine g_V1v (pc := 38) C e_X6_pay_48 (Nat.le_of_ble_eq_true rfl) rfl dX6_pay_38 kk157 (c_push is1 (by decide) pc.p1 hr hw pc.hh hA.z h.2.2.1) (fun M1 P1 hq => ?_)
    obtain ⟨j1, fh1⟩ := JC_push h hq
    have pc1 := j1.1
    have hr1 : Rp M1 P1 1 A.f := j1.2.1
    have hz1 : (psh A).z ≤ 4 := pshZ_le hA.z
    refine g_aload_3 (pc := 41) C dX6_pay_41 ?_
    refine g_dup (pc := 42) C dX6_pay_42 rfl ?_
    refine g_geti (pc := 43) C fl_X6_pay_98 kf dX6_pay_43 ?_
    rw [hr1.2.1 a ha 0 (by decide)]
    refine g_iload_2 (pc := 46) C dX6_pay_46 ?_
    refine g_iadd (pc := 47) C dX6_pay_47 ?_
    refine g_puti (pc := 48) C pf_X6_pay_98 kf dX6_pay_48 ?_
    have g1 := Rp_ff is1 pc1.p1 hr1 ha (k := 0) (v := A.f (13 + 6 * a + 0) + x) (by decide)
    have e1 : ∀ o, o < 1 ∨ 53 ≤ o → up M1 (1 + 2 + a) (up (M1 (1 + 2 + a)) 0 (A.f (13 + 6 * a + 0) + x)) o = M1 o := fun o ho => up_ne _ _ (by omega)
    have e2 : up M1 (1 + 2 + a) (up (M1 (1 + 2 + a)) 0 (A.f (13 + 6 * a + 0) + x)) (1 + 2 + a) 0 = A.f (13 + 6 * a + 0) + x := by rw [up_same, up_same]
    generalize up M1 (1 + 2 + a) (up (M1 (1 + 2 + a)) 0 (A.f (13 + 6 * a + 0) + x)) = M2 at g1 e1 e2 ⊢
    refine g_aload_0 (pc := 51) C dX6_pay_51 ?_
    refine g_getr (pc := 52) C pc1.now fl_X6_pay_10 kk0 dX6_pay_52 ?_
    refine g_dup (pc := 55) C dX6_pay_55 rfl ?_
    refine g_geti (pc := 56) C fl_X6_pay_84 (kk_s0 is1) dX6_pay_56 ?_
    rw [g1.1.2.2.2.2.2.2.1, up_ne _ _ (show 4 ≠ 13 + 6 * a + 0 by omega)]
    refine g_iload_2 (pc := 59) C dX6_pay_59 ?_
    refine g_iadd (pc := 60) C dX6_pay_60 ?_
    refine g_puti (pc := 61) C pf_X6_pay_84 (kk_s0 is1) dX6_pay_61 ?_
    have g2 := Rp_sn is1 pc1.p1 g1 (sl := 9) (j := 4) (v := A.f 4 + x) (Or.inl ⟨rfl, rfl⟩)
    refine g_aload_0 (pc := 64) C dX6_pay_64 ?_
    refine g_getr (pc := 65) C pc1.now fl_X6_pay_10 kk0 dX6_pay_65 ?_
    refine g_dup (pc := 68) C dX6_pay_68 rfl ?_
    refine g_geti (pc := 69) C fl_X6_pay_101 (kk_s0 is1) dX6_pay_69 ?_
    rw [g2.1.2.2.2.2.2.2.2.2.2.2.2.2, up_ne _ _ (show 11 ≠ 4 by decide), up_ne _ _ (show 11 ≠ 13 + 6 * a + 0 by omega)]
    refine g_iload_2 (pc := 72) C dX6_pay_72 ?_
    refine g_iadd (pc := 73) C dX6_pay_73 ?_
    refine g_puti (pc := 74) C pf_X6_pay_101 (kk_s0 is1) dX6_pay_74 ?_
    have g3 := Rp_sn is1 pc1.p1 g2 (sl := 15) (j := 11) (v := A.f 11 + x) (Or.inr (Or.inr (Or.inr (Or.inr (Or.inr ⟨rfl, rfl⟩)))))
    refine g_aload_3 (pc := 77) C dX6_pay_77 ?_
    refine g_geti (pc := 78) C fl_X6_pay_98 kf dX6_pay_78 ?_
    rw [up_ne _ _ (show 1 + 2 + a ≠ 1 by omega), up_ne _ _ (show 1 + 2 + a ≠ 1 by omega), e2]
    exact g_iret (post := fun r M1 P1 => r = (sPay A w x).1 ∧ JC M1 P1 (sPay A w x).2 ∧ FHi M P M1 P1) C F dX6_pay_81 ⟨by rw [sPay, if_pos hi, if_pos (io (if0 c24)), hcl], by rw [sPay, if_pos hi, if_pos (io (if0 c24)), hcl]; exact (JC_now j1 hz1 pc1.p1 g3 (fun o ho => by rw [up_ne _ _ (by omega), up_ne _ _ (by omega)]; exact e1 o ho) (fun _ _ => rfl)).1, fh1.trans (JC_now j1 hz1 pc1.p1 g3 (fun o ho => by rw [up_ne _ _ (by omega), up_ne _ _ (by omega)]; exact e1 o ho) (fun _ _ => rfl)).2⟩
  · refine g_ldc (pc := 27) C k_X6_pay_41 dX6_pay_27 ?_
    exact g_iret (post := fun r M1 P1 => r = (sPay A w x).1 ∧ JC M1 P1 (sPay A w x).2 ∧ FHi M P M1 P1) C F dX6_pay_29 ⟨by rw [sPay, if_pos hi, if_neg (oi (if1 c24))], by rw [sPay, if_pos hi, if_neg (oi (if1 c24))]; exact h, FHi.refl⟩

set_option maxRecDepth 100000 in
set_option maxHeartbeats 1000000 in
theorem c6_payN {l : Launch} {D : va_G} {cy : Nat → ClassId} {B : Nat} {M : MM} {P : PP} {w x : Int32} {A : AS} {c : Nat} (h : JC M P A) (hA : WA c A) (hi : ¬ isF w) : KI l D cy B yX6_pay wsX6_pay 4 89 [Value.ref (B + 0), Value.int w, Value.int x] M P (fun r M1 P1 => r = (sPay A w x).1 ∧ JC M1 P1 (sPay A w x).2 ∧ FHi M P M1 P1) := by
  refine met_KI (cc := cX6_pay) (maxL := 4) (ret := (some .int)) (lv := [some (Value.ref (B + 0)), some (Value.int w), some (Value.int x), none]) (by decide) rfl rfl rfl (Nat.le_of_ble_eq_true rfl) ?_
  intro X C F
  have pc := h.1
  have hr := h.2.1
  have hw := hA.1
  have h6 := hw.m6
  have h30 := hw.s30
  
  refine g_aload_0 (pc := 0) C dX6_pay_0 ?_
  refine g_getr (pc := 1) C pc.now fl_X6_pay_10 kk0 dX6_pay_1 ?_
  refine g_iload_1 (pc := 4) C dX6_pay_4 ?_
  refine g_V1qn (pc := 5) C e_X6_pay_56 (Nat.le_of_ble_eq_true rfl) rfl dX6_pay_5 (kk_s0 is1) (c_farmerAtN is1 pc.p1 (isF_no hi)) ?_
  refine g_astoreZ_3 (pc := 8) C dX6_pay_8 ?_
  refine g_aloadZ_3 (pc := 9) C dX6_pay_9 ?_
  refine g_ifnonnullN (pc := 10) C dX6_pay_10 ?_
  refine g_ldc (pc := 13) C k_X6_pay_40 dX6_pay_13 ?_
  exact g_iret (post := fun r M1 P1 => r = (sPay A w x).1 ∧ JC M1 P1 (sPay A w x).2 ∧ FHi M P M1 P1) C F dX6_pay_15 ⟨by rw [sPay, if_neg hi], by rw [sPay, if_neg hi]; exact h, FHi.refl⟩

theorem c6_pay {l : Launch} {D : va_G} {cy : Nat → ClassId} {B : Nat} {M : MM} {P : PP} {w x : Int32} {A : AS} {c : Nat} (h : JC M P A) (hA : WA c A) : KI l D cy B yX6_pay wsX6_pay 4 89 [Value.ref (B + 0), Value.int w, Value.int x] M P (fun r M1 P1 => r = (sPay A w x).1 ∧ JC M1 P1 (sPay A w x).2 ∧ FHi M P M1 P1) := by
  by_cases hi : isF w
  · obtain ⟨a, ha, hx, hcl⟩ := isF_of hi
    exact c6_payS h hA hi ha hx hcl
  · exact c6_payN h hA hi

set_option maxRecDepth 100000 in
set_option maxHeartbeats 1000000 in
theorem c6_mendS {l : Launch} {D : va_G} {cy : Nat → ClassId} {B : Nat} {M : MM} {P : PP} {m : Int32} {A : AS} {c : Nat} (h : JC M P A) (hA : WA c A) (hi : isM A m) {b : Nat} (hb : b < mn A.f) (hy : m = nI b) (hcm : m.toNatClampNeg = b) : KI l D cy B yX6_mend wsX6_mend 4 89 [Value.ref (B + 0), Value.int m] M P (fun r M1 P1 => r = (sMend A m).1 ∧ JC M1 P1 (sMend A m).2 ∧ FHi M P M1 P1) := by
  refine met_KI (cc := cX6_mend) (maxL := 3) (ret := (some .int)) (lv := [some (Value.ref (B + 0)), some (Value.int m), none]) (by decide) rfl rfl rfl (Nat.le_of_ble_eq_true rfl) ?_
  intro X C F
  have pc := h.1
  have hr := h.2.1
  have hw := hA.1
  have h6 := hw.m6
  have h30 := hw.s30
  have hm7 := hr.2.2.1 b hb (by omega)
  have km := kk_m is1 (i := b) (by omega)
  refine g_aload_0 (pc := 0) C dX6_mend_0 ?_
  refine g_getr (pc := 1) C pc.now fl_X6_mend_10 kk0 dX6_mend_1 ?_
  refine g_iload_1 (pc := 4) C dX6_mend_4 ?_
  refine g_V1qs (pc := 5) C e_X6_mend_67 (Nat.le_of_ble_eq_true rfl) rfl dX6_mend_5 (kk_s0 is1) (c_machineAt is1 pc.p1 hr hw hy hb) ?_
  refine g_astore_2 (pc := 8) C dX6_mend_8 ?_
  refine g_aload_2 (pc := 9) C dX6_mend_9 ?_
  refine g_ifnonnull (pc := 10) (tgt := 16) C dX6_mend_10 (by decide) ?_
  refine g_aload_2 (pc := 16) C dX6_mend_16 ?_
  refine g_getz (pc := 17) C fl_X6_mend_90 km dX6_mend_17 ?_
  rw [hm7.2.2.2.2.1]
  refine g_if_ne (pc := 20) (tgt := 26) C dX6_mend_20 (by decide) (fun c20 => ?_) (fun c20 => ?_)
  · obtain ⟨x, hx1, hx2, hx⟩ := (hw.wm hb).broken c20
    refine g_aload_0 (pc := 26) C dX6_mend_26 ?_
    refine g_getr (pc := 27) C pc.hist fl_X6_mend_25 kk0 dX6_mend_27 ?_
    refine g_aload_0 (pc := 30) C dX6_mend_30 ?_
    refine g_getr (pc := 31) C pc.now fl_X6_mend_10 kk0 dX6_mend_31 ?_
    refine g_V1v (pc := 34) C e_X6_mend_48 (Nat.le_of_ble_eq_true rfl) rfl dX6_mend_34 kk157 (c_push is1 (by decide) pc.p1 hr hw pc.hh hA.z h.2.2.1) (fun M1 P1 hq => ?_)
    obtain ⟨j1, fh1⟩ := JC_push h hq
    have pc1 := j1.1
    have hr1 : Rp M1 P1 1 A.f := j1.2.1
    have hz1 : (psh A).z ≤ 4 := pshZ_le hA.z
    refine g_aload_0 (pc := 37) C dX6_mend_37 ?_
    refine g_getr (pc := 38) C pc1.now fl_X6_mend_10 kk0 dX6_mend_38 ?_
    refine g_aload_2 (pc := 41) C dX6_mend_41 ?_
    refine g_V1i (pc := 42) C e_X6_mend_94 (Nat.le_of_ble_eq_true rfl) rfl dX6_mend_42 (kk_s0 is1) (c_mendAndShare is1 pc1.p1 hr1 hw hb hx1 hx2 hx) (fun r M2 P2 hq2 => ?_)
    obtain ⟨q1, q2, q3, q4⟩ := hq2
    subst q1
    subst q2
    exact g_iret (post := fun r M1 P1 => r = (sMend A m).1 ∧ JC M1 P1 (sMend A m).2 ∧ FHi M P M1 P1) C F dX6_mend_45 ⟨by rw [sMend, if_pos hi, hcm, if_neg c20], by rw [sMend, if_pos hi, hcm, if_neg c20]; exact (JC_now j1 hz1 pc1.p1 q3 q4 (fun _ _ => rfl)).1, fh1.trans (JC_now j1 hz1 pc1.p1 q3 q4 (fun _ _ => rfl)).2⟩
  · refine g_ldc (pc := 23) C k_X6_mend_66 dX6_mend_23 ?_
    exact g_iret (post := fun r M1 P1 => r = (sMend A m).1 ∧ JC M1 P1 (sMend A m).2 ∧ FHi M P M1 P1) C F dX6_mend_25 ⟨by rw [sMend, if_pos hi, hcm, if_pos c20], by rw [sMend, if_pos hi, hcm, if_pos c20]; exact h, FHi.refl⟩

set_option maxRecDepth 100000 in
set_option maxHeartbeats 1000000 in
theorem c6_mendN {l : Launch} {D : va_G} {cy : Nat → ClassId} {B : Nat} {M : MM} {P : PP} {m : Int32} {A : AS} {c : Nat} (h : JC M P A) (hA : WA c A) (hi : ¬ isM A m) : KI l D cy B yX6_mend wsX6_mend 4 89 [Value.ref (B + 0), Value.int m] M P (fun r M1 P1 => r = (sMend A m).1 ∧ JC M1 P1 (sMend A m).2 ∧ FHi M P M1 P1) := by
  refine met_KI (cc := cX6_mend) (maxL := 3) (ret := (some .int)) (lv := [some (Value.ref (B + 0)), some (Value.int m), none]) (by decide) rfl rfl rfl (Nat.le_of_ble_eq_true rfl) ?_
  intro X C F
  have pc := h.1
  have hr := h.2.1
  have hw := hA.1
  have h6 := hw.m6
  have h30 := hw.s30
  
  refine g_aload_0 (pc := 0) C dX6_mend_0 ?_
  refine g_getr (pc := 1) C pc.now fl_X6_mend_10 kk0 dX6_mend_1 ?_
  refine g_iload_1 (pc := 4) C dX6_mend_4 ?_
  refine g_V1qn (pc := 5) C e_X6_mend_67 (Nat.le_of_ble_eq_true rfl) rfl dX6_mend_5 (kk_s0 is1) (c_machineAtN is1 pc.p1 hr hw (isM_no hA hi)) ?_
  refine g_astoreZ_2 (pc := 8) C dX6_mend_8 ?_
  refine g_aloadZ_2 (pc := 9) C dX6_mend_9 ?_
  refine g_ifnonnullN (pc := 10) C dX6_mend_10 ?_
  refine g_ldc (pc := 13) C k_X6_mend_40 dX6_mend_13 ?_
  exact g_iret (post := fun r M1 P1 => r = (sMend A m).1 ∧ JC M1 P1 (sMend A m).2 ∧ FHi M P M1 P1) C F dX6_mend_15 ⟨by rw [sMend, if_neg hi], by rw [sMend, if_neg hi]; exact h, FHi.refl⟩

theorem c6_mend {l : Launch} {D : va_G} {cy : Nat → ClassId} {B : Nat} {M : MM} {P : PP} {m : Int32} {A : AS} {c : Nat} (h : JC M P A) (hA : WA c A) : KI l D cy B yX6_mend wsX6_mend 4 89 [Value.ref (B + 0), Value.int m] M P (fun r M1 P1 => r = (sMend A m).1 ∧ JC M1 P1 (sMend A m).2 ∧ FHi M P M1 P1) := by
  by_cases hi : isM A m
  · obtain ⟨b, hb, hy, hcm⟩ := isM_of hA hi
    exact c6_mendS h hA hi hb hy hcm
  · exact c6_mendN h hA hi

set_option maxRecDepth 100000 in
set_option maxHeartbeats 1000000 in
theorem c6_book {l : Launch} {D : va_G} {cy : Nat → ClassId} {B : Nat} {M : MM} {P : PP} {w m i x : Int32} {A : AS} {c : Nat} (h : JC M P A) (hA : WA c A) : KI l D cy B yX6_book wsX6_book 4 89 [Value.ref (B + 0), Value.int w, Value.int m, Value.int i, Value.int x] M P (fun r M1 P1 => r = (sBook A w m i x).1 ∧ JC M1 P1 (sBook A w m i x).2 ∧ FHi M P M1 P1) := by
  refine met_KI (cc := cX6_book) (maxL := 6) (ret := (some .int)) (lv := [some (Value.ref (B + 0)), some (Value.int w), some (Value.int m), some (Value.int i), some (Value.int x), none]) (by decide) rfl rfl rfl (Nat.le_of_ble_eq_true rfl) ?_
  intro X C F
  have pc := h.1
  have hr := h.2.1
  have hw := hA.1
  have h6 := hw.m6
  have h30 := hw.s30
  
  refine g_aload_0 (pc := 0) C dX6_book_0 ?_
  refine g_getr (pc := 1) C pc.now fl_X6_book_10 kk0 dX6_book_1 ?_
  refine g_iload_1 (pc := 4) C dX6_book_4 ?_
  refine g_iload_2 (pc := 5) C dX6_book_5 ?_
  refine g_iload_3 (pc := 6) C dX6_book_6 ?_
  refine g_iload_4 (pc := 7) C dX6_book_7 ?_
  refine g_V4ie (pc := 9) C e_X6_book_104 (Nat.le_of_ble_eq_true rfl) rfl dX6_book_9 (kk_s0 is1) (c_whyNotBook is1 pc.p1 hr hw) ?_
  refine g_istore_5 (pc := 12) C dX6_book_12 ?_
  refine g_iload_5 (pc := 14) C dX6_book_14 ?_
  refine g_if_eq (pc := 16) (tgt := 22) C dX6_book_16 (by decide) (fun c16 => ?_) (fun c16 => ?_)
  · have hroom : sn A.f < 30 := by
      rcases Nat.lt_or_ge (sn A.f) 30 with z | z
      · exact z
      · exact absurd (by rw [hw.s, show sn A.f = 30 by omega]; rfl) (refI_room c16)
    refine g_aload_0 (pc := 22) C dX6_book_22 ?_
    refine g_getr (pc := 23) C pc.hist fl_X6_book_25 kk0 dX6_book_23 ?_
    refine g_aload_0 (pc := 26) C dX6_book_26 ?_
    refine g_getr (pc := 27) C pc.now fl_X6_book_10 kk0 dX6_book_27 ?_
    refine g_V1v (pc := 30) C e_X6_book_48 (Nat.le_of_ble_eq_true rfl) rfl dX6_book_30 kk157 (c_push is1 (by decide) pc.p1 hr hw pc.hh hA.z h.2.2.1) (fun M1 P1 hq => ?_)
    obtain ⟨j1, fh1⟩ := JC_push h hq
    have pc1 := j1.1
    have hr1 : Rp M1 P1 1 A.f := j1.2.1
    have hz1 : (psh A).z ≤ 4 := pshZ_le hA.z
    refine g_aload_0 (pc := 33) C dX6_book_33 ?_
    refine g_getr (pc := 34) C pc1.now fl_X6_book_10 kk0 dX6_book_34 ?_
    refine g_iload_1 (pc := 37) C dX6_book_37 ?_
    refine g_iload_2 (pc := 38) C dX6_book_38 ?_
    refine g_iload_3 (pc := 39) C dX6_book_39 ?_
    refine g_iload_4 (pc := 40) C dX6_book_40 ?_
    refine g_V4i (pc := 42) C e_X6_book_108 (Nat.le_of_ble_eq_true rfl) rfl dX6_book_42 (kk_s0 is1) (c_addBooking is1 pc1.p1 hr1 hw hroom) (fun r M2 P2 hq2 => ?_)
    obtain ⟨q1, q2, q3, q4⟩ := hq2
    subst q1
    subst q2
    exact g_iret (post := fun r M1 P1 => r = (sBook A w m i x).1 ∧ JC M1 P1 (sBook A w m i x).2 ∧ FHi M P M1 P1) C F dX6_book_45 ⟨by rw [sBook, if_pos c16], by rw [sBook, if_pos c16]; exact (JC_now j1 hz1 pc1.p1 q3 q4 (fun _ _ => rfl)).1, fh1.trans (JC_now j1 hz1 pc1.p1 q3 q4 (fun _ _ => rfl)).2⟩
  · refine g_iload_5 (pc := 19) C dX6_book_19 ?_
    exact g_iret (post := fun r M1 P1 => r = (sBook A w m i x).1 ∧ JC M1 P1 (sBook A w m i x).2 ∧ FHi M P M1 P1) C F dX6_book_21 ⟨by rw [sBook, if_neg c16], by rw [sBook, if_neg c16]; exact h, FHi.refl⟩

set_option maxRecDepth 100000 in
set_option maxHeartbeats 1000000 in
theorem c6_backN {l : Launch} {D : va_G} {cy : Nat → ClassId} {B : Nat} {M : MM} {P : PP} {b : Int32} {A : AS} {c : Nat} (h : JC M P A) (hA : WA c A) (hp : plO A.f b = none) : KI l D cy B yX6_takeBack wsX6_takeBack 4 89 [Value.ref (B + 0), Value.int b] M P (fun r M1 P1 => r = (sBack A b).1 ∧ JC M1 P1 (sBack A b).2 ∧ FHi M P M1 P1) := by
  refine met_KI (cc := cX6_takeBack) (maxL := 3) (ret := (some .int)) (lv := [some (Value.ref (B + 0)), some (Value.int b), none]) (by decide) rfl rfl rfl (Nat.le_of_ble_eq_true rfl) ?_
  intro X C F
  have pc := h.1
  have hr := h.2.1
  have hw := hA.1
  have h6 := hw.m6
  have h30 := hw.s30
  
  refine g_aload_0 (pc := 0) C dX6_takeBack_0 ?_
  refine g_getr (pc := 1) C pc.now fl_X6_takeBack_10 kk0 dX6_takeBack_1 ?_
  refine g_iload_1 (pc := 4) C dX6_takeBack_4 ?_
  refine g_V1ie (pc := 5) C e_X6_takeBack_142 (Nat.le_of_ble_eq_true rfl) rfl dX6_takeBack_5 (kk_s0 is1) (c_placeOf is1 pc.p1 hr hw) ?_
  rw [hp]
  refine g_istore_2 (pc := 8) C dX6_takeBack_8 ?_
  refine g_iload_2 (pc := 9) C dX6_takeBack_9 ?_
  refine g_if_ge (pc := 10) (tgt := 16) C dX6_takeBack_10 (by decide) (fun c10 => ?_) (fun c10 => ?_)
  · exact absurd c10 (by decide)
  · refine g_ldc (pc := 13) C k_X6_takeBack_40 dX6_takeBack_13 ?_
    exact g_iret (post := fun r M1 P1 => r = (sBack A b).1 ∧ JC M1 P1 (sBack A b).2 ∧ FHi M P M1 P1) C F dX6_takeBack_15 ⟨by rw [sBack, hp], by rw [sBack, hp]; exact h, FHi.refl⟩

set_option maxRecDepth 100000 in
set_option maxHeartbeats 1000000 in
theorem c6_backS {l : Launch} {D : va_G} {cy : Nat → ClassId} {B : Nat} {M : MM} {P : PP} {b : Int32} {A : AS} {c : Nat} (h : JC M P A) (hA : WA c A) {p : Nat} (hp : plO A.f b = some p) : KI l D cy B yX6_takeBack wsX6_takeBack 4 89 [Value.ref (B + 0), Value.int b] M P (fun r M1 P1 => r = (sBack A b).1 ∧ JC M1 P1 (sBack A b).2 ∧ FHi M P M1 P1) := by
  refine met_KI (cc := cX6_takeBack) (maxL := 3) (ret := (some .int)) (lv := [some (Value.ref (B + 0)), some (Value.int b), none]) (by decide) rfl rfl rfl (Nat.le_of_ble_eq_true rfl) ?_
  intro X C F
  have pc := h.1
  have hr := h.2.1
  have hw := hA.1
  have h6 := hw.m6
  have h30 := hw.s30
  have hpp := plO_lt hp
  refine g_aload_0 (pc := 0) C dX6_takeBack_0 ?_
  refine g_getr (pc := 1) C pc.now fl_X6_takeBack_10 kk0 dX6_takeBack_1 ?_
  refine g_iload_1 (pc := 4) C dX6_takeBack_4 ?_
  refine g_V1ie (pc := 5) C e_X6_takeBack_142 (Nat.le_of_ble_eq_true rfl) rfl dX6_takeBack_5 (kk_s0 is1) (c_placeOf is1 pc.p1 hr hw) ?_
  rw [hp]
  refine g_istore_2 (pc := 8) C dX6_takeBack_8 ?_
  refine g_iload_2 (pc := 9) C dX6_takeBack_9 ?_
  refine g_if_ge (pc := 10) (tgt := 16) C dX6_takeBack_10 (by decide) (fun c10 => ?_) (fun c10 => ?_)
  · refine g_aload_0 (pc := 16) C dX6_takeBack_16 ?_
    refine g_getr (pc := 17) C pc.hist fl_X6_takeBack_25 kk0 dX6_takeBack_17 ?_
    refine g_aload_0 (pc := 20) C dX6_takeBack_20 ?_
    refine g_getr (pc := 21) C pc.now fl_X6_takeBack_10 kk0 dX6_takeBack_21 ?_
    refine g_V1v (pc := 24) C e_X6_takeBack_48 (Nat.le_of_ble_eq_true rfl) rfl dX6_takeBack_24 kk157 (c_push is1 (by decide) pc.p1 hr hw pc.hh hA.z h.2.2.1) (fun M1 P1 hq => ?_)
    obtain ⟨j1, fh1⟩ := JC_push h hq
    have pc1 := j1.1
    have hr1 : Rp M1 P1 1 A.f := j1.2.1
    have hz1 : (psh A).z ≤ 4 := pshZ_le hA.z
    refine g_aload_0 (pc := 27) C dX6_takeBack_27 ?_
    refine g_getr (pc := 28) C pc1.now fl_X6_takeBack_10 kk0 dX6_takeBack_28 ?_
    refine g_iload_2 (pc := 31) C dX6_takeBack_31 ?_
    refine g_V1v (pc := 32) C e_X6_takeBack_145 (Nat.le_of_ble_eq_true rfl) rfl dX6_takeBack_32 (kk_s0 is1) (c_removeBookingAt is1 pc1.p1 hr1 (n := sn A.f - 1) (by rw [hw.s, show sn A.f - 1 + 1 = sn A.f by omega]) (by omega) rfl (by omega)) (fun M2 P2 hq2 => ?_)
    obtain ⟨q1, q2, q3, q4⟩ := hq2
    have j2 := JC_now j1 hz1 q1 q2 q3 q4
    have pc2 := j2.1.1
    refine g_aload_0 (pc := 35) C dX6_takeBack_35 ?_
    refine g_getr (pc := 36) C pc2.now fl_X6_takeBack_10 kk0 dX6_takeBack_36 ?_
    refine g_geti (pc := 39) C fl_X6_takeBack_149 (kk_s0 is1) dX6_takeBack_39 ?_
    rw [q2.1.2.1, show dropF A.f p (sn A.f - 1) 6 = nI (sn A.f - 1) from if_pos rfl]
    exact g_iret (post := fun r M1 P1 => r = (sBack A b).1 ∧ JC M1 P1 (sBack A b).2 ∧ FHi M P M1 P1) C F dX6_takeBack_42 ⟨by rw [sBack, hp], by rw [sBack, hp]; exact j2.1, fh1.trans j2.2⟩
  · exact absurd (Int32.not_le.mp c10) (nI_pos (by omega))

theorem c6_back {l : Launch} {D : va_G} {cy : Nat → ClassId} {B : Nat} {M : MM} {P : PP} {b : Int32} {A : AS} {c : Nat} (h : JC M P A) (hA : WA c A) : KI l D cy B yX6_takeBack wsX6_takeBack 4 89 [Value.ref (B + 0), Value.int b] M P (fun r M1 P1 => r = (sBack A b).1 ∧ JC M1 P1 (sBack A b).2 ∧ FHi M P M1 P1) := by
  cases hp : plO A.f b with
  | none => exact c6_backN h hA hp
  | some p => exact c6_backS h hA hp

theorem kc_le (f : FF) (k : Int32) : ∀ (n : Nat), kc f k n ≤ n
  | 0 => Nat.le_refl _
  | n + 1 => by
    simp only [kc]
    have := kc_le f k n
    split <;> omega

set_option maxRecDepth 100000 in
set_option maxHeartbeats 1000000 in
theorem c6_buy {l : Launch} {D : va_G} {cy : Nat → ClassId} {B : Nat} {M : MM} {P : PP} {x y g : Int32} {A : AS} {c : Nat} (h : JC M P A) (hA : WA c A) : KI l D cy B yX6_buy wsX6_buy 4 89 [Value.ref (B + 0), Value.int x, Value.int y, Value.int g] M P (fun r M1 P1 => r = (sBuy A x y g).1 ∧ JC M1 P1 (sBuy A x y g).2 ∧ FHi M P M1 P1) := by
  refine met_KI (cc := cX6_buy) (maxL := 4) (ret := (some .int)) (lv := [some (Value.ref (B + 0)), some (Value.int x), some (Value.int y), some (Value.int g)]) (by decide) rfl rfl rfl (Nat.le_of_ble_eq_true rfl) ?_
  intro X C F
  have pc := h.1
  have hr := h.2.1
  have hw := hA.1
  have h6 := hw.m6
  have h30 := hw.s30
  
  refine g_iload_2 (pc := 0) C dX6_buy_0 ?_
  refine g_iconst (pc := 1) (v := 0) C dX6_buy_1 rfl ?_
  refine g_iconst (pc := 2) (v := 2) C dX6_buy_2 rfl ?_
  refine g_S3ie (pc := 3) C e_X6_buy_36 (Nat.le_of_ble_eq_true rfl) rfl dX6_buy_3 (c_outside) ?_
  refine g_if_eq (pc := 6) (tgt := 12) C dX6_buy_6 (by decide) (fun c6 => ?_) (fun c6 => ?_)
  · refine g_iload_1 (pc := 12) C dX6_buy_12 ?_
    refine g_iconst (pc := 13) (v := 0) C dX6_buy_13 rfl ?_
    refine g_iconst (pc := 14) (v := 2) C dX6_buy_14 rfl ?_
    refine g_S3ie (pc := 15) C e_X6_buy_36 (Nat.le_of_ble_eq_true rfl) rfl dX6_buy_15 (c_outside) ?_
    refine g_if_ne (pc := 18) (tgt := 31) C dX6_buy_18 (by decide) (fun c18 => ?_) (fun c18 => ?_)
    · refine g_ldc (pc := 31) C k_X6_buy_41 dX6_buy_31 ?_
      exact g_iret (post := fun r M1 P1 => r = (sBuy A x y g).1 ∧ JC M1 P1 (sBuy A x y g).2 ∧ FHi M P M1 P1) C F dX6_buy_33 ⟨by rw [sBuy, if_pos (io (if0 c6)), if_neg (fun z => oi (if1 c18) z.1)], by rw [sBuy, if_pos (io (if0 c6)), if_neg (fun z => oi (if1 c18) z.1)]; exact h, FHi.refl⟩
    · refine g_iload_3 (pc := 21) C dX6_buy_21 ?_
      refine g_iconst (pc := 22) (v := 1) C dX6_buy_22 rfl ?_
      refine g_bipush (pc := 23) (v := 99) C dX6_buy_23 rfl ?_
      refine g_S3ie (pc := 25) C e_X6_buy_36 (Nat.le_of_ble_eq_true rfl) rfl dX6_buy_25 (c_outside) ?_
      refine g_if_eq (pc := 28) (tgt := 34) C dX6_buy_28 (by decide) (fun c28 => ?_) (fun c28 => ?_)
      · refine g_aload_0 (pc := 34) C dX6_buy_34 ?_
        refine g_getr (pc := 35) C pc.now fl_X6_buy_10 kk0 dX6_buy_35 ?_
        refine g_iload_2 (pc := 38) C dX6_buy_38 ?_
        refine g_V1ie (pc := 39) C e_X6_buy_42 (Nat.le_of_ble_eq_true rfl) rfl dX6_buy_39 (kk_s0 is1) (c_machinesIn is1 pc.p1 hr hw) ?_
        refine g_iconst (pc := 42) (v := 2) C dX6_buy_42 rfl ?_
        refine g_icmp_lt (pc := 43) (tgt := 49) C dX6_buy_43 (by decide) (fun c43 => ?_) (fun c43 => ?_)
        · have e6 := io (if0 c6)
          have e18 := io (if0 c18)
          have e28 := io (if0 c28)
          have hk2 : kc A.f y (mn A.f) < 2 := i_lt (b := 2) (by have := kc_le A.f y (mn A.f); omega) (by decide) c43
          refine g_iload_1 (pc := 49) C dX6_buy_49 ?_
          refine g_iload_2 (pc := 50) C dX6_buy_50 ?_
          refine g_icmp_eq (pc := 51) (tgt := 57) C dX6_buy_51 (by decide) (fun c51 => ?_) (fun c51 => ?_)
          · have hroom : mn A.f < 6 := by
              obtain ⟨k, hk, e⟩ := i_nat (x := y) (N := 3) (by decide) (Int32.not_lt.mpr e6.1) (fun z => absurd (Int32.le_trans z e6.2) (by decide))
              rw [e] at hk2
              exact kc_room hw hk hk2
            refine g_aload_0 (pc := 57) C dX6_buy_57 ?_
            refine g_getr (pc := 58) C pc.hist fl_X6_buy_25 kk0 dX6_buy_58 ?_
            refine g_aload_0 (pc := 61) C dX6_buy_61 ?_
            refine g_getr (pc := 62) C pc.now fl_X6_buy_10 kk0 dX6_buy_62 ?_
            refine g_V1v (pc := 65) C e_X6_buy_48 (Nat.le_of_ble_eq_true rfl) rfl dX6_buy_65 kk157 (c_push is1 (by decide) pc.p1 hr hw pc.hh hA.z h.2.2.1) (fun M1 P1 hq => ?_)
            obtain ⟨j1, fh1⟩ := JC_push h hq
            have pc1 := j1.1
            have hr1 : Rp M1 P1 1 A.f := j1.2.1
            have hz1 : (psh A).z ≤ 4 := pshZ_le hA.z
            refine g_aload_0 (pc := 68) C dX6_buy_68 ?_
            refine g_getr (pc := 69) C pc1.now fl_X6_buy_10 kk0 dX6_buy_69 ?_
            refine g_iload_1 (pc := 72) C dX6_buy_72 ?_
            refine g_iload_3 (pc := 73) C dX6_buy_73 ?_
            refine g_V2i (pc := 74) C e_X6_buy_52 (Nat.le_of_ble_eq_true rfl) rfl dX6_buy_74 (kk_s0 is1) (c_addMachine is1 pc1.p1 hr1 hw hroom) (fun v M2 P2 hq2 => ?_)
            obtain ⟨q1, q2, q3, q4⟩ := hq2
            subst q1
            subst q2
            exact g_iret (post := fun r M1 P1 => r = (sBuy A x y g).1 ∧ JC M1 P1 (sBuy A x y g).2 ∧ FHi M P M1 P1) C F dX6_buy_77 ⟨by rw [sBuy, if_pos e6, if_pos ⟨e18, e28⟩, if_pos hk2, if_pos c51], by rw [sBuy, if_pos e6, if_pos ⟨e18, e28⟩, if_pos hk2, if_pos c51]; exact (JC_now j1 hz1 pc1.p1 q3 q4 (fun _ _ => rfl)).1, fh1.trans (JC_now j1 hz1 pc1.p1 q3 q4 (fun _ _ => rfl)).2⟩
          · refine g_ldc (pc := 54) C k_X6_buy_47 dX6_buy_54 ?_
            exact g_iret (post := fun r M1 P1 => r = (sBuy A x y g).1 ∧ JC M1 P1 (sBuy A x y g).2 ∧ FHi M P M1 P1) C F dX6_buy_56 ⟨by rw [sBuy, if_pos e6, if_pos ⟨e18, e28⟩, if_pos hk2, if_neg c51], by rw [sBuy, if_pos e6, if_pos ⟨e18, e28⟩, if_pos hk2, if_neg c51]; exact h, FHi.refl⟩
        · have hk2 : ¬ kc A.f y (mn A.f) < 2 := fun z => c43 (nI_lt (b := 2) z (by decide))
          refine g_ldc (pc := 46) C k_X6_buy_46 dX6_buy_46 ?_
          exact g_iret (post := fun r M1 P1 => r = (sBuy A x y g).1 ∧ JC M1 P1 (sBuy A x y g).2 ∧ FHi M P M1 P1) C F dX6_buy_48 ⟨by rw [sBuy, if_pos (io (if0 c6)), if_pos ⟨io (if0 c18), io (if0 c28)⟩, if_neg hk2], by rw [sBuy, if_pos (io (if0 c6)), if_pos ⟨io (if0 c18), io (if0 c28)⟩, if_neg hk2]; exact h, FHi.refl⟩
      · refine g_ldc (pc := 31) C k_X6_buy_41 dX6_buy_31 ?_
        exact g_iret (post := fun r M1 P1 => r = (sBuy A x y g).1 ∧ JC M1 P1 (sBuy A x y g).2 ∧ FHi M P M1 P1) C F dX6_buy_33 ⟨by rw [sBuy, if_pos (io (if0 c6)), if_neg (fun z => oi (if1 c28) z.2)], by rw [sBuy, if_pos (io (if0 c6)), if_neg (fun z => oi (if1 c28) z.2)]; exact h, FHi.refl⟩
  · refine g_ldc (pc := 9) C k_X6_buy_40 dX6_buy_9 ?_
    exact g_iret (post := fun r M1 P1 => r = (sBuy A x y g).1 ∧ JC M1 P1 (sBuy A x y g).2 ∧ FHi M P M1 P1) C F dX6_buy_11 ⟨by rw [sBuy, if_neg (oi (if1 c6))], by rw [sBuy, if_neg (oi (if1 c6))]; exact h, FHi.refl⟩
