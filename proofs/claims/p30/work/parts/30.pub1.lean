/-! the answers -/
abbrev isF (w : Int32) : Prop := 0 ≤ w ∧ w ≤ 5
abbrev isM (A : AS) (x : Int32) : Prop := 0 ≤ x ∧ x ≤ A.f 12 - 1
theorem isF_of {w : Int32} (h : isF w) : ∃ a, a < 6 ∧ w = nI a ∧ w.toNatClampNeg = a := by
  obtain ⟨a, h1, h2⟩ := r_of (n := 6) (by decide) (by rw [← r5]; exact h)
  exact ⟨a, h1, h2, by rw [h2, nI_clamp (by omega)]⟩
theorem isF_no {w : Int32} (h : ¬ isF w) : ∀ a, a < 6 → w ≠ nI a := r_not (by decide) (by rw [← r5]; exact h)
theorem isM_of {A : AS} {c : Nat} (hA : WA c A) {w : Int32} (h : isM A w) : ∃ a, a < mn A.f ∧ w = nI a ∧ w.toNatClampNeg = a := by
  have h6 := hA.1.m6
  obtain ⟨a, h1, h2⟩ := r_of (n := mn A.f) (by omega) (by rw [← hA.1.m]; exact h)
  exact ⟨a, h1, h2, by rw [h2, nI_clamp (by omega)]⟩
theorem isM_no {A : AS} {c : Nat} (hA : WA c A) {w : Int32} (h : ¬ isM A w) : ∀ a, a < mn A.f → w ≠ nI a := r_not (by have := hA.1.m6; omega) (by rw [← hA.1.m]; exact h)
def aFarmer (A : AS) (w k : Int32) : Int32 := if isF w then (if k = 0 then A.f (13 + 6 * w.toNatClampNeg + 0) else if k = 1 then A.f (13 + 6 * w.toNatClampNeg + 1) else if k = 2 then A.f (13 + 6 * w.toNatClampNeg + 2) else if k = 3 then A.f (13 + 6 * w.toNatClampNeg + 3) else if k = 4 then st' A.f w (sn A.f) else if k = 5 then A.f (13 + 6 * w.toNatClampNeg + 4) else if k = 6 then A.f (13 + 6 * w.toNatClampNeg + 5) else -100000002) else -100000001
def aFuel (A : AS) (x : Int32) : UInt32 := if isM A x then (A.f (49 + 14 * x.toNatClampNeg + 6)).toUInt32 else 3212836864
def aHours (A : AS) (x w : Int32) : Int32 := if isM A x ∧ isF w then A.f (49 + 14 * x.toNatClampNeg + (8 + w.toNatClampNeg)) else -100000001
def aBooked (A : AS) (x d : Int32) : Int32 := if isM A x then (if 1 ≤ d ∧ d ≤ 99 then bkO A.f x (A.f 3 + d) else -100000002) else -100000001
def aWet (A : AS) (d : Int32) : Int32 := if 0 ≤ d ∧ d ≤ 99 then wet A.f (A.f 3 + d) else -100000002
def aMost (A : AS) (x : Int32) : Int32 := if isM A x then (bfm (fun j => A.f (49 + 14 * x.toNatClampNeg + (8 + j))) 6).1 else -100000001
def aCount (A : AS) (k : Int32) : Int32 := if k = 0 then A.f 3 else if k = 1 then seaI (A.f 3) else if k = 2 then A.f 12 else if k = 3 then A.f 6 else if k = 4 then A.f 5 else if k = 5 then A.f 7 else if k = 6 then A.f 8 else if k = 7 then A.f 4 else if k = 8 then ac A.f 6 else if k = 9 then A.f 0 else if k = 10 then A.f 1 else if k = 11 then A.f 2 else if k = 12 then br A.f (mn A.f) else if k = 13 then nI A.z else if k = 14 then nI A.len else if k = 15 then A.f 9 else if k = 16 then A.f 10 else if k = 17 then A.f 11 else -100000002
def aBooking (A : AS) (b k : Int32) : Int32 := match plO A.f b with
  | none => -100000001
  | some p => if k = 0 then A.f (133 + 6 * p + 1) else if k = 1 then A.f (133 + 6 * p + 2) else if k = 2 then A.f (133 + 6 * p + 3) else if k = 3 then A.f (133 + 6 * p + 4) else if k = 4 then A.f (133 + 6 * p + 5) else if k = 5 then chg (A.f (13 + 6 * wO A.f p + 1)) (A.f (49 + 14 * mO A.f p + 0)) (A.f (49 + 14 * mO A.f p + 1)) (A.f (133 + 6 * p + 3)) (A.f (133 + 6 * p + 4)) else -100000002
theorem bfm_congr {g g1 : FF} : ∀ {n : Nat}, (∀ j, j < n → g j = g1 j) → bfm g n = bfm g1 n
  | 0, _ => rfl
  | n + 1, h => by
    simp only [bfm]
    rw [bfm_congr (fun j hj => h j (by omega)), h n (Nat.lt_succ_self n)]
theorem pl_lt {f : FF} {b : Int32} : ∀ {n i p : Nat}, pl f b i n = some p → i ≤ p ∧ p < i + n
  | 0, _, _, h => by cases h
  | n + 1, i, p, h => by
    simp only [pl] at h
    split at h
    · cases h; omega
    · have := pl_lt h; omega
theorem plO_lt {f : FF} {b : Int32} {p : Nat} (h : plO f b = some p) : p < sn f := by have := pl_lt h; omega

set_option maxRecDepth 100000 in
set_option maxHeartbeats 1000000 in
theorem c6_farmerS {l : Launch} {D : va_G} {cy : Nat → ClassId} {B : Nat} {M : MM} {P : PP} {w k : Int32} {A : AS} {c : Nat} (h : JC M P A) (hA : WA c A) (hi : isF w) {a : Nat} (ha : a < 6) (hx : w = nI a) (hcl : w.toNatClampNeg = a) : KI l D cy B yX6_farmer wsX6_farmer 2 45 [Value.ref (B + 0), Value.int w, Value.int k] M P (qi (aFarmer A w k) M P) := by
  refine met_KI (cc := cX6_farmer) (maxL := 4) (ret := (some .int)) (lv := [some (Value.ref (B + 0)), some (Value.int w), some (Value.int k), none]) (by decide) rfl rfl rfl (Nat.le_of_ble_eq_true rfl) ?_
  intro X C F
  have pc := h.1
  have hr := h.2.1
  have hw := hA.1
  have h6 := hw.m6
  have h30 := hw.s30
  have hF := hr.2.1 a ha
  refine g_aload_0 (pc := 0) C dX6_farmer_0 ?_
  refine g_getr (pc := 1) C pc.now fl_X6_farmer_10 kk0 dX6_farmer_1 ?_
  refine g_iload_1 (pc := 4) C dX6_farmer_4 ?_
  refine g_V1qs (pc := 5) C e_X6_farmer_56 (Nat.le_of_ble_eq_true rfl) rfl dX6_farmer_5 (kk_s0 is1) (c_farmerAt is1 pc.p1 hx ha) ?_
  refine g_astore_3 (pc := 8) C dX6_farmer_8 ?_
  refine g_aload_3 (pc := 9) C dX6_farmer_9 ?_
  refine g_ifnonnull (pc := 10) (tgt := 16) C dX6_farmer_10 (by decide) ?_
  refine g_iload_2 (pc := 16) C dX6_farmer_16 ?_
  by_cases h17_0 : k = 0
  · refine g_tableIn (pc := 17) (tgt := 60) C dX6_farmer_17 (by rw [h17_0]; decide) (by rw [h17_0]; decide) (by rw [h17_0]; rfl) (by decide) ?_
    refine g_aload_3 (pc := 60) C dX6_farmer_60 ?_
    refine g_geti (pc := 61) C fl_X6_farmer_98 (kk_f is1 ha) dX6_farmer_61 ?_
    rw [hF 0 (by decide)]
    exact g_iret (post := qi (aFarmer A w k) M P) C F dX6_farmer_64 ⟨by rw [aFarmer, if_pos hi, hcl, if_pos h17_0], rfl, rfl⟩
  by_cases h17_1 : k = 1
  · refine g_tableIn (pc := 17) (tgt := 65) C dX6_farmer_17 (by rw [h17_1]; decide) (by rw [h17_1]; decide) (by rw [h17_1]; rfl) (by decide) ?_
    refine g_aload_3 (pc := 65) C dX6_farmer_65 ?_
    refine g_geti (pc := 66) C fl_X6_farmer_60 (kk_f is1 ha) dX6_farmer_66 ?_
    rw [hF 1 (by decide)]
    exact g_iret (post := qi (aFarmer A w k) M P) C F dX6_farmer_69 ⟨by rw [aFarmer, if_pos hi, hcl, if_neg (by rw [h17_1]; decide), if_pos h17_1], rfl, rfl⟩
  by_cases h17_2 : k = 2
  · refine g_tableIn (pc := 17) (tgt := 70) C dX6_farmer_17 (by rw [h17_2]; decide) (by rw [h17_2]; decide) (by rw [h17_2]; rfl) (by decide) ?_
    refine g_aload_3 (pc := 70) C dX6_farmer_70 ?_
    refine g_geti (pc := 71) C fl_X6_farmer_186 (kk_f is1 ha) dX6_farmer_71 ?_
    rw [hF 2 (by decide)]
    exact g_iret (post := qi (aFarmer A w k) M P) C F dX6_farmer_74 ⟨by rw [aFarmer, if_pos hi, hcl, if_neg (by rw [h17_2]; decide), if_neg (by rw [h17_2]; decide), if_pos h17_2], rfl, rfl⟩
  by_cases h17_3 : k = 3
  · refine g_tableIn (pc := 17) (tgt := 75) C dX6_farmer_17 (by rw [h17_3]; decide) (by rw [h17_3]; decide) (by rw [h17_3]; rfl) (by decide) ?_
    refine g_aload_3 (pc := 75) C dX6_farmer_75 ?_
    refine g_geti (pc := 76) C fl_X6_farmer_81 (kk_f is1 ha) dX6_farmer_76 ?_
    rw [hF 3 (by decide)]
    exact g_iret (post := qi (aFarmer A w k) M P) C F dX6_farmer_79 ⟨by rw [aFarmer, if_pos hi, hcl, if_neg (by rw [h17_3]; decide), if_neg (by rw [h17_3]; decide), if_neg (by rw [h17_3]; decide), if_pos h17_3], rfl, rfl⟩
  by_cases h17_4 : k = 4
  · refine g_tableIn (pc := 17) (tgt := 80) C dX6_farmer_17 (by rw [h17_4]; decide) (by rw [h17_4]; decide) (by rw [h17_4]; rfl) (by decide) ?_
    refine g_aload_0 (pc := 80) C dX6_farmer_80 ?_
    refine g_getr (pc := 81) C pc.now fl_X6_farmer_10 kk0 dX6_farmer_81 ?_
    refine g_iload_1 (pc := 84) C dX6_farmer_84 ?_
    refine g_V1ie (pc := 85) C e_X6_farmer_187 (Nat.le_of_ble_eq_true rfl) rfl dX6_farmer_85 (kk_s0 is1) (c_standingOf is1 pc.p1 hr hw) ?_
    exact g_iret (post := qi (aFarmer A w k) M P) C F dX6_farmer_88 ⟨by rw [aFarmer, if_pos hi, if_neg (by rw [h17_4]; decide), if_neg (by rw [h17_4]; decide), if_neg (by rw [h17_4]; decide), if_neg (by rw [h17_4]; decide), if_pos h17_4], rfl, rfl⟩
  by_cases h17_5 : k = 5
  · refine g_tableIn (pc := 17) (tgt := 89) C dX6_farmer_17 (by rw [h17_5]; decide) (by rw [h17_5]; decide) (by rw [h17_5]; rfl) (by decide) ?_
    refine g_aload_3 (pc := 89) C dX6_farmer_89 ?_
    refine g_geti (pc := 90) C fl_X6_farmer_190 (kk_f is1 ha) dX6_farmer_90 ?_
    rw [hF 4 (by decide)]
    exact g_iret (post := qi (aFarmer A w k) M P) C F dX6_farmer_93 ⟨by rw [aFarmer, if_pos hi, hcl, if_neg (by rw [h17_5]; decide), if_neg (by rw [h17_5]; decide), if_neg (by rw [h17_5]; decide), if_neg (by rw [h17_5]; decide), if_neg (by rw [h17_5]; decide), if_pos h17_5], rfl, rfl⟩
  by_cases h17_6 : k = 6
  · refine g_tableIn (pc := 17) (tgt := 94) C dX6_farmer_17 (by rw [h17_6]; decide) (by rw [h17_6]; decide) (by rw [h17_6]; rfl) (by decide) ?_
    refine g_aload_3 (pc := 94) C dX6_farmer_94 ?_
    refine g_geti (pc := 95) C fl_X6_farmer_193 (kk_f is1 ha) dX6_farmer_95 ?_
    rw [hF 5 (by decide)]
    exact g_iret (post := qi (aFarmer A w k) M P) C F dX6_farmer_98 ⟨by rw [aFarmer, if_pos hi, hcl, if_neg (by rw [h17_6]; decide), if_neg (by rw [h17_6]; decide), if_neg (by rw [h17_6]; decide), if_neg (by rw [h17_6]; decide), if_neg (by rw [h17_6]; decide), if_neg (by rw [h17_6]; decide), if_pos h17_6], rfl, rfl⟩
  have n17_0 := lv_neT h17_0 (a := 0) rfl
  have n17_1 := lv_neT h17_1 (a := 1) rfl
  have n17_2 := lv_neT h17_2 (a := 2) rfl
  have n17_3 := lv_neT h17_3 (a := 3) rfl
  have n17_4 := lv_neT h17_4 (a := 4) rfl
  have n17_5 := lv_neT h17_5 (a := 5) rfl
  have n17_6 := lv_neT h17_6 (a := 6) rfl
  refine g_tableOut (pc := 17) (tgt := 99) C dX6_farmer_17 (by omega) (by decide) ?_
  refine g_ldc (pc := 99) C k_X6_farmer_41 dX6_farmer_99 ?_
  exact g_iret (post := qi (aFarmer A w k) M P) C F dX6_farmer_101 ⟨by rw [aFarmer, if_pos hi, if_neg h17_0, if_neg h17_1, if_neg h17_2, if_neg h17_3, if_neg h17_4, if_neg h17_5, if_neg h17_6], rfl, rfl⟩

set_option maxRecDepth 100000 in
set_option maxHeartbeats 1000000 in
theorem c6_farmerN {l : Launch} {D : va_G} {cy : Nat → ClassId} {B : Nat} {M : MM} {P : PP} {w k : Int32} {A : AS} {c : Nat} (h : JC M P A) (hA : WA c A) (hn : ∀ i, i < 6 → w ≠ nI i) : KI l D cy B yX6_farmer wsX6_farmer 2 45 [Value.ref (B + 0), Value.int w, Value.int k] M P (qi (-100000001) M P) := by
  refine met_KI (cc := cX6_farmer) (maxL := 4) (ret := (some .int)) (lv := [some (Value.ref (B + 0)), some (Value.int w), some (Value.int k), none]) (by decide) rfl rfl rfl (Nat.le_of_ble_eq_true rfl) ?_
  intro X C F
  have pc := h.1
  have hr := h.2.1
  have hw := hA.1
  have h6 := hw.m6
  have h30 := hw.s30
  
  refine g_aload_0 (pc := 0) C dX6_farmer_0 ?_
  refine g_getr (pc := 1) C pc.now fl_X6_farmer_10 kk0 dX6_farmer_1 ?_
  refine g_iload_1 (pc := 4) C dX6_farmer_4 ?_
  refine g_V1qn (pc := 5) C e_X6_farmer_56 (Nat.le_of_ble_eq_true rfl) rfl dX6_farmer_5 (kk_s0 is1) (c_farmerAtN is1 pc.p1 hn) ?_
  refine g_astoreZ_3 (pc := 8) C dX6_farmer_8 ?_
  refine g_aloadZ_3 (pc := 9) C dX6_farmer_9 ?_
  refine g_ifnonnullN (pc := 10) C dX6_farmer_10 ?_
  refine g_ldc (pc := 13) C k_X6_farmer_40 dX6_farmer_13 ?_
  exact g_iret (post := qi (-100000001) M P) C F dX6_farmer_15 ⟨rfl, rfl, rfl⟩

theorem c6_farmer {l : Launch} {D : va_G} {cy : Nat → ClassId} {B : Nat} {M : MM} {P : PP} {w k : Int32} {A : AS} {c : Nat} (h : JC M P A) (hA : WA c A) : KI l D cy B yX6_farmer wsX6_farmer 2 45 [Value.ref (B + 0), Value.int w, Value.int k] M P (qi (aFarmer A w k) M P) := by
  by_cases hi : isF w
  · obtain ⟨a, ha, hx, hcl⟩ := isF_of hi
    exact c6_farmerS h hA hi ha hx hcl
  · rw [show aFarmer A w k = -100000001 from if_neg hi]
    exact c6_farmerN h hA (isF_no hi)

set_option maxRecDepth 100000 in
set_option maxHeartbeats 1000000 in
theorem c6_fuelS {l : Launch} {D : va_G} {cy : Nat → ClassId} {B : Nat} {M : MM} {P : PP} {x : Int32} {A : AS} {c : Nat} (h : JC M P A) (hA : WA c A) (hi : isM A x) {a : Nat} (ha : a < mn A.f) (hx : x = nI a) (hcl : x.toNatClampNeg = a) : KF l D cy B yX6_fuel wsX6_fuel 1 21 [Value.ref (B + 0), Value.int x] M P (qi (aFuel A x) M P) := by
  refine met_KF (cc := cX6_fuel) (maxL := 3) (ret := (some .float)) (lv := [some (Value.ref (B + 0)), some (Value.int x), none]) (by decide) rfl rfl rfl (Nat.le_of_ble_eq_true rfl) ?_
  intro X C F
  have pc := h.1
  have hr := h.2.1
  have hw := hA.1
  have h6 := hw.m6
  have h30 := hw.s30
  have hm7 := hr.2.2.1 a ha (by omega)
  have km := kk_m is1 (i := a) (by omega)
  have kh := kk_h is1 (i := a) (by omega)
  have lh := ln_h is1 (i := a) (by omega)
  have rh := pc.p1.rh (i := a) (by omega)
  refine g_aload_0 (pc := 0) C dX6_fuel_0 ?_
  refine g_getr (pc := 1) C pc.now fl_X6_fuel_10 kk0 dX6_fuel_1 ?_
  refine g_iload_1 (pc := 4) C dX6_fuel_4 ?_
  refine g_V1qs (pc := 5) C e_X6_fuel_67 (Nat.le_of_ble_eq_true rfl) rfl dX6_fuel_5 (kk_s0 is1) (c_machineAt is1 pc.p1 hr hw hx ha) ?_
  refine g_astore_2 (pc := 8) C dX6_fuel_8 ?_
  refine g_aload_2 (pc := 9) C dX6_fuel_9 ?_
  refine g_ifnonnull (pc := 10) (tgt := 18) C dX6_fuel_10 (by decide) ?_
  refine g_aload_2 (pc := 18) C dX6_fuel_18 ?_
  refine g_getf (pc := 19) C fl_X6_fuel_76 km dX6_fuel_19 ?_
  rw [hm7.2.2.2.1]
  exact g_fret (post := qi (aFuel A x) M P) C F dX6_fuel_22 ⟨by rw [aFuel, if_pos hi, hcl], rfl, rfl⟩

set_option maxRecDepth 100000 in
set_option maxHeartbeats 1000000 in
theorem c6_fuelN {l : Launch} {D : va_G} {cy : Nat → ClassId} {B : Nat} {M : MM} {P : PP} {x : Int32} {A : AS} {c : Nat} (h : JC M P A) (hA : WA c A) (hn : ∀ i, i < mn A.f → x ≠ nI i) : KF l D cy B yX6_fuel wsX6_fuel 1 21 [Value.ref (B + 0), Value.int x] M P (qi 3212836864 M P) := by
  refine met_KF (cc := cX6_fuel) (maxL := 3) (ret := (some .float)) (lv := [some (Value.ref (B + 0)), some (Value.int x), none]) (by decide) rfl rfl rfl (Nat.le_of_ble_eq_true rfl) ?_
  intro X C F
  have pc := h.1
  have hr := h.2.1
  have hw := hA.1
  have h6 := hw.m6
  have h30 := hw.s30
  
  refine g_aload_0 (pc := 0) C dX6_fuel_0 ?_
  refine g_getr (pc := 1) C pc.now fl_X6_fuel_10 kk0 dX6_fuel_1 ?_
  refine g_iload_1 (pc := 4) C dX6_fuel_4 ?_
  refine g_V1qn (pc := 5) C e_X6_fuel_67 (Nat.le_of_ble_eq_true rfl) rfl dX6_fuel_5 (kk_s0 is1) (c_machineAtN is1 pc.p1 hr hw hn) ?_
  refine g_astoreZ_2 (pc := 8) C dX6_fuel_8 ?_
  refine g_aloadZ_2 (pc := 9) C dX6_fuel_9 ?_
  refine g_ifnonnullN (pc := 10) C dX6_fuel_10 ?_
  refine g_ldcf (pc := 13) C k_X6_fuel_215 dX6_fuel_13 ?_
  refine g_goto (pc := 15) (tgt := 22) C dX6_fuel_15 (by decide) ?_
  exact g_fret (post := qi 3212836864 M P) C F dX6_fuel_22 ⟨rfl, rfl, rfl⟩

theorem c6_fuel {l : Launch} {D : va_G} {cy : Nat → ClassId} {B : Nat} {M : MM} {P : PP} {x : Int32} {A : AS} {c : Nat} (h : JC M P A) (hA : WA c A) : KF l D cy B yX6_fuel wsX6_fuel 1 21 [Value.ref (B + 0), Value.int x] M P (qi (aFuel A x) M P) := by
  by_cases hi : isM A x
  · obtain ⟨a, ha, hx, hcl⟩ := isM_of hA hi
    exact c6_fuelS h hA hi ha hx hcl
  · rw [show aFuel A x = 3212836864 from if_neg hi]
    exact c6_fuelN h hA (isM_no hA hi)

set_option maxRecDepth 100000 in
set_option maxHeartbeats 1000000 in
theorem c6_hoursS {l : Launch} {D : va_G} {cy : Nat → ClassId} {B : Nat} {M : MM} {P : PP} {x w : Int32} {A : AS} {c : Nat} (h : JC M P A) (hA : WA c A) (hi : isM A x) {a : Nat} (ha : a < mn A.f) (hx : x = nI a) (hcl : x.toNatClampNeg = a) (hf : isF w) {b : Nat} (hb : b < 6) (hy : w = nI b) (hcb : w.toNatClampNeg = b) : KI l D cy B yX6_hours wsX6_hours 1 22 [Value.ref (B + 0), Value.int x, Value.int w] M P (qi (aHours A x w) M P) := by
  refine met_KI (cc := cX6_hours) (maxL := 4) (ret := (some .int)) (lv := [some (Value.ref (B + 0)), some (Value.int x), some (Value.int w), none]) (by decide) rfl rfl rfl (Nat.le_of_ble_eq_true rfl) ?_
  intro X C F
  have pc := h.1
  have hr := h.2.1
  have hw := hA.1
  have h6 := hw.m6
  have h30 := hw.s30
  have hm7 := hr.2.2.1 a ha (by omega)
  have km := kk_m is1 (i := a) (by omega)
  have kh := kk_h is1 (i := a) (by omega)
  have lh := ln_h is1 (i := a) (by omega)
  have rh := pc.p1.rh (i := a) (by omega)
  refine g_aload_0 (pc := 0) C dX6_hours_0 ?_
  refine g_getr (pc := 1) C pc.now fl_X6_hours_10 kk0 dX6_hours_1 ?_
  refine g_iload_1 (pc := 4) C dX6_hours_4 ?_
  refine g_V1qs (pc := 5) C e_X6_hours_67 (Nat.le_of_ble_eq_true rfl) rfl dX6_hours_5 (kk_s0 is1) (c_machineAt is1 pc.p1 hr hw hx ha) ?_
  refine g_astore_3 (pc := 8) C dX6_hours_8 ?_
  refine g_aload_3 (pc := 9) C dX6_hours_9 ?_
  refine g_ifnull (pc := 10) C dX6_hours_10 ?_
  refine g_iload_2 (pc := 13) C dX6_hours_13 ?_
  refine g_iconst (pc := 14) (v := 0) C dX6_hours_14 rfl ?_
  refine g_iconst (pc := 15) (v := 5) C dX6_hours_15 rfl ?_
  refine g_S3ie (pc := 16) C e_X6_hours_36 (Nat.le_of_ble_eq_true rfl) rfl dX6_hours_16 (c_outside) ?_
  refine g_if_eq (pc := 19) (tgt := 25) C dX6_hours_19 (by decide) (fun c19 => ?_) (fun c19 => ?_)
  · refine g_aload_3 (pc := 25) C dX6_hours_25 ?_
    refine g_iload_2 (pc := 26) C dX6_hours_26 ?_
    refine g_V1ie (pc := 27) C e_X6_hours_216 (Nat.le_of_ble_eq_true rfl) rfl dX6_hours_27 km (c_hoursOf km kh lh rh hy hb) ?_
    exact g_iret (post := qi (aHours A x w) M P) C F dX6_hours_30 ⟨by rw [aHours, if_pos ⟨hi, hf⟩, hcl, hcb]; exact hm7.2.2.2.2.2.2.2 b hb, rfl, rfl⟩
  · exact absurd hf (oi (if1 c19))

set_option maxRecDepth 100000 in
set_option maxHeartbeats 1000000 in
theorem c6_hoursT {l : Launch} {D : va_G} {cy : Nat → ClassId} {B : Nat} {M : MM} {P : PP} {x w : Int32} {A : AS} {c : Nat} (h : JC M P A) (hA : WA c A) (hi : isM A x) {a : Nat} (ha : a < mn A.f) (hx : x = nI a) (hcl : x.toNatClampNeg = a) (hf : ¬ isF w) : KI l D cy B yX6_hours wsX6_hours 1 22 [Value.ref (B + 0), Value.int x, Value.int w] M P (qi (-100000001) M P) := by
  refine met_KI (cc := cX6_hours) (maxL := 4) (ret := (some .int)) (lv := [some (Value.ref (B + 0)), some (Value.int x), some (Value.int w), none]) (by decide) rfl rfl rfl (Nat.le_of_ble_eq_true rfl) ?_
  intro X C F
  have pc := h.1
  have hr := h.2.1
  have hw := hA.1
  have h6 := hw.m6
  have h30 := hw.s30
  have hm7 := hr.2.2.1 a ha (by omega)
  have km := kk_m is1 (i := a) (by omega)
  have kh := kk_h is1 (i := a) (by omega)
  have lh := ln_h is1 (i := a) (by omega)
  have rh := pc.p1.rh (i := a) (by omega)
  refine g_aload_0 (pc := 0) C dX6_hours_0 ?_
  refine g_getr (pc := 1) C pc.now fl_X6_hours_10 kk0 dX6_hours_1 ?_
  refine g_iload_1 (pc := 4) C dX6_hours_4 ?_
  refine g_V1qs (pc := 5) C e_X6_hours_67 (Nat.le_of_ble_eq_true rfl) rfl dX6_hours_5 (kk_s0 is1) (c_machineAt is1 pc.p1 hr hw hx ha) ?_
  refine g_astore_3 (pc := 8) C dX6_hours_8 ?_
  refine g_aload_3 (pc := 9) C dX6_hours_9 ?_
  refine g_ifnull (pc := 10) C dX6_hours_10 ?_
  refine g_iload_2 (pc := 13) C dX6_hours_13 ?_
  refine g_iconst (pc := 14) (v := 0) C dX6_hours_14 rfl ?_
  refine g_iconst (pc := 15) (v := 5) C dX6_hours_15 rfl ?_
  refine g_S3ie (pc := 16) C e_X6_hours_36 (Nat.le_of_ble_eq_true rfl) rfl dX6_hours_16 (c_outside) ?_
  refine g_if_eq (pc := 19) (tgt := 25) C dX6_hours_19 (by decide) (fun c19 => ?_) (fun c19 => ?_)
  · exact absurd (io (if0 c19)) hf
  · refine g_ldc (pc := 22) C k_X6_hours_40 dX6_hours_22 ?_
    exact g_iret (post := qi (-100000001) M P) C F dX6_hours_24 ⟨rfl, rfl, rfl⟩

set_option maxRecDepth 100000 in
set_option maxHeartbeats 1000000 in
theorem c6_hoursN {l : Launch} {D : va_G} {cy : Nat → ClassId} {B : Nat} {M : MM} {P : PP} {x w : Int32} {A : AS} {c : Nat} (h : JC M P A) (hA : WA c A) (hn : ∀ i, i < mn A.f → x ≠ nI i) : KI l D cy B yX6_hours wsX6_hours 1 22 [Value.ref (B + 0), Value.int x, Value.int w] M P (qi (-100000001) M P) := by
  refine met_KI (cc := cX6_hours) (maxL := 4) (ret := (some .int)) (lv := [some (Value.ref (B + 0)), some (Value.int x), some (Value.int w), none]) (by decide) rfl rfl rfl (Nat.le_of_ble_eq_true rfl) ?_
  intro X C F
  have pc := h.1
  have hr := h.2.1
  have hw := hA.1
  have h6 := hw.m6
  have h30 := hw.s30
  
  refine g_aload_0 (pc := 0) C dX6_hours_0 ?_
  refine g_getr (pc := 1) C pc.now fl_X6_hours_10 kk0 dX6_hours_1 ?_
  refine g_iload_1 (pc := 4) C dX6_hours_4 ?_
  refine g_V1qn (pc := 5) C e_X6_hours_67 (Nat.le_of_ble_eq_true rfl) rfl dX6_hours_5 (kk_s0 is1) (c_machineAtN is1 pc.p1 hr hw hn) ?_
  refine g_astoreZ_3 (pc := 8) C dX6_hours_8 ?_
  refine g_aloadZ_3 (pc := 9) C dX6_hours_9 ?_
  refine g_ifnullN (pc := 10) (tgt := 22) C dX6_hours_10 (by decide) ?_
  refine g_ldc (pc := 22) C k_X6_hours_40 dX6_hours_22 ?_
  exact g_iret (post := qi (-100000001) M P) C F dX6_hours_24 ⟨rfl, rfl, rfl⟩

theorem c6_hours {l : Launch} {D : va_G} {cy : Nat → ClassId} {B : Nat} {M : MM} {P : PP} {x w : Int32} {A : AS} {c : Nat} (h : JC M P A) (hA : WA c A) : KI l D cy B yX6_hours wsX6_hours 1 22 [Value.ref (B + 0), Value.int x, Value.int w] M P (qi (aHours A x w) M P) := by
  by_cases hi : isM A x
  · obtain ⟨a, ha, hx, hcl⟩ := isM_of hA hi
    by_cases hf : isF w
    · obtain ⟨b, hb, hy, hcb⟩ := isF_of hf
      exact c6_hoursS h hA hi ha hx hcl hf hb hy hcb
    · rw [show aHours A x w = -100000001 from if_neg (fun z => hf z.2)]
      exact c6_hoursT h hA hi ha hx hcl hf
  · rw [show aHours A x w = -100000001 from if_neg (fun z => hi z.1)]
    exact c6_hoursN h hA (isM_no hA hi)

set_option maxRecDepth 100000 in
set_option maxHeartbeats 1000000 in
theorem c6_bookedS {l : Launch} {D : va_G} {cy : Nat → ClassId} {B : Nat} {M : MM} {P : PP} {x d : Int32} {A : AS} {c : Nat} (h : JC M P A) (hA : WA c A) (hi : isM A x) {a : Nat} (ha : a < mn A.f) (hx : x = nI a) (hcl : x.toNatClampNeg = a) : KI l D cy B yX6_booked wsX6_booked 2 47 [Value.ref (B + 0), Value.int x, Value.int d] M P (qi (aBooked A x d) M P) := by
  refine met_KI (cc := cX6_booked) (maxL := 3) (ret := (some .int)) (lv := [some (Value.ref (B + 0)), some (Value.int x), some (Value.int d)]) (by decide) rfl rfl rfl (Nat.le_of_ble_eq_true rfl) ?_
  intro X C F
  have pc := h.1
  have hr := h.2.1
  have hw := hA.1
  have h6 := hw.m6
  have h30 := hw.s30
  have hm7 := hr.2.2.1 a ha (by omega)
  have km := kk_m is1 (i := a) (by omega)
  have kh := kk_h is1 (i := a) (by omega)
  have lh := ln_h is1 (i := a) (by omega)
  have rh := pc.p1.rh (i := a) (by omega)
  refine g_aload_0 (pc := 0) C dX6_booked_0 ?_
  refine g_getr (pc := 1) C pc.now fl_X6_booked_10 kk0 dX6_booked_1 ?_
  refine g_iload_1 (pc := 4) C dX6_booked_4 ?_
  refine g_V1qs (pc := 5) C e_X6_booked_67 (Nat.le_of_ble_eq_true rfl) rfl dX6_booked_5 (kk_s0 is1) (c_machineAt is1 pc.p1 hr hw hx ha) ?_
  refine g_ifnonnull (pc := 8) (tgt := 14) C dX6_booked_8 (by decide) ?_
  refine g_iload_2 (pc := 14) C dX6_booked_14 ?_
  refine g_iconst (pc := 15) (v := 1) C dX6_booked_15 rfl ?_
  refine g_bipush (pc := 16) (v := 99) C dX6_booked_16 rfl ?_
  refine g_S3ie (pc := 18) C e_X6_booked_36 (Nat.le_of_ble_eq_true rfl) rfl dX6_booked_18 (c_outside) ?_
  refine g_if_eq (pc := 21) (tgt := 27) C dX6_booked_21 (by decide) (fun c21 => ?_) (fun c21 => ?_)
  · refine g_aload_0 (pc := 27) C dX6_booked_27 ?_
    refine g_getr (pc := 28) C pc.now fl_X6_booked_10 kk0 dX6_booked_28 ?_
    refine g_iload_1 (pc := 31) C dX6_booked_31 ?_
    refine g_aload_0 (pc := 32) C dX6_booked_32 ?_
    refine g_getr (pc := 33) C pc.now fl_X6_booked_10 kk0 dX6_booked_33 ?_
    refine g_geti (pc := 36) C fl_X6_booked_183 (kk_s0 is1) dX6_booked_36 ?_
    rw [hr.1.2.2.1]
    refine g_iload_2 (pc := 39) C dX6_booked_39 ?_
    refine g_iadd (pc := 40) C dX6_booked_40 ?_
    refine g_V2ie (pc := 41) C e_X6_booked_236 (Nat.le_of_ble_eq_true rfl) rfl dX6_booked_41 (kk_s0 is1) (c_hoursOn is1 pc.p1 hr hw) ?_
    exact g_iret (post := qi (aBooked A x d) M P) C F dX6_booked_44 ⟨by rw [aBooked, if_pos hi, if_pos (io (if0 c21))], rfl, rfl⟩
  · refine g_ldc (pc := 24) C k_X6_booked_41 dX6_booked_24 ?_
    exact g_iret (post := qi (aBooked A x d) M P) C F dX6_booked_26 ⟨by rw [aBooked, if_pos hi, if_neg (oi (if1 c21))], rfl, rfl⟩

set_option maxRecDepth 100000 in
set_option maxHeartbeats 1000000 in
theorem c6_bookedN {l : Launch} {D : va_G} {cy : Nat → ClassId} {B : Nat} {M : MM} {P : PP} {x d : Int32} {A : AS} {c : Nat} (h : JC M P A) (hA : WA c A) (hn : ∀ i, i < mn A.f → x ≠ nI i) : KI l D cy B yX6_booked wsX6_booked 2 47 [Value.ref (B + 0), Value.int x, Value.int d] M P (qi (-100000001) M P) := by
  refine met_KI (cc := cX6_booked) (maxL := 3) (ret := (some .int)) (lv := [some (Value.ref (B + 0)), some (Value.int x), some (Value.int d)]) (by decide) rfl rfl rfl (Nat.le_of_ble_eq_true rfl) ?_
  intro X C F
  have pc := h.1
  have hr := h.2.1
  have hw := hA.1
  have h6 := hw.m6
  have h30 := hw.s30
  
  refine g_aload_0 (pc := 0) C dX6_booked_0 ?_
  refine g_getr (pc := 1) C pc.now fl_X6_booked_10 kk0 dX6_booked_1 ?_
  refine g_iload_1 (pc := 4) C dX6_booked_4 ?_
  refine g_V1qn (pc := 5) C e_X6_booked_67 (Nat.le_of_ble_eq_true rfl) rfl dX6_booked_5 (kk_s0 is1) (c_machineAtN is1 pc.p1 hr hw hn) ?_
  refine g_ifnonnullN (pc := 8) C dX6_booked_8 ?_
  refine g_ldc (pc := 11) C k_X6_booked_40 dX6_booked_11 ?_
  exact g_iret (post := qi (-100000001) M P) C F dX6_booked_13 ⟨rfl, rfl, rfl⟩

theorem c6_booked {l : Launch} {D : va_G} {cy : Nat → ClassId} {B : Nat} {M : MM} {P : PP} {x d : Int32} {A : AS} {c : Nat} (h : JC M P A) (hA : WA c A) : KI l D cy B yX6_booked wsX6_booked 2 47 [Value.ref (B + 0), Value.int x, Value.int d] M P (qi (aBooked A x d) M P) := by
  by_cases hi : isM A x
  · obtain ⟨a, ha, hx, hcl⟩ := isM_of hA hi
    exact c6_bookedS h hA hi ha hx hcl
  · rw [show aBooked A x d = -100000001 from if_neg hi]
    exact c6_bookedN h hA (isM_no hA hi)

set_option maxRecDepth 100000 in
set_option maxHeartbeats 1000000 in
theorem c6_count {l : Launch} {D : va_G} {cy : Nat → ClassId} {B : Nat} {M : MM} {P : PP} {k : Int32} {A : AS} {c : Nat} (h : JC M P A) (hA : WA c A) : KI l D cy B yX6_count wsX6_count 2 44 [Value.ref (B + 0), Value.int k] M P (qi (aCount A k) M P) := by
  refine met_KI (cc := cX6_count) (maxL := 2) (ret := (some .int)) (lv := [some (Value.ref (B + 0)), some (Value.int k)]) (by decide) rfl rfl rfl (Nat.le_of_ble_eq_true rfl) ?_
  intro X C F
  have pc := h.1
  have hr := h.2.1
  have hw := hA.1
  have h6 := hw.m6
  have h30 := hw.s30
  
  refine g_iload_1 (pc := 0) C dX6_count_0 ?_
  by_cases h1_0 : k = 0
  · refine g_tableIn (pc := 1) (tgt := 88) C dX6_count_1 (by rw [h1_0]; decide) (by rw [h1_0]; decide) (by rw [h1_0]; rfl) (by decide) ?_
    refine g_aload_0 (pc := 88) C dX6_count_88 ?_
    refine g_getr (pc := 89) C pc.now fl_X6_count_10 kk0 dX6_count_89 ?_
    refine g_geti (pc := 92) C fl_X6_count_183 (kk_s0 is1) dX6_count_92 ?_
    rw [hr.1.2.2.1]
    exact g_iret (post := qi (aCount A k) M P) C F dX6_count_95 ⟨by rw [aCount, if_pos h1_0], rfl, rfl⟩
  by_cases h1_1 : k = 1
  · refine g_tableIn (pc := 1) (tgt := 96) C dX6_count_1 (by rw [h1_1]; decide) (by rw [h1_1]; decide) (by rw [h1_1]; rfl) (by decide) ?_
    refine g_aload_0 (pc := 96) C dX6_count_96 ?_
    refine g_getr (pc := 97) C pc.now fl_X6_count_10 kk0 dX6_count_97 ?_
    refine g_geti (pc := 100) C fl_X6_count_183 (kk_s0 is1) dX6_count_100 ?_
    rw [hr.1.2.2.1]
    refine g_S1ie (pc := 103) C e_X6_count_250 (Nat.le_of_ble_eq_true rfl) rfl dX6_count_103 (c_seasonOf) ?_
    exact g_iret (post := qi (aCount A k) M P) C F dX6_count_106 ⟨by rw [aCount, if_neg (by rw [h1_1]; decide), if_pos h1_1], rfl, rfl⟩
  by_cases h1_2 : k = 2
  · refine g_tableIn (pc := 1) (tgt := 107) C dX6_count_1 (by rw [h1_2]; decide) (by rw [h1_2]; decide) (by rw [h1_2]; rfl) (by decide) ?_
    refine g_aload_0 (pc := 107) C dX6_count_107 ?_
    refine g_getr (pc := 108) C pc.now fl_X6_count_10 kk0 dX6_count_108 ?_
    refine g_geti (pc := 111) C fl_X6_count_253 (kk_s0 is1) dX6_count_111 ?_
    rw [hr.1.1]
    exact g_iret (post := qi (aCount A k) M P) C F dX6_count_114 ⟨by rw [aCount, if_neg (by rw [h1_2]; decide), if_neg (by rw [h1_2]; decide), if_pos h1_2], rfl, rfl⟩
  by_cases h1_3 : k = 3
  · refine g_tableIn (pc := 1) (tgt := 115) C dX6_count_1 (by rw [h1_3]; decide) (by rw [h1_3]; decide) (by rw [h1_3]; rfl) (by decide) ?_
    refine g_aload_0 (pc := 115) C dX6_count_115 ?_
    refine g_getr (pc := 116) C pc.now fl_X6_count_10 kk0 dX6_count_116 ?_
    refine g_geti (pc := 119) C fl_X6_count_149 (kk_s0 is1) dX6_count_119 ?_
    rw [hr.1.2.1]
    exact g_iret (post := qi (aCount A k) M P) C F dX6_count_122 ⟨by rw [aCount, if_neg (by rw [h1_3]; decide), if_neg (by rw [h1_3]; decide), if_neg (by rw [h1_3]; decide), if_pos h1_3], rfl, rfl⟩
  by_cases h1_4 : k = 4
  · refine g_tableIn (pc := 1) (tgt := 123) C dX6_count_1 (by rw [h1_4]; decide) (by rw [h1_4]; decide) (by rw [h1_4]; rfl) (by decide) ?_
    refine g_aload_0 (pc := 123) C dX6_count_123 ?_
    refine g_getr (pc := 124) C pc.now fl_X6_count_10 kk0 dX6_count_124 ?_
    refine g_geti (pc := 127) C fl_X6_count_256 (kk_s0 is1) dX6_count_127 ?_
    rw [hr.1.2.2.2.1]
    exact g_iret (post := qi (aCount A k) M P) C F dX6_count_130 ⟨by rw [aCount, if_neg (by rw [h1_4]; decide), if_neg (by rw [h1_4]; decide), if_neg (by rw [h1_4]; decide), if_neg (by rw [h1_4]; decide), if_pos h1_4], rfl, rfl⟩
  by_cases h1_5 : k = 5
  · refine g_tableIn (pc := 1) (tgt := 131) C dX6_count_1 (by rw [h1_5]; decide) (by rw [h1_5]; decide) (by rw [h1_5]; rfl) (by decide) ?_
    refine g_aload_0 (pc := 131) C dX6_count_131 ?_
    refine g_getr (pc := 132) C pc.now fl_X6_count_10 kk0 dX6_count_132 ?_
    refine g_geti (pc := 135) C fl_X6_count_152 (kk_s0 is1) dX6_count_135 ?_
    rw [hr.1.2.2.2.2.1]
    exact g_iret (post := qi (aCount A k) M P) C F dX6_count_138 ⟨by rw [aCount, if_neg (by rw [h1_5]; decide), if_neg (by rw [h1_5]; decide), if_neg (by rw [h1_5]; decide), if_neg (by rw [h1_5]; decide), if_neg (by rw [h1_5]; decide), if_pos h1_5], rfl, rfl⟩
  by_cases h1_6 : k = 6
  · refine g_tableIn (pc := 1) (tgt := 139) C dX6_count_1 (by rw [h1_6]; decide) (by rw [h1_6]; decide) (by rw [h1_6]; rfl) (by decide) ?_
    refine g_aload_0 (pc := 139) C dX6_count_139 ?_
    refine g_getr (pc := 140) C pc.now fl_X6_count_10 kk0 dX6_count_140 ?_
    refine g_geti (pc := 143) C fl_X6_count_259 (kk_s0 is1) dX6_count_143 ?_
    rw [hr.1.2.2.2.2.2.1]
    exact g_iret (post := qi (aCount A k) M P) C F dX6_count_146 ⟨by rw [aCount, if_neg (by rw [h1_6]; decide), if_neg (by rw [h1_6]; decide), if_neg (by rw [h1_6]; decide), if_neg (by rw [h1_6]; decide), if_neg (by rw [h1_6]; decide), if_neg (by rw [h1_6]; decide), if_pos h1_6], rfl, rfl⟩
  by_cases h1_7 : k = 7
  · refine g_tableIn (pc := 1) (tgt := 147) C dX6_count_1 (by rw [h1_7]; decide) (by rw [h1_7]; decide) (by rw [h1_7]; rfl) (by decide) ?_
    refine g_aload_0 (pc := 147) C dX6_count_147 ?_
    refine g_getr (pc := 148) C pc.now fl_X6_count_10 kk0 dX6_count_148 ?_
    refine g_geti (pc := 151) C fl_X6_count_84 (kk_s0 is1) dX6_count_151 ?_
    rw [hr.1.2.2.2.2.2.2.1]
    exact g_iret (post := qi (aCount A k) M P) C F dX6_count_154 ⟨by rw [aCount, if_neg (by rw [h1_7]; decide), if_neg (by rw [h1_7]; decide), if_neg (by rw [h1_7]; decide), if_neg (by rw [h1_7]; decide), if_neg (by rw [h1_7]; decide), if_neg (by rw [h1_7]; decide), if_neg (by rw [h1_7]; decide), if_pos h1_7], rfl, rfl⟩
  by_cases h1_8 : k = 8
  · refine g_tableIn (pc := 1) (tgt := 155) C dX6_count_1 (by rw [h1_8]; decide) (by rw [h1_8]; decide) (by rw [h1_8]; rfl) (by decide) ?_
    refine g_aload_0 (pc := 155) C dX6_count_155 ?_
    refine g_getr (pc := 156) C pc.now fl_X6_count_10 kk0 dX6_count_156 ?_
    refine g_V0ie (pc := 159) C e_X6_count_262 (Nat.le_of_ble_eq_true rfl) rfl dX6_count_159 (kk_s0 is1) (c_sumOfAccounts is1 pc.p1 hr hw) ?_
    exact g_iret (post := qi (aCount A k) M P) C F dX6_count_162 ⟨by rw [aCount, if_neg (by rw [h1_8]; decide), if_neg (by rw [h1_8]; decide), if_neg (by rw [h1_8]; decide), if_neg (by rw [h1_8]; decide), if_neg (by rw [h1_8]; decide), if_neg (by rw [h1_8]; decide), if_neg (by rw [h1_8]; decide), if_neg (by rw [h1_8]; decide), if_pos h1_8], rfl, rfl⟩
  by_cases h1_9 : k = 9
  · refine g_tableIn (pc := 1) (tgt := 163) C dX6_count_1 (by rw [h1_9]; decide) (by rw [h1_9]; decide) (by rw [h1_9]; rfl) (by decide) ?_
    refine g_aload_0 (pc := 163) C dX6_count_163 ?_
    refine g_getr (pc := 164) C pc.now fl_X6_count_10 kk0 dX6_count_164 ?_
    refine g_geti (pc := 167) C fl_X6_count_158 (kk_s0 is1) dX6_count_167 ?_
    rw [hr.1.2.2.2.2.2.2.2.1]
    exact g_iret (post := qi (aCount A k) M P) C F dX6_count_170 ⟨by rw [aCount, if_neg (by rw [h1_9]; decide), if_neg (by rw [h1_9]; decide), if_neg (by rw [h1_9]; decide), if_neg (by rw [h1_9]; decide), if_neg (by rw [h1_9]; decide), if_neg (by rw [h1_9]; decide), if_neg (by rw [h1_9]; decide), if_neg (by rw [h1_9]; decide), if_neg (by rw [h1_9]; decide), if_pos h1_9], rfl, rfl⟩
  by_cases h1_10 : k = 10
  · refine g_tableIn (pc := 1) (tgt := 171) C dX6_count_1 (by rw [h1_10]; decide) (by rw [h1_10]; decide) (by rw [h1_10]; rfl) (by decide) ?_
    refine g_aload_0 (pc := 171) C dX6_count_171 ?_
    refine g_getr (pc := 172) C pc.now fl_X6_count_10 kk0 dX6_count_172 ?_
    refine g_geti (pc := 175) C fl_X6_count_161 (kk_s0 is1) dX6_count_175 ?_
    rw [hr.1.2.2.2.2.2.2.2.2.1]
    exact g_iret (post := qi (aCount A k) M P) C F dX6_count_178 ⟨by rw [aCount, if_neg (by rw [h1_10]; decide), if_neg (by rw [h1_10]; decide), if_neg (by rw [h1_10]; decide), if_neg (by rw [h1_10]; decide), if_neg (by rw [h1_10]; decide), if_neg (by rw [h1_10]; decide), if_neg (by rw [h1_10]; decide), if_neg (by rw [h1_10]; decide), if_neg (by rw [h1_10]; decide), if_neg (by rw [h1_10]; decide), if_pos h1_10], rfl, rfl⟩
  by_cases h1_11 : k = 11
  · refine g_tableIn (pc := 1) (tgt := 179) C dX6_count_1 (by rw [h1_11]; decide) (by rw [h1_11]; decide) (by rw [h1_11]; rfl) (by decide) ?_
    refine g_aload_0 (pc := 179) C dX6_count_179 ?_
    refine g_getr (pc := 180) C pc.now fl_X6_count_10 kk0 dX6_count_180 ?_
    refine g_geti (pc := 183) C fl_X6_count_164 (kk_s0 is1) dX6_count_183 ?_
    rw [hr.1.2.2.2.2.2.2.2.2.2.1]
    exact g_iret (post := qi (aCount A k) M P) C F dX6_count_186 ⟨by rw [aCount, if_neg (by rw [h1_11]; decide), if_neg (by rw [h1_11]; decide), if_neg (by rw [h1_11]; decide), if_neg (by rw [h1_11]; decide), if_neg (by rw [h1_11]; decide), if_neg (by rw [h1_11]; decide), if_neg (by rw [h1_11]; decide), if_neg (by rw [h1_11]; decide), if_neg (by rw [h1_11]; decide), if_neg (by rw [h1_11]; decide), if_neg (by rw [h1_11]; decide), if_pos h1_11], rfl, rfl⟩
  by_cases h1_12 : k = 12
  · refine g_tableIn (pc := 1) (tgt := 187) C dX6_count_1 (by rw [h1_12]; decide) (by rw [h1_12]; decide) (by rw [h1_12]; rfl) (by decide) ?_
    refine g_aload_0 (pc := 187) C dX6_count_187 ?_
    refine g_getr (pc := 188) C pc.now fl_X6_count_10 kk0 dX6_count_188 ?_
    refine g_V0ie (pc := 191) C e_X6_count_265 (Nat.le_of_ble_eq_true rfl) rfl dX6_count_191 (kk_s0 is1) (c_brokenMachines is1 pc.p1 hr hw) ?_
    exact g_iret (post := qi (aCount A k) M P) C F dX6_count_194 ⟨by rw [aCount, if_neg (by rw [h1_12]; decide), if_neg (by rw [h1_12]; decide), if_neg (by rw [h1_12]; decide), if_neg (by rw [h1_12]; decide), if_neg (by rw [h1_12]; decide), if_neg (by rw [h1_12]; decide), if_neg (by rw [h1_12]; decide), if_neg (by rw [h1_12]; decide), if_neg (by rw [h1_12]; decide), if_neg (by rw [h1_12]; decide), if_neg (by rw [h1_12]; decide), if_neg (by rw [h1_12]; decide), if_pos h1_12], rfl, rfl⟩
  by_cases h1_13 : k = 13
  · refine g_tableIn (pc := 1) (tgt := 195) C dX6_count_1 (by rw [h1_13]; decide) (by rw [h1_13]; decide) (by rw [h1_13]; rfl) (by decide) ?_
    refine g_aload_0 (pc := 195) C dX6_count_195 ?_
    refine g_getr (pc := 196) C pc.hist fl_X6_count_25 kk0 dX6_count_196 ?_
    refine g_geti (pc := 199) C fl_X6_count_177 kk157 dX6_count_199 ?_
    rw [h.2.2.1.1]
    exact g_iret (post := qi (aCount A k) M P) C F dX6_count_202 ⟨by rw [aCount, if_neg (by rw [h1_13]; decide), if_neg (by rw [h1_13]; decide), if_neg (by rw [h1_13]; decide), if_neg (by rw [h1_13]; decide), if_neg (by rw [h1_13]; decide), if_neg (by rw [h1_13]; decide), if_neg (by rw [h1_13]; decide), if_neg (by rw [h1_13]; decide), if_neg (by rw [h1_13]; decide), if_neg (by rw [h1_13]; decide), if_neg (by rw [h1_13]; decide), if_neg (by rw [h1_13]; decide), if_neg (by rw [h1_13]; decide), if_pos h1_13], rfl, rfl⟩
  by_cases h1_14 : k = 14
  · refine g_tableIn (pc := 1) (tgt := 203) C dX6_count_1 (by rw [h1_14]; decide) (by rw [h1_14]; decide) (by rw [h1_14]; rfl) (by decide) ?_
    refine g_aload_0 (pc := 203) C dX6_count_203 ?_
    refine g_getr (pc := 204) C pc.text fl_X6_count_32 kk0 dX6_count_204 ?_
    refine g_geti (pc := 207) C fl_X6_count_170 kk367 dX6_count_207 ?_
    rw [h.2.2.2.2.2.1]
    exact g_iret (post := qi (aCount A k) M P) C F dX6_count_210 ⟨by rw [aCount, if_neg (by rw [h1_14]; decide), if_neg (by rw [h1_14]; decide), if_neg (by rw [h1_14]; decide), if_neg (by rw [h1_14]; decide), if_neg (by rw [h1_14]; decide), if_neg (by rw [h1_14]; decide), if_neg (by rw [h1_14]; decide), if_neg (by rw [h1_14]; decide), if_neg (by rw [h1_14]; decide), if_neg (by rw [h1_14]; decide), if_neg (by rw [h1_14]; decide), if_neg (by rw [h1_14]; decide), if_neg (by rw [h1_14]; decide), if_neg (by rw [h1_14]; decide), if_pos h1_14], rfl, rfl⟩
  by_cases h1_15 : k = 15
  · refine g_tableIn (pc := 1) (tgt := 211) C dX6_count_1 (by rw [h1_15]; decide) (by rw [h1_15]; decide) (by rw [h1_15]; rfl) (by decide) ?_
    refine g_aload_0 (pc := 211) C dX6_count_211 ?_
    refine g_getr (pc := 212) C pc.now fl_X6_count_10 kk0 dX6_count_212 ?_
    refine g_geti (pc := 215) C fl_X6_count_268 (kk_s0 is1) dX6_count_215 ?_
    rw [hr.1.2.2.2.2.2.2.2.2.2.2.1]
    exact g_iret (post := qi (aCount A k) M P) C F dX6_count_218 ⟨by rw [aCount, if_neg (by rw [h1_15]; decide), if_neg (by rw [h1_15]; decide), if_neg (by rw [h1_15]; decide), if_neg (by rw [h1_15]; decide), if_neg (by rw [h1_15]; decide), if_neg (by rw [h1_15]; decide), if_neg (by rw [h1_15]; decide), if_neg (by rw [h1_15]; decide), if_neg (by rw [h1_15]; decide), if_neg (by rw [h1_15]; decide), if_neg (by rw [h1_15]; decide), if_neg (by rw [h1_15]; decide), if_neg (by rw [h1_15]; decide), if_neg (by rw [h1_15]; decide), if_neg (by rw [h1_15]; decide), if_pos h1_15], rfl, rfl⟩
  by_cases h1_16 : k = 16
  · refine g_tableIn (pc := 1) (tgt := 219) C dX6_count_1 (by rw [h1_16]; decide) (by rw [h1_16]; decide) (by rw [h1_16]; rfl) (by decide) ?_
    refine g_aload_0 (pc := 219) C dX6_count_219 ?_
    refine g_getr (pc := 220) C pc.now fl_X6_count_10 kk0 dX6_count_220 ?_
    refine g_geti (pc := 223) C fl_X6_count_87 (kk_s0 is1) dX6_count_223 ?_
    rw [hr.1.2.2.2.2.2.2.2.2.2.2.2.1]
    exact g_iret (post := qi (aCount A k) M P) C F dX6_count_226 ⟨by rw [aCount, if_neg (by rw [h1_16]; decide), if_neg (by rw [h1_16]; decide), if_neg (by rw [h1_16]; decide), if_neg (by rw [h1_16]; decide), if_neg (by rw [h1_16]; decide), if_neg (by rw [h1_16]; decide), if_neg (by rw [h1_16]; decide), if_neg (by rw [h1_16]; decide), if_neg (by rw [h1_16]; decide), if_neg (by rw [h1_16]; decide), if_neg (by rw [h1_16]; decide), if_neg (by rw [h1_16]; decide), if_neg (by rw [h1_16]; decide), if_neg (by rw [h1_16]; decide), if_neg (by rw [h1_16]; decide), if_neg (by rw [h1_16]; decide), if_pos h1_16], rfl, rfl⟩
  by_cases h1_17 : k = 17
  · refine g_tableIn (pc := 1) (tgt := 227) C dX6_count_1 (by rw [h1_17]; decide) (by rw [h1_17]; decide) (by rw [h1_17]; rfl) (by decide) ?_
    refine g_aload_0 (pc := 227) C dX6_count_227 ?_
    refine g_getr (pc := 228) C pc.now fl_X6_count_10 kk0 dX6_count_228 ?_
    refine g_geti (pc := 231) C fl_X6_count_101 (kk_s0 is1) dX6_count_231 ?_
    rw [hr.1.2.2.2.2.2.2.2.2.2.2.2.2]
    exact g_iret (post := qi (aCount A k) M P) C F dX6_count_234 ⟨by rw [aCount, if_neg (by rw [h1_17]; decide), if_neg (by rw [h1_17]; decide), if_neg (by rw [h1_17]; decide), if_neg (by rw [h1_17]; decide), if_neg (by rw [h1_17]; decide), if_neg (by rw [h1_17]; decide), if_neg (by rw [h1_17]; decide), if_neg (by rw [h1_17]; decide), if_neg (by rw [h1_17]; decide), if_neg (by rw [h1_17]; decide), if_neg (by rw [h1_17]; decide), if_neg (by rw [h1_17]; decide), if_neg (by rw [h1_17]; decide), if_neg (by rw [h1_17]; decide), if_neg (by rw [h1_17]; decide), if_neg (by rw [h1_17]; decide), if_neg (by rw [h1_17]; decide), if_pos h1_17], rfl, rfl⟩
  have n1_0 := lv_neT h1_0 (a := 0) rfl
  have n1_1 := lv_neT h1_1 (a := 1) rfl
  have n1_2 := lv_neT h1_2 (a := 2) rfl
  have n1_3 := lv_neT h1_3 (a := 3) rfl
  have n1_4 := lv_neT h1_4 (a := 4) rfl
  have n1_5 := lv_neT h1_5 (a := 5) rfl
  have n1_6 := lv_neT h1_6 (a := 6) rfl
  have n1_7 := lv_neT h1_7 (a := 7) rfl
  have n1_8 := lv_neT h1_8 (a := 8) rfl
  have n1_9 := lv_neT h1_9 (a := 9) rfl
  have n1_10 := lv_neT h1_10 (a := 10) rfl
  have n1_11 := lv_neT h1_11 (a := 11) rfl
  have n1_12 := lv_neT h1_12 (a := 12) rfl
  have n1_13 := lv_neT h1_13 (a := 13) rfl
  have n1_14 := lv_neT h1_14 (a := 14) rfl
  have n1_15 := lv_neT h1_15 (a := 15) rfl
  have n1_16 := lv_neT h1_16 (a := 16) rfl
  have n1_17 := lv_neT h1_17 (a := 17) rfl
  refine g_tableOut (pc := 1) (tgt := 235) C dX6_count_1 (by omega) (by decide) ?_
  refine g_ldc (pc := 235) C k_X6_count_41 dX6_count_235 ?_
  exact g_iret (post := qi (aCount A k) M P) C F dX6_count_237 ⟨by rw [aCount, if_neg h1_0, if_neg h1_1, if_neg h1_2, if_neg h1_3, if_neg h1_4, if_neg h1_5, if_neg h1_6, if_neg h1_7, if_neg h1_8, if_neg h1_9, if_neg h1_10, if_neg h1_11, if_neg h1_12, if_neg h1_13, if_neg h1_14, if_neg h1_15, if_neg h1_16, if_neg h1_17], rfl, rfl⟩

set_option maxRecDepth 100000 in
set_option maxHeartbeats 1000000 in
theorem c6_bookingS {l : Launch} {D : va_G} {cy : Nat → ClassId} {B : Nat} {M : MM} {P : PP} {b k : Int32} {A : AS} {c : Nat} (h : JC M P A) (hA : WA c A) {p : Nat} (hp : plO A.f b = some p) : KI l D cy B yX6_booking wsX6_booking 2 45 [Value.ref (B + 0), Value.int b, Value.int k] M P (qi (aBooking A b k) M P) := by
  refine met_KI (cc := cX6_booking) (maxL := 4) (ret := (some .int)) (lv := [some (Value.ref (B + 0)), some (Value.int b), some (Value.int k), none]) (by decide) rfl rfl rfl (Nat.le_of_ble_eq_true rfl) ?_
  intro X C F
  have pc := h.1
  have hr := h.2.1
  have hw := hA.1
  have h6 := hw.m6
  have h30 := hw.s30
  have hpp := plO_lt hp
  obtain ⟨w1, w2⟩ := wO_eq hw hpp
  obtain ⟨m1, m2⟩ := mO_eq hw hpp
  have kb := pc.p1.kb is1 (i := p) (by omega)
  have hq := hr.2.2.2 p hpp (by omega)
  refine g_aload_0 (pc := 0) C dX6_booking_0 ?_
  refine g_getr (pc := 1) C pc.now fl_X6_booking_10 kk0 dX6_booking_1 ?_
  refine g_aload_0 (pc := 4) C dX6_booking_4 ?_
  refine g_getr (pc := 5) C pc.now fl_X6_booking_10 kk0 dX6_booking_5 ?_
  refine g_iload_1 (pc := 8) C dX6_booking_8 ?_
  refine g_V1ie (pc := 9) C e_X6_booking_142 (Nat.le_of_ble_eq_true rfl) rfl dX6_booking_9 (kk_s0 is1) (c_placeOf is1 pc.p1 hr hw) ?_
  rw [hp]
  refine g_V1qs (pc := 12) C e_X6_booking_219 (Nat.le_of_ble_eq_true rfl) rfl dX6_booking_12 (kk_s0 is1) (c_bookingAt is1 pc.p1 hr hw (i := p) rfl hpp) ?_
  refine g_astore_3 (pc := 15) C dX6_booking_15 ?_
  refine g_aload_3 (pc := 16) C dX6_booking_16 ?_
  refine g_ifnonnull (pc := 17) (tgt := 23) C dX6_booking_17 (by decide) ?_
  refine g_iload_2 (pc := 23) C dX6_booking_23 ?_
  by_cases h24_0 : k = 0
  · refine g_tableIn (pc := 24) (tgt := 64) C dX6_booking_24 (by rw [h24_0]; decide) (by rw [h24_0]; decide) (by rw [h24_0]; rfl) (by decide) ?_
    refine g_aload_3 (pc := 64) C dX6_booking_64 ?_
    refine g_geti (pc := 65) C fl_X6_booking_223 kb dX6_booking_65 ?_
    rw [hq 1 (by decide)]
    exact g_iret (post := qi (aBooking A b k) M P) C F dX6_booking_68 ⟨by rw [aBooking, hp]; simp only []; rw [if_pos h24_0], rfl, rfl⟩
  by_cases h24_1 : k = 1
  · refine g_tableIn (pc := 24) (tgt := 69) C dX6_booking_24 (by rw [h24_1]; decide) (by rw [h24_1]; decide) (by rw [h24_1]; rfl) (by decide) ?_
    refine g_aload_3 (pc := 69) C dX6_booking_69 ?_
    refine g_geti (pc := 70) C fl_X6_booking_226 kb dX6_booking_70 ?_
    rw [hq 2 (by decide)]
    exact g_iret (post := qi (aBooking A b k) M P) C F dX6_booking_73 ⟨by rw [aBooking, hp]; simp only []; rw [if_neg (by rw [h24_1]; decide), if_pos h24_1], rfl, rfl⟩
  by_cases h24_2 : k = 2
  · refine g_tableIn (pc := 24) (tgt := 74) C dX6_booking_24 (by rw [h24_2]; decide) (by rw [h24_2]; decide) (by rw [h24_2]; rfl) (by decide) ?_
    refine g_aload_3 (pc := 74) C dX6_booking_74 ?_
    refine g_geti (pc := 75) C fl_X6_booking_227 kb dX6_booking_75 ?_
    rw [hq 3 (by decide)]
    exact g_iret (post := qi (aBooking A b k) M P) C F dX6_booking_78 ⟨by rw [aBooking, hp]; simp only []; rw [if_neg (by rw [h24_2]; decide), if_neg (by rw [h24_2]; decide), if_pos h24_2], rfl, rfl⟩
  by_cases h24_3 : k = 3
  · refine g_tableIn (pc := 24) (tgt := 79) C dX6_booking_24 (by rw [h24_3]; decide) (by rw [h24_3]; decide) (by rw [h24_3]; rfl) (by decide) ?_
    refine g_aload_3 (pc := 79) C dX6_booking_79 ?_
    refine g_geti (pc := 80) C fl_X6_booking_228 kb dX6_booking_80 ?_
    rw [hq 4 (by decide)]
    exact g_iret (post := qi (aBooking A b k) M P) C F dX6_booking_83 ⟨by rw [aBooking, hp]; simp only []; rw [if_neg (by rw [h24_3]; decide), if_neg (by rw [h24_3]; decide), if_neg (by rw [h24_3]; decide), if_pos h24_3], rfl, rfl⟩
  by_cases h24_4 : k = 4
  · refine g_tableIn (pc := 24) (tgt := 84) C dX6_booking_24 (by rw [h24_4]; decide) (by rw [h24_4]; decide) (by rw [h24_4]; rfl) (by decide) ?_
    refine g_aload_3 (pc := 84) C dX6_booking_84 ?_
    refine g_geti (pc := 85) C fl_X6_booking_229 kb dX6_booking_85 ?_
    rw [hq 5 (by decide)]
    exact g_iret (post := qi (aBooking A b k) M P) C F dX6_booking_88 ⟨by rw [aBooking, hp]; simp only []; rw [if_neg (by rw [h24_4]; decide), if_neg (by rw [h24_4]; decide), if_neg (by rw [h24_4]; decide), if_neg (by rw [h24_4]; decide), if_pos h24_4], rfl, rfl⟩
  by_cases h24_5 : k = 5
  · refine g_tableIn (pc := 24) (tgt := 89) C dX6_booking_24 (by rw [h24_5]; decide) (by rw [h24_5]; decide) (by rw [h24_5]; rfl) (by decide) ?_
    refine g_aload_0 (pc := 89) C dX6_booking_89 ?_
    refine g_getr (pc := 90) C pc.now fl_X6_booking_10 kk0 dX6_booking_90 ?_
    refine g_aload_3 (pc := 93) C dX6_booking_93 ?_
    refine g_V1ie (pc := 94) C e_X6_booking_232 (Nat.le_of_ble_eq_true rfl) rfl dX6_booking_94 (kk_s0 is1) (c_chargeOf is1 pc.p1 hr hw hpp w1 w2 m1 m2) ?_
    exact g_iret (post := qi (aBooking A b k) M P) C F dX6_booking_97 ⟨by rw [aBooking, hp]; simp only []; rw [if_neg (by rw [h24_5]; decide), if_neg (by rw [h24_5]; decide), if_neg (by rw [h24_5]; decide), if_neg (by rw [h24_5]; decide), if_neg (by rw [h24_5]; decide), if_pos h24_5], rfl, rfl⟩
  have n24_0 := lv_neT h24_0 (a := 0) rfl
  have n24_1 := lv_neT h24_1 (a := 1) rfl
  have n24_2 := lv_neT h24_2 (a := 2) rfl
  have n24_3 := lv_neT h24_3 (a := 3) rfl
  have n24_4 := lv_neT h24_4 (a := 4) rfl
  have n24_5 := lv_neT h24_5 (a := 5) rfl
  refine g_tableOut (pc := 24) (tgt := 98) C dX6_booking_24 (by omega) (by decide) ?_
  refine g_ldc (pc := 98) C k_X6_booking_41 dX6_booking_98 ?_
  exact g_iret (post := qi (aBooking A b k) M P) C F dX6_booking_100 ⟨by rw [aBooking, hp]; simp only []; rw [if_neg h24_0, if_neg h24_1, if_neg h24_2, if_neg h24_3, if_neg h24_4, if_neg h24_5], rfl, rfl⟩

set_option maxRecDepth 100000 in
set_option maxHeartbeats 1000000 in
theorem c6_bookingN {l : Launch} {D : va_G} {cy : Nat → ClassId} {B : Nat} {M : MM} {P : PP} {b k : Int32} {A : AS} {c : Nat} (h : JC M P A) (hA : WA c A) (hp : plO A.f b = none) : KI l D cy B yX6_booking wsX6_booking 2 45 [Value.ref (B + 0), Value.int b, Value.int k] M P (qi (-100000001) M P) := by
  refine met_KI (cc := cX6_booking) (maxL := 4) (ret := (some .int)) (lv := [some (Value.ref (B + 0)), some (Value.int b), some (Value.int k), none]) (by decide) rfl rfl rfl (Nat.le_of_ble_eq_true rfl) ?_
  intro X C F
  have pc := h.1
  have hr := h.2.1
  have hw := hA.1
  have h6 := hw.m6
  have h30 := hw.s30
  
  refine g_aload_0 (pc := 0) C dX6_booking_0 ?_
  refine g_getr (pc := 1) C pc.now fl_X6_booking_10 kk0 dX6_booking_1 ?_
  refine g_aload_0 (pc := 4) C dX6_booking_4 ?_
  refine g_getr (pc := 5) C pc.now fl_X6_booking_10 kk0 dX6_booking_5 ?_
  refine g_iload_1 (pc := 8) C dX6_booking_8 ?_
  refine g_V1ie (pc := 9) C e_X6_booking_142 (Nat.le_of_ble_eq_true rfl) rfl dX6_booking_9 (kk_s0 is1) (c_placeOf is1 pc.p1 hr hw) ?_
  rw [hp]
  refine g_V1qn (pc := 12) C e_X6_booking_219 (Nat.le_of_ble_eq_true rfl) rfl dX6_booking_12 (kk_s0 is1) (c_bookingAtN is1 pc.p1 hr hw (x := -1) (fun i hi e => absurd (show (-1 : Int32) < 0 from by decide) (by rw [e]; exact nI_pos (by omega)))) ?_
  refine g_astoreZ_3 (pc := 15) C dX6_booking_15 ?_
  refine g_aloadZ_3 (pc := 16) C dX6_booking_16 ?_
  refine g_ifnonnullN (pc := 17) C dX6_booking_17 ?_
  refine g_ldc (pc := 20) C k_X6_booking_40 dX6_booking_20 ?_
  exact g_iret (post := qi (-100000001) M P) C F dX6_booking_22 ⟨rfl, rfl, rfl⟩

theorem c6_booking {l : Launch} {D : va_G} {cy : Nat → ClassId} {B : Nat} {M : MM} {P : PP} {b k : Int32} {A : AS} {c : Nat} (h : JC M P A) (hA : WA c A) : KI l D cy B yX6_booking wsX6_booking 2 45 [Value.ref (B + 0), Value.int b, Value.int k] M P (qi (aBooking A b k) M P) := by
  cases hp : plO A.f b with
  | none =>
    rw [show aBooking A b k = -100000001 by rw [aBooking, hp]]
    exact c6_bookingN h hA hp
  | some p => exact c6_bookingS h hA hp
