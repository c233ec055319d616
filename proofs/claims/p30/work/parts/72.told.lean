/-! what the law reads of a state, in one number -/
def fo (g : Nat → Int32) : Nat → Nat → Int64 → Int64
  | 0, _, h => h
  | n + 1, i, h => fo g n (i + 1) (31 * h + (g i).toInt64)
def fo2 (g : Nat → Nat → Int32) (m : Nat) : Nat → Nat → Int64 → Int64
  | 0, _, h => h
  | n + 1, k, h => fo2 g m n (k + 1) (fo (g k) m 0 h)
abbrev AF (f : FF) : AS := (f, 0, fun _ => f, 0, f, 0, f)
def T1 (f : FF) : Int64 := fo (fun i => aCount (AF f) (nI i)) 13 0 3
def T2 (f : FF) : Int64 := fo (fun i => aCount (AF f) (nI i)) 3 15 (T1 f)
def T3 (f : FF) : Int64 := fo2 (fun k e => aFarmer (AF f) (nI k) (nI e)) 7 6 0 (T2 f)
def T4 (f : FF) : Int64 := fo2 (fun k e => aMachine (AF f) (nI k) (nI e)) 8 (mn f) 0 (T3 f)
def T5 (f : FF) : Int64 := fo2 (fun k e => aBooking (AF f) (nI k) (nI e)) 6 (bn f) 0 (T4 f)
theorem aC_c {A : AS} {i : Nat} (h : i < 18) (h13 : i ≠ 13) (h14 : i ≠ 14) : aCount A (nI i) = aCount (AF A.f) (nI i) := by
  rcases (show i = 0 ∨ i = 1 ∨ i = 2 ∨ i = 3 ∨ i = 4 ∨ i = 5 ∨ i = 6 ∨ i = 7 ∨ i = 8 ∨ i = 9 ∨ i = 10 ∨ i = 11 ∨ i = 12 ∨ i = 15 ∨ i = 16 ∨ i = 17 by omega) with rfl | rfl | rfl | rfl | rfl | rfl | rfl | rfl | rfl | rfl | rfl | rfl | rfl | rfl | rfl | rfl <;> rfl
theorem aC0 {A : AS} : aCount A 0 = A.f 3 := by
  unfold aCount
  rw [if_pos rfl]
theorem aC2 {A : AS} : aCount A 2 = A.f 12 := by
  unfold aCount
  rw [if_neg (by decide), if_neg (by decide), if_pos rfl]
theorem aC3 {A : AS} : aCount A 3 = A.f 6 := by
  unfold aCount
  rw [if_neg (by decide), if_neg (by decide), if_neg (by decide), if_pos rfl]
theorem aC4 {A : AS} : aCount A 4 = A.f 5 := by
  unfold aCount
  rw [if_neg (by decide), if_neg (by decide), if_neg (by decide), if_neg (by decide), if_pos rfl]
theorem aC5 {A : AS} : aCount A 5 = A.f 7 := by
  unfold aCount
  rw [if_neg (by decide), if_neg (by decide), if_neg (by decide), if_neg (by decide), if_neg (by decide), if_pos rfl]
theorem aC7 {A : AS} : aCount A 7 = A.f 4 := by
  unfold aCount
  rw [if_neg (by decide), if_neg (by decide), if_neg (by decide), if_neg (by decide), if_neg (by decide), if_neg (by decide), if_neg (by decide), if_pos rfl]
theorem aC8 {A : AS} : aCount A 8 = ac A.f 6 := by
  unfold aCount
  rw [if_neg (by decide), if_neg (by decide), if_neg (by decide), if_neg (by decide), if_neg (by decide), if_neg (by decide), if_neg (by decide), if_neg (by decide), if_pos rfl]
theorem aC12 {A : AS} : aCount A 12 = br A.f (mn A.f) := by
  unfold aCount
  rw [if_neg (by decide), if_neg (by decide), if_neg (by decide), if_neg (by decide), if_neg (by decide), if_neg (by decide), if_neg (by decide), if_neg (by decide), if_neg (by decide), if_neg (by decide), if_neg (by decide), if_neg (by decide), if_pos rfl]
theorem aC13 {A : AS} : aCount A 13 = nI A.z := by
  unfold aCount
  rw [if_neg (by decide), if_neg (by decide), if_neg (by decide), if_neg (by decide), if_neg (by decide), if_neg (by decide), if_neg (by decide), if_neg (by decide), if_neg (by decide), if_neg (by decide), if_neg (by decide), if_neg (by decide), if_neg (by decide), if_pos rfl]
theorem aC15 {A : AS} : aCount A 15 = A.f 9 := by
  unfold aCount
  rw [if_neg (by decide), if_neg (by decide), if_neg (by decide), if_neg (by decide), if_neg (by decide), if_neg (by decide), if_neg (by decide), if_neg (by decide), if_neg (by decide), if_neg (by decide), if_neg (by decide), if_neg (by decide), if_neg (by decide), if_neg (by decide), if_neg (by decide), if_pos rfl]
theorem aC16 {A : AS} : aCount A 16 = A.f 10 := by
  unfold aCount
  rw [if_neg (by decide), if_neg (by decide), if_neg (by decide), if_neg (by decide), if_neg (by decide), if_neg (by decide), if_neg (by decide), if_neg (by decide), if_neg (by decide), if_neg (by decide), if_neg (by decide), if_neg (by decide), if_neg (by decide), if_neg (by decide), if_neg (by decide), if_neg (by decide), if_pos rfl]
theorem aC17 {A : AS} : aCount A 17 = A.f 11 := by
  unfold aCount
  rw [if_neg (by decide), if_neg (by decide), if_neg (by decide), if_neg (by decide), if_neg (by decide), if_neg (by decide), if_neg (by decide), if_neg (by decide), if_neg (by decide), if_neg (by decide), if_neg (by decide), if_neg (by decide), if_neg (by decide), if_neg (by decide), if_neg (by decide), if_neg (by decide), if_neg (by decide), if_pos rfl]
section TOLD
variable {X : GX} {l : Launch} {D : va_G} {cy : Nat → ClassId} {B : Nat} {M : MM} {P : PP} {A : AS} {c : Nat} {Q : Int64 → MM → PP → Prop}
set_option maxRecDepth 100000 in
set_option maxHeartbeats 1000000 in
theorem told_1 (C : Cx X D cy B cL_told 5 RL wsL_told l 3 68 0 0) (hj : JC M P A) (hA : WA c A) {e4 : Option Value} : ∀ (n i : Nat) (h : Int64), i + n = 13 → 0 ≤ i → G2 X D cy B 0 0 369 M P 31 [some (Value.ref (B + 0)), some (Value.long (fo (fun i => aCount (AF A.f) (nI i)) n i h)), none, some (Value.int (nI (13))), e4] [] → G2 X D cy B 0 0 369 M P 6 [some (Value.ref (B + 0)), some (Value.long (h)), none, some (Value.int (nI (i))), e4] []
  | 0, i, h, hi, h15, nx => by
    have ei : i = 13 := by omega
    subst ei
    refine h_iload_3 (pc := 6) C dL_told_6 ?_
    refine h_bipush (pc := 7) (v := 13) C dL_told_7 rfl ?_
    refine h_icmp_ge (pc := 9) (tgt := 31) C dL_told_9 (by decide) (fun c9 => ?_) (fun c9 => ?_)
    · exact nx
    · exact absurd (show (13 : Int32) ≤ nI 13 by decide) c9
  | n + 1, i, h, hi, h15, nx => by
    refine h_iload_3 (pc := 6) C dL_told_6 ?_
    refine h_bipush (pc := 7) (v := 13) C dL_told_7 rfl ?_
    refine h_icmp_ge (pc := 9) (tgt := 31) C dL_told_9 (by decide) (fun c9 => ?_) (fun c9 => ?_)
    · exact absurd c9 (nI_ge (b := 13) (by omega) (by decide))
    · refine h_ldc2 (pc := 12) (v := 31) C (List.mem_of_getElem? (i := 2) (by decide +kernel)) dL_told_12 ?_
      refine h_lload_1 (pc := 15) C dL_told_15 ?_
      refine h_lmul (pc := 16) C dL_told_16 ?_
      refine h_aload_0 (pc := 17) C dL_told_17 ?_
      refine h_iload_3 (pc := 18) C dL_told_18 ?_
      refine h_V1ie (pc := 19) C e_L_told_12 (Nat.le_of_ble_eq_true rfl) rfl dL_told_19 kk0 (c6_count hj hA) ?_
      rw [aC_c (by omega) (by omega) (by omega)]
      refine h_i2l (pc := 22) C dL_told_22 ?_
      refine h_ladd (pc := 23) C dL_told_23 ?_
      refine h_lstore_1 (pc := 24) C dL_told_24 (by rfl) ?_
      refine h_iinc_3 (pc := 25) (v := nI (i + 1)) C dL_told_25 (nI_1 i) (by rfl) ?_
      refine h_goto (pc := 28) (tgt := 6) C dL_told_28 (by decide) ?_
      exact told_1 C hj hA n (i + 1) _ (by omega) (by omega) nx
set_option maxRecDepth 100000 in
set_option maxHeartbeats 1000000 in
theorem told_2 (C : Cx X D cy B cL_told 5 RL wsL_told l 3 68 0 0) (hj : JC M P A) (hA : WA c A) {e4 : Option Value} : ∀ (n i : Nat) (h : Int64), i + n = 18 → 15 ≤ i → G2 X D cy B 0 0 369 M P 59 [some (Value.ref (B + 0)), some (Value.long (fo (fun i => aCount (AF A.f) (nI i)) n i h)), none, some (Value.int (nI (18))), e4] [] → G2 X D cy B 0 0 369 M P 34 [some (Value.ref (B + 0)), some (Value.long (h)), none, some (Value.int (nI (i))), e4] []
  | 0, i, h, hi, h15, nx => by
    have ei : i = 18 := by omega
    subst ei
    refine h_iload_3 (pc := 34) C dL_told_34 ?_
    refine h_bipush (pc := 35) (v := 18) C dL_told_35 rfl ?_
    refine h_icmp_ge (pc := 37) (tgt := 59) C dL_told_37 (by decide) (fun c37 => ?_) (fun c37 => ?_)
    · exact nx
    · exact absurd (show (18 : Int32) ≤ nI 18 by decide) c37
  | n + 1, i, h, hi, h15, nx => by
    refine h_iload_3 (pc := 34) C dL_told_34 ?_
    refine h_bipush (pc := 35) (v := 18) C dL_told_35 rfl ?_
    refine h_icmp_ge (pc := 37) (tgt := 59) C dL_told_37 (by decide) (fun c37 => ?_) (fun c37 => ?_)
    · exact absurd c37 (nI_ge (b := 18) (by omega) (by decide))
    · refine h_ldc2 (pc := 40) (v := 31) C (List.mem_of_getElem? (i := 2) (by decide +kernel)) dL_told_40 ?_
      refine h_lload_1 (pc := 43) C dL_told_43 ?_
      refine h_lmul (pc := 44) C dL_told_44 ?_
      refine h_aload_0 (pc := 45) C dL_told_45 ?_
      refine h_iload_3 (pc := 46) C dL_told_46 ?_
      refine h_V1ie (pc := 47) C e_L_told_12 (Nat.le_of_ble_eq_true rfl) rfl dL_told_47 kk0 (c6_count hj hA) ?_
      rw [aC_c (by omega) (by omega) (by omega)]
      refine h_i2l (pc := 50) C dL_told_50 ?_
      refine h_ladd (pc := 51) C dL_told_51 ?_
      refine h_lstore_1 (pc := 52) C dL_told_52 (by rfl) ?_
      refine h_iinc_3 (pc := 53) (v := nI (i + 1)) C dL_told_53 (nI_1 i) (by rfl) ?_
      refine h_goto (pc := 56) (tgt := 34) C dL_told_56 (by decide) ?_
      exact told_2 C hj hA n (i + 1) _ (by omega) (by omega) nx
set_option maxRecDepth 100000 in
set_option maxHeartbeats 1000000 in
theorem told_f (C : Cx X D cy B cL_told 5 RL wsL_told l 3 68 0 0) (hj : JC M P A) (hA : WA c A) {k : Nat} : ∀ (n e : Nat) (h : Int64), e + n = 7 → G2 X D cy B 0 0 369 M P 98 [some (Value.ref (B + 0)), some (Value.long (fo (fun e => aFarmer (AF A.f) (nI k) (nI e)) n e h)), none, some (Value.int (nI (k))), some (Value.int (nI (7)))] [] → G2 X D cy B 0 0 369 M P 70 [some (Value.ref (B + 0)), some (Value.long (h)), none, some (Value.int (nI (k))), some (Value.int (nI (e)))] []
  | 0, e, h, hi, nx => by
    have ei : e = 7 := by omega
    subst ei
    refine h_iload_4 (pc := 70) C dL_told_70 ?_
    refine h_bipush (pc := 72) (v := 7) C dL_told_72 rfl ?_
    refine h_icmp_ge (pc := 74) (tgt := 98) C dL_told_74 (by decide) (fun c74 => ?_) (fun c74 => ?_)
    · exact nx
    · exact absurd (show (7 : Int32) ≤ nI 7 by decide) c74
  | n + 1, e, h, hi, nx => by
    refine h_iload_4 (pc := 70) C dL_told_70 ?_
    refine h_bipush (pc := 72) (v := 7) C dL_told_72 rfl ?_
    refine h_icmp_ge (pc := 74) (tgt := 98) C dL_told_74 (by decide) (fun c74 => ?_) (fun c74 => ?_)
    · exact absurd c74 (nI_ge (b := 7) (by omega) (by decide))
    · refine h_ldc2 (pc := 77) (v := 31) C (List.mem_of_getElem? (i := 2) (by decide +kernel)) dL_told_77 ?_
      refine h_lload_1 (pc := 80) C dL_told_80 ?_
      refine h_lmul (pc := 81) C dL_told_81 ?_
      refine h_aload_0 (pc := 82) C dL_told_82 ?_
      refine h_iload_3 (pc := 83) C dL_told_83 ?_
      refine h_iload_4 (pc := 84) C dL_told_84 ?_
      refine h_V2ie (pc := 86) C e_L_told_18 (Nat.le_of_ble_eq_true rfl) rfl dL_told_86 kk0 (c6_farmer hj hA) ?_
      rw [show aFarmer A (nI k) (nI e) = aFarmer (AF A.f) (nI k) (nI e) from rfl]
      refine h_i2l (pc := 89) C dL_told_89 ?_
      refine h_ladd (pc := 90) C dL_told_90 ?_
      refine h_lstore_1 (pc := 91) C dL_told_91 (by rfl) ?_
      refine h_iinc_4 (pc := 92) (v := nI (e + 1)) C dL_told_92 (nI_1 e) (by rfl) ?_
      refine h_goto (pc := 95) (tgt := 70) C dL_told_95 (by decide) ?_
      exact told_f C hj hA n (e + 1) _ (by omega) nx
set_option maxRecDepth 100000 in
set_option maxHeartbeats 1000000 in
theorem told_m (C : Cx X D cy B cL_told 5 RL wsL_told l 3 68 0 0) (hj : JC M P A) (hA : WA c A) {k : Nat} : ∀ (n e : Nat) (h : Int64), e + n = 8 → G2 X D cy B 0 0 369 M P 146 [some (Value.ref (B + 0)), some (Value.long (fo (fun e => aMachine (AF A.f) (nI k) (nI e)) n e h)), none, some (Value.int (nI (k))), some (Value.int (nI (8)))] [] → G2 X D cy B 0 0 369 M P 118 [some (Value.ref (B + 0)), some (Value.long (h)), none, some (Value.int (nI (k))), some (Value.int (nI (e)))] []
  | 0, e, h, hi, nx => by
    have ei : e = 8 := by omega
    subst ei
    refine h_iload_4 (pc := 118) C dL_told_118 ?_
    refine h_bipush (pc := 120) (v := 8) C dL_told_120 rfl ?_
    refine h_icmp_ge (pc := 122) (tgt := 146) C dL_told_122 (by decide) (fun c122 => ?_) (fun c122 => ?_)
    · exact nx
    · exact absurd (show (8 : Int32) ≤ nI 8 by decide) c122
  | n + 1, e, h, hi, nx => by
    refine h_iload_4 (pc := 118) C dL_told_118 ?_
    refine h_bipush (pc := 120) (v := 8) C dL_told_120 rfl ?_
    refine h_icmp_ge (pc := 122) (tgt := 146) C dL_told_122 (by decide) (fun c122 => ?_) (fun c122 => ?_)
    · exact absurd c122 (nI_ge (b := 8) (by omega) (by decide))
    · refine h_ldc2 (pc := 125) (v := 31) C (List.mem_of_getElem? (i := 2) (by decide +kernel)) dL_told_125 ?_
      refine h_lload_1 (pc := 128) C dL_told_128 ?_
      refine h_lmul (pc := 129) C dL_told_129 ?_
      refine h_aload_0 (pc := 130) C dL_told_130 ?_
      refine h_iload_3 (pc := 131) C dL_told_131 ?_
      refine h_iload_4 (pc := 132) C dL_told_132 ?_
      refine h_V2ie (pc := 134) C e_L_told_22 (Nat.le_of_ble_eq_true rfl) rfl dL_told_134 kk0 (c6_machine hj hA) ?_
      rw [show aMachine A (nI k) (nI e) = aMachine (AF A.f) (nI k) (nI e) from rfl]
      refine h_i2l (pc := 137) C dL_told_137 ?_
      refine h_ladd (pc := 138) C dL_told_138 ?_
      refine h_lstore_1 (pc := 139) C dL_told_139 (by rfl) ?_
      refine h_iinc_4 (pc := 140) (v := nI (e + 1)) C dL_told_140 (nI_1 e) (by rfl) ?_
      refine h_goto (pc := 143) (tgt := 118) C dL_told_143 (by decide) ?_
      exact told_m C hj hA n (e + 1) _ (by omega) nx
set_option maxRecDepth 100000 in
set_option maxHeartbeats 1000000 in
theorem told_b (C : Cx X D cy B cL_told 5 RL wsL_told l 3 68 0 0) (hj : JC M P A) (hA : WA c A) {k : Nat} : ∀ (n e : Nat) (h : Int64), e + n = 6 → G2 X D cy B 0 0 369 M P 194 [some (Value.ref (B + 0)), some (Value.long (fo (fun e => aBooking (AF A.f) (nI k) (nI e)) n e h)), none, some (Value.int (nI (k))), some (Value.int (nI (6)))] [] → G2 X D cy B 0 0 369 M P 166 [some (Value.ref (B + 0)), some (Value.long (h)), none, some (Value.int (nI (k))), some (Value.int (nI (e)))] []
  | 0, e, h, hi, nx => by
    have ei : e = 6 := by omega
    subst ei
    refine h_iload_4 (pc := 166) C dL_told_166 ?_
    refine h_bipush (pc := 168) (v := 6) C dL_told_168 rfl ?_
    refine h_icmp_ge (pc := 170) (tgt := 194) C dL_told_170 (by decide) (fun c170 => ?_) (fun c170 => ?_)
    · exact nx
    · exact absurd (show (6 : Int32) ≤ nI 6 by decide) c170
  | n + 1, e, h, hi, nx => by
    refine h_iload_4 (pc := 166) C dL_told_166 ?_
    refine h_bipush (pc := 168) (v := 6) C dL_told_168 rfl ?_
    refine h_icmp_ge (pc := 170) (tgt := 194) C dL_told_170 (by decide) (fun c170 => ?_) (fun c170 => ?_)
    · exact absurd c170 (nI_ge (b := 6) (by omega) (by decide))
    · refine h_ldc2 (pc := 173) (v := 31) C (List.mem_of_getElem? (i := 2) (by decide +kernel)) dL_told_173 ?_
      refine h_lload_1 (pc := 176) C dL_told_176 ?_
      refine h_lmul (pc := 177) C dL_told_177 ?_
      refine h_aload_0 (pc := 178) C dL_told_178 ?_
      refine h_iload_3 (pc := 179) C dL_told_179 ?_
      refine h_iload_4 (pc := 180) C dL_told_180 ?_
      refine h_V2ie (pc := 182) C e_L_told_25 (Nat.le_of_ble_eq_true rfl) rfl dL_told_182 kk0 (c6_booking hj hA) ?_
      rw [show aBooking A (nI k) (nI e) = aBooking (AF A.f) (nI k) (nI e) from rfl]
      refine h_i2l (pc := 185) C dL_told_185 ?_
      refine h_ladd (pc := 186) C dL_told_186 ?_
      refine h_lstore_1 (pc := 187) C dL_told_187 (by rfl) ?_
      refine h_iinc_4 (pc := 188) (v := nI (e + 1)) C dL_told_188 (nI_1 e) (by rfl) ?_
      refine h_goto (pc := 191) (tgt := 166) C dL_told_191 (by decide) ?_
      exact told_b C hj hA n (e + 1) _ (by omega) nx
set_option maxRecDepth 100000 in
set_option maxHeartbeats 1000000 in
theorem told_F (C : Cx X D cy B cL_told 5 RL wsL_told l 3 68 0 0) (hj : JC M P A) (hA : WA c A) : ∀ (n k : Nat) (h : Int64) (e4 : Option Value), k + n = 6 → (∀ e5, G2 X D cy B 0 0 369 M P 104 [some (Value.ref (B + 0)), some (Value.long (fo2 (fun k e => aFarmer (AF A.f) (nI k) (nI e)) 7 n k h)), none, some (Value.int (nI (6))), e5] []) → G2 X D cy B 0 0 369 M P 61 [some (Value.ref (B + 0)), some (Value.long (h)), none, some (Value.int (nI (k))), e4] []
  | 0, k, h, e4, hi, nx => by
    have ei : k = 6 := by omega
    subst ei
    refine h_iload_3 (pc := 61) C dL_told_61 ?_
    refine h_bipush (pc := 62) (v := 6) C dL_told_62 rfl ?_
    refine h_icmp_ge (pc := 64) (tgt := 104) C dL_told_64 (by decide) (fun c64 => ?_) (fun c64 => ?_)
    · exact nx _
    · exact absurd (show (6 : Int32) ≤ nI 6 by decide) c64
  | n + 1, k, h, e4, hi, nx => by
    refine h_iload_3 (pc := 61) C dL_told_61 ?_
    refine h_bipush (pc := 62) (v := 6) C dL_told_62 rfl ?_
    refine h_icmp_ge (pc := 64) (tgt := 104) C dL_told_64 (by decide) (fun c64 => ?_) (fun c64 => ?_)
    · exact absurd c64 (nI_ge (b := 6) (by omega) (by decide))
    · refine h_iconst (pc := 67) (v := 0) C dL_told_67 rfl ?_
      refine h_istore_4 (pc := 68) C dL_told_68 (by rfl) ?_
      refine told_f C hj hA 7 0 _ rfl ?_
      refine h_iinc_3 (pc := 98) (v := nI (k + 1)) C dL_told_98 (nI_1 k) (by rfl) ?_
      refine h_goto (pc := 101) (tgt := 61) C dL_told_101 (by decide) ?_
      exact told_F C hj hA n (k + 1) _ _ (by omega) nx
set_option maxRecDepth 100000 in
set_option maxHeartbeats 1000000 in
theorem told_M (C : Cx X D cy B cL_told 5 RL wsL_told l 3 68 0 0) (hj : JC M P A) (hA : WA c A) (hb : mn A.f ≤ 6) : ∀ (n k : Nat) (h : Int64) (e4 : Option Value), k + n = (mn A.f) → (∀ e5, G2 X D cy B 0 0 369 M P 152 [some (Value.ref (B + 0)), some (Value.long (fo2 (fun k e => aMachine (AF A.f) (nI k) (nI e)) 8 n k h)), none, some (Value.int (nI ((mn A.f)))), e5] []) → G2 X D cy B 0 0 369 M P 106 [some (Value.ref (B + 0)), some (Value.long (h)), none, some (Value.int (nI (k))), e4] []
  | 0, k, h, e4, hi, nx => by
    have ei : k = (mn A.f) := by omega
    subst ei
    refine h_iload_3 (pc := 106) C dL_told_106 ?_
    refine h_aload_0 (pc := 107) C dL_told_107 ?_
    refine h_iconst (pc := 108) (v := 2) C dL_told_108 rfl ?_
    refine h_V1ie (pc := 109) C e_L_told_12 (Nat.le_of_ble_eq_true rfl) rfl dL_told_109 kk0 (c6_count hj hA) ?_
    rw [aC2, hA.1.m]
    refine h_icmp_ge (pc := 112) (tgt := 152) C dL_told_112 (by decide) (fun c112 => ?_) (fun c112 => ?_)
    · exact nx _
    · exact absurd (nI_le (Nat.le_refl _) (by omega)) c112
  | n + 1, k, h, e4, hi, nx => by
    refine h_iload_3 (pc := 106) C dL_told_106 ?_
    refine h_aload_0 (pc := 107) C dL_told_107 ?_
    refine h_iconst (pc := 108) (v := 2) C dL_told_108 rfl ?_
    refine h_V1ie (pc := 109) C e_L_told_12 (Nat.le_of_ble_eq_true rfl) rfl dL_told_109 kk0 (c6_count hj hA) ?_
    rw [aC2, hA.1.m]
    refine h_icmp_ge (pc := 112) (tgt := 152) C dL_told_112 (by decide) (fun c112 => ?_) (fun c112 => ?_)
    · exact absurd c112 (nI_ge (b := (mn A.f)) (by omega) (by omega))
    · refine h_iconst (pc := 115) (v := 0) C dL_told_115 rfl ?_
      refine h_istore_4 (pc := 116) C dL_told_116 (by rfl) ?_
      refine told_m C hj hA 8 0 _ rfl ?_
      refine h_iinc_3 (pc := 146) (v := nI (k + 1)) C dL_told_146 (nI_1 k) (by rfl) ?_
      refine h_goto (pc := 149) (tgt := 106) C dL_told_149 (by decide) ?_
      exact told_M C hj hA hb n (k + 1) _ _ (by omega) nx
set_option maxRecDepth 100000 in
set_option maxHeartbeats 1000000 in
theorem told_B (C : Cx X D cy B cL_told 5 RL wsL_told l 3 68 0 0) (hj : JC M P A) (hA : WA c A) (hb : A.f 5 = nI (bn A.f) ∧ bn A.f ≤ 5000) : ∀ (n k : Nat) (h : Int64) (e4 : Option Value), k + n = (bn A.f) → (∀ e5, G2 X D cy B 0 0 369 M P 200 [some (Value.ref (B + 0)), some (Value.long (fo2 (fun k e => aBooking (AF A.f) (nI k) (nI e)) 6 n k h)), none, some (Value.int (nI ((bn A.f)))), e5] []) → G2 X D cy B 0 0 369 M P 154 [some (Value.ref (B + 0)), some (Value.long (h)), none, some (Value.int (nI (k))), e4] []
  | 0, k, h, e4, hi, nx => by
    have ei : k = (bn A.f) := by omega
    subst ei
    refine h_iload_3 (pc := 154) C dL_told_154 ?_
    refine h_aload_0 (pc := 155) C dL_told_155 ?_
    refine h_iconst (pc := 156) (v := 4) C dL_told_156 rfl ?_
    refine h_V1ie (pc := 157) C e_L_told_12 (Nat.le_of_ble_eq_true rfl) rfl dL_told_157 kk0 (c6_count hj hA) ?_
    rw [aC4, hb.1]
    refine h_icmp_ge (pc := 160) (tgt := 200) C dL_told_160 (by decide) (fun c160 => ?_) (fun c160 => ?_)
    · exact nx _
    · exact absurd (nI_le (Nat.le_refl _) (by omega)) c160
  | n + 1, k, h, e4, hi, nx => by
    refine h_iload_3 (pc := 154) C dL_told_154 ?_
    refine h_aload_0 (pc := 155) C dL_told_155 ?_
    refine h_iconst (pc := 156) (v := 4) C dL_told_156 rfl ?_
    refine h_V1ie (pc := 157) C e_L_told_12 (Nat.le_of_ble_eq_true rfl) rfl dL_told_157 kk0 (c6_count hj hA) ?_
    rw [aC4, hb.1]
    refine h_icmp_ge (pc := 160) (tgt := 200) C dL_told_160 (by decide) (fun c160 => ?_) (fun c160 => ?_)
    · exact absurd c160 (nI_ge (b := (bn A.f)) (by omega) (by omega))
    · refine h_iconst (pc := 163) (v := 0) C dL_told_163 rfl ?_
      refine h_istore_4 (pc := 164) C dL_told_164 (by rfl) ?_
      refine told_b C hj hA 6 0 _ rfl ?_
      refine h_iinc_3 (pc := 194) (v := nI (k + 1)) C dL_told_194 (nI_1 k) (by rfl) ?_
      refine h_goto (pc := 197) (tgt := 154) C dL_told_197 (by decide) ?_
      exact told_B C hj hA hb n (k + 1) _ _ (by omega) nx
end TOLD
set_option maxRecDepth 100000 in
set_option maxHeartbeats 1000000 in
theorem l_told {l : Launch} {D : va_G} {cy : Nat → ClassId} {B : Nat} {M : MM} {P : PP} {A : AS} {c : Nat} (hj : JC M P A) (hA : WA c A) (hv : Hv c A.f) (hc : c ≤ 5000) : KL l D cy B yL_told wsL_told 3 68 [Value.ref (B + 0)] M P (qi (T5 A.f) M P) := by
  refine met2_KL (cc := cL_told) (maxL := 5) (ret := some .long) (lv := [some (Value.ref (B + 0)), none, none, none, none]) (by decide) rfl rfl rfl (Nat.le_of_ble_eq_true rfl) ?_
  intro X C F
  obtain ⟨hb1, hb2⟩ := hv.b hc
  refine h_ldc2 (pc := 0) (v := 3) C (List.mem_of_getElem? (i := 1) (by decide +kernel)) dL_told_0 ?_
  refine h_lstore_1 (pc := 3) C dL_told_3 (by rfl) ?_
  refine h_iconst (pc := 4) (v := 0) C dL_told_4 rfl ?_
  refine h_istore_3 (pc := 5) C dL_told_5 (by rfl) ?_
  refine told_1 C hj hA 13 0 _ rfl (Nat.zero_le _) ?_
  refine h_bipush (pc := 31) (v := 15) C dL_told_31 rfl ?_
  refine h_istore_3 (pc := 33) C dL_told_33 (by rfl) ?_
  refine told_2 C hj hA 3 15 _ rfl (Nat.le_refl _) ?_
  refine h_iconst (pc := 59) (v := 0) C dL_told_59 rfl ?_
  refine h_istore_3 (pc := 60) C dL_told_60 (by rfl) ?_
  refine told_F C hj hA 6 0 _ _ rfl (fun e5 => ?_)
  refine h_iconst (pc := 104) (v := 0) C dL_told_104 rfl ?_
  refine h_istore_3 (pc := 105) C dL_told_105 (by rfl) ?_
  refine told_M C hj hA hA.1.m6 (mn A.f) 0 _ _ (Nat.zero_add _) (fun e6 => ?_)
  refine h_iconst (pc := 152) (v := 0) C dL_told_152 rfl ?_
  refine h_istore_3 (pc := 153) C dL_told_153 (by rfl) ?_
  refine told_B C hj hA ⟨hb1, by omega⟩ (bn A.f) 0 _ _ (Nat.zero_add _) (fun e7 => ?_)
  refine h_lload_1 (pc := 200) C dL_told_200 ?_
  exact h_lret (post := (qi (T5 A.f) M P)) C F dL_told_201 ⟨rfl, rfl, rfl⟩
