/-! the law's check of a state -/
section HOLD
variable {X : GX} {l : Launch} {D : va_G} {cy : Nat → ClassId} {B : Nat} {M : MM} {P : PP} {A : AS} {c : Nat}
set_option maxRecDepth 100000 in
set_option maxHeartbeats 1000000 in
theorem hold_1 (C : Cx X D cy B cL_holds 14 RL wsL_holds l 3 69 0 0) (hj : JC M P A) (hA : WA c A) : ∀ (n i : Nat), i + n = 6 → G2 X D cy B 0 0 369 M P 83 [some (Value.ref (B + 0)), some (Value.int (sm (fun i => A.f (13 + 6 * i + 4)) 6)), some (Value.int (sm (fun i => A.f (13 + 6 * i + 5)) 6)), some (Value.int (sm (fun i => A.f (13 + 6 * i + 0)) 6)), some (Value.int (sm (fun i => st' A.f (nI i) (sn A.f)) 6)), some (Value.int (sm (fun i => A.f (13 + 6 * i + 2)) 6)), some (Value.int (nI (6))), none, none, none, none, none, none, none] [] → G2 X D cy B 0 0 369 M P 15 [some (Value.ref (B + 0)), some (Value.int (sm (fun i => A.f (13 + 6 * i + 4)) i)), some (Value.int (sm (fun i => A.f (13 + 6 * i + 5)) i)), some (Value.int (sm (fun i => A.f (13 + 6 * i + 0)) i)), some (Value.int (sm (fun i => st' A.f (nI i) (sn A.f)) i)), some (Value.int (sm (fun i => A.f (13 + 6 * i + 2)) i)), some (Value.int (nI (i))), none, none, none, none, none, none, none] []
  | 0, i, hi, nx => by
    have ei : i = 6 := by omega
    subst ei
    refine h_iload_6 (pc := 15) C dL_holds_15 ?_
    refine h_bipush (pc := 17) (v := 6) C dL_holds_17 rfl ?_
    refine h_icmp_ge (pc := 19) (tgt := 83) C dL_holds_19 (by decide) (fun c19 => ?_) (fun c19 => ?_)
    · exact nx
    · exact absurd (show (6 : Int32) ≤ nI 6 by decide) c19
  | n + 1, i, hi, nx => by
    refine h_iload_6 (pc := 15) C dL_holds_15 ?_
    refine h_bipush (pc := 17) (v := 6) C dL_holds_17 rfl ?_
    refine h_icmp_ge (pc := 19) (tgt := 83) C dL_holds_19 (by decide) (fun c19 => ?_) (fun c19 => ?_)
    · exact absurd c19 (nI_ge (b := 6) (by omega) (by decide))
    · refine h_iload_3 (pc := 22) C dL_holds_22 ?_
      refine h_aload_0 (pc := 23) C dL_holds_23 ?_
      refine h_iload_6 (pc := 24) C dL_holds_24 ?_
      refine h_iconst (pc := 26) (v := 0) C dL_holds_26 rfl ?_
      refine h_V2ie (pc := 27) C e_L_holds_18 (Nat.le_of_ble_eq_true rfl) rfl dL_holds_27 kk0 (c6_farmer hj hA) ?_
      rw [aF0 (i := i) (by omega)]
      refine h_iadd (pc := 30) C dL_holds_30 ?_
      refine h_istore_3 (pc := 31) C dL_holds_31 (by rfl) ?_
      refine h_iload_1 (pc := 32) C dL_holds_32 ?_
      refine h_aload_0 (pc := 33) C dL_holds_33 ?_
      refine h_iload_6 (pc := 34) C dL_holds_34 ?_
      refine h_iconst (pc := 36) (v := 5) C dL_holds_36 rfl ?_
      refine h_V2ie (pc := 37) C e_L_holds_18 (Nat.le_of_ble_eq_true rfl) rfl dL_holds_37 kk0 (c6_farmer hj hA) ?_
      rw [aF5 (i := i) (by omega)]
      refine h_iadd (pc := 40) C dL_holds_40 ?_
      refine h_istore_1 (pc := 41) C dL_holds_41 (by rfl) ?_
      refine h_iload_2 (pc := 42) C dL_holds_42 ?_
      refine h_aload_0 (pc := 43) C dL_holds_43 ?_
      refine h_iload_6 (pc := 44) C dL_holds_44 ?_
      refine h_bipush (pc := 46) (v := 6) C dL_holds_46 rfl ?_
      refine h_V2ie (pc := 48) C e_L_holds_18 (Nat.le_of_ble_eq_true rfl) rfl dL_holds_48 kk0 (c6_farmer hj hA) ?_
      rw [aF6 (i := i) (by omega)]
      refine h_iadd (pc := 51) C dL_holds_51 ?_
      refine h_istore_2 (pc := 52) C dL_holds_52 (by rfl) ?_
      refine h_iload_4 (pc := 53) C dL_holds_53 ?_
      refine h_aload_0 (pc := 55) C dL_holds_55 ?_
      refine h_iload_6 (pc := 56) C dL_holds_56 ?_
      refine h_iconst (pc := 58) (v := 4) C dL_holds_58 rfl ?_
      refine h_V2ie (pc := 59) C e_L_holds_18 (Nat.le_of_ble_eq_true rfl) rfl dL_holds_59 kk0 (c6_farmer hj hA) ?_
      rw [aF4 (i := i) (by omega)]
      refine h_iadd (pc := 62) C dL_holds_62 ?_
      refine h_istore_4 (pc := 63) C dL_holds_63 (by rfl) ?_
      refine h_iload_5 (pc := 65) C dL_holds_65 ?_
      refine h_aload_0 (pc := 67) C dL_holds_67 ?_
      refine h_iload_6 (pc := 68) C dL_holds_68 ?_
      refine h_iconst (pc := 70) (v := 2) C dL_holds_70 rfl ?_
      refine h_V2ie (pc := 71) C e_L_holds_18 (Nat.le_of_ble_eq_true rfl) rfl dL_holds_71 kk0 (c6_farmer hj hA) ?_
      rw [aF2 (i := i) (by omega)]
      refine h_iadd (pc := 74) C dL_holds_74 ?_
      refine h_istore_5 (pc := 75) C dL_holds_75 (by rfl) ?_
      refine h_iinc_6 (pc := 77) (v := nI (i + 1)) C dL_holds_77 (nI_1 i) (by rfl) ?_
      refine h_goto (pc := 80) (tgt := 15) C dL_holds_80 (by decide) ?_
      exact hold_1 C hj hA n (i + 1) (by omega) nx
set_option maxRecDepth 100000 in
set_option maxHeartbeats 1000000 in
theorem hold_h (C : Cx X D cy B cL_holds 14 RL wsL_holds l 3 69 0 0) (hj : JC M P A) (hA : WA c A) {m : Nat} (hm : m < mn A.f) {a1 a2 a3 a4 a5 a6 a7 a8 a9 : Int32} {a13 : Option Value} : ∀ (n e : Nat), e + n = 6 → G2 X D cy B 0 0 369 M P 140 [some (Value.ref (B + 0)), some (Value.int (a1)), some (Value.int (a2)), some (Value.int (a3)), some (Value.int (a4)), some (Value.int (a5)), some (Value.int (a6)), some (Value.int (a7)), some (Value.int (a8)), some (Value.int (a9)), some (Value.int (nI (m))), some (Value.int (sm (fun e => A.f (49 + 14 * m + (8 + e))) 6)), some (Value.int (nI (6))), a13] [] → G2 X D cy B 0 0 369 M P 114 [some (Value.ref (B + 0)), some (Value.int (a1)), some (Value.int (a2)), some (Value.int (a3)), some (Value.int (a4)), some (Value.int (a5)), some (Value.int (a6)), some (Value.int (a7)), some (Value.int (a8)), some (Value.int (a9)), some (Value.int (nI (m))), some (Value.int (sm (fun e => A.f (49 + 14 * m + (8 + e))) e)), some (Value.int (nI (e))), a13] []
  | 0, e, he, nx => by
    have ee : e = 6 := by omega
    subst ee
    refine h_iload_12 (pc := 114) C dL_holds_114 ?_
    refine h_bipush (pc := 116) (v := 6) C dL_holds_116 rfl ?_
    refine h_icmp_ge (pc := 118) (tgt := 140) C dL_holds_118 (by decide) (fun c118 => ?_) (fun c118 => ?_)
    · exact nx
    · exact absurd (show (6 : Int32) ≤ nI 6 by decide) c118
  | n + 1, e, he, nx => by
    refine h_iload_12 (pc := 114) C dL_holds_114 ?_
    refine h_bipush (pc := 116) (v := 6) C dL_holds_116 rfl ?_
    refine h_icmp_ge (pc := 118) (tgt := 140) C dL_holds_118 (by decide) (fun c118 => ?_) (fun c118 => ?_)
    · exact absurd c118 (nI_ge (b := 6) (by omega) (by decide))
    · refine h_iload_11 (pc := 121) C dL_holds_121 ?_
      refine h_aload_0 (pc := 123) C dL_holds_123 ?_
      refine h_iload_10 (pc := 124) C dL_holds_124 ?_
      refine h_iload_12 (pc := 126) C dL_holds_126 ?_
      refine h_V2ie (pc := 128) C e_L_holds_73 (Nat.le_of_ble_eq_true rfl) rfl dL_holds_128 kk0 (c6_hours hj hA) ?_
      rw [aH hA hm (by omega)]
      refine h_iadd (pc := 131) C dL_holds_131 ?_
      refine h_istore_11 (pc := 132) C dL_holds_132 (by rfl) ?_
      refine h_iinc_12 (pc := 134) (v := nI (e + 1)) C dL_holds_134 (nI_1 e) (by rfl) ?_
      refine h_goto (pc := 137) (tgt := 114) C dL_holds_137 (by decide) ?_
      exact hold_h C hj hA hm n (e + 1) (by omega) nx
set_option maxRecDepth 100000 in
set_option maxHeartbeats 1000000 in
theorem hold_M (C : Cx X D cy B cL_holds 14 RL wsL_holds l 3 69 0 0) (hj : JC M P A) (hA : WA c A) (hv : Hv c A.f) (hc : c ≤ 5000) {a1 a2 a3 a4 a5 : Int32} : ∀ (n m : Nat) (a11 a12 a13 : Option Value), m + n = mn A.f → (∀ a11 a12 a13, G2 X D cy B 0 0 369 M P 292 [some (Value.ref (B + 0)), some (Value.int (a1)), some (Value.int (a2)), some (Value.int (a3)), some (Value.int (a4)), some (Value.int (a5)), some (Value.int (sm (fun m => A.f (49 + 14 * m + 4)) (mn A.f))), some (Value.int (br A.f (mn A.f))), some (Value.int (sm (fun m => A.f (49 + 14 * m + 7)) (mn A.f))), some (Value.int (shB A.f (mn A.f))), some (Value.int (nI ((mn A.f)))), a11, a12, a13] []) → G2 X D cy B 0 0 369 M P 98 [some (Value.ref (B + 0)), some (Value.int (a1)), some (Value.int (a2)), some (Value.int (a3)), some (Value.int (a4)), some (Value.int (a5)), some (Value.int (sm (fun m => A.f (49 + 14 * m + 4)) m)), some (Value.int (br A.f m)), some (Value.int (sm (fun m => A.f (49 + 14 * m + 7)) m)), some (Value.int (shB A.f m)), some (Value.int (nI (m))), a11, a12, a13] []
  | 0, m, a11, a12, a13, hi, nx => by
    have h6 := hA.1.m6
    have ei : m = mn A.f := by omega
    subst ei
    refine h_iload_10 (pc := 98) C dL_holds_98 ?_
    refine h_aload_0 (pc := 100) C dL_holds_100 ?_
    refine h_iconst (pc := 101) (v := 2) C dL_holds_101 rfl ?_
    refine h_V1ie (pc := 102) C e_L_holds_12 (Nat.le_of_ble_eq_true rfl) rfl dL_holds_102 kk0 (c6_count hj hA) ?_
    rw [aC2, hA.1.m]
    refine h_icmp_ge (pc := 105) (tgt := 292) C dL_holds_105 (by decide) (fun c105 => ?_) (fun c105 => ?_)
    · exact nx _ _ _
    · exact absurd (nI_le (Nat.le_refl _) (by omega)) c105
  | n + 1, m, a11, a12, a13, hi, nx => by
    have h6 := hA.1.m6
    refine h_iload_10 (pc := 98) C dL_holds_98 ?_
    refine h_aload_0 (pc := 100) C dL_holds_100 ?_
    refine h_iconst (pc := 101) (v := 2) C dL_holds_101 rfl ?_
    refine h_V1ie (pc := 102) C e_L_holds_12 (Nat.le_of_ble_eq_true rfl) rfl dL_holds_102 kk0 (c6_count hj hA) ?_
    rw [aC2, hA.1.m]
    refine h_icmp_ge (pc := 105) (tgt := 292) C dL_holds_105 (by decide) (fun c105 => ?_) (fun c105 => ?_)
    · exact absurd c105 (nI_ge (b := mn A.f) (by omega) (by omega))
    · refine h_iconst (pc := 108) (v := 0) C dL_holds_108 rfl ?_
      refine h_istore_11 (pc := 109) C dL_holds_109 (by rfl) ?_
      refine h_iconst (pc := 111) (v := 0) C dL_holds_111 rfl ?_
      refine h_istore_12 (pc := 112) C dL_holds_112 (by rfl) ?_
      have hm : m < mn A.f := by omega
      obtain ⟨q, hq, eq⟩ := aFu (i := m) hA hm
      refine hold_h C hj hA hm 6 0 rfl ?_
      rw [(hA.1.wm hm).since]
      refine h_aload_0 (pc := 140) C dL_holds_140 ?_
      refine h_iload_10 (pc := 141) C dL_holds_141 ?_
      refine h_V1fe (pc := 143) C e_L_holds_76 (Nat.le_of_ble_eq_true rfl) rfl dL_holds_143 kk0 (c6_fuel hj hA) ?_
      rw [eq]
      refine h_fstore_12 (pc := 146) C dL_holds_146 (by rfl) ?_
      refine h_iload_6 (pc := 148) C dL_holds_148 ?_
      refine h_aload_0 (pc := 150) C dL_holds_150 ?_
      refine h_iload_10 (pc := 151) C dL_holds_151 ?_
      refine h_iconst (pc := 153) (v := 4) C dL_holds_153 rfl ?_
      refine h_V2ie (pc := 154) C e_L_holds_22 (Nat.le_of_ble_eq_true rfl) rfl dL_holds_154 kk0 (c6_machine hj hA) ?_
      rw [aM4 hA hm]
      refine h_iadd (pc := 157) C dL_holds_157 ?_
      refine h_istore_6 (pc := 158) C dL_holds_158 (by rfl) ?_
      refine h_iload_7 (pc := 160) C dL_holds_160 ?_
      refine h_aload_0 (pc := 162) C dL_holds_162 ?_
      refine h_iload_10 (pc := 163) C dL_holds_163 ?_
      refine h_iconst (pc := 165) (v := 2) C dL_holds_165 rfl ?_
      refine h_V2ie (pc := 166) C e_L_holds_22 (Nat.le_of_ble_eq_true rfl) rfl dL_holds_166 kk0 (c6_machine hj hA) ?_
      rw [aM2 hA hm]
      refine h_iadd (pc := 169) C dL_holds_169 ?_
      refine h_istore_7 (pc := 170) C dL_holds_170 (by rfl) ?_
      refine h_iload_8 (pc := 172) C dL_holds_172 ?_
      refine h_aload_0 (pc := 174) C dL_holds_174 ?_
      refine h_iload_10 (pc := 175) C dL_holds_175 ?_
      refine h_bipush (pc := 177) (v := 7) C dL_holds_177 rfl ?_
      refine h_V2ie (pc := 179) C e_L_holds_22 (Nat.le_of_ble_eq_true rfl) rfl dL_holds_179 kk0 (c6_machine hj hA) ?_
      rw [aM7 hA hm]
      refine h_iadd (pc := 182) C dL_holds_182 ?_
      refine h_istore_8 (pc := 183) C dL_holds_183 (by rfl) ?_
      refine h_iconst (pc := 185) (v := 1) C dL_holds_185 rfl ?_
      refine h_iconst (pc := 186) (v := 2) C dL_holds_186 rfl ?_
      refine h_aload_0 (pc := 187) C dL_holds_187 ?_
      refine h_iload_10 (pc := 188) C dL_holds_188 ?_
      refine h_iconst (pc := 190) (v := 0) C dL_holds_190 rfl ?_
      refine h_V2ie (pc := 191) C e_L_holds_22 (Nat.le_of_ble_eq_true rfl) rfl dL_holds_191 kk0 (c6_machine hj hA) ?_
      rw [aM0 hA hm]
      refine h_imul (pc := 194) C dL_holds_194 ?_
      refine h_aload_0 (pc := 195) C dL_holds_195 ?_
      refine h_iload_10 (pc := 196) C dL_holds_196 ?_
      refine h_iconst (pc := 198) (v := 5) C dL_holds_198 rfl ?_
      refine h_V2ie (pc := 199) C e_L_holds_22 (Nat.le_of_ble_eq_true rfl) rfl dL_holds_199 kk0 (c6_machine hj hA) ?_
      rw [aM5 hA hm]
      refine h_iadd (pc := 202) C dL_holds_202 ?_
      refine h_ishl (pc := 203) C dL_holds_203 ?_
      rw [show (1 : Int32) <<< ((2 * A.f (49 + 14 * m + 0) + A.f (49 + 14 * m + 5)) &&& 31) = bitI A.f m from rfl]
      refine h_istore_13 (pc := 204) C dL_holds_204 (by rfl) ?_
      refine h_iload_9 (pc := 206) C dL_holds_206 ?_
      refine h_iload_13 (pc := 208) C dL_holds_208 ?_
      refine h_iand (pc := 210) C dL_holds_210 ?_
      refine h_if_ne (pc := 211) (tgt := 277) C dL_holds_211 (by decide) (fun c211 => ?_) (fun c211 => ?_)
      · exact absurd (sh_ok hv hA.1 hm) c211
      · refine h_iload_11 (pc := 214) C dL_holds_214 ?_
        refine h_aload_0 (pc := 216) C dL_holds_216 ?_
        refine h_iload_10 (pc := 217) C dL_holds_217 ?_
        refine h_iconst (pc := 219) (v := 3) C dL_holds_219 rfl ?_
        refine h_V2ie (pc := 220) C e_L_holds_22 (Nat.le_of_ble_eq_true rfl) rfl dL_holds_220 kk0 (c6_machine hj hA) ?_
        rw [aM3 hA hm]
        refine h_icmp_ne (pc := 223) (tgt := 277) C dL_holds_223 (by decide) (fun c223 => ?_) (fun c223 => ?_)
        · exact absurd rfl c223
        · refine h_iload_11 (pc := 226) C dL_holds_226 ?_
          refine h_aload_0 (pc := 228) C dL_holds_228 ?_
          refine h_iload_10 (pc := 229) C dL_holds_229 ?_
          refine h_iconst (pc := 231) (v := 4) C dL_holds_231 rfl ?_
          refine h_V2ie (pc := 232) C e_L_holds_22 (Nat.le_of_ble_eq_true rfl) rfl dL_holds_232 kk0 (c6_machine hj hA) ?_
          rw [aM4 hA hm]
          refine h_icmp_gt (pc := 235) (tgt := 277) C dL_holds_235 (by decide) (fun c235 => ?_) (fun c235 => ?_)
          · exact absurd c235 (hv.mach hc hm)
          · refine h_fload_12 (pc := 238) C dL_holds_238 ?_
            refine h_fconst0 (pc := 240) C dL_holds_240 ?_
            refine h_fcmp (pc := 241) C dL_holds_241 ?_
            refine h_if_lt (pc := 242) (tgt := 277) C dL_holds_242 (by decide) (fun c242 => ?_) (fun c242 => ?_)
            · exact absurd c242 (fu_lo hq)
            · refine h_fload_12 (pc := 245) C dL_holds_245 ?_
              refine h_ldcf (pc := 247) C k_L_holds_80 dL_holds_247 ?_
              refine h_fcmp (pc := 249) C dL_holds_249 ?_
              refine h_if_gt (pc := 250) (tgt := 277) C dL_holds_250 (by decide) (fun c250 => ?_) (fun c250 => ?_)
              · exact absurd c250 (fu_hi hq)
              · refine h_aload_0 (pc := 253) C dL_holds_253 ?_
                refine h_iload_10 (pc := 254) C dL_holds_254 ?_
                refine h_iconst (pc := 256) (v := 1) C dL_holds_256 rfl ?_
                refine h_V2ie (pc := 257) C e_L_holds_81 (Nat.le_of_ble_eq_true rfl) rfl dL_holds_257 kk0 (c6_booked hj hA) ?_
                rw [aBk1 hA hm]
                refine h_bipush (pc := 260) (v := 12) C dL_holds_260 rfl ?_
                refine h_icmp_gt (pc := 262) (tgt := 277) C dL_holds_262 (by decide) (fun c262 => ?_) (fun c262 => ?_)
                · exact absurd c262 (hv.bk12 hA.1 _ _)
                · refine h_aload_0 (pc := 265) C dL_holds_265 ?_
                  refine h_iload_10 (pc := 266) C dL_holds_266 ?_
                  refine h_iconst (pc := 268) (v := 2) C dL_holds_268 rfl ?_
                  refine h_V2ie (pc := 269) C e_L_holds_81 (Nat.le_of_ble_eq_true rfl) rfl dL_holds_269 kk0 (c6_booked hj hA) ?_
                  rw [aBk2 hA hm]
                  refine h_bipush (pc := 272) (v := 12) C dL_holds_272 rfl ?_
                  refine h_icmp_le (pc := 274) (tgt := 279) C dL_holds_274 (by decide) (fun c274 => ?_) (fun c274 => ?_)
                  · refine h_iload_9 (pc := 279) C dL_holds_279 ?_
                    refine h_iload_13 (pc := 281) C dL_holds_281 ?_
                    refine h_ior (pc := 283) C dL_holds_283 ?_
                    refine h_istore_9 (pc := 284) C dL_holds_284 (by rfl) ?_
                    refine h_iinc_10 (pc := 286) (v := nI (m + 1)) C dL_holds_286 (nI_1 m) (by rfl) ?_
                    refine h_goto (pc := 289) (tgt := 98) C dL_holds_289 (by decide) ?_
                    exact hold_M C hj hA hv hc n (m + 1) _ _ _ (by omega) nx
                  · exact absurd (Int32.not_lt.mp (hv.bk12 hA.1 _ _)) c274
set_option maxRecDepth 100000 in
set_option maxHeartbeats 1000000 in
theorem hold_B (C : Cx X D cy B cL_holds 14 RL wsL_holds l 3 69 0 0) (hj : JC M P A) (hA : WA c A) (hv : Hv c A.f) (hc : c ≤ 5000) (hb : A.f 5 = nI (bn A.f) ∧ bn A.f ≤ 5000) {a1 a2 a3 a4 a5 a6 a7 a8 a9 : Int32} : ∀ (n k : Nat) (a12 a13 : Option Value), k + n = bn A.f → (∀ a12 a13, G2 X D cy B 0 0 369 M P 378 [some (Value.ref (B + 0)), some (Value.int (a1)), some (Value.int (a2)), some (Value.int (a3)), some (Value.int (a4)), some (Value.int (a5)), some (Value.int (a6)), some (Value.int (a7)), some (Value.int (a8)), some (Value.int (a9)), some (Value.int (li A.f (bn A.f))), some (Value.int (nI ((bn A.f)))), a12, a13] []) → G2 X D cy B 0 0 369 M P 298 [some (Value.ref (B + 0)), some (Value.int (a1)), some (Value.int (a2)), some (Value.int (a3)), some (Value.int (a4)), some (Value.int (a5)), some (Value.int (a6)), some (Value.int (a7)), some (Value.int (a8)), some (Value.int (a9)), some (Value.int (li A.f k)), some (Value.int (nI (k))), a12, a13] []
  | 0, k, a12, a13, hi, nx => by
    have ei : k = bn A.f := by omega
    subst ei
    refine h_iload_11 (pc := 298) C dL_holds_298 ?_
    refine h_aload_0 (pc := 300) C dL_holds_300 ?_
    refine h_iconst (pc := 301) (v := 4) C dL_holds_301 rfl ?_
    refine h_V1ie (pc := 302) C e_L_holds_12 (Nat.le_of_ble_eq_true rfl) rfl dL_holds_302 kk0 (c6_count hj hA) ?_
    rw [aC4, hb.1]
    refine h_icmp_ge (pc := 305) (tgt := 378) C dL_holds_305 (by decide) (fun c305 => ?_) (fun c305 => ?_)
    · exact nx _ _
    · exact absurd (nI_le (Nat.le_refl _) (by omega)) c305
  | n + 1, k, a12, a13, hi, nx => by
    have hd4 := hA.1.d4
    rcases hp : plO A.f (nI k) with _ | p
    · refine h_iload_11 (pc := 298) C dL_holds_298 ?_
      refine h_aload_0 (pc := 300) C dL_holds_300 ?_
      refine h_iconst (pc := 301) (v := 4) C dL_holds_301 rfl ?_
      refine h_V1ie (pc := 302) C e_L_holds_12 (Nat.le_of_ble_eq_true rfl) rfl dL_holds_302 kk0 (c6_count hj hA) ?_
      rw [aC4, hb.1]
      refine h_icmp_ge (pc := 305) (tgt := 378) C dL_holds_305 (by decide) (fun c305 => ?_) (fun c305 => ?_)
      · exact absurd c305 (nI_ge (b := bn A.f) (by omega) (by omega))
      · refine h_aload_0 (pc := 308) C dL_holds_308 ?_
        refine h_iload_11 (pc := 309) C dL_holds_309 ?_
        refine h_iconst (pc := 311) (v := 2) C dL_holds_311 rfl ?_
        refine h_V2ie (pc := 312) C e_L_holds_25 (Nat.le_of_ble_eq_true rfl) rfl dL_holds_312 kk0 (c6_booking hj hA) ?_
        rw [aBoN hp]
        refine h_istore_12 (pc := 315) C dL_holds_315 (by rfl) ?_
        refine h_iload_10 (pc := 317) C dL_holds_317 ?_
        refine h_iload_12 (pc := 319) C dL_holds_319 ?_
        refine h_if_lt (pc := 321) (tgt := 328) C dL_holds_321 (by decide) (fun c321 => ?_) (fun c321 => ?_)
        · refine h_iconst (pc := 328) (v := 0) C dL_holds_328 rfl ?_
          refine h_iadd (pc := 329) C dL_holds_329 ?_
          rw [← li_none hp]
          refine h_istore_10 (pc := 330) C dL_holds_330 (by rfl) ?_
          refine h_iload_12 (pc := 332) C dL_holds_332 ?_
          refine h_if_lt (pc := 334) (tgt := 372) C dL_holds_334 (by decide) (fun c334 => ?_) (fun c334 => ?_)
          · refine h_iinc_11 (pc := 372) (v := nI (k + 1)) C dL_holds_372 (nI_1 k) (by rfl) ?_
            refine h_goto (pc := 375) (tgt := 298) C dL_holds_375 (by decide) ?_
            exact hold_B C hj hA hv hc hb n (k + 1) _ _ (by omega) nx
          · exact absurd (show (-100000001 : Int32) < 0 by decide) c334
        · exact absurd (show (-100000001 : Int32) < 0 by decide) c321
    · have hp2 := plO_lt hp
      obtain ⟨-, -, ⟨d, d1, d2, d3, ed⟩, ⟨h, h1, h2, eh⟩⟩ := hA.1.wb hp2
      have d2 := d2 (by have := hA.1.s30; omega)
      refine h_iload_11 (pc := 298) C dL_holds_298 ?_
      refine h_aload_0 (pc := 300) C dL_holds_300 ?_
      refine h_iconst (pc := 301) (v := 4) C dL_holds_301 rfl ?_
      refine h_V1ie (pc := 302) C e_L_holds_12 (Nat.le_of_ble_eq_true rfl) rfl dL_holds_302 kk0 (c6_count hj hA) ?_
      rw [aC4, hb.1]
      refine h_icmp_ge (pc := 305) (tgt := 378) C dL_holds_305 (by decide) (fun c305 => ?_) (fun c305 => ?_)
      · exact absurd c305 (nI_ge (b := bn A.f) (by omega) (by omega))
      · refine h_aload_0 (pc := 308) C dL_holds_308 ?_
        refine h_iload_11 (pc := 309) C dL_holds_309 ?_
        refine h_iconst (pc := 311) (v := 2) C dL_holds_311 rfl ?_
        refine h_V2ie (pc := 312) C e_L_holds_25 (Nat.le_of_ble_eq_true rfl) rfl dL_holds_312 kk0 (c6_booking hj hA) ?_
        rw [aBo2 hp, ed]
        refine h_istore_12 (pc := 315) C dL_holds_315 (by rfl) ?_
        refine h_iload_10 (pc := 317) C dL_holds_317 ?_
        refine h_iload_12 (pc := 319) C dL_holds_319 ?_
        refine h_if_lt (pc := 321) (tgt := 328) C dL_holds_321 (by decide) (fun c321 => ?_) (fun c321 => ?_)
        · exact absurd c321 (nI_pos (by omega))
        · refine h_iconst (pc := 324) (v := 1) C dL_holds_324 rfl ?_
          refine h_goto (pc := 325) (tgt := 329) C dL_holds_325 (by decide) ?_
          refine h_iadd (pc := 329) C dL_holds_329 ?_
          rw [← li_some hp]
          refine h_istore_10 (pc := 330) C dL_holds_330 (by rfl) ?_
          refine h_iload_12 (pc := 332) C dL_holds_332 ?_
          refine h_if_lt (pc := 334) (tgt := 372) C dL_holds_334 (by decide) (fun c334 => ?_) (fun c334 => ?_)
          · exact absurd c334 (nI_pos (by omega))
          · refine h_iload_12 (pc := 337) C dL_holds_337 ?_
            refine h_aload_0 (pc := 339) C dL_holds_339 ?_
            refine h_iconst (pc := 340) (v := 0) C dL_holds_340 rfl ?_
            refine h_V1ie (pc := 341) C e_L_holds_12 (Nat.le_of_ble_eq_true rfl) rfl dL_holds_341 kk0 (c6_count hj hA) ?_
            rw [aC0, hA.1.d]
            refine h_icmp_le (pc := 344) (tgt := 370) C dL_holds_344 (by decide) (fun c344 => ?_) (fun c344 => ?_)
            · exact absurd c344 (nI_ge (by omega) (by omega))
            · refine h_aload_0 (pc := 347) C dL_holds_347 ?_
              refine h_iload_11 (pc := 348) C dL_holds_348 ?_
              refine h_iconst (pc := 350) (v := 3) C dL_holds_350 rfl ?_
              refine h_V2ie (pc := 351) C e_L_holds_25 (Nat.le_of_ble_eq_true rfl) rfl dL_holds_351 kk0 (c6_booking hj hA) ?_
              rw [aBo3 hp, eh]
              refine h_iconst (pc := 354) (v := 1) C dL_holds_354 rfl ?_
              refine h_icmp_lt (pc := 355) (tgt := 370) C dL_holds_355 (by decide) (fun c355 => ?_) (fun c355 => ?_)
              · exact absurd c355 (nI_nlt (a := h) (b := 1) h1 (by omega))
              · refine h_aload_0 (pc := 358) C dL_holds_358 ?_
                refine h_iload_11 (pc := 359) C dL_holds_359 ?_
                refine h_iconst (pc := 361) (v := 3) C dL_holds_361 rfl ?_
                refine h_V2ie (pc := 362) C e_L_holds_25 (Nat.le_of_ble_eq_true rfl) rfl dL_holds_362 kk0 (c6_booking hj hA) ?_
                rw [aBo3 hp, eh]
                refine h_bipush (pc := 365) (v := 12) C dL_holds_365 rfl ?_
                refine h_icmp_le (pc := 367) (tgt := 372) C dL_holds_367 (by decide) (fun c367 => ?_) (fun c367 => ?_)
                · refine h_iinc_11 (pc := 372) (v := nI (k + 1)) C dL_holds_372 (nI_1 k) (by rfl) ?_
                  refine h_goto (pc := 375) (tgt := 298) C dL_holds_375 (by decide) ?_
                  exact hold_B C hj hA hv hc hb n (k + 1) _ _ (by omega) nx
                · exact absurd (nI_le (b := 12) h2 (by omega)) c367
end HOLD
set_option maxRecDepth 100000 in
set_option maxHeartbeats 1000000 in
theorem l_check {l : Launch} {D : va_G} {cy : Nat → ClassId} {B : Nat} {M : MM} {P : PP} {A : AS} {c : Nat} (hj : JC M P A) (hA : WA c A) (hv : Hv c A.f) (hc : c ≤ 5000) : KI l D cy B yL_holds wsL_holds 3 69 [Value.ref (B + 0)] M P (qi 1 M P) := by
  refine met2_KI (cc := cL_holds) (maxL := 14) (ret := some .boolean) (lv := [some (Value.ref (B + 0)), none, none, none, none, none, none, none, none, none, none, none, none, none]) (by decide) rfl rfl rfl (Nat.le_of_ble_eq_true rfl) ?_
  intro X C F
  obtain ⟨hb1, hb2⟩ := hv.b hc
  obtain ⟨e1, e2, e3, ⟨d, t, k1, k2, k3, k4⟩, e4⟩ := hv.last hA.1 hc
  refine h_iconst (pc := 0) (v := 0) C dL_holds_0 rfl ?_
  refine h_istore_1 (pc := 1) C dL_holds_1 (by rfl) ?_
  refine h_iconst (pc := 2) (v := 0) C dL_holds_2 rfl ?_
  refine h_istore_2 (pc := 3) C dL_holds_3 (by rfl) ?_
  refine h_iconst (pc := 4) (v := 0) C dL_holds_4 rfl ?_
  refine h_istore_3 (pc := 5) C dL_holds_5 (by rfl) ?_
  refine h_iconst (pc := 6) (v := 0) C dL_holds_6 rfl ?_
  refine h_istore_4 (pc := 7) C dL_holds_7 (by rfl) ?_
  refine h_iconst (pc := 9) (v := 0) C dL_holds_9 rfl ?_
  refine h_istore_5 (pc := 10) C dL_holds_10 (by rfl) ?_
  refine h_iconst (pc := 12) (v := 0) C dL_holds_12 rfl ?_
  refine h_istore_6 (pc := 13) C dL_holds_13 (by rfl) ?_
  refine hold_1 C hj hA 6 0 rfl ?_
  refine h_iconst (pc := 83) (v := 0) C dL_holds_83 rfl ?_
  refine h_istore_6 (pc := 84) C dL_holds_84 (by rfl) ?_
  refine h_iconst (pc := 86) (v := 0) C dL_holds_86 rfl ?_
  refine h_istore_7 (pc := 87) C dL_holds_87 (by rfl) ?_
  refine h_iconst (pc := 89) (v := 0) C dL_holds_89 rfl ?_
  refine h_istore_8 (pc := 90) C dL_holds_90 (by rfl) ?_
  refine h_iconst (pc := 92) (v := 0) C dL_holds_92 rfl ?_
  refine h_istore_9 (pc := 93) C dL_holds_93 (by rfl) ?_
  refine h_iconst (pc := 95) (v := 0) C dL_holds_95 rfl ?_
  refine h_istore_10 (pc := 96) C dL_holds_96 (by rfl) ?_
  refine hold_M C hj hA hv hc (mn A.f) 0 _ _ _ (Nat.zero_add _) (fun a11 a12 a13 => ?_)
  refine h_iconst (pc := 292) (v := 0) C dL_holds_292 rfl ?_
  refine h_istore_10 (pc := 293) C dL_holds_293 (by rfl) ?_
  refine h_iconst (pc := 295) (v := 0) C dL_holds_295 rfl ?_
  refine h_istore_11 (pc := 296) C dL_holds_296 (by rfl) ?_
  refine hold_B C hj hA hv hc ⟨hb1, by omega⟩ (bn A.f) 0 _ _ (Nat.zero_add _) (fun b12 b13 => ?_)
  refine h_aload_0 (pc := 378) C dL_holds_378 ?_
  refine h_bipush (pc := 379) (v := 15) C dL_holds_379 rfl ?_
  refine h_V1ie (pc := 381) C e_L_holds_12 (Nat.le_of_ble_eq_true rfl) rfl dL_holds_381 kk0 (c6_count hj hA) ?_
  rw [aC15]
  refine h_iload_2 (pc := 384) C dL_holds_384 ?_
  refine h_isub (pc := 385) C dL_holds_385 ?_
  rw [show A.f 9 - sm (fun i => A.f (13 + 6 * i + 5)) 6 = nI d from k1]
  refine h_istore_11 (pc := 386) C dL_holds_386 (by rfl) ?_
  refine h_iload_3 (pc := 388) C dL_holds_388 ?_
  refine h_aload_0 (pc := 389) C dL_holds_389 ?_
  refine h_bipush (pc := 390) (v := 17) C dL_holds_390 rfl ?_
  refine h_V1ie (pc := 392) C e_L_holds_12 (Nat.le_of_ble_eq_true rfl) rfl dL_holds_392 kk0 (c6_count hj hA) ?_
  rw [aC17]
  refine h_iload_1 (pc := 395) C dL_holds_395 ?_
  refine h_isub (pc := 396) C dL_holds_396 ?_
  refine h_iload_2 (pc := 397) C dL_holds_397 ?_
  refine h_isub (pc := 398) C dL_holds_398 ?_
  refine h_icmp_ne (pc := 399) (tgt := 459) C dL_holds_399 (by decide) (fun c399 => ?_) (fun c399 => ?_)
  · exact absurd e1 c399
  · refine h_iload_3 (pc := 402) C dL_holds_402 ?_
    refine h_aload_0 (pc := 403) C dL_holds_403 ?_
    refine h_bipush (pc := 404) (v := 8) C dL_holds_404 rfl ?_
    refine h_V1ie (pc := 406) C e_L_holds_12 (Nat.le_of_ble_eq_true rfl) rfl dL_holds_406 kk0 (c6_count hj hA) ?_
    rw [aC8]
    refine h_icmp_ne (pc := 409) (tgt := 459) C dL_holds_409 (by decide) (fun c409 => ?_) (fun c409 => ?_)
    · exact absurd ac_sm.symm c409
    · refine h_aload_0 (pc := 412) C dL_holds_412 ?_
      refine h_bipush (pc := 413) (v := 7) C dL_holds_413 rfl ?_
      refine h_V1ie (pc := 415) C e_L_holds_12 (Nat.le_of_ble_eq_true rfl) rfl dL_holds_415 kk0 (c6_count hj hA) ?_
      rw [aC7]
      refine h_aload_0 (pc := 418) C dL_holds_418 ?_
      refine h_bipush (pc := 419) (v := 17) C dL_holds_419 rfl ?_
      refine h_V1ie (pc := 421) C e_L_holds_12 (Nat.le_of_ble_eq_true rfl) rfl dL_holds_421 kk0 (c6_count hj hA) ?_
      rw [aC17]
      refine h_aload_0 (pc := 424) C dL_holds_424 ?_
      refine h_bipush (pc := 425) (v := 16) C dL_holds_425 rfl ?_
      refine h_V1ie (pc := 427) C e_L_holds_12 (Nat.le_of_ble_eq_true rfl) rfl dL_holds_427 kk0 (c6_count hj hA) ?_
      rw [aC16]
      refine h_isub (pc := 430) C dL_holds_430 ?_
      refine h_aload_0 (pc := 431) C dL_holds_431 ?_
      refine h_bipush (pc := 432) (v := 15) C dL_holds_432 rfl ?_
      refine h_V1ie (pc := 434) C e_L_holds_12 (Nat.le_of_ble_eq_true rfl) rfl dL_holds_434 kk0 (c6_count hj hA) ?_
      rw [aC15]
      refine h_isub (pc := 437) C dL_holds_437 ?_
      refine h_icmp_ne (pc := 438) (tgt := 459) C dL_holds_438 (by decide) (fun c438 => ?_) (fun c438 => ?_)
      · exact absurd e2 c438
      · refine h_iload_11 (pc := 441) C dL_holds_441 ?_
        refine h_if_lt (pc := 443) (tgt := 459) C dL_holds_443 (by decide) (fun c443 => ?_) (fun c443 => ?_)
        · exact absurd c443 (nI_pos (by omega))
        · refine h_iload_11 (pc := 446) C dL_holds_446 ?_
          refine h_iconst (pc := 448) (v := 5) C dL_holds_448 rfl ?_
          refine h_iload_8 (pc := 449) C dL_holds_449 ?_
          refine h_imul (pc := 451) C dL_holds_451 ?_
          refine h_icmp_gt (pc := 452) (tgt := 459) C dL_holds_452 (by decide) (fun c452 => ?_) (fun c452 => ?_)
          · rw [show sm (fun m => A.f (49 + 14 * m + 7)) (mn A.f) = nI t from k2, show (5 : Int32) = nI 5 from rfl, pk_mul] at c452
            exact absurd c452 (nI_nlt k3 (by omega))
          · refine h_iconst (pc := 455) (v := 1) C dL_holds_455 rfl ?_
            refine h_goto (pc := 456) (tgt := 460) C dL_holds_456 (by decide) ?_
            refine h_istore_12 (pc := 460) C dL_holds_460 (by rfl) ?_
            refine h_iload_12 (pc := 462) C dL_holds_462 ?_
            refine h_if_eq (pc := 464) (tgt := 525) C dL_holds_464 (by decide) (fun c464 => ?_) (fun c464 => ?_)
            · exact absurd c464 (by decide)
            · refine h_iload_5 (pc := 467) C dL_holds_467 ?_
              refine h_iload_6 (pc := 469) C dL_holds_469 ?_
              refine h_icmp_ne (pc := 471) (tgt := 525) C dL_holds_471 (by decide) (fun c471 => ?_) (fun c471 => ?_)
              · exact absurd e3 c471
              · refine h_iload_4 (pc := 474) C dL_holds_474 ?_
                refine h_aload_0 (pc := 476) C dL_holds_476 ?_
                refine h_iconst (pc := 477) (v := 3) C dL_holds_477 rfl ?_
                refine h_V1ie (pc := 478) C e_L_holds_12 (Nat.le_of_ble_eq_true rfl) rfl dL_holds_478 kk0 (c6_count hj hA) ?_
                rw [aC3]
                refine h_icmp_ne (pc := 481) (tgt := 525) C dL_holds_481 (by decide) (fun c481 => ?_) (fun c481 => ?_)
                · exact absurd (st_all hA.1) c481
                · refine h_iload_10 (pc := 484) C dL_holds_484 ?_
                  refine h_iload_4 (pc := 486) C dL_holds_486 ?_
                  refine h_icmp_ne (pc := 488) (tgt := 525) C dL_holds_488 (by decide) (fun c488 => ?_) (fun c488 => ?_)
                  · exact absurd ((li_all hv hA.1 hc).trans (st_all hA.1).symm) c488
                  · refine h_iload_7 (pc := 491) C dL_holds_491 ?_
                    refine h_aload_0 (pc := 493) C dL_holds_493 ?_
                    refine h_bipush (pc := 494) (v := 12) C dL_holds_494 rfl ?_
                    refine h_V1ie (pc := 496) C e_L_holds_12 (Nat.le_of_ble_eq_true rfl) rfl dL_holds_496 kk0 (c6_count hj hA) ?_
                    rw [aC12]
                    refine h_icmp_ne (pc := 499) (tgt := 525) C dL_holds_499 (by decide) (fun c499 => ?_) (fun c499 => ?_)
                    · exact absurd rfl c499
                    · refine h_aload_0 (pc := 502) C dL_holds_502 ?_
                      refine h_iconst (pc := 503) (v := 5) C dL_holds_503 rfl ?_
                      refine h_V1ie (pc := 504) C e_L_holds_12 (Nat.le_of_ble_eq_true rfl) rfl dL_holds_504 kk0 (c6_count hj hA) ?_
                      rw [aC5]
                      refine h_aload_0 (pc := 507) C dL_holds_507 ?_
                      refine h_iconst (pc := 508) (v := 3) C dL_holds_508 rfl ?_
                      refine h_V1ie (pc := 509) C e_L_holds_12 (Nat.le_of_ble_eq_true rfl) rfl dL_holds_509 kk0 (c6_count hj hA) ?_
                      rw [aC3]
                      refine h_iadd (pc := 512) C dL_holds_512 ?_
                      refine h_aload_0 (pc := 513) C dL_holds_513 ?_
                      refine h_iconst (pc := 514) (v := 4) C dL_holds_514 rfl ?_
                      refine h_V1ie (pc := 515) C e_L_holds_12 (Nat.le_of_ble_eq_true rfl) rfl dL_holds_515 kk0 (c6_count hj hA) ?_
                      rw [aC4]
                      refine h_icmp_gt (pc := 518) (tgt := 525) C dL_holds_518 (by decide) (fun c518 => ?_) (fun c518 => ?_)
                      · exact absurd c518 (Int32.not_lt.mpr e4)
                      · refine h_iconst (pc := 521) (v := 1) C dL_holds_521 rfl ?_
                        refine h_goto (pc := 522) (tgt := 526) C dL_holds_522 (by decide) ?_
                        exact h_zret (post := (qi 1 M P)) C F dL_holds_526 (by first | exact Or.inl rfl | exact Or.inr rfl) ⟨rfl, rfl, rfl⟩
