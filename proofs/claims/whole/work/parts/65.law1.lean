set_option maxRecDepth 100000 in
set_option maxHeartbeats 1000000 in
theorem law_0 {X : GX} {l : Launch} {D : va_G} {cy : Nat → ClassId} {B b L : Nat} {xs : Nat → Int32} {M : MM} {P : PP} (C : Cx X D cy B cL_law 8 RL wsL_law l 8 278 600000 7302250) (S : Sx X B b L xs) (hL : L ≤ 2560) {i c : Nat} {A : AS} (hi : i + 4 < L) (hj : JC M P A) (hm : JM M P A) (hA : WA c A) (hT : TA A) (hc : c + 60 ≤ 40000) (nx : ∀ (M1 : MM) (P1 : PP) (A1 : AS), JC M1 P1 A1 → JM M1 P1 A1 → WA (c + 60) A1 → TA A1 → G X D cy B 600000 7302250 376 M1 P1 919 [some (Value.ref b), some (Value.ref (B + 0)), some (Value.ref (B + 369)), some (Value.int (nI (i))), none, none, none, none] []) : G X D cy B 600000 7302250 376 M P 156 [some (Value.ref b), some (Value.ref (B + 0)), some (Value.ref (B + 369)), some (Value.int (nI (i))), none, none, none, none] [] := by
  refine g_aload_1 (pc := 156) C dL_law_156 ?_
  refine g_aload_0 (pc := 157) C dL_law_157 ?_
  refine g_iload_3 (pc := 158) C dL_law_158 ?_
  refine g_iconst (pc := 159) (v := 1) C dL_law_159 rfl ?_
  refine g_iadd (pc := 160) C dL_law_160 ?_
  refine g_sld (pc := 161) (j := i + 1) C S (show nI (i) + 1 = nI (i + 1) from nI_add _ 1) (by omega) hL dL_law_161 ?_
  refine g_aload_0 (pc := 162) C dL_law_162 ?_
  refine g_iload_3 (pc := 163) C dL_law_163 ?_
  refine g_iconst (pc := 164) (v := 2) C dL_law_164 rfl ?_
  refine g_iadd (pc := 165) C dL_law_165 ?_
  refine g_sld (pc := 166) (j := i + 2) C S (show nI (i) + 2 = nI (i + 2) from nI_add _ 2) (by omega) hL dL_law_166 ?_
  refine g_aload_0 (pc := 167) C dL_law_167 ?_
  refine g_iload_3 (pc := 168) C dL_law_168 ?_
  refine g_iconst (pc := 169) (v := 3) C dL_law_169 rfl ?_
  refine g_iadd (pc := 170) C dL_law_170 ?_
  refine g_sld (pc := 171) (j := i + 3) C S (show nI (i) + 3 = nI (i + 3) from nI_add _ 3) (by omega) hL dL_law_171 ?_
  refine g_V3i (pc := 172) C e_L_law_13 (Nat.le_of_ble_eq_true rfl) rfl dL_law_172 kk0 (c6_buy hj hA) (fun r1 M1 P1 hq1 => ?_)
  obtain ⟨e1, j1, fh1⟩ := hq1
  have m1 := JM_FH hm fh1
  refine g_aload_2 (pc := 175) C dL_law_175 ?_
  refine g_aload_0 (pc := 176) C dL_law_176 ?_
  refine g_iload_3 (pc := 177) C dL_law_177 ?_
  refine g_iconst (pc := 178) (v := 1) C dL_law_178 rfl ?_
  refine g_iadd (pc := 179) C dL_law_179 ?_
  refine g_sld (pc := 180) (j := i + 1) C S (show nI (i) + 1 = nI (i + 1) from nI_add _ 1) (by omega) hL dL_law_180 ?_
  refine g_aload_0 (pc := 181) C dL_law_181 ?_
  refine g_iload_3 (pc := 182) C dL_law_182 ?_
  refine g_iconst (pc := 183) (v := 2) C dL_law_183 rfl ?_
  refine g_iadd (pc := 184) C dL_law_184 ?_
  refine g_sld (pc := 185) (j := i + 2) C S (show nI (i) + 2 = nI (i + 2) from nI_add _ 2) (by omega) hL dL_law_185 ?_
  refine g_aload_0 (pc := 186) C dL_law_186 ?_
  refine g_iload_3 (pc := 187) C dL_law_187 ?_
  refine g_iconst (pc := 188) (v := 3) C dL_law_188 rfl ?_
  refine g_iadd (pc := 189) C dL_law_189 ?_
  refine g_sld (pc := 190) (j := i + 3) C S (show nI (i) + 3 = nI (i + 3) from nI_add _ 3) (by omega) hL dL_law_190 ?_
  refine g_V3i (pc := 191) C e_L_law_17 (Nat.le_of_ble_eq_true rfl) rfl dL_law_191 kk369 (c7_buy m1 hA) (fun r2 M2 P2 hq2 => ?_)
  obtain ⟨e2, m2, fl2⟩ := hq2
  have wa : WA (c + 60) (sBuy A (xs (i + 1)) (xs (i + 2)) (xs (i + 3))).2 := WA_mono (WA_sBuy hA) (by omega) hc
  have ta : TA (sBuy A (xs (i + 1)) (xs (i + 2)) (xs (i + 3))).2 := TA_sBuy hT
  have j2 := JC_FL j1 wa.z fl2
  refine g_icmp_eq (pc := 194) (tgt := 919) C dL_law_194 (by decide) (fun c194 => ?_) (fun c194 => ?_)
  · exact nx _ _ _ j2 m2 wa ta
  · exact absurd (e1.trans e2.symm) c194

set_option maxRecDepth 100000 in
set_option maxHeartbeats 1000000 in
theorem law_1 {X : GX} {l : Launch} {D : va_G} {cy : Nat → ClassId} {B b L : Nat} {xs : Nat → Int32} {M : MM} {P : PP} (C : Cx X D cy B cL_law 8 RL wsL_law l 8 278 600000 7302250) (S : Sx X B b L xs) (hL : L ≤ 2560) {i c : Nat} {A : AS} (hi : i + 4 < L) (hj : JC M P A) (hm : JM M P A) (hA : WA c A) (hT : TA A) (hc : c + 60 ≤ 40000) (nx : ∀ (M1 : MM) (P1 : PP) (A1 : AS), JC M1 P1 A1 → JM M1 P1 A1 → WA (c + 60) A1 → TA A1 → G X D cy B 600000 7302250 376 M1 P1 919 [some (Value.ref b), some (Value.ref (B + 0)), some (Value.ref (B + 369)), some (Value.int (nI (i))), none, none, none, none] []) : G X D cy B 600000 7302250 376 M P 199 [some (Value.ref b), some (Value.ref (B + 0)), some (Value.ref (B + 369)), some (Value.int (nI (i))), none, none, none, none] [] := by
  refine g_aload_1 (pc := 199) C dL_law_199 ?_
  refine g_aload_0 (pc := 200) C dL_law_200 ?_
  refine g_iload_3 (pc := 201) C dL_law_201 ?_
  refine g_iconst (pc := 202) (v := 1) C dL_law_202 rfl ?_
  refine g_iadd (pc := 203) C dL_law_203 ?_
  refine g_sld (pc := 204) (j := i + 1) C S (show nI (i) + 1 = nI (i + 1) from nI_add _ 1) (by omega) hL dL_law_204 ?_
  refine g_aload_0 (pc := 205) C dL_law_205 ?_
  refine g_iload_3 (pc := 206) C dL_law_206 ?_
  refine g_iconst (pc := 207) (v := 2) C dL_law_207 rfl ?_
  refine g_iadd (pc := 208) C dL_law_208 ?_
  refine g_sld (pc := 209) (j := i + 2) C S (show nI (i) + 2 = nI (i + 2) from nI_add _ 2) (by omega) hL dL_law_209 ?_
  refine g_V2i (pc := 210) C e_L_law_18 (Nat.le_of_ble_eq_true rfl) rfl dL_law_210 kk0 (c6_license hj hA) (fun r1 M1 P1 hq1 => ?_)
  obtain ⟨e1, j1, fh1⟩ := hq1
  have m1 := JM_FH hm fh1
  refine g_aload_2 (pc := 213) C dL_law_213 ?_
  refine g_aload_0 (pc := 214) C dL_law_214 ?_
  refine g_iload_3 (pc := 215) C dL_law_215 ?_
  refine g_iconst (pc := 216) (v := 1) C dL_law_216 rfl ?_
  refine g_iadd (pc := 217) C dL_law_217 ?_
  refine g_sld (pc := 218) (j := i + 1) C S (show nI (i) + 1 = nI (i + 1) from nI_add _ 1) (by omega) hL dL_law_218 ?_
  refine g_aload_0 (pc := 219) C dL_law_219 ?_
  refine g_iload_3 (pc := 220) C dL_law_220 ?_
  refine g_iconst (pc := 221) (v := 2) C dL_law_221 rfl ?_
  refine g_iadd (pc := 222) C dL_law_222 ?_
  refine g_sld (pc := 223) (j := i + 2) C S (show nI (i) + 2 = nI (i + 2) from nI_add _ 2) (by omega) hL dL_law_223 ?_
  refine g_V2i (pc := 224) C e_L_law_22 (Nat.le_of_ble_eq_true rfl) rfl dL_law_224 kk369 (c7_license m1 hA) (fun r2 M2 P2 hq2 => ?_)
  obtain ⟨e2, m2, fl2⟩ := hq2
  have wa : WA (c + 60) (sLic A (xs (i + 1)) (xs (i + 2))).2 := WA_mono (WA_sLic hA) (by omega) hc
  have ta : TA (sLic A (xs (i + 1)) (xs (i + 2))).2 := TA_sLic hT
  have j2 := JC_FL j1 wa.z fl2
  refine g_icmp_eq (pc := 227) (tgt := 919) C dL_law_227 (by decide) (fun c227 => ?_) (fun c227 => ?_)
  · exact nx _ _ _ j2 m2 wa ta
  · exact absurd (e1.trans e2.symm) c227

set_option maxRecDepth 100000 in
set_option maxHeartbeats 1000000 in
theorem law_2 {X : GX} {l : Launch} {D : va_G} {cy : Nat → ClassId} {B b L : Nat} {xs : Nat → Int32} {M : MM} {P : PP} (C : Cx X D cy B cL_law 8 RL wsL_law l 8 278 600000 7302250) (S : Sx X B b L xs) (hL : L ≤ 2560) {i c : Nat} {A : AS} (hi : i + 4 < L) (hj : JC M P A) (hm : JM M P A) (hA : WA c A) (hT : TA A) (hc : c + 60 ≤ 40000) (nx : ∀ (M1 : MM) (P1 : PP) (A1 : AS), JC M1 P1 A1 → JM M1 P1 A1 → WA (c + 60) A1 → TA A1 → G X D cy B 600000 7302250 376 M1 P1 919 [some (Value.ref b), some (Value.ref (B + 0)), some (Value.ref (B + 369)), some (Value.int (nI (i))), none, none, none, none] []) : G X D cy B 600000 7302250 376 M P 232 [some (Value.ref b), some (Value.ref (B + 0)), some (Value.ref (B + 369)), some (Value.int (nI (i))), none, none, none, none] [] := by
  refine g_aload_1 (pc := 232) C dL_law_232 ?_
  refine g_aload_0 (pc := 233) C dL_law_233 ?_
  refine g_iload_3 (pc := 234) C dL_law_234 ?_
  refine g_iconst (pc := 235) (v := 1) C dL_law_235 rfl ?_
  refine g_iadd (pc := 236) C dL_law_236 ?_
  refine g_sld (pc := 237) (j := i + 1) C S (show nI (i) + 1 = nI (i + 1) from nI_add _ 1) (by omega) hL dL_law_237 ?_
  refine g_aload_0 (pc := 238) C dL_law_238 ?_
  refine g_iload_3 (pc := 239) C dL_law_239 ?_
  refine g_iconst (pc := 240) (v := 2) C dL_law_240 rfl ?_
  refine g_iadd (pc := 241) C dL_law_241 ?_
  refine g_sld (pc := 242) (j := i + 2) C S (show nI (i) + 2 = nI (i + 2) from nI_add _ 2) (by omega) hL dL_law_242 ?_
  refine g_V2i (pc := 243) C e_L_law_23 (Nat.le_of_ble_eq_true rfl) rfl dL_law_243 kk0 (c6_rate hj hA) (fun r1 M1 P1 hq1 => ?_)
  obtain ⟨e1, j1, fh1⟩ := hq1
  have m1 := JM_FH hm fh1
  refine g_aload_2 (pc := 246) C dL_law_246 ?_
  refine g_aload_0 (pc := 247) C dL_law_247 ?_
  refine g_iload_3 (pc := 248) C dL_law_248 ?_
  refine g_iconst (pc := 249) (v := 1) C dL_law_249 rfl ?_
  refine g_iadd (pc := 250) C dL_law_250 ?_
  refine g_sld (pc := 251) (j := i + 1) C S (show nI (i) + 1 = nI (i + 1) from nI_add _ 1) (by omega) hL dL_law_251 ?_
  refine g_aload_0 (pc := 252) C dL_law_252 ?_
  refine g_iload_3 (pc := 253) C dL_law_253 ?_
  refine g_iconst (pc := 254) (v := 2) C dL_law_254 rfl ?_
  refine g_iadd (pc := 255) C dL_law_255 ?_
  refine g_sld (pc := 256) (j := i + 2) C S (show nI (i) + 2 = nI (i + 2) from nI_add _ 2) (by omega) hL dL_law_256 ?_
  refine g_V2i (pc := 257) C e_L_law_26 (Nat.le_of_ble_eq_true rfl) rfl dL_law_257 kk369 (c7_rate m1 hA) (fun r2 M2 P2 hq2 => ?_)
  obtain ⟨e2, m2, fl2⟩ := hq2
  have wa : WA (c + 60) (sRate A (xs (i + 1)) (xs (i + 2))).2 := WA_mono (WA_sRate hA) (by omega) hc
  have ta : TA (sRate A (xs (i + 1)) (xs (i + 2))).2 := TA_sRate hT
  have j2 := JC_FL j1 wa.z fl2
  refine g_icmp_eq (pc := 260) (tgt := 919) C dL_law_260 (by decide) (fun c260 => ?_) (fun c260 => ?_)
  · exact nx _ _ _ j2 m2 wa ta
  · exact absurd (e1.trans e2.symm) c260

set_option maxRecDepth 100000 in
set_option maxHeartbeats 1000000 in
theorem law_3 {X : GX} {l : Launch} {D : va_G} {cy : Nat → ClassId} {B b L : Nat} {xs : Nat → Int32} {M : MM} {P : PP} (C : Cx X D cy B cL_law 8 RL wsL_law l 8 278 600000 7302250) (S : Sx X B b L xs) (hL : L ≤ 2560) {i c : Nat} {A : AS} (hi : i + 4 < L) (hj : JC M P A) (hm : JM M P A) (hA : WA c A) (hT : TA A) (hc : c + 60 ≤ 40000) (nx : ∀ (M1 : MM) (P1 : PP) (A1 : AS), JC M1 P1 A1 → JM M1 P1 A1 → WA (c + 60) A1 → TA A1 → G X D cy B 600000 7302250 376 M1 P1 919 [some (Value.ref b), some (Value.ref (B + 0)), some (Value.ref (B + 369)), some (Value.int (nI (i))), none, none, none, none] []) : G X D cy B 600000 7302250 376 M P 265 [some (Value.ref b), some (Value.ref (B + 0)), some (Value.ref (B + 369)), some (Value.int (nI (i))), none, none, none, none] [] := by
  refine g_aload_1 (pc := 265) C dL_law_265 ?_
  refine g_aload_0 (pc := 266) C dL_law_266 ?_
  refine g_iload_3 (pc := 267) C dL_law_267 ?_
  refine g_iconst (pc := 268) (v := 1) C dL_law_268 rfl ?_
  refine g_iadd (pc := 269) C dL_law_269 ?_
  refine g_sld (pc := 270) (j := i + 1) C S (show nI (i) + 1 = nI (i + 1) from nI_add _ 1) (by omega) hL dL_law_270 ?_
  refine g_aload_0 (pc := 271) C dL_law_271 ?_
  refine g_iload_3 (pc := 272) C dL_law_272 ?_
  refine g_iconst (pc := 273) (v := 2) C dL_law_273 rfl ?_
  refine g_iadd (pc := 274) C dL_law_274 ?_
  refine g_sld (pc := 275) (j := i + 2) C S (show nI (i) + 2 = nI (i + 2) from nI_add _ 2) (by omega) hL dL_law_275 ?_
  refine g_aload_0 (pc := 276) C dL_law_276 ?_
  refine g_iload_3 (pc := 277) C dL_law_277 ?_
  refine g_iconst (pc := 278) (v := 3) C dL_law_278 rfl ?_
  refine g_iadd (pc := 279) C dL_law_279 ?_
  refine g_sld (pc := 280) (j := i + 3) C S (show nI (i) + 3 = nI (i + 3) from nI_add _ 3) (by omega) hL dL_law_280 ?_
  refine g_V3i (pc := 281) C e_L_law_27 (Nat.le_of_ble_eq_true rfl) rfl dL_law_281 kk0 (c6_fill hj hA) (fun r1 M1 P1 hq1 => ?_)
  obtain ⟨e1, j1, fh1⟩ := hq1
  have m1 := JM_FH hm fh1
  refine g_aload_2 (pc := 284) C dL_law_284 ?_
  refine g_aload_0 (pc := 285) C dL_law_285 ?_
  refine g_iload_3 (pc := 286) C dL_law_286 ?_
  refine g_iconst (pc := 287) (v := 1) C dL_law_287 rfl ?_
  refine g_iadd (pc := 288) C dL_law_288 ?_
  refine g_sld (pc := 289) (j := i + 1) C S (show nI (i) + 1 = nI (i + 1) from nI_add _ 1) (by omega) hL dL_law_289 ?_
  refine g_aload_0 (pc := 290) C dL_law_290 ?_
  refine g_iload_3 (pc := 291) C dL_law_291 ?_
  refine g_iconst (pc := 292) (v := 2) C dL_law_292 rfl ?_
  refine g_iadd (pc := 293) C dL_law_293 ?_
  refine g_sld (pc := 294) (j := i + 2) C S (show nI (i) + 2 = nI (i + 2) from nI_add _ 2) (by omega) hL dL_law_294 ?_
  refine g_aload_0 (pc := 295) C dL_law_295 ?_
  refine g_iload_3 (pc := 296) C dL_law_296 ?_
  refine g_iconst (pc := 297) (v := 3) C dL_law_297 rfl ?_
  refine g_iadd (pc := 298) C dL_law_298 ?_
  refine g_sld (pc := 299) (j := i + 3) C S (show nI (i) + 3 = nI (i + 3) from nI_add _ 3) (by omega) hL dL_law_299 ?_
  refine g_V3i (pc := 300) C e_L_law_30 (Nat.le_of_ble_eq_true rfl) rfl dL_law_300 kk369 (c7_fill m1 hA) (fun r2 M2 P2 hq2 => ?_)
  obtain ⟨e2, m2, fl2⟩ := hq2
  have wa : WA (c + 60) (sFill A (xs (i + 1)) (xs (i + 2)) (xs (i + 3))).2 := WA_mono (WA_sFill hA) (by omega) hc
  have ta : TA (sFill A (xs (i + 1)) (xs (i + 2)) (xs (i + 3))).2 := TA_sFill hT
  have j2 := JC_FL j1 wa.z fl2
  refine g_icmp_eq (pc := 303) (tgt := 919) C dL_law_303 (by decide) (fun c303 => ?_) (fun c303 => ?_)
  · exact nx _ _ _ j2 m2 wa ta
  · exact absurd (e1.trans e2.symm) c303

set_option maxRecDepth 100000 in
set_option maxHeartbeats 1000000 in
theorem law_4 {X : GX} {l : Launch} {D : va_G} {cy : Nat → ClassId} {B b L : Nat} {xs : Nat → Int32} {M : MM} {P : PP} (C : Cx X D cy B cL_law 8 RL wsL_law l 8 278 600000 7302250) (S : Sx X B b L xs) (hL : L ≤ 2560) {i c : Nat} {A : AS} (hi : i + 4 < L) (hj : JC M P A) (hm : JM M P A) (hA : WA c A) (hT : TA A) (hc : c + 60 ≤ 40000) (nx : ∀ (M1 : MM) (P1 : PP) (A1 : AS), JC M1 P1 A1 → JM M1 P1 A1 → WA (c + 60) A1 → TA A1 → G X D cy B 600000 7302250 376 M1 P1 919 [some (Value.ref b), some (Value.ref (B + 0)), some (Value.ref (B + 369)), some (Value.int (nI (i))), none, none, none, none] []) : G X D cy B 600000 7302250 376 M P 308 [some (Value.ref b), some (Value.ref (B + 0)), some (Value.ref (B + 369)), some (Value.int (nI (i))), none, none, none, none] [] := by
  refine g_aload_1 (pc := 308) C dL_law_308 ?_
  refine g_aload_0 (pc := 309) C dL_law_309 ?_
  refine g_iload_3 (pc := 310) C dL_law_310 ?_
  refine g_iconst (pc := 311) (v := 1) C dL_law_311 rfl ?_
  refine g_iadd (pc := 312) C dL_law_312 ?_
  refine g_sld (pc := 313) (j := i + 1) C S (show nI (i) + 1 = nI (i + 1) from nI_add _ 1) (by omega) hL dL_law_313 ?_
  refine g_V1i (pc := 314) C e_L_law_31 (Nat.le_of_ble_eq_true rfl) rfl dL_law_314 kk0 (c6_mend hj hA) (fun r1 M1 P1 hq1 => ?_)
  obtain ⟨e1, j1, fh1⟩ := hq1
  have m1 := JM_FH hm fh1
  refine g_aload_2 (pc := 317) C dL_law_317 ?_
  refine g_aload_0 (pc := 318) C dL_law_318 ?_
  refine g_iload_3 (pc := 319) C dL_law_319 ?_
  refine g_iconst (pc := 320) (v := 1) C dL_law_320 rfl ?_
  refine g_iadd (pc := 321) C dL_law_321 ?_
  refine g_sld (pc := 322) (j := i + 1) C S (show nI (i) + 1 = nI (i + 1) from nI_add _ 1) (by omega) hL dL_law_322 ?_
  refine g_V1i (pc := 323) C e_L_law_35 (Nat.le_of_ble_eq_true rfl) rfl dL_law_323 kk369 (c7_mend m1 hA) (fun r2 M2 P2 hq2 => ?_)
  obtain ⟨e2, m2, fl2⟩ := hq2
  have wa : WA (c + 60) (sMend A (xs (i + 1))).2 := WA_mono (WA_sMend hA) (by omega) hc
  have ta : TA (sMend A (xs (i + 1))).2 := TA_sMend hT
  have j2 := JC_FL j1 wa.z fl2
  refine g_icmp_eq (pc := 326) (tgt := 919) C dL_law_326 (by decide) (fun c326 => ?_) (fun c326 => ?_)
  · exact nx _ _ _ j2 m2 wa ta
  · exact absurd (e1.trans e2.symm) c326

set_option maxRecDepth 100000 in
set_option maxHeartbeats 1000000 in
theorem law_5 {X : GX} {l : Launch} {D : va_G} {cy : Nat → ClassId} {B b L : Nat} {xs : Nat → Int32} {M : MM} {P : PP} (C : Cx X D cy B cL_law 8 RL wsL_law l 8 278 600000 7302250) (S : Sx X B b L xs) (hL : L ≤ 2560) {i c : Nat} {A : AS} (hi : i + 4 < L) (hj : JC M P A) (hm : JM M P A) (hA : WA c A) (hT : TA A) (hc : c + 60 ≤ 40000) (nx : ∀ (M1 : MM) (P1 : PP) (A1 : AS), JC M1 P1 A1 → JM M1 P1 A1 → WA (c + 60) A1 → TA A1 → G X D cy B 600000 7302250 376 M1 P1 919 [some (Value.ref b), some (Value.ref (B + 0)), some (Value.ref (B + 369)), some (Value.int (nI (i))), none, none, none, none] []) : G X D cy B 600000 7302250 376 M P 331 [some (Value.ref b), some (Value.ref (B + 0)), some (Value.ref (B + 369)), some (Value.int (nI (i))), none, none, none, none] [] := by
  refine g_aload_1 (pc := 331) C dL_law_331 ?_
  refine g_aload_0 (pc := 332) C dL_law_332 ?_
  refine g_iload_3 (pc := 333) C dL_law_333 ?_
  refine g_iconst (pc := 334) (v := 1) C dL_law_334 rfl ?_
  refine g_iadd (pc := 335) C dL_law_335 ?_
  refine g_sld (pc := 336) (j := i + 1) C S (show nI (i) + 1 = nI (i + 1) from nI_add _ 1) (by omega) hL dL_law_336 ?_
  refine g_aload_0 (pc := 337) C dL_law_337 ?_
  refine g_iload_3 (pc := 338) C dL_law_338 ?_
  refine g_iconst (pc := 339) (v := 2) C dL_law_339 rfl ?_
  refine g_iadd (pc := 340) C dL_law_340 ?_
  refine g_sld (pc := 341) (j := i + 2) C S (show nI (i) + 2 = nI (i + 2) from nI_add _ 2) (by omega) hL dL_law_341 ?_
  refine g_V2i (pc := 342) C e_L_law_36 (Nat.le_of_ble_eq_true rfl) rfl dL_law_342 kk0 (c6_pay hj hA) (fun r1 M1 P1 hq1 => ?_)
  obtain ⟨e1, j1, fh1⟩ := hq1
  have m1 := JM_FH hm fh1
  refine g_aload_2 (pc := 345) C dL_law_345 ?_
  refine g_aload_0 (pc := 346) C dL_law_346 ?_
  refine g_iload_3 (pc := 347) C dL_law_347 ?_
  refine g_iconst (pc := 348) (v := 1) C dL_law_348 rfl ?_
  refine g_iadd (pc := 349) C dL_law_349 ?_
  refine g_sld (pc := 350) (j := i + 1) C S (show nI (i) + 1 = nI (i + 1) from nI_add _ 1) (by omega) hL dL_law_350 ?_
  refine g_aload_0 (pc := 351) C dL_law_351 ?_
  refine g_iload_3 (pc := 352) C dL_law_352 ?_
  refine g_iconst (pc := 353) (v := 2) C dL_law_353 rfl ?_
  refine g_iadd (pc := 354) C dL_law_354 ?_
  refine g_sld (pc := 355) (j := i + 2) C S (show nI (i) + 2 = nI (i + 2) from nI_add _ 2) (by omega) hL dL_law_355 ?_
  refine g_V2i (pc := 356) C e_L_law_39 (Nat.le_of_ble_eq_true rfl) rfl dL_law_356 kk369 (c7_pay m1 hA) (fun r2 M2 P2 hq2 => ?_)
  obtain ⟨e2, m2, fl2⟩ := hq2
  have wa : WA (c + 60) (sPay A (xs (i + 1)) (xs (i + 2))).2 := WA_mono (WA_sPay hA) (by omega) hc
  have ta : TA (sPay A (xs (i + 1)) (xs (i + 2))).2 := TA_sPay hT
  have j2 := JC_FL j1 wa.z fl2
  refine g_icmp_eq (pc := 359) (tgt := 919) C dL_law_359 (by decide) (fun c359 => ?_) (fun c359 => ?_)
  · exact nx _ _ _ j2 m2 wa ta
  · exact absurd (e1.trans e2.symm) c359

set_option maxRecDepth 100000 in
set_option maxHeartbeats 1000000 in
theorem law_6 {X : GX} {l : Launch} {D : va_G} {cy : Nat → ClassId} {B b L : Nat} {xs : Nat → Int32} {M : MM} {P : PP} (C : Cx X D cy B cL_law 8 RL wsL_law l 8 278 600000 7302250) (S : Sx X B b L xs) (hL : L ≤ 2560) {i c : Nat} {A : AS} (hi : i + 4 < L) (hj : JC M P A) (hm : JM M P A) (hA : WA c A) (hT : TA A) (hc : c + 60 ≤ 40000) (nx : ∀ (M1 : MM) (P1 : PP) (A1 : AS), JC M1 P1 A1 → JM M1 P1 A1 → WA (c + 60) A1 → TA A1 → G X D cy B 600000 7302250 376 M1 P1 919 [some (Value.ref b), some (Value.ref (B + 0)), some (Value.ref (B + 369)), some (Value.int (nI (i))), none, none, none, none] []) : G X D cy B 600000 7302250 376 M P 364 [some (Value.ref b), some (Value.ref (B + 0)), some (Value.ref (B + 369)), some (Value.int (nI (i))), none, none, none, none] [] := by
  refine g_aload_1 (pc := 364) C dL_law_364 ?_
  refine g_aload_0 (pc := 365) C dL_law_365 ?_
  refine g_iload_3 (pc := 366) C dL_law_366 ?_
  refine g_iconst (pc := 367) (v := 1) C dL_law_367 rfl ?_
  refine g_iadd (pc := 368) C dL_law_368 ?_
  refine g_sld (pc := 369) (j := i + 1) C S (show nI (i) + 1 = nI (i + 1) from nI_add _ 1) (by omega) hL dL_law_369 ?_
  refine g_aload_0 (pc := 370) C dL_law_370 ?_
  refine g_iload_3 (pc := 371) C dL_law_371 ?_
  refine g_iconst (pc := 372) (v := 2) C dL_law_372 rfl ?_
  refine g_iadd (pc := 373) C dL_law_373 ?_
  refine g_sld (pc := 374) (j := i + 2) C S (show nI (i) + 2 = nI (i + 2) from nI_add _ 2) (by omega) hL dL_law_374 ?_
  refine g_aload_0 (pc := 375) C dL_law_375 ?_
  refine g_iload_3 (pc := 376) C dL_law_376 ?_
  refine g_iconst (pc := 377) (v := 3) C dL_law_377 rfl ?_
  refine g_iadd (pc := 378) C dL_law_378 ?_
  refine g_sld (pc := 379) (j := i + 3) C S (show nI (i) + 3 = nI (i + 3) from nI_add _ 3) (by omega) hL dL_law_379 ?_
  refine g_aload_0 (pc := 380) C dL_law_380 ?_
  refine g_iload_3 (pc := 381) C dL_law_381 ?_
  refine g_iconst (pc := 382) (v := 4) C dL_law_382 rfl ?_
  refine g_iadd (pc := 383) C dL_law_383 ?_
  refine g_sld (pc := 384) (j := i + 4) C S (show nI (i) + 4 = nI (i + 4) from nI_add _ 4) (by omega) hL dL_law_384 ?_
  refine g_V4i (pc := 385) C e_L_law_40 (Nat.le_of_ble_eq_true rfl) rfl dL_law_385 kk0 (c6_book hj hA) (fun r1 M1 P1 hq1 => ?_)
  obtain ⟨e1, j1, fh1⟩ := hq1
  have m1 := JM_FH hm fh1
  refine g_aload_2 (pc := 388) C dL_law_388 ?_
  refine g_aload_0 (pc := 389) C dL_law_389 ?_
  refine g_iload_3 (pc := 390) C dL_law_390 ?_
  refine g_iconst (pc := 391) (v := 1) C dL_law_391 rfl ?_
  refine g_iadd (pc := 392) C dL_law_392 ?_
  refine g_sld (pc := 393) (j := i + 1) C S (show nI (i) + 1 = nI (i + 1) from nI_add _ 1) (by omega) hL dL_law_393 ?_
  refine g_aload_0 (pc := 394) C dL_law_394 ?_
  refine g_iload_3 (pc := 395) C dL_law_395 ?_
  refine g_iconst (pc := 396) (v := 2) C dL_law_396 rfl ?_
  refine g_iadd (pc := 397) C dL_law_397 ?_
  refine g_sld (pc := 398) (j := i + 2) C S (show nI (i) + 2 = nI (i + 2) from nI_add _ 2) (by omega) hL dL_law_398 ?_
  refine g_aload_0 (pc := 399) C dL_law_399 ?_
  refine g_iload_3 (pc := 400) C dL_law_400 ?_
  refine g_iconst (pc := 401) (v := 3) C dL_law_401 rfl ?_
  refine g_iadd (pc := 402) C dL_law_402 ?_
  refine g_sld (pc := 403) (j := i + 3) C S (show nI (i) + 3 = nI (i + 3) from nI_add _ 3) (by omega) hL dL_law_403 ?_
  refine g_aload_0 (pc := 404) C dL_law_404 ?_
  refine g_iload_3 (pc := 405) C dL_law_405 ?_
  refine g_iconst (pc := 406) (v := 4) C dL_law_406 rfl ?_
  refine g_iadd (pc := 407) C dL_law_407 ?_
  refine g_sld (pc := 408) (j := i + 4) C S (show nI (i) + 4 = nI (i + 4) from nI_add _ 4) (by omega) hL dL_law_408 ?_
  refine g_V4i (pc := 409) C e_L_law_44 (Nat.le_of_ble_eq_true rfl) rfl dL_law_409 kk369 (c7_book m1 hA) (fun r2 M2 P2 hq2 => ?_)
  obtain ⟨e2, m2, fl2⟩ := hq2
  have wa : WA (c + 60) (sBook A (xs (i + 1)) (xs (i + 2)) (xs (i + 3)) (xs (i + 4))).2 := WA_mono (WA_sBook hA) (by omega) hc
  have ta : TA (sBook A (xs (i + 1)) (xs (i + 2)) (xs (i + 3)) (xs (i + 4))).2 := TA_sBook hT
  have j2 := JC_FL j1 wa.z fl2
  refine g_icmp_eq (pc := 412) (tgt := 919) C dL_law_412 (by decide) (fun c412 => ?_) (fun c412 => ?_)
  · exact nx _ _ _ j2 m2 wa ta
  · exact absurd (e1.trans e2.symm) c412

set_option maxRecDepth 100000 in
set_option maxHeartbeats 1000000 in
theorem law_7 {X : GX} {l : Launch} {D : va_G} {cy : Nat → ClassId} {B b L : Nat} {xs : Nat → Int32} {M : MM} {P : PP} (C : Cx X D cy B cL_law 8 RL wsL_law l 8 278 600000 7302250) (S : Sx X B b L xs) (hL : L ≤ 2560) {i c : Nat} {A : AS} (hi : i + 4 < L) (hj : JC M P A) (hm : JM M P A) (hA : WA c A) (hT : TA A) (hc : c + 60 ≤ 40000) (nx : ∀ (M1 : MM) (P1 : PP) (A1 : AS), JC M1 P1 A1 → JM M1 P1 A1 → WA (c + 60) A1 → TA A1 → G X D cy B 600000 7302250 376 M1 P1 919 [some (Value.ref b), some (Value.ref (B + 0)), some (Value.ref (B + 369)), some (Value.int (nI (i))), none, none, none, none] []) : G X D cy B 600000 7302250 376 M P 417 [some (Value.ref b), some (Value.ref (B + 0)), some (Value.ref (B + 369)), some (Value.int (nI (i))), none, none, none, none] [] := by
  refine g_aload_1 (pc := 417) C dL_law_417 ?_
  refine g_V0i (pc := 418) C e_L_law_45 (Nat.le_of_ble_eq_true rfl) rfl dL_law_418 kk0 (c6_bookAll hj hA) (fun r1 M1 P1 hq1 => ?_)
  obtain ⟨e1, j1, fh1⟩ := hq1
  have m1 := JM_FH hm fh1
  refine g_aload_2 (pc := 421) C dL_law_421 ?_
  refine g_V0i (pc := 422) C e_L_law_49 (Nat.le_of_ble_eq_true rfl) rfl dL_law_422 kk369 (c7_bookAll m1 hA hT) (fun r2 M2 P2 hq2 => ?_)
  obtain ⟨e2, m2, fl2⟩ := hq2
  have wa : WA (c + 60) (sAll A).2 := WA_mono (WA_sAll hA) (by omega) hc
  have ta : TA (sAll A).2 := TA_sAll hT
  have j2 := JC_FL j1 wa.z fl2
  refine g_icmp_eq (pc := 425) (tgt := 919) C dL_law_425 (by decide) (fun c425 => ?_) (fun c425 => ?_)
  · exact nx _ _ _ j2 m2 wa ta
  · exact absurd (e1.trans e2.symm) c425

set_option maxRecDepth 100000 in
set_option maxHeartbeats 1000000 in
theorem law_8 {X : GX} {l : Launch} {D : va_G} {cy : Nat → ClassId} {B b L : Nat} {xs : Nat → Int32} {M : MM} {P : PP} (C : Cx X D cy B cL_law 8 RL wsL_law l 8 278 600000 7302250) (S : Sx X B b L xs) (hL : L ≤ 2560) {i c : Nat} {A : AS} (hi : i + 4 < L) (hj : JC M P A) (hm : JM M P A) (hA : WA c A) (hT : TA A) (hc : c + 60 ≤ 40000) (nx : ∀ (M1 : MM) (P1 : PP) (A1 : AS), JC M1 P1 A1 → JM M1 P1 A1 → WA (c + 60) A1 → TA A1 → G X D cy B 600000 7302250 376 M1 P1 919 [some (Value.ref b), some (Value.ref (B + 0)), some (Value.ref (B + 369)), some (Value.int (nI (i))), none, none, none, none] []) : G X D cy B 600000 7302250 376 M P 430 [some (Value.ref b), some (Value.ref (B + 0)), some (Value.ref (B + 369)), some (Value.int (nI (i))), none, none, none, none] [] := by
  refine g_aload_1 (pc := 430) C dL_law_430 ?_
  refine g_aload_0 (pc := 431) C dL_law_431 ?_
  refine g_iload_3 (pc := 432) C dL_law_432 ?_
  refine g_iconst (pc := 433) (v := 1) C dL_law_433 rfl ?_
  refine g_iadd (pc := 434) C dL_law_434 ?_
  refine g_sld (pc := 435) (j := i + 1) C S (show nI (i) + 1 = nI (i + 1) from nI_add _ 1) (by omega) hL dL_law_435 ?_
  refine g_V1i (pc := 436) C e_L_law_50 (Nat.le_of_ble_eq_true rfl) rfl dL_law_436 kk0 (c6_back hj hA) (fun r1 M1 P1 hq1 => ?_)
  obtain ⟨e1, j1, fh1⟩ := hq1
  have m1 := JM_FH hm fh1
  refine g_aload_2 (pc := 439) C dL_law_439 ?_
  refine g_aload_0 (pc := 440) C dL_law_440 ?_
  refine g_iload_3 (pc := 441) C dL_law_441 ?_
  refine g_iconst (pc := 442) (v := 1) C dL_law_442 rfl ?_
  refine g_iadd (pc := 443) C dL_law_443 ?_
  refine g_sld (pc := 444) (j := i + 1) C S (show nI (i) + 1 = nI (i + 1) from nI_add _ 1) (by omega) hL dL_law_444 ?_
  refine g_V1i (pc := 445) C e_L_law_53 (Nat.le_of_ble_eq_true rfl) rfl dL_law_445 kk369 (c7_back m1 hA) (fun r2 M2 P2 hq2 => ?_)
  obtain ⟨e2, m2, fl2⟩ := hq2
  have wa : WA (c + 60) (sBack A (xs (i + 1))).2 := WA_mono (WA_sBack hA) (by omega) hc
  have ta : TA (sBack A (xs (i + 1))).2 := TA_sBack hT
  have j2 := JC_FL j1 wa.z fl2
  refine g_icmp_eq (pc := 448) (tgt := 919) C dL_law_448 (by decide) (fun c448 => ?_) (fun c448 => ?_)
  · exact nx _ _ _ j2 m2 wa ta
  · exact absurd (e1.trans e2.symm) c448

set_option maxRecDepth 100000 in
set_option maxHeartbeats 1000000 in
theorem law_9 {X : GX} {l : Launch} {D : va_G} {cy : Nat → ClassId} {B b L : Nat} {xs : Nat → Int32} {M : MM} {P : PP} (C : Cx X D cy B cL_law 8 RL wsL_law l 8 278 600000 7302250) (S : Sx X B b L xs) (hL : L ≤ 2560) {i c : Nat} {A : AS} (hi : i + 4 < L) (hj : JC M P A) (hm : JM M P A) (hA : WA c A) (hT : TA A) (hc : c + 60 ≤ 40000) (nx : ∀ (M1 : MM) (P1 : PP) (A1 : AS), JC M1 P1 A1 → JM M1 P1 A1 → WA (c + 60) A1 → TA A1 → G X D cy B 600000 7302250 376 M1 P1 919 [some (Value.ref b), some (Value.ref (B + 0)), some (Value.ref (B + 369)), some (Value.int (nI (i))), none, none, none, none] []) : G X D cy B 600000 7302250 376 M P 453 [some (Value.ref b), some (Value.ref (B + 0)), some (Value.ref (B + 369)), some (Value.int (nI (i))), none, none, none, none] [] := by
  refine g_aload_1 (pc := 453) C dL_law_453 ?_
  refine g_aload_0 (pc := 454) C dL_law_454 ?_
  refine g_iload_3 (pc := 455) C dL_law_455 ?_
  refine g_iconst (pc := 456) (v := 1) C dL_law_456 rfl ?_
  refine g_iadd (pc := 457) C dL_law_457 ?_
  refine g_sld (pc := 458) (j := i + 1) C S (show nI (i) + 1 = nI (i + 1) from nI_add _ 1) (by omega) hL dL_law_458 ?_
  refine g_V1i (pc := 459) C e_L_law_54 (Nat.le_of_ble_eq_true rfl) rfl dL_law_459 kk0 (c6_pass hj hA hc) (fun r1 M1 P1 hq1 => ?_)
  obtain ⟨e1, j1, fh1⟩ := hq1
  have m1 := JM_FH hm fh1
  refine g_aload_2 (pc := 462) C dL_law_462 ?_
  refine g_aload_0 (pc := 463) C dL_law_463 ?_
  refine g_iload_3 (pc := 464) C dL_law_464 ?_
  refine g_iconst (pc := 465) (v := 1) C dL_law_465 rfl ?_
  refine g_iadd (pc := 466) C dL_law_466 ?_
  refine g_sld (pc := 467) (j := i + 1) C S (show nI (i) + 1 = nI (i + 1) from nI_add _ 1) (by omega) hL dL_law_467 ?_
  refine g_V1i (pc := 468) C e_L_law_57 (Nat.le_of_ble_eq_true rfl) rfl dL_law_468 kk369 (c7_pass m1 hA hc) (fun r2 M2 P2 hq2 => ?_)
  obtain ⟨e2, m2, fl2⟩ := hq2
  have wa : WA (c + 60) (sPass A (xs (i + 1))).2 := WA_sPass hA hc
  have ta : TA (sPass A (xs (i + 1))).2 := TA_sPass hT
  have j2 := JC_FL j1 wa.z fl2
  refine g_icmp_eq (pc := 471) (tgt := 919) C dL_law_471 (by decide) (fun c471 => ?_) (fun c471 => ?_)
  · exact nx _ _ _ j2 m2 wa ta
  · exact absurd (e1.trans e2.symm) c471

set_option maxRecDepth 100000 in
set_option maxHeartbeats 1000000 in
theorem law_10 {X : GX} {l : Launch} {D : va_G} {cy : Nat → ClassId} {B b L : Nat} {xs : Nat → Int32} {M : MM} {P : PP} (C : Cx X D cy B cL_law 8 RL wsL_law l 8 278 600000 7302250) (S : Sx X B b L xs) (hL : L ≤ 2560) {i c : Nat} {A : AS} (hi : i + 4 < L) (hj : JC M P A) (hm : JM M P A) (hA : WA c A) (hT : TA A) (hc : c + 60 ≤ 40000) (nx : ∀ (M1 : MM) (P1 : PP) (A1 : AS), JC M1 P1 A1 → JM M1 P1 A1 → WA (c + 60) A1 → TA A1 → G X D cy B 600000 7302250 376 M1 P1 919 [some (Value.ref b), some (Value.ref (B + 0)), some (Value.ref (B + 369)), some (Value.int (nI (i))), none, none, none, none] []) : G X D cy B 600000 7302250 376 M P 476 [some (Value.ref b), some (Value.ref (B + 0)), some (Value.ref (B + 369)), some (Value.int (nI (i))), none, none, none, none] [] := by
  refine g_aload_1 (pc := 476) C dL_law_476 ?_
  refine g_aload_0 (pc := 477) C dL_law_477 ?_
  refine g_iload_3 (pc := 478) C dL_law_478 ?_
  refine g_iconst (pc := 479) (v := 1) C dL_law_479 rfl ?_
  refine g_iadd (pc := 480) C dL_law_480 ?_
  refine g_sld (pc := 481) (j := i + 1) C S (show nI (i) + 1 = nI (i + 1) from nI_add _ 1) (by omega) hL dL_law_481 ?_
  refine g_aload_0 (pc := 482) C dL_law_482 ?_
  refine g_iload_3 (pc := 483) C dL_law_483 ?_
  refine g_iconst (pc := 484) (v := 2) C dL_law_484 rfl ?_
  refine g_iadd (pc := 485) C dL_law_485 ?_
  refine g_sld (pc := 486) (j := i + 2) C S (show nI (i) + 2 = nI (i + 2) from nI_add _ 2) (by omega) hL dL_law_486 ?_
  refine g_V2i (pc := 487) C e_L_law_58 (Nat.le_of_ble_eq_true rfl) rfl dL_law_487 kk0 (c6_set hj hA) (fun r1 M1 P1 hq1 => ?_)
  obtain ⟨e1, j1, fh1⟩ := hq1
  have m1 := JM_FH hm fh1
  refine g_aload_2 (pc := 490) C dL_law_490 ?_
  refine g_aload_0 (pc := 491) C dL_law_491 ?_
  refine g_iload_3 (pc := 492) C dL_law_492 ?_
  refine g_iconst (pc := 493) (v := 1) C dL_law_493 rfl ?_
  refine g_iadd (pc := 494) C dL_law_494 ?_
  refine g_sld (pc := 495) (j := i + 1) C S (show nI (i) + 1 = nI (i + 1) from nI_add _ 1) (by omega) hL dL_law_495 ?_
  refine g_aload_0 (pc := 496) C dL_law_496 ?_
  refine g_iload_3 (pc := 497) C dL_law_497 ?_
  refine g_iconst (pc := 498) (v := 2) C dL_law_498 rfl ?_
  refine g_iadd (pc := 499) C dL_law_499 ?_
  refine g_sld (pc := 500) (j := i + 2) C S (show nI (i) + 2 = nI (i + 2) from nI_add _ 2) (by omega) hL dL_law_500 ?_
  refine g_V2i (pc := 501) C e_L_law_61 (Nat.le_of_ble_eq_true rfl) rfl dL_law_501 kk369 (c7_set m1 hA) (fun r2 M2 P2 hq2 => ?_)
  obtain ⟨e2, m2, fl2⟩ := hq2
  have wa : WA (c + 60) (sSet A (xs (i + 1)) (xs (i + 2))).2 := WA_mono (WA_sSet hA) (by omega) hc
  have ta : TA (sSet A (xs (i + 1)) (xs (i + 2))).2 := TA_sSet hT
  have j2 := JC_FL j1 wa.z fl2
  refine g_icmp_eq (pc := 504) (tgt := 919) C dL_law_504 (by decide) (fun c504 => ?_) (fun c504 => ?_)
  · exact nx _ _ _ j2 m2 wa ta
  · exact absurd (e1.trans e2.symm) c504

set_option maxRecDepth 100000 in
set_option maxHeartbeats 1000000 in
theorem law_11 {X : GX} {l : Launch} {D : va_G} {cy : Nat → ClassId} {B b L : Nat} {xs : Nat → Int32} {M : MM} {P : PP} (C : Cx X D cy B cL_law 8 RL wsL_law l 8 278 600000 7302250) (S : Sx X B b L xs) (hL : L ≤ 2560) {i c : Nat} {A : AS} (hi : i + 4 < L) (hj : JC M P A) (hm : JM M P A) (hA : WA c A) (hT : TA A) (hc : c + 60 ≤ 40000) (nx : ∀ (M1 : MM) (P1 : PP) (A1 : AS), JC M1 P1 A1 → JM M1 P1 A1 → WA (c + 60) A1 → TA A1 → G X D cy B 600000 7302250 376 M1 P1 919 [some (Value.ref b), some (Value.ref (B + 0)), some (Value.ref (B + 369)), some (Value.int (nI (i))), none, none, none, none] []) : G X D cy B 600000 7302250 376 M P 509 [some (Value.ref b), some (Value.ref (B + 0)), some (Value.ref (B + 369)), some (Value.int (nI (i))), none, none, none, none] [] := by
  refine g_aload_1 (pc := 509) C dL_law_509 ?_
  refine g_aload_0 (pc := 510) C dL_law_510 ?_
  refine g_iload_3 (pc := 511) C dL_law_511 ?_
  refine g_iconst (pc := 512) (v := 1) C dL_law_512 rfl ?_
  refine g_iadd (pc := 513) C dL_law_513 ?_
  refine g_sld (pc := 514) (j := i + 1) C S (show nI (i) + 1 = nI (i + 1) from nI_add _ 1) (by omega) hL dL_law_514 ?_
  refine g_V1i (pc := 515) C e_L_law_62 (Nat.le_of_ble_eq_true rfl) rfl dL_law_515 kk0 (c6_seed hj hA) (fun r1 M1 P1 hq1 => ?_)
  obtain ⟨e1, j1, fh1⟩ := hq1
  have m1 := JM_FH hm fh1
  refine g_aload_2 (pc := 518) C dL_law_518 ?_
  refine g_aload_0 (pc := 519) C dL_law_519 ?_
  refine g_iload_3 (pc := 520) C dL_law_520 ?_
  refine g_iconst (pc := 521) (v := 1) C dL_law_521 rfl ?_
  refine g_iadd (pc := 522) C dL_law_522 ?_
  refine g_sld (pc := 523) (j := i + 1) C S (show nI (i) + 1 = nI (i + 1) from nI_add _ 1) (by omega) hL dL_law_523 ?_
  refine g_V1i (pc := 524) C e_L_law_65 (Nat.le_of_ble_eq_true rfl) rfl dL_law_524 kk369 (c7_seed m1 hA) (fun r2 M2 P2 hq2 => ?_)
  obtain ⟨e2, m2, fl2⟩ := hq2
  have wa : WA (c + 60) (sSeed A (xs (i + 1))).2 := WA_mono (WA_sSeed hA) (by omega) hc
  have ta : TA (sSeed A (xs (i + 1))).2 := TA_sSeed hT
  have j2 := JC_FL j1 wa.z fl2
  refine g_icmp_eq (pc := 527) (tgt := 919) C dL_law_527 (by decide) (fun c527 => ?_) (fun c527 => ?_)
  · exact nx _ _ _ j2 m2 wa ta
  · exact absurd (e1.trans e2.symm) c527

set_option maxRecDepth 100000 in
set_option maxHeartbeats 1000000 in
theorem law_12 {X : GX} {l : Launch} {D : va_G} {cy : Nat → ClassId} {B b L : Nat} {xs : Nat → Int32} {M : MM} {P : PP} (C : Cx X D cy B cL_law 8 RL wsL_law l 8 278 600000 7302250) (S : Sx X B b L xs) (hL : L ≤ 2560) {i c : Nat} {A : AS} (hi : i + 4 < L) (hj : JC M P A) (hm : JM M P A) (hA : WA c A) (hT : TA A) (hc : c + 60 ≤ 40000) (nx : ∀ (M1 : MM) (P1 : PP) (A1 : AS), JC M1 P1 A1 → JM M1 P1 A1 → WA (c + 60) A1 → TA A1 → G X D cy B 600000 7302250 376 M1 P1 919 [some (Value.ref b), some (Value.ref (B + 0)), some (Value.ref (B + 369)), some (Value.int (nI (i))), none, none, none, none] []) : G X D cy B 600000 7302250 376 M P 532 [some (Value.ref b), some (Value.ref (B + 0)), some (Value.ref (B + 369)), some (Value.int (nI (i))), none, none, none, none] [] := by
  refine g_aload_1 (pc := 532) C dL_law_532 ?_
  refine g_aload_0 (pc := 533) C dL_law_533 ?_
  refine g_iload_3 (pc := 534) C dL_law_534 ?_
  refine g_iconst (pc := 535) (v := 1) C dL_law_535 rfl ?_
  refine g_iadd (pc := 536) C dL_law_536 ?_
  refine g_sld (pc := 537) (j := i + 1) C S (show nI (i) + 1 = nI (i + 1) from nI_add _ 1) (by omega) hL dL_law_537 ?_
  refine g_i2c (pc := 538) (v := chr (xs (i + 1))) C dL_law_538 rfl ?_
  refine g_V1i (pc := 539) C e_L_law_66 (Nat.le_of_ble_eq_true rfl) rfl dL_law_539 kk0 (c6_type hj hA (chr_nar _)) (fun r1 M1 P1 hq1 => ?_)
  obtain ⟨e1, j1, fh1⟩ := hq1
  have m1 := JM_FH hm fh1
  refine g_aload_2 (pc := 542) C dL_law_542 ?_
  refine g_aload_0 (pc := 543) C dL_law_543 ?_
  refine g_iload_3 (pc := 544) C dL_law_544 ?_
  refine g_iconst (pc := 545) (v := 1) C dL_law_545 rfl ?_
  refine g_iadd (pc := 546) C dL_law_546 ?_
  refine g_sld (pc := 547) (j := i + 1) C S (show nI (i) + 1 = nI (i + 1) from nI_add _ 1) (by omega) hL dL_law_547 ?_
  refine g_i2c (pc := 548) (v := chr (xs (i + 1))) C dL_law_548 rfl ?_
  refine g_V1i (pc := 549) C e_L_law_70 (Nat.le_of_ble_eq_true rfl) rfl dL_law_549 kk369 (c7_type m1 hA) (fun r2 M2 P2 hq2 => ?_)
  obtain ⟨e2, m2, fl2⟩ := hq2
  have wa : WA (c + 60) (sType A (chr (xs (i + 1)))).2 := WA_mono (WA_sType hA) (by omega) hc
  have ta : TA (sType A (chr (xs (i + 1)))).2 := TA_sType hT (chr_nI _)
  have j2 := JC_FL j1 wa.z fl2
  refine g_icmp_eq (pc := 552) (tgt := 919) C dL_law_552 (by decide) (fun c552 => ?_) (fun c552 => ?_)
  · exact nx _ _ _ j2 m2 wa ta
  · exact absurd (e1.trans e2.symm) c552

set_option maxRecDepth 100000 in
set_option maxHeartbeats 1000000 in
theorem law_13 {X : GX} {l : Launch} {D : va_G} {cy : Nat → ClassId} {B b L : Nat} {xs : Nat → Int32} {M : MM} {P : PP} (C : Cx X D cy B cL_law 8 RL wsL_law l 8 278 600000 7302250) (S : Sx X B b L xs) (hL : L ≤ 2560) {i c : Nat} {A : AS} (hi : i + 4 < L) (hj : JC M P A) (hm : JM M P A) (hA : WA c A) (hT : TA A) (hc : c + 60 ≤ 40000) (nx : ∀ (M1 : MM) (P1 : PP) (A1 : AS), JC M1 P1 A1 → JM M1 P1 A1 → WA (c + 60) A1 → TA A1 → G X D cy B 600000 7302250 376 M1 P1 919 [some (Value.ref b), some (Value.ref (B + 0)), some (Value.ref (B + 369)), some (Value.int (nI (i))), none, none, none, none] []) : G X D cy B 600000 7302250 376 M P 557 [some (Value.ref b), some (Value.ref (B + 0)), some (Value.ref (B + 369)), some (Value.int (nI (i))), none, none, none, none] [] := by
  refine g_aload_1 (pc := 557) C dL_law_557 ?_
  refine g_V0i (pc := 558) C e_L_law_71 (Nat.le_of_ble_eq_true rfl) rfl dL_law_558 kk0 (c6_clear hj hA) (fun r1 M1 P1 hq1 => ?_)
  obtain ⟨e1, j1, fh1⟩ := hq1
  have m1 := JM_FH hm fh1
  refine g_aload_2 (pc := 561) C dL_law_561 ?_
  refine g_V0i (pc := 562) C e_L_law_74 (Nat.le_of_ble_eq_true rfl) rfl dL_law_562 kk369 (c7_clear m1 hA) (fun r2 M2 P2 hq2 => ?_)
  obtain ⟨e2, m2, fl2⟩ := hq2
  have wa : WA (c + 60) (sClear A).2 := WA_mono (WA_sClear hA) (by omega) hc
  have ta : TA (sClear A).2 := TA_sClear
  have j2 := JC_FL j1 wa.z fl2
  refine g_icmp_eq (pc := 565) (tgt := 919) C dL_law_565 (by decide) (fun c565 => ?_) (fun c565 => ?_)
  · exact nx _ _ _ j2 m2 wa ta
  · exact absurd (e1.trans e2.symm) c565

set_option maxRecDepth 100000 in
set_option maxHeartbeats 1000000 in
theorem law_14 {X : GX} {l : Launch} {D : va_G} {cy : Nat → ClassId} {B b L : Nat} {xs : Nat → Int32} {M : MM} {P : PP} (C : Cx X D cy B cL_law 8 RL wsL_law l 8 278 600000 7302250) (S : Sx X B b L xs) (hL : L ≤ 2560) {i c : Nat} {A : AS} (hi : i + 4 < L) (hj : JC M P A) (hm : JM M P A) (hA : WA c A) (hT : TA A) (hc : c + 60 ≤ 40000) (nx : ∀ (M1 : MM) (P1 : PP) (A1 : AS), JC M1 P1 A1 → JM M1 P1 A1 → WA (c + 60) A1 → TA A1 → G X D cy B 600000 7302250 376 M1 P1 919 [some (Value.ref b), some (Value.ref (B + 0)), some (Value.ref (B + 369)), some (Value.int (nI (i))), none, none, none, none] []) : G X D cy B 600000 7302250 376 M P 570 [some (Value.ref b), some (Value.ref (B + 0)), some (Value.ref (B + 369)), some (Value.int (nI (i))), none, none, none, none] [] := by
  refine g_aload_1 (pc := 570) C dL_law_570 ?_
  refine g_V0i (pc := 571) C e_L_law_75 (Nat.le_of_ble_eq_true rfl) rfl dL_law_571 kk0 (c6_undo hj hA) (fun r1 M1 P1 hq1 => ?_)
  obtain ⟨e1, j1, fh1⟩ := hq1
  have m1 := JM_FH hm fh1
  refine g_aload_2 (pc := 574) C dL_law_574 ?_
  refine g_V0i (pc := 575) C e_L_law_78 (Nat.le_of_ble_eq_true rfl) rfl dL_law_575 kk369 (c7_undo m1 hA) (fun r2 M2 P2 hq2 => ?_)
  obtain ⟨e2, m2, fl2⟩ := hq2
  have wa : WA (c + 60) (sUndo A).2 := WA_mono (WA_sUndo hA) (by omega) hc
  have ta : TA (sUndo A).2 := TA_sUndo hT
  have j2 := JC_FL j1 wa.z fl2
  refine g_icmp_eq (pc := 578) (tgt := 919) C dL_law_578 (by decide) (fun c578 => ?_) (fun c578 => ?_)
  · exact nx _ _ _ j2 m2 wa ta
  · exact absurd (e1.trans e2.symm) c578

set_option maxRecDepth 100000 in
set_option maxHeartbeats 1000000 in
theorem law_15 {X : GX} {l : Launch} {D : va_G} {cy : Nat → ClassId} {B b L : Nat} {xs : Nat → Int32} {M : MM} {P : PP} (C : Cx X D cy B cL_law 8 RL wsL_law l 8 278 600000 7302250) (S : Sx X B b L xs) (hL : L ≤ 2560) {i c : Nat} {A : AS} (hi : i + 4 < L) (hj : JC M P A) (hm : JM M P A) (hA : WA c A) (hT : TA A) (hc : c + 60 ≤ 40000) (nx : ∀ (M1 : MM) (P1 : PP) (A1 : AS), JC M1 P1 A1 → JM M1 P1 A1 → WA (c + 60) A1 → TA A1 → G X D cy B 600000 7302250 376 M1 P1 919 [some (Value.ref b), some (Value.ref (B + 0)), some (Value.ref (B + 369)), some (Value.int (nI (i))), none, none, none, none] []) : G X D cy B 600000 7302250 376 M P 583 [some (Value.ref b), some (Value.ref (B + 0)), some (Value.ref (B + 369)), some (Value.int (nI (i))), none, none, none, none] [] := by
  refine g_aload_1 (pc := 583) C dL_law_583 ?_
  refine g_V0i (pc := 584) C e_L_law_79 (Nat.le_of_ble_eq_true rfl) rfl dL_law_584 kk0 (c6_keep hj hA) (fun r1 M1 P1 hq1 => ?_)
  obtain ⟨e1, j1, fh1⟩ := hq1
  have m1 := JM_FH hm fh1
  refine g_aload_2 (pc := 587) C dL_law_587 ?_
  refine g_V0i (pc := 588) C e_L_law_82 (Nat.le_of_ble_eq_true rfl) rfl dL_law_588 kk369 (c7_keep m1 hA) (fun r2 M2 P2 hq2 => ?_)
  obtain ⟨e2, m2, fl2⟩ := hq2
  have wa : WA (c + 60) (sKeep A).2 := WA_mono (WA_sKeep hA) (by omega) hc
  have ta : TA (sKeep A).2 := TA_sKeep hT
  have j2 := JC_FL j1 wa.z fl2
  refine g_icmp_eq (pc := 591) (tgt := 919) C dL_law_591 (by decide) (fun c591 => ?_) (fun c591 => ?_)
  · exact nx _ _ _ j2 m2 wa ta
  · exact absurd (e1.trans e2.symm) c591

set_option maxRecDepth 100000 in
set_option maxHeartbeats 1000000 in
theorem law_16 {X : GX} {l : Launch} {D : va_G} {cy : Nat → ClassId} {B b L : Nat} {xs : Nat → Int32} {M : MM} {P : PP} (C : Cx X D cy B cL_law 8 RL wsL_law l 8 278 600000 7302250) (S : Sx X B b L xs) (hL : L ≤ 2560) {i c : Nat} {A : AS} (hi : i + 4 < L) (hj : JC M P A) (hm : JM M P A) (hA : WA c A) (hT : TA A) (hc : c + 60 ≤ 40000) (nx : ∀ (M1 : MM) (P1 : PP) (A1 : AS), JC M1 P1 A1 → JM M1 P1 A1 → WA (c + 60) A1 → TA A1 → G X D cy B 600000 7302250 376 M1 P1 919 [some (Value.ref b), some (Value.ref (B + 0)), some (Value.ref (B + 369)), some (Value.int (nI (i))), none, none, none, none] []) : G X D cy B 600000 7302250 376 M P 596 [some (Value.ref b), some (Value.ref (B + 0)), some (Value.ref (B + 369)), some (Value.int (nI (i))), none, none, none, none] [] := by
  refine g_aload_1 (pc := 596) C dL_law_596 ?_
  refine g_V0i (pc := 597) C e_L_law_83 (Nat.le_of_ble_eq_true rfl) rfl dL_law_597 kk0 (c6_restore hj hA) (fun r1 M1 P1 hq1 => ?_)
  obtain ⟨e1, j1, fh1⟩ := hq1
  have m1 := JM_FH hm fh1
  refine g_aload_2 (pc := 600) C dL_law_600 ?_
  refine g_V0i (pc := 601) C e_L_law_86 (Nat.le_of_ble_eq_true rfl) rfl dL_law_601 kk369 (c7_restore m1 hA) (fun r2 M2 P2 hq2 => ?_)
  obtain ⟨e2, m2, fl2⟩ := hq2
  have wa : WA (c + 60) (sRest A).2 := WA_mono (WA_sRest hA) (by omega) hc
  have ta : TA (sRest A).2 := TA_sRest hT
  have j2 := JC_FL j1 wa.z fl2
  refine g_icmp_eq (pc := 604) (tgt := 919) C dL_law_604 (by decide) (fun c604 => ?_) (fun c604 => ?_)
  · exact nx _ _ _ j2 m2 wa ta
  · exact absurd (e1.trans e2.symm) c604

set_option maxRecDepth 100000 in
set_option maxHeartbeats 1000000 in
theorem law_17 {X : GX} {l : Launch} {D : va_G} {cy : Nat → ClassId} {B b L : Nat} {xs : Nat → Int32} {M : MM} {P : PP} (C : Cx X D cy B cL_law 8 RL wsL_law l 8 278 600000 7302250) (S : Sx X B b L xs) (hL : L ≤ 2560) {i c : Nat} {A : AS} (hi : i + 4 < L) (hj : JC M P A) (hm : JM M P A) (hA : WA c A) (hT : TA A) (hc : c + 60 ≤ 40000) (nx : ∀ (M1 : MM) (P1 : PP) (A1 : AS), JC M1 P1 A1 → JM M1 P1 A1 → WA (c + 60) A1 → TA A1 → G X D cy B 600000 7302250 376 M1 P1 919 [some (Value.ref b), some (Value.ref (B + 0)), some (Value.ref (B + 369)), some (Value.int (nI (i))), none, none, none, none] []) : G X D cy B 600000 7302250 376 M P 609 [some (Value.ref b), some (Value.ref (B + 0)), some (Value.ref (B + 369)), some (Value.int (nI (i))), none, none, none, none] [] := by
  refine g_aload_1 (pc := 609) C dL_law_609 ?_
  refine g_aload_0 (pc := 610) C dL_law_610 ?_
  refine g_iload_3 (pc := 611) C dL_law_611 ?_
  refine g_iconst (pc := 612) (v := 1) C dL_law_612 rfl ?_
  refine g_iadd (pc := 613) C dL_law_613 ?_
  refine g_sld (pc := 614) (j := i + 1) C S (show nI (i) + 1 = nI (i + 1) from nI_add _ 1) (by omega) hL dL_law_614 ?_
  refine g_aload_0 (pc := 615) C dL_law_615 ?_
  refine g_iload_3 (pc := 616) C dL_law_616 ?_
  refine g_iconst (pc := 617) (v := 2) C dL_law_617 rfl ?_
  refine g_iadd (pc := 618) C dL_law_618 ?_
  refine g_sld (pc := 619) (j := i + 2) C S (show nI (i) + 2 = nI (i + 2) from nI_add _ 2) (by omega) hL dL_law_619 ?_
  refine g_V2ie (pc := 620) C e_L_law_87 (Nat.le_of_ble_eq_true rfl) rfl dL_law_620 kk0 (c6_farmer hj hA) ?_
  refine g_aload_2 (pc := 623) C dL_law_623 ?_
  refine g_aload_0 (pc := 624) C dL_law_624 ?_
  refine g_iload_3 (pc := 625) C dL_law_625 ?_
  refine g_iconst (pc := 626) (v := 1) C dL_law_626 rfl ?_
  refine g_iadd (pc := 627) C dL_law_627 ?_
  refine g_sld (pc := 628) (j := i + 1) C S (show nI (i) + 1 = nI (i + 1) from nI_add _ 1) (by omega) hL dL_law_628 ?_
  refine g_aload_0 (pc := 629) C dL_law_629 ?_
  refine g_iload_3 (pc := 630) C dL_law_630 ?_
  refine g_iconst (pc := 631) (v := 2) C dL_law_631 rfl ?_
  refine g_iadd (pc := 632) C dL_law_632 ?_
  refine g_sld (pc := 633) (j := i + 2) C S (show nI (i) + 2 = nI (i + 2) from nI_add _ 2) (by omega) hL dL_law_633 ?_
  refine g_V2i (pc := 634) C e_L_law_90 (Nat.le_of_ble_eq_true rfl) rfl dL_law_634 kk369 (c7_farmer hm hA) (fun r2 M2 P2 hq2 => ?_)
  obtain ⟨e2, m2, fl2⟩ := hq2
  have j2 := JC_FL hj hA.z fl2
  refine g_icmp_eq (pc := 637) (tgt := 919) C dL_law_637 (by decide) (fun c637 => ?_) (fun c637 => ?_)
  · exact nx _ _ _ j2 m2 (WA_mono hA (by omega) hc) hT
  · exact absurd e2.symm c637

set_option maxRecDepth 100000 in
set_option maxHeartbeats 1000000 in
theorem law_18 {X : GX} {l : Launch} {D : va_G} {cy : Nat → ClassId} {B b L : Nat} {xs : Nat → Int32} {M : MM} {P : PP} (C : Cx X D cy B cL_law 8 RL wsL_law l 8 278 600000 7302250) (S : Sx X B b L xs) (hL : L ≤ 2560) {i c : Nat} {A : AS} (hi : i + 4 < L) (hj : JC M P A) (hm : JM M P A) (hA : WA c A) (hT : TA A) (hc : c + 60 ≤ 40000) (nx : ∀ (M1 : MM) (P1 : PP) (A1 : AS), JC M1 P1 A1 → JM M1 P1 A1 → WA (c + 60) A1 → TA A1 → G X D cy B 600000 7302250 376 M1 P1 919 [some (Value.ref b), some (Value.ref (B + 0)), some (Value.ref (B + 369)), some (Value.int (nI (i))), none, none, none, none] []) : G X D cy B 600000 7302250 376 M P 642 [some (Value.ref b), some (Value.ref (B + 0)), some (Value.ref (B + 369)), some (Value.int (nI (i))), none, none, none, none] [] := by
  refine g_aload_1 (pc := 642) C dL_law_642 ?_
  refine g_aload_0 (pc := 643) C dL_law_643 ?_
  refine g_iload_3 (pc := 644) C dL_law_644 ?_
  refine g_iconst (pc := 645) (v := 1) C dL_law_645 rfl ?_
  refine g_iadd (pc := 646) C dL_law_646 ?_
  refine g_sld (pc := 647) (j := i + 1) C S (show nI (i) + 1 = nI (i + 1) from nI_add _ 1) (by omega) hL dL_law_647 ?_
  refine g_aload_0 (pc := 648) C dL_law_648 ?_
  refine g_iload_3 (pc := 649) C dL_law_649 ?_
  refine g_iconst (pc := 650) (v := 2) C dL_law_650 rfl ?_
  refine g_iadd (pc := 651) C dL_law_651 ?_
  refine g_sld (pc := 652) (j := i + 2) C S (show nI (i) + 2 = nI (i + 2) from nI_add _ 2) (by omega) hL dL_law_652 ?_
  refine g_V2ie (pc := 653) C e_L_law_91 (Nat.le_of_ble_eq_true rfl) rfl dL_law_653 kk0 (c6_machine hj hA) ?_
  refine g_aload_2 (pc := 656) C dL_law_656 ?_
  refine g_aload_0 (pc := 657) C dL_law_657 ?_
  refine g_iload_3 (pc := 658) C dL_law_658 ?_
  refine g_iconst (pc := 659) (v := 1) C dL_law_659 rfl ?_
  refine g_iadd (pc := 660) C dL_law_660 ?_
  refine g_sld (pc := 661) (j := i + 1) C S (show nI (i) + 1 = nI (i + 1) from nI_add _ 1) (by omega) hL dL_law_661 ?_
  refine g_aload_0 (pc := 662) C dL_law_662 ?_
  refine g_iload_3 (pc := 663) C dL_law_663 ?_
  refine g_iconst (pc := 664) (v := 2) C dL_law_664 rfl ?_
  refine g_iadd (pc := 665) C dL_law_665 ?_
  refine g_sld (pc := 666) (j := i + 2) C S (show nI (i) + 2 = nI (i + 2) from nI_add _ 2) (by omega) hL dL_law_666 ?_
  refine g_V2i (pc := 667) C e_L_law_94 (Nat.le_of_ble_eq_true rfl) rfl dL_law_667 kk369 (c7_machine hm hA) (fun r2 M2 P2 hq2 => ?_)
  obtain ⟨e2, m2, fl2⟩ := hq2
  have j2 := JC_FL hj hA.z fl2
  refine g_icmp_eq (pc := 670) (tgt := 919) C dL_law_670 (by decide) (fun c670 => ?_) (fun c670 => ?_)
  · exact nx _ _ _ j2 m2 (WA_mono hA (by omega) hc) hT
  · exact absurd e2.symm c670

set_option maxRecDepth 100000 in
set_option maxHeartbeats 1000000 in
theorem law_20 {X : GX} {l : Launch} {D : va_G} {cy : Nat → ClassId} {B b L : Nat} {xs : Nat → Int32} {M : MM} {P : PP} (C : Cx X D cy B cL_law 8 RL wsL_law l 8 278 600000 7302250) (S : Sx X B b L xs) (hL : L ≤ 2560) {i c : Nat} {A : AS} (hi : i + 4 < L) (hj : JC M P A) (hm : JM M P A) (hA : WA c A) (hT : TA A) (hc : c + 60 ≤ 40000) (nx : ∀ (M1 : MM) (P1 : PP) (A1 : AS), JC M1 P1 A1 → JM M1 P1 A1 → WA (c + 60) A1 → TA A1 → G X D cy B 600000 7302250 376 M1 P1 919 [some (Value.ref b), some (Value.ref (B + 0)), some (Value.ref (B + 369)), some (Value.int (nI (i))), none, none, none, none] []) : G X D cy B 600000 7302250 376 M P 728 [some (Value.ref b), some (Value.ref (B + 0)), some (Value.ref (B + 369)), some (Value.int (nI (i))), none, none, none, none] [] := by
  refine g_aload_1 (pc := 728) C dL_law_728 ?_
  refine g_aload_0 (pc := 729) C dL_law_729 ?_
  refine g_iload_3 (pc := 730) C dL_law_730 ?_
  refine g_iconst (pc := 731) (v := 1) C dL_law_731 rfl ?_
  refine g_iadd (pc := 732) C dL_law_732 ?_
  refine g_sld (pc := 733) (j := i + 1) C S (show nI (i) + 1 = nI (i + 1) from nI_add _ 1) (by omega) hL dL_law_733 ?_
  refine g_aload_0 (pc := 734) C dL_law_734 ?_
  refine g_iload_3 (pc := 735) C dL_law_735 ?_
  refine g_iconst (pc := 736) (v := 2) C dL_law_736 rfl ?_
  refine g_iadd (pc := 737) C dL_law_737 ?_
  refine g_sld (pc := 738) (j := i + 2) C S (show nI (i) + 2 = nI (i + 2) from nI_add _ 2) (by omega) hL dL_law_738 ?_
  refine g_V2ie (pc := 739) C e_L_law_100 (Nat.le_of_ble_eq_true rfl) rfl dL_law_739 kk0 (c6_hours hj hA) ?_
  refine g_aload_2 (pc := 742) C dL_law_742 ?_
  refine g_aload_0 (pc := 743) C dL_law_743 ?_
  refine g_iload_3 (pc := 744) C dL_law_744 ?_
  refine g_iconst (pc := 745) (v := 1) C dL_law_745 rfl ?_
  refine g_iadd (pc := 746) C dL_law_746 ?_
  refine g_sld (pc := 747) (j := i + 1) C S (show nI (i) + 1 = nI (i + 1) from nI_add _ 1) (by omega) hL dL_law_747 ?_
  refine g_aload_0 (pc := 748) C dL_law_748 ?_
  refine g_iload_3 (pc := 749) C dL_law_749 ?_
  refine g_iconst (pc := 750) (v := 2) C dL_law_750 rfl ?_
  refine g_iadd (pc := 751) C dL_law_751 ?_
  refine g_sld (pc := 752) (j := i + 2) C S (show nI (i) + 2 = nI (i + 2) from nI_add _ 2) (by omega) hL dL_law_752 ?_
  refine g_V2i (pc := 753) C e_L_law_103 (Nat.le_of_ble_eq_true rfl) rfl dL_law_753 kk369 (c7_hours hm hA) (fun r2 M2 P2 hq2 => ?_)
  obtain ⟨e2, m2, fl2⟩ := hq2
  have j2 := JC_FL hj hA.z fl2
  refine g_icmp_eq (pc := 756) (tgt := 919) C dL_law_756 (by decide) (fun c756 => ?_) (fun c756 => ?_)
  · exact nx _ _ _ j2 m2 (WA_mono hA (by omega) hc) hT
  · exact absurd e2.symm c756

set_option maxRecDepth 100000 in
set_option maxHeartbeats 1000000 in
theorem law_21 {X : GX} {l : Launch} {D : va_G} {cy : Nat → ClassId} {B b L : Nat} {xs : Nat → Int32} {M : MM} {P : PP} (C : Cx X D cy B cL_law 8 RL wsL_law l 8 278 600000 7302250) (S : Sx X B b L xs) (hL : L ≤ 2560) {i c : Nat} {A : AS} (hi : i + 4 < L) (hj : JC M P A) (hm : JM M P A) (hA : WA c A) (hT : TA A) (hc : c + 60 ≤ 40000) (nx : ∀ (M1 : MM) (P1 : PP) (A1 : AS), JC M1 P1 A1 → JM M1 P1 A1 → WA (c + 60) A1 → TA A1 → G X D cy B 600000 7302250 376 M1 P1 919 [some (Value.ref b), some (Value.ref (B + 0)), some (Value.ref (B + 369)), some (Value.int (nI (i))), none, none, none, none] []) : G X D cy B 600000 7302250 376 M P 761 [some (Value.ref b), some (Value.ref (B + 0)), some (Value.ref (B + 369)), some (Value.int (nI (i))), none, none, none, none] [] := by
  refine g_aload_1 (pc := 761) C dL_law_761 ?_
  refine g_aload_0 (pc := 762) C dL_law_762 ?_
  refine g_iload_3 (pc := 763) C dL_law_763 ?_
  refine g_iconst (pc := 764) (v := 1) C dL_law_764 rfl ?_
  refine g_iadd (pc := 765) C dL_law_765 ?_
  refine g_sld (pc := 766) (j := i + 1) C S (show nI (i) + 1 = nI (i + 1) from nI_add _ 1) (by omega) hL dL_law_766 ?_
  refine g_aload_0 (pc := 767) C dL_law_767 ?_
  refine g_iload_3 (pc := 768) C dL_law_768 ?_
  refine g_iconst (pc := 769) (v := 2) C dL_law_769 rfl ?_
  refine g_iadd (pc := 770) C dL_law_770 ?_
  refine g_sld (pc := 771) (j := i + 2) C S (show nI (i) + 2 = nI (i + 2) from nI_add _ 2) (by omega) hL dL_law_771 ?_
  refine g_V2ie (pc := 772) C e_L_law_104 (Nat.le_of_ble_eq_true rfl) rfl dL_law_772 kk0 (c6_booking hj hA) ?_
  refine g_aload_2 (pc := 775) C dL_law_775 ?_
  refine g_aload_0 (pc := 776) C dL_law_776 ?_
  refine g_iload_3 (pc := 777) C dL_law_777 ?_
  refine g_iconst (pc := 778) (v := 1) C dL_law_778 rfl ?_
  refine g_iadd (pc := 779) C dL_law_779 ?_
  refine g_sld (pc := 780) (j := i + 1) C S (show nI (i) + 1 = nI (i + 1) from nI_add _ 1) (by omega) hL dL_law_780 ?_
  refine g_aload_0 (pc := 781) C dL_law_781 ?_
  refine g_iload_3 (pc := 782) C dL_law_782 ?_
  refine g_iconst (pc := 783) (v := 2) C dL_law_783 rfl ?_
  refine g_iadd (pc := 784) C dL_law_784 ?_
  refine g_sld (pc := 785) (j := i + 2) C S (show nI (i) + 2 = nI (i + 2) from nI_add _ 2) (by omega) hL dL_law_785 ?_
  refine g_V2i (pc := 786) C e_L_law_107 (Nat.le_of_ble_eq_true rfl) rfl dL_law_786 kk369 (c7_booking hm hA) (fun r2 M2 P2 hq2 => ?_)
  obtain ⟨e2, m2, fl2⟩ := hq2
  have j2 := JC_FL hj hA.z fl2
  refine g_icmp_eq (pc := 789) (tgt := 919) C dL_law_789 (by decide) (fun c789 => ?_) (fun c789 => ?_)
  · exact nx _ _ _ j2 m2 (WA_mono hA (by omega) hc) hT
  · exact absurd e2.symm c789

set_option maxRecDepth 100000 in
set_option maxHeartbeats 1000000 in
theorem law_22 {X : GX} {l : Launch} {D : va_G} {cy : Nat → ClassId} {B b L : Nat} {xs : Nat → Int32} {M : MM} {P : PP} (C : Cx X D cy B cL_law 8 RL wsL_law l 8 278 600000 7302250) (S : Sx X B b L xs) (hL : L ≤ 2560) {i c : Nat} {A : AS} (hi : i + 4 < L) (hj : JC M P A) (hm : JM M P A) (hA : WA c A) (hT : TA A) (hc : c + 60 ≤ 40000) (nx : ∀ (M1 : MM) (P1 : PP) (A1 : AS), JC M1 P1 A1 → JM M1 P1 A1 → WA (c + 60) A1 → TA A1 → G X D cy B 600000 7302250 376 M1 P1 919 [some (Value.ref b), some (Value.ref (B + 0)), some (Value.ref (B + 369)), some (Value.int (nI (i))), none, none, none, none] []) : G X D cy B 600000 7302250 376 M P 794 [some (Value.ref b), some (Value.ref (B + 0)), some (Value.ref (B + 369)), some (Value.int (nI (i))), none, none, none, none] [] := by
  refine g_aload_1 (pc := 794) C dL_law_794 ?_
  refine g_aload_0 (pc := 795) C dL_law_795 ?_
  refine g_iload_3 (pc := 796) C dL_law_796 ?_
  refine g_iconst (pc := 797) (v := 1) C dL_law_797 rfl ?_
  refine g_iadd (pc := 798) C dL_law_798 ?_
  refine g_sld (pc := 799) (j := i + 1) C S (show nI (i) + 1 = nI (i + 1) from nI_add _ 1) (by omega) hL dL_law_799 ?_
  refine g_aload_0 (pc := 800) C dL_law_800 ?_
  refine g_iload_3 (pc := 801) C dL_law_801 ?_
  refine g_iconst (pc := 802) (v := 2) C dL_law_802 rfl ?_
  refine g_iadd (pc := 803) C dL_law_803 ?_
  refine g_sld (pc := 804) (j := i + 2) C S (show nI (i) + 2 = nI (i + 2) from nI_add _ 2) (by omega) hL dL_law_804 ?_
  refine g_V2ie (pc := 805) C e_L_law_108 (Nat.le_of_ble_eq_true rfl) rfl dL_law_805 kk0 (c6_booked hj hA) ?_
  refine g_aload_2 (pc := 808) C dL_law_808 ?_
  refine g_aload_0 (pc := 809) C dL_law_809 ?_
  refine g_iload_3 (pc := 810) C dL_law_810 ?_
  refine g_iconst (pc := 811) (v := 1) C dL_law_811 rfl ?_
  refine g_iadd (pc := 812) C dL_law_812 ?_
  refine g_sld (pc := 813) (j := i + 1) C S (show nI (i) + 1 = nI (i + 1) from nI_add _ 1) (by omega) hL dL_law_813 ?_
  refine g_aload_0 (pc := 814) C dL_law_814 ?_
  refine g_iload_3 (pc := 815) C dL_law_815 ?_
  refine g_iconst (pc := 816) (v := 2) C dL_law_816 rfl ?_
  refine g_iadd (pc := 817) C dL_law_817 ?_
  refine g_sld (pc := 818) (j := i + 2) C S (show nI (i) + 2 = nI (i + 2) from nI_add _ 2) (by omega) hL dL_law_818 ?_
  refine g_V2i (pc := 819) C e_L_law_111 (Nat.le_of_ble_eq_true rfl) rfl dL_law_819 kk369 (c7_booked hm hA) (fun r2 M2 P2 hq2 => ?_)
  obtain ⟨e2, m2, fl2⟩ := hq2
  have j2 := JC_FL hj hA.z fl2
  refine g_icmp_eq (pc := 822) (tgt := 919) C dL_law_822 (by decide) (fun c822 => ?_) (fun c822 => ?_)
  · exact nx _ _ _ j2 m2 (WA_mono hA (by omega) hc) hT
  · exact absurd e2.symm c822

set_option maxRecDepth 100000 in
set_option maxHeartbeats 1000000 in
theorem law_23 {X : GX} {l : Launch} {D : va_G} {cy : Nat → ClassId} {B b L : Nat} {xs : Nat → Int32} {M : MM} {P : PP} (C : Cx X D cy B cL_law 8 RL wsL_law l 8 278 600000 7302250) (S : Sx X B b L xs) (hL : L ≤ 2560) {i c : Nat} {A : AS} (hi : i + 4 < L) (hj : JC M P A) (hm : JM M P A) (hA : WA c A) (hT : TA A) (hc : c + 60 ≤ 40000) (nx : ∀ (M1 : MM) (P1 : PP) (A1 : AS), JC M1 P1 A1 → JM M1 P1 A1 → WA (c + 60) A1 → TA A1 → G X D cy B 600000 7302250 376 M1 P1 919 [some (Value.ref b), some (Value.ref (B + 0)), some (Value.ref (B + 369)), some (Value.int (nI (i))), none, none, none, none] []) : G X D cy B 600000 7302250 376 M P 827 [some (Value.ref b), some (Value.ref (B + 0)), some (Value.ref (B + 369)), some (Value.int (nI (i))), none, none, none, none] [] := by
  refine g_aload_1 (pc := 827) C dL_law_827 ?_
  refine g_aload_0 (pc := 828) C dL_law_828 ?_
  refine g_iload_3 (pc := 829) C dL_law_829 ?_
  refine g_iconst (pc := 830) (v := 1) C dL_law_830 rfl ?_
  refine g_iadd (pc := 831) C dL_law_831 ?_
  refine g_sld (pc := 832) (j := i + 1) C S (show nI (i) + 1 = nI (i + 1) from nI_add _ 1) (by omega) hL dL_law_832 ?_
  refine g_V1ie (pc := 833) C e_L_law_112 (Nat.le_of_ble_eq_true rfl) rfl dL_law_833 kk0 (c6_wet hj hA) ?_
  refine g_aload_2 (pc := 836) C dL_law_836 ?_
  refine g_aload_0 (pc := 837) C dL_law_837 ?_
  refine g_iload_3 (pc := 838) C dL_law_838 ?_
  refine g_iconst (pc := 839) (v := 1) C dL_law_839 rfl ?_
  refine g_iadd (pc := 840) C dL_law_840 ?_
  refine g_sld (pc := 841) (j := i + 1) C S (show nI (i) + 1 = nI (i + 1) from nI_add _ 1) (by omega) hL dL_law_841 ?_
  refine g_V1i (pc := 842) C e_L_law_115 (Nat.le_of_ble_eq_true rfl) rfl dL_law_842 kk369 (c7_wet hm hA) (fun r2 M2 P2 hq2 => ?_)
  obtain ⟨e2, m2, fl2⟩ := hq2
  have j2 := JC_FL hj hA.z fl2
  refine g_icmp_eq (pc := 845) (tgt := 919) C dL_law_845 (by decide) (fun c845 => ?_) (fun c845 => ?_)
  · exact nx _ _ _ j2 m2 (WA_mono hA (by omega) hc) hT
  · exact absurd e2.symm c845

set_option maxRecDepth 100000 in
set_option maxHeartbeats 1000000 in
theorem law_24 {X : GX} {l : Launch} {D : va_G} {cy : Nat → ClassId} {B b L : Nat} {xs : Nat → Int32} {M : MM} {P : PP} (C : Cx X D cy B cL_law 8 RL wsL_law l 8 278 600000 7302250) (S : Sx X B b L xs) (hL : L ≤ 2560) {i c : Nat} {A : AS} (hi : i + 4 < L) (hj : JC M P A) (hm : JM M P A) (hA : WA c A) (hT : TA A) (hc : c + 60 ≤ 40000) (nx : ∀ (M1 : MM) (P1 : PP) (A1 : AS), JC M1 P1 A1 → JM M1 P1 A1 → WA (c + 60) A1 → TA A1 → G X D cy B 600000 7302250 376 M1 P1 919 [some (Value.ref b), some (Value.ref (B + 0)), some (Value.ref (B + 369)), some (Value.int (nI (i))), none, none, none, none] []) : G X D cy B 600000 7302250 376 M P 850 [some (Value.ref b), some (Value.ref (B + 0)), some (Value.ref (B + 369)), some (Value.int (nI (i))), none, none, none, none] [] := by
  refine g_aload_1 (pc := 850) C dL_law_850 ?_
  refine g_aload_0 (pc := 851) C dL_law_851 ?_
  refine g_iload_3 (pc := 852) C dL_law_852 ?_
  refine g_iconst (pc := 853) (v := 1) C dL_law_853 rfl ?_
  refine g_iadd (pc := 854) C dL_law_854 ?_
  refine g_sld (pc := 855) (j := i + 1) C S (show nI (i) + 1 = nI (i + 1) from nI_add _ 1) (by omega) hL dL_law_855 ?_
  refine g_V1ie (pc := 856) C e_L_law_116 (Nat.le_of_ble_eq_true rfl) rfl dL_law_856 kk0 (c6_most hj hA) ?_
  refine g_aload_2 (pc := 859) C dL_law_859 ?_
  refine g_aload_0 (pc := 860) C dL_law_860 ?_
  refine g_iload_3 (pc := 861) C dL_law_861 ?_
  refine g_iconst (pc := 862) (v := 1) C dL_law_862 rfl ?_
  refine g_iadd (pc := 863) C dL_law_863 ?_
  refine g_sld (pc := 864) (j := i + 1) C S (show nI (i) + 1 = nI (i + 1) from nI_add _ 1) (by omega) hL dL_law_864 ?_
  refine g_V1i (pc := 865) C e_L_law_119 (Nat.le_of_ble_eq_true rfl) rfl dL_law_865 kk369 (c7_most hm hA) (fun r2 M2 P2 hq2 => ?_)
  obtain ⟨e2, m2, fl2⟩ := hq2
  have j2 := JC_FL hj hA.z fl2
  refine g_icmp_eq (pc := 868) (tgt := 919) C dL_law_868 (by decide) (fun c868 => ?_) (fun c868 => ?_)
  · exact nx _ _ _ j2 m2 (WA_mono hA (by omega) hc) hT
  · exact absurd e2.symm c868

set_option maxRecDepth 100000 in
set_option maxHeartbeats 1000000 in
theorem law_25 {X : GX} {l : Launch} {D : va_G} {cy : Nat → ClassId} {B b L : Nat} {xs : Nat → Int32} {M : MM} {P : PP} (C : Cx X D cy B cL_law 8 RL wsL_law l 8 278 600000 7302250) (S : Sx X B b L xs) (hL : L ≤ 2560) {i c : Nat} {A : AS} (hi : i + 4 < L) (hj : JC M P A) (hm : JM M P A) (hA : WA c A) (hT : TA A) (hc : c + 60 ≤ 40000) (nx : ∀ (M1 : MM) (P1 : PP) (A1 : AS), JC M1 P1 A1 → JM M1 P1 A1 → WA (c + 60) A1 → TA A1 → G X D cy B 600000 7302250 376 M1 P1 919 [some (Value.ref b), some (Value.ref (B + 0)), some (Value.ref (B + 369)), some (Value.int (nI (i))), none, none, none, none] []) : G X D cy B 600000 7302250 376 M P 873 [some (Value.ref b), some (Value.ref (B + 0)), some (Value.ref (B + 369)), some (Value.int (nI (i))), none, none, none, none] [] := by
  refine g_aload_1 (pc := 873) C dL_law_873 ?_
  refine g_aload_0 (pc := 874) C dL_law_874 ?_
  refine g_iload_3 (pc := 875) C dL_law_875 ?_
  refine g_iconst (pc := 876) (v := 1) C dL_law_876 rfl ?_
  refine g_iadd (pc := 877) C dL_law_877 ?_
  refine g_sld (pc := 878) (j := i + 1) C S (show nI (i) + 1 = nI (i + 1) from nI_add _ 1) (by omega) hL dL_law_878 ?_
  refine g_V1ie (pc := 879) C e_L_law_120 (Nat.le_of_ble_eq_true rfl) rfl dL_law_879 kk0 (c6_lasts hj hA) ?_
  refine g_aload_2 (pc := 882) C dL_law_882 ?_
  refine g_aload_0 (pc := 883) C dL_law_883 ?_
  refine g_iload_3 (pc := 884) C dL_law_884 ?_
  refine g_iconst (pc := 885) (v := 1) C dL_law_885 rfl ?_
  refine g_iadd (pc := 886) C dL_law_886 ?_
  refine g_sld (pc := 887) (j := i + 1) C S (show nI (i) + 1 = nI (i + 1) from nI_add _ 1) (by omega) hL dL_law_887 ?_
  refine g_V1i (pc := 888) C e_L_law_123 (Nat.le_of_ble_eq_true rfl) rfl dL_law_888 kk369 (c7_lasts hm hA) (fun r2 M2 P2 hq2 => ?_)
  obtain ⟨e2, m2, fl2⟩ := hq2
  have j2 := JC_FL hj hA.z fl2
  refine g_icmp_eq (pc := 891) (tgt := 919) C dL_law_891 (by decide) (fun c891 => ?_) (fun c891 => ?_)
  · exact nx _ _ _ j2 m2 (WA_mono hA (by omega) hc) hT
  · exact absurd e2.symm c891

set_option maxRecDepth 100000 in
set_option maxHeartbeats 1000000 in
theorem law_26 {X : GX} {l : Launch} {D : va_G} {cy : Nat → ClassId} {B b L : Nat} {xs : Nat → Int32} {M : MM} {P : PP} (C : Cx X D cy B cL_law 8 RL wsL_law l 8 278 600000 7302250) (S : Sx X B b L xs) (hL : L ≤ 2560) {i c : Nat} {A : AS} (hi : i + 4 < L) (hj : JC M P A) (hm : JM M P A) (hA : WA c A) (hT : TA A) (hc : c + 60 ≤ 40000) (nx : ∀ (M1 : MM) (P1 : PP) (A1 : AS), JC M1 P1 A1 → JM M1 P1 A1 → WA (c + 60) A1 → TA A1 → G X D cy B 600000 7302250 376 M1 P1 919 [some (Value.ref b), some (Value.ref (B + 0)), some (Value.ref (B + 369)), some (Value.int (nI (i))), none, none, none, none] []) : G X D cy B 600000 7302250 376 M P 896 [some (Value.ref b), some (Value.ref (B + 0)), some (Value.ref (B + 369)), some (Value.int (nI (i))), none, none, none, none] [] := by
  refine g_aload_1 (pc := 896) C dL_law_896 ?_
  refine g_aload_0 (pc := 897) C dL_law_897 ?_
  refine g_iload_3 (pc := 898) C dL_law_898 ?_
  refine g_iconst (pc := 899) (v := 1) C dL_law_899 rfl ?_
  refine g_iadd (pc := 900) C dL_law_900 ?_
  refine g_sld (pc := 901) (j := i + 1) C S (show nI (i) + 1 = nI (i + 1) from nI_add _ 1) (by omega) hL dL_law_901 ?_
  refine g_V1ie (pc := 902) C e_L_law_124 (Nat.le_of_ble_eq_true rfl) rfl dL_law_902 kk0 (c6_count hj hA) ?_
  refine g_aload_2 (pc := 905) C dL_law_905 ?_
  refine g_aload_0 (pc := 906) C dL_law_906 ?_
  refine g_iload_3 (pc := 907) C dL_law_907 ?_
  refine g_iconst (pc := 908) (v := 1) C dL_law_908 rfl ?_
  refine g_iadd (pc := 909) C dL_law_909 ?_
  refine g_sld (pc := 910) (j := i + 1) C S (show nI (i) + 1 = nI (i + 1) from nI_add _ 1) (by omega) hL dL_law_910 ?_
  refine g_V1i (pc := 911) C e_L_law_127 (Nat.le_of_ble_eq_true rfl) rfl dL_law_911 kk369 (c7_count hm hA) (fun r2 M2 P2 hq2 => ?_)
  obtain ⟨e2, m2, fl2⟩ := hq2
  have j2 := JC_FL hj hA.z fl2
  refine g_icmp_eq (pc := 914) (tgt := 919) C dL_law_914 (by decide) (fun c914 => ?_) (fun c914 => ?_)
  · exact nx _ _ _ j2 m2 (WA_mono hA (by omega) hc) hT
  · exact absurd e2.symm c914

