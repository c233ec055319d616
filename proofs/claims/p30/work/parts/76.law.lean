/-! the law's walk: a turn -/
set_option maxRecDepth 20000 in
theorem e_L_law_85 : EV wsL_law RL 85 RX6 yX6_undo wsX6_undo 0 6 3 67 9 328 := ⟨cX6_undo, 2, (some .int), _, TX6, 6, gL_law_X6_undo, rfl, ⟨rfl, by decide +kernel, by decide +kernel, by decide +kernel⟩, ⟨by decide, by decide⟩, rfl, by decide⟩
set_option maxRecDepth 20000 in
theorem e_L_law_62 : EV wsL_law RL 62 RX6 yX6_restore wsX6_restore 0 6 4 89 9 328 := ⟨cX6_restore, 1, (some .int), _, TX6, 6, gL_law_X6_restore, rfl, ⟨rfl, by decide +kernel, by decide +kernel, by decide +kernel⟩, ⟨by decide, by decide⟩, rfl, by decide⟩
set_option maxRecDepth 20000 in
theorem e_L_law_89 : EV wsL_law RL 89 RX6 yX6_keep wsX6_keep 0 6 3 67 9 328 := ⟨cX6_keep, 1, (some .int), _, TX6, 6, gL_law_X6_keep, rfl, ⟨rfl, by decide +kernel, by decide +kernel, by decide +kernel⟩, ⟨by decide, by decide⟩, rfl, by decide⟩
set_option maxRecDepth 20000 in
theorem e_L_law_92 : ES wsL_law RL 92 yL_told wsL_told 1 3 68 9 328 := ⟨cL_told, 5, (some .long), _, gL_law_L_told, rfl, ⟨by decide +kernel, by decide +kernel, by decide +kernel⟩, ⟨by decide, by decide⟩⟩
set_option maxRecDepth 20000 in
theorem e_L_law_96 : ES wsL_law RL 96 yL_cell wsL_cell 2 0 0 9 328 := ⟨cL_cell, 2, (some .int), _, gL_law_L_cell, rfl, ⟨by decide +kernel, by decide +kernel, by decide +kernel⟩, ⟨by decide, by decide⟩⟩
set_option maxRecDepth 20000 in
theorem e_L_law_12 : EV wsL_law RL 12 RX6 yX6_count wsX6_count 1 6 2 44 9 328 := ⟨cX6_count, 2, (some .int), _, TX6, 6, gL_law_X6_count, rfl, ⟨rfl, by decide +kernel, by decide +kernel, by decide +kernel⟩, ⟨by decide, by decide⟩, rfl, by decide⟩
set_option maxRecDepth 20000 in
theorem e_L_law_100 : ES wsL_law RL 100 yL_act wsL_act 3 6 139 9 328 := ⟨cL_act, 6, (some .int), _, gL_law_L_act, rfl, ⟨by decide +kernel, by decide +kernel, by decide +kernel⟩, ⟨by decide, by decide⟩⟩
set_option maxRecDepth 20000 in
theorem e_L_law_104 : ES wsL_law RL 104 yL_isDone wsL_isDone 1 0 0 9 328 := ⟨cL_isDone, 1, (some .boolean), _, gL_law_L_isDone, rfl, ⟨by decide +kernel, by decide +kernel, by decide +kernel⟩, ⟨by decide, by decide⟩⟩
set_option maxRecDepth 20000 in
theorem e_L_law_108 : ES wsL_law RL 108 yL_holds wsL_holds 1 3 69 9 328 := ⟨cL_holds, 14, (some .boolean), _, gL_law_L_holds, rfl, ⟨by decide +kernel, by decide +kernel, by decide +kernel⟩, ⟨by decide, by decide⟩⟩
section LAW
variable {X : GX} {l : Launch} {D : va_G} {cy : Nat → ClassId} {B b L : Nat} {xs : Nat → Int32} {M : MM} {P : PP}
set_option maxRecDepth 100000 in
set_option maxHeartbeats 1000000 in
theorem law_D (C : Cx X D cy B cL_law 16 RL wsL_law l 9 328 630155 7211782) {A : AS} {c t : Nat} (hj : JC M P A) (hA : WA c A) (hh : HA c A) (hk : A.kept = 1) (hc : c ≤ 5000) {v w r : Int32} {bf : Int64} {s9 s10 s14 s15 : Option Value} (nx : ∀ (M1 : MM) (P1 : PP) (A1 : AS), JC M1 P1 A1 → WA c A1 → HA c A1 → A1.kept = 1 → G2 X D cy B 630155 7211782 369 M1 P1 43 [some (Value.ref b), some (Value.ref (B + 0)), some (Value.long (T5 A1.sf)), none, some (Value.int (nI (t + 1))), none, none, none, none, none, none, none, none, none, none, none] []) : G2 X D cy B 630155 7211782 369 M P 312 [some (Value.ref b), some (Value.ref (B + 0)), some (Value.long (T5 A.sf)), none, some (Value.int (nI (t))), some (Value.int (v)), some (Value.int (w)), some (Value.long (bf)), none, s9, s10, some (Value.int (r)), some (Value.long (T5 A.f)), none, s14, s15] [] := by
  refine h_aload_1 (pc := 312) C dL_law_312 ?_
  refine h_S1ie (pc := 313) C e_L_law_108 (Nat.le_of_ble_eq_true rfl) rfl dL_law_313 (l_check hj hA hh.1 hc) ?_
  refine h_if_ne (pc := 316) (tgt := 321) C dL_law_316 (by decide) (fun c316 => ?_) (fun c316 => ?_)
  · refine h_iload_5 (pc := 321) C dL_law_321 ?_
    refine h_bipush (pc := 323) (v := 11) C dL_law_323 rfl ?_
    refine h_ishr (pc := 325) C dL_law_325 ?_
    refine h_bipush (pc := 326) (v := 7) C dL_law_326 rfl ?_
    refine h_iand (pc := 328) C dL_law_328 ?_
    refine h_iconst (pc := 329) (v := 1) C dL_law_329 rfl ?_
    refine h_icmp_ne (pc := 330) (tgt := 341) C dL_law_330 (by decide) (fun c330 => ?_) (fun c330 => ?_)
    · refine h_iinc_4 (pc := 341) (v := nI (t + 1)) C dL_law_341 (nI_1 t) (by rfl) ?_
      refine h_goto (pc := 344) (tgt := 43) C dL_law_344 (by decide) ?_
      refine h_less (lv' := [some (Value.ref b), some (Value.ref (B + 0)), some (Value.long (T5 A.sf)), none, some (Value.int (nI (t + 1))), none, none, none, none, none, none, none, none, none, none, none]) rfl ?_ (nx _ _ _ hj hA hh hk)
      intro i v h
      rcases i with _ | _ | _ | _ | _ | _ | _ | _ | _ | _ | _ | _ | _ | _ | _ | _ | i <;> first | exact h | cases h
    · refine h_aload_1 (pc := 333) C dL_law_333 ?_
      refine h_V0i (pc := 334) C e_L_law_89 (Nat.le_of_ble_eq_true rfl) rfl dL_law_334 kk0 (c6_keep hj hA) (fun r1 M1 P1 hq => ?_)
      obtain ⟨-, hj1, -⟩ := hq
      refine h_pop (pc := 337) C dL_law_337 rfl ?_
      refine h_lload_12 (pc := 338) C dL_law_338 ?_
      refine h_lstore_2 (pc := 340) C dL_law_340 (by rfl) ?_
      refine h_iinc_4 (pc := 341) (v := nI (t + 1)) C dL_law_341 (nI_1 t) (by rfl) ?_
      refine h_goto (pc := 344) (tgt := 43) C dL_law_344 (by decide) ?_
      refine h_less (lv' := [some (Value.ref b), some (Value.ref (B + 0)), some (Value.long (T5 (sKeep A).2.sf)), none, some (Value.int (nI (t + 1))), none, none, none, none, none, none, none, none, none, none, none]) rfl ?_ (nx _ _ _ hj1 (WA_sKeep hA) ⟨hh.1, hh.2.1, fun _ => hh.1⟩ rfl)
      intro i v h
      rcases i with _ | _ | _ | _ | _ | _ | _ | _ | _ | _ | _ | _ | _ | _ | _ | _ | i <;> first | exact h | cases h
  · exact absurd (show (1 : Int32) = 0 from c316) (by decide)
set_option maxRecDepth 100000 in
set_option maxHeartbeats 1000000 in
theorem law_C (C : Cx X D cy B cL_law 16 RL wsL_law l 9 328 630155 7211782) {A : AS} {c : Nat} (hA0 : WA c A) (hh0 : HA c A) (hk : A.kept = 1) (hc : c ≤ 4800) {v w : Int32} {s4 s9 s10 s15 : Option Value} {k14 : Int32} (hj1 : JC M P (sAct A v w).2) (nx : ∀ (M1 : MM) (P1 : PP) (A1 : AS) (s15 : Option Value), JC M1 P1 A1 → WA (c + 120) A1 → HA (c + 120) A1 → A1.kept = 1 → A1.f = (sAct A v w).2.f → A1.sf = A.sf → G2 X D cy B 630155 7211782 369 M1 P1 312 [some (Value.ref b), some (Value.ref (B + 0)), some (Value.long (T5 A.sf)), none, s4, some (Value.int (v)), some (Value.int (w)), some (Value.long (T5 A.f)), none, s9, s10, some (Value.int ((sAct A v w).1)), some (Value.long (T5 (sAct A v w).2.f)), none, some (Value.int (k14)), s15] []) : G2 X D cy B 630155 7211782 369 M P 240 [some (Value.ref b), some (Value.ref (B + 0)), some (Value.long (T5 A.sf)), none, s4, some (Value.int (v)), some (Value.int (w)), some (Value.long (T5 A.f)), none, s9, s10, some (Value.int ((sAct A v w).1)), some (Value.long (T5 (sAct A v w).2.f)), none, some (Value.int (k14)), s15] [] := by
  have hA1 := WA_act (v := v) (w := w) hA0 (by omega)
  have hh1 := HA_act (v := v) (w := w) hA0 hh0 (by omega)
  obtain ⟨p1, p2, p3⟩ := psh_top hA0.z
  rcases act_ok (v := v) (w := w) hA0 hh0 (by omega) with ⟨hr, e1⟩ | ⟨hr, f1, ho, e1, -⟩
  · refine h_iload_11 (pc := 240) C dL_law_240 ?_
    refine h_S1ie (pc := 242) C e_L_law_104 (Nat.le_of_ble_eq_true rfl) rfl dL_law_242 (l_isDone) ?_
    rw [show doneI (sAct A v w).1 = 0 from if_pos hr]
    refine h_if_eq (pc := 245) (tgt := 312) C dL_law_245 (by decide) (fun c245 => ?_) (fun c245 => ?_)
    · exact nx _ _ _ _ hj1 (WA_mono hA1 (by omega) (by omega)) (HA_mono hh1 (by omega)) (by rw [e1]; exact hk) rfl (by rw [e1])
    · exact absurd rfl c245
  · refine h_iload_11 (pc := 240) C dL_law_240 ?_
    refine h_S1ie (pc := 242) C e_L_law_104 (Nat.le_of_ble_eq_true rfl) rfl dL_law_242 (l_isDone) ?_
    rw [show doneI (sAct A v w).1 = 1 from if_neg hr]
    refine h_if_eq (pc := 245) (tgt := 312) C dL_law_245 (by decide) (fun c245 => ?_) (fun c245 => ?_)
    · exact absurd (show (1 : Int32) = 0 from c245) (by decide)
    · refine h_iload_5 (pc := 248) C dL_law_248 ?_
      refine h_bipush (pc := 250) (v := 10) C dL_law_250 rfl ?_
      refine h_ishr (pc := 252) C dL_law_252 ?_
      refine h_iconst (pc := 253) (v := 1) C dL_law_253 rfl ?_
      refine h_iand (pc := 254) C dL_law_254 ?_
      refine h_if_ne (pc := 255) (tgt := 312) C dL_law_255 (by decide) (fun c255 => ?_) (fun c255 => ?_)
      · exact nx _ _ _ _ hj1 (WA_mono hA1 (by omega) (by omega)) (HA_mono hh1 (by omega)) (by rw [e1]; exact hk) rfl (by rw [e1])
      · refine h_aload_1 (pc := 258) C dL_law_258 ?_
        refine h_bipush (pc := 259) (v := 13) C dL_law_259 rfl ?_
        refine h_V1ie (pc := 261) C e_L_law_12 (Nat.le_of_ble_eq_true rfl) rfl dL_law_261 kk0 (c6_count hj1 hA1) ?_
        rw [aC13, show (sAct A v w).2.z = pshZ A.z by rw [e1]]
        refine h_iconst (pc := 264) (v := 1) C dL_law_264 rfl ?_
        refine h_isub (pc := 265) C dL_law_265 ?_
        refine h_istore_15 (pc := 266) C dL_law_266 (by rfl) ?_
        refine h_aload_1 (pc := 268) C dL_law_268 ?_
        refine h_V0i (pc := 269) C e_L_law_85 (Nat.le_of_ble_eq_true rfl) rfl dL_law_269 kk0 (c6_undo hj1 hA1) (fun r2 M2 P2 hq2 => ?_)
        obtain ⟨eu, ju, -⟩ := hq2
        have e3 : r2 = nI (pshZ A.z) - 1 := by
          rw [eu, e1]
          unfold sUndo
          rw [if_neg (show ¬ (stF (psh A) f1).z = 0 from fun z => by have z2 : pshZ A.z = 0 := z; omega)]
          exact (nI_sub p1).symm
        have j2 : JC M2 P2 (A.f, pshZ A.z - 1, pshH A.z A.hf A.f, A.2.2.2) := by
          rw [e1] at ju
          unfold sUndo at ju
          rw [if_neg (show ¬ (stF (psh A) f1).z = 0 from fun z => by have z2 : pshZ A.z = 0 := z; omega)] at ju
          exact JC_f (f1 := A.f) ju (fun k hk => by
            show A.f k = rest (pshH A.z A.hf A.f (pshZ A.z - 1)) f1 k
            rw [rest_lo hk, p3])
        have hA2 : WA c (A.f, pshZ A.z - 1, pshH A.z A.hf A.f, A.2.2.2) := ⟨hA0.1, fun j hj => (WA_psh hA0).2.1 j (by have hj2 : j < pshZ A.z - 1 := hj; show j < pshZ A.z; omega), by show pshZ A.z - 1 ≤ 4; omega, hA0.2.2.2⟩
        have hh2 : HA c (A.f, pshZ A.z - 1, pshH A.z A.hf A.f, A.2.2.2) := ⟨hh0.1, fun j hj => (HA_psh hh0).2.1 j (by have hj2 : j < pshZ A.z - 1 := hj; show j < pshZ A.z; omega), hh0.2.2⟩
        refine h_iload_15 (pc := 272) C dL_law_272 ?_
        refine h_icmp_ne (pc := 274) (tgt := 310) C dL_law_274 (by decide) (fun c274 => ?_) (fun c274 => ?_)
        · exact absurd e3 c274
        · refine h_aload_1 (pc := 277) C dL_law_277 ?_
          refine h_S1le (pc := 278) C e_L_law_92 (Nat.le_of_ble_eq_true rfl) rfl dL_law_278 (l_told j2 hA2 hh2.1 (by omega)) ?_
          refine h_lload_7 (pc := 281) C dL_law_281 ?_
          refine h_lcmp (pc := 283) C dL_law_283 ?_
          refine h_if_ne (pc := 284) (tgt := 310) C dL_law_284 (by decide) (fun c284 => ?_) (fun c284 => ?_)
          · exact absurd (lc_0 rfl) c284
          · refine h_aload_1 (pc := 287) C dL_law_287 ?_
            refine h_iload_5 (pc := 288) C dL_law_288 ?_
            refine h_iload_6 (pc := 290) C dL_law_290 ?_
            refine h_S3i (pc := 292) C e_L_law_100 (Nat.le_of_ble_eq_true rfl) rfl dL_law_292 (l_act j2 hA2 hh2.1 (by omega)) (fun r3 M3 P3 hq3 => ?_)
            obtain ⟨e4, j3, -⟩ := hq3
            have e5 : r3 = (sAct A v w).1 := by
              rw [e4, e_Act, e_Act]
              rfl
            have hA3 := WA_act (v := v) (w := w) hA2 (by omega)
            have hh3 := HA_act (v := v) (w := w) hA2 hh2 (by omega)
            have e6 : (sAct (A.f, pshZ A.z - 1, pshH A.z A.hf A.f, A.2.2.2) v w).2 = stF (psh (A.f, pshZ A.z - 1, pshH A.z A.hf A.f, A.2.2.2)) f1 := by
              rw [e_Act]
              unfold apo
              rw [show (oAct (AS.f (A.f, pshZ A.z - 1, pshH A.z A.hf A.f, A.2.2.2)) (AS.kept (A.f, pshZ A.z - 1, pshH A.z A.hf A.f, A.2.2.2)) (AS.sf (A.f, pshZ A.z - 1, pshH A.z A.hf A.f, A.2.2.2)) v w).2 = some f1 from ho]
            refine h_iload_11 (pc := 295) C dL_law_295 ?_
            refine h_icmp_ne (pc := 297) (tgt := 310) C dL_law_297 (by decide) (fun c297 => ?_) (fun c297 => ?_)
            · exact absurd e5 c297
            · refine h_aload_1 (pc := 300) C dL_law_300 ?_
              refine h_S1le (pc := 301) C e_L_law_92 (Nat.le_of_ble_eq_true rfl) rfl dL_law_301 (l_told j3 hA3 hh3.1 (by omega)) ?_
              refine h_lload_12 (pc := 304) C dL_law_304 ?_
              refine h_lcmp (pc := 306) C dL_law_306 ?_
              refine h_if_eq (pc := 307) (tgt := 312) C dL_law_307 (by decide) (fun c307 => ?_) (fun c307 => ?_)
              · exact nx _ _ _ _ j3 (WA_mono hA3 (by omega) (by omega)) (HA_mono hh3 (by omega)) (by rw [e6]; exact hk) (by rw [e6, e1]) (by rw [e6])
              · exact absurd (lc_0 (by rw [e6, e1])) c307
set_option maxRecDepth 100000 in
set_option maxHeartbeats 1000000 in
theorem law_B (C : Cx X D cy B cL_law 16 RL wsL_law l 9 328 630155 7211782) {A : AS} {c : Nat} (hA0 : WA c A) (hh0 : HA c A) (hk : A.kept = 1) (hc : c ≤ 4800) {v w : Int32} {s4 s9 s14 s15 : Option Value} (hj1 : JC M P (sAct A v w).2) (nx : G2 X D cy B 630155 7211782 369 M P 240 [some (Value.ref b), some (Value.ref (B + 0)), some (Value.long (T5 A.sf)), none, s4, some (Value.int (v)), some (Value.int (w)), some (Value.long (T5 A.f)), none, s9, some (Value.int (A.f 7)), some (Value.int ((sAct A v w).1)), some (Value.long (T5 (sAct A v w).2.f)), none, some (Value.int (v &&& 15)), s15] []) : G2 X D cy B 630155 7211782 369 M P 174 [some (Value.ref b), some (Value.ref (B + 0)), some (Value.long (T5 A.sf)), none, s4, some (Value.int (v)), some (Value.int (w)), some (Value.long (T5 A.f)), none, s9, some (Value.int (A.f 7)), some (Value.int ((sAct A v w).1)), some (Value.long (T5 (sAct A v w).2.f)), none, s14, s15] [] := by
  have hA1 := WA_act (v := v) (w := w) hA0 (by omega)
  rcases act_ok (v := v) (w := w) hA0 hh0 (by omega) with ⟨hr, e1⟩ | ⟨hr, f1, ho, e1, -⟩
  · refine h_iload_5 (pc := 174) C dL_law_174 ?_
    refine h_bipush (pc := 176) (v := 15) C dL_law_176 rfl ?_
    refine h_iand (pc := 178) C dL_law_178 ?_
    refine h_istore_14 (pc := 179) C dL_law_179 (by rfl) ?_
    refine h_iload_11 (pc := 181) C dL_law_181 ?_
    refine h_S1ie (pc := 183) C e_L_law_104 (Nat.le_of_ble_eq_true rfl) rfl dL_law_183 (l_isDone) ?_
    rw [show doneI (sAct A v w).1 = 0 from if_pos hr]
    refine h_if_eq (pc := 186) (tgt := 216) C dL_law_186 (by decide) (fun c186 => ?_) (fun c186 => ?_)
    · refine h_iload_11 (pc := 216) C dL_law_216 ?_
      refine h_S1ie (pc := 218) C e_L_law_104 (Nat.le_of_ble_eq_true rfl) rfl dL_law_218 (l_isDone) ?_
      rw [show doneI (sAct A v w).1 = 0 from if_pos hr]
      refine h_if_eq (pc := 221) (tgt := 240) C dL_law_221 (by decide) (fun c221 => ?_) (fun c221 => ?_)
      · exact nx
      · exact absurd rfl c221
    · exact absurd rfl c186
  · refine h_iload_5 (pc := 174) C dL_law_174 ?_
    refine h_bipush (pc := 176) (v := 15) C dL_law_176 rfl ?_
    refine h_iand (pc := 178) C dL_law_178 ?_
    refine h_istore_14 (pc := 179) C dL_law_179 (by rfl) ?_
    refine h_iload_11 (pc := 181) C dL_law_181 ?_
    refine h_S1ie (pc := 183) C e_L_law_104 (Nat.le_of_ble_eq_true rfl) rfl dL_law_183 (l_isDone) ?_
    rw [show doneI (sAct A v w).1 = 1 from if_neg hr]
    refine h_if_eq (pc := 186) (tgt := 216) C dL_law_186 (by decide) (fun c186 => ?_) (fun c186 => ?_)
    · exact absurd (show (1 : Int32) = 0 from c186) (by decide)
    · refine h_iload_14 (pc := 189) C dL_law_189 ?_
      refine h_bipush (pc := 191) (v := 9) C dL_law_191 rfl ?_
      refine h_icmp_eq (pc := 193) (tgt := 203) C dL_law_193 (by decide) (fun c193 => ?_) (fun c193 => ?_)
      · refine h_aload_1 (pc := 203) C dL_law_203 ?_
        refine h_iconst (pc := 204) (v := 5) C dL_law_204 rfl ?_
        refine h_V1ie (pc := 205) C e_L_law_12 (Nat.le_of_ble_eq_true rfl) rfl dL_law_205 kk0 (c6_count hj1 hA1) ?_
        rw [aC5]
        refine h_iload_10 (pc := 208) C dL_law_208 ?_
        refine h_iload_11 (pc := 210) C dL_law_210 ?_
        refine h_iadd (pc := 212) C dL_law_212 ?_
        refine h_icmp_ne (pc := 213) (tgt := 238) C dL_law_213 (by decide) (fun c213 => ?_) (fun c213 => ?_)
        · exact absurd (show (sAct A v w).2.f 7 = A.f 7 + (sAct A v w).1 by rw [e1]; exact (act_9 (Or.inl c193) ho).trans (by rw [e_Act]; rfl)) c213
        · refine h_iload_11 (pc := 216) C dL_law_216 ?_
          refine h_S1ie (pc := 218) C e_L_law_104 (Nat.le_of_ble_eq_true rfl) rfl dL_law_218 (l_isDone) ?_
          rw [show doneI (sAct A v w).1 = 1 from if_neg hr]
          refine h_if_eq (pc := 221) (tgt := 240) C dL_law_221 (by decide) (fun c221 => ?_) (fun c221 => ?_)
          · exact absurd (show (1 : Int32) = 0 from c221) (by decide)
          · refine h_iload_14 (pc := 224) C dL_law_224 ?_
            refine h_bipush (pc := 226) (v := 8) C dL_law_226 rfl ?_
            refine h_icmp_ne (pc := 228) (tgt := 240) C dL_law_228 (by decide) (fun c228 => ?_) (fun c228 => ?_)
            · exact nx
            · refine h_lload_12 (pc := 231) C dL_law_231 ?_
              refine h_lload_2 (pc := 233) C dL_law_233 ?_
              refine h_lcmp (pc := 234) C dL_law_234 ?_
              refine h_if_eq (pc := 235) (tgt := 240) C dL_law_235 (by decide) (fun c235 => ?_) (fun c235 => ?_)
              · exact nx
              · exact absurd (lc_0 (by rw [e1]; exact congrArg T5 (act_8 c228 ho))) c235
      · refine h_iload_14 (pc := 196) C dL_law_196 ?_
        refine h_bipush (pc := 198) (v := 10) C dL_law_198 rfl ?_
        refine h_icmp_ne (pc := 200) (tgt := 216) C dL_law_200 (by decide) (fun c200 => ?_) (fun c200 => ?_)
        · refine h_iload_11 (pc := 216) C dL_law_216 ?_
          refine h_S1ie (pc := 218) C e_L_law_104 (Nat.le_of_ble_eq_true rfl) rfl dL_law_218 (l_isDone) ?_
          rw [show doneI (sAct A v w).1 = 1 from if_neg hr]
          refine h_if_eq (pc := 221) (tgt := 240) C dL_law_221 (by decide) (fun c221 => ?_) (fun c221 => ?_)
          · exact absurd (show (1 : Int32) = 0 from c221) (by decide)
          · refine h_iload_14 (pc := 224) C dL_law_224 ?_
            refine h_bipush (pc := 226) (v := 8) C dL_law_226 rfl ?_
            refine h_icmp_ne (pc := 228) (tgt := 240) C dL_law_228 (by decide) (fun c228 => ?_) (fun c228 => ?_)
            · exact nx
            · refine h_lload_12 (pc := 231) C dL_law_231 ?_
              refine h_lload_2 (pc := 233) C dL_law_233 ?_
              refine h_lcmp (pc := 234) C dL_law_234 ?_
              refine h_if_eq (pc := 235) (tgt := 240) C dL_law_235 (by decide) (fun c235 => ?_) (fun c235 => ?_)
              · exact nx
              · exact absurd (lc_0 (by rw [e1]; exact congrArg T5 (act_8 c228 ho))) c235
        · refine h_aload_1 (pc := 203) C dL_law_203 ?_
          refine h_iconst (pc := 204) (v := 5) C dL_law_204 rfl ?_
          refine h_V1ie (pc := 205) C e_L_law_12 (Nat.le_of_ble_eq_true rfl) rfl dL_law_205 kk0 (c6_count hj1 hA1) ?_
          rw [aC5]
          refine h_iload_10 (pc := 208) C dL_law_208 ?_
          refine h_iload_11 (pc := 210) C dL_law_210 ?_
          refine h_iadd (pc := 212) C dL_law_212 ?_
          refine h_icmp_ne (pc := 213) (tgt := 238) C dL_law_213 (by decide) (fun c213 => ?_) (fun c213 => ?_)
          · exact absurd (show (sAct A v w).2.f 7 = A.f 7 + (sAct A v w).1 by rw [e1]; exact (act_9 (Or.inr c200) ho).trans (by rw [e_Act]; rfl)) c213
          · refine h_iload_11 (pc := 216) C dL_law_216 ?_
            refine h_S1ie (pc := 218) C e_L_law_104 (Nat.le_of_ble_eq_true rfl) rfl dL_law_218 (l_isDone) ?_
            rw [show doneI (sAct A v w).1 = 1 from if_neg hr]
            refine h_if_eq (pc := 221) (tgt := 240) C dL_law_221 (by decide) (fun c221 => ?_) (fun c221 => ?_)
            · exact absurd (show (1 : Int32) = 0 from c221) (by decide)
            · refine h_iload_14 (pc := 224) C dL_law_224 ?_
              refine h_bipush (pc := 226) (v := 8) C dL_law_226 rfl ?_
              refine h_icmp_ne (pc := 228) (tgt := 240) C dL_law_228 (by decide) (fun c228 => ?_) (fun c228 => ?_)
              · exact nx
              · refine h_lload_12 (pc := 231) C dL_law_231 ?_
                refine h_lload_2 (pc := 233) C dL_law_233 ?_
                refine h_lcmp (pc := 234) C dL_law_234 ?_
                refine h_if_eq (pc := 235) (tgt := 240) C dL_law_235 (by decide) (fun c235 => ?_) (fun c235 => ?_)
                · exact nx
                · exact absurd (lc_0 (by rw [e1]; exact congrArg T5 (act_8 c228 ho))) c235
set_option maxRecDepth 100000 in
set_option maxHeartbeats 1000000 in
theorem law_A (C : Cx X D cy B cL_law 16 RL wsL_law l 9 328 630155 7211782) (S : Sx X B b L xs) (hL : L ≤ 260) {A : AS} {c t : Nat} (hj : JC M P A) (hA0 : WA c A) (hh0 : HA c A) (hk : A.kept = 1) (hc : c ≤ 4800) (ht : t < 38) {v : Int32} (nx : ∀ (M1 : MM) (P1 : PP) (w : Int32), JC M1 P1 (sAct A v w).2 → G2 X D cy B 630155 7211782 369 M1 P1 174 [some (Value.ref b), some (Value.ref (B + 0)), some (Value.long (T5 A.sf)), none, some (Value.int (nI (t))), some (Value.int (v)), some (Value.int (w)), some (Value.long (T5 A.f)), none, some (Value.int (nI A.z)), some (Value.int (A.f 7)), some (Value.int ((sAct A v w).1)), some (Value.long (T5 (sAct A v w).2.f)), none, none, none] []) : G2 X D cy B 630155 7211782 369 M P 68 [some (Value.ref b), some (Value.ref (B + 0)), some (Value.long (T5 A.sf)), none, some (Value.int (nI (t))), none, none, none, none, none, none, none, none, none, none, none] [Value.int v] := by
  have hz := hA0.z
  refine h_istore_5 (pc := 68) C dL_law_68 (by rfl) ?_
  refine h_aload_0 (pc := 70) C dL_law_70 ?_
  refine h_iconst (pc := 71) (v := 2) C dL_law_71 rfl ?_
  refine h_iload_4 (pc := 72) C dL_law_72 ?_
  refine h_imul (pc := 74) C dL_law_74 ?_
  refine h_iconst (pc := 75) (v := 1) C dL_law_75 rfl ?_
  refine h_iadd (pc := 76) C dL_law_76 ?_
  rw [show (2 : Int32) * nI t + 1 = nI (2 * t + 1) by rw [show (2 : Int32) = nI 2 from rfl, pk_mul]; exact nI_add _ 1]
  refine h_S2xe (pc := 77) C S e_L_law_96 (Nat.le_of_ble_eq_true rfl) rfl dL_law_77 (l_cell S.lt hL (by omega)) ?_
  generalize cellI L xs (2 * t + 1) = w
  refine h_istore_6 (pc := 80) C dL_law_80 (by rfl) ?_
  refine h_aload_1 (pc := 82) C dL_law_82 ?_
  refine h_S1le (pc := 83) C e_L_law_92 (Nat.le_of_ble_eq_true rfl) rfl dL_law_83 (l_told hj hA0 hh0.1 (by omega)) ?_
  refine h_lstore_7 (pc := 86) C dL_law_86 (by rfl) ?_
  refine h_aload_1 (pc := 88) C dL_law_88 ?_
  refine h_bipush (pc := 89) (v := 13) C dL_law_89 rfl ?_
  refine h_V1ie (pc := 91) C e_L_law_12 (Nat.le_of_ble_eq_true rfl) rfl dL_law_91 kk0 (c6_count hj hA0) ?_
  rw [aC13]
  refine h_istore_9 (pc := 94) C dL_law_94 (by rfl) ?_
  refine h_aload_1 (pc := 96) C dL_law_96 ?_
  refine h_iconst (pc := 97) (v := 5) C dL_law_97 rfl ?_
  refine h_V1ie (pc := 98) C e_L_law_12 (Nat.le_of_ble_eq_true rfl) rfl dL_law_98 kk0 (c6_count hj hA0) ?_
  rw [aC5]
  refine h_istore_10 (pc := 101) C dL_law_101 (by rfl) ?_
  refine h_aload_1 (pc := 103) C dL_law_103 ?_
  refine h_iload_5 (pc := 104) C dL_law_104 ?_
  refine h_iload_6 (pc := 106) C dL_law_106 ?_
  refine h_S3i (pc := 108) C e_L_law_100 (Nat.le_of_ble_eq_true rfl) rfl dL_law_108 (l_act hj hA0 hh0.1 (by omega)) (fun r1 M1 P1 hq1 => ?_)
  obtain ⟨er, hj1, -⟩ := hq1
  subst er
  have hA1 := WA_act (v := v) (w := w) hA0 (by omega)
  have hh1 := HA_act (v := v) (w := w) hA0 hh0 (by omega)
  refine h_istore_11 (pc := 111) C dL_law_111 (by rfl) ?_
  refine h_aload_1 (pc := 113) C dL_law_113 ?_
  refine h_S1le (pc := 114) C e_L_law_92 (Nat.le_of_ble_eq_true rfl) rfl dL_law_114 (l_told hj1 hA1 hh1.1 (by omega)) ?_
  refine h_lstore_12 (pc := 117) C dL_law_117 (by rfl) ?_
  rcases act_ok (v := v) (w := w) hA0 hh0 (by omega) with ⟨hr, e1⟩ | ⟨hr, f1, ho, e1, -⟩
  · refine h_iload_11 (pc := 119) C dL_law_119 ?_
    refine h_S1ie (pc := 121) C e_L_law_104 (Nat.le_of_ble_eq_true rfl) rfl dL_law_121 (l_isDone) ?_
    rw [show doneI (sAct A v w).1 = 0 from if_pos hr]
    refine h_if_ne (pc := 124) (tgt := 149) C dL_law_124 (by decide) (fun c124 => ?_) (fun c124 => ?_)
    · exact absurd rfl c124
    · refine h_lload_12 (pc := 127) C dL_law_127 ?_
      refine h_lload_7 (pc := 129) C dL_law_129 ?_
      refine h_lcmp (pc := 131) C dL_law_131 ?_
      refine h_if_ne (pc := 132) (tgt := 172) C dL_law_132 (by decide) (fun c132 => ?_) (fun c132 => ?_)
      · exact absurd (lc_0 (by rw [e1])) c132
      · refine h_aload_1 (pc := 135) C dL_law_135 ?_
        refine h_bipush (pc := 136) (v := 13) C dL_law_136 rfl ?_
        refine h_V1ie (pc := 138) C e_L_law_12 (Nat.le_of_ble_eq_true rfl) rfl dL_law_138 kk0 (c6_count hj1 hA1) ?_
        rw [aC13, show (sAct A v w).2.z = A.z by rw [e1]]
        refine h_iload_9 (pc := 141) C dL_law_141 ?_
        refine h_icmp_eq (pc := 143) (tgt := 174) C dL_law_143 (by decide) (fun c143 => ?_) (fun c143 => ?_)
        · exact nx _ _ _ hj1
        · exact absurd rfl c143
  · refine h_iload_11 (pc := 119) C dL_law_119 ?_
    refine h_S1ie (pc := 121) C e_L_law_104 (Nat.le_of_ble_eq_true rfl) rfl dL_law_121 (l_isDone) ?_
    rw [show doneI (sAct A v w).1 = 1 from if_neg hr]
    refine h_if_ne (pc := 124) (tgt := 149) C dL_law_124 (by decide) (fun c124 => ?_) (fun c124 => ?_)
    · refine h_aload_1 (pc := 149) C dL_law_149 ?_
      refine h_bipush (pc := 150) (v := 13) C dL_law_150 rfl ?_
      refine h_V1ie (pc := 152) C e_L_law_12 (Nat.le_of_ble_eq_true rfl) rfl dL_law_152 kk0 (c6_count hj1 hA1) ?_
      rw [aC13, show (sAct A v w).2.z = pshZ A.z by rw [e1]]
      refine h_iload_9 (pc := 155) C dL_law_155 ?_
      refine h_iconst (pc := 157) (v := 4) C dL_law_157 rfl ?_
      refine h_icmp_ge (pc := 158) (tgt := 168) C dL_law_158 (by decide) (fun c158 => ?_) (fun c158 => ?_)
      · refine h_iconst (pc := 168) (v := 4) C dL_law_168 rfl ?_
        refine h_icmp_eq (pc := 169) (tgt := 174) C dL_law_169 (by decide) (fun c169 => ?_) (fun c169 => ?_)
        · exact nx _ _ _ hj1
        · exact absurd (show nI (pshZ A.z) = 4 by unfold pshZ; rw [if_pos (show A.z = 4 by have := i_le (a := 4) (by decide) (by omega) c158; omega)]; rfl) c169
      · refine h_iload_9 (pc := 161) C dL_law_161 ?_
        refine h_iconst (pc := 163) (v := 1) C dL_law_163 rfl ?_
        refine h_iadd (pc := 164) C dL_law_164 ?_
        refine h_goto (pc := 165) (tgt := 169) C dL_law_165 (by decide) ?_
        refine h_icmp_eq (pc := 169) (tgt := 174) C dL_law_169 (by decide) (fun c169 => ?_) (fun c169 => ?_)
        · exact nx _ _ _ hj1
        · exact absurd (show nI (pshZ A.z) = nI A.z + 1 by unfold pshZ; rw [if_neg (show ¬ A.z = 4 from fun z => c158 (by rw [z]; decide))]; exact (nI_1 _).symm) c169
    · exact absurd (show (1 : Int32) = 0 from c124) (by decide)
set_option maxRecDepth 100000 in
set_option maxHeartbeats 1000000 in
theorem law_loop (C : Cx X D cy B cL_law 16 RL wsL_law l 9 328 630155 7211782) (S : Sx X B b L xs) (hL : L ≤ 260) (E : ∀ (M : MM) (P : PP) (lv : List (Option Value)), G2 X D cy B 630155 7211782 369 M P 347 lv []) : ∀ (n t c : Nat) (M : MM) (P : PP) (A : AS), t + n = 38 → c + 120 * n ≤ 4900 → JC M P A → WA c A → HA c A → A.kept = 1 → G2 X D cy B 630155 7211782 369 M P 43 [some (Value.ref b), some (Value.ref (B + 0)), some (Value.long (T5 A.sf)), none, some (Value.int (nI (t))), none, none, none, none, none, none, none, none, none, none, none] []
  | 0, t, c, M, P, A, ht, hc, hj, hA0, hh0, hk => by
    have et : t = 38 := by omega
    subst et
    refine h_iload_4 (pc := 43) C dL_law_43 ?_
    refine h_bipush (pc := 45) (v := 38) C dL_law_45 rfl ?_
    refine h_icmp_ge (pc := 47) (tgt := 347) C dL_law_47 (by decide) (fun c47 => ?_) (fun c47 => ?_)
    · exact E _ _ _
    · exact absurd (show (38 : Int32) ≤ nI 38 by decide) c47
  | n + 1, t, c, M, P, A, ht, hc, hj, hA0, hh0, hk => by
    have hc0 : c ≤ 4800 := by omega
    refine h_iload_4 (pc := 43) C dL_law_43 ?_
    refine h_bipush (pc := 45) (v := 38) C dL_law_45 rfl ?_
    refine h_icmp_ge (pc := 47) (tgt := 347) C dL_law_47 (by decide) (fun c47 => ?_) (fun c47 => ?_)
    · exact absurd c47 (nI_ge (b := 38) (by omega) (by decide))
    · refine h_iload_4 (pc := 50) C dL_law_50 ?_
      refine h_iconst (pc := 52) (v := 3) C dL_law_52 rfl ?_
      refine h_icmp_ge (pc := 53) (tgt := 60) C dL_law_53 (by decide) (fun c53 => ?_) (fun c53 => ?_)
      · refine h_aload_0 (pc := 60) C dL_law_60 ?_
        refine h_iconst (pc := 61) (v := 2) C dL_law_61 rfl ?_
        refine h_iload_4 (pc := 62) C dL_law_62 ?_
        refine h_imul (pc := 64) C dL_law_64 ?_
        rw [show (2 : Int32) * nI t = nI (2 * t) by rw [show (2 : Int32) = nI 2 from rfl, pk_mul]]
        refine h_S2xe (pc := 65) C S e_L_law_96 (Nat.le_of_ble_eq_true rfl) rfl dL_law_65 (l_cell S.lt hL (by omega)) ?_
        refine law_A C S hL hj hA0 hh0 hk hc0 (by omega) (fun M1 P1 w hj1 => ?_)
        refine law_B C hA0 hh0 hk hc0 hj1 ?_
        refine law_C C hA0 hh0 hk hc0 hj1 (fun M2 P2 A2 s15 hj2 hA2 hh2 hk2 ef es => ?_)
        rw [← ef, ← es]
        refine law_D C hj2 hA2 hh2 hk2 (by omega) (fun M3 P3 A3 hj3 hA3 hh3 hk3 => ?_)
        exact law_loop C S hL E n (t + 1) (c + 120) M3 P3 A3 (by omega) (by omega) hj3 hA3 hh3 hk3
      · refine h_iconst (pc := 56) (v := 0) C dL_law_56 rfl ?_
        refine h_goto (pc := 57) (tgt := 68) C dL_law_57 (by decide) ?_
        refine law_A C S hL hj hA0 hh0 hk hc0 (by omega) (fun M1 P1 w hj1 => ?_)
        refine law_B C hA0 hh0 hk hc0 hj1 ?_
        refine law_C C hA0 hh0 hk hc0 hj1 (fun M2 P2 A2 s15 hj2 hA2 hh2 hk2 ef es => ?_)
        rw [← ef, ← es]
        refine law_D C hj2 hA2 hh2 hk2 (by omega) (fun M3 P3 A3 hj3 hA3 hh3 hk3 => ?_)
        exact law_loop C S hL E n (t + 1) (c + 120) M3 P3 A3 (by omega) (by omega) hj3 hA3 hh3 hk3
end LAW
