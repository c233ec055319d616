/-! an order of the law -/
def sRestX (A : AS) : Int32 × AS := if A.kept = 0 then (-100000005, A) else (A.sf 3, stF (psh A) A.sf)
def fX (v : Int32) : Int32 := lowI (v >>> (4 &&& 31)) (if (v >>> (20 &&& 31)) &&& 7 = 0 then 7 else 6)
def mY (A : AS) (v : Int32) : Int32 := lowI (v >>> (7 &&& 31)) (A.f 12 + (if (v >>> (20 &&& 31)) &&& 7 = 1 ∨ A.f 12 = 0 then 1 else 0))
def actBuy (A : AS) (w : Int32) : Int32 × AS := sBuy A (lowI w 3) (if (w >>> (20 &&& 31)) &&& 3 = 0 then lowI (w >>> (2 &&& 31)) 4 else lowI w 3) (lowI (w >>> (4 &&& 31)) 101)
def act2 (A : AS) (w x y : Int32) : Int32 × AS := if w &&& 1 = 0 then sLic A x (lowI (w >>> (1 &&& 31)) 9) else sRate A y (lowI (w >>> (1 &&& 31)) 101)
def act3 (A : AS) (w : Int32) : Int32 × AS := if w &&& 1 = 0 then sSet A (lowI (w >>> (1 &&& 31)) 3) ((5 : Int32) + lowI (w >>> (3 &&& 31)) 60) else sSeed A (lowI (w >>> (1 &&& 31)) 10001)
def act7 (A : AS) (w x : Int32) : Int32 × AS := if w &&& 1 = 0 then sPay A x (lowI (w >>> (1 &&& 31)) 10001) else sBack A (lowI (w >>> (1 &&& 31)) (A.f 5 + 1))
def act8 (A : AS) (w : Int32) : Int32 × AS := if w &&& 1 = 0 then sRestX A else sPass A 61
def act9 (A : AS) (w : Int32) : Int32 × AS := sPass A (lowI w (if (w >>> (20 &&& 31)) &&& 3 = 0 then 61 else 5))
def act11 (A : AS) (w x y : Int32) : Int32 × AS := sBook A x y (lowI w 5) (lowI (w >>> (3 &&& 31)) 14)
def sActB (A : AS) (k w x y : Int32) : Int32 × AS := if k = 0 then actBuy A w else if k = 1 then actBuy A w else if k = 2 then act2 A w x y else if k = 3 then act3 A w else if k = 4 then sFill A x y (lowI w 302) else if k = 5 then sFill A x y (lowI w 302) else if k = 6 then sMend A y else if k = 7 then act7 A w x else if k = 8 then act8 A w else if k = 9 then act9 A w else if k = 10 then act9 A w else act11 A w x y
def sAct (A : AS) (v w : Int32) : Int32 × AS := sActB A (v &&& 15) w (fX v) (mY A v)
theorem JC_f {M : MM} {P : PP} {A : AS} {f1 : FF} (h : JC M P A) (e : ∀ k, k < 313 → f1 k = A.f k) : JC M P (stF A f1) := ⟨h.1, Rp_ext h.2.1 e, h.2.2.1, h.2.2.2.1, h.2.2.2.2.1, h.2.2.2.2.2.1, h.2.2.2.2.2.2⟩

theorem aB0 {A : AS} {w x y : Int32} : sActB A 0 w x y = actBuy A w := by
  unfold sActB
  rw [if_pos rfl]
theorem aB1 {A : AS} {w x y : Int32} : sActB A 1 w x y = actBuy A w := by
  unfold sActB
  rw [if_neg (by decide), if_pos rfl]
theorem aB2 {A : AS} {w x y : Int32} : sActB A 2 w x y = act2 A w x y := by
  unfold sActB
  rw [if_neg (by decide), if_neg (by decide), if_pos rfl]
theorem aB3 {A : AS} {w x y : Int32} : sActB A 3 w x y = act3 A w := by
  unfold sActB
  rw [if_neg (by decide), if_neg (by decide), if_neg (by decide), if_pos rfl]
theorem aB4 {A : AS} {w x y : Int32} : sActB A 4 w x y = sFill A x y (lowI w 302) := by
  unfold sActB
  rw [if_neg (by decide), if_neg (by decide), if_neg (by decide), if_neg (by decide), if_pos rfl]
theorem aB5 {A : AS} {w x y : Int32} : sActB A 5 w x y = sFill A x y (lowI w 302) := by
  unfold sActB
  rw [if_neg (by decide), if_neg (by decide), if_neg (by decide), if_neg (by decide), if_neg (by decide), if_pos rfl]
theorem aB6 {A : AS} {w x y : Int32} : sActB A 6 w x y = sMend A y := by
  unfold sActB
  rw [if_neg (by decide), if_neg (by decide), if_neg (by decide), if_neg (by decide), if_neg (by decide), if_neg (by decide), if_pos rfl]
theorem aB7 {A : AS} {w x y : Int32} : sActB A 7 w x y = act7 A w x := by
  unfold sActB
  rw [if_neg (by decide), if_neg (by decide), if_neg (by decide), if_neg (by decide), if_neg (by decide), if_neg (by decide), if_neg (by decide), if_pos rfl]
theorem aB8 {A : AS} {w x y : Int32} : sActB A 8 w x y = act8 A w := by
  unfold sActB
  rw [if_neg (by decide), if_neg (by decide), if_neg (by decide), if_neg (by decide), if_neg (by decide), if_neg (by decide), if_neg (by decide), if_neg (by decide), if_pos rfl]
theorem aB9 {A : AS} {w x y : Int32} : sActB A 9 w x y = act9 A w := by
  unfold sActB
  rw [if_neg (by decide), if_neg (by decide), if_neg (by decide), if_neg (by decide), if_neg (by decide), if_neg (by decide), if_neg (by decide), if_neg (by decide), if_neg (by decide), if_pos rfl]
theorem aB10 {A : AS} {w x y : Int32} : sActB A 10 w x y = act9 A w := by
  unfold sActB
  rw [if_neg (by decide), if_neg (by decide), if_neg (by decide), if_neg (by decide), if_neg (by decide), if_neg (by decide), if_neg (by decide), if_neg (by decide), if_neg (by decide), if_neg (by decide), if_pos rfl]
theorem aBd {A : AS} {k w x y : Int32} (h0 : ¬ k = 0) (h1 : ¬ k = 1) (h2 : ¬ k = 2) (h3 : ¬ k = 3) (h4 : ¬ k = 4) (h5 : ¬ k = 5) (h6 : ¬ k = 6) (h7 : ¬ k = 7) (h8 : ¬ k = 8) (h9 : ¬ k = 9) (h10 : ¬ k = 10) : sActB A k w x y = act11 A w x y := by
  unfold sActB
  rw [if_neg h0, if_neg h1, if_neg h2, if_neg h3, if_neg h4, if_neg h5, if_neg h6, if_neg h7, if_neg h8, if_neg h9, if_neg h10]
theorem restX_of {M : MM} {P : PP} {A : AS} {r : Int32} (h1 : r = (sRest A).1) (h2 : JC M P (sRest A).2) : r = (sRestX A).1 ∧ JC M P (sRestX A).2 := by
  unfold sRest at h1 h2
  unfold sRestX
  by_cases hk : A.kept = 0
  · rw [if_pos hk] at h1 h2 ⊢
    exact ⟨h1, h2⟩
  · rw [if_neg hk] at h1 h2 ⊢
    exact ⟨h1, JC_f (A := stF (psh A) (rest A.sf A.f)) (f1 := A.sf) h2 (fun k hk => (rest_lo hk).symm)⟩
section ACT
variable {X : GX} {l : Launch} {D : va_G} {cy : Nat → ClassId} {B : Nat} {M : MM} {P : PP} {A : AS} {c : Nat} {v w : Int32}
set_option maxRecDepth 100000 in
set_option maxHeartbeats 1000000 in
theorem act_c (C : Cx X D cy B cL_act 6 RL wsL_act l 6 139 0 0) {x y : Int32} (F : Fx X 0 0 B (some .int) (va_Qi (fun r (u : MM × PP) => (fun r M1 P1 => r = (sActB A (v &&& 15) w x y).1 ∧ JC M1 P1 (sActB A (v &&& 15) w x y).2 ∧ FHi M P M1 P1) r u.1 u.2) (fun u t => WU D cy B 369 u.1 u.2 t) (fun q => B ≤ q))) (hj : JC M P A) (hA : WA c A) (hv : Hv c A.f) (hc : c ≤ 5000) : G2 X D cy B 0 0 369 M P 63 [some (Value.ref (B + 0)), some (Value.int v), some (Value.int w), some (Value.int x), some (Value.int y), none] [] := by
  have hn5 : ¬ A.f 5 + 1 = 0 := by
    obtain ⟨e1, e2⟩ := hv.b hc
    rw [e1, nI_1]
    exact nI_ne0 (by omega) (by omega)
  refine h_iload_1 (pc := 63) C dL_act_63 ?_
  refine h_bipush (pc := 64) (v := 15) C dL_act_64 rfl ?_
  refine h_iand (pc := 66) C dL_act_66 ?_
  by_cases h67_0 : (v &&& 15) = 0
  · refine h_tableIn (pc := 67) (tgt := 124) C dL_act_67 (by rw [h67_0]; decide) (by rw [h67_0]; decide) (by rw [h67_0]; rfl) (by decide) ?_
    refine h_iload_2 (pc := 124) C dL_act_124 ?_
    refine h_iconst (pc := 125) (v := 3) C dL_act_125 rfl ?_
    refine h_S2ie (pc := 126) C e_L_act_29 (Nat.le_of_ble_eq_true rfl) rfl dL_act_126 (l_low (by decide)) ?_
    refine h_istore_5 (pc := 129) C dL_act_129 (by rfl) ?_
    refine h_aload_0 (pc := 131) C dL_act_131 ?_
    refine h_iload_5 (pc := 132) C dL_act_132 ?_
    refine h_iload_2 (pc := 134) C dL_act_134 ?_
    refine h_bipush (pc := 135) (v := 20) C dL_act_135 rfl ?_
    refine h_ishr (pc := 137) C dL_act_137 ?_
    refine h_iconst (pc := 138) (v := 3) C dL_act_138 rfl ?_
    refine h_iand (pc := 139) C dL_act_139 ?_
    refine h_if_ne (pc := 140) (tgt := 153) C dL_act_140 (by decide) (fun c140 => ?_) (fun c140 => ?_)
    · refine h_iload_5 (pc := 153) C dL_act_153 ?_
      refine h_iload_2 (pc := 155) C dL_act_155 ?_
      refine h_iconst (pc := 156) (v := 4) C dL_act_156 rfl ?_
      refine h_ishr (pc := 157) C dL_act_157 ?_
      refine h_bipush (pc := 158) (v := 101) C dL_act_158 rfl ?_
      refine h_S2ie (pc := 160) C e_L_act_29 (Nat.le_of_ble_eq_true rfl) rfl dL_act_160 (l_low (by decide)) ?_
      refine h_V3i (pc := 163) C e_L_act_34 (Nat.le_of_ble_eq_true rfl) rfl dL_act_163 kk0 (c6_buy hj hA) (fun r1 M1 P1 hq => ?_)
      exact h_iret (post := (fun r M1 P1 => r = (sActB A (v &&& 15) w x y).1 ∧ JC M1 P1 (sActB A (v &&& 15) w x y).2 ∧ FHi M P M1 P1)) C F dL_act_166 ⟨by rw [h67_0, aB0, actBuy, if_neg c140]; exact hq.1, by rw [h67_0, aB0, actBuy, if_neg c140]; exact hq.2.1, hq.2.2⟩
    · refine h_iload_2 (pc := 143) C dL_act_143 ?_
      refine h_iconst (pc := 144) (v := 2) C dL_act_144 rfl ?_
      refine h_ishr (pc := 145) C dL_act_145 ?_
      refine h_iconst (pc := 146) (v := 4) C dL_act_146 rfl ?_
      refine h_S2ie (pc := 147) C e_L_act_29 (Nat.le_of_ble_eq_true rfl) rfl dL_act_147 (l_low (by decide)) ?_
      refine h_goto (pc := 150) (tgt := 155) C dL_act_150 (by decide) ?_
      refine h_iload_2 (pc := 155) C dL_act_155 ?_
      refine h_iconst (pc := 156) (v := 4) C dL_act_156 rfl ?_
      refine h_ishr (pc := 157) C dL_act_157 ?_
      refine h_bipush (pc := 158) (v := 101) C dL_act_158 rfl ?_
      refine h_S2ie (pc := 160) C e_L_act_29 (Nat.le_of_ble_eq_true rfl) rfl dL_act_160 (l_low (by decide)) ?_
      refine h_V3i (pc := 163) C e_L_act_34 (Nat.le_of_ble_eq_true rfl) rfl dL_act_163 kk0 (c6_buy hj hA) (fun r1 M1 P1 hq => ?_)
      exact h_iret (post := (fun r M1 P1 => r = (sActB A (v &&& 15) w x y).1 ∧ JC M1 P1 (sActB A (v &&& 15) w x y).2 ∧ FHi M P M1 P1)) C F dL_act_166 ⟨by rw [h67_0, aB0, actBuy, if_pos c140]; exact hq.1, by rw [h67_0, aB0, actBuy, if_pos c140]; exact hq.2.1, hq.2.2⟩
  by_cases h67_1 : (v &&& 15) = 1
  · refine h_tableIn (pc := 67) (tgt := 124) C dL_act_67 (by rw [h67_1]; decide) (by rw [h67_1]; decide) (by rw [h67_1]; rfl) (by decide) ?_
    refine h_iload_2 (pc := 124) C dL_act_124 ?_
    refine h_iconst (pc := 125) (v := 3) C dL_act_125 rfl ?_
    refine h_S2ie (pc := 126) C e_L_act_29 (Nat.le_of_ble_eq_true rfl) rfl dL_act_126 (l_low (by decide)) ?_
    refine h_istore_5 (pc := 129) C dL_act_129 (by rfl) ?_
    refine h_aload_0 (pc := 131) C dL_act_131 ?_
    refine h_iload_5 (pc := 132) C dL_act_132 ?_
    refine h_iload_2 (pc := 134) C dL_act_134 ?_
    refine h_bipush (pc := 135) (v := 20) C dL_act_135 rfl ?_
    refine h_ishr (pc := 137) C dL_act_137 ?_
    refine h_iconst (pc := 138) (v := 3) C dL_act_138 rfl ?_
    refine h_iand (pc := 139) C dL_act_139 ?_
    refine h_if_ne (pc := 140) (tgt := 153) C dL_act_140 (by decide) (fun c140 => ?_) (fun c140 => ?_)
    · refine h_iload_5 (pc := 153) C dL_act_153 ?_
      refine h_iload_2 (pc := 155) C dL_act_155 ?_
      refine h_iconst (pc := 156) (v := 4) C dL_act_156 rfl ?_
      refine h_ishr (pc := 157) C dL_act_157 ?_
      refine h_bipush (pc := 158) (v := 101) C dL_act_158 rfl ?_
      refine h_S2ie (pc := 160) C e_L_act_29 (Nat.le_of_ble_eq_true rfl) rfl dL_act_160 (l_low (by decide)) ?_
      refine h_V3i (pc := 163) C e_L_act_34 (Nat.le_of_ble_eq_true rfl) rfl dL_act_163 kk0 (c6_buy hj hA) (fun r1 M1 P1 hq => ?_)
      exact h_iret (post := (fun r M1 P1 => r = (sActB A (v &&& 15) w x y).1 ∧ JC M1 P1 (sActB A (v &&& 15) w x y).2 ∧ FHi M P M1 P1)) C F dL_act_166 ⟨by rw [h67_1, aB1, actBuy, if_neg c140]; exact hq.1, by rw [h67_1, aB1, actBuy, if_neg c140]; exact hq.2.1, hq.2.2⟩
    · refine h_iload_2 (pc := 143) C dL_act_143 ?_
      refine h_iconst (pc := 144) (v := 2) C dL_act_144 rfl ?_
      refine h_ishr (pc := 145) C dL_act_145 ?_
      refine h_iconst (pc := 146) (v := 4) C dL_act_146 rfl ?_
      refine h_S2ie (pc := 147) C e_L_act_29 (Nat.le_of_ble_eq_true rfl) rfl dL_act_147 (l_low (by decide)) ?_
      refine h_goto (pc := 150) (tgt := 155) C dL_act_150 (by decide) ?_
      refine h_iload_2 (pc := 155) C dL_act_155 ?_
      refine h_iconst (pc := 156) (v := 4) C dL_act_156 rfl ?_
      refine h_ishr (pc := 157) C dL_act_157 ?_
      refine h_bipush (pc := 158) (v := 101) C dL_act_158 rfl ?_
      refine h_S2ie (pc := 160) C e_L_act_29 (Nat.le_of_ble_eq_true rfl) rfl dL_act_160 (l_low (by decide)) ?_
      refine h_V3i (pc := 163) C e_L_act_34 (Nat.le_of_ble_eq_true rfl) rfl dL_act_163 kk0 (c6_buy hj hA) (fun r1 M1 P1 hq => ?_)
      exact h_iret (post := (fun r M1 P1 => r = (sActB A (v &&& 15) w x y).1 ∧ JC M1 P1 (sActB A (v &&& 15) w x y).2 ∧ FHi M P M1 P1)) C F dL_act_166 ⟨by rw [h67_1, aB1, actBuy, if_pos c140]; exact hq.1, by rw [h67_1, aB1, actBuy, if_pos c140]; exact hq.2.1, hq.2.2⟩
  by_cases h67_2 : (v &&& 15) = 2
  · refine h_tableIn (pc := 67) (tgt := 167) C dL_act_67 (by rw [h67_2]; decide) (by rw [h67_2]; decide) (by rw [h67_2]; rfl) (by decide) ?_
    refine h_iload_2 (pc := 167) C dL_act_167 ?_
    refine h_iconst (pc := 168) (v := 1) C dL_act_168 rfl ?_
    refine h_iand (pc := 169) C dL_act_169 ?_
    refine h_if_ne (pc := 170) (tgt := 189) C dL_act_170 (by decide) (fun c170 => ?_) (fun c170 => ?_)
    · refine h_aload_0 (pc := 189) C dL_act_189 ?_
      refine h_iload_4 (pc := 190) C dL_act_190 ?_
      refine h_iload_2 (pc := 192) C dL_act_192 ?_
      refine h_iconst (pc := 193) (v := 1) C dL_act_193 rfl ?_
      refine h_ishr (pc := 194) C dL_act_194 ?_
      refine h_bipush (pc := 195) (v := 101) C dL_act_195 rfl ?_
      refine h_S2ie (pc := 197) C e_L_act_29 (Nat.le_of_ble_eq_true rfl) rfl dL_act_197 (l_low (by decide)) ?_
      refine h_V2i (pc := 200) C e_L_act_41 (Nat.le_of_ble_eq_true rfl) rfl dL_act_200 kk0 (c6_rate hj hA) (fun r1 M1 P1 hq => ?_)
      exact h_iret (post := (fun r M1 P1 => r = (sActB A (v &&& 15) w x y).1 ∧ JC M1 P1 (sActB A (v &&& 15) w x y).2 ∧ FHi M P M1 P1)) C F dL_act_203 ⟨by rw [h67_2, aB2, act2, if_neg c170]; exact hq.1, by rw [h67_2, aB2, act2, if_neg c170]; exact hq.2.1, hq.2.2⟩
    · refine h_aload_0 (pc := 173) C dL_act_173 ?_
      refine h_iload_3 (pc := 174) C dL_act_174 ?_
      refine h_iload_2 (pc := 175) C dL_act_175 ?_
      refine h_iconst (pc := 176) (v := 1) C dL_act_176 rfl ?_
      refine h_ishr (pc := 177) C dL_act_177 ?_
      refine h_bipush (pc := 178) (v := 9) C dL_act_178 rfl ?_
      refine h_S2ie (pc := 180) C e_L_act_29 (Nat.le_of_ble_eq_true rfl) rfl dL_act_180 (l_low (by decide)) ?_
      refine h_V2i (pc := 183) C e_L_act_38 (Nat.le_of_ble_eq_true rfl) rfl dL_act_183 kk0 (c6_license hj hA) (fun r1 M1 P1 hq => ?_)
      refine h_goto (pc := 186) (tgt := 203) C dL_act_186 (by decide) ?_
      exact h_iret (post := (fun r M1 P1 => r = (sActB A (v &&& 15) w x y).1 ∧ JC M1 P1 (sActB A (v &&& 15) w x y).2 ∧ FHi M P M1 P1)) C F dL_act_203 ⟨by rw [h67_2, aB2, act2, if_pos c170]; exact hq.1, by rw [h67_2, aB2, act2, if_pos c170]; exact hq.2.1, hq.2.2⟩
  by_cases h67_3 : (v &&& 15) = 3
  · refine h_tableIn (pc := 67) (tgt := 204) C dL_act_67 (by rw [h67_3]; decide) (by rw [h67_3]; decide) (by rw [h67_3]; rfl) (by decide) ?_
    refine h_iload_2 (pc := 204) C dL_act_204 ?_
    refine h_iconst (pc := 205) (v := 1) C dL_act_205 rfl ?_
    refine h_iand (pc := 206) C dL_act_206 ?_
    refine h_if_ne (pc := 207) (tgt := 234) C dL_act_207 (by decide) (fun c207 => ?_) (fun c207 => ?_)
    · refine h_aload_0 (pc := 234) C dL_act_234 ?_
      refine h_iload_2 (pc := 235) C dL_act_235 ?_
      refine h_iconst (pc := 236) (v := 1) C dL_act_236 rfl ?_
      refine h_ishr (pc := 237) C dL_act_237 ?_
      refine h_sipush (pc := 238) (v := 10001) C dL_act_238 rfl ?_
      refine h_S2ie (pc := 241) C e_L_act_29 (Nat.le_of_ble_eq_true rfl) rfl dL_act_241 (l_low (by decide)) ?_
      refine h_V1i (pc := 244) C e_L_act_47 (Nat.le_of_ble_eq_true rfl) rfl dL_act_244 kk0 (c6_seed hj hA) (fun r1 M1 P1 hq => ?_)
      exact h_iret (post := (fun r M1 P1 => r = (sActB A (v &&& 15) w x y).1 ∧ JC M1 P1 (sActB A (v &&& 15) w x y).2 ∧ FHi M P M1 P1)) C F dL_act_247 ⟨by rw [h67_3, aB3, act3, if_neg c207]; exact hq.1, by rw [h67_3, aB3, act3, if_neg c207]; exact hq.2.1, hq.2.2⟩
    · refine h_aload_0 (pc := 210) C dL_act_210 ?_
      refine h_iload_2 (pc := 211) C dL_act_211 ?_
      refine h_iconst (pc := 212) (v := 1) C dL_act_212 rfl ?_
      refine h_ishr (pc := 213) C dL_act_213 ?_
      refine h_iconst (pc := 214) (v := 3) C dL_act_214 rfl ?_
      refine h_S2ie (pc := 215) C e_L_act_29 (Nat.le_of_ble_eq_true rfl) rfl dL_act_215 (l_low (by decide)) ?_
      refine h_iconst (pc := 218) (v := 5) C dL_act_218 rfl ?_
      refine h_iload_2 (pc := 219) C dL_act_219 ?_
      refine h_iconst (pc := 220) (v := 3) C dL_act_220 rfl ?_
      refine h_ishr (pc := 221) C dL_act_221 ?_
      refine h_bipush (pc := 222) (v := 60) C dL_act_222 rfl ?_
      refine h_S2ie (pc := 224) C e_L_act_29 (Nat.le_of_ble_eq_true rfl) rfl dL_act_224 (l_low (by decide)) ?_
      refine h_iadd (pc := 227) C dL_act_227 ?_
      refine h_V2i (pc := 228) C e_L_act_44 (Nat.le_of_ble_eq_true rfl) rfl dL_act_228 kk0 (c6_set hj hA) (fun r1 M1 P1 hq => ?_)
      refine h_goto (pc := 231) (tgt := 247) C dL_act_231 (by decide) ?_
      exact h_iret (post := (fun r M1 P1 => r = (sActB A (v &&& 15) w x y).1 ∧ JC M1 P1 (sActB A (v &&& 15) w x y).2 ∧ FHi M P M1 P1)) C F dL_act_247 ⟨by rw [h67_3, aB3, act3, if_pos c207]; exact hq.1, by rw [h67_3, aB3, act3, if_pos c207]; exact hq.2.1, hq.2.2⟩
  by_cases h67_4 : (v &&& 15) = 4
  · refine h_tableIn (pc := 67) (tgt := 248) C dL_act_67 (by rw [h67_4]; decide) (by rw [h67_4]; decide) (by rw [h67_4]; rfl) (by decide) ?_
    refine h_aload_0 (pc := 248) C dL_act_248 ?_
    refine h_iload_3 (pc := 249) C dL_act_249 ?_
    refine h_iload_4 (pc := 250) C dL_act_250 ?_
    refine h_iload_2 (pc := 252) C dL_act_252 ?_
    refine h_sipush (pc := 253) (v := 302) C dL_act_253 rfl ?_
    refine h_S2ie (pc := 256) C e_L_act_29 (Nat.le_of_ble_eq_true rfl) rfl dL_act_256 (l_low (by decide)) ?_
    refine h_V3i (pc := 259) C e_L_act_50 (Nat.le_of_ble_eq_true rfl) rfl dL_act_259 kk0 (c6_fill hj hA) (fun r1 M1 P1 hq => ?_)
    exact h_iret (post := (fun r M1 P1 => r = (sActB A (v &&& 15) w x y).1 ∧ JC M1 P1 (sActB A (v &&& 15) w x y).2 ∧ FHi M P M1 P1)) C F dL_act_262 ⟨by rw [h67_4, aB4]; exact hq.1, by rw [h67_4, aB4]; exact hq.2.1, hq.2.2⟩
  by_cases h67_5 : (v &&& 15) = 5
  · refine h_tableIn (pc := 67) (tgt := 248) C dL_act_67 (by rw [h67_5]; decide) (by rw [h67_5]; decide) (by rw [h67_5]; rfl) (by decide) ?_
    refine h_aload_0 (pc := 248) C dL_act_248 ?_
    refine h_iload_3 (pc := 249) C dL_act_249 ?_
    refine h_iload_4 (pc := 250) C dL_act_250 ?_
    refine h_iload_2 (pc := 252) C dL_act_252 ?_
    refine h_sipush (pc := 253) (v := 302) C dL_act_253 rfl ?_
    refine h_S2ie (pc := 256) C e_L_act_29 (Nat.le_of_ble_eq_true rfl) rfl dL_act_256 (l_low (by decide)) ?_
    refine h_V3i (pc := 259) C e_L_act_50 (Nat.le_of_ble_eq_true rfl) rfl dL_act_259 kk0 (c6_fill hj hA) (fun r1 M1 P1 hq => ?_)
    exact h_iret (post := (fun r M1 P1 => r = (sActB A (v &&& 15) w x y).1 ∧ JC M1 P1 (sActB A (v &&& 15) w x y).2 ∧ FHi M P M1 P1)) C F dL_act_262 ⟨by rw [h67_5, aB5]; exact hq.1, by rw [h67_5, aB5]; exact hq.2.1, hq.2.2⟩
  by_cases h67_6 : (v &&& 15) = 6
  · refine h_tableIn (pc := 67) (tgt := 263) C dL_act_67 (by rw [h67_6]; decide) (by rw [h67_6]; decide) (by rw [h67_6]; rfl) (by decide) ?_
    refine h_aload_0 (pc := 263) C dL_act_263 ?_
    refine h_iload_4 (pc := 264) C dL_act_264 ?_
    refine h_V1i (pc := 266) C e_L_act_53 (Nat.le_of_ble_eq_true rfl) rfl dL_act_266 kk0 (c6_mend hj hA) (fun r1 M1 P1 hq => ?_)
    exact h_iret (post := (fun r M1 P1 => r = (sActB A (v &&& 15) w x y).1 ∧ JC M1 P1 (sActB A (v &&& 15) w x y).2 ∧ FHi M P M1 P1)) C F dL_act_269 ⟨by rw [h67_6, aB6]; exact hq.1, by rw [h67_6, aB6]; exact hq.2.1, hq.2.2⟩
  by_cases h67_7 : (v &&& 15) = 7
  · refine h_tableIn (pc := 67) (tgt := 270) C dL_act_67 (by rw [h67_7]; decide) (by rw [h67_7]; decide) (by rw [h67_7]; rfl) (by decide) ?_
    refine h_iload_2 (pc := 270) C dL_act_270 ?_
    refine h_iconst (pc := 271) (v := 1) C dL_act_271 rfl ?_
    refine h_iand (pc := 272) C dL_act_272 ?_
    refine h_if_ne (pc := 273) (tgt := 293) C dL_act_273 (by decide) (fun c273 => ?_) (fun c273 => ?_)
    · refine h_aload_0 (pc := 293) C dL_act_293 ?_
      refine h_iload_2 (pc := 294) C dL_act_294 ?_
      refine h_iconst (pc := 295) (v := 1) C dL_act_295 rfl ?_
      refine h_ishr (pc := 296) C dL_act_296 ?_
      refine h_aload_0 (pc := 297) C dL_act_297 ?_
      refine h_iconst (pc := 298) (v := 4) C dL_act_298 rfl ?_
      refine h_V1ie (pc := 299) C e_L_act_12 (Nat.le_of_ble_eq_true rfl) rfl dL_act_299 kk0 (c6_count hj hA) ?_
      rw [aC4]
      refine h_iconst (pc := 302) (v := 1) C dL_act_302 rfl ?_
      refine h_iadd (pc := 303) C dL_act_303 ?_
      refine h_S2ie (pc := 304) C e_L_act_29 (Nat.le_of_ble_eq_true rfl) rfl dL_act_304 (l_low hn5) ?_
      refine h_V1i (pc := 307) C e_L_act_59 (Nat.le_of_ble_eq_true rfl) rfl dL_act_307 kk0 (c6_back hj hA) (fun r1 M1 P1 hq => ?_)
      exact h_iret (post := (fun r M1 P1 => r = (sActB A (v &&& 15) w x y).1 ∧ JC M1 P1 (sActB A (v &&& 15) w x y).2 ∧ FHi M P M1 P1)) C F dL_act_310 ⟨by rw [h67_7, aB7, act7, if_neg c273]; exact hq.1, by rw [h67_7, aB7, act7, if_neg c273]; exact hq.2.1, hq.2.2⟩
    · refine h_aload_0 (pc := 276) C dL_act_276 ?_
      refine h_iload_3 (pc := 277) C dL_act_277 ?_
      refine h_iload_2 (pc := 278) C dL_act_278 ?_
      refine h_iconst (pc := 279) (v := 1) C dL_act_279 rfl ?_
      refine h_ishr (pc := 280) C dL_act_280 ?_
      refine h_sipush (pc := 281) (v := 10001) C dL_act_281 rfl ?_
      refine h_S2ie (pc := 284) C e_L_act_29 (Nat.le_of_ble_eq_true rfl) rfl dL_act_284 (l_low (by decide)) ?_
      refine h_V2i (pc := 287) C e_L_act_56 (Nat.le_of_ble_eq_true rfl) rfl dL_act_287 kk0 (c6_pay hj hA) (fun r1 M1 P1 hq => ?_)
      refine h_goto (pc := 290) (tgt := 310) C dL_act_290 (by decide) ?_
      exact h_iret (post := (fun r M1 P1 => r = (sActB A (v &&& 15) w x y).1 ∧ JC M1 P1 (sActB A (v &&& 15) w x y).2 ∧ FHi M P M1 P1)) C F dL_act_310 ⟨by rw [h67_7, aB7, act7, if_pos c273]; exact hq.1, by rw [h67_7, aB7, act7, if_pos c273]; exact hq.2.1, hq.2.2⟩
  by_cases h67_8 : (v &&& 15) = 8
  · refine h_tableIn (pc := 67) (tgt := 311) C dL_act_67 (by rw [h67_8]; decide) (by rw [h67_8]; decide) (by rw [h67_8]; rfl) (by decide) ?_
    refine h_iload_2 (pc := 311) C dL_act_311 ?_
    refine h_iconst (pc := 312) (v := 1) C dL_act_312 rfl ?_
    refine h_iand (pc := 313) C dL_act_313 ?_
    refine h_if_ne (pc := 314) (tgt := 324) C dL_act_314 (by decide) (fun c314 => ?_) (fun c314 => ?_)
    · refine h_aload_0 (pc := 324) C dL_act_324 ?_
      refine h_bipush (pc := 325) (v := 61) C dL_act_325 rfl ?_
      refine h_V1i (pc := 327) C e_L_act_66 (Nat.le_of_ble_eq_true rfl) rfl dL_act_327 kk0 (c6_pass hj hA (by omega)) (fun r1 M1 P1 hq => ?_)
      exact h_iret (post := (fun r M1 P1 => r = (sActB A (v &&& 15) w x y).1 ∧ JC M1 P1 (sActB A (v &&& 15) w x y).2 ∧ FHi M P M1 P1)) C F dL_act_330 ⟨by rw [h67_8, aB8, act8, if_neg c314]; exact hq.1, by rw [h67_8, aB8, act8, if_neg c314]; exact hq.2.1, hq.2.2⟩
    · refine h_aload_0 (pc := 317) C dL_act_317 ?_
      refine h_V0i (pc := 318) C e_L_act_62 (Nat.le_of_ble_eq_true rfl) rfl dL_act_318 kk0 (c6_restore hj hA) (fun r1 M1 P1 hq => ?_)
      refine h_goto (pc := 321) (tgt := 330) C dL_act_321 (by decide) ?_
      exact h_iret (post := (fun r M1 P1 => r = (sActB A (v &&& 15) w x y).1 ∧ JC M1 P1 (sActB A (v &&& 15) w x y).2 ∧ FHi M P M1 P1)) C F dL_act_330 ⟨by rw [h67_8, aB8, act8, if_pos c314]; exact (restX_of hq.1 hq.2.1).1, by rw [h67_8, aB8, act8, if_pos c314]; exact (restX_of hq.1 hq.2.1).2, hq.2.2⟩
  by_cases h67_9 : (v &&& 15) = 9
  · refine h_tableIn (pc := 67) (tgt := 331) C dL_act_67 (by rw [h67_9]; decide) (by rw [h67_9]; decide) (by rw [h67_9]; rfl) (by decide) ?_
    refine h_aload_0 (pc := 331) C dL_act_331 ?_
    refine h_iload_2 (pc := 332) C dL_act_332 ?_
    refine h_iload_2 (pc := 333) C dL_act_333 ?_
    refine h_bipush (pc := 334) (v := 20) C dL_act_334 rfl ?_
    refine h_ishr (pc := 336) C dL_act_336 ?_
    refine h_iconst (pc := 337) (v := 3) C dL_act_337 rfl ?_
    refine h_iand (pc := 338) C dL_act_338 ?_
    refine h_if_ne (pc := 339) (tgt := 347) C dL_act_339 (by decide) (fun c339 => ?_) (fun c339 => ?_)
    · refine h_iconst (pc := 347) (v := 5) C dL_act_347 rfl ?_
      refine h_S2ie (pc := 348) C e_L_act_29 (Nat.le_of_ble_eq_true rfl) rfl dL_act_348 (l_low (by decide)) ?_
      refine h_V1i (pc := 351) C e_L_act_66 (Nat.le_of_ble_eq_true rfl) rfl dL_act_351 kk0 (c6_pass hj hA (by omega)) (fun r1 M1 P1 hq => ?_)
      exact h_iret (post := (fun r M1 P1 => r = (sActB A (v &&& 15) w x y).1 ∧ JC M1 P1 (sActB A (v &&& 15) w x y).2 ∧ FHi M P M1 P1)) C F dL_act_354 ⟨by rw [h67_9, aB9, act9, if_neg c339]; exact hq.1, by rw [h67_9, aB9, act9, if_neg c339]; exact hq.2.1, hq.2.2⟩
    · refine h_bipush (pc := 342) (v := 61) C dL_act_342 rfl ?_
      refine h_goto (pc := 344) (tgt := 348) C dL_act_344 (by decide) ?_
      refine h_S2ie (pc := 348) C e_L_act_29 (Nat.le_of_ble_eq_true rfl) rfl dL_act_348 (l_low (by decide)) ?_
      refine h_V1i (pc := 351) C e_L_act_66 (Nat.le_of_ble_eq_true rfl) rfl dL_act_351 kk0 (c6_pass hj hA (by omega)) (fun r1 M1 P1 hq => ?_)
      exact h_iret (post := (fun r M1 P1 => r = (sActB A (v &&& 15) w x y).1 ∧ JC M1 P1 (sActB A (v &&& 15) w x y).2 ∧ FHi M P M1 P1)) C F dL_act_354 ⟨by rw [h67_9, aB9, act9, if_pos c339]; exact hq.1, by rw [h67_9, aB9, act9, if_pos c339]; exact hq.2.1, hq.2.2⟩
  by_cases h67_10 : (v &&& 15) = 10
  · refine h_tableIn (pc := 67) (tgt := 331) C dL_act_67 (by rw [h67_10]; decide) (by rw [h67_10]; decide) (by rw [h67_10]; rfl) (by decide) ?_
    refine h_aload_0 (pc := 331) C dL_act_331 ?_
    refine h_iload_2 (pc := 332) C dL_act_332 ?_
    refine h_iload_2 (pc := 333) C dL_act_333 ?_
    refine h_bipush (pc := 334) (v := 20) C dL_act_334 rfl ?_
    refine h_ishr (pc := 336) C dL_act_336 ?_
    refine h_iconst (pc := 337) (v := 3) C dL_act_337 rfl ?_
    refine h_iand (pc := 338) C dL_act_338 ?_
    refine h_if_ne (pc := 339) (tgt := 347) C dL_act_339 (by decide) (fun c339 => ?_) (fun c339 => ?_)
    · refine h_iconst (pc := 347) (v := 5) C dL_act_347 rfl ?_
      refine h_S2ie (pc := 348) C e_L_act_29 (Nat.le_of_ble_eq_true rfl) rfl dL_act_348 (l_low (by decide)) ?_
      refine h_V1i (pc := 351) C e_L_act_66 (Nat.le_of_ble_eq_true rfl) rfl dL_act_351 kk0 (c6_pass hj hA (by omega)) (fun r1 M1 P1 hq => ?_)
      exact h_iret (post := (fun r M1 P1 => r = (sActB A (v &&& 15) w x y).1 ∧ JC M1 P1 (sActB A (v &&& 15) w x y).2 ∧ FHi M P M1 P1)) C F dL_act_354 ⟨by rw [h67_10, aB10, act9, if_neg c339]; exact hq.1, by rw [h67_10, aB10, act9, if_neg c339]; exact hq.2.1, hq.2.2⟩
    · refine h_bipush (pc := 342) (v := 61) C dL_act_342 rfl ?_
      refine h_goto (pc := 344) (tgt := 348) C dL_act_344 (by decide) ?_
      refine h_S2ie (pc := 348) C e_L_act_29 (Nat.le_of_ble_eq_true rfl) rfl dL_act_348 (l_low (by decide)) ?_
      refine h_V1i (pc := 351) C e_L_act_66 (Nat.le_of_ble_eq_true rfl) rfl dL_act_351 kk0 (c6_pass hj hA (by omega)) (fun r1 M1 P1 hq => ?_)
      exact h_iret (post := (fun r M1 P1 => r = (sActB A (v &&& 15) w x y).1 ∧ JC M1 P1 (sActB A (v &&& 15) w x y).2 ∧ FHi M P M1 P1)) C F dL_act_354 ⟨by rw [h67_10, aB10, act9, if_pos c339]; exact hq.1, by rw [h67_10, aB10, act9, if_pos c339]; exact hq.2.1, hq.2.2⟩
  have n67_0 := lv_neT h67_0 (a := 0) rfl
  have n67_1 := lv_neT h67_1 (a := 1) rfl
  have n67_2 := lv_neT h67_2 (a := 2) rfl
  have n67_3 := lv_neT h67_3 (a := 3) rfl
  have n67_4 := lv_neT h67_4 (a := 4) rfl
  have n67_5 := lv_neT h67_5 (a := 5) rfl
  have n67_6 := lv_neT h67_6 (a := 6) rfl
  have n67_7 := lv_neT h67_7 (a := 7) rfl
  have n67_8 := lv_neT h67_8 (a := 8) rfl
  have n67_9 := lv_neT h67_9 (a := 9) rfl
  have n67_10 := lv_neT h67_10 (a := 10) rfl
  refine h_tableOut (pc := 67) (tgt := 355) C dL_act_67 (by omega) (by decide) ?_
  refine h_aload_0 (pc := 355) C dL_act_355 ?_
  refine h_iload_3 (pc := 356) C dL_act_356 ?_
  refine h_iload_4 (pc := 357) C dL_act_357 ?_
  refine h_iload_2 (pc := 359) C dL_act_359 ?_
  refine h_iconst (pc := 360) (v := 5) C dL_act_360 rfl ?_
  refine h_S2ie (pc := 361) C e_L_act_29 (Nat.le_of_ble_eq_true rfl) rfl dL_act_361 (l_low (by decide)) ?_
  refine h_iload_2 (pc := 364) C dL_act_364 ?_
  refine h_iconst (pc := 365) (v := 3) C dL_act_365 rfl ?_
  refine h_ishr (pc := 366) C dL_act_366 ?_
  refine h_bipush (pc := 367) (v := 14) C dL_act_367 rfl ?_
  refine h_S2ie (pc := 369) C e_L_act_29 (Nat.le_of_ble_eq_true rfl) rfl dL_act_369 (l_low (by decide)) ?_
  refine h_V4i (pc := 372) C e_L_act_69 (Nat.le_of_ble_eq_true rfl) rfl dL_act_372 kk0 (c6_book hj hA) (fun r1 M1 P1 hq => ?_)
  exact h_iret (post := (fun r M1 P1 => r = (sActB A (v &&& 15) w x y).1 ∧ JC M1 P1 (sActB A (v &&& 15) w x y).2 ∧ FHi M P M1 P1)) C F dL_act_375 ⟨by rw [aBd h67_0 h67_1 h67_2 h67_3 h67_4 h67_5 h67_6 h67_7 h67_8 h67_9 h67_10, act11]; exact hq.1, by rw [aBd h67_0 h67_1 h67_2 h67_3 h67_4 h67_5 h67_6 h67_7 h67_8 h67_9 h67_10, act11]; exact hq.2.1, hq.2.2⟩
set_option maxRecDepth 100000 in
set_option maxHeartbeats 1000000 in
theorem act_b (C : Cx X D cy B cL_act 6 RL wsL_act l 6 139 0 0) {x : Int32} (F : Fx X 0 0 B (some .int) (va_Qi (fun r (u : MM × PP) => (fun r M1 P1 => r = (sActB A (v &&& 15) w x (mY A v)).1 ∧ JC M1 P1 (sActB A (v &&& 15) w x (mY A v)).2 ∧ FHi M P M1 P1) r u.1 u.2) (fun u t => WU D cy B 369 u.1 u.2 t) (fun q => B ≤ q))) (hj : JC M P A) (hA : WA c A) (hv : Hv c A.f) (hc : c ≤ 5000) : G2 X D cy B 0 0 369 M P 24 [some (Value.ref (B + 0)), some (Value.int v), some (Value.int w), some (Value.int x), none, none] [] := by
  have hn1 : ¬ A.f 12 + 1 = 0 := by
    have h6 := hA.1.m6
    rw [hA.1.m, nI_1]
    exact nI_ne0 (by omega) (by omega)
  refine h_iload_1 (pc := 24) C dL_act_24 ?_
  refine h_bipush (pc := 25) (v := 7) C dL_act_25 rfl ?_
  refine h_ishr (pc := 27) C dL_act_27 ?_
  refine h_aload_0 (pc := 28) C dL_act_28 ?_
  refine h_iconst (pc := 29) (v := 2) C dL_act_29 rfl ?_
  refine h_V1ie (pc := 30) C e_L_act_12 (Nat.le_of_ble_eq_true rfl) rfl dL_act_30 kk0 (c6_count hj hA) ?_
  rw [aC2]
  refine h_iload_1 (pc := 33) C dL_act_33 ?_
  refine h_bipush (pc := 34) (v := 20) C dL_act_34 rfl ?_
  refine h_ishr (pc := 36) C dL_act_36 ?_
  refine h_bipush (pc := 37) (v := 7) C dL_act_37 rfl ?_
  refine h_iand (pc := 39) C dL_act_39 ?_
  refine h_iconst (pc := 40) (v := 1) C dL_act_40 rfl ?_
  refine h_icmp_eq (pc := 41) (tgt := 52) C dL_act_41 (by decide) (fun c41 => ?_) (fun c41 => ?_)
  · refine h_iconst (pc := 52) (v := 1) C dL_act_52 rfl ?_
    refine h_goto (pc := 53) (tgt := 57) C dL_act_53 (by decide) ?_
    refine h_iadd (pc := 57) C dL_act_57 ?_
    refine h_S2ie (pc := 58) C e_L_act_29 (Nat.le_of_ble_eq_true rfl) rfl dL_act_58 (l_low hn1) ?_
    rw [show lowI (v >>> (7 &&& 31)) (A.f 12 + 1) = mY A v by unfold mY; rw [if_pos (Or.inl c41)]]
    refine h_istore_4 (pc := 61) C dL_act_61 (by rfl) ?_
    exact act_c C F hj hA hv hc
  · refine h_aload_0 (pc := 44) C dL_act_44 ?_
    refine h_iconst (pc := 45) (v := 2) C dL_act_45 rfl ?_
    refine h_V1ie (pc := 46) C e_L_act_12 (Nat.le_of_ble_eq_true rfl) rfl dL_act_46 kk0 (c6_count hj hA) ?_
    rw [aC2]
    refine h_if_ne (pc := 49) (tgt := 56) C dL_act_49 (by decide) (fun c49 => ?_) (fun c49 => ?_)
    · refine h_iconst (pc := 56) (v := 0) C dL_act_56 rfl ?_
      refine h_iadd (pc := 57) C dL_act_57 ?_
      have hn0 : ¬ A.f 12 + 0 = 0 := by rw [Int32.add_zero]; exact c49
      refine h_S2ie (pc := 58) C e_L_act_29 (Nat.le_of_ble_eq_true rfl) rfl dL_act_58 (l_low hn0) ?_
      rw [show lowI (v >>> (7 &&& 31)) (A.f 12 + 0) = mY A v by unfold mY; rw [if_neg (fun z => z.elim c41 c49)]]
      refine h_istore_4 (pc := 61) C dL_act_61 (by rfl) ?_
      exact act_c C F hj hA hv hc
    · refine h_iconst (pc := 52) (v := 1) C dL_act_52 rfl ?_
      refine h_goto (pc := 53) (tgt := 57) C dL_act_53 (by decide) ?_
      refine h_iadd (pc := 57) C dL_act_57 ?_
      refine h_S2ie (pc := 58) C e_L_act_29 (Nat.le_of_ble_eq_true rfl) rfl dL_act_58 (l_low hn1) ?_
      rw [show lowI (v >>> (7 &&& 31)) (A.f 12 + 1) = mY A v by unfold mY; rw [if_pos (Or.inr c49)]]
      refine h_istore_4 (pc := 61) C dL_act_61 (by rfl) ?_
      exact act_c C F hj hA hv hc
end ACT
set_option maxRecDepth 100000 in
set_option maxHeartbeats 1000000 in
theorem l_act {l : Launch} {D : va_G} {cy : Nat → ClassId} {B : Nat} {M : MM} {P : PP} {A : AS} {c : Nat} {v w : Int32} (hj : JC M P A) (hA : WA c A) (hv : Hv c A.f) (hc : c ≤ 5000) : KI l D cy B yL_act wsL_act 6 139 [Value.ref (B + 0), Value.int v, Value.int w] M P (fun r M1 P1 => r = (sAct A v w).1 ∧ JC M1 P1 (sAct A v w).2 ∧ FHi M P M1 P1) := by
  refine met2_KI (cc := cL_act) (maxL := 6) (ret := some .int) (lv := [some (Value.ref (B + 0)), some (Value.int v), some (Value.int w), none, none, none]) (by decide) rfl rfl rfl (Nat.le_of_ble_eq_true rfl) ?_
  intro X C F
  refine h_iload_1 (pc := 0) C dL_act_0 ?_
  refine h_iconst (pc := 1) (v := 4) C dL_act_1 rfl ?_
  refine h_ishr (pc := 2) C dL_act_2 ?_
  refine h_iload_1 (pc := 3) C dL_act_3 ?_
  refine h_bipush (pc := 4) (v := 20) C dL_act_4 rfl ?_
  refine h_ishr (pc := 6) C dL_act_6 ?_
  refine h_bipush (pc := 7) (v := 7) C dL_act_7 rfl ?_
  refine h_iand (pc := 9) C dL_act_9 ?_
  refine h_if_ne (pc := 10) (tgt := 18) C dL_act_10 (by decide) (fun c10 => ?_) (fun c10 => ?_)
  · refine h_bipush (pc := 18) (v := 6) C dL_act_18 rfl ?_
    refine h_S2ie (pc := 20) C e_L_act_29 (Nat.le_of_ble_eq_true rfl) rfl dL_act_20 (l_low (by decide)) ?_
    rw [show lowI (v >>> (4 &&& 31)) 6 = fX v by unfold fX; rw [if_neg c10]]
    refine h_istore_3 (pc := 23) C dL_act_23 (by rfl) ?_
    exact act_b C F hj hA hv hc
  · refine h_bipush (pc := 13) (v := 7) C dL_act_13 rfl ?_
    refine h_goto (pc := 15) (tgt := 20) C dL_act_15 (by decide) ?_
    refine h_S2ie (pc := 20) C e_L_act_29 (Nat.le_of_ble_eq_true rfl) rfl dL_act_20 (l_low (by decide)) ?_
    rw [show lowI (v >>> (4 &&& 31)) 7 = fX v by unfold fX; rw [if_pos c10]]
    refine h_istore_3 (pc := 23) C dL_act_23 (by rfl) ?_
    exact act_b C F hj hA hv hc
