/-! an order, as what it answers and the numbers that stand behind it, if it is done -/
abbrev OR : Type := Int32 × Option FF
def apo (A : AS) (o : OR) : Int32 × AS := (o.1, match o.2 with | none => A | some f1 => stF (psh A) f1)
def oLic (f : FF) (w x : Int32) : OR := if isF w then (if 0 ≤ x ∧ x ≤ 7 then (if f (13 + 6 * w.toNatClampNeg + 1) = x then (-100000005, none) else (f (13 + 6 * w.toNatClampNeg + 1), some (up f (13 + 6 * w.toNatClampNeg + 1) x))) else (-100000002, none)) else (-100000001, none)
theorem e_Lic {A : AS} {w x : Int32} : sLic A w x = apo A (oLic A.f w x) := by
  unfold oLic
  simp only [apply_ite (apo A)]
  rfl
def oRate (f : FF) (m x : Int32) : OR := if isM (AF f) m then (if 1 ≤ x ∧ x ≤ 99 then (if f (49 + 14 * m.toNatClampNeg + 1) = x then (-100000005, none) else (f (49 + 14 * m.toNatClampNeg + 1), some (up f (49 + 14 * m.toNatClampNeg + 1) x))) else (-100000002, none)) else (-100000001, none)
theorem e_Rate {A : AS} {m x : Int32} : sRate A m x = apo A (oRate A.f m x) := by
  unfold oRate
  simp only [apply_ite (apo A)]
  rfl
def oSeed (f : FF) (x : Int32) : OR := if 0 ≤ x ∧ x ≤ 9999 then (if f 2 = x then (-100000005, none) else (f 2, some (up f 2 x))) else (-100000002, none)
theorem e_Seed {A : AS} {x : Int32} : sSeed A x = apo A (oSeed A.f x) := by
  unfold oSeed
  simp only [apply_ite (apo A)]
  rfl
def oSet (f : FF) (k x : Int32) : OR := if k = 0 ∧ 10 ≤ x ∧ x ≤ 200 then (if f 0 = x then (-100000005, none) else (f 0, some (up f 0 x))) else if k = 1 ∧ 0 ≤ x ∧ x ≤ 9999 then (if f 1 = x then (-100000005, none) else (f 1, some (up f 1 x))) else (-100000002, none)
theorem e_Set {A : AS} {k x : Int32} : sSet A k x = apo A (oSet A.f k x) := by
  unfold oSet
  simp only [apply_ite (apo A)]
  rfl
def oPay (f : FF) (w x : Int32) : OR := if isF w then (if 1 ≤ x ∧ x ≤ 9999 then (f (13 + 6 * w.toNatClampNeg + 0) + x, some (payF f w.toNatClampNeg x)) else (-100000002, none)) else (-100000001, none)
theorem e_Pay {A : AS} {w x : Int32} : sPay A w x = apo A (oPay A.f w x) := by
  unfold oPay
  simp only [apply_ite (apo A)]
  rfl
def oFill (f : FF) (w m x : Int32) : OR := if isF w ∧ isM (AF f) m then (if 1 ≤ x ∧ x ≤ 500 then (if Op.cmpValue (FP.fcmp (fillU f m.toNatClampNeg x) 1142292480) .l ≤ 0 then (2 * x, some (fillF f w.toNatClampNeg m.toNatClampNeg x)) else (-100000003, none)) else (-100000002, none)) else (-100000001, none)
theorem e_Fill {A : AS} {w m x : Int32} : sFill A w m x = apo A (oFill A.f w m x) := by
  unfold oFill
  simp only [apply_ite (apo A)]
  rfl
def oMend (f : FF) (m : Int32) : OR := if isM (AF f) m then (if f (49 + 14 * m.toNatClampNeg + 2) = 0 then (-100000005, none) else (mdL f m.toNatClampNeg 6, some (mendF f m.toNatClampNeg))) else (-100000001, none)
theorem e_Mend {A : AS} {m : Int32} : sMend A m = apo A (oMend A.f m) := by
  unfold oMend
  simp only [apply_ite (apo A)]
  rfl
def oBook (f : FF) (w m i x : Int32) : OR := if refI f w m i x = 0 then (f 5, some (bookF f (sn f) w m i x)) else (refI f w m i x, none)
theorem e_Book {A : AS} {w m i x : Int32} : sBook A w m i x = apo A (oBook A.f w m i x) := by
  unfold oBook
  simp only [apply_ite (apo A)]
  rfl
def oPass (f : FF) (d : Int32) : OR := if 1 ≤ d ∧ d ≤ 60 then (dFn f d.toNatClampNeg 7 - f 7, some (dFn f d.toNatClampNeg)) else (-100000002, none)
theorem e_Pass {A : AS} {d : Int32} : sPass A d = apo A (oPass A.f d) := by
  unfold oPass
  simp only [apply_ite (apo A)]
  rfl
def oBuy (f : FF) (x y r : Int32) : OR := if 0 ≤ y ∧ y ≤ 2 then (if (0 ≤ x ∧ x ≤ 2) ∧ (1 ≤ r ∧ r ≤ 99) then (if kc f y (mn f) < 2 then (if x = y then (nI (mn f), some (buyF f (mn f) x r (nI (kc f x (mn f))))) else (-100000004, none)) else (-100000003, none)) else (-100000002, none)) else (-100000001, none)
theorem e_Buy {A : AS} {x y r : Int32} : sBuy A x y r = apo A (oBuy A.f x y r) := by
  unfold oBuy
  simp only [apply_ite (apo A)]
  rfl
def oBack (f : FF) (b : Int32) : OR := match plO f b with
  | none => (-100000001, none)
  | some p => (nI (sn f - 1), some (dropF f p (sn f - 1)))
theorem e_Back {A : AS} {b : Int32} : sBack A b = apo A (oBack A.f b) := by
  unfold sBack oBack
  cases plO A.f b <;> rfl
def oRest (k : Int32) (g : FF) : OR := if k = 0 then (-100000005, none) else (g 3, some g)
theorem e_Rest {A : AS} : sRestX A = apo A (oRest A.kept A.sf) := by
  unfold oRest
  simp only [apply_ite (apo A)]
  rfl
def oActB (f : FF) (kp : Int32) (g : FF) (k w x y : Int32) : OR := if k = 0 then oBuy f (lowI w 3) (if (w >>> (20 &&& 31)) &&& 3 = 0 then lowI (w >>> (2 &&& 31)) 4 else lowI w 3) (lowI (w >>> (4 &&& 31)) 101) else if k = 1 then oBuy f (lowI w 3) (if (w >>> (20 &&& 31)) &&& 3 = 0 then lowI (w >>> (2 &&& 31)) 4 else lowI w 3) (lowI (w >>> (4 &&& 31)) 101) else if k = 2 then (if w &&& 1 = 0 then oLic f x (lowI (w >>> (1 &&& 31)) 9) else oRate f y (lowI (w >>> (1 &&& 31)) 101)) else if k = 3 then (if w &&& 1 = 0 then oSet f (lowI (w >>> (1 &&& 31)) 3) ((5 : Int32) + lowI (w >>> (3 &&& 31)) 60) else oSeed f (lowI (w >>> (1 &&& 31)) 10001)) else if k = 4 then oFill f x y (lowI w 302) else if k = 5 then oFill f x y (lowI w 302) else if k = 6 then oMend f y else if k = 7 then (if w &&& 1 = 0 then oPay f x (lowI (w >>> (1 &&& 31)) 10001) else oBack f (lowI (w >>> (1 &&& 31)) (f 5 + 1))) else if k = 8 then (if w &&& 1 = 0 then oRest kp g else oPass f 61) else if k = 9 then oPass f (lowI w (if (w >>> (20 &&& 31)) &&& 3 = 0 then 61 else 5)) else if k = 10 then oPass f (lowI w (if (w >>> (20 &&& 31)) &&& 3 = 0 then 61 else 5)) else oBook f x y (lowI w 5) (lowI (w >>> (3 &&& 31)) 14)
def oAct (f : FF) (kp : Int32) (g : FF) (v w : Int32) : OR := oActB f kp g (v &&& 15) w (fX v) (mY (AF f) v)
theorem e_Act {A : AS} {v w : Int32} : sAct A v w = apo A (oAct A.f A.kept A.sf v w) := by
  unfold oAct oActB
  simp only [apply_ite (apo A), ← e_Buy, ← e_Lic, ← e_Rate, ← e_Set, ← e_Seed, ← e_Fill, ← e_Mend, ← e_Pay, ← e_Back, ← e_Rest, ← e_Pass, ← e_Book]
  rfl
/-! an order is refused, and nothing changes; or it is done, and what holds stays -/
def Ok (c : Nat) (o : OR) : Prop := (o.2 = none ∧ o.1 ≤ -100000000) ∨ ∃ f1, o.2 = some f1 ∧ ¬ o.1 ≤ -100000000 ∧ Hv (c + 60) f1
theorem ok_no {c : Nat} {o : OR} {x : Int32} (e : o = (x, none)) (h : x ≤ -100000000) : Ok c o := by
  rw [e]
  exact Or.inl ⟨rfl, h⟩
theorem ok_yes {c : Nat} {o : OR} {x : Int32} {f1 : FF} (e : o = (x, some f1)) (h : ¬ x ≤ -100000000) (hv : Hv (c + 60) f1) : Ok c o := by
  rw [e]
  exact Or.inr ⟨f1, rfl, h, hv⟩
theorem big_nI {n : Nat} (h : n < 2 ^ 31) : ¬ nI n ≤ -100000000 := fun z => absurd (Int32.lt_of_le_of_lt z (show (-100000000 : Int32) < 0 by decide)) (nI_pos h)
theorem big_ti {x : Int32} (h : -100000000 < x.toInt) : ¬ x ≤ -100000000 := fun z => by
  rw [Int32.le_iff_toInt_le, show (-100000000 : Int32).toInt = -100000000 from rfl] at z
  omega
theorem mr {f : FF} {c q : Nat} (hw : Wf c q f) {m : Int32} (h : 0 ≤ m ∧ m ≤ f 12 - 1) : ∃ a, a < mn f ∧ m = nI a ∧ m.toNatClampNeg = a := by
  have h6 := hw.m6
  obtain ⟨a, h1, h2⟩ := r_of (n := mn f) (by omega) (by rw [← hw.m]; exact h)
  exact ⟨a, h1, h2, by rw [h2, nI_clamp (by omega)]⟩
section OK
variable {c : Nat} {f : FF}
theorem ok_Lic (hw : Wf c 30 f) (hv : Hv c f) {w x : Int32} : Ok c (oLic f w x) := by
  by_cases hi : isF w
  · obtain ⟨a, ha, ex, ec⟩ := isF_of hi
    by_cases hx : 0 ≤ x ∧ x ≤ 7
    · by_cases he : f (13 + 6 * w.toNatClampNeg + 1) = x
      · exact ok_no (x := -100000005) (by unfold oLic; rw [if_pos hi, if_pos hx, if_pos he]) (by decide)
      · obtain ⟨n, -, h7, en⟩ := rng (a := 0) (b := 7) (by decide) (by decide) hx
        obtain ⟨y, hy, ey⟩ := hv.lic ha
        refine ok_yes (by unfold oLic; rw [if_pos hi, if_pos hx, if_neg he]) ?_ ?_
        · rw [ec, ey]; exact big_nI (by omega)
        · rw [ec, en]; exact Hv_mono (Hv_lic hv ha h7) (by omega)
    · exact ok_no (x := -100000002) (by unfold oLic; rw [if_pos hi, if_neg hx]) (by decide)
  · exact ok_no (x := -100000001) (by unfold oLic; rw [if_neg hi]) (by decide)
theorem ok_Rate (hw : Wf c 30 f) (hv : Hv c f) {m x : Int32} : Ok c (oRate f m x) := by
  have h6 := hw.m6
  by_cases hi : isM (AF f) m
  · obtain ⟨a, ha, ex, ec⟩ := mr hw hi
    by_cases hx : 1 ≤ x ∧ x ≤ 99
    · by_cases he : f (49 + 14 * m.toNatClampNeg + 1) = x
      · exact ok_no (x := -100000005) (by unfold oRate; rw [if_pos hi, if_pos hx, if_pos he]) (by decide)
      · obtain ⟨-, ⟨r, r1, r2, r3⟩, -⟩ := hw.wm ha
        refine ok_yes (by unfold oRate; rw [if_pos hi, if_pos hx, if_neg he]) ?_ ?_
        · rw [ec, r3]; exact big_nI (by omega)
        · rw [ec]; exact Hv_mono (Hv_rate hv (Or.inl rfl) h6 ha) (by omega)
    · exact ok_no (x := -100000002) (by unfold oRate; rw [if_pos hi, if_neg hx]) (by decide)
  · exact ok_no (x := -100000001) (by unfold oRate; rw [if_neg hi]) (by decide)
theorem ok_Seed (hv : Hv c f) {x : Int32} : Ok c (oSeed f x) := by
  by_cases hx : 0 ≤ x ∧ x ≤ 9999
  · by_cases he : f 2 = x
    · exact ok_no (x := -100000005) (by unfold oSeed; rw [if_pos hx, if_pos he]) (by decide)
    · obtain ⟨n, -, h7, en⟩ := rng (a := 0) (b := 9999) (by decide) (by decide) hx
      obtain ⟨y, hy, ey⟩ := hv.p2
      refine ok_yes (by unfold oSeed; rw [if_pos hx, if_neg he]) ?_ ?_
      · rw [ey]; exact big_nI (by omega)
      · exact Hv_mono (Hv_set hv (by decide) en (Or.inr (Or.inr h7))) (by omega)
  · exact ok_no (x := -100000002) (by unfold oSeed; rw [if_neg hx]) (by decide)
theorem ok_Set (hw : Wf c 30 f) (hv : Hv c f) {k x : Int32} : Ok c (oSet f k x) := by
  by_cases hx : k = 0 ∧ 10 ≤ x ∧ x ≤ 200
  · by_cases he : f 0 = x
    · exact ok_no (x := -100000005) (by unfold oSet; rw [if_pos hx, if_pos he]) (by decide)
    · obtain ⟨n, -, h7, en⟩ := rng (a := 10) (b := 200) (by decide) (by decide) hx.2
      obtain ⟨y, hy1, hy, ey⟩ := hw.b
      refine ok_yes (by unfold oSet; rw [if_pos hx, if_neg he]) ?_ ?_
      · rw [ey]; exact big_nI (by omega)
      · exact Hv_mono (Hv_set hv (by decide) en (Or.inl rfl)) (by omega)
  · by_cases hx2 : k = 1 ∧ 0 ≤ x ∧ x ≤ 9999
    · by_cases he : f 1 = x
      · exact ok_no (x := -100000005) (by unfold oSet; rw [if_neg hx, if_pos hx2, if_pos he]) (by decide)
      · obtain ⟨n, -, h7, en⟩ := rng (a := 0) (b := 9999) (by decide) (by decide) hx2.2
        obtain ⟨y, hy, ey⟩ := hv.p1
        refine ok_yes (by unfold oSet; rw [if_neg hx, if_pos hx2, if_neg he]) ?_ ?_
        · rw [ey]; exact big_nI (by omega)
        · exact Hv_mono (Hv_set hv (by decide) en (Or.inr (Or.inr h7))) (by omega)
    · exact ok_no (x := -100000002) (by unfold oSet; rw [if_neg hx, if_neg hx2]) (by decide)
theorem ok_Pay (hw : Wf c 30 f) (hv : Hv c f) (hc : c ≤ 5000) {w x : Int32} : Ok c (oPay f w x) := by
  by_cases hi : isF w
  · obtain ⟨a, ha, ex, ec⟩ := isF_of hi
    by_cases hx : 1 ≤ x ∧ x ≤ 9999
    · obtain ⟨n, -, h7, en⟩ := rng (a := 1) (b := 9999) (by decide) (by decide) hx
      refine ok_yes (by unfold oPay; rw [if_pos hi, if_pos hx]) ?_ ?_
      · rw [ec, en]
        have hv2 := hv
        obtain ⟨b, e, t, d, x1, x2, x3, x4, x5, x6, x7⟩ := hv2
        have hb := x3.2.2
        have ht := x2.2.2
        obtain ⟨⟨a1, a2⟩, -⟩ := x6 a ha
        refine big_ti ?_
        rw [ti_add (by omega) (by omega) (by omega)]
        omega
      · rw [ec, en]
        exact Hv_pay hv hc ha hw.m6 h7
    · exact ok_no (x := -100000002) (by unfold oPay; rw [if_pos hi, if_neg hx]) (by decide)
  · exact ok_no (x := -100000001) (by unfold oPay; rw [if_neg hi]) (by decide)
theorem ok_Fill (hw : Wf c 30 f) (hv : Hv c f) {w m x : Int32} : Ok c (oFill f w m x) := by
  by_cases hi : isF w ∧ isM (AF f) m
  · obtain ⟨a, ha, ex, ec⟩ := isF_of hi.1
    obtain ⟨b, hb, ey, ed⟩ := mr hw hi.2
    by_cases hx : 1 ≤ x ∧ x ≤ 500
    · by_cases he : Op.cmpValue (FP.fcmp (fillU f m.toNatClampNeg x) 1142292480) .l ≤ 0
      · obtain ⟨n, -, h7, en⟩ := rng (a := 1) (b := 500) (by decide) (by decide) hx
        refine ok_yes (by unfold oFill; rw [if_pos hi, if_pos hx, if_pos he]) ?_ ?_
        · rw [en, show (2 : Int32) = nI 2 from rfl, pk_mul]
          exact big_nI (by omega)
        · rw [ec, ed]
          exact Hv_mono (Hv_fill hv ha hw.m6 hb) (by omega)
      · exact ok_no (x := -100000003) (by unfold oFill; rw [if_pos hi, if_pos hx, if_neg he]) (by decide)
    · exact ok_no (x := -100000002) (by unfold oFill; rw [if_pos hi, if_neg hx]) (by decide)
  · exact ok_no (x := -100000001) (by unfold oFill; rw [if_neg hi]) (by decide)
theorem ok_Mend (hw : Wf c 30 f) (hv : Hv c f) (hc : c ≤ 5000) {m : Int32} : Ok c (oMend f m) := by
  by_cases hi : isM (AF f) m
  · obtain ⟨a, ha, ex, ec⟩ := mr hw hi
    by_cases he : f (49 + 14 * m.toNatClampNeg + 2) = 0
    · exact ok_no (x := -100000005) (by unfold oMend; rw [if_pos hi, if_pos he]) (by decide)
    · refine ok_yes (by unfold oMend; rw [if_pos hi, if_neg he]) ?_ ?_
      · rw [ec] at he ⊢
        obtain ⟨r, r1, r2⟩ := mdL_nI hv hw ha he
        rw [r2]
        exact big_nI (by omega)
      · rw [ec] at he ⊢
        exact Hv_mend hv hw hc ha he
  · exact ok_no (x := -100000001) (by unfold oMend; rw [if_neg hi]) (by decide)
theorem ref_err {w m i h : Int32} (z : ¬ refI f w m i h = 0) : refI f w m i h ≤ -100000000 := by
  unfold refI at z ⊢
  split at z
  · rename_i h1
    rw [if_pos h1]
    split at z
    · rename_i h2
      rw [if_pos h2]
      split at z
      · rename_i h3
        rw [if_pos h3]
        decide
      · rename_i h3
        rw [if_neg h3]
        split at z
        · rename_i h4
          rw [if_pos h4]
          decide
        · exact absurd rfl z
    · rename_i h2
      rw [if_neg h2]
      decide
  · rename_i h1
    rw [if_neg h1]
    decide
theorem ref_bk {w m i h : Int32} (z : refI f w m i h = 0) : ¬ 12 < bkO f m (f 3 + i) + h := by
  unfold refI at z
  split at z
  · split at z
    · split at z
      · exact absurd z (by decide)
      · split at z
        · exact absurd z (by decide)
        · assumption
    · exact absurd z (by decide)
  · exact absurd z (by decide)
theorem ok_Book (hw : Wf c 30 f) (hv : Hv c f) (hc : c ≤ 5000) {w m i x : Int32} : Ok c (oBook f w m i x) := by
  by_cases h0 : refI f w m i x = 0
  · have hA : WA c (AF f) := ⟨hw, fun j hj => absurd hj (Nat.not_lt_zero _), Nat.zero_le _, Or.inl rfl, fun z => absurd z (show ¬ (0 : Int32) = 1 by decide), Nat.zero_le _⟩
    obtain ⟨h1, h2, h3, h4, h5⟩ := ref_of (A := AF f) hA h0
    obtain ⟨a, ha, ex, -⟩ := isF_of h1
    obtain ⟨b, hb, ey, -⟩ := mr hw h2
    obtain ⟨n, -, n2, en⟩ := rng (a := 1) (b := 99) (by decide) (by decide) h3
    obtain ⟨k, k1, k2, ek⟩ := rng (a := 1) (b := 12) (by decide) (by decide) h4
    have hbk := ref_bk h0
    refine ok_yes (by unfold oBook; rw [if_pos h0]) ?_ ?_
    · obtain ⟨e1, e2⟩ := hv.b hc
      rw [e1]
      exact big_nI (by omega)
    · subst ex
      subst ey
      subst en
      subst ek
      refine Hv_book hv hw h5 k2 ?_
      rw [bkO_N hw, nI_add] at hbk
      have hs : sN f (nI b) (f 3 + nI n) (sn f) ≤ 12 := by
        obtain ⟨b1, e, t, d, x1, x2, x3, x4, x5, x6, x7⟩ := hv
        exact x5.1 _ _
      exact i_nlt (a := 12) (by decide) (by omega) hbk
  · exact ok_no (by unfold oBook; rw [if_neg h0]) (ref_err h0)
theorem ok_Back (hw : Wf c 30 f) (hv : Hv c f) {b : Int32} : Ok c (oBack f b) := by
  have h30 := hw.s30
  rcases hp : plO f b with _ | p
  · exact ok_no (x := -100000001) (by unfold oBack; rw [hp]) (by decide)
  · exact ok_yes (by unfold oBack; rw [hp]) (big_nI (by omega)) (Hv_mono (Hv_drop hv hw (plO_lt hp)) (by omega))
theorem ok_Pass (hw : Wf c 30 f) (hv : Hv c f) (hc : c ≤ 5000) {d : Int32} : Ok c (oPass f d) := by
  by_cases hd : 1 ≤ d ∧ d ≤ 60
  · obtain ⟨n, n1, n2, en⟩ := rng (a := 1) (b := 60) (by decide) (by decide) hd
    have ec : d.toNatClampNeg = n := by rw [en, nI_clamp (by omega)]
    have hv2 := Hv_dFn hv hw hc (n := n) (by omega)
    refine ok_yes (by unfold oPass; rw [if_pos hd]) ?_ (by rw [ec]; exact Hv_mono hv2 (by omega))
    rw [ec]
    obtain ⟨b, e, t, d, x1, x2, x3, x4, x5, x6, x7⟩ := hv
    obtain ⟨b', e', t', d', y1, y2, y3, y4, y5, y6, y7⟩ := hv2
    have hx := x3.2.2
    have hy := y3.2.2
    rw [x3.2.1, y3.2.1]
    have et : (nI e').toInt = (e' : Int) := nI_toInt (by omega)
    refine big_ti ?_
    rw [ti_sub (by omega) (by omega) (by omega)]
    omega
  · exact ok_no (x := -100000002) (by unfold oPass; rw [if_neg hd]) (by decide)
theorem ok_Buy (hw : Wf c 30 f) (hv : Hv c f) {x y r : Int32} : Ok c (oBuy f x y r) := by
  by_cases h1 : 0 ≤ y ∧ y ≤ 2
  · by_cases h2 : (0 ≤ x ∧ x ≤ 2) ∧ (1 ≤ r ∧ r ≤ 99)
    · by_cases h3 : kc f y (mn f) < 2
      · by_cases h4 : x = y
        · subst h4
          obtain ⟨k, -, k2, ek⟩ := rng (a := 0) (b := 2) (by decide) (by decide) h1
          obtain ⟨n, -, n2, en⟩ := rng (a := 1) (b := 99) (by decide) (by decide) h2.2
          have h6 := hw.m6
          have hr : mn f < 6 := kc_room hw (k := k) (by omega) (by rw [← ek]; exact h3)
          refine ok_yes (by unfold oBuy; rw [if_pos h1, if_pos h2, if_pos h3, if_pos rfl]) (big_nI (by omega)) ?_
          rw [ek, en]
          exact Hv_mono (Hv_buy hv hw (by omega) hr) (by omega)
        · exact ok_no (x := -100000004) (by unfold oBuy; rw [if_pos h1, if_pos h2, if_pos h3, if_neg h4]) (by decide)
      · exact ok_no (x := -100000003) (by unfold oBuy; rw [if_pos h1, if_pos h2, if_neg h3]) (by decide)
    · exact ok_no (x := -100000002) (by unfold oBuy; rw [if_pos h1, if_neg h2]) (by decide)
  · exact ok_no (x := -100000001) (by unfold oBuy; rw [if_neg h1]) (by decide)
theorem ok_Rest {k : Int32} {g : FF} (hk : k = 1 → Wf c 30 g ∧ Hv c g) (h01 : k = 0 ∨ k = 1) : Ok c (oRest k g) := by
  rcases h01 with h0 | h1
  · exact ok_no (x := -100000005) (by unfold oRest; rw [if_pos h0]) (by decide)
  · obtain ⟨g1, g2⟩ := hk h1
    have h4 := g1.d4
    refine ok_yes (by unfold oRest; rw [if_neg (by rw [h1]; decide)]) ?_ (Hv_mono g2 (by omega))
    rw [g1.d]
    exact big_nI (by omega)
theorem ok_ite {p : Prop} [Decidable p] {o1 o2 : OR} (h1 : Ok c o1) (h2 : Ok c o2) : Ok c (if p then o1 else o2) := by
  split
  · exact h1
  · exact h2
theorem ok_Act (hw : Wf c 30 f) (hv : Hv c f) (hc : c ≤ 5000) {kp : Int32} {g : FF} (hk : kp = 1 → Wf c 30 g ∧ Hv c g) (h01 : kp = 0 ∨ kp = 1) {v w : Int32} : Ok c (oAct f kp g v w) := by
  unfold oAct oActB
  exact ok_ite (ok_Buy hw hv) (ok_ite (ok_Buy hw hv) (ok_ite (ok_ite (ok_Lic hw hv) (ok_Rate hw hv)) (ok_ite (ok_ite (ok_Set hw hv) (ok_Seed hv)) (ok_ite (ok_Fill hw hv) (ok_ite (ok_Fill hw hv) (ok_ite (ok_Mend hw hv hc) (ok_ite (ok_ite (ok_Pay hw hv hc) (ok_Back hw hv)) (ok_ite (ok_ite (ok_Rest hk h01) (ok_Pass hw hv hc)) (ok_ite (ok_Pass hw hv hc) (ok_ite (ok_Pass hw hv hc) (ok_Book hw hv hc)))))))))))
/-- the bookings worked -/
theorem i_ab (a b : Int32) : b = a + (b - a) := by
  rw [Int32.sub_eq_add_neg, Int32.add_comm b, ← Int32.add_assoc, Int32.add_right_neg, Int32.zero_add]
theorem pass_7 {d : Int32} {f1 : FF} (h : (oPass f d).2 = some f1) : f1 7 = f 7 + (oPass f d).1 := by
  by_cases hd : 1 ≤ d ∧ d ≤ 60
  · have e : oPass f d = (dFn f d.toNatClampNeg 7 - f 7, some (dFn f d.toNatClampNeg)) := if_pos hd
    rw [e] at h ⊢
    have h3 : dFn f d.toNatClampNeg = f1 := Option.some.inj h
    rw [← h3]
    exact i_ab _ _
  · have e : oPass f d = (-100000002, none) := if_neg hd
    rw [e] at h
    cases (show (none : Option FF) = some f1 from h)
theorem act_9 {kp : Int32} {g f1 : FF} {v w : Int32} (hk : v &&& 15 = 9 ∨ v &&& 15 = 10) (h : (oAct f kp g v w).2 = some f1) : f1 7 = f 7 + (oAct f kp g v w).1 := by
  unfold oAct oActB at h ⊢
  rcases hk with hk | hk
  · rw [hk] at h ⊢
    rw [if_neg (by decide), if_neg (by decide), if_neg (by decide), if_neg (by decide), if_neg (by decide), if_neg (by decide), if_neg (by decide), if_neg (by decide), if_neg (by decide), if_pos rfl] at h ⊢
    exact pass_7 h
  · rw [hk] at h ⊢
    rw [if_neg (by decide), if_neg (by decide), if_neg (by decide), if_neg (by decide), if_neg (by decide), if_neg (by decide), if_neg (by decide), if_neg (by decide), if_neg (by decide), if_neg (by decide), if_pos rfl] at h ⊢
    exact pass_7 h
theorem act_8 {kp : Int32} {g f1 : FF} {v w : Int32} (hk : v &&& 15 = 8) (h : (oAct f kp g v w).2 = some f1) : f1 = g := by
  unfold oAct oActB at h
  rw [hk] at h
  rw [if_neg (by decide), if_neg (by decide), if_neg (by decide), if_neg (by decide), if_neg (by decide), if_neg (by decide), if_neg (by decide), if_neg (by decide), if_pos rfl] at h
  by_cases h1 : w &&& 1 = 0
  · rw [if_pos h1] at h
    unfold oRest at h
    by_cases h0 : kp = 0
    · rw [if_pos h0] at h
      cases (show (none : Option FF) = some f1 from h)
    · rw [if_neg h0] at h
      exact (Option.some.inj h).symm
  · rw [if_neg h1] at h
    unfold oPass at h
    rw [if_neg (by decide)] at h
    cases (show (none : Option FF) = some f1 from h)
end OK
theorem wa_ite {c : Nat} {p : Prop} [Decidable p] {o1 o2 : Int32 × AS} (h1 : WA c o1.2) (h2 : WA c o2.2) : WA c (if p then o1 else o2).2 := by
  split
  · exact h1
  · exact h2
theorem WA_act {c : Nat} {A : AS} {v w : Int32} (hA : WA c A) (hc : c + 60 ≤ 40000) : WA (c + 60) (sAct A v w).2 := by
  have m : ∀ {A1 : AS}, WA c A1 → WA (c + 60) A1 := fun h => WA_mono h (by omega) hc
  have hr : WA c (sRestX A).2 := by
    unfold sRestX
    split
    · exact hA
    · rename_i hk
      exact WA_now (WA_psh hA) (hA.2.2.2.2.1 (hA.2.2.2.1.resolve_left hk))
  unfold sAct sActB actBuy act2 act3 act7 act8 act9 act11
  exact wa_ite (m (WA_sBuy hA)) (wa_ite (m (WA_sBuy hA)) (wa_ite (wa_ite (m (WA_sLic hA)) (m (WA_sRate hA))) (wa_ite (wa_ite (m (WA_sSet hA)) (m (WA_sSeed hA))) (wa_ite (m (WA_sFill hA)) (wa_ite (m (WA_sFill hA)) (wa_ite (m (WA_sMend hA)) (wa_ite (wa_ite (m (WA_sPay hA)) (m (WA_sBack hA))) (wa_ite (wa_ite (m hr) (WA_sPass hA hc)) (wa_ite (WA_sPass hA hc) (wa_ite (WA_sPass hA hc) (m (WA_sBook hA))))))))))))
def HA (c : Nat) (A : AS) : Prop := Hv c A.f ∧ (∀ j, j < A.z → Hv c (A.hf j)) ∧ (A.kept = 1 → Hv c A.sf)
theorem HA_mono {c c1 : Nat} {A : AS} (h : HA c A) (hc : c ≤ c1) : HA c1 A := ⟨Hv_mono h.1 hc, fun j hj => Hv_mono (h.2.1 j hj) hc, fun hk => Hv_mono (h.2.2 hk) hc⟩
theorem HA_psh {c : Nat} {A : AS} (h : HA c A) : HA c (psh A) := by
  obtain ⟨h1, h2, h4⟩ := h
  refine ⟨h1, fun j hj => ?_, h4⟩
  show Hv c (pshH A.z A.hf A.f j)
  have hj2 : j < pshZ A.z := hj
  unfold pshZ at hj2
  unfold pshH
  split
  · rename_i e
    rw [if_pos e] at hj2
    show Hv c (if j = 3 then A.f else A.hf (j + 1))
    split
    · exact h1
    · exact h2 _ (by omega)
  · rename_i e
    rw [if_neg e] at hj2
    show Hv c (if j = A.z then A.f else A.hf j)
    split
    · exact h1
    · exact h2 _ (by omega)
/-- the place of the latest state behind an order that is done -/
theorem psh_top {A : AS} (h : A.z ≤ 4) : 1 ≤ pshZ A.z ∧ pshZ A.z ≤ 4 ∧ pshH A.z A.hf A.f (pshZ A.z - 1) = A.f := by
  unfold pshZ pshH
  by_cases e : A.z = 4
  · rw [if_pos e, if_pos e]
    exact ⟨by decide, by decide, if_pos rfl⟩
  · rw [if_neg e, if_neg e]
    exact ⟨by omega, by omega, if_pos (by omega)⟩
/-- a turn's first order: what it answers, and what stands behind it -/
theorem act_ok {c : Nat} {A : AS} {v w : Int32} (hA : WA c A) (hh : HA c A) (hc : c ≤ 5000) : ((sAct A v w).1 ≤ -100000000 ∧ (sAct A v w).2 = A) ∨ (¬ (sAct A v w).1 ≤ -100000000 ∧ ∃ f1, (oAct A.f A.kept A.sf v w).2 = some f1 ∧ (sAct A v w).2 = stF (psh A) f1 ∧ Hv (c + 60) f1) := by
  have ho := ok_Act (v := v) (w := w) hA.1 hh.1 hc (kp := A.kept) (g := A.sf) (fun z => ⟨hA.2.2.2.2.1 z, hh.2.2 z⟩) hA.2.2.2.1
  rw [e_Act]
  rcases ho with ⟨h1, h2⟩ | ⟨f1, h1, h2, h3⟩
  · refine Or.inl ⟨h2, ?_⟩
    unfold apo
    rw [h1]
  · refine Or.inr ⟨h2, f1, h1, ?_, h3⟩
    unfold apo
    rw [h1]
theorem HA_act {c : Nat} {A : AS} {v w : Int32} (hA : WA c A) (hh : HA c A) (hc : c ≤ 5000) : HA (c + 60) (sAct A v w).2 := by
  rcases act_ok (v := v) (w := w) hA hh hc with ⟨-, h⟩ | ⟨-, f1, -, h, hv⟩
  · rw [h]
    exact HA_mono hh (by omega)
  · rw [h]
    have hp := HA_psh (HA_mono hh (show c ≤ c + 60 by omega))
    exact ⟨hv, hp.2.1, hp.2.2⟩
