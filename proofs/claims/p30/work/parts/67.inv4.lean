/-! what the law's check reads -/
def bn (f : FF) : Nat := (f 5).toNatClampNeg
theorem Hv.b {c : Nat} {f : FF} (h : Hv c f) (hc : c ≤ 5000) : f 5 = nI (bn f) ∧ bn f ≤ c := by
  obtain ⟨b, e, t, d, x1, x2, x3, x4, x5, x6, x7⟩ := h
  have : bn f = b := by unfold bn; rw [x3.1, nI_clamp (by have := x3.2.2.2; omega)]
  rw [this]
  exact ⟨x3.1, x3.2.2.2⟩
theorem isF_nI {i : Nat} (h : i < 6) : isF (nI i) := by
  have := r_to h (n := 6) (by decide)
  rw [← r5] at this
  exact this
theorem isM_nI {A : AS} {c i : Nat} (hA : WA c A) (h : i < mn A.f) : isM A (nI i) := by
  have := r_to h (by have := hA.1.m6; omega)
  rw [← hA.1.m] at this
  exact this
theorem aF0 {A : AS} {i : Nat} (h : i < 6) : aFarmer A (nI i) 0 = A.f (13 + 6 * i + 0) := by
  unfold aFarmer
  rw [if_pos (isF_nI h), if_pos rfl, nI_clamp (by omega)]
theorem aF2 {A : AS} {i : Nat} (h : i < 6) : aFarmer A (nI i) 2 = A.f (13 + 6 * i + 2) := by
  unfold aFarmer
  rw [if_pos (isF_nI h), if_neg (by decide), if_neg (by decide), if_pos rfl, nI_clamp (by omega)]
theorem aF4 {A : AS} {i : Nat} (h : i < 6) : aFarmer A (nI i) 4 = st' A.f (nI i) (sn A.f) := by
  unfold aFarmer
  rw [if_pos (isF_nI h), if_neg (by decide), if_neg (by decide), if_neg (by decide), if_neg (by decide), if_pos rfl]
theorem aF5 {A : AS} {i : Nat} (h : i < 6) : aFarmer A (nI i) 5 = A.f (13 + 6 * i + 4) := by
  unfold aFarmer
  rw [if_pos (isF_nI h), if_neg (by decide), if_neg (by decide), if_neg (by decide), if_neg (by decide), if_neg (by decide), if_pos rfl, nI_clamp (by omega)]
theorem aF6 {A : AS} {i : Nat} (h : i < 6) : aFarmer A (nI i) 6 = A.f (13 + 6 * i + 5) := by
  unfold aFarmer
  rw [if_pos (isF_nI h), if_neg (by decide), if_neg (by decide), if_neg (by decide), if_neg (by decide), if_neg (by decide), if_neg (by decide), if_pos rfl, nI_clamp (by omega)]
theorem aM0 {A : AS} {c i : Nat} (hA : WA c A) (h : i < mn A.f) : aMachine A (nI i) 0 = A.f (49 + 14 * i + 0) := by
  have h6 := hA.1.m6
  unfold aMachine
  rw [if_pos (isM_nI hA h), if_pos (by decide), nI_clamp (by omega)]
  rfl
theorem aM2 {A : AS} {c i : Nat} (hA : WA c A) (h : i < mn A.f) : aMachine A (nI i) 2 = A.f (49 + 14 * i + 2) := by
  have h6 := hA.1.m6
  unfold aMachine
  rw [if_pos (isM_nI hA h), if_pos (by decide), nI_clamp (by omega)]
  rfl
theorem aM3 {A : AS} {c i : Nat} (hA : WA c A) (h : i < mn A.f) : aMachine A (nI i) 3 = A.f (49 + 14 * i + 3) := by
  have h6 := hA.1.m6
  unfold aMachine
  rw [if_pos (isM_nI hA h), if_pos (by decide), nI_clamp (by omega)]
  rfl
theorem aM4 {A : AS} {c i : Nat} (hA : WA c A) (h : i < mn A.f) : aMachine A (nI i) 4 = A.f (49 + 14 * i + 4) := by
  have h6 := hA.1.m6
  unfold aMachine
  rw [if_pos (isM_nI hA h), if_pos (by decide), nI_clamp (by omega)]
  rfl
theorem aM5 {A : AS} {c i : Nat} (hA : WA c A) (h : i < mn A.f) : aMachine A (nI i) 5 = A.f (49 + 14 * i + 5) := by
  have h6 := hA.1.m6
  unfold aMachine
  rw [if_pos (isM_nI hA h), if_pos (by decide), nI_clamp (by omega)]
  rfl
theorem aM7 {A : AS} {c i : Nat} (hA : WA c A) (h : i < mn A.f) : aMachine A (nI i) 7 = A.f (49 + 14 * i + 7) := by
  have h6 := hA.1.m6
  unfold aMachine
  rw [if_pos (isM_nI hA h), if_pos (by decide), nI_clamp (by omega)]
  rfl
theorem aH {A : AS} {c i e : Nat} (hA : WA c A) (h : i < mn A.f) (he : e < 6) : aHours A (nI i) (nI e) = A.f (49 + 14 * i + (8 + e)) := by
  have h6 := hA.1.m6
  unfold aHours
  rw [if_pos ⟨isM_nI hA h, isF_nI he⟩, nI_clamp (by omega), nI_clamp (by omega)]
theorem aFu {A : AS} {c i : Nat} (hA : WA c A) (h : i < mn A.f) : ∃ q, q ≤ 2400 ∧ aFuel A (nI i) = qbU q := by
  have h6 := hA.1.m6
  obtain ⟨-, -, -, ⟨q, h1, h2⟩, -⟩ := hA.1.wm h
  refine ⟨q, h1, ?_⟩
  unfold aFuel
  rw [if_pos (isM_nI hA h), nI_clamp (by omega), h2]
  rfl
theorem aBk1 {A : AS} {c i : Nat} (hA : WA c A) (h : i < mn A.f) : aBooked A (nI i) 1 = bkO A.f (nI i) (A.f 3 + 1) := by
  unfold aBooked
  rw [if_pos (isM_nI hA h), if_pos (by decide)]
theorem aBk2 {A : AS} {c i : Nat} (hA : WA c A) (h : i < mn A.f) : aBooked A (nI i) 2 = bkO A.f (nI i) (A.f 3 + 2) := by
  unfold aBooked
  rw [if_pos (isM_nI hA h), if_pos (by decide)]
theorem aBo2 {A : AS} {b : Int32} {p : Nat} (h : plO A.f b = some p) : aBooking A b 2 = A.f (133 + 6 * p + 3) := by
  unfold aBooking
  rw [h]
  simp only []
  rw [if_neg (by decide), if_neg (by decide), if_pos trivial]
theorem aBo3 {A : AS} {b : Int32} {p : Nat} (h : plO A.f b = some p) : aBooking A b 3 = A.f (133 + 6 * p + 4) := by
  unfold aBooking
  rw [h]
  simp only []
  rw [if_neg (by decide), if_neg (by decide), if_neg (by decide), if_pos trivial]
theorem aBoN {A : AS} {b k : Int32} (h : plO A.f b = none) : aBooking A b k = -100000001 := by
  unfold aBooking
  rw [h]
theorem ac_sm {f : FF} : ∀ {n : Nat}, ac f n = sm (fun i => f (13 + 6 * i + 0)) n
  | 0 => rfl
  | n + 1 => by
    show ac f n + f (13 + 6 * n + 0) = sm (fun i => f (13 + 6 * i + 0)) n + f (13 + 6 * n + 0)
    rw [ac_sm]
theorem br_sm {f : FF} : ∀ {n : Nat}, br f n = sm (fun i => f (49 + 14 * i + 2)) n
  | 0 => rfl
  | n + 1 => by
    show br f n + f (49 + 14 * n + 2) = sm (fun i => f (49 + 14 * i + 2)) n + f (49 + 14 * n + 2)
    rw [br_sm]
theorem st_n {c q : Nat} {f : FF} (hw : Wf c q f) : ∀ {n : Nat}, n ≤ sn f → sm (fun i => st' f (nI i) n) 6 = nI n
  | 0, _ => rfl
  | n + 1, h => by
    obtain ⟨⟨w, w6, ew⟩, -⟩ := hw.wb (p := n) (by omega)
    rw [sm_add (g := fun i => st' f (nI i) n) (w := w) (y := 1) w6 (fun i hi hne => ?_) ?_, st_n hw (by omega)]
    · exact nI_add n 1
    · show st' f (nI w) n + (if f (133 + 6 * n + 1) = nI w then 1 else 0) = st' f (nI w) n + 1
      rw [if_pos ew]
    · show st' f (nI i) n + (if f (133 + 6 * n + 1) = nI i then 1 else 0) = st' f (nI i) n
      rw [if_neg (fun z => hne (nI_inj (by omega) (by omega) (z.symm.trans ew)))]
      exact Int32.add_zero _
theorem st_all {c q : Nat} {f : FF} (hw : Wf c q f) : sm (fun i => st' f (nI i) (sn f)) 6 = f 6 := (st_n hw (Nat.le_refl _)).trans hw.s.symm
/-! how many numbers below k stand -/
theorem pl_no {f : FF} {b : Int32} : ∀ {n i : Nat}, (∀ j, i ≤ j → j < i + n → f (133 + 6 * j + 0) ≠ b) → pl f b i n = none
  | 0, _, _ => rfl
  | n + 1, i, h => by
    show (if f (133 + 6 * i + 0) = b then some i else pl f b (i + 1) n) = none
    rw [if_neg (h i (Nat.le_refl _) (by omega))]
    exact pl_no (fun j h1 h2 => h j (by omega) (by omega))
theorem pl_ex {f : FF} {b : Int32} {j : Nat} (e : f (133 + 6 * j + 0) = b) : ∀ {n i : Nat}, i ≤ j → j < i + n → ∃ p, pl f b i n = some p
  | 0, i, h1, h2 => by omega
  | n + 1, i, h1, h2 => by
    by_cases z : f (133 + 6 * i + 0) = b
    · exact ⟨i, if_pos z⟩
    · obtain ⟨p, hp⟩ := pl_ex e (n := n) (i := i + 1) (by
        rcases Nat.lt_or_ge i j with g | g
        · exact g
        · have : i = j := by omega
          subst this
          exact absurd e z) (by omega)
      exact ⟨p, (if_neg z).trans hp⟩
def li (f : FF) : Nat → Int32
  | 0 => 0
  | k + 1 => li f k + (match plO f (nI k) with | none => 0 | some _ => 1)
theorem li_some {f : FF} {k p : Nat} (h : plO f (nI k) = some p) : li f (k + 1) = li f k + 1 := by
  show li f k + (match plO f (nI k) with | none => 0 | some _ => 1) = _
  rw [h]
theorem li_none {f : FF} {k : Nat} (h : plO f (nI k) = none) : li f (k + 1) = li f k + 0 := by
  show li f k + (match plO f (nI k) with | none => 0 | some _ => 1) = _
  rw [h]
theorem li_n {b : Nat} {f : FF} {g : Nat → Nat} (hb : b ≤ 5000) (h1 : ∀ p, p < sn f → f (133 + 6 * p + 0) = nI (g p) ∧ g p < b) (h2 : ∀ p q, p < q → q < sn f → g p < g q) : ∀ {k : Nat}, k ≤ b → ∃ r, r ≤ sn f ∧ li f k = nI r ∧ (∀ p, p < r → g p < k) ∧ (∀ p, r ≤ p → p < sn f → k ≤ g p)
  | 0, _ => ⟨0, Nat.zero_le _, nI_0.symm, fun p hp => absurd hp (Nat.not_lt_zero _), fun p _ _ => Nat.zero_le _⟩
  | k + 1, hk => by
    obtain ⟨r, r1, r2, r3, r4⟩ := li_n hb h1 h2 (k := k) (by omega)
    by_cases hr : r < sn f ∧ g r = k
    · obtain ⟨p, hp⟩ := pl_ex (f := f) (b := nI k) (j := r) (by rw [(h1 r hr.1).1, hr.2]) (n := sn f) (i := 0) (Nat.zero_le _) (by omega)
      refine ⟨r + 1, by omega, by rw [li_some hp, r2]; exact nI_add r 1, fun p hp => ?_, fun p h3 h4 => ?_⟩
      · rcases Nat.lt_or_ge p r with z | z
        · have := r3 p z; omega
        · have : p = r := by omega
          subst this
          omega
      · have := h2 r p (by omega) h4
        omega
    · have hno : plO f (nI k) = none := pl_no (fun j _ hj e => by
        have hj2 : j < sn f := by omega
        obtain ⟨e1, e2⟩ := h1 j hj2
        have e3 : g j = k := nI_inj (by omega) (by omega) (e1.symm.trans e)
        rcases Nat.lt_or_ge j r with z | z
        · have := r3 j z; omega
        · rcases Nat.lt_or_ge r j with z2 | z2
          · have := h2 r j z2 hj2
            have := r4 r (Nat.le_refl _) (by omega)
            omega
          · have : j = r := by omega
            subst this
            exact hr ⟨hj2, e3⟩)
      refine ⟨r, r1, by rw [li_none hno, r2]; exact Int32.add_zero _, fun p hp => by have := r3 p hp; omega, fun p h3 h4 => ?_⟩
      have := r4 p h3 h4
      rcases Nat.lt_or_ge k (g p) with z | z
      · exact z
      · exfalso
        rcases Nat.lt_or_ge r p with z2 | z2
        · have := h2 r p z2 h4
          have := r4 r (Nat.le_refl _) (by omega)
          omega
        · have : p = r := by omega
          subst this
          exact hr ⟨h4, by omega⟩
theorem li_all {c q : Nat} {f : FF} (hv : Hv c f) (hw : Wf q 30 f) (hc : c ≤ 5000) : li f (bn f) = f 6 := by
  obtain ⟨e1, e2⟩ := hv.b hc
  obtain ⟨b, e, t, d, x1, x2, x3, ⟨-, g, g1, g2⟩, x5⟩ := (show ∃ b e t d, H1 f ∧ H2 c t d f ∧ H3 c b e f ∧ H5 b f ∧ True from by
    obtain ⟨b, e, t, d, x1, x2, x3, x4, x5, x6, x7⟩ := hv
    exact ⟨b, e, t, d, x1, x2, x3, x5, trivial⟩)
  have eb : bn f = b := by unfold bn; rw [x3.1, nI_clamp (by have := x3.2.2.2; omega)]
  rw [eb]
  obtain ⟨r, r1, r2, r3, r4⟩ := li_n (b := b) (by have := x3.2.2.2; omega) g1 g2 (k := b) (Nat.le_refl _)
  have er : r = sn f := by
    rcases Nat.lt_or_ge r (sn f) with z | z
    · have := r4 r (Nat.le_refl _) z
      have := (g1 r z).2
      omega
    · omega
  rw [r2, er]
  exact hw.s.symm
/-! sheds and places -/
def bitI (f : FF) (m : Nat) : Int32 := 1 <<< ((2 * f (49 + 14 * m + 0) + f (49 + 14 * m + 5)) &&& 31)
def shB (f : FF) : Nat → Int32
  | 0 => 0
  | m + 1 => shB f m ||| bitI f m
theorem i_oa (a b c : Int32) : (a ||| b) &&& c = (a &&& c) ||| (b &&& c) := by
  apply Int32.toBitVec_inj.mp
  apply BitVec.eq_of_getLsbD_eq
  intro i hi
  simp only [Int32.toBitVec_and, Int32.toBitVec_or, BitVec.getLsbD_and, BitVec.getLsbD_or]
  cases a.toBitVec.getLsbD i <;> cases b.toBitVec.getLsbD i <;> cases c.toBitVec.getLsbD i <;> rfl
theorem bit_ne : ∀ (p q : Fin 6), p ≠ q → ((1 : Int32) <<< (nI p.val &&& 31)) &&& ((1 : Int32) <<< (nI q.val &&& 31)) = 0 := by decide +kernel
theorem sh_0 {f : FF} {g : Nat → Nat} {q : Nat} (hq : q < 6) : ∀ {m : Nat}, (∀ i, i < m → bitI f i = (1 : Int32) <<< (nI (g i) &&& 31) ∧ g i < 6 ∧ g i ≠ q) → shB f m &&& ((1 : Int32) <<< (nI q &&& 31)) = 0
  | 0, _ => by
    show (0 : Int32) &&& _ = 0
    first | exact Int32.zero_and | exact Int32.zero_and _ | simp
  | m + 1, h => by
    obtain ⟨h1, h2, h3⟩ := h m (Nat.lt_succ_self m)
    show (shB f m ||| bitI f m) &&& _ = 0
    have hb : ((1 : Int32) <<< (nI (g m) &&& 31)) &&& ((1 : Int32) <<< (nI q &&& 31)) = 0 := bit_ne ⟨g m, h2⟩ ⟨q, hq⟩ (fun z => h3 (congrArg Fin.val z))
    rw [i_oa, sh_0 hq (fun i hi => h i (by omega)), h1, hb]
    rfl
theorem kc_lt {f : FF} {k : Int32} {i : Nat} (e : f (49 + 14 * i + 0) = k) : ∀ {n : Nat}, i < n → kc f k i < kc f k n
  | 0, h => absurd h (Nat.not_lt_zero _)
  | n + 1, h => by
    show kc f k i < kc f k n + (if f (49 + 14 * n + 0) = k then 1 else 0)
    by_cases z : i = n
    · subst z
      rw [if_pos e]
      omega
    · have := kc_lt e (n := n) (by omega)
      omega
/-- a machine's place among six -/
def pM (f : FF) (m : Nat) : Nat := 2 * (f (49 + 14 * m + 0)).toNatClampNeg + kc f (f (49 + 14 * m + 0)) m
theorem pM_ok {c q : Nat} {f : FF} (hv : Hv c f) (hw : Wf q 30 f) {m : Nat} (hm : m < mn f) : bitI f m = (1 : Int32) <<< (nI (pM f m) &&& 31) ∧ pM f m < 6 ∧ ∃ k, k < 3 ∧ f (49 + 14 * m + 0) = nI k ∧ pM f m = 2 * k + kc f (nI k) m ∧ kc f (nI k) m < 2 := by
  obtain ⟨⟨k, k3, ek⟩, -⟩ := hw.wm hm
  have h2 := hw.wk k3
  have h1 := kc_lt ek hm
  obtain ⟨b, e, t, d, x1, x2, x3, x4, x5, x6, x7⟩ := hv
  have e5 := (x4 m hm).1
  have ep : pM f m = 2 * k + kc f (nI k) m := by unfold pM; rw [ek, nI_clamp (by omega)]
  refine ⟨?_, by omega, k, k3, ek, ep, by omega⟩
  unfold bitI
  rw [e5, ek, ep, ← nI_add, ← pk_mul]
  rfl
theorem pM_ne {c q : Nat} {f : FF} (hv : Hv c f) (hw : Wf q 30 f) {i m : Nat} (hi : i < m) (hm : m < mn f) : pM f i ≠ pM f m := by
  obtain ⟨-, -, k, k3, ek, e1, l1⟩ := pM_ok hv hw (m := i) (by omega)
  obtain ⟨-, -, j, j3, ej, e2, l2⟩ := pM_ok hv hw hm
  intro z
  have e3 : k = j := by omega
  subst e3
  have := kc_lt ek hi
  omega
theorem sh_ok {c q : Nat} {f : FF} (hv : Hv c f) (hw : Wf q 30 f) {m : Nat} (hm : m < mn f) : shB f m &&& bitI f m = 0 := by
  obtain ⟨h1, h2, -⟩ := pM_ok hv hw hm
  rw [h1]
  exact sh_0 (g := pM f) h2 (fun i hi => ⟨(pM_ok hv hw (m := i) (by omega)).1, (pM_ok hv hw (m := i) (by omega)).2.1, pM_ne hv hw hi hm⟩)
/-! fuel -/
theorem fu_lo {q : Nat} (h : q ≤ 2400) : ¬ Op.cmpValue (FP.fcmp (qbU q) FP.fconst0) .l < 0 := by
  rw [q_0, q_cmp (by omega) (by omega)]
  rcases Nat.lt_or_ge 0 q with z | z
  · rw [Nat.compare_eq_gt.mpr z]
    decide
  · have : q = 0 := by omega
    subst this
    decide
theorem fu_hi {q : Nat} (h : q ≤ 2400) : ¬ 0 < Op.cmpValue (FP.fcmp (qbU q) 1142292480) .g := by
  rw [q_600, q_cmp (by omega) (by omega)]
  rcases Nat.lt_or_ge q 2400 with z | z
  · rw [Nat.compare_eq_lt.mpr z]
    decide
  · have : q = 2400 := by omega
    subst this
    decide
/-! the numbers of a state that the check compares at its end -/
theorem Hv.last {c : Nat} {f : FF} (hv : Hv c f) (hw : Wf c 30 f) (hc : c ≤ 5000) : SF f 0 = f 11 - SF f 4 - SF f 5 ∧ f 4 = f 11 - f 10 - f 9 ∧ SF f 2 = SM f 4 ∧ (∃ d t, f 9 - SF f 5 = nI d ∧ SM f 7 = nI t ∧ d ≤ 5 * t ∧ t ≤ 5000) ∧ f 7 + f 6 ≤ f 5 := by
  obtain ⟨b, e, t, d, x1, x2, x3, x4, x5, x6, x7⟩ := hv
  refine ⟨x1.1, x1.2.1, x1.2.2, ⟨d, t, x2.1, x2.2.1, x2.2.2.1, by have := x2.2.2.2; omega⟩, ?_⟩
  obtain ⟨y1, y2, y3, y4⟩ := x3
  rw [y1, y2, hw.s, nI_add]
  exact nI_le y3 (by omega)
theorem Hv.mach {c : Nat} {f : FF} (hv : Hv c f) (hc : c ≤ 5000) {m : Nat} (hm : m < mn f) : ¬ f (49 + 14 * m + 4) < f (49 + 14 * m + 3) := by
  obtain ⟨b, e, t, d, x1, x2, x3, x4, x5, x6, x7⟩ := hv
  obtain ⟨-, a, z, a2, a3, a4, a5⟩ := x4 m hm
  have := x3.2.2
  rw [a2, a3]
  exact nI_nlt a4 (by omega)
theorem Hv.bk12 {c q : Nat} {f : FF} (hv : Hv c f) (hw : Wf q 30 f) (m d : Int32) : ¬ 12 < bkO f m d := by
  obtain ⟨t, h1, h2⟩ := hv.bk hw m d
  rw [h2]
  exact nI_nlt (a := 12) h1 (by omega)
