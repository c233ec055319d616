/-! a booking's work keeps what holds of an abstract state -/
theorem can_of {f : FF} {m : Nat} {h : Int32} (hc : ¬ canI f m h = 0) : f (49 + 14 * m + 2) = 0 ∧ ¬ Op.cmpValue (FP.fcmp (f (49 + 14 * m + 6)).toUInt32 (wantU (f (49 + 14 * m + 0)) h)) .l < 0 := (if1 hc).2
theorem qb_U (q : Nat) : (qb q).toUInt32 = qbU q := rfl
theorem cmp_ge {a b : Nat} (ha : a ≤ 4400) (hb : b ≤ 4400) (h : ¬ Op.cmpValue (FP.fcmp (qbU a) (qbU b)) .l < 0) : b ≤ a := by
  rw [q_cmp ha hb] at h
  rcases Nat.lt_or_ge a b with z | z
  · rw [Nat.compare_eq_lt.mpr z] at h
    exact absurd (by decide) h
  · exact z
theorem do_fuel {f : FF} {m h k q : Nat} (hk : k < 3) (hh : h ≤ 12) (hq : q ≤ 2400) (ek : f (49 + 14 * m + 0) = nI k) (eq : f (49 + 14 * m + 6) = qb q) (hc : ¬ canI f m (nI h) = 0) : wq k h ≤ q ∧ FP.fsub (f (49 + 14 * m + 6)).toUInt32 (wantU (f (49 + 14 * m + 0)) (nI h)) = qbU (q - wq k h) := by
  have h1 := (can_of hc).2
  rw [ek, eq, qb_U, q_want hk hh] at h1
  have h2 := cmp_ge (by omega) (Nat.le_trans (wq_le hh) (by decide)) h1
  refine ⟨h2, ?_⟩
  rw [ek, eq, qb_U, q_want hk hh, q_sub (by omega) h2]
theorem ow_up {g : Nat → Nat} {w h : Nat} (hw : w < 6) : (if 0 = w then g 0 + h else g 0) + (if 1 = w then g 1 + h else g 1) + (if 2 = w then g 2 + h else g 2) + (if 3 = w then g 3 + h else g 3) + (if 4 = w then g 4 + h else g 4) + (if 5 = w then g 5 + h else g 5) = g 0 + g 1 + g 2 + g 3 + g 4 + g 5 + h := by
  rcases (show w = 0 ∨ w = 1 ∨ w = 2 ∨ w = 3 ∨ w = 4 ∨ w = 5 by omega) with rfl | rfl | rfl | rfl | rfl | rfl <;> simp only [if_true, if_false, Nat.reduceEqDiff] <;> omega
theorem Wm_do {f : FF} {w m h b : Nat} {ch : Int32} (hm : Wm f m) (hw6 : w < 6) (hm6 : m < 6) (h1 : 1 ≤ h) (h12 : h ≤ 12) (hb : f 0 = nI b) (hb1 : 10 ≤ b) (hb2 : b ≤ 200) (hc : ¬ canI f m (nI h) = 0) : Wm (doB f w m (nI h) ch) m := by
  obtain ⟨⟨k, hk, ek⟩, hr, hbk, ⟨q, hq, eq⟩, g, g1, g2, g3, g4, g5⟩ := hm
  have hb0 := (can_of hc).1
  obtain ⟨f1, f2⟩ := do_fuel hk h12 hq ek eq hc
  have g6 := g4 hb0
  have ebr := doB_br (f := f) (w := w) (m := m) (h := nI h) (ch := ch) hw6 hm6
  rw [g2, nI_add, hb, hb0] at ebr
  unfold Wm
  rw [doB_m hw6 hm6 hm6 (k := 0) (by decide) (Or.inr ⟨by omega, by omega, by omega, by omega, by omega⟩), doB_m hw6 hm6 hm6 (k := 1) (by decide) (Or.inr ⟨by omega, by omega, by omega, by omega, by omega⟩), doB_A (j := 49 + 14 * m + 6) (by omega) (by omega), doA_fuel hw6 hm6, f2, doB_A (j := 49 + 14 * m + 3) (by omega) (by omega), doA_since hw6 hm6, g2, nI_add, ebr]
  refine ⟨⟨k, hk, ek⟩, hr, ?_, ⟨q - wq k h, by omega, rfl⟩, fun j => if j = w then g j + h else g j, fun j hj => ?_, ?_, ?_, ?_, ?_⟩
  · split
    · exact Or.inl rfl
    · exact Or.inr rfl
  · show doB f w m (nI h) ch (49 + 14 * m + (8 + j)) = nI (if j = w then g j + h else g j)
    by_cases e : j = w
    · subst e
      rw [if_pos rfl, doB_A (by omega) (by omega), doA_own hw6 hm6, ← nI_add, ← g1 j hj]
      rfl
    · rw [if_neg e, doB_m hw6 hm6 hm6 (by omega) (Or.inr ⟨by omega, by omega, by omega, by omega, by omega⟩), ← g1 j hj]
      rfl
  · simp only []
    rw [ow_up hw6]
  · simp only []
    rw [ow_up hw6]
    omega
  · simp only []
    rw [ow_up hw6]
    intro z
    split at z
    · rename_i z1
      have := i_lt (by omega) (by omega) z1
      omega
    · exact absurd z (by decide)
  · simp only []
    rw [ow_up hw6]
    intro z
    split at z
    · exact absurd z (by decide)
    · rename_i z1
      have := i_nlt (by omega) (by omega) z1
      omega
theorem Wf_do {c p n w m h : Nat} {f : FF} {ch : Int32} (hf : Wf c p f) (hp : p < sn f) (hn : sn f = n + 1) (hw6 : w < 6) (hm : m < mn f) (h1 : 1 ≤ h) (h12 : h ≤ 12) (hc : ¬ canI f m (nI h) = 0) : Wf c p (dropF (doB f w m (nI h) ch) p n) := by
  have hm6 := hf.m6
  have hm7 : m < 6 := by omega
  have e : ∀ j, j ≠ 6 → j < 133 → dropF (doB f w m (nI h) ch) p n j = doB f w m (nI h) ch j := fun j h8 hj => dropF_ne h8 (by omega) (by omega)
  have el : ∀ j, j ≠ 6 → j ≠ 7 → j < 13 → dropF (doB f w m (nI h) ch) p n j = f j := fun j h6 h7 hj => by rw [e j h6 (by omega)]; exact doB_lo hw6 hm7 (by omega) h7
  have e6 : dropF (doB f w m (nI h) ch) p n 6 = nI n := if_pos rfl
  have es : sn (dropF (doB f w m (nI h) ch) p n) = n := sn_eq e6 (by have := hf.s30; omega)
  have e12 := el 12 (by decide) (by decide) (by decide)
  have e3 := el 3 (by decide) (by decide) (by decide)
  have em : mn (dropF (doB f w m (nI h) ch) p n) = mn f := by unfold mn; rw [e12]
  have ed : dn (dropF (doB f w m (nI h) ch) p n) = dn f := by unfold dn; rw [e3]
  have h30 := hf.s30
  obtain ⟨a1, a2, a3, ⟨b, b1, b2, b3⟩, a5, a6, a7, a8⟩ := hf
  unfold Wf
  rw [es, em, ed, e6, e12, e3, el 0 (by decide) (by decide) (by decide)]
  refine ⟨⟨rfl, by omega⟩, a2, a3, ⟨b, b1, b2, b3⟩, fun i hi => ?_, fun i g1 g2 k hk => ?_, fun p1 hp1 => ?_, fun k hk => ?_⟩
  · refine Wm_congr (f := doB f w m (nI h) ch) ?_ (fun k hk => e _ (by omega) (by omega))
    by_cases ei : i = m
    · subst ei
      exact Wm_do (a5 i hi) hw6 hm7 h1 h12 b3 b1 b2 hc
    · exact Wm_congr (a5 i hi) (fun k hk => doB_m hw6 hm7 (by omega) hk (Or.inl ei))
  · rw [e _ (by omega) (by omega), doB_m hw6 hm7 g1 hk (Or.inl (by omega))]
    exact a6 i g1 g2 k hk
  · refine Wb_congr (p := if p1 < p then p1 else p1 + 1) (a7 _ (by split <;> omega)) e12 e3 (fun k k1 k2 => ?_) (fun z => by rw [if_pos z]; exact z)
    rw [dropF_b hp1 (by omega)]
    exact doB_lo hw6 hm7 (by omega) (by split <;> omega)
  · rw [kc_congr (fun i hi => ?_)]
    · exact a8 k hk
    · rw [e _ (by omega) (by omega)]
      exact doB_m hw6 hm7 (by omega) (by decide) (Or.inr ⟨by omega, by omega, by omega, by omega, by omega⟩)
/-! a day -/
def wO (f : FF) (p : Nat) : Nat := (f (133 + 6 * p + 1)).toNatClampNeg
def mO (f : FF) (p : Nat) : Nat := (f (133 + 6 * p + 2)).toNatClampNeg
def doF (f : FF) (p : Nat) : FF := dropF (doB f (wO f p) (mO f p) (f (133 + 6 * p + 4)) (chg (f (13 + 6 * wO f p + 1)) (f (49 + 14 * mO f p + 0)) (f (49 + 14 * mO f p + 1)) (f 3) (f (133 + 6 * p + 4)))) p (sn f - 1)
def puF (f : FF) (p : Nat) : FF := poF f p (po f (f (133 + 6 * p + 2)) (f (133 + 6 * p + 4)) 1 30)
def stp (f : FF) (p : Nat) : FF × Nat := if f (133 + 6 * p + 3) ≠ f 3 then (f, p + 1) else if canI f (mO f p) (f (133 + 6 * p + 4)) = 0 then (puF f p, p + 1) else (doF f p, p)
def dayG : Nat → FF → Nat → FF
  | 0, f, _ => f
  | n + 1, f, p => dayG n (stp f p).1 (stp f p).2
def dayF (f : FF) : FF := dayG (sn f) (up f 3 (f 3 + 1)) 0
theorem wO_eq {c q p : Nat} {f : FF} (hf : Wf c q f) (hp : p < sn f) : wO f p < 6 ∧ f (133 + 6 * p + 1) = nI (wO f p) := by
  obtain ⟨⟨w, h1, h2⟩, -⟩ := hf.wb hp
  have : wO f p = w := by unfold wO; rw [h2, nI_clamp (by omega)]
  rw [this]
  exact ⟨h1, h2⟩
theorem mO_eq {c q p : Nat} {f : FF} (hf : Wf c q f) (hp : p < sn f) : mO f p < mn f ∧ f (133 + 6 * p + 2) = nI (mO f p) := by
  obtain ⟨-, ⟨m, h1, h2⟩, -⟩ := hf.wb hp
  have h6 := hf.m6
  have : mO f p = m := by unfold mO; rw [h2, nI_clamp (by omega)]
  rw [this]
  exact ⟨h1, h2⟩
theorem Wf_stp {c p : Nat} {f : FF} (hf : Wf c p f) (hp : p < sn f) : Wf c (stp f p).2 (stp f p).1 ∧ sn (stp f p).1 - (stp f p).2 + 1 = sn f - p ∧ (stp f p).2 ≤ sn (stp f p).1 := by
  have h30 := hf.s30
  unfold stp
  split
  · rename_i h1
    exact ⟨Wf_skip hf hp h1, by simp only []; omega, hp⟩
  · rename_i h1
    have h1 := Decidable.not_not.mp h1
    split
    · obtain ⟨m1, m2⟩ := mO_eq hf hp
      obtain ⟨g1, g2, -⟩ := po_ok (m := f (133 + 6 * p + 2)) hf hp h1
      have e6 : sn (puF f p) = sn f := by unfold sn puF; rw [poF_ne (by decide) (by omega) (by omega)]
      exact ⟨Wf_po hf hp g1 g2, by simp only [e6]; omega, by simp only [e6]; omega⟩
    · rename_i hc
      obtain ⟨w1, w2⟩ := wO_eq hf hp
      obtain ⟨m1, m2⟩ := mO_eq hf hp
      obtain ⟨-, -, -, ⟨h, k1, k2, k3⟩⟩ := hf.wb hp
      rw [k3] at hc
      have e6 : sn (doF f p) = sn f - 1 := sn_eq (n := sn f - 1) (by unfold doF; exact if_pos rfl) (by omega)
      refine ⟨?_, by simp only [e6]; omega, by simp only [e6]; omega⟩
      show Wf c p (doF f p)
      unfold doF
      rw [k3]
      exact Wf_do hf hp (by omega) w1 m1 k1 k2 hc
theorem Wf_dayG {c : Nat} : ∀ {n p : Nat} {f : FF}, Wf c p f → sn f - p = n → p ≤ sn f → Wf c 30 (dayG n f p)
  | 0, p, f, hf, h1, h2 => by
    show Wf c 30 f
    exact Wf_end hf (by omega)
  | n + 1, p, f, hf, h1, h2 => by
    obtain ⟨g1, g2, g3⟩ := Wf_stp hf (p := p) (by omega)
    show Wf c 30 (dayG n (stp f p).1 (stp f p).2)
    exact Wf_dayG g1 (by omega) g3
theorem Wf_dayF {c : Nat} {f : FF} (h : Wf c 30 f) (hc : c + 1 ≤ 40000) : Wf (c + 1) 30 (dayF f) := by
  have e6 : sn (up f 3 (f 3 + 1)) = sn f := by unfold sn; rw [up_ne _ _ (by decide)]
  exact Wf_dayG (Wf_day h hc) (by rw [e6]; rfl) (Nat.zero_le _)
/-- a state whose bookings are for later days goes a step -/
theorem stp_later {f : FF} {p : Nat} (h : f (133 + 6 * p + 3) ≠ f 3) : stp f p = (f, p + 1) := if_pos h
theorem stp_off {f : FF} {p : Nat} (h : f (133 + 6 * p + 3) = f 3) (hc : canI f (mO f p) (f (133 + 6 * p + 4)) = 0) : stp f p = (puF f p, p + 1) := by
  unfold stp
  rw [if_neg (fun z => z h), if_pos hc]
theorem stp_do {f : FF} {p : Nat} (h : f (133 + 6 * p + 3) = f 3) (hc : ¬ canI f (mO f p) (f (133 + 6 * p + 4)) = 0) : stp f p = (doF f p, p) := by
  unfold stp
  rw [if_neg (fun z => z h), if_neg hc]
