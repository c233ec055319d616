/-! the history -/
theorem kk157 : kk 369 157 2 := ⟨by decide, by decide⟩
theorem kk158 : kk 369 158 13 := ⟨by decide, by decide⟩
theorem ln158 : ln 158 = 4 := by decide
def hSt (s : Nat) : Prop := s = 159 ∨ s = 211 ∨ s = 263 ∨ s = 315
theorem hSt.is {s : Nat} (h : hSt s) : isSt s := by
  rcases h with rfl | rfl | rfl | rfl
  · exact Or.inr (Or.inr (Or.inr (Or.inl rfl)))
  · exact Or.inr (Or.inr (Or.inr (Or.inr (Or.inl rfl))))
  · exact Or.inr (Or.inr (Or.inr (Or.inr (Or.inr (Or.inl rfl)))))
  · exact Or.inr (Or.inr (Or.inr (Or.inr (Or.inr (Or.inr rfl)))))
theorem hSt.lo {s : Nat} (h : hSt s) : 159 ≤ s ∧ s + 52 ≤ 367 := by
  rcases h with rfl | rfl | rfl | rfl <;> decide
def PH (P : PP) : Prop := P 157 0 = 158 ∧ (∀ i, i < 4 → hSt (P 158 i)) ∧ (∀ i j, i < 4 → j < 4 → P 158 i = P 158 j → i = j) ∧ ∀ s, hSt s → PS P s
theorem PH.r {P : PP} (h : PH P) : rr P 157 0 158 := ⟨h.1, by decide⟩
theorem PH.e {P : PP} (h : PH P) {i : Nat} (hi : i < 4) : rr P 158 i (P 158 i) := ⟨rfl, by have := (h.2.1 i hi).lo; omega⟩
theorem PH.k {P : PP} (h : PH P) {i : Nat} (hi : i < 4) : kk 369 (P 158 i) 4 := kk_s0 (h.2.1 i hi).is
def HR (M : MM) (P : PP) (z : Nat) (hf : Nat → FF) : Prop := M 157 1 = nI z ∧ ∀ j, j < z → Rp M P (P 158 j) (hf j)
theorem PH_rot {P P1 : PP} (h : PH P) (h1 : ∀ j, j < 4 → P1 158 j = P 158 (rot 0 4 j)) (h2 : ∀ a, a ≠ 158 → P1 a = P a) : PH P1 := by
  have hr : ∀ j, j < 4 → rot 0 4 j < 4 := fun j hj => by unfold rot; split <;> (try split) <;> (try split) <;> omega
  refine ⟨by rw [h2 157 (by decide)]; exact h.1, fun i hi => by rw [h1 i hi]; exact h.2.1 _ (hr i hi), fun i j hi hj e => ?_, fun s hs => PS_fr (h.2.2.2 s hs) (fun a ha _ => h2 a (by have := hs.lo; omega))⟩
  rw [h1 i hi, h1 j hj] at e
  exact rot_inj (by decide) (h.2.2.1 _ _ (hr i hi) (hr j hj) e)
theorem Rp_P {M : MM} {P P1 : PP} {s : Nat} {f : FF} (hr : Rp M P s f) (h : P1 (s + 21) = P (s + 21)) : Rp M P1 s f := by
  obtain ⟨h1, h2, h3, h4⟩ := hr
  exact ⟨h1, h2, h3, fun i g1 g2 k hk => by rw [h]; exact h4 i g1 g2 k hk⟩

set_option maxRecDepth 100000 in
set_option maxHeartbeats 1000000 in
theorem c_stateAt {l : Launch} {D : va_G} {cy : Nat → ClassId} {B : Nat} {M : MM} {P : PP} (hh : PH P) {x : Int32} {i : Nat} (hx : x = nI i) (hi : i < 4) : KQ l D cy B yX2_stateAt wsX2_stateAt 0 0 [Value.ref (B + 157), Value.int x] M P (qi (some (P 158 i)) M P) := by
  refine met_KQ (cc := cX2_stateAt) (maxL := 2) (ret := (some (.object "MachineRing$State"))) (lv := [some (Value.ref (B + 157)), some (Value.int x)]) (by decide) rfl rfl rfl (Nat.le_of_ble_eq_true rfl) ?_
  intro X C F
  refine g_iload_1 (pc := 0) C dX2_stateAt_0 ?_
  refine g_if_lt (pc := 1) (tgt := 22) C dX2_stateAt_1 (by decide) (fun c1 => ?_) (fun c1 => ?_)
  · exact absurd c1 (by rw [hx]; exact nI_pos (by omega))
  · refine g_iload_1 (pc := 4) C dX2_stateAt_4 ?_
    refine g_aload_0 (pc := 5) C dX2_stateAt_5 ?_
    refine g_getr (pc := 6) C hh.r fl_X2_stateAt_11 kk157 dX2_stateAt_6 ?_
    refine g_alen (pc := 9) C kk158 ln158 rfl dX2_stateAt_9 ?_
    refine g_icmp_ge (pc := 10) (tgt := 22) C dX2_stateAt_10 (by decide) (fun c10 => ?_) (fun c10 => ?_)
    · exact absurd c10 (by rw [hx]; exact nI_ge hi (by decide))
    · refine g_aload_0 (pc := 13) C dX2_stateAt_13 ?_
      refine g_getr (pc := 14) C hh.r fl_X2_stateAt_11 kk157 dX2_stateAt_14 ?_
      refine g_iload_1 (pc := 17) C dX2_stateAt_17 ?_
      refine g_aald (pc := 18) C kk158 rfl hx ln158 hi (hh.e hi) dX2_stateAt_18 ?_
      refine g_goto (pc := 19) (tgt := 23) C dX2_stateAt_19 (by decide) ?_
      exact g_aret (post := qi (some (P 158 i)) M P) C F dX2_stateAt_23 ⟨rfl, rfl, rfl⟩

set_option maxRecDepth 100000 in
set_option maxHeartbeats 1000000 in
theorem c_stateAtN {l : Launch} {D : va_G} {cy : Nat → ClassId} {B : Nat} {M : MM} {P : PP} (hh : PH P) {x : Int32} (hx : ∀ i, i < 4 → x ≠ nI i) : KQ l D cy B yX2_stateAt wsX2_stateAt 0 0 [Value.ref (B + 157), Value.int x] M P (qi none M P) := by
  refine met_KQ (cc := cX2_stateAt) (maxL := 2) (ret := (some (.object "MachineRing$State"))) (lv := [some (Value.ref (B + 157)), some (Value.int x)]) (by decide) rfl rfl rfl (Nat.le_of_ble_eq_true rfl) ?_
  intro X C F
  refine g_iload_1 (pc := 0) C dX2_stateAt_0 ?_
  refine g_if_lt (pc := 1) (tgt := 22) C dX2_stateAt_1 (by decide) (fun c1 => ?_) (fun c1 => ?_)
  · refine g_null (pc := 22) C dX2_stateAt_22 ?_
    exact g_nret (post := qi none M P) C F dX2_stateAt_23 ⟨rfl, rfl, rfl⟩
  · refine g_iload_1 (pc := 4) C dX2_stateAt_4 ?_
    refine g_aload_0 (pc := 5) C dX2_stateAt_5 ?_
    refine g_getr (pc := 6) C hh.r fl_X2_stateAt_11 kk157 dX2_stateAt_6 ?_
    refine g_alen (pc := 9) C kk158 ln158 rfl dX2_stateAt_9 ?_
    refine g_icmp_ge (pc := 10) (tgt := 22) C dX2_stateAt_10 (by decide) (fun c10 => ?_) (fun c10 => ?_)
    · refine g_null (pc := 22) C dX2_stateAt_22 ?_
      exact g_nret (post := qi none M P) C F dX2_stateAt_23 ⟨rfl, rfl, rfl⟩
    · obtain ⟨i, hi, e⟩ := i_nat (N := 4) (by decide) c1 c10
      exact absurd e (hx i hi)

set_option maxRecDepth 100000 in
set_option maxHeartbeats 1000000 in
theorem c_dropOldest {l : Launch} {D : va_G} {cy : Nat → ClassId} {B : Nat} {M : MM} {P : PP} (hh : PH P) : KV l D cy B yX2_dropOldest wsX2_dropOldest 0 0 [Value.ref (B + 157)] M P (fun M1 P1 => M1 = up M 157 (up (M 157) 1 (M 157 1 - 1)) ∧ (∀ j, j < 4 → P1 158 j = P 158 (rot 0 4 j)) ∧ ∀ a, a ≠ 158 → P1 a = P a) := by
  refine met_KV (cc := cX2_dropOldest) (maxL := 3) (ret := none) (lv := [some (Value.ref (B + 157)), none, none]) (by decide) rfl rfl rfl (Nat.le_of_ble_eq_true rfl) ?_
  intro X C F
  refine g_iconst (pc := 0) (v := 1) C dX2_dropOldest_0 rfl ?_
  refine g_istore_1 (pc := 1) C dX2_dropOldest_1 ?_
  refine ind_m (fun (k : Nat) => 4 - k) (p := fun (k : Nat) => ∀ P2 : PP, 1 ≤ k → k ≤ 4 → (∀ j, j < 4 → P2 158 j = P 158 (rot 0 k j)) → (∀ a, a ≠ 158 → P2 a = P a) → G X D cy B 0 0 369 M P2 2 [some (Value.ref (B + 157)), some (Value.int (nI k)), none] []) ?_ 1 P (Nat.le_refl _) (by decide) (fun j hj => by rw [rot_0]) (fun _ _ => rfl)
  intro k ih P2 hk1 hk2 i1 i2
  have r2 : rr P2 157 0 158 := ⟨by rw [i2 157 (by decide)]; exact hh.1, by decide⟩
  refine g_iload_1 (pc := 2) C dX2_dropOldest_2 ?_
  refine g_aload_0 (pc := 3) C dX2_dropOldest_3 ?_
  refine g_getr (pc := 4) C r2 fl_X2_dropOldest_11 kk157 dX2_dropOldest_4 ?_
  refine g_alen (pc := 7) C kk158 ln158 rfl dX2_dropOldest_7 ?_
  refine g_icmp_ge (pc := 8) (tgt := 47) C dX2_dropOldest_8 (by decide) (fun c8 => ?_) (fun c8 => ?_)
  · have e : 4 ≤ k := i_le (a := 4) (by omega) (by omega) c8
    have e1 : k = 4 := by omega
    subst e1
    refine g_aload_0 (pc := 47) C dX2_dropOldest_47 ?_
    refine g_dup (pc := 48) C dX2_dropOldest_48 rfl ?_
    refine g_geti (pc := 49) C fl_X2_dropOldest_18 kk157 dX2_dropOldest_49 ?_
    refine g_iconst (pc := 52) (v := 1) C dX2_dropOldest_52 rfl ?_
    refine g_isub (pc := 53) C dX2_dropOldest_53 ?_
    refine g_puti (pc := 54) C pf_X2_dropOldest_18 kk157 dX2_dropOldest_54 ?_
    exact g_vret (post := fun M1 P1 => M1 = up M 157 (up (M 157) 1 (M 157 1 - 1)) ∧ (∀ j, j < 4 → P1 158 j = P 158 (rot 0 4 j)) ∧ ∀ a, a ≠ 158 → P1 a = P a) C F dX2_dropOldest_57 ⟨rfl, i1, i2⟩
  · have hk3 : k < 4 := i_nle (a := 4) (by omega) (by omega) c8
    have g1 := i1 (k - 1) (by omega)
    rw [rot_a hk1] at g1
    have g2 := i1 k (by omega)
    rw [rot_b hk1] at g2
    have t1 := (hh.2.1 0 (by decide)).lo
    have t2 := (hh.2.1 k hk3).lo
    refine g_aload_0 (pc := 11) C dX2_dropOldest_11 ?_
    refine g_getr (pc := 12) C r2 fl_X2_dropOldest_11 kk157 dX2_dropOldest_12 ?_
    refine g_iload_1 (pc := 15) C dX2_dropOldest_15 ?_
    refine g_iconst (pc := 16) (v := 1) C dX2_dropOldest_16 rfl ?_
    refine g_isub (pc := 17) C dX2_dropOldest_17 ?_
    rw [show nI k - 1 = nI (k - 1) from pk_sub (b := 1) (by omega)]
    refine g_aald (pc := 18) C kk158 rfl rfl ln158 (by omega) ⟨g1, by omega⟩ dX2_dropOldest_18 ?_
    refine g_astore_2 (pc := 19) C dX2_dropOldest_19 ?_
    refine g_aload_0 (pc := 20) C dX2_dropOldest_20 ?_
    refine g_getr (pc := 21) C r2 fl_X2_dropOldest_11 kk157 dX2_dropOldest_21 ?_
    refine g_iload_1 (pc := 24) C dX2_dropOldest_24 ?_
    refine g_iconst (pc := 25) (v := 1) C dX2_dropOldest_25 rfl ?_
    refine g_isub (pc := 26) C dX2_dropOldest_26 ?_
    rw [show nI k - 1 = nI (k - 1) from pk_sub (b := 1) (by omega)]
    refine g_aload_0 (pc := 27) C dX2_dropOldest_27 ?_
    refine g_getr (pc := 28) C r2 fl_X2_dropOldest_11 kk157 dX2_dropOldest_28 ?_
    refine g_iload_1 (pc := 31) C dX2_dropOldest_31 ?_
    refine g_aald (pc := 32) C kk158 rfl rfl ln158 (by omega) ⟨g2, by omega⟩ dX2_dropOldest_32 ?_
    refine g_aast (pc := 33) C kk158 (hh.k hk3) (Or.inr (Or.inr (Or.inr ⟨rfl, rfl⟩))) (by omega) rfl ln158 (by omega) dX2_dropOldest_33 ?_
    refine g_aload_0 (pc := 34) C dX2_dropOldest_34 ?_
    refine g_getr (pc := 35) C ⟨by rw [up_ne _ _ (by decide)]; exact r2.1, r2.2⟩ fl_X2_dropOldest_11 kk157 dX2_dropOldest_35 ?_
    refine g_iload_1 (pc := 38) C dX2_dropOldest_38 ?_
    refine g_aload_2 (pc := 39) C dX2_dropOldest_39 ?_
    refine g_aast (pc := 40) C kk158 (hh.k (i := 0) (by decide)) (Or.inr (Or.inr (Or.inr ⟨rfl, rfl⟩))) (by omega) rfl ln158 (by omega) dX2_dropOldest_40 ?_
    refine g_iinc_1 (pc := 41) (v := nI (k + 1)) C dX2_dropOldest_41 (nI_1 k) ?_
    refine g_goto (pc := 44) (tgt := 2) C dX2_dropOldest_44 (by decide) ?_
    refine g_kill_2 ?_
    refine ih (k + 1) (by omega) _ (by omega) (by omega) (fun j hj => ?_) (fun a ha => by rw [up_ne _ _ ha, up_ne _ _ ha]; exact i2 a ha)
    rw [up_same, up_same]
    by_cases e1 : j = k
    · rw [e1, up_same, rot_s2 hk1]
    · rw [up_ne _ _ e1]
      by_cases e2 : j = k - 1
      · rw [e2, up_same, rot_s1 hk1]
      · rw [up_ne _ _ e2, rot_s hk1 e2 e1]; exact i1 j hj

def pshZ (z : Nat) : Nat := if z = 4 then 4 else z + 1
def pshH (z : Nat) (hf : Nat → FF) (f : FF) : Nat → FF := if z = 4 then (fun j => if j = 3 then f else hf (j + 1)) else (fun j => if j = z then f else hf j)
theorem HR_push {M M1 : MM} {P : PP} {z : Nat} {hf : Nat → FF} {f : FF} (hh : PH P) (hz : z < 4) (hr : ∀ j, j < z → Rp M P (P 158 j) (hf j)) (h1 : M1 157 1 = nI (z + 1)) (h2 : Rp M1 P (P 158 z) f) (ha : ∀ a, a ≠ 157 → a < P 158 z ∨ P 158 z + 52 ≤ a → M1 a = M a) : HR M1 P (z + 1) (fun j => if j = z then f else hf j) := by
  refine ⟨h1, fun j hj => ?_⟩
  show Rp M1 P (P 158 j) (if j = z then f else hf j)
  by_cases e : j = z
  · rw [if_pos e, e]
    exact h2
  · rw [if_neg e]
    have hi := hh.2.1 j (by omega)
    have h3 := hi.lo
    have h4 := st_apart hi.is (hh.2.1 z hz).is (fun h => e (hh.2.2.1 j z (by omega) hz h))
    exact Rp_fr (hh.2.2.2 _ hi) (hr j (by omega)) (fun a g1 g2 => ha a (by omega) (by omega))

set_option maxRecDepth 100000 in
set_option maxHeartbeats 1000000 in
theorem c_pushA {l : Launch} {D : va_G} {cy : Nat → ClassId} {B : Nat} {M : MM} {P : PP} {t c q z : Nat} {f : FF} {hf : Nat → FF} (ht : isSt t) (ht2 : t < 157) (hp : PS P t) (hr : Rp M P t f) (hw : Wf c q f) (hh : PH P) (hz : z < 4) (hR : HR M P z hf) : KV l D cy B yX2_push wsX2_push 3 67 [Value.ref (B + 157), Value.ref (B + t)] M P (fun M1 P1 => PH P1 ∧ HR M1 P1 (pshZ z) (pshH z hf f) ∧ (∀ a, a < 157 ∨ 367 ≤ a → M1 a = M a) ∧ ∀ a, a ≠ 158 → P1 a = P a) := by
  refine met_KV (cc := cX2_push) (maxL := 3) (ret := none) (lv := [some (Value.ref (B + 157)), some (Value.ref (B + t)), none]) (by decide) rfl rfl rfl (Nat.le_of_ble_eq_true rfl) ?_
  intro X C F
  have tl := (hh.2.1 z hz).lo
  refine g_aload_0 (pc := 0) C dX2_push_0 ?_
  refine g_geti (pc := 1) C fl_X2_push_18 kk157 dX2_push_1 ?_
  rw [hR.1]
  refine g_aload_0 (pc := 4) C dX2_push_4 ?_
  refine g_getr (pc := 5) C hh.r fl_X2_push_11 kk157 dX2_push_5 ?_
  refine g_alen (pc := 8) C kk158 ln158 rfl dX2_push_8 ?_
  refine g_icmp_lt (pc := 9) (tgt := 16) C dX2_push_9 (by decide) (fun c9 => ?_) (fun c9 => ?_)
  · refine g_aload_0 (pc := 16) C dX2_push_16 ?_
    refine g_aload_0 (pc := 17) C dX2_push_17 ?_
    refine g_geti (pc := 18) C fl_X2_push_18 kk157 dX2_push_18 ?_
    rw [hR.1]
    refine g_V1qs (pc := 21) C e_X2_push_25 (Nat.le_of_ble_eq_true rfl) rfl dX2_push_21 kk157 (c_stateAt hh (i := z) rfl hz) ?_
    refine g_astore_2 (pc := 24) C dX2_push_24 ?_
    refine g_aload_2 (pc := 25) C dX2_push_25 ?_
    refine g_ifnull (pc := 26) C dX2_push_26 ?_
    refine g_aload_2 (pc := 29) C dX2_push_29 ?_
    refine g_aload_1 (pc := 30) C dX2_push_30 ?_
    refine g_V1v (pc := 31) C e_X2_push_29 (Nat.le_of_ble_eq_true rfl) rfl dX2_push_31 (hh.k hz) (c_copyState (hh.2.1 z hz).is ht (by omega) (hh.2.2.2 _ (hh.2.1 z hz)) hp hr hw) (fun M1 P1 hq => ?_)
    obtain ⟨hP1, q1, q2⟩ := hq
    subst P1
    refine g_aload_0 (pc := 34) C dX2_push_34 ?_
    refine g_dup (pc := 35) C dX2_push_35 rfl ?_
    refine g_geti (pc := 36) C fl_X2_push_18 kk157 dX2_push_36 ?_
    rw [q2 157 (by omega), hR.1]
    refine g_iconst (pc := 39) (v := 1) C dX2_push_39 rfl ?_
    refine g_iadd (pc := 40) C dX2_push_40 ?_
    rw [nI_1]
    refine g_puti (pc := 41) C pf_X2_push_18 kk157 dX2_push_41 ?_
    exact g_vret (post := fun M1 P1 => PH P1 ∧ HR M1 P1 (pshZ z) (pshH z hf f) ∧ (∀ a, a < 157 ∨ 367 ≤ a → M1 a = M a) ∧ ∀ a, a ≠ 158 → P1 a = P a) C F dX2_push_44 ⟨hh, by rw [show pshZ z = z + 1 from if_neg (by omega), show pshH z hf f = (fun j => if j = z then f else hf j) from if_neg (by omega)]; exact HR_push hh hz hR.2 (by rw [up_same, up_same]) (Rp_fr (hh.2.2.2 _ (hh.2.1 z hz)) q1 (fun a g1 g2 => up_ne _ _ (by omega))) (fun a g1 g2 => by rw [up_ne _ _ g1]; exact q2 a g2), fun a ha => by rw [up_ne _ _ (by omega)]; exact q2 a (by omega), fun _ _ => rfl⟩
  · exact absurd (nI_lt hz (by decide)) c9

set_option maxRecDepth 100000 in
set_option maxHeartbeats 1000000 in
theorem c_pushB {l : Launch} {D : va_G} {cy : Nat → ClassId} {B : Nat} {M : MM} {P : PP} {t c q : Nat} {f : FF} {hf : Nat → FF} (ht : isSt t) (ht2 : t < 157) (hp : PS P t) (hr : Rp M P t f) (hw : Wf c q f) (hh : PH P) (hR : HR M P 4 hf) : KV l D cy B yX2_push wsX2_push 3 67 [Value.ref (B + 157), Value.ref (B + t)] M P (fun M1 P1 => PH P1 ∧ HR M1 P1 (pshZ 4) (pshH 4 hf f) ∧ (∀ a, a < 157 ∨ 367 ≤ a → M1 a = M a) ∧ ∀ a, a ≠ 158 → P1 a = P a) := by
  refine met_KV (cc := cX2_push) (maxL := 3) (ret := none) (lv := [some (Value.ref (B + 157)), some (Value.ref (B + t)), none]) (by decide) rfl rfl rfl (Nat.le_of_ble_eq_true rfl) ?_
  intro X C F
  refine g_aload_0 (pc := 0) C dX2_push_0 ?_
  refine g_geti (pc := 1) C fl_X2_push_18 kk157 dX2_push_1 ?_
  rw [hR.1]
  refine g_aload_0 (pc := 4) C dX2_push_4 ?_
  refine g_getr (pc := 5) C hh.r fl_X2_push_11 kk157 dX2_push_5 ?_
  refine g_alen (pc := 8) C kk158 ln158 rfl dX2_push_8 ?_
  refine g_icmp_lt (pc := 9) (tgt := 16) C dX2_push_9 (by decide) (fun c9 => ?_) (fun c9 => ?_)
  · exact absurd c9 (by decide)
  · refine g_aload_0 (pc := 12) C dX2_push_12 ?_
    refine g_V0v (pc := 13) C e_X2_push_22 (Nat.le_of_ble_eq_true rfl) rfl dX2_push_13 kk157 (c_dropOldest hh) (fun M0 P0 hq0 => ?_)
    obtain ⟨hM0, p1, p2⟩ := hq0
    have hh0 := PH_rot hh p1 p2
    have z0 : M0 157 1 = nI 3 := by rw [hM0, up_same, up_same, hR.1]; rfl
    have z1 : ∀ a, a ≠ 157 → M0 a = M a := fun a ha => by rw [hM0, up_ne _ _ ha]
    have hR0 : ∀ j, j < 3 → Rp M0 P0 (P0 158 j) (hf (j + 1)) := fun j hj => by
      have e : P0 158 j = P 158 (j + 1) := by rw [p1 j (by omega)]; congr 1; unfold rot; rw [if_neg (by omega), if_pos (by omega)]
      have hi := hh.2.1 (j + 1) (by omega)
      have hl := hi.lo
      rw [e]
      exact Rp_P (Rp_fr (hh.2.2.2 _ hi) (hR.2 (j + 1) (by omega)) (fun a g1 g2 => z1 a (by omega))) (p2 _ (by omega))
    clear hM0
    have tl := (hh0.2.1 3 (by decide)).lo
    have hp0 : PS P0 t := PS_fr hp (fun a g1 g2 => p2 a (by have := st_pos ht; rcases ht with h | h | h | h | h | h | h <;> omega))
    have hr0 : Rp M0 P0 t f := Rp_P (Rp_fr hp hr (fun a g1 g2 => z1 a (by rcases ht with h | h | h | h | h | h | h <;> omega))) (p2 _ (by rcases ht with h | h | h | h | h | h | h <;> omega))
    refine g_aload_0 (pc := 16) C dX2_push_16 ?_
    refine g_aload_0 (pc := 17) C dX2_push_17 ?_
    refine g_geti (pc := 18) C fl_X2_push_18 kk157 dX2_push_18 ?_
    rw [z0]
    refine g_V1qs (pc := 21) C e_X2_push_25 (Nat.le_of_ble_eq_true rfl) rfl dX2_push_21 kk157 (c_stateAt hh0 (i := 3) rfl (by decide)) ?_
    refine g_astore_2 (pc := 24) C dX2_push_24 ?_
    refine g_aload_2 (pc := 25) C dX2_push_25 ?_
    refine g_ifnull (pc := 26) C dX2_push_26 ?_
    refine g_aload_2 (pc := 29) C dX2_push_29 ?_
    refine g_aload_1 (pc := 30) C dX2_push_30 ?_
    refine g_V1v (pc := 31) C e_X2_push_29 (Nat.le_of_ble_eq_true rfl) rfl dX2_push_31 (hh0.k (by decide)) (c_copyState (hh0.2.1 3 (by decide)).is ht (by omega) (hh0.2.2.2 _ (hh0.2.1 3 (by decide))) hp0 hr0 hw) (fun M1 P1 hq => ?_)
    obtain ⟨hP1, q1, q2⟩ := hq
    subst P1
    refine g_aload_0 (pc := 34) C dX2_push_34 ?_
    refine g_dup (pc := 35) C dX2_push_35 rfl ?_
    refine g_geti (pc := 36) C fl_X2_push_18 kk157 dX2_push_36 ?_
    rw [q2 157 (by omega), z0]
    refine g_iconst (pc := 39) (v := 1) C dX2_push_39 rfl ?_
    refine g_iadd (pc := 40) C dX2_push_40 ?_
    rw [nI_1]
    refine g_puti (pc := 41) C pf_X2_push_18 kk157 dX2_push_41 ?_
    exact g_vret (post := fun M1 P1 => PH P1 ∧ HR M1 P1 (pshZ 4) (pshH 4 hf f) ∧ (∀ a, a < 157 ∨ 367 ≤ a → M1 a = M a) ∧ ∀ a, a ≠ 158 → P1 a = P a) C F dX2_push_44 ⟨hh0, by rw [show pshZ 4 = 3 + 1 from rfl, show pshH 4 hf f = (fun j => if j = 3 then f else hf (j + 1)) from if_pos rfl]; exact HR_push (hf := fun j => hf (j + 1)) hh0 (by decide) hR0 (by rw [up_same, up_same]) (Rp_fr (hh0.2.2.2 _ (hh0.2.1 3 (by decide))) q1 (fun a g1 g2 => up_ne _ _ (by omega))) (fun a g1 g2 => by rw [up_ne _ _ g1]; exact q2 a g2), fun a ha => by rw [up_ne _ _ (by omega), q2 a (by omega)]; exact z1 a (by omega), p2⟩

theorem c_push {l : Launch} {D : va_G} {cy : Nat → ClassId} {B : Nat} {M : MM} {P : PP} {t c q z : Nat} {f : FF} {hf : Nat → FF} (ht : isSt t) (ht2 : t < 157) (hp : PS P t) (hr : Rp M P t f) (hw : Wf c q f) (hh : PH P) (hz : z ≤ 4) (hR : HR M P z hf) : KV l D cy B yX2_push wsX2_push 3 67 [Value.ref (B + 157), Value.ref (B + t)] M P (fun M1 P1 => PH P1 ∧ HR M1 P1 (pshZ z) (pshH z hf f) ∧ (∀ a, a < 157 ∨ 367 ≤ a → M1 a = M a) ∧ ∀ a, a ≠ 158 → P1 a = P a) := by
  by_cases e : z = 4
  · subst e
    exact c_pushB ht ht2 hp hr hw hh hR
  · exact c_pushA ht ht2 hp hr hw hh (by omega) hR

set_option maxRecDepth 100000 in
set_option maxHeartbeats 1000000 in
theorem c_takeLatest {l : Launch} {D : va_G} {cy : Nat → ClassId} {B : Nat} {M : MM} {P : PP} (hh : PH P) {z : Nat} (hz : z + 1 ≤ 4) (h1 : M 157 1 = nI (z + 1)) : KQ l D cy B yX2_takeLatest wsX2_takeLatest 1 21 [Value.ref (B + 157)] M P (qi (some (P 158 z)) (up M 157 (up (M 157) 1 (nI z))) P) := by
  refine met_KQ (cc := cX2_takeLatest) (maxL := 2) (ret := (some (.object "MachineRing$State"))) (lv := [some (Value.ref (B + 157)), none]) (by decide) rfl rfl rfl (Nat.le_of_ble_eq_true rfl) ?_
  intro X C F
  refine g_aload_0 (pc := 0) C dX2_takeLatest_0 ?_
  refine g_aload_0 (pc := 1) C dX2_takeLatest_1 ?_
  refine g_geti (pc := 2) C fl_X2_takeLatest_18 kk157 dX2_takeLatest_2 ?_
  rw [h1]
  refine g_iconst (pc := 5) (v := 1) C dX2_takeLatest_5 rfl ?_
  refine g_isub (pc := 6) C dX2_takeLatest_6 ?_
  rw [nI_pred]
  refine g_V1qs (pc := 7) C e_X2_takeLatest_25 (Nat.le_of_ble_eq_true rfl) rfl dX2_takeLatest_7 kk157 (c_stateAt hh (i := z) rfl (by omega)) ?_
  refine g_astore_1 (pc := 10) C dX2_takeLatest_10 ?_
  refine g_aload_1 (pc := 11) C dX2_takeLatest_11 ?_
  refine g_ifnull (pc := 12) C dX2_takeLatest_12 ?_
  refine g_aload_0 (pc := 15) C dX2_takeLatest_15 ?_
  refine g_dup (pc := 16) C dX2_takeLatest_16 rfl ?_
  refine g_geti (pc := 17) C fl_X2_takeLatest_18 kk157 dX2_takeLatest_17 ?_
  rw [h1]
  refine g_iconst (pc := 20) (v := 1) C dX2_takeLatest_20 rfl ?_
  refine g_isub (pc := 21) C dX2_takeLatest_21 ?_
  rw [nI_pred]
  refine g_puti (pc := 22) C pf_X2_takeLatest_18 kk157 dX2_takeLatest_22 ?_
  refine g_aload_1 (pc := 25) C dX2_takeLatest_25 ?_
  exact g_aret (post := qi (some (P 158 z)) (up M 157 (up (M 157) 1 (nI z))) P) C F dX2_takeLatest_26 ⟨rfl, rfl, rfl⟩

set_option maxRecDepth 100000 in
set_option maxHeartbeats 1000000 in
theorem c_takeLatestN {l : Launch} {D : va_G} {cy : Nat → ClassId} {B : Nat} {M : MM} {P : PP} (hh : PH P) (h1 : M 157 1 = 0) : KQ l D cy B yX2_takeLatest wsX2_takeLatest 1 21 [Value.ref (B + 157)] M P (qi none M P) := by
  refine met_KQ (cc := cX2_takeLatest) (maxL := 2) (ret := (some (.object "MachineRing$State"))) (lv := [some (Value.ref (B + 157)), none]) (by decide) rfl rfl rfl (Nat.le_of_ble_eq_true rfl) ?_
  intro X C F
  refine g_aload_0 (pc := 0) C dX2_takeLatest_0 ?_
  refine g_aload_0 (pc := 1) C dX2_takeLatest_1 ?_
  refine g_geti (pc := 2) C fl_X2_takeLatest_18 kk157 dX2_takeLatest_2 ?_
  rw [h1]
  refine g_iconst (pc := 5) (v := 1) C dX2_takeLatest_5 rfl ?_
  refine g_isub (pc := 6) C dX2_takeLatest_6 ?_
  refine g_V1qn (pc := 7) C e_X2_takeLatest_25 (Nat.le_of_ble_eq_true rfl) rfl dX2_takeLatest_7 kk157 (c_stateAtN hh (fun i hi e => by rcases (show i = 0 ∨ i = 1 ∨ i = 2 ∨ i = 3 by omega) with rfl | rfl | rfl | rfl <;> exact absurd e (by decide))) ?_
  refine g_astoreZ_1 (pc := 10) C dX2_takeLatest_10 ?_
  refine g_aloadZ_1 (pc := 11) C dX2_takeLatest_11 ?_
  refine g_ifnullN (pc := 12) (tgt := 25) C dX2_takeLatest_12 (by decide) ?_
  refine g_aloadZ_1 (pc := 25) C dX2_takeLatest_25 ?_
  exact g_nret (post := qi none M P) C F dX2_takeLatest_26 ⟨rfl, rfl, rfl⟩
