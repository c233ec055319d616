theorem c7_num {l : Launch} {D : va_G} {cy : Nat → ClassId} {B : Nat} {M : MM} {P : PP} {t : FF} {len p : Nat} (hm : PMd P) (h1 : M 369 8 = nI len) (h2 : M 369 9 = nI p) (hl : len ≤ 60) (hp : p ≤ len) (ht : ∀ i, i < len → M 374 i = t i) {mm : Nat} (hm9 : mm ≤ 99) (hc : CH t len) (hb : M 369 10 = 1) : KI l D cy B yX7_number wsX7_number 1 22 [Value.ref (B + 369), Value.int (nI mm)] M P (fun r M1 P1 => P1 = P ∧ M1 = up M 369 (up (up (M 369) 10 (if pNum t len p (nI mm) = none then 0 else 1)) 9 (nI (pnQ t len p (nI mm)))) ∧ (pNum t len p (nI mm) ≠ none → r = pnV t len p (nI mm))) := by
  have e1 : (1 ≤ sg t len p - 48 ∧ sg t len p - 48 ≤ 9) ↔ (49 ≤ sm0 t len p ∧ sm0 t len p ≤ 57) := ⟨fun h => ((sg_sm (a := 1) (b := 9) hc (by decide)).mp ⟨h, by decide⟩).1, fun h => ((sg_sm (a := 1) (b := 9) hc (by decide)).mpr ⟨h, by decide⟩).1⟩
  by_cases hx : 1 ≤ sg t len p - 48 ∧ sg t len p - 48 ≤ 9
  · have hpl := sg_lt (d_pos hx.1)
    obtain ⟨n, hn, en⟩ := hc p hpl
    have eg : sg t len p = nI n := by rw [sg_at hpl, en]
    have em : sm0 t len p = nI n := by rw [sm_at hpl, en]
    have hr := e1.mp hx
    rw [em] at hr
    have k1 := i_le (a := 49) (by decide) (by omega) hr.1
    have k2 := i_le (b := 57) (by omega) (by decide) hr.2
    have ed : sg t len p - 48 = nI (n - 48) := by rw [eg]; exact pk_sub (b := 48) (by omega)
    have ed2 : sm0 t len p - 48 = nI (n - 48) := by rw [em]; exact pk_sub (b := 48) (by omega)
    have e2 := sg_two (p := p + 1) (m := mm) (d := n - 48) hc (by omega) (by omega) hm9
    rw [← ed] at e2
    by_cases hy : 0 ≤ sg t len (p + 1) - 48 ∧ sg t len (p + 1) - 48 ≤ mxF (nI mm) (sg t len p - 48)
    · have hp2 := sg_lt hy.1
      have ep : pNum t len p (nI mm) = some (10 * (sg t len p - 48) + (sg t len (p + 1) - 48), p + 2) := by rw [pNum, if_pos hx, if_pos hy]
      have ev : pnV t len p (nI mm) = 10 * (sg t len p - 48) + (sg t len (p + 1) - 48) := by unfold pnV; rw [ep]
      have eq : pnQ t len p (nI mm) = p + 2 := by unfold pnQ; rw [ep]
      rw [if_neg (by rw [ep]; exact fun z => by cases z), ev, eq]
      have h5 := e2.mp hy
      rw [ed, ← ed2] at h5
      refine ki_post (c7_num2 hm h1 h2 hl hp ht hb (e1.mp hx) (by omega) (by omega) h5) fun r M1 P1 ⟨g1, g2, g3⟩ => ⟨g3, g2, fun _ => ?_⟩
      rw [g1, ed, ed2, sg_at hp2, sm_at hp2, Int32.sub_eq_add_neg, Int32.sub_eq_add_neg, Int32.add_assoc]
    · have ep : pNum t len p (nI mm) = some (sg t len p - 48, p + 1) := by rw [pNum, if_pos hx, if_neg hy]
      have ev : pnV t len p (nI mm) = sg t len p - 48 := by unfold pnV; rw [ep]
      have eq : pnQ t len p (nI mm) = p + 1 := by unfold pnQ; rw [ep]
      rw [if_neg (by rw [ep]; exact fun z => by cases z), ev, eq]
      have h5 : ¬ ((48 ≤ sm0 t len (p + 1) ∧ sm0 t len (p + 1) ≤ 57) ∧ 10 * (sm0 t len p - 48) + sm0 t len (p + 1) - 48 ≤ nI mm) := fun z => hy (e2.mpr (by rw [ed, ← ed2]; exact z))
      exact ki_post (c7_num1 hm h1 h2 hl hp ht hb (e1.mp hx) (by omega) h5) fun r M1 P1 ⟨g1, g2, g3⟩ => ⟨g3, g2, fun _ => by rw [g1, ed, ed2]⟩
  · have ep : pNum t len p (nI mm) = none := by rw [pNum, if_neg hx]
    have eq : pnQ t len p (nI mm) = p := by unfold pnQ; rw [ep]
    rw [if_pos ep, eq]
    exact ki_post (c7_numN hm h1 h2 hl hp ht hb (fun z => hx (e1.mpr z))) fun r M1 P1 ⟨g1, g2, g3⟩ => ⟨g3, g2, fun z => absurd ep z⟩
