theorem dg_sm {t : FF} {len p : Nat} (hc : CH t len) : dg5 t len p ↔ (48 ≤ sm0 t len p ∧ sm0 t len p ≤ 53) := ⟨fun h => ((sg_sm (a := 0) (b := 5) hc (by decide)).mp ⟨h, by decide⟩).1, fun h => ((sg_sm (a := 0) (b := 5) hc (by decide)).mpr ⟨h, by decide⟩).1⟩
/-- the same, well or not -/
theorem c7_digitU {l : Launch} {D : va_G} {cy : Nat → ClassId} {B : Nat} {M : MM} {P : PP} {t : FF} {len p : Nat} (hm : PMd P) (h1 : M 369 8 = nI len) (h2 : M 369 9 = nI p) (hl : len ≤ 60) (hp : p ≤ len) (ht : ∀ i, i < len → M 374 i = t i) (hc : CH t len) {w : Prop} [Decidable w] (hb : M 369 10 = if w then 1 else 0) : KI l D cy B yX7_digit wsX7_digit 1 22 [Value.ref (B + 369)] M P (fun r M1 P1 => P1 = P ∧ M1 = up M 369 (up (up (M 369) 10 (if w ∧ dg5 t len p then 1 else 0)) 9 (nI (if w ∧ dg5 t len p then p + 1 else p))) ∧ (w ∧ dg5 t len p → r = sg t len p - 48)) := by
  by_cases hw : w
  · rw [if_pos hw] at hb
    by_cases hd : dg5 t len p
    · have hpl := sg_lt hd.1
      rw [if_pos ⟨hw, hd⟩, if_pos ⟨hw, hd⟩]
      exact ki_post (c7_digitS hm h1 h2 hl hp ht hb ((dg_sm hc).mp hd)) fun r M1 P1 ⟨g1, g2, g3⟩ => ⟨g3, g2, fun _ => by rw [g1, sg_at hpl, sm_at hpl]⟩
    · rw [if_neg (fun z => hd z.2), if_neg (fun z => hd z.2)]
      exact ki_post (c7_digitN hm h1 h2 hl hp ht hb (fun z => hd ((dg_sm hc).mpr z))) fun r M1 P1 ⟨g1, g2, g3⟩ => ⟨g3, g2, fun z => absurd z.2 hd⟩
  · rw [if_neg hw] at hb
    rw [if_neg (fun z => hw z.1), if_neg (fun z => hw z.1)]
    exact ki_post (c7_digit0 hm h1 h2 hl hp ht hb) fun r M1 P1 ⟨g1, g2, g3⟩ => ⟨g3, g2, fun z => absurd z.1 hw⟩
theorem c7_asksU {l : Launch} {D : va_G} {cy : Nat → ClassId} {B : Nat} {M : MM} {P : PP} {t : FF} {len p : Nat} (hm : PMd P) (h1 : M 369 8 = nI len) (h2 : M 369 9 = nI p) (hl : len ≤ 60) (hp : p ≤ len) (ht : ∀ i, i < len → M 374 i = t i) {x : Int32} (x0 : x ≠ 0) (x1 : x ≠ -1) {w : Prop} [Decidable w] (hb : M 369 10 = if w then 1 else 0) : KV l D cy B yX7_asks wsX7_asks 1 20 [Value.ref (B + 369), Value.int x] M P (qv (up M 369 (up (up (M 369) 10 (if w ∧ sg t len p = x then 1 else 0)) 9 (nI (if w ∧ sg t len p = x then p + 1 else p)))) P) := by
  by_cases hw : w
  · rw [if_pos hw] at hb
    by_cases hd : sg t len p = x
    · rw [if_pos ⟨hw, hd⟩, if_pos ⟨hw, hd⟩]
      exact c7_asksS hm h1 h2 hl hp ht hb ((sg_eq x0 x1).mp hd)
    · rw [if_neg (fun z => hd z.2), if_neg (fun z => hd z.2)]
      exact c7_asksN hm h1 h2 hl hp ht hb (fun z => hd ((sg_eq x0 x1).mpr z))
  · rw [if_neg hw] at hb
    rw [if_neg (fun z => hw z.1), if_neg (fun z => hw z.1)]
    exact c7_asks0 hm h1 h2 hl hp ht hb
theorem c7_numU {l : Launch} {D : va_G} {cy : Nat → ClassId} {B : Nat} {M : MM} {P : PP} {t : FF} {len p : Nat} (hm : PMd P) (h1 : M 369 8 = nI len) (h2 : M 369 9 = nI p) (hl : len ≤ 60) (hp : p ≤ len) (ht : ∀ i, i < len → M 374 i = t i) {mm : Nat} (hm9 : mm ≤ 99) (hc : CH t len) {w : Prop} [Decidable w] (hb : M 369 10 = if w then 1 else 0) : KI l D cy B yX7_number wsX7_number 1 22 [Value.ref (B + 369), Value.int (nI mm)] M P (fun r M1 P1 => P1 = P ∧ M1 = up M 369 (up (up (M 369) 10 (if w ∧ ¬ pNum t len p (nI mm) = none then 1 else 0)) 9 (nI (if w ∧ ¬ pNum t len p (nI mm) = none then pnQ t len p (nI mm) else p))) ∧ (w ∧ ¬ pNum t len p (nI mm) = none → r = pnV t len p (nI mm))) := by
  by_cases hw : w
  · rw [if_pos hw] at hb
    refine ki_post (c7_num hm h1 h2 hl hp ht hm9 hc hb) fun r M1 P1 ⟨g1, g2, g3⟩ => ⟨g1, ?_, fun z => g3 z.2⟩
    by_cases hd : pNum t len p (nI mm) = none
    · rw [if_pos hd, show pnQ t len p (nI mm) = p by unfold pnQ; rw [hd]] at g2
      rw [if_neg (fun z => z.2 hd), if_neg (fun z => z.2 hd)]
      exact g2
    · rw [if_neg hd] at g2
      rw [if_pos ⟨hw, hd⟩, if_pos ⟨hw, hd⟩]
      exact g2
  · rw [if_neg hw] at hb
    rw [if_neg (fun z => hw z.1), if_neg (fun z => hw z.1)]
    exact ki_post (c7_num0 hm h1 h2 hl hp ht hb) fun r M1 P1 ⟨g1, g2, g3⟩ => ⟨g3, g2, fun z => absurd z.1 hw⟩
