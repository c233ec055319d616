/-! the whole: what the class and the reference hold -/
abbrev AS : Type := FF × Nat × (Nat → FF) × Int32 × FF × Nat × FF
abbrev AS.f (A : AS) : FF := A.1
abbrev AS.z (A : AS) : Nat := A.2.1
abbrev AS.hf (A : AS) : Nat → FF := A.2.2.1
abbrev AS.kept (A : AS) : Int32 := A.2.2.2.1
abbrev AS.sf (A : AS) : FF := A.2.2.2.2.1
abbrev AS.len (A : AS) : Nat := A.2.2.2.2.2.1
abbrev AS.txt (A : AS) : FF := A.2.2.2.2.2.2
abbrev stF (A : AS) (f1 : FF) : AS := (f1, A.2)
abbrev psh (A : AS) : AS := (A.f, pshZ A.z, pshH A.z A.hf A.f, A.2.2.2)
def PC (P : PP) : Prop := (P 0 0 = 1 ∧ P 0 1 = 53 ∧ P 0 2 = 105 ∧ P 0 3 = 157 ∧ P 0 4 = 367 ∧ P 367 0 = 368) ∧ PH P ∧ PS P 1 ∧ PS P 53 ∧ PS P 105
def JC (M : MM) (P : PP) (A : AS) : Prop := PC P ∧ Rp M P 1 A.f ∧ HR M P A.z A.hf ∧ M 0 5 = A.kept ∧ (A.kept = 1 → Rp M P 105 A.sf) ∧ M 367 1 = nI A.len ∧ ∀ i, i < A.len → M 368 i = A.txt i
def WA (c : Nat) (A : AS) : Prop := Wf c 30 A.f ∧ (∀ j, j < A.z → Wf c 30 (A.hf j)) ∧ A.z ≤ 4 ∧ (A.kept = 0 ∨ A.kept = 1) ∧ (A.kept = 1 → Wf c 30 A.sf) ∧ A.len ≤ 60
/-- the reference's part, the class's part, stays -/
def FHi (M : MM) (P : PP) (M1 : MM) (P1 : PP) : Prop := ∀ a, 369 ≤ a → M1 a = M a ∧ P1 a = P a
def FLo (M : MM) (P : PP) (M1 : MM) (P1 : PP) : Prop := ∀ a, a < 369 → M1 a = M a ∧ P1 a = P a
theorem is1 : isSt 1 := Or.inl rfl
theorem is53 : isSt 53 := Or.inr (Or.inl rfl)
theorem is105 : isSt 105 := Or.inr (Or.inr (Or.inl rfl))
theorem PC.now {P : PP} (h : PC P) : rr P 0 0 1 := ⟨h.1.1, by decide⟩
theorem PC.before {P : PP} (h : PC P) : rr P 0 1 53 := ⟨h.1.2.1, by decide⟩
theorem PC.snap {P : PP} (h : PC P) : rr P 0 2 105 := ⟨h.1.2.2.1, by decide⟩
theorem PC.hist {P : PP} (h : PC P) : rr P 0 3 157 := ⟨h.1.2.2.2.1, by decide⟩
theorem PC.text {P : PP} (h : PC P) : rr P 0 4 367 := ⟨h.1.2.2.2.2.1, by decide⟩
theorem PC.signs {P : PP} (h : PC P) : rr P 367 0 368 := ⟨h.1.2.2.2.2.2, by decide⟩
theorem PC.hh {P : PP} (h : PC P) : PH P := h.2.1
theorem PC.p1 {P : PP} (h : PC P) : PS P 1 := h.2.2.1
theorem PC.p53 {P : PP} (h : PC P) : PS P 53 := h.2.2.2.1
theorem PC.p105 {P : PP} (h : PC P) : PS P 105 := h.2.2.2.2
theorem kk0 : kk 369 0 6 := ⟨by decide, by decide⟩
theorem kk367 : kk 369 367 5 := ⟨by decide, by decide⟩
theorem kk368 : kk 369 368 9 := ⟨by decide, by decide⟩
theorem ln368 : ln 368 = 60 := by decide
theorem PH_fr {P P1 : PP} (h : PH P) (hf : ∀ a, 157 ≤ a → a < 367 → P1 a = P a) : PH P1 := by
  obtain ⟨h1, h2, h3, h4⟩ := h
  rw [← hf 158 (by decide) (by decide)] at h2 h3
  exact ⟨by rw [hf 157 (by decide) (by decide)]; exact h1, h2, h3, fun s hs => PS_fr (h4 s hs) (fun a g1 g2 => hf a (by have := hs.lo; omega) (by have := hs.lo; omega))⟩
theorem JC_now {M M1 : MM} {P P1 : PP} {A : AS} {f1 : FF} (h : JC M P A) (hz : A.z ≤ 4) (hp : PS P1 1) (hr : Rp M1 P1 1 f1) (ha : ∀ a, a < 1 ∨ 53 ≤ a → M1 a = M a) (hP : ∀ a, a ≠ 22 → P1 a = P a) : JC M1 P1 (stF A f1) ∧ FHi M P M1 P1 := by
  obtain ⟨⟨b1, b2, b3, b4, b5⟩, c2, ⟨c3, c4⟩, c5, c6, c7, c8⟩ := h
  refine ⟨⟨⟨by rw [hP 0 (by decide), hP 367 (by decide)]; exact b1, PH_fr b2 (fun a g1 _ => hP a (by omega)), hp, PS_fr b4 (fun a g1 _ => hP a (by omega)), PS_fr b5 (fun a g1 _ => hP a (by omega))⟩, hr, ⟨by rw [ha 157 (by decide)]; exact c3, fun j hj => ?_⟩, by rw [ha 0 (by decide)]; exact c5, fun hk => Rp_P (Rp_fr b5 (c6 hk) (fun a g1 g2 => ha a (by omega))) (hP _ (by decide)), by rw [ha 367 (by decide)]; exact c7, fun i hi => by rw [ha 368 (by decide)]; exact c8 i hi⟩, fun a g => ⟨ha a (by omega), hP a (by omega)⟩⟩
  rw [hP 158 (by decide)]
  have hj2 : j < A.z := hj
  have hi := b2.2.1 j (by omega)
  have hl := hi.lo
  exact Rp_P (Rp_fr (b2.2.2.2 _ hi) (c4 j hj) (fun a g1 g2 => ha a (by omega))) (hP _ (by omega))
theorem JC_push {M M1 : MM} {P P1 : PP} {A : AS} (h : JC M P A) (hq : PH P1 ∧ HR M1 P1 (pshZ A.z) (pshH A.z A.hf A.f) ∧ (∀ a, a < 157 ∨ 367 ≤ a → M1 a = M a) ∧ ∀ a, a ≠ 158 → P1 a = P a) : JC M1 P1 (psh A) ∧ FHi M P M1 P1 := by
  obtain ⟨⟨b1, b2, b3, b4, b5⟩, c2, c3, c5, c6, c7, c8⟩ := h
  obtain ⟨q1, q2, ha, hP⟩ := hq
  exact ⟨⟨⟨by rw [hP 0 (by decide), hP 367 (by decide)]; exact b1, q1, PS_fr b3 (fun a _ g1 => hP a (by omega)), PS_fr b4 (fun a _ g1 => hP a (by omega)), PS_fr b5 (fun a _ g1 => hP a (by omega))⟩, Rp_P (Rp_fr b3 c2 (fun a _ g2 => ha a (by omega))) (hP _ (by decide)), q2, by rw [ha 0 (by decide)]; exact c5, fun hk => Rp_P (Rp_fr b5 (c6 hk) (fun a g1 g2 => ha a (by omega))) (hP _ (by decide)), by rw [ha 367 (by decide)]; exact c7, fun i hi => by rw [ha 368 (by decide)]; exact c8 i hi⟩, fun a g => ⟨ha a (by omega), hP a (by omega)⟩⟩
theorem FHi.refl {M : MM} {P : PP} : FHi M P M P := fun _ _ => ⟨rfl, rfl⟩
theorem FLo.refl {M : MM} {P : PP} : FLo M P M P := fun _ _ => ⟨rfl, rfl⟩
theorem FHi.trans {M M1 M2 : MM} {P P1 P2 : PP} (h : FHi M P M1 P1) (h2 : FHi M1 P1 M2 P2) : FHi M P M2 P2 := fun a ha => ⟨(h2 a ha).1.trans (h a ha).1, (h2 a ha).2.trans (h a ha).2⟩
theorem FLo.trans {M M1 M2 : MM} {P P1 P2 : PP} (h : FLo M P M1 P1) (h2 : FLo M1 P1 M2 P2) : FLo M P M2 P2 := fun a ha => ⟨(h2 a ha).1.trans (h a ha).1, (h2 a ha).2.trans (h a ha).2⟩
theorem JC_FL {M M1 : MM} {P P1 : PP} {A : AS} (h : JC M P A) (hz : A.z ≤ 4) (hf : FLo M P M1 P1) : JC M1 P1 A := by
  obtain ⟨⟨b1, b2, b3, b4, b5⟩, c2, ⟨c3, c4⟩, c5, c6, c7, c8⟩ := h
  have eM := fun a ha => (hf a ha).1
  have eP := fun a ha => (hf a ha).2
  refine ⟨⟨by rw [eP 0 (by decide), eP 367 (by decide)]; exact b1, PH_fr b2 (fun a _ g1 => eP a (by omega)), PS_fr b3 (fun a _ g1 => eP a (by omega)), PS_fr b4 (fun a _ g1 => eP a (by omega)), PS_fr b5 (fun a _ g1 => eP a (by omega))⟩, Rp_P (Rp_fr b3 c2 (fun a _ g2 => eM a (by omega))) (eP _ (by decide)), ⟨by rw [eM 157 (by decide)]; exact c3, fun j hj => ?_⟩, by rw [eM 0 (by decide)]; exact c5, fun hk => Rp_P (Rp_fr b5 (c6 hk) (fun a _ g2 => eM a (by omega))) (eP _ (by decide)), by rw [eM 367 (by decide)]; exact c7, fun i hi => by rw [eM 368 (by decide)]; exact c8 i hi⟩
  rw [eP 158 (by decide)]
  have hi := b2.2.1 j (by omega)
  have hl := hi.lo
  exact Rp_P (Rp_fr (b2.2.2.2 _ hi) (c4 j hj) (fun a _ g2 => eM a (by omega))) (eP _ (by omega))
theorem Wf_mono {c c1 q : Nat} {f : FF} (h : Wf c q f) (h1 : c ≤ c1) (h2 : c1 ≤ 40000) : Wf c1 q f := by
  obtain ⟨a1, a2, a3, a4⟩ := h
  exact ⟨a1, a2, ⟨a3.1, Nat.le_trans a3.2.1 h1, h2⟩, a4⟩
theorem WA_mono {c c1 : Nat} {A : AS} (h : WA c A) (h1 : c ≤ c1) (h2 : c1 ≤ 40000) : WA c1 A := ⟨Wf_mono h.1 h1 h2, fun j hj => Wf_mono (h.2.1 j hj) h1 h2, h.2.2.1, h.2.2.2.1, fun hk => Wf_mono (h.2.2.2.2.1 hk) h1 h2, h.2.2.2.2.2⟩
theorem pshZ_le {z : Nat} (h : z ≤ 4) : pshZ z ≤ 4 := by unfold pshZ; split <;> omega
theorem WA_psh {c : Nat} {A : AS} (h : WA c A) : WA c (psh A) := by
  obtain ⟨h1, h2, h3, h4⟩ := h
  refine ⟨h1, fun j hj => ?_, pshZ_le h3, h4⟩
  show Wf c 30 (pshH A.z A.hf A.f j)
  have hj2 : j < pshZ A.z := hj
  unfold pshZ at hj2
  unfold pshH
  split
  · rename_i e
    rw [if_pos e] at hj2
    show Wf c 30 (if j = 3 then A.f else A.hf (j + 1))
    split
    · exact h1
    · exact h2 _ (by omega)
  · rename_i e
    rw [if_neg e] at hj2
    show Wf c 30 (if j = A.z then A.f else A.hf j)
    split
    · exact h1
    · exact h2 _ (by omega)
theorem WA_now {c : Nat} {A : AS} {f1 : FF} (h : WA c A) (h1 : Wf c 30 f1) : WA c (stF A f1) := ⟨h1, h.2⟩
theorem WA.z {c : Nat} {A : AS} (h : WA c A) : A.z ≤ 4 := h.2.2.1
