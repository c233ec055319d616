theorem kv_post {l : Launch} {D : va_G} {cy : Nat → ClassId} {B : Nat} {y : MethodName} {ws : List Cond} {fr lo : Nat} {as : List Value} {M : MM} {P : PP} {post post2 : MM → PP → Prop} (h : KV l D cy B y ws fr lo as M P post) (hi : ∀ M1 P1, post M1 P1 → post2 M1 P1) : KV l D cy B y ws fr lo as M P post2 := by
  intro p e ha hc hk s m args below hf happ hP hK
  obtain ⟨n, o, h1, h2, h3, ⟨⟨⟨u, g1, g2, g3⟩, g4⟩, g5⟩⟩ := h p e ha hc hk s m args below hf happ hP hK
  exact ⟨n, o, h1, h2, h3, ⟨⟨⟨u, g1, hi _ _ g2, g3⟩, g4⟩, g5⟩⟩
abbrev B4 : Type := Int32 × Int32 × Int32 × Int32
/-- the bookings of the text from the place p on, n of them at most -/
def bks (t : FF) (len : Nat) : Nat → Nat → List B4
  | 0, _ => []
  | n + 1, p => match pBook t len p with
    | .inl _ => []
    | .inr (w, m, i, g, q) => (w, m, i, g) :: (if len ≤ q then [] else if sg t len q = 44 then bks t len n (q + 1) else [])
/-- behind a booking that ends at q: the first fault, the bookings -/
def fC (t : FF) (len n q : Nat) : Option Nat := if len ≤ q then none else if sg t len q = 44 then fF t len n (q + 1) else some q
def bC (t : FF) (len n q : Nat) : List B4 := if len ≤ q then [] else if sg t len q = 44 then bks t len n (q + 1) else []
theorem fF_inl {t : FF} {len n p f : Nat} (h : pBook t len p = .inl f) : fF t len (n + 1) p = some f := by
  rw [fF, h]
theorem fF_inr {t : FF} {len n p q : Nat} {w m i g : Int32} (h : pBook t len p = .inr (w, m, i, g, q)) : fF t len (n + 1) p = fC t len n q := by
  rw [fF, h]
  rfl
theorem bks_inl {t : FF} {len n p f : Nat} (h : pBook t len p = .inl f) : bks t len (n + 1) p = [] := by
  rw [bks, h]
theorem bks_inr {t : FF} {len n p q : Nat} {w m i g : Int32} (h : pBook t len p = .inr (w, m, i, g, q)) : bks t len (n + 1) p = (w, m, i, g) :: bC t len n q := by
  rw [bks, h]
  rfl
theorem pB_inr {t : FF} {len p q : Nat} {w m i g : Int32} (h : pBook t len p = .inr (w, m, i, g, q)) : dg5 t len p ∧ sg t len (p + 1) = 109 ∧ dg5 t len (p + 2) ∧ sg t len (p + 3) = 43 ∧ ¬ pNum t len (p + 4) 99 = none ∧ sg t len (pnQ t len (p + 4) 99) = 104 ∧ ¬ pNum t len (pnQ t len (p + 4) 99 + 1) 12 = none ∧ sg t len p - 48 = w ∧ sg t len (p + 2) - 48 = m ∧ pnV t len (p + 4) 99 = i ∧ pnV t len (pnQ t len (p + 4) 99 + 1) 12 = g := by
  rw [pBook] at h
  by_cases a0 : dg5 t len p
  · rw [if_pos a0] at h
    by_cases a1 : sg t len (p + 1) = 109
    · rw [if_pos a1] at h
      by_cases a2 : dg5 t len (p + 2)
      · rw [if_pos a2] at h
        by_cases a3 : sg t len (p + 3) = 43
        · rw [if_pos a3] at h
          by_cases a4 : pNum t len (p + 4) 99 = none
          · rw [if_pos a4] at h
            cases h
          · rw [if_neg a4] at h
            by_cases a5 : sg t len (pnQ t len (p + 4) 99) = 104
            · rw [if_pos a5] at h
              by_cases a6 : pNum t len (pnQ t len (p + 4) 99 + 1) 12 = none
              · rw [if_pos a6] at h
                cases h
              · rw [if_neg a6] at h
                injection h with h
                simp only [Prod.mk.injEq] at h
                exact ⟨a0, a1, a2, a3, a4, a5, a6, h.1, h.2.1, h.2.2.1, h.2.2.2.1⟩
            · rw [if_neg a5] at h
              cases h
        · rw [if_neg a3] at h
          cases h
      · rw [if_neg a2] at h
        cases h
    · rw [if_neg a1] at h
      cases h
  · rw [if_neg a0] at h
    cases h
/-- what the reference holds behind a booking, the z before it read -/
def PBm (M1 : MM) (z : Nat) (x : Nat ⊕ (Int32 × Int32 × Int32 × Int32 × Nat)) : Prop := match x with
  | .inl f => M1 369 10 = 0 ∧ M1 369 9 = nI f ∧ M1 369 12 = nI z
  | .inr (w, m, i, g, q) => M1 369 10 = 1 ∧ M1 369 9 = nI q ∧ M1 369 12 = nI (z + 1) ∧ M1 375 (4 * z + 0) = w ∧ M1 375 (4 * z + 1) = m ∧ M1 375 (4 * z + 2) = i ∧ M1 375 (4 * z + 3) = g
/-- what the reading leaves alone -/
def RFr (M M1 : MM) (z : Nat) : Prop := (∀ k, k ≠ 9 → k ≠ 10 → k ≠ 12 → M1 369 k = M 369 k) ∧ (∀ a, a ≠ 369 → a ≠ 375 → M1 a = M a) ∧ (∀ j, j < 4 * z → M1 375 j = M 375 j)
theorem c7_rb {l : Launch} {D : va_G} {cy : Nat → ClassId} {B : Nat} {M : MM} {P : PP} {t : FF} {len p z : Nat} (hm : PMd P) (h1 : M 369 8 = nI len) (hl : len ≤ 60) (ht : ∀ i, i < len → M 374 i = t i) (hc : CH t len) (hp : p ≤ len) (h2 : M 369 9 = nI p) (h3 : M 369 10 = 1) (hz : M 369 12 = nI z) (hz14 : z ≤ 14) : KV l D cy B yX7_readsBooking wsX7_readsBooking 2 44 [Value.ref (B + 369)] M P (fun M1 P1 => P1 = P ∧ RFr M M1 z ∧ PBm M1 z (pBook t len p)) := by
  refine kv_post (c7_readsBooking (s := (true, p)) hm h1 hl ht hc hp ⟨h3, h2, fun _ _ _ => rfl, fun _ _ _ => rfl⟩ hz hz14 rfl rfl rfl rfl rfl rfl rfl) fun M1 P1 h => ?_
  obtain ⟨g1, g2, g3, g4, g5, g6, g7, v0, v1, v2, v3⟩ := h
  refine ⟨g1, ⟨g5, g6, g7⟩, ?_⟩
  have e := nxB_eq (t := t) (len := len) (p := p)
  unfold nxB at e
  rw [e] at g2 g3 g4
  cases hb : pBook t len p with
  | inl f =>
    rw [hb] at g2 g3 g4
    exact ⟨g2, g3, g4⟩
  | inr b =>
    obtain ⟨w, m, i, g, q⟩ := b
    rw [hb] at g2 g3 g4
    obtain ⟨a0, a1, a2, a3, a4, a5, a6, b1, b2, b3, b4⟩ := pB_inr hb
    have w1 := nxD_t a0
    have w2 := nxS_t a1
    have w3 := nxD_t a2
    have w4 := nxS_t a3
    have w5 := nxN_t a4
    have w6 := nxS_t a5
    rw [w1, w2] at v1
    rw [w1, w2, w3, w4] at v2
    rw [w1, w2, w3, w4, w5, w6] at v3
    exact ⟨g2, g3, g4, (v0 ⟨rfl, a0⟩).trans b1, (v1 ⟨rfl, a2⟩).trans b2, (v2 ⟨rfl, a4⟩).trans b3, (v3 ⟨rfl, a6⟩).trans b4⟩
/-- z bookings of L are read -/
def HB (M : MM) (z : Nat) (L : List B4) : Prop := ∀ k, k < z → L[k]? = some (M 375 (4 * k + 0), M 375 (4 * k + 1), M 375 (4 * k + 2), M 375 (4 * k + 3))
theorem HB_fr {M M1 : MM} {z y : Nat} {L : List B4} (h : HB M z L) (hy : z ≤ y) (hf : ∀ j, j < 4 * y → M1 375 j = M 375 j) : HB M1 z L := fun k hk => by
  rw [hf _ (by omega), hf _ (by omega), hf _ (by omega), hf _ (by omega)]
  exact h k hk
theorem drop_cons {L : List B4} {z : Nat} {b : B4} {r : List B4} (h : L.drop z = b :: r) : L[z]? = some b ∧ L.drop (z + 1) = r := by
  constructor
  · have e : (L.drop z)[0]? = some b := by rw [h]; rfl
    rw [List.getElem?_drop] at e
    exact e
  · have e : (L.drop z).tail = r := by rw [h]; rfl
    rw [List.tail_drop] at e
    exact e
theorem HB_put {M M1 : MM} {z : Nat} {L r : List B4} {w m i g : Int32} (h : HB M z L) (hf : ∀ j, j < 4 * z → M1 375 j = M 375 j) (hd : L.drop z = (w, m, i, g) :: r) (v0 : M1 375 (4 * z + 0) = w) (v1 : M1 375 (4 * z + 1) = m) (v2 : M1 375 (4 * z + 2) = i) (v3 : M1 375 (4 * z + 3) = g) : HB M1 (z + 1) L := fun k hk => by
  by_cases e : k = z
  · rw [e, v0, v1, v2, v3]
    exact (drop_cons hd).1
  · exact HB_fr h (Nat.le_refl z) hf k (by omega)
/-- the loop of reads: z bookings are read, the next sign is at q; well (w = 1) or not -/
def IVr (M M1 : MM) (t : FF) (len : Nat) (L : List B4) (R : Option Nat) (z w q : Nat) : Prop := RFr M M1 0 ∧ HB M1 z L ∧ M1 369 12 = nI z ∧ M1 369 9 = nI q ∧ q ≤ len ∧ z ≤ 8 ∧ w ≤ 1 ∧ M1 369 10 = nI w ∧ (w = 1 → 8 * z ≤ q + 1 ∧ L.drop z = bC t len (8 - z) q ∧ fC t len (8 - z) q = R) ∧ (w = 0 → R = some q)
theorem RFr_trans {M M1 M2 : MM} {z : Nat} (h : RFr M M1 0) (h2 : RFr M1 M2 z) : RFr M M2 0 := ⟨fun k a b c => (h2.1 k a b c).trans (h.1 k a b c), fun a b c => (h2.2.1 a b c).trans (h.2.1 a b c), fun j hj => absurd hj (by omega)⟩
/-- a booking more, or the fault -/
theorem IV_step {M M1 M2 : MM} {t : FF} {len n : Nat} {L : List B4} {R : Option Nat} {z p : Nat} (h : RFr M M1 0) (h2 : RFr M1 M2 z) (hb : HB M1 z L) (hp : p ≤ len) (hl : len ≤ 60) (h8 : 8 * z ≤ p) (hn : 8 - z = n + 1) (hd : L.drop z = bks t len (n + 1) p) (hR : fF t len (n + 1) p = R) (hq : PBm M2 z (pBook t len p)) : ∃ z2 w q, IVr M M2 t len L R z2 w q ∧ 2 * (8 - z2) + w < 2 * (8 - z) + 1 := by
  have hle := pBook_le (t := t) hp
  cases hbk : pBook t len p with
  | inl f =>
    rw [hbk] at hle hq
    rw [fF_inl hbk] at hR
    exact ⟨z, 0, f, ⟨RFr_trans h h2, HB_fr hb (Nat.le_refl z) h2.2.2, hq.2.2, hq.2.1, hle.1, by omega, by omega, hq.1, fun e => absurd e (by decide), fun _ => hR.symm⟩, by omega⟩
  | inr b =>
    obtain ⟨w, m, i, g, q⟩ := b
    rw [hbk] at hle hq
    rw [fF_inr hbk] at hR
    rw [bks_inr hbk] at hd
    have hle1 : q ≤ len := hle.1
    have hle2 : p + 7 ≤ q := hle.2
    obtain ⟨q1, q2, q3, v0, v1, v2, v3⟩ := hq
    have e : 8 - (z + 1) = n := by omega
    exact ⟨z + 1, 1, q, ⟨RFr_trans h h2, HB_put hb h2.2.2 hd v0 v1 v2 v3, q3, q2, hle1, by omega, by omega, q1, fun _ => ⟨by omega, by rw [e]; exact (drop_cons hd).2, by rw [e]; exact hR⟩, fun e => absurd e (by decide)⟩, by omega⟩
/-- at the end -/
def RDs (M1 : MM) (L : List B4) : Prop := M1 369 12 = nI L.length ∧ L.length ≤ 8 ∧ HB M1 L.length L
theorem RDs_of {M1 : MM} {L : List B4} {z : Nat} (h : HB M1 z L) (h1 : M1 369 12 = nI z) (h2 : z ≤ 8) (h3 : L.drop z = []) : RDs M1 L := by
  have e : L.length ≤ z := List.drop_eq_nil_iff.mp h3
  have e2 : z ≤ L.length := by
    by_cases g : z = 0
    · omega
    · have := h (z - 1) (by omega)
      have := (List.getElem?_eq_some_iff.mp this).1
      omega
  have e3 : z = L.length := Nat.le_antisymm e2 e
  subst e3
  exact ⟨h1, h2, h⟩

set_option maxRecDepth 100000 in
set_option maxHeartbeats 1000000 in
theorem c7_reads {l : Launch} {D : va_G} {cy : Nat → ClassId} {B : Nat} {M : MM} {P : PP} {t : FF} {len : Nat} (hm : PMd P) (h1 : M 369 8 = nI len) (hl : len ≤ 60) (ht : ∀ i, i < len → M 374 i = t i) (hc : CH t len) : KI l D cy B yX7_reads wsX7_reads 3 65 [Value.ref (B + 369)] M P (fun r M1 P1 => r = (match fF t len 8 0 with | none => (-100000005 : Int32) | some f => nI f) ∧ P1 = P ∧ RFr M M1 0 ∧ (fF t len 8 0 = none → RDs M1 (bks t len 8 0))) := by
  refine met_KI (cc := cX7_reads) (maxL := 1) (ret := (some .int)) (lv := [some (Value.ref (B + 369))]) (by decide) rfl rfl rfl (Nat.le_of_ble_eq_true rfl) ?_
  intro X C F
  refine g_aload_0 (pc := 0) C dX7_reads_0 ?_
  refine g_iconst (pc := 1) (v := 0) C dX7_reads_1 rfl ?_
  refine g_puti (pc := 2) C pf_X7_reads_158 kk369 dX7_reads_2 ?_
  refine g_aload_0 (pc := 5) C dX7_reads_5 ?_
  refine g_iconst (pc := 6) (v := 1) C dX7_reads_6 rfl ?_
  refine g_putz (pc := 7) C (by first | exact Or.inl rfl | exact Or.inr rfl | assumption) pf_X7_reads_161 kk369 dX7_reads_7 ?_
  refine g_aload_0 (pc := 10) C dX7_reads_10 ?_
  refine g_iconst (pc := 11) (v := 0) C dX7_reads_11 rfl ?_
  refine g_puti (pc := 12) C pf_X7_reads_143 kk369 dX7_reads_12 ?_
  refine g_memo (fun M0 => RFr M M0 0 ∧ M0 369 9 = nI 0 ∧ M0 369 10 = 1 ∧ M0 369 12 = nI 0) ⟨⟨fun k a b c => by rw [up_same, up_ne _ _ c, up_same, up_ne _ _ b, up_same, up_ne _ _ a], fun a b c => by rw [up_ne _ _ b, up_ne _ _ b, up_ne _ _ b], fun j hj => absurd hj (by omega)⟩, by rw [up_same, up_ne _ _ (by decide), up_same, up_ne _ _ (by decide), up_same, up_same]; rfl, by rw [up_same, up_ne _ _ (by decide), up_same, up_same], by rw [up_same, up_same]; rfl⟩ (fun M0 h0 => ?_)
  obtain ⟨F0, a9, a10, a12⟩ := h0
  refine g_aload_0 (pc := 15) C dX7_reads_15 ?_
  refine g_V0v (pc := 16) C e_X7_reads_177 (Nat.le_of_ble_eq_true rfl) rfl dX7_reads_16 kk369 (c7_rb (t := t) (len := len) (p := 0) (z := 0) hm (by rw [F0.1 8 (by decide) (by decide) (by decide)]; exact h1) hl (fun i hi => by rw [F0.2.1 374 (by decide) (by decide)]; exact ht i hi) hc (Nat.zero_le _) a9 a10 a12 (by decide)) (fun M1 P1 hq => ?_)
  obtain ⟨e, G1, hq2⟩ := hq
  subst P1
  obtain ⟨R, hR⟩ : ∃ R, R = fF t len 8 0 := ⟨_, rfl⟩
  obtain ⟨L, hL⟩ : ∃ L, L = bks t len 8 0 := ⟨_, rfl⟩
  obtain ⟨z0, w0, q0, I0, -⟩ := IV_step (n := 7) (L := L) (R := R) F0 G1 (fun k hk => absurd hk (by omega)) (Nat.zero_le _) hl (by decide) (by decide) hL hR.symm hq2
  refine ind_m (fun (k : Nat × Nat) => 2 * (8 - k.1) + k.2) (p := fun (k : Nat × Nat) => ∀ (M1 : MM) (q : Nat), IVr M M1 t len L R k.1 k.2 q → G X D cy B 0 0 376 M1 P 19 [some (Value.ref (B + 369))] []) ?_ (z0, w0) M1 q0 I0
  clear hq2 G1 F0 a9 a10 a12 I0
  intro k ih M1 q hI
  obtain ⟨z, w⟩ := k
  obtain ⟨i1, i2, i3, i4, i5, i6, i7, i8, i9, i10⟩ := hI
  have w01 : w = 0 ∨ w = 1 := by have g : w ≤ 1 := i7; omega
  refine g_aload_0 (pc := 19) C dX7_reads_19 ?_
  refine g_getz (pc := 20) C fl_X7_reads_161 kk369 dX7_reads_20 ?_
  rw [show M1 369 10 = nI w from i8]
  refine g_if_eq (pc := 23) (tgt := 57) C dX7_reads_23 (by decide) (fun c23 => ?_) (fun c23 => ?_)
  · obtain rfl : w = 0 := by rcases w01 with e | e; exact e; subst e; exact absurd c23 (by decide)
    have hRq := i10 rfl
    refine g_aload_0 (pc := 57) C dX7_reads_57 ?_
    refine g_getz (pc := 58) C fl_X7_reads_161 kk369 dX7_reads_58 ?_
    rw [show M1 369 10 = _ from i8]
    refine g_if_eq (pc := 61) (tgt := 69) C dX7_reads_61 (by decide) (fun c61 => ?_) (fun c61 => ?_)
    · refine g_aload_0 (pc := 69) C dX7_reads_69 ?_
      refine g_geti (pc := 70) C fl_X7_reads_158 kk369 dX7_reads_70 ?_
      rw [show M1 369 9 = nI q from i4]
      exact g_iret (post := fun r M1 P1 => r = (match fF t len 8 0 with | none => (-100000005 : Int32) | some f => nI f) ∧ P1 = P ∧ RFr M M1 0 ∧ (fF t len 8 0 = none → RDs M1 (bks t len 8 0))) C F dX7_reads_73 ⟨by rw [← hR, hRq], rfl, i1, fun e => by rw [← hR, hRq] at e; cases e⟩
    · exact absurd rfl c61
  · obtain rfl : w = 1 := by rcases w01 with e | e; subst e; exact absurd rfl c23; exact e
    obtain ⟨j2, j3, j4⟩ := i9 rfl
    have hz7 : z ≤ 7 := by have g : q ≤ len := i5; omega
    refine g_aload_0 (pc := 26) C dX7_reads_26 ?_
    refine g_geti (pc := 27) C fl_X7_reads_158 kk369 dX7_reads_27 ?_
    rw [show M1 369 9 = nI q from i4]
    refine g_aload_0 (pc := 30) C dX7_reads_30 ?_
    refine g_geti (pc := 31) C fl_X7_reads_155 kk369 dX7_reads_31 ?_
    rw [show M1 369 8 = nI len from (i1.1 8 (by decide) (by decide) (by decide)).trans h1]
    refine g_icmp_ge (pc := 34) (tgt := 57) C dX7_reads_34 (by decide) (fun c34 => ?_) (fun c34 => ?_)
    · have e7 : len ≤ q := i_le (by omega) (by have g : q ≤ len := i5; omega) c34
      refine g_aload_0 (pc := 57) C dX7_reads_57 ?_
      refine g_getz (pc := 58) C fl_X7_reads_161 kk369 dX7_reads_58 ?_
      rw [show M1 369 10 = _ from i8]
      refine g_if_eq (pc := 61) (tgt := 69) C dX7_reads_61 (by decide) (fun c61 => ?_) (fun c61 => ?_)
      · exact absurd (show nI 1 = 0 from c61) (by decide)
      · refine g_ldc (pc := 64) C k_X7_reads_40 dX7_reads_64 ?_
        refine g_goto (pc := 66) (tgt := 73) C dX7_reads_66 (by decide) ?_
        exact g_iret (post := fun r M1 P1 => r = (match fF t len 8 0 with | none => (-100000005 : Int32) | some f => nI f) ∧ P1 = P ∧ RFr M M1 0 ∧ (fF t len 8 0 = none → RDs M1 (bks t len 8 0))) C F dX7_reads_73 ⟨by rw [← hR, ← j4]; unfold fC; rw [if_pos e7], rfl, i1, fun e => by rw [← hL]; exact RDs_of i2 i3 (by omega) (by rw [j3]; unfold bC; rw [if_pos e7])⟩
    · have e7 : q < len := i_nle (by omega) (by have g : q ≤ len := i5; omega) c34
      refine g_aload_0 (pc := 37) C dX7_reads_37 ?_
      refine g_bipush (pc := 38) (v := 44) C dX7_reads_38 rfl ?_
      refine g_V1ve (pc := 40) C e_X7_reads_171 (Nat.le_of_ble_eq_true rfl) rfl dX7_reads_40 kk369 (c7_asksU (t := t) (len := len) (p := q) (w := True) (x := 44) hm (by rw [i1.1 8 (by decide) (by decide) (by decide)]; exact h1) i4 hl i5 (fun i hi => by rw [i1.2.1 374 (by decide) (by decide)]; exact ht i hi) (by decide) (by decide) (by rw [if_pos trivial]; exact i8)) ?_
      refine g_memo (fun M3 => RFr M1 M3 z ∧ M3 369 9 = nI (if sg t len q = 44 then q + 1 else q) ∧ M3 369 10 = (if sg t len q = 44 then 1 else 0) ∧ M3 369 12 = nI z) ⟨⟨fun k a b c => by rw [up_same, up_ne _ _ a, up_ne _ _ b], fun a b c => up_ne _ _ b, fun j hj => by rw [up_ne _ _ (by decide)]⟩, by rw [up_same, up_same]; simp only [true_and], by rw [up_same, up_ne _ _ (by decide), up_same]; simp only [true_and], by rw [up_same, up_ne _ _ (by decide), up_ne _ _ (by decide)]; exact i3⟩ (fun M3 h3 => ?_)
      obtain ⟨G3, b9, b10, b12⟩ := h3
      have F3 := RFr_trans i1 G3
      refine g_aload_0 (pc := 43) C dX7_reads_43 ?_
      refine g_getz (pc := 44) C fl_X7_reads_161 kk369 dX7_reads_44 ?_
      rw [b10]
      refine g_if_eq (pc := 47) (tgt := 19) C dX7_reads_47 (by decide) (fun c47 => ?_) (fun c47 => ?_)
      · have wq : ¬ sg t len q = 44 := if0 c47
        exact ih (z, 0) (by show 2 * (8 - z) + 0 < 2 * (8 - z) + 1; omega) M3 q ⟨RFr_trans i1 G3, HB_fr i2 (Nat.le_refl z) G3.2.2, b12, by rw [b9, if_neg wq], i5, i6, Nat.zero_le _, by rw [b10, if_neg wq]; rfl, fun e => absurd (show (0 : Nat) = 1 from e) (by decide), fun _ => by rw [← j4]; unfold fC; rw [if_neg (show ¬ len ≤ q by omega), if_neg wq]⟩
      · have wq : sg t len q = 44 := if1 c47
        have hq1 := sg_le wq (by decide)
        rw [if_pos wq] at b9 b10
        refine g_aload_0 (pc := 50) C dX7_reads_50 ?_
        refine g_V0v (pc := 51) C e_X7_reads_177 (Nat.le_of_ble_eq_true rfl) rfl dX7_reads_51 kk369 (c7_rb (t := t) (len := len) (p := q + 1) (z := z) hm (by rw [F3.1 8 (by decide) (by decide) (by decide)]; exact h1) hl (fun i hi => by rw [F3.2.1 374 (by decide) (by decide)]; exact ht i hi) hc hq1 b9 b10 b12 (by omega)) (fun M4 P4 hq => ?_)
        obtain ⟨e, G4, hq2⟩ := hq
        subst P4
        obtain ⟨z2, w2, q2, I2, lt2⟩ := IV_step (n := 7 - z) (L := L) (R := R) F3 G4 (HB_fr i2 (Nat.le_refl z) G3.2.2) hq1 hl (by omega) (by omega) (by rw [show 7 - z + 1 = 8 - z by omega]; rw [j3]; unfold bC; rw [if_neg (show ¬ len ≤ q by omega), if_pos wq]) (by rw [show 7 - z + 1 = 8 - z by omega]; rw [← j4]; unfold fC; rw [if_neg (show ¬ len ≤ q by omega), if_pos wq]) hq2
        refine g_goto (pc := 54) (tgt := 19) C dX7_reads_54 (by decide) ?_
        exact ih (z2, w2) lt2 M4 q2 I2
