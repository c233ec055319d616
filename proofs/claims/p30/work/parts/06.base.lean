/-! the parts of the region -/
def isSt (s : Nat) : Prop := s = 1 ∨ s = 53 ∨ s = 105 ∨ s = 159 ∨ s = 211 ∨ s = 263 ∨ s = 315
theorem kk_s0 {s : Nat} (h : isSt s) : kk 369 s 4 := by
  rcases h with rfl | rfl | rfl | rfl | rfl | rfl | rfl <;> exact ⟨by decide, by decide⟩
theorem kk_s1 {s : Nat} (h : isSt s) : kk 369 (s + 1) 10 := by
  rcases h with rfl | rfl | rfl | rfl | rfl | rfl | rfl <;> exact ⟨by decide, by decide⟩
theorem kk_s8 {s : Nat} (h : isSt s) : kk 369 (s + 8) 11 := by
  rcases h with rfl | rfl | rfl | rfl | rfl | rfl | rfl <;> exact ⟨by decide, by decide⟩
theorem kk_s21 {s : Nat} (h : isSt s) : kk 369 (s + 21) 12 := by
  rcases h with rfl | rfl | rfl | rfl | rfl | rfl | rfl <;> exact ⟨by decide, by decide⟩
theorem ln_s1 {s : Nat} (h : isSt s) : ln (s + 1) = 6 := by
  rcases h with rfl | rfl | rfl | rfl | rfl | rfl | rfl <;> decide
theorem ln_s8 {s : Nat} (h : isSt s) : ln (s + 8) = 6 := by
  rcases h with rfl | rfl | rfl | rfl | rfl | rfl | rfl <;> decide
theorem ln_s21 {s : Nat} (h : isSt s) : ln (s + 21) = 30 := by
  rcases h with rfl | rfl | rfl | rfl | rfl | rfl | rfl <;> decide
theorem kk_f {s i : Nat} (h : isSt s) (hi : i < 6) : kk 369 (s + 2 + i) 1 := by
  unfold kk
  rcases h with rfl | rfl | rfl | rfl | rfl | rfl | rfl <;> (revert i; decide)
theorem kk_m {s i : Nat} (h : isSt s) (hi : i < 6) : kk 369 (s + 9 + 2 * i) 3 := by
  unfold kk
  rcases h with rfl | rfl | rfl | rfl | rfl | rfl | rfl <;> (revert i; decide)
theorem kk_h {s i : Nat} (h : isSt s) (hi : i < 6) : kk 369 (s + 10 + 2 * i) 8 := by
  unfold kk
  rcases h with rfl | rfl | rfl | rfl | rfl | rfl | rfl <;> (revert i; decide)
theorem ln_h {s i : Nat} (h : isSt s) (hi : i < 6) : ln (s + 10 + 2 * i) = 6 := by
  rcases h with rfl | rfl | rfl | rfl | rfl | rfl | rfl <;> (revert i; decide)
theorem kk_b {s i : Nat} (h : isSt s) (hi : i < 30) : kk 369 (s + 22 + i) 0 := by
  unfold kk
  rcases h with rfl | rfl | rfl | rfl | rfl | rfl | rfl <;> (revert i; decide)
theorem st_pos {s : Nat} (h : isSt s) : 0 < s ∧ s + 52 ≤ 367 := by
  rcases h with rfl | rfl | rfl | rfl | rfl | rfl | rfl <;> decide
/-- two States' parts are apart -/
theorem st_apart {s t : Nat} (h : isSt s) (h2 : isSt t) (hn : s ≠ t) : s + 52 ≤ t ∨ t + 52 ≤ s := by
  rcases h with rfl | rfl | rfl | rfl | rfl | rfl | rfl <;> rcases h2 with rfl | rfl | rfl | rfl | rfl | rfl | rfl <;> first | exact absurd rfl hn | omega
/-- the references of a State's part -/
def PS (P : PP) (s : Nat) : Prop := P s 0 = s + 1 ∧ P s 1 = s + 8 ∧ P s 2 = s + 21 ∧ (∀ i, i < 6 → P (s + 1) i = s + 2 + i) ∧ (∀ i, i < 6 → P (s + 8) i = s + 9 + 2 * i) ∧ (∀ i, i < 6 → P (s + 9 + 2 * i) 7 = s + 10 + 2 * i) ∧ (∀ i, i < 30 → ∃ j, j < 30 ∧ P (s + 21) i = s + 22 + j) ∧ (∀ i j, i < 30 → j < 30 → P (s + 21) i = P (s + 21) j → i = j)
theorem PS.r0 {P : PP} {s : Nat} (h : PS P s) : rr P s 0 (s + 1) := ⟨h.1, Nat.succ_ne_zero _⟩
theorem PS.r1 {P : PP} {s : Nat} (h : PS P s) : rr P s 1 (s + 8) := ⟨h.2.1, Nat.succ_ne_zero _⟩
theorem PS.r2 {P : PP} {s : Nat} (h : PS P s) : rr P s 2 (s + 21) := ⟨h.2.2.1, Nat.succ_ne_zero _⟩
theorem PS.rf {P : PP} {s i : Nat} (h : PS P s) (hi : i < 6) : rr P (s + 1) i (s + 2 + i) := ⟨h.2.2.2.1 i hi, by omega⟩
theorem PS.rm {P : PP} {s i : Nat} (h : PS P s) (hi : i < 6) : rr P (s + 8) i (s + 9 + 2 * i) := ⟨h.2.2.2.2.1 i hi, by omega⟩
theorem PS.rh {P : PP} {s i : Nat} (h : PS P s) (hi : i < 6) : rr P (s + 9 + 2 * i) 7 (s + 10 + 2 * i) := ⟨h.2.2.2.2.2.1 i hi, by omega⟩
theorem PS.rb {P : PP} {s i : Nat} (h : PS P s) (hi : i < 30) : rr P (s + 21) i (P (s + 21) i) := ⟨rfl, by
  obtain ⟨j, hj, e⟩ := h.2.2.2.2.2.2.1 i hi
  omega⟩
theorem PS.kb {P : PP} {s i : Nat} (h : PS P s) (hs : isSt s) (hi : i < 30) : kk 369 (P (s + 21) i) 0 := by
  obtain ⟨j, hj, e⟩ := h.2.2.2.2.2.2.1 i hi
  rw [e]
  exact kk_b hs hj
theorem PS.inj {P : PP} {s i j : Nat} (h : PS P s) (hi : i < 30) (hj : j < 30) (e : P (s + 21) i = P (s + 21) j) : i = j := h.2.2.2.2.2.2.2 i j hi hj e
/-! the abstract state: an array of 313 ints, as the document's numbers lie in it -/
abbrev FF : Type := Nat → Int32
def sn (f : FF) : Nat := (f 6).toNatClampNeg
def mn (f : FF) : Nat := (f 12).toNatClampNeg
def dn (f : FF) : Nat := (f 3).toNatClampNeg
/-- a State's part holds the abstract state f (its rows behind the counts hold anything) -/
def RS (M : MM) (s : Nat) (f : FF) : Prop := M s 3 = f 12 ∧ M s 4 = f 6 ∧ M s 5 = f 3 ∧ M s 6 = f 5 ∧ M s 7 = f 7 ∧ M s 8 = f 8 ∧ M s 9 = f 4 ∧ M s 10 = f 0 ∧ M s 11 = f 1 ∧ M s 12 = f 2 ∧ M s 13 = f 9 ∧ M s 14 = f 10 ∧ M s 15 = f 11
def RF (M : MM) (s : Nat) (f : FF) : Prop := ∀ i, i < 6 → ∀ k, k < 6 → M (s + 2 + i) k = f (13 + 6 * i + k)
def Rm (M : MM) (s : Nat) (f : FF) (i : Nat) : Prop := M (s + 9 + 2 * i) 0 = f (49 + 14 * i + 0) ∧ M (s + 9 + 2 * i) 1 = f (49 + 14 * i + 1) ∧ M (s + 9 + 2 * i) 2 = f (49 + 14 * i + 5) ∧ M (s + 9 + 2 * i) 3 = f (49 + 14 * i + 6) ∧ M (s + 9 + 2 * i) 4 = f (49 + 14 * i + 2) ∧ M (s + 9 + 2 * i) 5 = f (49 + 14 * i + 4) ∧ M (s + 9 + 2 * i) 6 = f (49 + 14 * i + 7) ∧ ∀ j, j < 6 → M (s + 10 + 2 * i) j = f (49 + 14 * i + (8 + j))
def RM (M : MM) (s : Nat) (f : FF) : Prop := ∀ i, i < mn f → i < 6 → Rm M s f i
def RB (M : MM) (P : PP) (s : Nat) (f : FF) : Prop := ∀ i, i < sn f → i < 30 → ∀ k, k < 6 → M (P (s + 21) i) k = f (133 + 6 * i + k)
def Rp (M : MM) (P : PP) (s : Nat) (f : FF) : Prop := RS M s f ∧ RF M s f ∧ RM M s f ∧ RB M P s f
/-- the fuel of q quarters of a litre, as bits -/
def qb (q : Nat) : Int32 := (qbU q).toInt32
/-- the hours of a machine since it was mended -/
def ow (f : FF) (i j : Nat) : Int32 := f (49 + 14 * i + (8 + j))
def Wm (f : FF) (i : Nat) : Prop := (∃ k, k < 3 ∧ f (49 + 14 * i + 0) = nI k) ∧ (∃ r, 1 ≤ r ∧ r ≤ 99 ∧ f (49 + 14 * i + 1) = nI r) ∧ (f (49 + 14 * i + 2) = 0 ∨ f (49 + 14 * i + 2) = 1) ∧ (∃ q, q ≤ 2400 ∧ f (49 + 14 * i + 6) = qb q) ∧ (∃ h : Nat → Nat, (∀ j, j < 6 → ow f i j = nI (h j)) ∧ f (49 + 14 * i + 3) = nI (h 0 + h 1 + h 2 + h 3 + h 4 + h 5) ∧ h 0 + h 1 + h 2 + h 3 + h 4 + h 5 ≤ 211 ∧ (f (49 + 14 * i + 2) = 0 → h 0 + h 1 + h 2 + h 3 + h 4 + h 5 ≤ 199) ∧ (f (49 + 14 * i + 2) = 1 → 10 ≤ h 0 + h 1 + h 2 + h 3 + h 4 + h 5))
/-- a booking that stands: its day is now or later; later for those ahead of the place q -/
def Wb (f : FF) (q p : Nat) : Prop := (∃ w, w < 6 ∧ f (133 + 6 * p + 1) = nI w) ∧ (∃ m, m < mn f ∧ f (133 + 6 * p + 2) = nI m) ∧ (∃ d, dn f ≤ d ∧ (p < q → dn f < d) ∧ d ≤ dn f + 99 ∧ f (133 + 6 * p + 3) = nI d) ∧ (∃ h, 1 ≤ h ∧ h ≤ 12 ∧ f (133 + 6 * p + 4) = nI h)
/-- how many of the first n machines are of a kind -/
def kc (f : FF) (k : Int32) : Nat → Nat
  | 0 => 0
  | n + 1 => kc f k n + (if f (49 + 14 * n + 0) = k then 1 else 0)
/-- what holds of an abstract state: c bounds the day; the bookings ahead of the place q are for later days -/
def Wf (c q : Nat) (f : FF) : Prop := (f 6 = nI (sn f) ∧ sn f ≤ 30) ∧ (f 12 = nI (mn f) ∧ mn f ≤ 6) ∧ (f 3 = nI (dn f) ∧ dn f ≤ c ∧ c ≤ 40000) ∧ (∃ b, 10 ≤ b ∧ b ≤ 200 ∧ f 0 = nI b) ∧ (∀ i, i < mn f → Wm f i) ∧ (∀ i, i < 6 → mn f ≤ i → ∀ k, k < 14 → f (49 + 14 * i + k) = 0) ∧ (∀ p, p < sn f → Wb f q p) ∧ (∀ k, k < 3 → kc f (nI k) (mn f) ≤ 2)
theorem Wf.s {c q : Nat} {f : FF} (h : Wf c q f) : f 6 = nI (sn f) := h.1.1
theorem Wf.s30 {c q : Nat} {f : FF} (h : Wf c q f) : sn f ≤ 30 := h.1.2
theorem Wf.m {c q : Nat} {f : FF} (h : Wf c q f) : f 12 = nI (mn f) := h.2.1.1
theorem Wf.m6 {c q : Nat} {f : FF} (h : Wf c q f) : mn f ≤ 6 := h.2.1.2
theorem Wf.d {c q : Nat} {f : FF} (h : Wf c q f) : f 3 = nI (dn f) := h.2.2.1.1
theorem Wf.dc {c q : Nat} {f : FF} (h : Wf c q f) : dn f ≤ c := h.2.2.1.2.1
theorem Wf.d4 {c q : Nat} {f : FF} (h : Wf c q f) : dn f ≤ 40000 := Nat.le_trans h.2.2.1.2.1 h.2.2.1.2.2
theorem Wf.b {c q : Nat} {f : FF} (h : Wf c q f) : ∃ b, 10 ≤ b ∧ b ≤ 200 ∧ f 0 = nI b := h.2.2.2.1
theorem Wf.wm {c q : Nat} {f : FF} (h : Wf c q f) {i : Nat} (hi : i < mn f) : Wm f i := h.2.2.2.2.1 i hi
theorem Wf.wz {c q : Nat} {f : FF} (h : Wf c q f) {i k : Nat} (h6 : i < 6) (hi : mn f ≤ i) (hk : k < 14) : f (49 + 14 * i + k) = 0 := h.2.2.2.2.2.1 i h6 hi k hk
theorem Wf.wb {c q : Nat} {f : FF} (h : Wf c q f) {p : Nat} (hp : p < sn f) : Wb f q p := h.2.2.2.2.2.2.1 p hp
theorem Wf.wk {c q : Nat} {f : FF} (h : Wf c q f) {k : Nat} (hk : k < 3) : kc f (nI k) (mn f) ≤ 2 := h.2.2.2.2.2.2.2 k hk
/-! pure functions of the abstract state -/
/-- the hours for which a machine is booked on a day, among the first n bookings -/
def bk (f : FF) (m d : Int32) : Nat → Int32
  | 0 => 0
  | n + 1 => bk f m d n + (if f (133 + 6 * n + 2) = m ∧ f (133 + 6 * n + 3) = d then f (133 + 6 * n + 4) else 0)
def bkO (f : FF) (m d : Int32) : Int32 := bk f m d (sn f)
/-- the first of the bookings from i on, n of them, with a number -/
def pl (f : FF) (b : Int32) : Nat → Nat → Option Nat
  | _, 0 => none
  | i, n + 1 => if f (133 + 6 * i + 0) = b then some i else pl f b (i + 1) n
def plO (f : FF) (b : Int32) : Option Nat := pl f b 0 (sn f)
def st' (f : FF) (w : Int32) : Nat → Int32
  | 0 => 0
  | n + 1 => st' f w n + (if f (133 + 6 * n + 1) = w then 1 else 0)
def ac (f : FF) : Nat → Int32
  | 0 => 0
  | n + 1 => ac f n + f (13 + 6 * n + 0)
def br (f : FF) : Nat → Int32
  | 0 => 0
  | n + 1 => br f n + f (49 + 14 * n + 2)
def wetI (f : FF) (d : Int32) : Int32 := (421 * (d + f 2) + 1663 - (421 * (d + f 2) + 1663) / 10000 * 10000) / 16 - (421 * (d + f 2) + 1663 - (421 * (d + f 2) + 1663) / 10000 * 10000) / 16 / 4 * 4
/-- whether a day is wet, as an int -/
def wet (f : FF) (d : Int32) : Int32 := if wetI f d = 0 then 1 else 0
def seaI (d : Int32) : Int32 := (d - d / 360 * 360) / 90
theorem nI_inj {a b : Nat} (ha : a < 2 ^ 31) (hb : b < 2 ^ 31) (h : nI a = nI b) : a = b := (nI_eq ha hb).mp h
theorem i_lt0 {x : Int32} : x < 0 ↔ x.toInt < 0 := by rw [Int32.lt_iff_toInt_lt]; rfl
/-- an index that is not below 0 and not at or above N -/
theorem i_nat {x : Int32} {N : Nat} (hN : N < 2 ^ 31) (h0 : ¬ x < 0) (h1 : ¬ nI N ≤ x) : ∃ i, i < N ∧ x = nI i := by
  obtain ⟨j, hj, rfl⟩ := nI_of h0
  exact ⟨j, by rcases Nat.lt_or_ge j N with h | h; exact h; exact absurd (nI_le h hj) h1, rfl⟩
theorem z_add (x : Int32) : x + 0 = x := Int32.add_zero x
theorem ind_m {α : Type} (μ : α → Nat) {p : α → Prop} (h : ∀ a, (∀ b, μ b < μ a → p b) → p a) (a : α) : p a := by
  have key : ∀ (n : Nat) (a : α), μ a < n → p a := by
    intro n
    induction n with
    | zero => intro a ha; exact absurd ha (Nat.not_lt_zero _)
    | succ n ih => intro a ha; exact h a (fun b hb => ih b (by omega))
  exact key (μ a + 1) a (Nat.lt_succ_self _)
theorem i_le {a b : Nat} (ha : a < 2 ^ 31) (hb : b < 2 ^ 31) (h : nI a ≤ nI b) : a ≤ b := (nI_leI ha hb).mp h
theorem i_nle {a b : Nat} (ha : a < 2 ^ 31) (hb : b < 2 ^ 31) (h : ¬ nI a ≤ nI b) : b < a := Nat.not_le.mp fun h2 => h ((nI_leI ha hb).mpr h2)
theorem i_lt {a b : Nat} (ha : a < 2 ^ 31) (hb : b < 2 ^ 31) (h : nI a < nI b) : a < b := (nI_ltI ha hb).mp h
theorem i_nlt {a b : Nat} (ha : a < 2 ^ 31) (hb : b < 2 ^ 31) (h : ¬ nI a < nI b) : b ≤ a := Nat.not_lt.mp fun h2 => h ((nI_ltI ha hb).mpr h2)
theorem if0 {c : Prop} [Decidable c] (h : (if c then (1 : Int32) else 0) = 0) : ¬ c := fun hc => by rw [if_pos hc] at h; cases h
theorem if1 {c : Prop} [Decidable c] (h : ¬ (if c then (1 : Int32) else 0) = 0) : c := Decidable.byContradiction fun hc => h (if_neg hc)
/-- sums, and the best, of the first n of a row -/
def sm (g : FF) : Nat → Int32
  | 0 => 0
  | n + 1 => sm g n + g n
def bfm (g : FF) : Nat → Int32 × Int32
  | 0 => (-100000005, 0)
  | n + 1 => if (bfm g n).2 < g n then (nI n, g n) else bfm g n
/-- of the memory only what is said goes on -/
theorem g_memo {X : GX} {D : va_G} {cy : Nat → ClassId} {B cells slots n : Nat} {M : MM} {P : PP} {pc : Nat} {lv : List (Option Value)} {st : List Value} (I : MM → Prop) (h : I M) (k : ∀ M0, I M0 → G X D cy B cells slots n M0 P pc lv st) : G X D cy B cells slots n M P pc lv st := k M h
/-! the reference's part -/
theorem ix3 (a b i k : Nat) : nI a + nI b * nI i + nI k = nI (a + b * i + k) := by rw [pk_mul, nI_add, nI_add]
theorem ix2 (b i k : Nat) : nI b * nI i + nI k = nI (b * i + k) := by rw [pk_mul, nI_add]
/-- the charge of h hours on the day d -/
def chI (rate h d : Int32) : Int32 := FP.f2i (FP.fmul (FP.i2f (h * rate)) (facU (seaI d)))
def chg (lic kind rate d h : Int32) : Int32 := if (lic >>> (kind &&& 31)) &&& 1 = 1 then chI rate h d else chI rate h d + 6 * h
/-- whether a machine can work now, as an int -/
def canI (f : FF) (m : Nat) (h : Int32) : Int32 := if (f (49 + 14 * m + 0) = 0 ∨ wet f (f 3) = 0) ∧ f (49 + 14 * m + 2) = 0 ∧ ¬ Op.cmpValue (FP.fcmp (f (49 + 14 * m + 6)).toUInt32 (wantU (f (49 + 14 * m + 0)) h)) .l < 0 then 1 else 0
/-- in how many days, from i on, there is room for h hours of the machine m -/
def po (f : FF) (m h : Int32) : Nat → Nat → Nat
  | i, 0 => i
  | i, n + 1 => if bkO f m (f 3 + nI i) + h ≤ 12 then i else po f m h (i + 1) n
/-- the booking at the place i is gone; n stand then -/
def dropF (f : FF) (i n : Nat) : FF := fun j => if j = 6 then nI n else if 133 + 6 * n ≤ j ∧ j < 133 + 6 * n + 6 then 0 else if 133 + 6 * i ≤ j ∧ j < 133 + 6 * n then f (j + 6) else f j
def aF (f : FF) (j : Nat) (v : Int32) : FF := up f j (f j + v)
/-- why a booking is refused: 0 if it isn't -/
def refI (f : FF) (w m i h : Int32) : Int32 := if (0 ≤ w ∧ w ≤ 5) ∧ (0 ≤ m ∧ m ≤ f 12 - 1) then (if (1 ≤ i ∧ i ≤ 99) ∧ (1 ≤ h ∧ h ≤ 12) then (if f 6 = 30 then -100000003 else if 12 < bkO f m (f 3 + i) + h then -100000004 else 0) else -100000002) else -100000001
/-- a booking is made at the place n -/
def bookF (f : FF) (n : Nat) (w m i h : Int32) : FF := aF (aF (up (up (up (up (up (up f (133 + 6 * n + 0) (f 5)) (133 + 6 * n + 1) w) (133 + 6 * n + 2) m) (133 + 6 * n + 3) (f 3 + i)) (133 + 6 * n + 4) h) (133 + 6 * n + 5) 0) 6 1) 5 1
/-- the work of a booking is done: the machine m, the farmer w, h hours, ch coins -/
def doA (f : FF) (w m : Nat) (h ch : Int32) : FF := aF (aF (aF (aF (aF (aF (up f (49 + 14 * m + 6) (FP.fsub (f (49 + 14 * m + 6)).toUInt32 (wantU (f (49 + 14 * m + 0)) h)).toInt32) (13 + 6 * w + 0) (-ch)) (13 + 6 * w + 4) ch) (13 + 6 * w + 2) h) (49 + 14 * m + 3) h) (49 + 14 * m + 4) h) (49 + 14 * m + (8 + w)) h
def doB (f : FF) (w m : Nat) (h ch : Int32) : FF := aF (if doA f w m h ch (49 + 14 * m + 3) < doA f w m h ch 0 then doA f w m h ch else up (doA f w m h ch) (49 + 14 * m + 2) 1) 7 1
/-- a booking is put off by i days -/
def poF (f : FF) (p i : Nat) : FF := aF (up (up f (133 + 6 * p + 3) (f 3 + nI i)) (133 + 6 * p + 5) (f (133 + 6 * p + 5) + 1)) 8 1
theorem aF_def (f : FF) (j : Nat) (v : Int32) : up f j (f j + v) = aF f j v := rfl
theorem doA_ne {f : FF} {w m : Nat} {h ch : Int32} {j : Nat} (h1 : j ≠ 49 + 14 * m + 6) (h2 : j ≠ 13 + 6 * w + 0) (h3 : j ≠ 13 + 6 * w + 4) (h4 : j ≠ 13 + 6 * w + 2) (h5 : j ≠ 49 + 14 * m + 3) (h6 : j ≠ 49 + 14 * m + 4) (h7 : j ≠ 49 + 14 * m + (8 + w)) : doA f w m h ch j = f j := by
  unfold doA aF
  rw [up_ne _ _ h7, up_ne _ _ h6, up_ne _ _ h5, up_ne _ _ h4, up_ne _ _ h3, up_ne _ _ h2, up_ne _ _ h1]
theorem doB_ne {f : FF} {w m : Nat} {h ch : Int32} {j : Nat} (h1 : j ≠ 49 + 14 * m + 6) (h2 : j ≠ 13 + 6 * w + 0) (h3 : j ≠ 13 + 6 * w + 4) (h4 : j ≠ 13 + 6 * w + 2) (h5 : j ≠ 49 + 14 * m + 3) (h6 : j ≠ 49 + 14 * m + 4) (h7 : j ≠ 49 + 14 * m + (8 + w)) (h8 : j ≠ 7) (h9 : j ≠ 49 + 14 * m + 2) : doB f w m h ch j = f j := by
  unfold doB
  rw [aF, up_ne _ _ h8]
  split
  · exact doA_ne h1 h2 h3 h4 h5 h6 h7
  · rw [up_ne _ _ h9]
    exact doA_ne h1 h2 h3 h4 h5 h6 h7
