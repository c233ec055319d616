/-! the world: one region of cells from the address B on; M: what the int, boolean and float fields and the int and char arrays hold; P: what the reference fields and arrays hold (0: null) -/
abbrev MM : Type := Nat → Nat → Int32
abbrev PP : Type := Nat → Nat → Nat
def up {α : Type} (f : Nat → α) (k : Nat) (v : α) : Nat → α := fun j => if j = k then v else f j
theorem up_same {α : Type} (f : Nat → α) (k : Nat) (v : α) : up f k v k = v := if_pos rfl
theorem up_ne {α : Type} (f : Nat → α) {k j : Nat} (v : α) (h : j ≠ k) : up f k v j = f j := if_neg h
theorem up_up {α : Type} (f : Nat → α) (k : Nat) (v w : α) : up (up f k v) k w = up f k w := by
  funext j
  by_cases h : j = k
  · subst h; simp [up_same]
  · simp [up_ne _ _ h]
theorem up_id {α : Type} (f : Nat → α) (k : Nat) : up f k (f k) = f := by
  funext j
  by_cases h : j = k
  · subst h; simp [up_same]
  · simp [up_ne _ _ h]
/-- the kinds of the cells of a State's part, by their places in it -/
def kS (r : Nat) : Nat := if r = 0 then 4 else if r = 1 then 10 else if r < 8 then 1 else if r = 8 then 11 else if r < 21 then (if r % 2 = 1 then 3 else 8) else if r = 21 then 12 else 0
def kd (o : Nat) : Nat := if o = 0 then 6 else if o < 157 then kS ((o - 1) % 52) else if o = 157 then 2 else if o = 158 then 13 else if o < 367 then kS ((o - 159) % 52) else if o = 367 then 5 else if o = 368 then 9 else if o = 369 then 7 else 8
def ln (o : Nat) : Nat := if o < 367 then (if kd o = 12 then 30 else if kd o = 13 then 4 else 6) else if o = 372 then 1252 else if o = 368 ∨ o = 374 ∨ o = 375 then 60 else 313
def nf (k : Nat) : Nat := match k with
  | 0 => 6
  | 1 => 6
  | 2 => 2
  | 3 => 8
  | 4 => 16
  | 5 => 7
  | 6 => 6
  | _ => 13
/-- a field's type: 0 int, 1 a reference, 2 float, 3 boolean -/
def ft (k j : Nat) : Nat := match k with
  | 2 => if j = 0 then 1 else 0
  | 3 => if j = 3 then 2 else if j = 4 then 3 else if j = 7 then 1 else 0
  | 4 => if j < 3 then 1 else 0
  | 5 => if j = 0 then 1 else 0
  | 6 => if j < 5 then 1 else 3
  | 7 => if j = 1 ∨ j = 2 ∨ j = 3 ∨ j = 5 ∨ j = 7 ∨ j = 11 then 1 else if j = 6 ∨ j = 10 then 3 else 0
  | _ => 0
def rq (B x : Nat) : Option Nat := if x = 0 then none else some (B + x)
def fv (B : Nat) (M : MM) (P : PP) (k o j : Nat) : Value := if ft k j = 1 then va_rf (rq B (P o j)) else if ft k j = 2 then .float (M o j).toUInt32 else .int (M o j)
def ce (cy : Nat → ClassId) (B : Nat) (M : MM) (P : PP) (o : Nat) : va_E :=
  if kd o < 8 then .inr (kd o, (List.range (nf (kd o))).map (fv B M P (kd o) o))
  else if kd o < 10 then .inl (cy (kd o), ln o, .inl (M o))
  else .inl (cy (kd o), ln o, .inr (.inr (.inr (.inr (fun j => rq B (P o j))))))
def wl (cy : Nat → ClassId) (B n : Nat) (M : MM) (P : PP) : va_W := (List.range n).map (fun o => (B + o, ce cy B M P o))
abbrev tyL (cy : Nat → ClassId) : List (ClassId × FieldType) := [(cy 8, .int), (cy 9, .char), (cy 10, .object RX1), (cy 11, .object RX3), (cy 12, .object RX0), (cy 13, .object RX4)]
theorem wl_get {cy : Nat → ClassId} {B n : Nat} {M : MM} {P : PP} {o : Nat} (h : o < n) : (wl cy B n M P)[o]? = some (B + o, ce cy B M P o) := by
  simp [wl, h]
theorem wl_none {cy : Nat → ClassId} {B n : Nat} {M : MM} {P : PP} {o : Nat} (h : ¬ o < n) : (wl cy B n M P)[o]? = none := by
  simp [wl]; omega
theorem wl_at {cy : Nat → ClassId} {B n : Nat} {M : MM} {P : PP} {k : Nat} {q : Nat × va_E} (h : (wl cy B n M P)[k]? = some q) : k < n ∧ q = (B + k, ce cy B M P k) := by
  by_cases hk : k < n
  · rw [wl_get hk] at h
    exact ⟨hk, (Option.some.inj h).symm⟩
  · rw [wl_none hk] at h
    cases h
theorem wl_D {cy : Nat → ClassId} {B n : Nat} {M : MM} {P : PP} : va_D (fun q => B ≤ q) (wl cy B n M P) := by
  refine ⟨fun i j p q hp hq hpq => ?_, fun k q hq => ?_⟩
  · obtain ⟨-, rfl⟩ := wl_at hp
    obtain ⟨-, rfl⟩ := wl_at hq
    dsimp only at hpq
    omega
  · obtain ⟨-, rfl⟩ := wl_at hq
    exact Nat.le_add_right _ _
theorem wl_set {cy : Nat → ClassId} {B n : Nat} {M M' : MM} {P P' : PP} {o : Nat} {e : va_E} (he : ce cy B M' P' o = e) (hne : ∀ a, a ≠ o → ce cy B M' P' a = ce cy B M P a) : (wl cy B n M P).set o (B + o, e) = wl cy B n M' P' := by
  apply List.ext_getElem?
  intro k
  by_cases hk : k < n
  · rw [wl_get hk]
    by_cases hko : o = k
    · subst hko
      rw [List.getElem?_set_self (by simp [wl]; exact hk), he]
    · rw [List.getElem?_set_ne hko, wl_get hk, hne k (fun z => hko z.symm)]
  · rw [wl_none hk]
    simp [wl]
    omega
theorem wl_push {cy : Nat → ClassId} {B n : Nat} {M : MM} {P : PP} {e : va_E} (he : ce cy B M P n = e) : wl cy B n M P ++ [(B + n, e)] = wl cy B (n + 1) M P := by
  simp [wl, List.range_succ, he]
theorem ce_M {cy : Nat → ClassId} {B : Nat} {M : MM} {P : PP} {o a : Nat} {r : Nat → Int32} (h : a ≠ o) : ce cy B (up M o r) P a = ce cy B M P a := by
  have e : up M o r a = M a := up_ne _ _ h
  have e2 : fv B (up M o r) P (kd a) a = fv B M P (kd a) a := by
    funext j
    simp only [fv, e]
  simp only [ce, e, e2]
theorem ce_P {cy : Nat → ClassId} {B : Nat} {M : MM} {P : PP} {o a : Nat} {r : Nat → Nat} (h : a ≠ o) : ce cy B M (up P o r) a = ce cy B M P a := by
  have e : up P o r a = P a := up_ne _ _ h
  have e2 : fv B M (up P o r) (kd a) a = fv B M P (kd a) a := by
    funext j
    simp only [fv, e]
  simp only [ce, e, e2]
theorem ce_obj {cy : Nat → ClassId} {B : Nat} {M : MM} {P : PP} {o k : Nat} (h : kd o = k) (hk : k < 8) : ce cy B M P o = .inr (k, (List.range (nf k)).map (fv B M P k o)) := by
  subst h
  simp only [ce, if_pos hk]
theorem ce_int {cy : Nat → ClassId} {B : Nat} {M : MM} {P : PP} {o k : Nat} (h : kd o = k) (h8 : 8 ≤ k) (hk : k < 10) : ce cy B M P o = .inl (cy k, ln o, .inl (M o)) := by
  subst h
  simp only [ce, if_neg (Nat.not_lt.mpr h8), if_pos hk]
theorem ce_ref {cy : Nat → ClassId} {B : Nat} {M : MM} {P : PP} {o k : Nat} (h : kd o = k) (hk : 10 ≤ k) : ce cy B M P o = .inl (cy k, ln o, .inr (.inr (.inr (.inr (fun j => rq B (P o j)))))) := by
  subst h
  simp only [ce, if_neg (show ¬ kd o < 8 by omega), if_neg (show ¬ kd o < 10 by omega)]
theorem fs_get {B : Nat} {M : MM} {P : PP} {k o j : Nat} (h : j < nf k) : ((List.range (nf k)).map (fv B M P k o))[j]? = some (fv B M P k o j) := by
  simp [h]
theorem fs_len {B : Nat} {M : MM} {P : PP} {k o j : Nat} (h : j < nf k) : j < ((List.range (nf k)).map (fv B M P k o)).length := by
  simp [h]
theorem fs_set {B : Nat} {M M' : MM} {P P' : PP} {k o j : Nat} {v : Value} (hv : fv B M' P' k o j = v) (hne : ∀ i, i ≠ j → fv B M' P' k o i = fv B M P k o i) : (List.range (nf k)).map (fv B M' P' k o) = ((List.range (nf k)).map (fv B M P k o)).set j v := by
  apply List.ext_getElem?
  intro i
  by_cases hi : i < nf k
  · rw [fs_get hi]
    by_cases hij : j = i
    · subst hij
      rw [List.getElem?_set_self (by simp [hi]), hv]
    · rw [List.getElem?_set_ne hij, fs_get hi, hne i (fun z => hij z.symm)]
  · simp [hi]
theorem rq_some {B x : Nat} (h : x ≠ 0) : rq B x = some (B + x) := if_neg h
/-- the links to private members of nest mates that the class uses -/
def nws (U : State) : Prop := va_Nw (.methodLinkNest RX3 47 yX6_useOf RX6) U ∧ va_Nw (.methodLinkNest RX4 135 yX6_outside RX6) U ∧ va_Nw (.methodLinkNest RX4 168 yX6_seasonOf RX6) U ∧ va_Nw (.methodLinkNest RX4 171 yX6_factorOf RX6) U ∧ va_Nw (.methodLinkNest RX4 31 yX0_init RX6) U
theorem nws.warm {s U : State} (hW : s.WarmedH U.vm) (h : nws s) : nws U := ⟨va_Nw.warmM hW h.1, va_Nw.warmM hW h.2.1, va_Nw.warmM hW h.2.2.1, va_Nw.warmM hW h.2.2.2.1, va_Nw.warmM hW h.2.2.2.2⟩
theorem nws.same {u U : State} (e : u.vm = U.vm) (h : nws u) : nws U := ⟨va_Nw.same rfl e h.1, va_Nw.same rfl e h.2.1, va_Nw.same rfl e h.2.2.1, va_Nw.same rfl e h.2.2.2.1, va_Nw.same rfl e h.2.2.2.2⟩
/-- a state holds the world: n cells of the region -/
def WU (D : va_G) (cy : Nat → ClassId) (B n : Nat) (M : MM) (P : PP) (U : State) : Prop := va_P D vwCl (wl cy B n M P) U.heap ∧ va_K D vwCl (tyL cy) U ∧ nws U
theorem WU.blind {D : va_G} {cy : Nat → ClassId} {B n : Nat} {M : MM} {P : PP} {U : State} (g : JFrame) (mk : MethodId) (a : Array Value) (h : WU D cy B n M P U) : WU D cy B n M P (U.calling g mk a) :=
  ⟨h.1, va_K.moved (u := U) (U := U.calling g mk a) (Vm.Alike.refl U.vm) h.2.1, h.2.2.same rfl⟩
/-! the locals: a list by number, none where nothing is known; no value of two words -/
def hasL (ls : Array Slot) (lv : List (Option Value)) : Prop := lv_wf ls ∧ ls.size = lv.length ∧ ∀ (i : Nat) (v : Value), lv[i]? = some (some v) → ls[i]? = some (.val v) ∧ v.category = 1
def lwl : Nat → List (Option Value) → List (Nat × Value)
  | _, [] => []
  | i, none :: r => lwl (i + 1) r
  | i, some v :: r => (i, v) :: lwl (i + 1) r
theorem lwl_mem : ∀ (lv : List (Option Value)) (i j : Nat) (v : Value), (j, v) ∈ lwl i lv ↔ i ≤ j ∧ lv[j - i]? = some (some v)
  | [], i, j, v => by simp [lwl]
  | none :: r, i, j, v => by
    rw [lwl, lwl_mem r (i + 1) j v]
    constructor
    · rintro ⟨h1, h2⟩
      refine ⟨by omega, ?_⟩
      rw [show j - i = (j - (i + 1)) + 1 by omega]
      exact h2
    · rintro ⟨h1, h2⟩
      by_cases hji : j = i
      · subst hji
        simp at h2
      · refine ⟨by omega, ?_⟩
        rw [show j - i = (j - (i + 1)) + 1 by omega] at h2
        exact h2
  | some w :: r, i, j, v => by
    rw [lwl, List.mem_cons, lwl_mem r (i + 1) j v]
    constructor
    · rintro (h | ⟨h1, h2⟩)
      · cases h
        exact ⟨Nat.le_refl _, by simp⟩
      · refine ⟨by omega, ?_⟩
        rw [show j - i = (j - (i + 1)) + 1 by omega]
        exact h2
    · rintro ⟨h1, h2⟩
      by_cases hji : j = i
      · subst hji
        simp at h2
        exact Or.inl (by rw [h2])
      · refine Or.inr ⟨by omega, ?_⟩
        rw [show j - i = (j - (i + 1)) + 1 by omega] at h2
        exact h2
theorem hasL.lv {ls : Array Slot} {lv : List (Option Value)} (h : hasL ls lv) : lv_has ls lv.length (lwl 0 lv) := by
  refine ⟨h.2.1, h.1, fun q hq => ?_⟩
  obtain ⟨j, v⟩ := q
  have := ((lwl_mem lv 0 j v).mp hq).2
  exact (h.2.2 j v (by simpa using this)).1
theorem hasL.at {ls : Array Slot} {lv : List (Option Value)} (h : hasL ls lv) {i : Nat} {v : Value} (hi : lv[i]? = some (some v)) : ls[i]? = some (.val v) := (h.2.2 i v hi).1
theorem hasL.of {ls : Array Slot} {n : Nat} {l : List (Nat × Value)} {lv : List (Option Value)} (h : lv_has ls n l) (hn : lv.length = n) (hl : ∀ (i : Nat) (v : Value), lv[i]? = some (some v) → (i, v) ∈ l ∧ v.category = 1) : hasL ls lv :=
  ⟨h.2.1, h.1.trans hn.symm, fun i v hi => ⟨h.2.2 (i, v) (hl i v hi).1, (hl i v hi).2⟩⟩
theorem hasL.set {ls ls' : Array Slot} {lv : List (Option Value)} (h : hasL ls lv) {i : Nat} {v : Value} (hv : v.category = 1) (h' : lv_has ls' lv.length ((i, v) :: (lwl 0 lv).filter (fun q => !(q.1 == i) && !(q.1 + 1 == i && q.2.category == 2)))) : hasL ls' (lv.set i (some v)) := by
  refine hasL.of h' (by simp) fun j w hj => ?_
  by_cases hji : i = j
  · subst hji
    have hlt : i < lv.length := by
      have := (List.getElem?_eq_some_iff.mp hj).1
      simpa using this
    rw [List.getElem?_set_self hlt] at hj
    cases hj
    exact ⟨List.mem_cons_self, hv⟩
  · rw [List.getElem?_set_ne hji] at hj
    have hc := (h.2.2 j w hj).2
    refine ⟨List.mem_cons_of_mem _ (List.mem_filter.mpr ⟨(lwl_mem lv 0 j w).mpr ⟨Nat.zero_le _, by simpa using hj⟩, ?_⟩), hc⟩
    have : ¬ j = i := fun z => hji z.symm
    simp [this, hc]
theorem hasL.less {ls : Array Slot} {lv lv' : List (Option Value)} (h : hasL ls lv) (hn : lv'.length = lv.length) (hl : ∀ (i : Nat) (v : Value), lv'[i]? = some (some v) → lv[i]? = some (some v)) : hasL ls lv' :=
  ⟨h.1, h.2.1.trans hn.symm, fun i v hi => h.2.2 i v (hl i v hi)⟩
/-! the judgement -/
abbrev GX : Type := Program × Launch × Env × Room × State × MethodId × Array Value × List Frame × Method × Code × (State → Prop)
def G (X : GX) (D : va_G) (cy : Nat → ClassId) (B cells slots n : Nat) (M : MM) (P : PP) (pc : Nat) (lv : List (Option Value)) (st : List Value) : Prop := match X with
  | (p, l, e, R, s, m, args, below, meth, c, Q) => ∀ (H : Heap) (locs : List Loc) (ls : Array Slot), va_P D vwCl (wl cy B n M P) H → va_S (fun q => B ≤ q) s.heap H locs → hasL ls lv → W p l e R s m args below meth c H locs cells slots Q (F0 m pc ls st)
def Cx (X : GX) (D : va_G) (cy : Nat → ClassId) (B : Nat) (cc : ByteArray) (nL : Nat) (own : String) (Ts : List Cond) (l0 : Launch) (fr lo rc rs : Nat) : Prop := match X with
  | (p, l, _, R, s, m, args, _, _, c, _) => p.tables.exec = Jvm.exec ∧ c.code = cc ∧ c.maxLocals = nL ∧ s.vm.findClass own = some m.cls ∧ (∀ w ∈ Ts, w.before args s = true) ∧ va_K D vwCl (tyL cy) s ∧ nws s ∧ R.frames = fr ∧ R.locals = lo ∧ R.cells = rc ∧ R.slots = rs ∧ l = l0 ∧ (∀ q : Nat, s.heap.size ≤ q → B ≤ q)
/-- what a method's end asks: it returns, and Qc holds -/
def Fx (X : GX) (mc ms B : Nat) (ret : Option FieldType) (Qc : Array Value → State → Outcome → State → Prop) : Prop := match X with
  | (_, _, _, _, s, _, args, below, meth, _, Q) => Q = MQ below Qc args s mc ms (fun q => B ≤ q) ∧ meth.sig.returnType = ret ∧ meth.locks = false
