/-! making: new objects, new arrays, constructors -/
def AO4 (U : State) : Prop := va_AO RX1 U ∧ va_AO RX3 U ∧ va_AO RX0 U ∧ va_AO RX4 U
theorem AO4.moved {u U : State} (hvm : u.vm.Alike U.vm) (h : AO4 u) : AO4 U := ⟨h.1.moved hvm, h.2.1.moved hvm, h.2.2.1.moved hvm, h.2.2.2.moved hvm⟩
/-- the method began with k0 cells of the region -/
def Nx (X : GX) (B k0 : Nat) : Prop := match X with | (_, _, _, _, s, _, _, _, _, _, _) => s.heap.size = B + k0 ∧ AO4 s
/-- it's a constructor -/
def Ix (X : GX) : Prop := match X with | (_, _, _, _, _, _, _, _, meth, _, _) => meth.name = "<init>"
/-- an object's fields when it's new -/
def zl (ci : Nat) : List Value := (List.range (nf ci)).map (fun j => if ft ci j = 1 then va_rf none else if ft ci j = 2 then .float 0 else .int 0)
def NW (Ts : List Cond) (own : String) (index ci : Nat) : Prop := ∃ (C' : String) (T : u_T) (ty : Nat → FieldType), vwCl[ci]? = some (C', T, nf ci) ∧ (∀ w ∈ u_ws C' T (nf ci), w ∈ Ts) ∧ (∀ k, k < nf ci → parseFieldDescriptor (T k).2.2.1 = some (ty k)) ∧ Cond.classLink own index C' ∈ Ts ∧ Cond.instantiable C' (nf ci) ∈ Ts ∧ Cond.initialized C' ∈ Ts ∧ (∀ j, j < nf ci → defaultValue (ty j) = vp_V (zl ci) j) ∧ ci < 8
def EI (Ts : List Cond) (own : String) (index : Nat) (y : MethodName) (ws : List Cond) (fr lo fr0 lo0 : Nat) : Prop := ∃ (bytes : ByteArray) (maxL : Nat) (ws' : List Cond), GoodIn Ts ws ∧ ws = Cond.code y bytes maxL none :: ws' ∧ Cond.initialized y.cls ∈ Ts ∧ Cond.instanceMethod y ∈ Ts ∧ y.name = "<init>" ∧ (y.cls ≠ "java/lang/invoke/MethodHandle" ∧ y.cls ≠ "java/lang/invoke/VarHandle" ∧ (parseMethodDescriptor y.desc).map (fun d => d.parameters.length) = some 0) ∧ (fr + 1 ≤ fr0 ∧ 8 + (maxL + 11) + lo ≤ lo0)
/-- a constructor's contract: it makes ce cells of sl slots, the region grows from n0 to n1 -/
def KC (l : Launch) (D : va_G) (cy : Nat → ClassId) (B : Nat) (y : MethodName) (ws : List Cond) (fr lo ce sl n0 n1 : Nat) (as : List Value) (M : MM) (P : PP) (post : MM → PP → Prop) : Prop := Met l y ws ({ frames := fr, cells := ce, slots := sl, locals := lo } : Room) (va_Pc as (fun U => WU D cy B n0 M P U ∧ (U.heap.size = B + n0 ∧ AO4 U))) (va_Qv (fun (u : MM × PP) => post u.1 u.2) (fun u t => WU D cy B n1 u.1 u.2 t) (fun q => B ≤ q)) ce sl (fun q => B ≤ q)
theorem Hsz {p : Program} {l : Launch} {e : Env} {R : Room} {s : State} {m : MethodId} {args : Array Value} {below : List Frame} {meth : Method} {c : Code} {T : State} {locs : List Loc} {cells slots : Nat} {D : va_G} {cy : Nat → ClassId} {B n k0 : Nat} {M : MM} {P : PP} {H : Heap} (XS : Stand p l e R s m args below meth c T locs cells slots) (hT : T.heap = H) (hP : va_P D vwCl (wl cy B n M P) H) (hS : va_S (fun q => B ≤ q) s.heap H locs) (h0 : s.heap.size = B + k0) (hz : k0 + cells = n) : H.size = B + n := by
  have h1 := XS.heapSize
  rw [hT] at h1
  rcases Nat.eq_zero_or_pos n with e | e
  · have := hS.1
    omega
  · have h2 := (hP (n - 1) _ (wl_get (show n - 1 < n by omega))).lt
    dsimp only at h2
    omega
theorem ce_new {cy : Nat → ClassId} {B n ci : Nat} {M : MM} {P : PP} (hk : kd n = ci) (h8 : ci < 8) (hM : M n = fun _ => 0) (hP : P n = fun _ => 0) : ce cy B M P n = .inr (ci, zl ci) := by
  rw [ce_obj hk h8]
  refine congrArg (fun z => Sum.inr (ci, z)) ?_
  unfold zl
  refine congrArg (fun z => List.map z _) ?_
  funext j
  unfold fv
  rw [hM, hP]
  rfl
section GN
variable {X : GX} {D : va_G} {cy : Nat → ClassId} {B cells slots n k0 : Nat} {M : MM} {P : PP} {cc : ByteArray} {nL : Nat} {own : String} {Ts : List Cond} {fr lo rc rs pc : Nat} {lv : List (Option Value)} {st : List Value} {l0 : Launch}
theorem g_at {c2 s2 n2 : Nat} (hc : cells = c2) (hs : slots = s2) (hn : n = n2) (k : G X D cy B c2 s2 n2 M P pc lv st) : G X D cy B cells slots n M P pc lv st := by
  subst hc; subst hs; subst hn; exact k
theorem g_widen {c2 s2 : Nat} (hc : cells ≤ c2) (hs : slots ≤ s2) (k : G X D cy B c2 s2 n M P pc lv st) : G X D cy B cells slots n M P pc lv st := by
  obtain ⟨p, l, e, R, s, m, args, below, meth, c, Q⟩ := X
  intro H locs ls hP hS hl
  exact W.widen (k := c2) (n := s2) hc hs (k H locs ls hP hS hl)
theorem g_new (C : Cx X D cy B cc nL own Ts l0 fr lo rc rs) (Z : Nx X B k0) {index ci N : Nat} (nw : NW Ts own index ci) (hN : nf ci = N) (hd : decode cc pc = .ok (.new index, 3)) (hz : k0 + cells = n) (hk : kd n = ci) (hM : M n = fun _ => 0) (hP0 : P n = fun _ => 0) (hc : cells + 1 ≤ rc) (hs : slots + N ≤ rs) (k : G X D cy B (cells + 1) (slots + N) (n + 1) M P (pc + 3) lv (Value.ref (B + n) :: st)) : G X D cy B cells slots n M P pc lv st := by
  subst hN
  obtain ⟨p, l, e, R, s, m, args, below, meth, c, Q⟩ := X
  obtain ⟨hx, hb, hml, hown, hts, hK, hNw, hRf, hRl, hRc, hRs, hll, hBs⟩ := C
  obtain ⟨C', T', ty, h1, h2, h3, h4, h5, h6, h7, h8⟩ := nw
  intro H locs ls hP hS hl T hT XS
  have hH : H.size = B + n := Hsz XS hT hP hS Z.1 hz
  have hKn := hK.1 ci _ h1
  refine W.newcK hx hb hown (hts _ h4) (hts _ h5) (hts _ h6) (g := F0 m pc ls st) rfl hd (by rw [hRc]; exact hc) (by rw [hRs]; exact hs) hKn.2.1 hH (fun H1 kC hkC e1 z1 o1 => ?_) T hT XS
  have hkk : ∀ (j : Nat) (x : Nat × va_E), (wl cy B n M P)[j]? = some x → H1[x.1]? = H[x.1]? := fun j x hx => o1 x.1 (by have := (hP j x hx).lt; omega)
  refine k H1 locs ls ?_ ⟨by have := hS.1; omega, fun x g1 g2 => (o1 x (by have := hS.1; omega)).trans (hS.2.1 x g1 g2), hS.2.2⟩ hl
  rw [← wl_push (ce_new hk h8 hM hP0)]
  refine (hP.kept hkk).app (fun j x hx => ?_)
  have hz : j < 1 := (List.getElem?_eq_some_iff.mp hx).1
  rw [show j = 0 by omega] at hx
  cases hx
  exact ⟨_, h1, (u_born ty hts h2 hKn hkC e1 h3).to h7⟩
theorem ce_newi {cy : Nat → ClassId} {B n k8 : Nat} {M : MM} {P : PP} (hk : kd n = k8) (h8 : 8 ≤ k8) (h10 : k8 < 10) (hM : M n = fun _ => 0) : ce cy B M P n = .inl (cy k8, ln n, .inl (fun _ => 0)) := by
  rw [ce_int hk h8 h10, hM]
theorem g_newi (C : Cx X D cy B cc nL own Ts l0 fr lo rc rs) (Z : Nx X B k0) {atp : ArrayType} {ty : FieldType} {k8 L : Nat} {x : Int32} (hty : newarray.typeOf atp = ty) (hq : (k8 = 8 ∧ ty = .int) ∨ (k8 = 9 ∧ ty = .char)) (harr : Cond.arrayClass ty ∈ Ts) (hd : decode cc pc = .ok (.newarray atp, 2)) (hz : k0 + cells = n) (hk : kd n = k8) (hL : ln n = L) (hx0 : x = nI L) (hLb : L ≤ 2000) (hM : M n = fun _ => 0) (hc : cells + 1 ≤ rc) (hs : slots + L ≤ rs) (k : G X D cy B (cells + 1) (slots + L) (n + 1) M P (pc + 2) lv (Value.ref (B + n) :: st)) : G X D cy B cells slots n M P pc lv (Value.int x :: st) := by
  obtain ⟨p, l, e, R, s, m, args, below, meth, c, Q⟩ := X
  obtain ⟨hx, hb, hml, hown, hts, hK, hN, hRf, hRl, hRc, hRs, hll, hBs⟩ := C
  subst hty
  subst hx0
  intro H locs ls hP hS hl T hT XS
  have hH : H.size = B + n := Hsz XS hT hP hS Z.1 hz
  have hcb : L * componentBytes (newarray.typeOf atp) ≤ 536870912 := by
    rcases hq with ⟨-, h⟩ | ⟨-, h⟩ <;> rw [h]
    · show L * 4 ≤ 536870912
      omega
    · show L * 2 ≤ 536870912
      omega
  refine va_newaK hx hb (hts _ harr) (g := F0 m pc ls (Value.int (nI L) :: st)) rfl hd rfl (nI_pos (by omega)) (nI_clamp (by omega)) hcb (by rw [hRc]; exact hc) (by rw [hRs]; exact hs) hH (fun H1 cA e1 z1 o1 hAr hNm => ?_) T hT XS
  have hkk : ∀ (j : Nat) (x : Nat × va_E), (wl cy B n M P)[j]? = some x → H1[x.1]? = H[x.1]? := fun j x hx => o1 x.1 (by have := (hP j x hx).lt; omega)
  refine k H1 locs ls ?_ ⟨by have := hS.1; omega, fun x g1 g2 => (o1 x (by have := hS.1; omega)).trans (hS.2.1 x g1 g2), hS.2.2⟩ hl
  have hcA : cA = cy k8 := by
    rcases hq with ⟨rfl, h⟩ | ⟨rfl, h⟩
    · have g : s.vm.findClass ("[" ++ (FieldType.int).toString) = some (cy 8) := (hK.2 0 _ rfl).2
      rw [h] at hNm
      exact Option.some.inj (hNm.symm.trans g)
    · have g : s.vm.findClass ("[" ++ (FieldType.char).toString) = some (cy 9) := (hK.2 1 _ rfl).2
      rw [h] at hNm
      exact Option.some.inj (hNm.symm.trans g)
  have h89 : 8 ≤ k8 ∧ k8 < 10 := by omega
  rw [← wl_push (ce_newi hk h89.1 h89.2 hM)]
  refine (hP.kept hkk).app (fun j x hx => ?_)
  have hz : j < 1 := (List.getElem?_eq_some_iff.mp hx).1
  rw [show j = 0 by omega] at hx
  cases hx
  show H1[B + n]? = some (vp_cell _ _)
  rw [e1, hcA, hL, vp_cell_i]
  rcases hq with ⟨-, h⟩ | ⟨-, h⟩ <;> rw [h] <;> rfl
theorem ce_newq {cy : Nat → ClassId} {B n q : Nat} {M : MM} {P : PP} (hk : kd n = q) (h10 : 10 ≤ q) (hP : P n = fun _ => 0) : ce cy B M P n = .inl (cy q, ln n, .inr (.inr (.inr (.inr (fun _ => none))))) := by
  rw [ce_ref hk h10, hP]
  rfl
theorem g_newq (C : Cx X D cy B cc nL own Ts l0 fr lo rc rs) (Z : Nx X B k0) {index q L : Nat} {C' : String} {x : Int32} (hq : (q = 10 ∧ C' = RX1) ∨ (q = 11 ∧ C' = RX3) ∨ (q = 12 ∧ C' = RX0) ∨ (q = 13 ∧ C' = RX4)) (hlk : Cond.classLink own index C' ∈ Ts) (hd : decode cc pc = .ok (.anewarray index, 3)) (hz : k0 + cells = n) (hk : kd n = q) (hL : ln n = L) (hx0 : x = nI L) (hLb : L ≤ 2000) (hP0 : P n = fun _ => 0) (hc : cells + 1 ≤ rc) (hs : slots + L ≤ rs) (k : G X D cy B (cells + 1) (slots + L) (n + 1) M P (pc + 3) lv (Value.ref (B + n) :: st)) : G X D cy B cells slots n M P pc lv (Value.int x :: st) := by
  obtain ⟨p, l, e, R, s, m, args, below, meth, c, Q⟩ := X
  obtain ⟨hx, hb, hml, hown, hts, hK, hN, hRf, hRl, hRc, hRs, hll, hBs⟩ := C
  subst hx0
  intro H locs ls hP hS hl T hT XS
  have hH : H.size = B + n := Hsz XS hT hP hS Z.1 hz
  have hover : va_AO C' s := by
    have z := Z.2
    rcases hq with ⟨-, rfl⟩ | ⟨-, rfl⟩ | ⟨-, rfl⟩ | ⟨-, rfl⟩
    · exact z.1
    · exact z.2.1
    · exact z.2.2.1
    · exact z.2.2.2
  have hf : s.vm.findClass ("[" ++ (FieldType.object C').toString) = some (cy q) := by
    rcases hq with ⟨rfl, rfl⟩ | ⟨rfl, rfl⟩ | ⟨rfl, rfl⟩ | ⟨rfl, rfl⟩
    · obtain ⟨_, _, _, _, _, g⟩ := (hK.2 2 _ rfl).2
      exact g
    · obtain ⟨_, _, _, _, _, g⟩ := (hK.2 3 _ rfl).2
      exact g
    · obtain ⟨_, _, _, _, _, g⟩ := (hK.2 4 _ rfl).2
      exact g
    · obtain ⟨_, _, _, _, _, g⟩ := (hK.2 5 _ rfl).2
      exact g
  have hcl : (nI L).toNatClampNeg = L := nI_clamp (by omega)
  refine W.anew hx hb hown (hts _ hlk) (va_AO.use hover) (g := F0 m pc ls (Value.int (nI L) :: st)) rfl hd rfl (nI_pos (by omega)) (by rw [hcl]; omega) (by rw [hRc]; exact hc) (by rw [hRs, hcl]; exact hs) (fun cA kA comp f1 f2 f3 f4 => ?_) T hT XS
  rw [hcl, hH]
  have hcA : cA = cy q := Option.some.inj (f1.symm.trans hf)
  generalize hH1 : H.push ({ cls := cA, slots := Array.replicate L .null, vm := .none } : Cell) = H1
  have z1 : H1.size = B + n + 1 := by rw [← hH1, Array.size_push, hH]
  have e1 : H1[B + n]? = some (arrV cA L (fun _ => .null)) := by rw [← hH1, ← hH, Array.getElem?_push_size, ← arrV_new]
  have o1 : ∀ q : Nat, q < B + n → H1[q]? = H[q]? := fun q hq => by rw [← hH1, Array.getElem?_push, if_neg (by omega)]
  have hkk : ∀ (j : Nat) (x : Nat × va_E), (wl cy B n M P)[j]? = some x → H1[x.1]? = H[x.1]? := fun j x hx => o1 x.1 (by have := (hP j x hx).lt; omega)
  refine k H1 locs ls ?_ ⟨by have := hS.1; omega, fun x g1 g2 => (o1 x (by have := hS.1; omega)).trans (hS.2.1 x g1 g2), hS.2.2⟩ hl
  rw [← wl_push (ce_newq hk (by omega) hP0)]
  refine (hP.kept hkk).app (fun j x hx => ?_)
  have hz : j < 1 := (List.getElem?_eq_some_iff.mp hx).1
  rw [show j = 0 by omega] at hx
  cases hx
  show H1[B + n]? = some (vp_cell _ _)
  rw [e1, hcA, hL, vp_cell_q]
  rfl
theorem g_putF (C : Cx X D cy B cc nL own Ts l0 fr lo rc rs) (I : Ix X) {index ci j o v : Nat} {ty : FieldType} (hf : PF Ts own index ci j 1 true ty) (hd : decode cc pc = .ok (.putfield index, 3)) (hnr : narrow ty (.ref (B + v)) = .ref (B + v)) (hfit : fits ty (.ref (B + v)) = true) (ho : kk n o ci) (hv0 : v ≠ 0) (k : G X D cy B cells slots n M (up P o (up (P o) j v)) (pc + 3) lv st) : G X D cy B cells slots n M P pc lv (Value.ref (B + v) :: Value.ref (B + o) :: st) := by
  obtain ⟨p, l, e, R, s, m, args, below, meth, c, Q⟩ := X
  obtain ⟨hx, hb, hml, hown, hts, hK, hN, hRf, hRl, hRc, hRs, hll, hBs⟩ := C
  intro H locs ls hP hS hl
  obtain ⟨C', T, N, ty0, h1, h2, h3, h4, h5, h6, h7, h8, h9, h10, h11, h12⟩ := hf
  refine va_putF (D := D) hx hb hts h2 ty0 h8 h9 hown hK hP wl_D hS o ((wl_get ho.1).trans (by rw [ce_obj ho.2 h5])) h1 j h3 (hts _ h4) (fun _ h => h) h10 I (h12 rfl) h11 hnr hfit (fs_len h6) hd (fun H1 locs1 hP1 hD1 hS1 => ?_)
  rw [wl_set (M' := M) (P' := (up P o (up (P o) j v))) (ce_put ho.2 h5 (by rw [fv_r h7 (by rw [up_same, up_same]) hv0]) (fun i hi => fv_P hi)) (fun a ha => ce_P ha)] at hP1
  exact k H1 locs1 ls hP1 hS1 hl
theorem g_objInit (C : Cx X D cy B cc nL own Ts l0 fr lo rc rs) {index x : Nat} (h1 : Cond.methodLink own index objectInit ∈ Ts) (h2 : Cond.instanceMethod objectInit ∈ Ts) (h3 : Cond.code objectInit ⟨#[0xb1]⟩ 1 none ∈ Ts) (hd : decode cc pc = .ok (.invokespecial index, 3)) (hnl : lv.length = nL) (hf : 1 ≤ fr) (hlo : (st.map fun v => v.category).sum + 12 ≤ lo) (k : G X D cy B cells slots n M P (pc + 3) lv st) : G X D cy B cells slots n M P pc lv (Value.ref x :: st) := by
  obtain ⟨p, l, e, R, s, m, args, below, meth, c, Q⟩ := X
  obtain ⟨hx, hb, hml, hown, hts, hK, hN, hRf, hRl, hRc, hRs, hll, hBs⟩ := C
  intro H locs ls hP hS hl
  refine W.objInit hx hb hown (hts _ h1) (hts _ h2) (hts _ h3) (g := F0 m pc ls (Value.ref x :: st)) rfl (by rw [hml]; exact hl.2.1.trans hnl) rfl hd (by rw [hRf]; exact hf) (by rw [hRl]; show 2 * 0 + _ + 12 ≤ lo; omega) ?_
  exact k H locs ls hP hS hl
theorem g_callI (C : Cx X D cy B cc nL own Ts l0 fr lo rc rs) (Z : Nx X B k0) {index fr1 lo1 ce sl n1 o : Nat} {y : MethodName} {ws : List Cond} {post : MM → PP → Prop} (ev : EI Ts own index y ws fr1 lo1 fr lo) (hlk : Cond.methodLink own index y ∈ Ts) (hd : decode cc pc = .ok (.invokespecial index, 3)) (hM : KC l0 D cy B y ws fr1 lo1 ce sl n n1 [Value.ref (B + o)] M P post) (hz : k0 + cells = n) (hcat : (st.map fun v => v.category).sum ≤ 8) (hnl : lv.length = nL) (hc : cells + ce ≤ rc) (hs : slots + sl ≤ rs) (kk' : ∀ (M' : MM) (P' : PP), post M' P' → G X D cy B (cells + ce) (slots + sl) n1 M' P' (pc + 3) lv st) : G X D cy B cells slots n M P pc lv (Value.ref (B + o) :: st) := by
  obtain ⟨p, l, e, R, s, m, args, below, meth, c, Q⟩ := X
  obtain ⟨hx, hb, hml, hown, hts, hK, hN, hRf, hRl, hRc, hRs, hll, hBs⟩ := C
  intro H locs ls hP hS hl T hT XS
  have hH : H.size = B + n := Hsz XS hT hP hS Z.1 hz
  subst hll
  obtain ⟨bytes, maxL, ws', e1, e2, e3, e4, e5, e6, e7⟩ := ev
  refine va_callv (va_runI (As := []) (rest := st) ⟨hx, hb, hml, hown, hts⟩ hM (cwI 0 hts e1 e2 rfl rfl (hts _ e3) (hts _ hlk) (hts _ e4) e5 e6 (by rw [hRf, hRl]; exact e7)) ⟨fun a U g mk q => ⟨q.1, q.2.1.blind g mk a, q.2.2.1, AO4.moved (u := U) (U := U.calling g mk a) (Vm.Alike.refl U.vm) q.2.2.2⟩, fun U hU hW => ⟨rfl, ⟨by rw [hU]; exact hP, va_K.moved hW.alike hK, nws.warm hW hN⟩, by rw [hU]; exact hH, Z.2.moved hW.alike⟩⟩ rfl rfl (hl.2.1.trans hnl) rfl (lv_room hcat) hd ⟨by rw [hRc]; exact hc, by rw [hRs]; exact hs⟩) hS (fun q _ h => h) (fun q h => h) (fun u t H1 locs1 ht hvm hp hB hz1 hk1 hS1 => ?_) T hT XS
  exact kk' u.1 u.2 hp H1 locs1 ls (by rw [← ht]; exact hB.1) hS1 hl
theorem g_callIN (C : Cx X D cy B cc nL own Ts l0 fr lo rc rs) (Z : Nx X B k0) {index fr1 lo1 ce sl n1 o : Nat} {y : MethodName} {ws : List Cond} {post : MM → PP → Prop} (ev : EI Ts own index y ws fr1 lo1 fr lo) (hlk : ∀ s : State, nws s → va_Nw (.methodLinkNest own index y RX6) s) (hd : decode cc pc = .ok (.invokespecial index, 3)) (hM : KC l0 D cy B y ws fr1 lo1 ce sl n n1 [Value.ref (B + o)] M P post) (hz : k0 + cells = n) (hcat : (st.map fun v => v.category).sum ≤ 8) (hnl : lv.length = nL) (hc : cells + ce ≤ rc) (hs : slots + sl ≤ rs) (kk' : ∀ (M' : MM) (P' : PP), post M' P' → G X D cy B (cells + ce) (slots + sl) n1 M' P' (pc + 3) lv st) : G X D cy B cells slots n M P pc lv (Value.ref (B + o) :: st) := by
  obtain ⟨p, l, e, R, s, m, args, below, meth, c, Q⟩ := X
  obtain ⟨hx, hb, hml, hown, hts, hK, hN, hRf, hRl, hRc, hRs, hll, hBs⟩ := C
  intro H locs ls hP hS hl T hT XS
  have hH : H.size = B + n := Hsz XS hT hP hS Z.1 hz
  subst hll
  obtain ⟨bytes, maxL, ws', e1, e2, e3, e4, e5, e6, e7⟩ := ev
  refine va_callv (va_runIN (As := []) (rest := st) ⟨hx, hb, hml, hown, hts⟩ hM ⟨va_cnB 0 hts e1 e2 rfl rfl (hlk s hN) (hts _ e3) e6 (by rw [hRf, hRl]; exact e7), e5, hts _ e4⟩ ⟨fun a U g mk q => ⟨q.1, q.2.1.blind g mk a, q.2.2.1, AO4.moved (u := U) (U := U.calling g mk a) (Vm.Alike.refl U.vm) q.2.2.2⟩, fun U hU hW => ⟨rfl, ⟨by rw [hU]; exact hP, va_K.moved hW.alike hK, nws.warm hW hN⟩, by rw [hU]; exact hH, Z.2.moved hW.alike⟩⟩ rfl rfl (hl.2.1.trans hnl) rfl (lv_room hcat) hd ⟨by rw [hRc]; exact hc, by rw [hRs]; exact hs⟩) hS (fun q _ h => h) (fun q h => h) (fun u t H1 locs1 ht hvm hp hB hz1 hk1 hS1 => ?_) T hT XS
  exact kk' u.1 u.2 hp H1 locs1 ls (by rw [← ht]; exact hB.1) hS1 hl
theorem g_kret (C : Cx X D cy B cc nL own Ts l0 fr lo rc rs) {n1 : Nat} {post : MM → PP → Prop} (F : Fx X rc rs B none (va_Qv (fun (u : MM × PP) => post u.1 u.2) (fun u t => WU D cy B n1 u.1 u.2 t) (fun q => B ≤ q))) (hd : decode cc pc = .ok (.return_, 1)) (hc : cells ≤ rc) (hs : slots ≤ rs) (hn : n = n1) (h : post M P) : G X D cy B cells slots n M P pc lv [] := by
  obtain ⟨p, l, e, R, s, m, args, below, meth, c, Q⟩ := X
  obtain ⟨hx, hb, hml, hown, hts, hK, hN, hRf, hRl, hRc, hRs, hll, hBs⟩ := C
  obtain ⟨hQ, hr, hlocks⟩ := F
  intro H locs ls hP hS hl
  subst hQ
  subst hn
  refine W.widen (k := rc) (n := rs) hc hs ?_
  exact W.vret hx hb hr (fun t ht hW => ⟨⟨(M, P), rfl, h, by rw [ht]; exact hP, va_K.moved hW.alike hK, nws.warm hW hN⟩, hS.F ht⟩) hS.2.2 hd hlocks
end GN
section GK
variable {D : va_G} {cy : Nat → ClassId} {B n : Nat} {M : MM} {P : PP} {cc : ByteArray} {l0 : Launch} {y : MethodName} {ws ws' : List Cond} {fr lo maxL mc ms n1 : Nat} {as : List Value} {lv : List (Option Value)}
theorem met_KC {post : MM → PP → Prop} (hy : plainName y.cls = true) (hin : y.name = "<init>") (hw : ws = Cond.code y cc maxL none :: ws') (hc : as.all (fun v => v.category == 1) = true) (hlv : lvE as maxL = lv) (hle : as.length ≤ maxL) (hn : 0 < n)
    (body : ∀ X : GX, Cx X D cy B cc maxL y.cls ws l0 fr lo mc ms → Fx X mc ms B none (va_Qv (fun (u : MM × PP) => post u.1 u.2) (fun u t => WU D cy B n1 u.1 u.2 t) (fun q => B ≤ q)) → Nx X B n → Ix X → G X D cy B 0 0 n M P 0 lv []) : KC l0 D cy B y ws fr lo mc ms n n1 as M P post := by
  refine Met.ofW (cc := cc) (maxL := maxL) (ret := none) hy hw ?_
  intro p e s m args below meth c s₁ Bo hml hv
  obtain ⟨rfl, ⟨hP, hK, hN⟩, hpre⟩ := hv
  have hcat : ∀ v ∈ as, v.category = 1 := fun v hv => by simpa using List.all_eq_true.mp hc v hv
  have hBl : B ≤ s.heap.size := by
    have := hpre.1
    omega
  have hmn : meth.name = "<init>" := ((name_of_methodNamed Bo.named Bo.method).1).trans hin
  have := body (p, l0, e, ({ frames := fr, cells := mc, slots := ms, locals := lo } : Room), s, m, as.toArray, below, meth, c, _) ⟨Bo.exec, Bo.bytes, hml, findClass_of_methodNamed Bo.named, atoms_spec (ws := ws) Bo.pre, hK, hN, rfl, rfl, rfl, rfl, rfl, fun q hq => Nat.le_trans hBl hq⟩ ⟨rfl, Bo.returns, Bo.notSynchronized⟩ hpre hmn s.heap [] _ hP va_S.rf (hlv ▸ hasL_entry as maxL hcat hle)
  rw [lg_entry_eq]
  exact this
end GK
