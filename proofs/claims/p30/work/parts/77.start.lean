/-! THE CLAIM OUT OF ONE WALK OF THE LAW'S BODY. Your part is whole_start (and what it stands on); all else here is the same for every law, but numbers. -/
def R_law : String := "MachineRingLaw"
def lw_P (b : Addr) (xs : List Int32) (args : Array Value) (s : State) : Prop := args = #[.ref b] ∧ s.IntsAt b xs ∧ xs.length ≤ 260 ∧ (Jvm.Cond.and given_1 narrow_1).before args s = true
/-- what a walk over the start with the record d0 says of its end, said of the start itself -/
theorem lw_closed {s t : State} {o : Outcome} {d0 : Drawn} {L : List Loc} {k n : Nat} (hd0 : s.drawn.sameBut d0 lw_cs) (hv : ∃ v, o = .returned v) (hW : (s.setDrawn d0).WarmedH t.vm) (hs : (s.setDrawn d0).sameButNew ({ t with vm := s.vm } : State) L k n) : State.butDraws s t lw_cs (fun t1 => Framed s o t1 L k n) := by
  have h2 : t.drawn = d0 := congrArg State.drawn hs.1
  refine ⟨⟨hv, hW, State.sameButNew.setDrawn hs s.drawn⟩, ?_, by decide⟩
  rw [h2]
  exact hd0
def lw_Q (_ : Array Value) (s : State) (o : Outcome) (t : State) : Prop := o = .returned (some (.int 1)) ∧ State.butDraws s t lw_cs (fun t1 => Framed s o t1 [] 630155 7211782)
def lw_Z (below : List Frame) (a : Array Value) (s : State) : State → Prop := fun t => ∃ o, t.status = .running ∧ Ended t below o ∧ lw_Q a s o t
/-- the law's own end, with 1 on the stack, nothing written that was there before, its room as the claim has it; d0: the record of draws at this point (at the entry s.drawn: begin with 'refine W.base ?_' and 'have hd0 := Drawn.sameBut.refl s.drawn lw_cs') -/
theorem lw_ret {p : Program} {l : Launch} {e : Env} {s : State} {m : MethodId} {below : List Frame} {meth : Method} {c : Code} {b : Nat} {d0 : Drawn} (hd0 : s.drawn.sameBut d0 lw_cs) (hx : p.tables.exec = Jvm.exec) (hb : c.code = code) (hr : meth.sig.returnType = ret) (hlocks : meth.locks = false) {pc : Nat} {H : Heap} {ls : Array Slot} (hdg : decode code pc = .ok (.ireturn, 1)) : W p l e room_1 (s.setDrawn d0) m #[Value.ref b] below meth c H [] 630155 7211782 (lw_Z below #[Value.ref b] s) (F0 m pc ls [.int 1]) := by
  intro T hT X
  obtain ⟨fs, hret, hrun, hended, hW, hframe⟩ := X.leave (v := some (.int 1)) (hlocks := hlocks) (fun h => by rw [hr] at h; cases h)
  have hmeth' : T.vm.method? m = some meth := X.method'
  refine ⟨T.setFrames fs, ?_, .returned (some (.int 1)), hrun, hended, rfl, lw_closed hd0 ⟨_, rfl⟩ hW hframe⟩
  jvm_step X.here [X.here.top, hx, hb, hdg, hmeth', hr, ret, narrow_b1]
  (try refine ⟨rfl, ?_⟩); (try refine ⟨rfl, ?_⟩)
  first | (intro acts; rw [hret _ acts rfl rfl rfl]) | rw [hret _ _ rfl rfl rfl]
  exact Steps.refl _
/-- what holds at the law's entry: the machine, the code, the tables' words (any of lw_tbl by 'hts w (by decide +kernel)'), the script of L ints xs at the cell b, what the Statement gives of the start (any of its parts by flat_of_before) -/
def lw_At (p : Program) (s : State) (m : MethodId) (meth : Method) (c : Code) (b L : Nat) (xs : Nat → Int32) : Prop :=
  p.tables.exec = Jvm.exec ∧ c.code = code ∧ meth.sig.returnType = ret ∧ c.maxLocals = 16 ∧ s.vm.findClass R_law = some m.cls ∧ (∀ w ∈ lw_tbl, w.before #[Value.ref b] s = true) ∧ va_X b L xs s s.heap ∧ b < s.heap.size ∧ meth.locks = false ∧ (Jvm.Cond.and given_1 narrow_1).before #[Value.ref b] s = true

set_option maxRecDepth 20000 in
theorem nw_L_law_13 : NW wsL_law RL 13 6 := ⟨RX6, TX6, tyX6, rfl, inlX6, tyX6_ok, (List.mem_of_getElem? (i := 0) (by decide +kernel)), (List.mem_of_getElem? (i := 1) (by decide +kernel)), (List.mem_of_getElem? (i := 2) (by decide +kernel)), fun j hj => by
  have hj2 : j < 6 := hj
  rcases (show j = 0 ∨ j = 1 ∨ j = 2 ∨ j = 3 ∨ j = 4 ∨ j = 5 by omega) with rfl | rfl | rfl | rfl | rfl | rfl <;> rfl, by decide⟩

set_option maxRecDepth 20000 in
theorem ei_L_law_84 : EI wsL_law RL 84 yX6_init wsX6_init 4 74 9 328 := ⟨cX6_init, 1, _, gL_law_X6_init, rfl, (List.mem_of_getElem? (i := 2) (by decide +kernel)), (List.mem_of_getElem? (i := 5) (by decide +kernel)), by decide +kernel, ⟨by decide +kernel, by decide +kernel, by decide +kernel⟩, ⟨by decide, by decide⟩⟩

set_option maxRecDepth 100000 in
set_option maxHeartbeats 1000000 in
theorem law_begin {X : GX} {l : Launch} {D : va_G} {cy : Nat → ClassId} {B b L : Nat} {xs : Nat → Int32} {M : MM} {P : PP} (C : Cx X D cy B cL_law 16 RL wsL_law l 9 328 630155 7211782) (S : Sx X B b L xs) (hL : L ≤ 260) (E : ∀ (M : MM) (P : PP) (lv : List (Option Value)), G2 X D cy B 630155 7211782 369 M P 347 lv []) (j0 : JC M P A0) : G2 X D cy B 630155 7211782 369 M P 7 [some (Value.ref b), none, none, none, none, none, none, none, none, none, none, none, none, none, none, none] [Value.ref (B + 0)] := by
  refine h_astore_1 (pc := 7) C dL_law_7 (by rfl) ?_
  refine h_aload_1 (pc := 8) C dL_law_8 ?_
  refine h_V0i (pc := 9) C e_L_law_85 (Nat.le_of_ble_eq_true rfl) rfl dL_law_9 kk0 (c6_undo j0 WA_A0) (fun r1 M1 P1 q1 => ?_)
  obtain ⟨er1, j1, -⟩ := q1
  have j1 : JC M1 P1 A0 := j1
  refine h_ldc (pc := 12) (v := -100000005) C (List.mem_of_getElem? (i := 3) (by decide +kernel)) dL_law_12 ?_
  refine h_icmp_ne (pc := 14) (tgt := 33) C dL_law_14 (by decide) (fun c14 => ?_) (fun c14 => ?_)
  · exact absurd (er1.trans (show (sUndo A0).1 = -100000005 from rfl)) c14
  · refine h_aload_1 (pc := 17) C dL_law_17 ?_
    refine h_V0i (pc := 18) C e_L_law_62 (Nat.le_of_ble_eq_true rfl) rfl dL_law_18 kk0 (c6_restore j1 WA_A0) (fun r2 M2 P2 q2 => ?_)
    obtain ⟨er2, j2, -⟩ := q2
    have j2 : JC M2 P2 A0 := j2
    refine h_ldc (pc := 21) (v := -100000005) C (List.mem_of_getElem? (i := 3) (by decide +kernel)) dL_law_21 ?_
    refine h_icmp_ne (pc := 23) (tgt := 33) C dL_law_23 (by decide) (fun c23 => ?_) (fun c23 => ?_)
    · exact absurd (er2.trans (show (sRest A0).1 = -100000005 from rfl)) c23
    · refine h_aload_1 (pc := 26) C dL_law_26 ?_
      refine h_V0i (pc := 27) C e_L_law_89 (Nat.le_of_ble_eq_true rfl) rfl dL_law_27 kk0 (c6_keep j2 WA_A0) (fun r3 M3 P3 q3 => ?_)
      obtain ⟨er3, j3, -⟩ := q3
      have hA3 := WA_sKeep WA_A0
      have hh3 : HA 0 (sKeep A0).2 := ⟨Hv_f0, fun j hj => absurd hj (Nat.not_lt_zero _), fun _ => Hv_f0⟩
      refine h_if_eq (pc := 30) (tgt := 35) C dL_law_30 (by decide) (fun c30 => ?_) (fun c30 => ?_)
      · refine h_aload_1 (pc := 35) C dL_law_35 ?_
        refine h_S1le (pc := 36) C e_L_law_92 (Nat.le_of_ble_eq_true rfl) rfl dL_law_36 (l_told j3 hA3 hh3.1 (by decide)) ?_
        refine h_lstore_2 (pc := 39) C dL_law_39 (by rfl) ?_
        refine h_iconst (pc := 40) (v := 0) C dL_law_40 rfl ?_
        refine h_istore_4 (pc := 41) C dL_law_41 (by rfl) ?_
        exact law_loop C S hL E 38 0 0 M3 P3 (sKeep A0).2 rfl (by decide) j3 hA3 hh3 rfl
      · exact absurd (er3.trans (show f0 3 = 0 by decide +kernel)) c30
/-- the law's walk from its entry -/
theorem whole_start {p : Program} {e : Env} {s : State} {m : MethodId} {below : List Frame} {meth : Method} {c : Code} (l : Launch) (hflags : l.flags = flags0) {b L : Nat} {xs : Nat → Int32} (hL : L ≤ 260) (C0 : lw_At p s m meth c b L xs) : W p l e room_1 s m #[Value.ref b] below meth c s.heap [] 0 0 (lw_Z below #[Value.ref b] s) (entryFrame m ([Value.ref b] : List Value).toArray 16) := by
  obtain ⟨hx, hb, hr, hml, hown, hts, hX, hbl, hlocks, hgv⟩ := id C0
  have htw : ∀ w ∈ wsL_law, w.before #[Value.ref b] s = true := fun w hw => hts w (wsL_law_in w hw)
  obtain ⟨c0, iS0, hKn0⟩ := u_known (C := RX0) (T := TX0) (N := 6) (n := 6) htw inlX0 (hts _ (List.mem_of_getElem? (i := 103) (by decide +kernel)))
  obtain ⟨c1, iS1, hKn1⟩ := u_known (C := RX1) (T := TX1) (N := 6) (n := 6) htw inlX1 (hts _ (List.mem_of_getElem? (i := 24) (by decide +kernel)))
  obtain ⟨c2, iS2, hKn2⟩ := u_known (C := RX2) (T := TX2) (N := 2) (n := 2) htw inlX2 (hts _ (List.mem_of_getElem? (i := 201) (by decide +kernel)))
  obtain ⟨c3, iS3, hKn3⟩ := u_known (C := RX3) (T := TX3) (N := 8) (n := 8) htw inlX3 (hts _ (List.mem_of_getElem? (i := 58) (by decide +kernel)))
  obtain ⟨c4, iS4, hKn4⟩ := u_known (C := RX4) (T := TX4) (N := 16) (n := 16) htw inlX4 (hts _ (List.mem_of_getElem? (i := 17) (by decide +kernel)))
  obtain ⟨c5, iS5, hKn5⟩ := u_known (C := RX5) (T := TX5) (N := 7) (n := 7) htw inlX5 (hts _ (List.mem_of_getElem? (i := 218) (by decide +kernel)))
  obtain ⟨c6, iS6, hKn6⟩ := u_known (C := RX6) (T := TX6) (N := 6) (n := 6) htw inlX6 (hts _ (List.mem_of_getElem? (i := 9) (by decide +kernel)))
  obtain ⟨dC, dI, hKc⟩ : ∃ (dC : Nat → ClassId) (dI : Nat → Nat → Nat), ∀ (k : Nat) (q : vw_C), vwCl[k]? = some q → u_Kn s q.1 q.2.1 q.2.2 (dC k) (dI k) := by
    refine ⟨fun k => if k = 0 then c0 else if k = 1 then c1 else if k = 2 then c2 else if k = 3 then c3 else if k = 4 then c4 else if k = 5 then c5 else c6, fun k => if k = 0 then iS0 else if k = 1 then iS1 else if k = 2 then iS2 else if k = 3 then iS3 else if k = 4 then iS4 else if k = 5 then iS5 else iS6, ?_⟩
    intro k q hq
    match k, hq with
    | 0, hq => cases hq; exact hKn0
    | 1, hq => cases hq; exact hKn1
    | 2, hq => cases hq; exact hKn2
    | 3, hq => cases hq; exact hKn3
    | 4, hq => cases hq; exact hKn4
    | 5, hq => cases hq; exact hKn5
    | 6, hq => cases hq; exact hKn6
    | k + 7, hq => simp [vwCl] at hq
  have ho1 : (Cond.arrayOver (.object RX1)).before #[Value.ref b] s = true := hts _ (List.mem_of_getElem? (i := 23) (by decide +kernel))
  obtain ⟨cp1, a10, ka10, p11, p12, p13, p14, p15⟩ := Cond.arrayOver_spec ho1
  have ho3 : (Cond.arrayOver (.object RX3)).before #[Value.ref b] s = true := hts _ (List.mem_of_getElem? (i := 57) (by decide +kernel))
  obtain ⟨cp3, a11, ka11, p31, p32, p33, p34, p35⟩ := Cond.arrayOver_spec ho3
  have ho0 : (Cond.arrayOver (.object RX0)).before #[Value.ref b] s = true := hts _ (List.mem_of_getElem? (i := 102) (by decide +kernel))
  obtain ⟨cp0, a12, ka12, p01, p02, p03, p04, p05⟩ := Cond.arrayOver_spec ho0
  have ho4 : (Cond.arrayOver (.object RX4)).before #[Value.ref b] s = true := hts _ (List.mem_of_getElem? (i := 207) (by decide +kernel))
  obtain ⟨cp4, a13, ka13, p41, p42, p43, p44, p45⟩ := Cond.arrayOver_spec ho4
  have hi8 : (Cond.arrayClass .int).before #[Value.ref b] s = true := hts _ (List.mem_of_getElem? (i := 100) (by decide +kernel))
  have hi9 : (Cond.arrayClass .char).before #[Value.ref b] s = true := hts _ (List.mem_of_getElem? (i := 240) (by decide +kernel))
  obtain ⟨a8, ka8, cp8, p81, p82, p83⟩ := Cond.arrayClass_spec hi8
  obtain ⟨a9, ka9, cp9, p91, p92, p93⟩ := Cond.arrayClass_spec hi9
  have hao : AO4 s := ⟨va_AO.of ho1, va_AO.of ho3, va_AO.of ho0, va_AO.of ho4⟩
  obtain ⟨cy, hy8, hy9, hy10, hy11, hy12, hy13⟩ : ∃ cy : Nat → ClassId, cy 8 = a8 ∧ cy 9 = a9 ∧ cy 10 = a10 ∧ cy 11 = a11 ∧ cy 12 = a12 ∧ cy 13 = a13 := ⟨fun k => if k = 8 then a8 else if k = 9 then a9 else if k = 10 then a10 else if k = 11 then a11 else if k = 12 then a12 else a13, rfl, rfl, rfl, rfl, rfl, rfl⟩
  have hK : va_K (dC, dI) vwCl (tyL cy) s := by
    refine ⟨hKc, fun k q hq => ?_⟩
    match k, hq with
    | 0, hq => cases hq; exact ⟨fun n z => ⟨fun k h => (by cases h), ka8, by rw [hy8]; exact p82, cp8, p83⟩, by rw [hy8]; exact p81⟩
    | 1, hq => cases hq; exact ⟨fun n z => ⟨fun k h => (by cases h), ka9, by rw [hy9]; exact p92, cp9, p93⟩, by rw [hy9]; exact p91⟩
    | 2, hq => cases hq; exact ⟨fun n z => ⟨fun k h => (by cases h), ka10, by rw [hy10]; exact p13, cp1, p14⟩, ⟨ka10, cp1, by rw [hy10]; exact p13, p14, p11, by rw [hy10]; exact p15⟩⟩
    | 3, hq => cases hq; exact ⟨fun n z => ⟨fun k h => (by cases h), ka11, by rw [hy11]; exact p33, cp3, p34⟩, ⟨ka11, cp3, by rw [hy11]; exact p33, p34, p31, by rw [hy11]; exact p35⟩⟩
    | 4, hq => cases hq; exact ⟨fun n z => ⟨fun k h => (by cases h), ka12, by rw [hy12]; exact p03, cp0, p04⟩, ⟨ka12, cp0, by rw [hy12]; exact p03, p04, p01, by rw [hy12]; exact p05⟩⟩
    | 5, hq => cases hq; exact ⟨fun n z => ⟨fun k h => (by cases h), ka13, by rw [hy13]; exact p43, cp4, p44⟩, ⟨ka13, cp4, by rw [hy13]; exact p43, p44, p41, by rw [hy13]; exact p45⟩⟩
    | k + 6, hq => simp [tyL] at hq
  have hN : nws s := ⟨va_Nw.of rfl (hts (.methodLinkNest RX3 47 yX6_useOf RX6) (List.mem_of_getElem? (i := 507) (by decide +kernel))), va_Nw.of rfl (hts (.methodLinkNest RX4 135 yX6_outside RX6) (List.mem_of_getElem? (i := 546) (by decide +kernel))), va_Nw.of rfl (hts (.methodLinkNest RX4 168 yX6_seasonOf RX6) (List.mem_of_getElem? (i := 387) (by decide +kernel))), va_Nw.of rfl (hts (.methodLinkNest RX4 171 yX6_factorOf RX6) (List.mem_of_getElem? (i := 388) (by decide +kernel))), va_Nw.of rfl (hts (.methodLinkNest RX4 31 yX0_init RX6) (List.mem_of_getElem? (i := 104) (by decide +kernel)))⟩
  obtain ⟨B, hB⟩ : ∃ B, B = s.heap.size := ⟨_, rfl⟩
  obtain ⟨X, hXX⟩ : ∃ X : GX, X = (p, l, e, room_1, s, m, #[Value.ref b], below, meth, c, lw_Z below #[Value.ref b] s) := ⟨_, rfl⟩
  have C : Cx X (dC, dI) cy B cL_law 16 RL wsL_law l 9 328 630155 7211782 := by
    rw [hXX]
    exact ⟨hx, hb, hml, hown, htw, hK, hN, rfl, rfl, rfl, rfl, rfl, fun q hq => by rw [hB]; exact hq⟩
  have S : Sx X B b L xs := by
    rw [hXX]
    exact ⟨hX, by rw [hB]; exact hbl⟩
  have Z : Nx X B 0 := by
    rw [hXX]
    exact ⟨by rw [hB]; rfl, hao⟩
  have E : ∀ (M : MM) (P : PP) (lv : List (Option Value)), G2 X (dC, dI) cy B 630155 7211782 369 M P 347 lv [] := by
    rw [hXX]
    intro M P lv H locs ls hP hS hl
    refine lv_iconst (v := 1) hx hb dL_law_347 rfl ?_
    refine va_forget (fun q hq => by have := hS.2.2 q hq; rw [hB] at this; exact this) ?_
    exact lw_ret (d0 := s.drawn) (Drawn.sameBut.refl s.drawn lw_cs) hx hb hr hlocks dL_law_348
  have main : G X (dC, dI) cy B 0 0 0 (fun _ _ => 0) (fun _ _ => 0) 0 [some (Value.ref b), none, none, none, none, none, none, none, none, none, none, none, none, none, none, none] [] := by
    clear hXX
    refine g_new (pc := 0) C Z nw_L_law_13 (N := 6) rfl dL_law_0 (by decide) (by decide) rfl rfl (Nat.le_of_ble_eq_true rfl) (Nat.le_of_ble_eq_true rfl) ?_
    refine g_dup (pc := 3) C dL_law_3 rfl ?_
    refine g_callI (pc := 4) C Z ei_L_law_84 (List.mem_of_getElem? (i := 4) (by decide +kernel)) dL_law_4 (c6_init (fun _ => rfl) (fun _ => rfl)) (by decide) (Nat.le_of_ble_eq_true rfl) rfl (Nat.le_of_ble_eq_true rfl) (Nat.le_of_ble_eq_true rfl) (fun M0 P0 q0 => ?_)
    refine g_widen (c2 := 630155) (s2 := 7211782) (Nat.le_of_ble_eq_true rfl) (Nat.le_of_ble_eq_true rfl) ?_
    have j0 := JC_A0 q0
    exact h_of (law_begin C S hL E j0)
  rw [hXX] at main
  rw [lg_entry_eq]
  exact main s.heap [] _ (fun k q h => by rw [wl_none (Nat.not_lt_zero _)] at h; cases h) va_S.rf (hasL_entry [Value.ref b] 16 (fun v hv => by rw [List.mem_singleton.mp hv]; rfl) (Nat.le_of_ble_eq_true rfl))

set_option maxHeartbeats 4000000 in
theorem lw_walk (l : Launch) (hflags : l.flags = flags0) (b : Addr) (xs : List Int32) : MetFree l x (headSpec (Jvm.Cond.code x code maxLocals ret :: tables_1) room_1) (lw_P b xs) (fun _ _ _ _ _ => True) lw_Q := by
  refine MetFree.of_bodyS (code := code) (maxLocals := maxLocals) (ret := ret) (by decide) ?_ ?_
  · intro args s m h hn
    obtain ⟨meth, c, h1, h2, h3, h4, h5, h6, -, -⟩ := Cond.code_spec hn (atoms_spec (ws := Jvm.Cond.code x code maxLocals ret :: tables_1) h _ List.mem_cons_self)
    exact ⟨meth, c, h1, h2, h3, h4, h5, h6⟩
  · intro p e s m args below meth c s₁ B hml0 hP _
    obtain ⟨rfl, hx, hbd, hgv⟩ := hP
    obtain ⟨scr, harrAt, hlist, hof, hsmall⟩ := hx
    obtain ⟨hcb, hkn, -, -⟩ := State.arrayAt?_spec harrAt
    have hown : s.vm.findClass R_law = some m.cls := findClass_of_methodNamed B.named
    have hts0 : ∀ c ∈ (Jvm.Cond.code x code maxLocals ret :: tables_1), c.before #[Value.ref b] s = true := atoms_spec (ws := Jvm.Cond.code x code maxLocals ret :: tables_1) B.pre
    have hts : ∀ w ∈ lw_tbl, w.before #[Value.ref b] s = true := k2_hts_sels lw_privs (fun w hw => hts0 w (List.mem_cons_of_mem _ hw)) lw_privs_ok
    have hml : c.maxLocals = 16 := B.maxLocals_eq (hts0 _ List.mem_cons_self)
    have X₀ : Stand p l e room_1 s m #[Value.ref b] below meth c s₁ [] 0 0 := Stand.of_body B
    have hh0 : s₁.heap = s.heap := by rw [B.state]; rfl
    have hsz : scr.slots.size = xs.length := by rw [← Array.length_toList, hlist, List.length_map]
    have hval : ∀ j : Nat, j < xs.length → scr.slots[j]? = some (.int (xs.getD j 0)) := fun j hj => by
      rw [← Array.getElem?_toList, hlist]
      simp [hj]
    have hbl : b < s.heap.size := (Array.getElem?_eq_some_iff.mp hcb).1
    have hX : va_X b xs.length (fun j => xs.getD j 0) s s.heap := ⟨scr, hcb, hof, hkn, hsz, hval⟩
    have K : W p l e room_1 s m #[Value.ref b] below meth c s₁.heap [] 0 0 (lw_Z below #[Value.ref b] s) (entryFrame m ([Value.ref b] : List Value).toArray 16) := by
      rw [hh0]
      exact whole_start l hflags hbd ⟨B.exec, B.bytes, B.returns, hml, hown, hts, hX, hbl, B.notSynchronized, hgv⟩
    obtain ⟨t, a1, o, b1, b2, b3⟩ := K s₁ rfl X₀
    exact ⟨t, o, a1, b1, b2, b3⟩
theorem lw_pre_spec {args : Array Value} {s : State} (h : (Jvm.Cond.and given_1 narrow_1).before args s = true) (hr : rest_1_c.before args s = true) : ∃ (b : Addr) (xs : List Int32), lw_P b xs args s := by
  have hs := flat_of_before _ h
  have hq := flat_of_before _ hr
  have hc : (Cond.count 1).before args s = true := hs _ (by decide +kernel)
  have harr : (Cond.arrayOf (.arg 0) .int).before args s = true := hs _ (by decide +kernel)
  have hle : (Cond.le (.length (.arg 0)) (.int 260)).before args s = true := hs _ (by decide +kernel)
  have hlen : (Cond.isInt (.length (.arg 0))).before args s = true := hq _ (by decide +kernel)
  have hall : (Cond.all (.arg 0) (.isInt (.elem (.arg 0) (.index 0)))).before args s = true := hq _ (by decide +kernel)
  obtain ⟨b, xs, hb, hx⟩ := State.ints_of_pre rfl harr hlen hall
  have hsm : xs.length < 2 ^ 31 := hx.choose_spec.2.2.2
  have hev : (Term.length (.arg 0)).eval args s none [] s = some (.int xs.length.toInt32) := hx.length_eval hb
  have hv := Cond.le_ints hev (show (Term.int 260).eval args s none [] s = some (.int 260) from rfl)
  have hd : xs.length.toInt32 ≤ 260 := by
    simpa [Cond.before, Cond.holds, hv] using hle
  have hN : xs.length ≤ 260 := (Int32.ofNat_le_ofNat hsm (by decide)).mp (show Int32.ofNat xs.length ≤ Int32.ofNat 260 from hd)
  exact ⟨b, xs, Cond.one_arg hc (show args[0]? = some (.ref b) from hb), hx, hN, h⟩
theorem lw_comes (l : Launch) (hflags : l.flags = flags0) : Comes l x (Jvm.Cond.code x code maxLocals ret :: tables_1) room_1 (fun tb e args s => Calls_1 tb e args s ∧ rest_1 tb e args s ∧ Pre_1 tb e args s)
    (fun _ _ args s o t => lw_Q args s o t) := by
  intro p e ha hc hk s m args below hf hfit hheap happ hpre
  obtain ⟨b, xs, hP⟩ := lw_pre_spec hpre.2.2 hpre.2.1
  obtain ⟨k, o, h1, h2, h3, hQ⟩ := lw_walk l hflags b xs p e ha hc hk s m args below hf ((Spec.applies_iff_loose hf).mp happ).1 hP trivial
  exact ⟨k, o, h1, h2, h3, hQ⟩
theorem lw_frame {s t : State} {o : Outcome} {args : Array Value} (h : State.butDraws s t lw_cs (fun t1 => Framed s o t1 [] 630155 7211782)) :
    State.butDraws s t [Jvm.Choice.named "NaN.bits"] (fun t1 => Framed s o t1 (fieldLocs frame_1_writes args s ++ arrayLocs frame_1_arrays args s ++ staticLocs frame_1_statics s) 630155 7211782) := h
theorem lw_limb (L : Cond) (hL : ∀ (args : Array Value) (s t : State), L.after args s (.returned (some (.int 1))) t = true) :
    ArmFor flags0 classFile x code maxLocals ret World_1 tables_1 room_1 Calls_1 rest_1 Pre_1
      (fun tb e a s o t => postC L tb e a s o t ∧ State.butDraws s t [Jvm.Choice.named "NaN.bits"] (fun t1 => Framed s o t1 (fieldLocs frame_1_writes a s ++ arrayLocs frame_1_arrays a s ++ staticLocs frame_1_statics s) 630155 7211782)) := by
  intro l hflags _ _ p e ha hc hk s m args below hf hfit hheap happ hpre
  obtain ⟨k, o, h1, h2, h3, rfl, hF⟩ := lw_comes l hflags p e ha hc hk s m args below hf hfit hheap happ hpre
  exact ⟨k, _, h1, h2, h3, hL args s _, lw_frame hF⟩
theorem i_vc : Claimed_1_1 ∧ Claimed_1_2 := ⟨lw_limb limb_1_1 (fun args s t => by simp [limb_1_1, Cond.after, Cond.holds, Cond.value]), lw_limb limb_1_2 (fun args s t => Cond.after_iff.mpr (by
  first | (rw [show limb_1_2 = Cond.eq .result (.int 1) from rfl, Cond.eq_ints (x := 1) (y := 1) rfl rfl]; simp; done) | (simp [limb_1_2, Cond.value, Term.eval]; done)))⟩
