/-- a cell of the region, of a kind -/
def kk (n o k : Nat) : Prop := o < n ∧ kd o = k
/-- a reference that is not null -/
def rr (P : PP) (o j x : Nat) : Prop := P o j = x ∧ x ≠ 0
section GR
variable {X : GX} {D : va_G} {cy : Nat → ClassId} {B cells slots n : Nat} {M : MM} {P : PP} {cc : ByteArray} {nL : Nat} {own : String} {Ts : List Cond} {fr lo rc rs pc : Nat} {lv : List (Option Value)} {st : List Value} {l0 : Launch}
theorem g_iconst (C : Cx X D cy B cc nL own Ts l0 fr lo rc rs) {i : Int} {v : Int32} (hd : decode cc pc = .ok (.iconst i, 1)) (hv : Int32.ofInt i = v) (k : G X D cy B cells slots n M P (pc + 1) (lv) (Value.int v :: st)) : G X D cy B cells slots n M P (pc) (lv) (st) := by
  obtain ⟨p, l, e, R, s, m, args, below, meth, c, Q⟩ := X
  obtain ⟨hx, hb, hml, hown, hts, hK, hN, hRf, hRl, hRc, hRs, hll, hBs⟩ := C
  intro H locs ls hP hS hl
  exact lv_iconst hx hb hd hv (k H locs ls hP hS hl)
theorem g_bipush (C : Cx X D cy B cc nL own Ts l0 fr lo rc rs) {i : Int} {v : Int32} (hd : decode cc pc = .ok (.bipush i, 2)) (hv : (Int8.ofInt i).toInt32 = v) (k : G X D cy B cells slots n M P (pc + 2) (lv) (Value.int v :: st)) : G X D cy B cells slots n M P (pc) (lv) (st) := by
  obtain ⟨p, l, e, R, s, m, args, below, meth, c, Q⟩ := X
  obtain ⟨hx, hb, hml, hown, hts, hK, hN, hRf, hRl, hRc, hRs, hll, hBs⟩ := C
  intro H locs ls hP hS hl
  exact lv_bipush hx hb hd hv (k H locs ls hP hS hl)
theorem g_sipush (C : Cx X D cy B cc nL own Ts l0 fr lo rc rs) {i : Int} {v : Int32} (hd : decode cc pc = .ok (.sipush i, 3)) (hv : (Int16.ofInt i).toInt32 = v) (k : G X D cy B cells slots n M P (pc + 3) (lv) (Value.int v :: st)) : G X D cy B cells slots n M P (pc) (lv) (st) := by
  obtain ⟨p, l, e, R, s, m, args, below, meth, c, Q⟩ := X
  obtain ⟨hx, hb, hml, hown, hts, hK, hN, hRf, hRl, hRc, hRs, hll, hBs⟩ := C
  intro H locs ls hP hS hl
  exact lv_sipush hx hb hd hv (k H locs ls hP hS hl)
theorem g_ldc (C : Cx X D cy B cc nL own Ts l0 fr lo rc rs) {index : Nat} {v : Int32} (hw : Cond.constant own index v ∈ Ts) (hd : decode cc pc = .ok (.ldc index, 2)) (k : G X D cy B cells slots n M P (pc + 2) (lv) (Value.int v :: st)) : G X D cy B cells slots n M P (pc) (lv) (st) := by
  obtain ⟨p, l, e, R, s, m, args, below, meth, c, Q⟩ := X
  obtain ⟨hx, hb, hml, hown, hts, hK, hN, hRf, hRl, hRc, hRs, hll, hBs⟩ := C
  intro H locs ls hP hS hl
  exact lv_ldc hx hb hown (hts _ hw) hd (k H locs ls hP hS hl)
theorem g_ldcf (C : Cx X D cy B cc nL own Ts l0 fr lo rc rs) {index : Nat} {v : UInt32} (hw : Cond.constantFloat own index v ∈ Ts) (hd : decode cc pc = .ok (.ldc index, 2)) (k : G X D cy B cells slots n M P (pc + 2) (lv) (Value.float v :: st)) : G X D cy B cells slots n M P (pc) (lv) (st) := by
  obtain ⟨p, l, e, R, s, m, args, below, meth, c, Q⟩ := X
  obtain ⟨hx, hb, hml, hown, hts, hK, hN, hRf, hRl, hRc, hRs, hll, hBs⟩ := C
  intro H locs ls hP hS hl
  exact lv_ldcf hx hb hown (hts _ hw) hd (k H locs ls hP hS hl)
theorem g_ldcw (C : Cx X D cy B cc nL own Ts l0 fr lo rc rs) {index : Nat} {v : Int32} (hw : Cond.constant own index v ∈ Ts) (hd : decode cc pc = .ok (.ldc_w index, 3)) (k : G X D cy B cells slots n M P (pc + 3) (lv) (Value.int v :: st)) : G X D cy B cells slots n M P (pc) (lv) (st) := by
  obtain ⟨p, l, e, R, s, m, args, below, meth, c, Q⟩ := X
  obtain ⟨hx, hb, hml, hown, hts, hK, hN, hRf, hRl, hRc, hRs, hll, hBs⟩ := C
  intro H locs ls hP hS hl
  exact lv_ldcw hx hb hown (hts _ hw) hd (k H locs ls hP hS hl)
theorem g_ldcwf (C : Cx X D cy B cc nL own Ts l0 fr lo rc rs) {index : Nat} {v : UInt32} (hw : Cond.constantFloat own index v ∈ Ts) (hd : decode cc pc = .ok (.ldc_w index, 3)) (k : G X D cy B cells slots n M P (pc + 3) (lv) (Value.float v :: st)) : G X D cy B cells slots n M P (pc) (lv) (st) := by
  obtain ⟨p, l, e, R, s, m, args, below, meth, c, Q⟩ := X
  obtain ⟨hx, hb, hml, hown, hts, hK, hN, hRf, hRl, hRc, hRs, hll, hBs⟩ := C
  intro H locs ls hP hS hl
  intro T hT XS
  obtain ⟨t, a, b⟩ := k H locs ls hP hS hl T hT XS
  refine ⟨t, ?_, b⟩
  obtain ⟨k1, cf, hk1, hcf, hcp⟩ := Cond.constantFloat_spec hown (hts _ hw)
  obtain ⟨k', hk', he⟩ := XS.warmed.alike.2.2 _ _ hk1
  subst hb
  jvm_step XS.here [hx, hd, ldc_w.wp_float (s := T) (f := F0 m pc ls st) XS.here.top hk' (by rw [he]; exact hcf) hcp]
  exact a
theorem g_fconst0 (C : Cx X D cy B cc nL own Ts l0 fr lo rc rs) (hd : decode cc pc = .ok (.fconst 0, 1)) (k : G X D cy B cells slots n M P (pc + 1) (lv) (Value.float FP.fconst0 :: st)) : G X D cy B cells slots n M P (pc) (lv) (st) := by
  obtain ⟨p, l, e, R, s, m, args, below, meth, c, Q⟩ := X
  obtain ⟨hx, hb, hml, hown, hts, hK, hN, hRf, hRl, hRc, hRs, hll, hBs⟩ := C
  intro H locs ls hP hS hl
  exact lv_fconst0 hx hb hd (k H locs ls hP hS hl)
theorem g_fconst1 (C : Cx X D cy B cc nL own Ts l0 fr lo rc rs) (hd : decode cc pc = .ok (.fconst 1, 1)) (k : G X D cy B cells slots n M P (pc + 1) (lv) (Value.float FP.fconst1 :: st)) : G X D cy B cells slots n M P (pc) (lv) (st) := by
  obtain ⟨p, l, e, R, s, m, args, below, meth, c, Q⟩ := X
  obtain ⟨hx, hb, hml, hown, hts, hK, hN, hRf, hRl, hRc, hRs, hll, hBs⟩ := C
  intro H locs ls hP hS hl
  exact lv_fconst1 hx hb hd (k H locs ls hP hS hl)
theorem g_fconst2 (C : Cx X D cy B cc nL own Ts l0 fr lo rc rs) (hd : decode cc pc = .ok (.fconst 2, 1)) (k : G X D cy B cells slots n M P (pc + 1) (lv) (Value.float FP.fconst2 :: st)) : G X D cy B cells slots n M P (pc) (lv) (st) := by
  obtain ⟨p, l, e, R, s, m, args, below, meth, c, Q⟩ := X
  obtain ⟨hx, hb, hml, hown, hts, hK, hN, hRf, hRl, hRc, hRs, hll, hBs⟩ := C
  intro H locs ls hP hS hl
  exact lv_fconst2 hx hb hd (k H locs ls hP hS hl)
theorem g_iloadN (C : Cx X D cy B cc nL own Ts l0 fr lo rc rs) {j : Fin 4} {i : Nat} {x : Int32} (hd : decode cc pc = .ok (.iload_n j, 1)) (hi : (j : Nat) = i) (hv : lv[i]? = some (some (Value.int x))) (k : G X D cy B cells slots n M P (pc + 1) (lv) (Value.int x :: st)) : G X D cy B cells slots n M P (pc) (lv) (st) := by
  obtain ⟨p, l, e, R, s, m, args, below, meth, c, Q⟩ := X
  obtain ⟨hx, hb, hml, hown, hts, hK, hN, hRf, hRl, hRc, hRs, hll, hBs⟩ := C
  intro H locs ls hP hS hl
  exact lv_iload_n hx hb hd hi (hl.at hv) (k H locs ls hP hS hl)
theorem g_iloadW (C : Cx X D cy B cc nL own Ts l0 fr lo rc rs) {i : Nat} {x : Int32} (hd : decode cc pc = .ok (.iload i, 2)) (hv : lv[i]? = some (some (Value.int x))) (k : G X D cy B cells slots n M P (pc + 2) (lv) (Value.int x :: st)) : G X D cy B cells slots n M P (pc) (lv) (st) := by
  obtain ⟨p, l, e, R, s, m, args, below, meth, c, Q⟩ := X
  obtain ⟨hx, hb, hml, hown, hts, hK, hN, hRf, hRl, hRc, hRs, hll, hBs⟩ := C
  intro H locs ls hP hS hl
  exact lv_iload hx hb hd (hl.at hv) (k H locs ls hP hS hl)
theorem g_iload_0 (C : Cx X D cy B cc nL own Ts l0 fr lo rc rs) {r : List (Option Value)} {x : Int32} (hd : decode cc pc = .ok (.iload_n 0, 1)) (k : G X D cy B cells slots n M P (pc + 1) (some (Value.int x) :: r) (Value.int x :: st)) : G X D cy B cells slots n M P (pc) (some (Value.int x) :: r) (st) := g_iloadN C hd rfl rfl k
theorem g_iload_1 (C : Cx X D cy B cc nL own Ts l0 fr lo rc rs) {a0 : Option Value} {r : List (Option Value)} {x : Int32} (hd : decode cc pc = .ok (.iload_n 1, 1)) (k : G X D cy B cells slots n M P (pc + 1) (a0 :: some (Value.int x) :: r) (Value.int x :: st)) : G X D cy B cells slots n M P (pc) (a0 :: some (Value.int x) :: r) (st) := g_iloadN C hd rfl rfl k
theorem g_iload_2 (C : Cx X D cy B cc nL own Ts l0 fr lo rc rs) {a0 a1 : Option Value} {r : List (Option Value)} {x : Int32} (hd : decode cc pc = .ok (.iload_n 2, 1)) (k : G X D cy B cells slots n M P (pc + 1) (a0 :: a1 :: some (Value.int x) :: r) (Value.int x :: st)) : G X D cy B cells slots n M P (pc) (a0 :: a1 :: some (Value.int x) :: r) (st) := g_iloadN C hd rfl rfl k
theorem g_iload_3 (C : Cx X D cy B cc nL own Ts l0 fr lo rc rs) {a0 a1 a2 : Option Value} {r : List (Option Value)} {x : Int32} (hd : decode cc pc = .ok (.iload_n 3, 1)) (k : G X D cy B cells slots n M P (pc + 1) (a0 :: a1 :: a2 :: some (Value.int x) :: r) (Value.int x :: st)) : G X D cy B cells slots n M P (pc) (a0 :: a1 :: a2 :: some (Value.int x) :: r) (st) := g_iloadN C hd rfl rfl k
theorem g_iload_4 (C : Cx X D cy B cc nL own Ts l0 fr lo rc rs) {a0 a1 a2 a3 : Option Value} {r : List (Option Value)} {x : Int32} (hd : decode cc pc = .ok (.iload 4, 2)) (k : G X D cy B cells slots n M P (pc + 2) (a0 :: a1 :: a2 :: a3 :: some (Value.int x) :: r) (Value.int x :: st)) : G X D cy B cells slots n M P (pc) (a0 :: a1 :: a2 :: a3 :: some (Value.int x) :: r) (st) := g_iloadW C hd rfl k
theorem g_iload_5 (C : Cx X D cy B cc nL own Ts l0 fr lo rc rs) {a0 a1 a2 a3 a4 : Option Value} {r : List (Option Value)} {x : Int32} (hd : decode cc pc = .ok (.iload 5, 2)) (k : G X D cy B cells slots n M P (pc + 2) (a0 :: a1 :: a2 :: a3 :: a4 :: some (Value.int x) :: r) (Value.int x :: st)) : G X D cy B cells slots n M P (pc) (a0 :: a1 :: a2 :: a3 :: a4 :: some (Value.int x) :: r) (st) := g_iloadW C hd rfl k
theorem g_iload_6 (C : Cx X D cy B cc nL own Ts l0 fr lo rc rs) {a0 a1 a2 a3 a4 a5 : Option Value} {r : List (Option Value)} {x : Int32} (hd : decode cc pc = .ok (.iload 6, 2)) (k : G X D cy B cells slots n M P (pc + 2) (a0 :: a1 :: a2 :: a3 :: a4 :: a5 :: some (Value.int x) :: r) (Value.int x :: st)) : G X D cy B cells slots n M P (pc) (a0 :: a1 :: a2 :: a3 :: a4 :: a5 :: some (Value.int x) :: r) (st) := g_iloadW C hd rfl k
theorem g_iload_7 (C : Cx X D cy B cc nL own Ts l0 fr lo rc rs) {a0 a1 a2 a3 a4 a5 a6 : Option Value} {r : List (Option Value)} {x : Int32} (hd : decode cc pc = .ok (.iload 7, 2)) (k : G X D cy B cells slots n M P (pc + 2) (a0 :: a1 :: a2 :: a3 :: a4 :: a5 :: a6 :: some (Value.int x) :: r) (Value.int x :: st)) : G X D cy B cells slots n M P (pc) (a0 :: a1 :: a2 :: a3 :: a4 :: a5 :: a6 :: some (Value.int x) :: r) (st) := g_iloadW C hd rfl k
theorem g_iload_8 (C : Cx X D cy B cc nL own Ts l0 fr lo rc rs) {a0 a1 a2 a3 a4 a5 a6 a7 : Option Value} {r : List (Option Value)} {x : Int32} (hd : decode cc pc = .ok (.iload 8, 2)) (k : G X D cy B cells slots n M P (pc + 2) (a0 :: a1 :: a2 :: a3 :: a4 :: a5 :: a6 :: a7 :: some (Value.int x) :: r) (Value.int x :: st)) : G X D cy B cells slots n M P (pc) (a0 :: a1 :: a2 :: a3 :: a4 :: a5 :: a6 :: a7 :: some (Value.int x) :: r) (st) := g_iloadW C hd rfl k
theorem g_iload_9 (C : Cx X D cy B cc nL own Ts l0 fr lo rc rs) {a0 a1 a2 a3 a4 a5 a6 a7 a8 : Option Value} {r : List (Option Value)} {x : Int32} (hd : decode cc pc = .ok (.iload 9, 2)) (k : G X D cy B cells slots n M P (pc + 2) (a0 :: a1 :: a2 :: a3 :: a4 :: a5 :: a6 :: a7 :: a8 :: some (Value.int x) :: r) (Value.int x :: st)) : G X D cy B cells slots n M P (pc) (a0 :: a1 :: a2 :: a3 :: a4 :: a5 :: a6 :: a7 :: a8 :: some (Value.int x) :: r) (st) := g_iloadW C hd rfl k
theorem g_aloadN (C : Cx X D cy B cc nL own Ts l0 fr lo rc rs) {j : Fin 4} {i : Nat} {x : Nat} (hd : decode cc pc = .ok (.aload_n j, 1)) (hi : (j : Nat) = i) (hv : lv[i]? = some (some (Value.ref x))) (k : G X D cy B cells slots n M P (pc + 1) (lv) (Value.ref x :: st)) : G X D cy B cells slots n M P (pc) (lv) (st) := by
  obtain ⟨p, l, e, R, s, m, args, below, meth, c, Q⟩ := X
  obtain ⟨hx, hb, hml, hown, hts, hK, hN, hRf, hRl, hRc, hRs, hll, hBs⟩ := C
  intro H locs ls hP hS hl
  exact lv_aload_n hx hb hd hi (hl.at hv) (k H locs ls hP hS hl)
theorem g_aloadW (C : Cx X D cy B cc nL own Ts l0 fr lo rc rs) {i : Nat} {x : Nat} (hd : decode cc pc = .ok (.aload i, 2)) (hv : lv[i]? = some (some (Value.ref x))) (k : G X D cy B cells slots n M P (pc + 2) (lv) (Value.ref x :: st)) : G X D cy B cells slots n M P (pc) (lv) (st) := by
  obtain ⟨p, l, e, R, s, m, args, below, meth, c, Q⟩ := X
  obtain ⟨hx, hb, hml, hown, hts, hK, hN, hRf, hRl, hRc, hRs, hll, hBs⟩ := C
  intro H locs ls hP hS hl
  exact lv_aload hx hb hd (hl.at hv) (k H locs ls hP hS hl)
theorem g_aload_0 (C : Cx X D cy B cc nL own Ts l0 fr lo rc rs) {r : List (Option Value)} {x : Nat} (hd : decode cc pc = .ok (.aload_n 0, 1)) (k : G X D cy B cells slots n M P (pc + 1) (some (Value.ref x) :: r) (Value.ref x :: st)) : G X D cy B cells slots n M P (pc) (some (Value.ref x) :: r) (st) := g_aloadN C hd rfl rfl k
theorem g_aload_1 (C : Cx X D cy B cc nL own Ts l0 fr lo rc rs) {a0 : Option Value} {r : List (Option Value)} {x : Nat} (hd : decode cc pc = .ok (.aload_n 1, 1)) (k : G X D cy B cells slots n M P (pc + 1) (a0 :: some (Value.ref x) :: r) (Value.ref x :: st)) : G X D cy B cells slots n M P (pc) (a0 :: some (Value.ref x) :: r) (st) := g_aloadN C hd rfl rfl k
theorem g_aload_2 (C : Cx X D cy B cc nL own Ts l0 fr lo rc rs) {a0 a1 : Option Value} {r : List (Option Value)} {x : Nat} (hd : decode cc pc = .ok (.aload_n 2, 1)) (k : G X D cy B cells slots n M P (pc + 1) (a0 :: a1 :: some (Value.ref x) :: r) (Value.ref x :: st)) : G X D cy B cells slots n M P (pc) (a0 :: a1 :: some (Value.ref x) :: r) (st) := g_aloadN C hd rfl rfl k
theorem g_aload_3 (C : Cx X D cy B cc nL own Ts l0 fr lo rc rs) {a0 a1 a2 : Option Value} {r : List (Option Value)} {x : Nat} (hd : decode cc pc = .ok (.aload_n 3, 1)) (k : G X D cy B cells slots n M P (pc + 1) (a0 :: a1 :: a2 :: some (Value.ref x) :: r) (Value.ref x :: st)) : G X D cy B cells slots n M P (pc) (a0 :: a1 :: a2 :: some (Value.ref x) :: r) (st) := g_aloadN C hd rfl rfl k
theorem g_aload_4 (C : Cx X D cy B cc nL own Ts l0 fr lo rc rs) {a0 a1 a2 a3 : Option Value} {r : List (Option Value)} {x : Nat} (hd : decode cc pc = .ok (.aload 4, 2)) (k : G X D cy B cells slots n M P (pc + 2) (a0 :: a1 :: a2 :: a3 :: some (Value.ref x) :: r) (Value.ref x :: st)) : G X D cy B cells slots n M P (pc) (a0 :: a1 :: a2 :: a3 :: some (Value.ref x) :: r) (st) := g_aloadW C hd rfl k
theorem g_aload_5 (C : Cx X D cy B cc nL own Ts l0 fr lo rc rs) {a0 a1 a2 a3 a4 : Option Value} {r : List (Option Value)} {x : Nat} (hd : decode cc pc = .ok (.aload 5, 2)) (k : G X D cy B cells slots n M P (pc + 2) (a0 :: a1 :: a2 :: a3 :: a4 :: some (Value.ref x) :: r) (Value.ref x :: st)) : G X D cy B cells slots n M P (pc) (a0 :: a1 :: a2 :: a3 :: a4 :: some (Value.ref x) :: r) (st) := g_aloadW C hd rfl k
theorem g_aload_6 (C : Cx X D cy B cc nL own Ts l0 fr lo rc rs) {a0 a1 a2 a3 a4 a5 : Option Value} {r : List (Option Value)} {x : Nat} (hd : decode cc pc = .ok (.aload 6, 2)) (k : G X D cy B cells slots n M P (pc + 2) (a0 :: a1 :: a2 :: a3 :: a4 :: a5 :: some (Value.ref x) :: r) (Value.ref x :: st)) : G X D cy B cells slots n M P (pc) (a0 :: a1 :: a2 :: a3 :: a4 :: a5 :: some (Value.ref x) :: r) (st) := g_aloadW C hd rfl k
theorem g_aload_7 (C : Cx X D cy B cc nL own Ts l0 fr lo rc rs) {a0 a1 a2 a3 a4 a5 a6 : Option Value} {r : List (Option Value)} {x : Nat} (hd : decode cc pc = .ok (.aload 7, 2)) (k : G X D cy B cells slots n M P (pc + 2) (a0 :: a1 :: a2 :: a3 :: a4 :: a5 :: a6 :: some (Value.ref x) :: r) (Value.ref x :: st)) : G X D cy B cells slots n M P (pc) (a0 :: a1 :: a2 :: a3 :: a4 :: a5 :: a6 :: some (Value.ref x) :: r) (st) := g_aloadW C hd rfl k
theorem g_aload_8 (C : Cx X D cy B cc nL own Ts l0 fr lo rc rs) {a0 a1 a2 a3 a4 a5 a6 a7 : Option Value} {r : List (Option Value)} {x : Nat} (hd : decode cc pc = .ok (.aload 8, 2)) (k : G X D cy B cells slots n M P (pc + 2) (a0 :: a1 :: a2 :: a3 :: a4 :: a5 :: a6 :: a7 :: some (Value.ref x) :: r) (Value.ref x :: st)) : G X D cy B cells slots n M P (pc) (a0 :: a1 :: a2 :: a3 :: a4 :: a5 :: a6 :: a7 :: some (Value.ref x) :: r) (st) := g_aloadW C hd rfl k
theorem g_aload_9 (C : Cx X D cy B cc nL own Ts l0 fr lo rc rs) {a0 a1 a2 a3 a4 a5 a6 a7 a8 : Option Value} {r : List (Option Value)} {x : Nat} (hd : decode cc pc = .ok (.aload 9, 2)) (k : G X D cy B cells slots n M P (pc + 2) (a0 :: a1 :: a2 :: a3 :: a4 :: a5 :: a6 :: a7 :: a8 :: some (Value.ref x) :: r) (Value.ref x :: st)) : G X D cy B cells slots n M P (pc) (a0 :: a1 :: a2 :: a3 :: a4 :: a5 :: a6 :: a7 :: a8 :: some (Value.ref x) :: r) (st) := g_aloadW C hd rfl k
theorem g_floadN (C : Cx X D cy B cc nL own Ts l0 fr lo rc rs) {j : Fin 4} {i : Nat} {x : UInt32} (hd : decode cc pc = .ok (.fload_n j, 1)) (hi : (j : Nat) = i) (hv : lv[i]? = some (some (Value.float x))) (k : G X D cy B cells slots n M P (pc + 1) (lv) (Value.float x :: st)) : G X D cy B cells slots n M P (pc) (lv) (st) := by
  obtain ⟨p, l, e, R, s, m, args, below, meth, c, Q⟩ := X
  obtain ⟨hx, hb, hml, hown, hts, hK, hN, hRf, hRl, hRc, hRs, hll, hBs⟩ := C
  intro H locs ls hP hS hl
  exact lv_fload_n hx hb hd hi (hl.at hv) (k H locs ls hP hS hl)
theorem g_floadW (C : Cx X D cy B cc nL own Ts l0 fr lo rc rs) {i : Nat} {x : UInt32} (hd : decode cc pc = .ok (.fload i, 2)) (hv : lv[i]? = some (some (Value.float x))) (k : G X D cy B cells slots n M P (pc + 2) (lv) (Value.float x :: st)) : G X D cy B cells slots n M P (pc) (lv) (st) := by
  obtain ⟨p, l, e, R, s, m, args, below, meth, c, Q⟩ := X
  obtain ⟨hx, hb, hml, hown, hts, hK, hN, hRf, hRl, hRc, hRs, hll, hBs⟩ := C
  intro H locs ls hP hS hl
  exact lv_fload hx hb hd (hl.at hv) (k H locs ls hP hS hl)
theorem g_fload_0 (C : Cx X D cy B cc nL own Ts l0 fr lo rc rs) {r : List (Option Value)} {x : UInt32} (hd : decode cc pc = .ok (.fload_n 0, 1)) (k : G X D cy B cells slots n M P (pc + 1) (some (Value.float x) :: r) (Value.float x :: st)) : G X D cy B cells slots n M P (pc) (some (Value.float x) :: r) (st) := g_floadN C hd rfl rfl k
theorem g_fload_1 (C : Cx X D cy B cc nL own Ts l0 fr lo rc rs) {a0 : Option Value} {r : List (Option Value)} {x : UInt32} (hd : decode cc pc = .ok (.fload_n 1, 1)) (k : G X D cy B cells slots n M P (pc + 1) (a0 :: some (Value.float x) :: r) (Value.float x :: st)) : G X D cy B cells slots n M P (pc) (a0 :: some (Value.float x) :: r) (st) := g_floadN C hd rfl rfl k
theorem g_fload_2 (C : Cx X D cy B cc nL own Ts l0 fr lo rc rs) {a0 a1 : Option Value} {r : List (Option Value)} {x : UInt32} (hd : decode cc pc = .ok (.fload_n 2, 1)) (k : G X D cy B cells slots n M P (pc + 1) (a0 :: a1 :: some (Value.float x) :: r) (Value.float x :: st)) : G X D cy B cells slots n M P (pc) (a0 :: a1 :: some (Value.float x) :: r) (st) := g_floadN C hd rfl rfl k
theorem g_fload_3 (C : Cx X D cy B cc nL own Ts l0 fr lo rc rs) {a0 a1 a2 : Option Value} {r : List (Option Value)} {x : UInt32} (hd : decode cc pc = .ok (.fload_n 3, 1)) (k : G X D cy B cells slots n M P (pc + 1) (a0 :: a1 :: a2 :: some (Value.float x) :: r) (Value.float x :: st)) : G X D cy B cells slots n M P (pc) (a0 :: a1 :: a2 :: some (Value.float x) :: r) (st) := g_floadN C hd rfl rfl k
theorem g_fload_4 (C : Cx X D cy B cc nL own Ts l0 fr lo rc rs) {a0 a1 a2 a3 : Option Value} {r : List (Option Value)} {x : UInt32} (hd : decode cc pc = .ok (.fload 4, 2)) (k : G X D cy B cells slots n M P (pc + 2) (a0 :: a1 :: a2 :: a3 :: some (Value.float x) :: r) (Value.float x :: st)) : G X D cy B cells slots n M P (pc) (a0 :: a1 :: a2 :: a3 :: some (Value.float x) :: r) (st) := g_floadW C hd rfl k
theorem g_fload_5 (C : Cx X D cy B cc nL own Ts l0 fr lo rc rs) {a0 a1 a2 a3 a4 : Option Value} {r : List (Option Value)} {x : UInt32} (hd : decode cc pc = .ok (.fload 5, 2)) (k : G X D cy B cells slots n M P (pc + 2) (a0 :: a1 :: a2 :: a3 :: a4 :: some (Value.float x) :: r) (Value.float x :: st)) : G X D cy B cells slots n M P (pc) (a0 :: a1 :: a2 :: a3 :: a4 :: some (Value.float x) :: r) (st) := g_floadW C hd rfl k
theorem g_fload_6 (C : Cx X D cy B cc nL own Ts l0 fr lo rc rs) {a0 a1 a2 a3 a4 a5 : Option Value} {r : List (Option Value)} {x : UInt32} (hd : decode cc pc = .ok (.fload 6, 2)) (k : G X D cy B cells slots n M P (pc + 2) (a0 :: a1 :: a2 :: a3 :: a4 :: a5 :: some (Value.float x) :: r) (Value.float x :: st)) : G X D cy B cells slots n M P (pc) (a0 :: a1 :: a2 :: a3 :: a4 :: a5 :: some (Value.float x) :: r) (st) := g_floadW C hd rfl k
theorem g_fload_7 (C : Cx X D cy B cc nL own Ts l0 fr lo rc rs) {a0 a1 a2 a3 a4 a5 a6 : Option Value} {r : List (Option Value)} {x : UInt32} (hd : decode cc pc = .ok (.fload 7, 2)) (k : G X D cy B cells slots n M P (pc + 2) (a0 :: a1 :: a2 :: a3 :: a4 :: a5 :: a6 :: some (Value.float x) :: r) (Value.float x :: st)) : G X D cy B cells slots n M P (pc) (a0 :: a1 :: a2 :: a3 :: a4 :: a5 :: a6 :: some (Value.float x) :: r) (st) := g_floadW C hd rfl k
theorem g_fload_8 (C : Cx X D cy B cc nL own Ts l0 fr lo rc rs) {a0 a1 a2 a3 a4 a5 a6 a7 : Option Value} {r : List (Option Value)} {x : UInt32} (hd : decode cc pc = .ok (.fload 8, 2)) (k : G X D cy B cells slots n M P (pc + 2) (a0 :: a1 :: a2 :: a3 :: a4 :: a5 :: a6 :: a7 :: some (Value.float x) :: r) (Value.float x :: st)) : G X D cy B cells slots n M P (pc) (a0 :: a1 :: a2 :: a3 :: a4 :: a5 :: a6 :: a7 :: some (Value.float x) :: r) (st) := g_floadW C hd rfl k
theorem g_fload_9 (C : Cx X D cy B cc nL own Ts l0 fr lo rc rs) {a0 a1 a2 a3 a4 a5 a6 a7 a8 : Option Value} {r : List (Option Value)} {x : UInt32} (hd : decode cc pc = .ok (.fload 9, 2)) (k : G X D cy B cells slots n M P (pc + 2) (a0 :: a1 :: a2 :: a3 :: a4 :: a5 :: a6 :: a7 :: a8 :: some (Value.float x) :: r) (Value.float x :: st)) : G X D cy B cells slots n M P (pc) (a0 :: a1 :: a2 :: a3 :: a4 :: a5 :: a6 :: a7 :: a8 :: some (Value.float x) :: r) (st) := g_floadW C hd rfl k
theorem g_istoreN (C : Cx X D cy B cc nL own Ts l0 fr lo rc rs) {j : Fin 4} {i : Nat} {x : Int32} (hd : decode cc pc = .ok (.istore_n j, 1)) (hi : (j : Nat) = i) (hn : i < lv.length) (k : G X D cy B cells slots n M P (pc + 1) (lv.set i (some (Value.int x))) (st)) : G X D cy B cells slots n M P (pc) (lv) (Value.int x :: st) := by
  obtain ⟨p, l, e, R, s, m, args, below, meth, c, Q⟩ := X
  obtain ⟨hx, hb, hml, hown, hts, hK, hN, hRf, hRl, hRc, hRs, hll, hBs⟩ := C
  intro H locs ls hP hS hl
  exact lv_istore_n (lv' := _) hx hb hd hi hl.lv hn rfl (fun ls' h' => k H locs ls' hP hS (hl.set rfl h'))
theorem g_istoreW (C : Cx X D cy B cc nL own Ts l0 fr lo rc rs) {i : Nat} {x : Int32} (hd : decode cc pc = .ok (.istore i, 2)) (hn : i < lv.length) (k : G X D cy B cells slots n M P (pc + 2) (lv.set i (some (Value.int x))) (st)) : G X D cy B cells slots n M P (pc) (lv) (Value.int x :: st) := by
  obtain ⟨p, l, e, R, s, m, args, below, meth, c, Q⟩ := X
  obtain ⟨hx, hb, hml, hown, hts, hK, hN, hRf, hRl, hRc, hRs, hll, hBs⟩ := C
  intro H locs ls hP hS hl
  exact lv_istore (lv' := _) hx hb hd hl.lv hn rfl (fun ls' h' => k H locs ls' hP hS (hl.set rfl h'))
theorem g_istore_0 (C : Cx X D cy B cc nL own Ts l0 fr lo rc rs) {a0 : Option Value} {r : List (Option Value)} {x : Int32} (hd : decode cc pc = .ok (.istore_n 0, 1)) (k : G X D cy B cells slots n M P (pc + 1) (some (Value.int x) :: r) (st)) : G X D cy B cells slots n M P (pc) (a0 :: r) (Value.int x :: st) := g_istoreN C hd rfl (by simp only [List.length_cons]; omega) k
theorem g_istore_1 (C : Cx X D cy B cc nL own Ts l0 fr lo rc rs) {a0 a1 : Option Value} {r : List (Option Value)} {x : Int32} (hd : decode cc pc = .ok (.istore_n 1, 1)) (k : G X D cy B cells slots n M P (pc + 1) (a0 :: some (Value.int x) :: r) (st)) : G X D cy B cells slots n M P (pc) (a0 :: a1 :: r) (Value.int x :: st) := g_istoreN C hd rfl (by simp only [List.length_cons]; omega) k
theorem g_istore_2 (C : Cx X D cy B cc nL own Ts l0 fr lo rc rs) {a0 a1 a2 : Option Value} {r : List (Option Value)} {x : Int32} (hd : decode cc pc = .ok (.istore_n 2, 1)) (k : G X D cy B cells slots n M P (pc + 1) (a0 :: a1 :: some (Value.int x) :: r) (st)) : G X D cy B cells slots n M P (pc) (a0 :: a1 :: a2 :: r) (Value.int x :: st) := g_istoreN C hd rfl (by simp only [List.length_cons]; omega) k
theorem g_istore_3 (C : Cx X D cy B cc nL own Ts l0 fr lo rc rs) {a0 a1 a2 a3 : Option Value} {r : List (Option Value)} {x : Int32} (hd : decode cc pc = .ok (.istore_n 3, 1)) (k : G X D cy B cells slots n M P (pc + 1) (a0 :: a1 :: a2 :: some (Value.int x) :: r) (st)) : G X D cy B cells slots n M P (pc) (a0 :: a1 :: a2 :: a3 :: r) (Value.int x :: st) := g_istoreN C hd rfl (by simp only [List.length_cons]; omega) k
theorem g_istore_4 (C : Cx X D cy B cc nL own Ts l0 fr lo rc rs) {a0 a1 a2 a3 a4 : Option Value} {r : List (Option Value)} {x : Int32} (hd : decode cc pc = .ok (.istore 4, 2)) (k : G X D cy B cells slots n M P (pc + 2) (a0 :: a1 :: a2 :: a3 :: some (Value.int x) :: r) (st)) : G X D cy B cells slots n M P (pc) (a0 :: a1 :: a2 :: a3 :: a4 :: r) (Value.int x :: st) := g_istoreW C hd (by simp only [List.length_cons]; omega) k
theorem g_istore_5 (C : Cx X D cy B cc nL own Ts l0 fr lo rc rs) {a0 a1 a2 a3 a4 a5 : Option Value} {r : List (Option Value)} {x : Int32} (hd : decode cc pc = .ok (.istore 5, 2)) (k : G X D cy B cells slots n M P (pc + 2) (a0 :: a1 :: a2 :: a3 :: a4 :: some (Value.int x) :: r) (st)) : G X D cy B cells slots n M P (pc) (a0 :: a1 :: a2 :: a3 :: a4 :: a5 :: r) (Value.int x :: st) := g_istoreW C hd (by simp only [List.length_cons]; omega) k
theorem g_istore_6 (C : Cx X D cy B cc nL own Ts l0 fr lo rc rs) {a0 a1 a2 a3 a4 a5 a6 : Option Value} {r : List (Option Value)} {x : Int32} (hd : decode cc pc = .ok (.istore 6, 2)) (k : G X D cy B cells slots n M P (pc + 2) (a0 :: a1 :: a2 :: a3 :: a4 :: a5 :: some (Value.int x) :: r) (st)) : G X D cy B cells slots n M P (pc) (a0 :: a1 :: a2 :: a3 :: a4 :: a5 :: a6 :: r) (Value.int x :: st) := g_istoreW C hd (by simp only [List.length_cons]; omega) k
theorem g_istore_7 (C : Cx X D cy B cc nL own Ts l0 fr lo rc rs) {a0 a1 a2 a3 a4 a5 a6 a7 : Option Value} {r : List (Option Value)} {x : Int32} (hd : decode cc pc = .ok (.istore 7, 2)) (k : G X D cy B cells slots n M P (pc + 2) (a0 :: a1 :: a2 :: a3 :: a4 :: a5 :: a6 :: some (Value.int x) :: r) (st)) : G X D cy B cells slots n M P (pc) (a0 :: a1 :: a2 :: a3 :: a4 :: a5 :: a6 :: a7 :: r) (Value.int x :: st) := g_istoreW C hd (by simp only [List.length_cons]; omega) k
theorem g_istore_8 (C : Cx X D cy B cc nL own Ts l0 fr lo rc rs) {a0 a1 a2 a3 a4 a5 a6 a7 a8 : Option Value} {r : List (Option Value)} {x : Int32} (hd : decode cc pc = .ok (.istore 8, 2)) (k : G X D cy B cells slots n M P (pc + 2) (a0 :: a1 :: a2 :: a3 :: a4 :: a5 :: a6 :: a7 :: some (Value.int x) :: r) (st)) : G X D cy B cells slots n M P (pc) (a0 :: a1 :: a2 :: a3 :: a4 :: a5 :: a6 :: a7 :: a8 :: r) (Value.int x :: st) := g_istoreW C hd (by simp only [List.length_cons]; omega) k
theorem g_istore_9 (C : Cx X D cy B cc nL own Ts l0 fr lo rc rs) {a0 a1 a2 a3 a4 a5 a6 a7 a8 a9 : Option Value} {r : List (Option Value)} {x : Int32} (hd : decode cc pc = .ok (.istore 9, 2)) (k : G X D cy B cells slots n M P (pc + 2) (a0 :: a1 :: a2 :: a3 :: a4 :: a5 :: a6 :: a7 :: a8 :: some (Value.int x) :: r) (st)) : G X D cy B cells slots n M P (pc) (a0 :: a1 :: a2 :: a3 :: a4 :: a5 :: a6 :: a7 :: a8 :: a9 :: r) (Value.int x :: st) := g_istoreW C hd (by simp only [List.length_cons]; omega) k
theorem g_astoreN (C : Cx X D cy B cc nL own Ts l0 fr lo rc rs) {j : Fin 4} {i : Nat} {x : Nat} (hd : decode cc pc = .ok (.astore_n j, 1)) (hi : (j : Nat) = i) (hn : i < lv.length) (k : G X D cy B cells slots n M P (pc + 1) (lv.set i (some (Value.ref x))) (st)) : G X D cy B cells slots n M P (pc) (lv) (Value.ref x :: st) := by
  obtain ⟨p, l, e, R, s, m, args, below, meth, c, Q⟩ := X
  obtain ⟨hx, hb, hml, hown, hts, hK, hN, hRf, hRl, hRc, hRs, hll, hBs⟩ := C
  intro H locs ls hP hS hl
  exact lv_astore_n (lv' := _) hx hb hd hi hl.lv hn rfl (fun ls' h' => k H locs ls' hP hS (hl.set rfl h'))
theorem g_astoreW (C : Cx X D cy B cc nL own Ts l0 fr lo rc rs) {i : Nat} {x : Nat} (hd : decode cc pc = .ok (.astore i, 2)) (hn : i < lv.length) (k : G X D cy B cells slots n M P (pc + 2) (lv.set i (some (Value.ref x))) (st)) : G X D cy B cells slots n M P (pc) (lv) (Value.ref x :: st) := by
  obtain ⟨p, l, e, R, s, m, args, below, meth, c, Q⟩ := X
  obtain ⟨hx, hb, hml, hown, hts, hK, hN, hRf, hRl, hRc, hRs, hll, hBs⟩ := C
  intro H locs ls hP hS hl
  exact lv_astore (lv' := _) hx hb hd hl.lv hn rfl (fun ls' h' => k H locs ls' hP hS (hl.set rfl h'))
theorem g_astore_0 (C : Cx X D cy B cc nL own Ts l0 fr lo rc rs) {a0 : Option Value} {r : List (Option Value)} {x : Nat} (hd : decode cc pc = .ok (.astore_n 0, 1)) (k : G X D cy B cells slots n M P (pc + 1) (some (Value.ref x) :: r) (st)) : G X D cy B cells slots n M P (pc) (a0 :: r) (Value.ref x :: st) := g_astoreN C hd rfl (by simp only [List.length_cons]; omega) k
theorem g_astore_1 (C : Cx X D cy B cc nL own Ts l0 fr lo rc rs) {a0 a1 : Option Value} {r : List (Option Value)} {x : Nat} (hd : decode cc pc = .ok (.astore_n 1, 1)) (k : G X D cy B cells slots n M P (pc + 1) (a0 :: some (Value.ref x) :: r) (st)) : G X D cy B cells slots n M P (pc) (a0 :: a1 :: r) (Value.ref x :: st) := g_astoreN C hd rfl (by simp only [List.length_cons]; omega) k
theorem g_astore_2 (C : Cx X D cy B cc nL own Ts l0 fr lo rc rs) {a0 a1 a2 : Option Value} {r : List (Option Value)} {x : Nat} (hd : decode cc pc = .ok (.astore_n 2, 1)) (k : G X D cy B cells slots n M P (pc + 1) (a0 :: a1 :: some (Value.ref x) :: r) (st)) : G X D cy B cells slots n M P (pc) (a0 :: a1 :: a2 :: r) (Value.ref x :: st) := g_astoreN C hd rfl (by simp only [List.length_cons]; omega) k
theorem g_astore_3 (C : Cx X D cy B cc nL own Ts l0 fr lo rc rs) {a0 a1 a2 a3 : Option Value} {r : List (Option Value)} {x : Nat} (hd : decode cc pc = .ok (.astore_n 3, 1)) (k : G X D cy B cells slots n M P (pc + 1) (a0 :: a1 :: a2 :: some (Value.ref x) :: r) (st)) : G X D cy B cells slots n M P (pc) (a0 :: a1 :: a2 :: a3 :: r) (Value.ref x :: st) := g_astoreN C hd rfl (by simp only [List.length_cons]; omega) k
theorem g_astore_4 (C : Cx X D cy B cc nL own Ts l0 fr lo rc rs) {a0 a1 a2 a3 a4 : Option Value} {r : List (Option Value)} {x : Nat} (hd : decode cc pc = .ok (.astore 4, 2)) (k : G X D cy B cells slots n M P (pc + 2) (a0 :: a1 :: a2 :: a3 :: some (Value.ref x) :: r) (st)) : G X D cy B cells slots n M P (pc) (a0 :: a1 :: a2 :: a3 :: a4 :: r) (Value.ref x :: st) := g_astoreW C hd (by simp only [List.length_cons]; omega) k
theorem g_astore_5 (C : Cx X D cy B cc nL own Ts l0 fr lo rc rs) {a0 a1 a2 a3 a4 a5 : Option Value} {r : List (Option Value)} {x : Nat} (hd : decode cc pc = .ok (.astore 5, 2)) (k : G X D cy B cells slots n M P (pc + 2) (a0 :: a1 :: a2 :: a3 :: a4 :: some (Value.ref x) :: r) (st)) : G X D cy B cells slots n M P (pc) (a0 :: a1 :: a2 :: a3 :: a4 :: a5 :: r) (Value.ref x :: st) := g_astoreW C hd (by simp only [List.length_cons]; omega) k
theorem g_astore_6 (C : Cx X D cy B cc nL own Ts l0 fr lo rc rs) {a0 a1 a2 a3 a4 a5 a6 : Option Value} {r : List (Option Value)} {x : Nat} (hd : decode cc pc = .ok (.astore 6, 2)) (k : G X D cy B cells slots n M P (pc + 2) (a0 :: a1 :: a2 :: a3 :: a4 :: a5 :: some (Value.ref x) :: r) (st)) : G X D cy B cells slots n M P (pc) (a0 :: a1 :: a2 :: a3 :: a4 :: a5 :: a6 :: r) (Value.ref x :: st) := g_astoreW C hd (by simp only [List.length_cons]; omega) k
theorem g_astore_7 (C : Cx X D cy B cc nL own Ts l0 fr lo rc rs) {a0 a1 a2 a3 a4 a5 a6 a7 : Option Value} {r : List (Option Value)} {x : Nat} (hd : decode cc pc = .ok (.astore 7, 2)) (k : G X D cy B cells slots n M P (pc + 2) (a0 :: a1 :: a2 :: a3 :: a4 :: a5 :: a6 :: some (Value.ref x) :: r) (st)) : G X D cy B cells slots n M P (pc) (a0 :: a1 :: a2 :: a3 :: a4 :: a5 :: a6 :: a7 :: r) (Value.ref x :: st) := g_astoreW C hd (by simp only [List.length_cons]; omega) k
theorem g_astore_8 (C : Cx X D cy B cc nL own Ts l0 fr lo rc rs) {a0 a1 a2 a3 a4 a5 a6 a7 a8 : Option Value} {r : List (Option Value)} {x : Nat} (hd : decode cc pc = .ok (.astore 8, 2)) (k : G X D cy B cells slots n M P (pc + 2) (a0 :: a1 :: a2 :: a3 :: a4 :: a5 :: a6 :: a7 :: some (Value.ref x) :: r) (st)) : G X D cy B cells slots n M P (pc) (a0 :: a1 :: a2 :: a3 :: a4 :: a5 :: a6 :: a7 :: a8 :: r) (Value.ref x :: st) := g_astoreW C hd (by simp only [List.length_cons]; omega) k
theorem g_astore_9 (C : Cx X D cy B cc nL own Ts l0 fr lo rc rs) {a0 a1 a2 a3 a4 a5 a6 a7 a8 a9 : Option Value} {r : List (Option Value)} {x : Nat} (hd : decode cc pc = .ok (.astore 9, 2)) (k : G X D cy B cells slots n M P (pc + 2) (a0 :: a1 :: a2 :: a3 :: a4 :: a5 :: a6 :: a7 :: a8 :: some (Value.ref x) :: r) (st)) : G X D cy B cells slots n M P (pc) (a0 :: a1 :: a2 :: a3 :: a4 :: a5 :: a6 :: a7 :: a8 :: a9 :: r) (Value.ref x :: st) := g_astoreW C hd (by simp only [List.length_cons]; omega) k
theorem g_fstoreN (C : Cx X D cy B cc nL own Ts l0 fr lo rc rs) {j : Fin 4} {i : Nat} {x : UInt32} (hd : decode cc pc = .ok (.fstore_n j, 1)) (hi : (j : Nat) = i) (hn : i < lv.length) (k : G X D cy B cells slots n M P (pc + 1) (lv.set i (some (Value.float x))) (st)) : G X D cy B cells slots n M P (pc) (lv) (Value.float x :: st) := by
  obtain ⟨p, l, e, R, s, m, args, below, meth, c, Q⟩ := X
  obtain ⟨hx, hb, hml, hown, hts, hK, hN, hRf, hRl, hRc, hRs, hll, hBs⟩ := C
  intro H locs ls hP hS hl
  exact lv_fstore_n (lv' := _) hx hb hd hi hl.lv hn rfl (fun ls' h' => k H locs ls' hP hS (hl.set rfl h'))
theorem g_fstoreW (C : Cx X D cy B cc nL own Ts l0 fr lo rc rs) {i : Nat} {x : UInt32} (hd : decode cc pc = .ok (.fstore i, 2)) (hn : i < lv.length) (k : G X D cy B cells slots n M P (pc + 2) (lv.set i (some (Value.float x))) (st)) : G X D cy B cells slots n M P (pc) (lv) (Value.float x :: st) := by
  obtain ⟨p, l, e, R, s, m, args, below, meth, c, Q⟩ := X
  obtain ⟨hx, hb, hml, hown, hts, hK, hN, hRf, hRl, hRc, hRs, hll, hBs⟩ := C
  intro H locs ls hP hS hl
  exact lv_fstore (lv' := _) hx hb hd hl.lv hn rfl (fun ls' h' => k H locs ls' hP hS (hl.set rfl h'))
theorem g_fstore_0 (C : Cx X D cy B cc nL own Ts l0 fr lo rc rs) {a0 : Option Value} {r : List (Option Value)} {x : UInt32} (hd : decode cc pc = .ok (.fstore_n 0, 1)) (k : G X D cy B cells slots n M P (pc + 1) (some (Value.float x) :: r) (st)) : G X D cy B cells slots n M P (pc) (a0 :: r) (Value.float x :: st) := g_fstoreN C hd rfl (by simp only [List.length_cons]; omega) k
theorem g_fstore_1 (C : Cx X D cy B cc nL own Ts l0 fr lo rc rs) {a0 a1 : Option Value} {r : List (Option Value)} {x : UInt32} (hd : decode cc pc = .ok (.fstore_n 1, 1)) (k : G X D cy B cells slots n M P (pc + 1) (a0 :: some (Value.float x) :: r) (st)) : G X D cy B cells slots n M P (pc) (a0 :: a1 :: r) (Value.float x :: st) := g_fstoreN C hd rfl (by simp only [List.length_cons]; omega) k
theorem g_fstore_2 (C : Cx X D cy B cc nL own Ts l0 fr lo rc rs) {a0 a1 a2 : Option Value} {r : List (Option Value)} {x : UInt32} (hd : decode cc pc = .ok (.fstore_n 2, 1)) (k : G X D cy B cells slots n M P (pc + 1) (a0 :: a1 :: some (Value.float x) :: r) (st)) : G X D cy B cells slots n M P (pc) (a0 :: a1 :: a2 :: r) (Value.float x :: st) := g_fstoreN C hd rfl (by simp only [List.length_cons]; omega) k
theorem g_fstore_3 (C : Cx X D cy B cc nL own Ts l0 fr lo rc rs) {a0 a1 a2 a3 : Option Value} {r : List (Option Value)} {x : UInt32} (hd : decode cc pc = .ok (.fstore_n 3, 1)) (k : G X D cy B cells slots n M P (pc + 1) (a0 :: a1 :: a2 :: some (Value.float x) :: r) (st)) : G X D cy B cells slots n M P (pc) (a0 :: a1 :: a2 :: a3 :: r) (Value.float x :: st) := g_fstoreN C hd rfl (by simp only [List.length_cons]; omega) k
theorem g_fstore_4 (C : Cx X D cy B cc nL own Ts l0 fr lo rc rs) {a0 a1 a2 a3 a4 : Option Value} {r : List (Option Value)} {x : UInt32} (hd : decode cc pc = .ok (.fstore 4, 2)) (k : G X D cy B cells slots n M P (pc + 2) (a0 :: a1 :: a2 :: a3 :: some (Value.float x) :: r) (st)) : G X D cy B cells slots n M P (pc) (a0 :: a1 :: a2 :: a3 :: a4 :: r) (Value.float x :: st) := g_fstoreW C hd (by simp only [List.length_cons]; omega) k
theorem g_fstore_5 (C : Cx X D cy B cc nL own Ts l0 fr lo rc rs) {a0 a1 a2 a3 a4 a5 : Option Value} {r : List (Option Value)} {x : UInt32} (hd : decode cc pc = .ok (.fstore 5, 2)) (k : G X D cy B cells slots n M P (pc + 2) (a0 :: a1 :: a2 :: a3 :: a4 :: some (Value.float x) :: r) (st)) : G X D cy B cells slots n M P (pc) (a0 :: a1 :: a2 :: a3 :: a4 :: a5 :: r) (Value.float x :: st) := g_fstoreW C hd (by simp only [List.length_cons]; omega) k
theorem g_fstore_6 (C : Cx X D cy B cc nL own Ts l0 fr lo rc rs) {a0 a1 a2 a3 a4 a5 a6 : Option Value} {r : List (Option Value)} {x : UInt32} (hd : decode cc pc = .ok (.fstore 6, 2)) (k : G X D cy B cells slots n M P (pc + 2) (a0 :: a1 :: a2 :: a3 :: a4 :: a5 :: some (Value.float x) :: r) (st)) : G X D cy B cells slots n M P (pc) (a0 :: a1 :: a2 :: a3 :: a4 :: a5 :: a6 :: r) (Value.float x :: st) := g_fstoreW C hd (by simp only [List.length_cons]; omega) k
theorem g_fstore_7 (C : Cx X D cy B cc nL own Ts l0 fr lo rc rs) {a0 a1 a2 a3 a4 a5 a6 a7 : Option Value} {r : List (Option Value)} {x : UInt32} (hd : decode cc pc = .ok (.fstore 7, 2)) (k : G X D cy B cells slots n M P (pc + 2) (a0 :: a1 :: a2 :: a3 :: a4 :: a5 :: a6 :: some (Value.float x) :: r) (st)) : G X D cy B cells slots n M P (pc) (a0 :: a1 :: a2 :: a3 :: a4 :: a5 :: a6 :: a7 :: r) (Value.float x :: st) := g_fstoreW C hd (by simp only [List.length_cons]; omega) k
theorem g_fstore_8 (C : Cx X D cy B cc nL own Ts l0 fr lo rc rs) {a0 a1 a2 a3 a4 a5 a6 a7 a8 : Option Value} {r : List (Option Value)} {x : UInt32} (hd : decode cc pc = .ok (.fstore 8, 2)) (k : G X D cy B cells slots n M P (pc + 2) (a0 :: a1 :: a2 :: a3 :: a4 :: a5 :: a6 :: a7 :: some (Value.float x) :: r) (st)) : G X D cy B cells slots n M P (pc) (a0 :: a1 :: a2 :: a3 :: a4 :: a5 :: a6 :: a7 :: a8 :: r) (Value.float x :: st) := g_fstoreW C hd (by simp only [List.length_cons]; omega) k
theorem g_fstore_9 (C : Cx X D cy B cc nL own Ts l0 fr lo rc rs) {a0 a1 a2 a3 a4 a5 a6 a7 a8 a9 : Option Value} {r : List (Option Value)} {x : UInt32} (hd : decode cc pc = .ok (.fstore 9, 2)) (k : G X D cy B cells slots n M P (pc + 2) (a0 :: a1 :: a2 :: a3 :: a4 :: a5 :: a6 :: a7 :: a8 :: some (Value.float x) :: r) (st)) : G X D cy B cells slots n M P (pc) (a0 :: a1 :: a2 :: a3 :: a4 :: a5 :: a6 :: a7 :: a8 :: a9 :: r) (Value.float x :: st) := g_fstoreW C hd (by simp only [List.length_cons]; omega) k
theorem g_iincW (C : Cx X D cy B cc nL own Ts l0 fr lo rc rs) {i : Nat} {d : Int} {x v : Int32} (hd : decode cc pc = .ok (.iinc i d, 3)) (hi : lv[i]? = some (some (Value.int x))) (hv : x + Int32.ofInt d = v) (hn : i < lv.length) (k : G X D cy B cells slots n M P (pc + 3) (lv.set i (some (Value.int v))) (st)) : G X D cy B cells slots n M P (pc) (lv) (st) := by
  obtain ⟨p, l, e, R, s, m, args, below, meth, c, Q⟩ := X
  obtain ⟨hx, hb, hml, hown, hts, hK, hN, hRf, hRl, hRc, hRs, hll, hBs⟩ := C
  intro H locs ls hP hS hl
  have hm : (i, Value.int x) ∈ lwl 0 lv := (lwl_mem lv 0 i _).mpr ⟨Nat.zero_le _, by simpa using hi⟩
  obtain ⟨q, hq⟩ := List.getElem?_of_mem hm
  exact lv_iinc (lv' := _) hx hb hd hl.lv hq hv hn rfl (fun ls' h' => k H locs ls' hP hS (hl.set rfl h'))
theorem g_iinc_0 (C : Cx X D cy B cc nL own Ts l0 fr lo rc rs) {r : List (Option Value)} {d : Int} {x v : Int32} (hd : decode cc pc = .ok (.iinc 0 d, 3)) (hv : x + Int32.ofInt d = v) (k : G X D cy B cells slots n M P (pc + 3) (some (Value.int v) :: r) (st)) : G X D cy B cells slots n M P (pc) (some (Value.int x) :: r) (st) := g_iincW C hd rfl hv (by simp only [List.length_cons]; omega) k
theorem g_kill_0 {a0 : Option Value} {r : List (Option Value)} (k : G X D cy B cells slots n M P (pc) (none :: r) (st)) : G X D cy B cells slots n M P (pc) (a0 :: r) (st) := by
  obtain ⟨p, l, e, R, s, m, args, below, meth, c, Q⟩ := X
  intro H locs ls hP hS hl
  refine k H locs ls hP hS (hl.less rfl ?_)
  intro i v h
  rcases i with _ | i <;> first | exact h | cases h
theorem g_iinc_1 (C : Cx X D cy B cc nL own Ts l0 fr lo rc rs) {a0 : Option Value} {r : List (Option Value)} {d : Int} {x v : Int32} (hd : decode cc pc = .ok (.iinc 1 d, 3)) (hv : x + Int32.ofInt d = v) (k : G X D cy B cells slots n M P (pc + 3) (a0 :: some (Value.int v) :: r) (st)) : G X D cy B cells slots n M P (pc) (a0 :: some (Value.int x) :: r) (st) := g_iincW C hd rfl hv (by simp only [List.length_cons]; omega) k
theorem g_kill_1 {a1 : Option Value} {a0 : Option Value} {r : List (Option Value)} (k : G X D cy B cells slots n M P (pc) (a0 :: none :: r) (st)) : G X D cy B cells slots n M P (pc) (a0 :: a1 :: r) (st) := by
  obtain ⟨p, l, e, R, s, m, args, below, meth, c, Q⟩ := X
  intro H locs ls hP hS hl
  refine k H locs ls hP hS (hl.less rfl ?_)
  intro i v h
  rcases i with _ | _ | i <;> first | exact h | cases h
theorem g_iinc_2 (C : Cx X D cy B cc nL own Ts l0 fr lo rc rs) {a0 a1 : Option Value} {r : List (Option Value)} {d : Int} {x v : Int32} (hd : decode cc pc = .ok (.iinc 2 d, 3)) (hv : x + Int32.ofInt d = v) (k : G X D cy B cells slots n M P (pc + 3) (a0 :: a1 :: some (Value.int v) :: r) (st)) : G X D cy B cells slots n M P (pc) (a0 :: a1 :: some (Value.int x) :: r) (st) := g_iincW C hd rfl hv (by simp only [List.length_cons]; omega) k
theorem g_kill_2 {a2 : Option Value} {a0 a1 : Option Value} {r : List (Option Value)} (k : G X D cy B cells slots n M P (pc) (a0 :: a1 :: none :: r) (st)) : G X D cy B cells slots n M P (pc) (a0 :: a1 :: a2 :: r) (st) := by
  obtain ⟨p, l, e, R, s, m, args, below, meth, c, Q⟩ := X
  intro H locs ls hP hS hl
  refine k H locs ls hP hS (hl.less rfl ?_)
  intro i v h
  rcases i with _ | _ | _ | i <;> first | exact h | cases h
theorem g_iinc_3 (C : Cx X D cy B cc nL own Ts l0 fr lo rc rs) {a0 a1 a2 : Option Value} {r : List (Option Value)} {d : Int} {x v : Int32} (hd : decode cc pc = .ok (.iinc 3 d, 3)) (hv : x + Int32.ofInt d = v) (k : G X D cy B cells slots n M P (pc + 3) (a0 :: a1 :: a2 :: some (Value.int v) :: r) (st)) : G X D cy B cells slots n M P (pc) (a0 :: a1 :: a2 :: some (Value.int x) :: r) (st) := g_iincW C hd rfl hv (by simp only [List.length_cons]; omega) k
theorem g_kill_3 {a3 : Option Value} {a0 a1 a2 : Option Value} {r : List (Option Value)} (k : G X D cy B cells slots n M P (pc) (a0 :: a1 :: a2 :: none :: r) (st)) : G X D cy B cells slots n M P (pc) (a0 :: a1 :: a2 :: a3 :: r) (st) := by
  obtain ⟨p, l, e, R, s, m, args, below, meth, c, Q⟩ := X
  intro H locs ls hP hS hl
  refine k H locs ls hP hS (hl.less rfl ?_)
  intro i v h
  rcases i with _ | _ | _ | _ | i <;> first | exact h | cases h
theorem g_iinc_4 (C : Cx X D cy B cc nL own Ts l0 fr lo rc rs) {a0 a1 a2 a3 : Option Value} {r : List (Option Value)} {d : Int} {x v : Int32} (hd : decode cc pc = .ok (.iinc 4 d, 3)) (hv : x + Int32.ofInt d = v) (k : G X D cy B cells slots n M P (pc + 3) (a0 :: a1 :: a2 :: a3 :: some (Value.int v) :: r) (st)) : G X D cy B cells slots n M P (pc) (a0 :: a1 :: a2 :: a3 :: some (Value.int x) :: r) (st) := g_iincW C hd rfl hv (by simp only [List.length_cons]; omega) k
theorem g_kill_4 {a4 : Option Value} {a0 a1 a2 a3 : Option Value} {r : List (Option Value)} (k : G X D cy B cells slots n M P (pc) (a0 :: a1 :: a2 :: a3 :: none :: r) (st)) : G X D cy B cells slots n M P (pc) (a0 :: a1 :: a2 :: a3 :: a4 :: r) (st) := by
  obtain ⟨p, l, e, R, s, m, args, below, meth, c, Q⟩ := X
  intro H locs ls hP hS hl
  refine k H locs ls hP hS (hl.less rfl ?_)
  intro i v h
  rcases i with _ | _ | _ | _ | _ | i <;> first | exact h | cases h
theorem g_iinc_5 (C : Cx X D cy B cc nL own Ts l0 fr lo rc rs) {a0 a1 a2 a3 a4 : Option Value} {r : List (Option Value)} {d : Int} {x v : Int32} (hd : decode cc pc = .ok (.iinc 5 d, 3)) (hv : x + Int32.ofInt d = v) (k : G X D cy B cells slots n M P (pc + 3) (a0 :: a1 :: a2 :: a3 :: a4 :: some (Value.int v) :: r) (st)) : G X D cy B cells slots n M P (pc) (a0 :: a1 :: a2 :: a3 :: a4 :: some (Value.int x) :: r) (st) := g_iincW C hd rfl hv (by simp only [List.length_cons]; omega) k
theorem g_kill_5 {a5 : Option Value} {a0 a1 a2 a3 a4 : Option Value} {r : List (Option Value)} (k : G X D cy B cells slots n M P (pc) (a0 :: a1 :: a2 :: a3 :: a4 :: none :: r) (st)) : G X D cy B cells slots n M P (pc) (a0 :: a1 :: a2 :: a3 :: a4 :: a5 :: r) (st) := by
  obtain ⟨p, l, e, R, s, m, args, below, meth, c, Q⟩ := X
  intro H locs ls hP hS hl
  refine k H locs ls hP hS (hl.less rfl ?_)
  intro i v h
  rcases i with _ | _ | _ | _ | _ | _ | i <;> first | exact h | cases h
theorem g_iinc_6 (C : Cx X D cy B cc nL own Ts l0 fr lo rc rs) {a0 a1 a2 a3 a4 a5 : Option Value} {r : List (Option Value)} {d : Int} {x v : Int32} (hd : decode cc pc = .ok (.iinc 6 d, 3)) (hv : x + Int32.ofInt d = v) (k : G X D cy B cells slots n M P (pc + 3) (a0 :: a1 :: a2 :: a3 :: a4 :: a5 :: some (Value.int v) :: r) (st)) : G X D cy B cells slots n M P (pc) (a0 :: a1 :: a2 :: a3 :: a4 :: a5 :: some (Value.int x) :: r) (st) := g_iincW C hd rfl hv (by simp only [List.length_cons]; omega) k
theorem g_kill_6 {a6 : Option Value} {a0 a1 a2 a3 a4 a5 : Option Value} {r : List (Option Value)} (k : G X D cy B cells slots n M P (pc) (a0 :: a1 :: a2 :: a3 :: a4 :: a5 :: none :: r) (st)) : G X D cy B cells slots n M P (pc) (a0 :: a1 :: a2 :: a3 :: a4 :: a5 :: a6 :: r) (st) := by
  obtain ⟨p, l, e, R, s, m, args, below, meth, c, Q⟩ := X
  intro H locs ls hP hS hl
  refine k H locs ls hP hS (hl.less rfl ?_)
  intro i v h
  rcases i with _ | _ | _ | _ | _ | _ | _ | i <;> first | exact h | cases h
theorem g_iinc_7 (C : Cx X D cy B cc nL own Ts l0 fr lo rc rs) {a0 a1 a2 a3 a4 a5 a6 : Option Value} {r : List (Option Value)} {d : Int} {x v : Int32} (hd : decode cc pc = .ok (.iinc 7 d, 3)) (hv : x + Int32.ofInt d = v) (k : G X D cy B cells slots n M P (pc + 3) (a0 :: a1 :: a2 :: a3 :: a4 :: a5 :: a6 :: some (Value.int v) :: r) (st)) : G X D cy B cells slots n M P (pc) (a0 :: a1 :: a2 :: a3 :: a4 :: a5 :: a6 :: some (Value.int x) :: r) (st) := g_iincW C hd rfl hv (by simp only [List.length_cons]; omega) k
theorem g_kill_7 {a7 : Option Value} {a0 a1 a2 a3 a4 a5 a6 : Option Value} {r : List (Option Value)} (k : G X D cy B cells slots n M P (pc) (a0 :: a1 :: a2 :: a3 :: a4 :: a5 :: a6 :: none :: r) (st)) : G X D cy B cells slots n M P (pc) (a0 :: a1 :: a2 :: a3 :: a4 :: a5 :: a6 :: a7 :: r) (st) := by
  obtain ⟨p, l, e, R, s, m, args, below, meth, c, Q⟩ := X
  intro H locs ls hP hS hl
  refine k H locs ls hP hS (hl.less rfl ?_)
  intro i v h
  rcases i with _ | _ | _ | _ | _ | _ | _ | _ | i <;> first | exact h | cases h
theorem g_iinc_8 (C : Cx X D cy B cc nL own Ts l0 fr lo rc rs) {a0 a1 a2 a3 a4 a5 a6 a7 : Option Value} {r : List (Option Value)} {d : Int} {x v : Int32} (hd : decode cc pc = .ok (.iinc 8 d, 3)) (hv : x + Int32.ofInt d = v) (k : G X D cy B cells slots n M P (pc + 3) (a0 :: a1 :: a2 :: a3 :: a4 :: a5 :: a6 :: a7 :: some (Value.int v) :: r) (st)) : G X D cy B cells slots n M P (pc) (a0 :: a1 :: a2 :: a3 :: a4 :: a5 :: a6 :: a7 :: some (Value.int x) :: r) (st) := g_iincW C hd rfl hv (by simp only [List.length_cons]; omega) k
theorem g_kill_8 {a8 : Option Value} {a0 a1 a2 a3 a4 a5 a6 a7 : Option Value} {r : List (Option Value)} (k : G X D cy B cells slots n M P (pc) (a0 :: a1 :: a2 :: a3 :: a4 :: a5 :: a6 :: a7 :: none :: r) (st)) : G X D cy B cells slots n M P (pc) (a0 :: a1 :: a2 :: a3 :: a4 :: a5 :: a6 :: a7 :: a8 :: r) (st) := by
  obtain ⟨p, l, e, R, s, m, args, below, meth, c, Q⟩ := X
  intro H locs ls hP hS hl
  refine k H locs ls hP hS (hl.less rfl ?_)
  intro i v h
  rcases i with _ | _ | _ | _ | _ | _ | _ | _ | _ | i <;> first | exact h | cases h
theorem g_iinc_9 (C : Cx X D cy B cc nL own Ts l0 fr lo rc rs) {a0 a1 a2 a3 a4 a5 a6 a7 a8 : Option Value} {r : List (Option Value)} {d : Int} {x v : Int32} (hd : decode cc pc = .ok (.iinc 9 d, 3)) (hv : x + Int32.ofInt d = v) (k : G X D cy B cells slots n M P (pc + 3) (a0 :: a1 :: a2 :: a3 :: a4 :: a5 :: a6 :: a7 :: a8 :: some (Value.int v) :: r) (st)) : G X D cy B cells slots n M P (pc) (a0 :: a1 :: a2 :: a3 :: a4 :: a5 :: a6 :: a7 :: a8 :: some (Value.int x) :: r) (st) := g_iincW C hd rfl hv (by simp only [List.length_cons]; omega) k
theorem g_kill_9 {a9 : Option Value} {a0 a1 a2 a3 a4 a5 a6 a7 a8 : Option Value} {r : List (Option Value)} (k : G X D cy B cells slots n M P (pc) (a0 :: a1 :: a2 :: a3 :: a4 :: a5 :: a6 :: a7 :: a8 :: none :: r) (st)) : G X D cy B cells slots n M P (pc) (a0 :: a1 :: a2 :: a3 :: a4 :: a5 :: a6 :: a7 :: a8 :: a9 :: r) (st) := by
  obtain ⟨p, l, e, R, s, m, args, below, meth, c, Q⟩ := X
  intro H locs ls hP hS hl
  refine k H locs ls hP hS (hl.less rfl ?_)
  intro i v h
  rcases i with _ | _ | _ | _ | _ | _ | _ | _ | _ | _ | i <;> first | exact h | cases h
theorem g_iadd (C : Cx X D cy B cc nL own Ts l0 fr lo rc rs) {x y : Int32} (hd : decode cc pc = .ok (.iadd, 1)) (k : G X D cy B cells slots n M P (pc + 1) (lv) (Value.int (x + y) :: st)) : G X D cy B cells slots n M P (pc) (lv) (Value.int y :: Value.int x :: st) := by
  obtain ⟨p, l, e, R, s, m, args, below, meth, c, Q⟩ := X
  obtain ⟨hx, hb, hml, hown, hts, hK, hN, hRf, hRl, hRc, hRs, hll, hBs⟩ := C
  intro H locs ls hP hS hl
  exact lv_iadd hx hb hd (k H locs ls hP hS hl)
theorem g_isub (C : Cx X D cy B cc nL own Ts l0 fr lo rc rs) {x y : Int32} (hd : decode cc pc = .ok (.isub, 1)) (k : G X D cy B cells slots n M P (pc + 1) (lv) (Value.int (x - y) :: st)) : G X D cy B cells slots n M P (pc) (lv) (Value.int y :: Value.int x :: st) := by
  obtain ⟨p, l, e, R, s, m, args, below, meth, c, Q⟩ := X
  obtain ⟨hx, hb, hml, hown, hts, hK, hN, hRf, hRl, hRc, hRs, hll, hBs⟩ := C
  intro H locs ls hP hS hl
  exact lv_isub hx hb hd (k H locs ls hP hS hl)
theorem g_imul (C : Cx X D cy B cc nL own Ts l0 fr lo rc rs) {x y : Int32} (hd : decode cc pc = .ok (.imul, 1)) (k : G X D cy B cells slots n M P (pc + 1) (lv) (Value.int (x * y) :: st)) : G X D cy B cells slots n M P (pc) (lv) (Value.int y :: Value.int x :: st) := by
  obtain ⟨p, l, e, R, s, m, args, below, meth, c, Q⟩ := X
  obtain ⟨hx, hb, hml, hown, hts, hK, hN, hRf, hRl, hRc, hRs, hll, hBs⟩ := C
  intro H locs ls hP hS hl
  exact lv_imul hx hb hd (k H locs ls hP hS hl)
theorem g_iand (C : Cx X D cy B cc nL own Ts l0 fr lo rc rs) {x y : Int32} (hd : decode cc pc = .ok (.iand, 1)) (k : G X D cy B cells slots n M P (pc + 1) (lv) (Value.int (x &&& y) :: st)) : G X D cy B cells slots n M P (pc) (lv) (Value.int y :: Value.int x :: st) := by
  obtain ⟨p, l, e, R, s, m, args, below, meth, c, Q⟩ := X
  obtain ⟨hx, hb, hml, hown, hts, hK, hN, hRf, hRl, hRc, hRs, hll, hBs⟩ := C
  intro H locs ls hP hS hl
  exact lv_iand hx hb hd (k H locs ls hP hS hl)
theorem g_ior (C : Cx X D cy B cc nL own Ts l0 fr lo rc rs) {x y : Int32} (hd : decode cc pc = .ok (.ior, 1)) (k : G X D cy B cells slots n M P (pc + 1) (lv) (Value.int (x ||| y) :: st)) : G X D cy B cells slots n M P (pc) (lv) (Value.int y :: Value.int x :: st) := by
  obtain ⟨p, l, e, R, s, m, args, below, meth, c, Q⟩ := X
  obtain ⟨hx, hb, hml, hown, hts, hK, hN, hRf, hRl, hRc, hRs, hll, hBs⟩ := C
  intro H locs ls hP hS hl
  exact lv_ior hx hb hd (k H locs ls hP hS hl)
theorem g_ineg (C : Cx X D cy B cc nL own Ts l0 fr lo rc rs) {x : Int32} (hd : decode cc pc = .ok (.ineg, 1)) (k : G X D cy B cells slots n M P (pc + 1) (lv) (Value.int (-x) :: st)) : G X D cy B cells slots n M P (pc) (lv) (Value.int x :: st) := by
  obtain ⟨p, l, e, R, s, m, args, below, meth, c, Q⟩ := X
  obtain ⟨hx, hb, hml, hown, hts, hK, hN, hRf, hRl, hRc, hRs, hll, hBs⟩ := C
  intro H locs ls hP hS hl
  exact lv_ineg hx hb hd (k H locs ls hP hS hl)
theorem g_idiv (C : Cx X D cy B cc nL own Ts l0 fr lo rc rs) {x y : Int32} (hd : decode cc pc = .ok (.idiv, 1)) (hne : ¬ y = 0) (k : G X D cy B cells slots n M P (pc + 1) (lv) (Value.int (x / y) :: st)) : G X D cy B cells slots n M P (pc) (lv) (Value.int y :: Value.int x :: st) := by
  obtain ⟨p, l, e, R, s, m, args, below, meth, c, Q⟩ := X
  obtain ⟨hx, hb, hml, hown, hts, hK, hN, hRf, hRl, hRc, hRs, hll, hBs⟩ := C
  intro H locs ls hP hS hl
  exact lv_idiv hx hb hd hne (k H locs ls hP hS hl)
theorem g_irem (C : Cx X D cy B cc nL own Ts l0 fr lo rc rs) {x y : Int32} (hd : decode cc pc = .ok (.irem, 1)) (hne : ¬ y = 0) (k : G X D cy B cells slots n M P (pc + 1) (lv) (Value.int (x - x / y * y) :: st)) : G X D cy B cells slots n M P (pc) (lv) (Value.int y :: Value.int x :: st) := by
  obtain ⟨p, l, e, R, s, m, args, below, meth, c, Q⟩ := X
  obtain ⟨hx, hb, hml, hown, hts, hK, hN, hRf, hRl, hRc, hRs, hll, hBs⟩ := C
  intro H locs ls hP hS hl
  exact lv_irem hx hb hd hne (k H locs ls hP hS hl)
theorem g_ishl (C : Cx X D cy B cc nL own Ts l0 fr lo rc rs) {x y : Int32} (hd : decode cc pc = .ok (.ishl, 1)) (k : G X D cy B cells slots n M P (pc + 1) (lv) (Value.int (x <<< (y &&& 31)) :: st)) : G X D cy B cells slots n M P (pc) (lv) (Value.int y :: Value.int x :: st) := by
  obtain ⟨p, l, e, R, s, m, args, below, meth, c, Q⟩ := X
  obtain ⟨hx, hb, hml, hown, hts, hK, hN, hRf, hRl, hRc, hRs, hll, hBs⟩ := C
  intro H locs ls hP hS hl
  exact lv_ishl hx hb hd (k H locs ls hP hS hl)
theorem g_ishr (C : Cx X D cy B cc nL own Ts l0 fr lo rc rs) {x y : Int32} (hd : decode cc pc = .ok (.ishr, 1)) (k : G X D cy B cells slots n M P (pc + 1) (lv) (Value.int (x >>> (y &&& 31)) :: st)) : G X D cy B cells slots n M P (pc) (lv) (Value.int y :: Value.int x :: st) := by
  obtain ⟨p, l, e, R, s, m, args, below, meth, c, Q⟩ := X
  obtain ⟨hx, hb, hml, hown, hts, hK, hN, hRf, hRl, hRc, hRs, hll, hBs⟩ := C
  intro H locs ls hP hS hl
  exact lv_ishr hx hb hd (k H locs ls hP hS hl)
theorem g_i2c (C : Cx X D cy B cc nL own Ts l0 fr lo rc rs) {x v : Int32} (hd : decode cc pc = .ok (.i2c, 1)) (hv : (x.toUInt32 % 65536).toInt32 = v) (k : G X D cy B cells slots n M P (pc + 1) (lv) (Value.int v :: st)) : G X D cy B cells slots n M P (pc) (lv) (Value.int x :: st) := by
  obtain ⟨p, l, e, R, s, m, args, below, meth, c, Q⟩ := X
  obtain ⟨hx, hb, hml, hown, hts, hK, hN, hRf, hRl, hRc, hRs, hll, hBs⟩ := C
  intro H locs ls hP hS hl
  exact lv_i2c hx hb hd hv (k H locs ls hP hS hl)
theorem g_i2f (C : Cx X D cy B cc nL own Ts l0 fr lo rc rs) {x : Int32} (hd : decode cc pc = .ok (.i2f, 1)) (k : G X D cy B cells slots n M P (pc + 1) (lv) (Value.float (FP.i2f x) :: st)) : G X D cy B cells slots n M P (pc) (lv) (Value.int x :: st) := by
  obtain ⟨p, l, e, R, s, m, args, below, meth, c, Q⟩ := X
  obtain ⟨hx, hb, hml, hown, hts, hK, hN, hRf, hRl, hRc, hRs, hll, hBs⟩ := C
  intro H locs ls hP hS hl
  exact lv_i2f hx hb hd (k H locs ls hP hS hl)
theorem g_f2i (C : Cx X D cy B cc nL own Ts l0 fr lo rc rs) {x : UInt32} (hd : decode cc pc = .ok (.f2i, 1)) (k : G X D cy B cells slots n M P (pc + 1) (lv) (Value.int (FP.f2i x) :: st)) : G X D cy B cells slots n M P (pc) (lv) (Value.float x :: st) := by
  obtain ⟨p, l, e, R, s, m, args, below, meth, c, Q⟩ := X
  obtain ⟨hx, hb, hml, hown, hts, hK, hN, hRf, hRl, hRc, hRs, hll, hBs⟩ := C
  intro H locs ls hP hS hl
  exact lv_f2i hx hb hd (k H locs ls hP hS hl)
theorem g_fadd (C : Cx X D cy B cc nL own Ts l0 fr lo rc rs) {x y : UInt32} (hd : decode cc pc = .ok (.fadd, 1)) (hne : vf_n32 (FP.fadd x y)) (k : G X D cy B cells slots n M P (pc + 1) (lv) (Value.float (FP.fadd x y) :: st)) : G X D cy B cells slots n M P (pc) (lv) (Value.float y :: Value.float x :: st) := by
  obtain ⟨p, l, e, R, s, m, args, below, meth, c, Q⟩ := X
  obtain ⟨hx, hb, hml, hown, hts, hK, hN, hRf, hRl, hRc, hRs, hll, hBs⟩ := C
  intro H locs ls hP hS hl
  exact lv_fadd hx hb hd hne (k H locs ls hP hS hl)
theorem g_fsub (C : Cx X D cy B cc nL own Ts l0 fr lo rc rs) {x y : UInt32} (hd : decode cc pc = .ok (.fsub, 1)) (hne : vf_n32 (FP.fsub x y)) (k : G X D cy B cells slots n M P (pc + 1) (lv) (Value.float (FP.fsub x y) :: st)) : G X D cy B cells slots n M P (pc) (lv) (Value.float y :: Value.float x :: st) := by
  obtain ⟨p, l, e, R, s, m, args, below, meth, c, Q⟩ := X
  obtain ⟨hx, hb, hml, hown, hts, hK, hN, hRf, hRl, hRc, hRs, hll, hBs⟩ := C
  intro H locs ls hP hS hl
  exact lv_fsub hx hb hd hne (k H locs ls hP hS hl)
theorem g_fmul (C : Cx X D cy B cc nL own Ts l0 fr lo rc rs) {x y : UInt32} (hd : decode cc pc = .ok (.fmul, 1)) (hne : vf_n32 (FP.fmul x y)) (k : G X D cy B cells slots n M P (pc + 1) (lv) (Value.float (FP.fmul x y) :: st)) : G X D cy B cells slots n M P (pc) (lv) (Value.float y :: Value.float x :: st) := by
  obtain ⟨p, l, e, R, s, m, args, below, meth, c, Q⟩ := X
  obtain ⟨hx, hb, hml, hown, hts, hK, hN, hRf, hRl, hRc, hRs, hll, hBs⟩ := C
  intro H locs ls hP hS hl
  exact lv_fmul hx hb hd hne (k H locs ls hP hS hl)
theorem g_fcmp (C : Cx X D cy B cc nL own Ts l0 fr lo rc rs) {x y : UInt32} {op : CmpOp} (hd : decode cc pc = .ok (.fcmp op, 1)) (k : G X D cy B cells slots n M P (pc + 1) (lv) (Value.int (Op.cmpValue (FP.fcmp x y) op) :: st)) : G X D cy B cells slots n M P (pc) (lv) (Value.float y :: Value.float x :: st) := by
  obtain ⟨p, l, e, R, s, m, args, below, meth, c, Q⟩ := X
  obtain ⟨hx, hb, hml, hown, hts, hK, hN, hRf, hRl, hRc, hRs, hll, hBs⟩ := C
  intro H locs ls hP hS hl
  exact lv_fcmp hx hb hd (k H locs ls hP hS hl)
theorem g_dup (C : Cx X D cy B cc nL own Ts l0 fr lo rc rs) {va : Value} (hd : decode cc pc = .ok (.dup, 1)) (hva : va.category = 1) (k : G X D cy B cells slots n M P (pc + 1) (lv) (va :: va :: st)) : G X D cy B cells slots n M P (pc) (lv) (va :: st) := by
  obtain ⟨p, l, e, R, s, m, args, below, meth, c, Q⟩ := X
  obtain ⟨hx, hb, hml, hown, hts, hK, hN, hRf, hRl, hRc, hRs, hll, hBs⟩ := C
  intro H locs ls hP hS hl
  exact lv_dup hx hb hd hva (k H locs ls hP hS hl)
theorem g_dup2 (C : Cx X D cy B cc nL own Ts l0 fr lo rc rs) {va vb : Value} (hd : decode cc pc = .ok (.dup2, 1)) (hva : va.category = 1) (hvb : vb.category = 1) (k : G X D cy B cells slots n M P (pc + 1) (lv) (va :: vb :: va :: vb :: st)) : G X D cy B cells slots n M P (pc) (lv) (va :: vb :: st) := by
  obtain ⟨p, l, e, R, s, m, args, below, meth, c, Q⟩ := X
  obtain ⟨hx, hb, hml, hown, hts, hK, hN, hRf, hRl, hRc, hRs, hll, hBs⟩ := C
  intro H locs ls hP hS hl
  exact lv_dup2_11 hx hb hd hva hvb (k H locs ls hP hS hl)
theorem g_pop (C : Cx X D cy B cc nL own Ts l0 fr lo rc rs) {va : Value} (hd : decode cc pc = .ok (.pop, 1)) (hva : va.category = 1) (k : G X D cy B cells slots n M P (pc + 1) (lv) (st)) : G X D cy B cells slots n M P (pc) (lv) (va :: st) := by
  obtain ⟨p, l, e, R, s, m, args, below, meth, c, Q⟩ := X
  obtain ⟨hx, hb, hml, hown, hts, hK, hN, hRf, hRl, hRc, hRs, hll, hBs⟩ := C
  intro H locs ls hP hS hl
  exact lv_pop hx hb hd hva (k H locs ls hP hS hl)
theorem g_if_eq (C : Cx X D cy B cc nL own Ts l0 fr lo rc rs) {x : Int32} {off : Int} {tgt : Nat} (hd : decode cc pc = .ok (.ifCond .eq off, 3)) (ht : (pc : Int) + off = (tgt : Int)) (kt : x = 0 → G X D cy B cells slots n M P (tgt) (lv) (st)) (kf : ¬ x = 0 → G X D cy B cells slots n M P (pc + 3) (lv) (st)) : G X D cy B cells slots n M P (pc) (lv) (Value.int x :: st) := by
  obtain ⟨p, l, e, R, s, m, args, below, meth, c, Q⟩ := X
  obtain ⟨hx, hb, hml, hown, hts, hK, hN, hRf, hRl, hRc, hRs, hll, hBs⟩ := C
  intro H locs ls hP hS hl
  exact lv_if_eq hx hb hd ht (fun h => kt h H locs ls hP hS hl) (fun h => kf h H locs ls hP hS hl)
theorem g_icmp_eq (C : Cx X D cy B cc nL own Ts l0 fr lo rc rs) {x y : Int32} {off : Int} {tgt : Nat} (hd : decode cc pc = .ok (.if_icmp .eq off, 3)) (ht : (pc : Int) + off = (tgt : Int)) (kt : x = y → G X D cy B cells slots n M P (tgt) (lv) (st)) (kf : ¬ x = y → G X D cy B cells slots n M P (pc + 3) (lv) (st)) : G X D cy B cells slots n M P (pc) (lv) (Value.int y :: Value.int x :: st) := by
  obtain ⟨p, l, e, R, s, m, args, below, meth, c, Q⟩ := X
  obtain ⟨hx, hb, hml, hown, hts, hK, hN, hRf, hRl, hRc, hRs, hll, hBs⟩ := C
  intro H locs ls hP hS hl
  exact lv_icmp_eq hx hb hd ht (fun h => kt h H locs ls hP hS hl) (fun h => kf h H locs ls hP hS hl)
theorem g_if_ne (C : Cx X D cy B cc nL own Ts l0 fr lo rc rs) {x : Int32} {off : Int} {tgt : Nat} (hd : decode cc pc = .ok (.ifCond .ne off, 3)) (ht : (pc : Int) + off = (tgt : Int)) (kt : ¬ x = 0 → G X D cy B cells slots n M P (tgt) (lv) (st)) (kf : x = 0 → G X D cy B cells slots n M P (pc + 3) (lv) (st)) : G X D cy B cells slots n M P (pc) (lv) (Value.int x :: st) := by
  obtain ⟨p, l, e, R, s, m, args, below, meth, c, Q⟩ := X
  obtain ⟨hx, hb, hml, hown, hts, hK, hN, hRf, hRl, hRc, hRs, hll, hBs⟩ := C
  intro H locs ls hP hS hl
  exact lv_if_ne hx hb hd ht (fun h => kt h H locs ls hP hS hl) (fun h => kf h H locs ls hP hS hl)
theorem g_icmp_ne (C : Cx X D cy B cc nL own Ts l0 fr lo rc rs) {x y : Int32} {off : Int} {tgt : Nat} (hd : decode cc pc = .ok (.if_icmp .ne off, 3)) (ht : (pc : Int) + off = (tgt : Int)) (kt : ¬ x = y → G X D cy B cells slots n M P (tgt) (lv) (st)) (kf : x = y → G X D cy B cells slots n M P (pc + 3) (lv) (st)) : G X D cy B cells slots n M P (pc) (lv) (Value.int y :: Value.int x :: st) := by
  obtain ⟨p, l, e, R, s, m, args, below, meth, c, Q⟩ := X
  obtain ⟨hx, hb, hml, hown, hts, hK, hN, hRf, hRl, hRc, hRs, hll, hBs⟩ := C
  intro H locs ls hP hS hl
  exact lv_icmp_ne hx hb hd ht (fun h => kt h H locs ls hP hS hl) (fun h => kf h H locs ls hP hS hl)
theorem g_if_lt (C : Cx X D cy B cc nL own Ts l0 fr lo rc rs) {x : Int32} {off : Int} {tgt : Nat} (hd : decode cc pc = .ok (.ifCond .lt off, 3)) (ht : (pc : Int) + off = (tgt : Int)) (kt : x < 0 → G X D cy B cells slots n M P (tgt) (lv) (st)) (kf : ¬ x < 0 → G X D cy B cells slots n M P (pc + 3) (lv) (st)) : G X D cy B cells slots n M P (pc) (lv) (Value.int x :: st) := by
  obtain ⟨p, l, e, R, s, m, args, below, meth, c, Q⟩ := X
  obtain ⟨hx, hb, hml, hown, hts, hK, hN, hRf, hRl, hRc, hRs, hll, hBs⟩ := C
  intro H locs ls hP hS hl
  exact lv_if_lt hx hb hd ht (fun h => kt h H locs ls hP hS hl) (fun h => kf h H locs ls hP hS hl)
theorem g_icmp_lt (C : Cx X D cy B cc nL own Ts l0 fr lo rc rs) {x y : Int32} {off : Int} {tgt : Nat} (hd : decode cc pc = .ok (.if_icmp .lt off, 3)) (ht : (pc : Int) + off = (tgt : Int)) (kt : x < y → G X D cy B cells slots n M P (tgt) (lv) (st)) (kf : ¬ x < y → G X D cy B cells slots n M P (pc + 3) (lv) (st)) : G X D cy B cells slots n M P (pc) (lv) (Value.int y :: Value.int x :: st) := by
  obtain ⟨p, l, e, R, s, m, args, below, meth, c, Q⟩ := X
  obtain ⟨hx, hb, hml, hown, hts, hK, hN, hRf, hRl, hRc, hRs, hll, hBs⟩ := C
  intro H locs ls hP hS hl
  exact lv_icmp_lt hx hb hd ht (fun h => kt h H locs ls hP hS hl) (fun h => kf h H locs ls hP hS hl)
theorem g_if_ge (C : Cx X D cy B cc nL own Ts l0 fr lo rc rs) {x : Int32} {off : Int} {tgt : Nat} (hd : decode cc pc = .ok (.ifCond .ge off, 3)) (ht : (pc : Int) + off = (tgt : Int)) (kt : 0 ≤ x → G X D cy B cells slots n M P (tgt) (lv) (st)) (kf : ¬ 0 ≤ x → G X D cy B cells slots n M P (pc + 3) (lv) (st)) : G X D cy B cells slots n M P (pc) (lv) (Value.int x :: st) := by
  obtain ⟨p, l, e, R, s, m, args, below, meth, c, Q⟩ := X
  obtain ⟨hx, hb, hml, hown, hts, hK, hN, hRf, hRl, hRc, hRs, hll, hBs⟩ := C
  intro H locs ls hP hS hl
  exact lv_if_ge hx hb hd ht (fun h => kt h H locs ls hP hS hl) (fun h => kf h H locs ls hP hS hl)
theorem g_icmp_ge (C : Cx X D cy B cc nL own Ts l0 fr lo rc rs) {x y : Int32} {off : Int} {tgt : Nat} (hd : decode cc pc = .ok (.if_icmp .ge off, 3)) (ht : (pc : Int) + off = (tgt : Int)) (kt : y ≤ x → G X D cy B cells slots n M P (tgt) (lv) (st)) (kf : ¬ y ≤ x → G X D cy B cells slots n M P (pc + 3) (lv) (st)) : G X D cy B cells slots n M P (pc) (lv) (Value.int y :: Value.int x :: st) := by
  obtain ⟨p, l, e, R, s, m, args, below, meth, c, Q⟩ := X
  obtain ⟨hx, hb, hml, hown, hts, hK, hN, hRf, hRl, hRc, hRs, hll, hBs⟩ := C
  intro H locs ls hP hS hl
  exact lv_icmp_ge hx hb hd ht (fun h => kt h H locs ls hP hS hl) (fun h => kf h H locs ls hP hS hl)
theorem g_if_gt (C : Cx X D cy B cc nL own Ts l0 fr lo rc rs) {x : Int32} {off : Int} {tgt : Nat} (hd : decode cc pc = .ok (.ifCond .gt off, 3)) (ht : (pc : Int) + off = (tgt : Int)) (kt : 0 < x → G X D cy B cells slots n M P (tgt) (lv) (st)) (kf : ¬ 0 < x → G X D cy B cells slots n M P (pc + 3) (lv) (st)) : G X D cy B cells slots n M P (pc) (lv) (Value.int x :: st) := by
  obtain ⟨p, l, e, R, s, m, args, below, meth, c, Q⟩ := X
  obtain ⟨hx, hb, hml, hown, hts, hK, hN, hRf, hRl, hRc, hRs, hll, hBs⟩ := C
  intro H locs ls hP hS hl
  exact lv_if_gt hx hb hd ht (fun h => kt h H locs ls hP hS hl) (fun h => kf h H locs ls hP hS hl)
theorem g_icmp_gt (C : Cx X D cy B cc nL own Ts l0 fr lo rc rs) {x y : Int32} {off : Int} {tgt : Nat} (hd : decode cc pc = .ok (.if_icmp .gt off, 3)) (ht : (pc : Int) + off = (tgt : Int)) (kt : y < x → G X D cy B cells slots n M P (tgt) (lv) (st)) (kf : ¬ y < x → G X D cy B cells slots n M P (pc + 3) (lv) (st)) : G X D cy B cells slots n M P (pc) (lv) (Value.int y :: Value.int x :: st) := by
  obtain ⟨p, l, e, R, s, m, args, below, meth, c, Q⟩ := X
  obtain ⟨hx, hb, hml, hown, hts, hK, hN, hRf, hRl, hRc, hRs, hll, hBs⟩ := C
  intro H locs ls hP hS hl
  exact lv_icmp_gt hx hb hd ht (fun h => kt h H locs ls hP hS hl) (fun h => kf h H locs ls hP hS hl)
theorem g_if_le (C : Cx X D cy B cc nL own Ts l0 fr lo rc rs) {x : Int32} {off : Int} {tgt : Nat} (hd : decode cc pc = .ok (.ifCond .le off, 3)) (ht : (pc : Int) + off = (tgt : Int)) (kt : x ≤ 0 → G X D cy B cells slots n M P (tgt) (lv) (st)) (kf : ¬ x ≤ 0 → G X D cy B cells slots n M P (pc + 3) (lv) (st)) : G X D cy B cells slots n M P (pc) (lv) (Value.int x :: st) := by
  obtain ⟨p, l, e, R, s, m, args, below, meth, c, Q⟩ := X
  obtain ⟨hx, hb, hml, hown, hts, hK, hN, hRf, hRl, hRc, hRs, hll, hBs⟩ := C
  intro H locs ls hP hS hl
  exact lv_if_le hx hb hd ht (fun h => kt h H locs ls hP hS hl) (fun h => kf h H locs ls hP hS hl)
theorem g_icmp_le (C : Cx X D cy B cc nL own Ts l0 fr lo rc rs) {x y : Int32} {off : Int} {tgt : Nat} (hd : decode cc pc = .ok (.if_icmp .le off, 3)) (ht : (pc : Int) + off = (tgt : Int)) (kt : x ≤ y → G X D cy B cells slots n M P (tgt) (lv) (st)) (kf : ¬ x ≤ y → G X D cy B cells slots n M P (pc + 3) (lv) (st)) : G X D cy B cells slots n M P (pc) (lv) (Value.int y :: Value.int x :: st) := by
  obtain ⟨p, l, e, R, s, m, args, below, meth, c, Q⟩ := X
  obtain ⟨hx, hb, hml, hown, hts, hK, hN, hRf, hRl, hRc, hRs, hll, hBs⟩ := C
  intro H locs ls hP hS hl
  exact lv_icmp_le hx hb hd ht (fun h => kt h H locs ls hP hS hl) (fun h => kf h H locs ls hP hS hl)
theorem g_goto (C : Cx X D cy B cc nL own Ts l0 fr lo rc rs) {off : Int} {tgt : Nat} (hd : decode cc pc = .ok (.goto off, 3)) (ht : (pc : Int) + off = (tgt : Int)) (k : G X D cy B cells slots n M P (tgt) (lv) (st)) : G X D cy B cells slots n M P (pc) (lv) (st) := by
  obtain ⟨p, l, e, R, s, m, args, below, meth, c, Q⟩ := X
  obtain ⟨hx, hb, hml, hown, hts, hK, hN, hRf, hRl, hRc, hRs, hll, hBs⟩ := C
  intro H locs ls hP hS hl
  exact lv_goto hx hb hd ht (k H locs ls hP hS hl)
theorem g_ifnonnull (C : Cx X D cy B cc nL own Ts l0 fr lo rc rs) {x : Nat} {off : Int} {tgt : Nat} (hd : decode cc pc = .ok (.ifnonnull off, 3)) (ht : (pc : Int) + off = (tgt : Int)) (k : G X D cy B cells slots n M P (tgt) (lv) (st)) : G X D cy B cells slots n M P (pc) (lv) (Value.ref x :: st) := by
  obtain ⟨p, l, e, R, s, m, args, below, meth, c, Q⟩ := X
  obtain ⟨hx, hb, hml, hown, hts, hK, hN, hRf, hRl, hRc, hRs, hll, hBs⟩ := C
  intro H locs ls hP hS hl
  exact lv_ifnonnull hx hb hd ht (k H locs ls hP hS hl)
theorem g_ifnull (C : Cx X D cy B cc nL own Ts l0 fr lo rc rs) {x : Nat} {off : Int} (hd : decode cc pc = .ok (.ifnull off, 3)) (k : G X D cy B cells slots n M P (pc + 3) (lv) (st)) : G X D cy B cells slots n M P (pc) (lv) (Value.ref x :: st) := by
  obtain ⟨p, l, e, R, s, m, args, below, meth, c, Q⟩ := X
  obtain ⟨hx, hb, hml, hown, hts, hK, hN, hRf, hRl, hRc, hRs, hll, hBs⟩ := C
  intro H locs ls hP hS hl
  exact lv_ifnull hx hb hd (k H locs ls hP hS hl)
theorem g_null (C : Cx X D cy B cc nL own Ts l0 fr lo rc rs) (hd : decode cc pc = .ok (.aconst_null, 1)) (k : G X D cy B cells slots n M P (pc + 1) (lv) (Value.null :: st)) : G X D cy B cells slots n M P (pc) (lv) (st) := by
  obtain ⟨p, l, e, R, s, m, args, below, meth, c, Q⟩ := X
  obtain ⟨hx, hb, hml, hown, hts, hK, hN, hRf, hRl, hRc, hRs, hll, hBs⟩ := C
  intro H locs ls hP hS hl
  exact lv_null hx hb hd (k H locs ls hP hS hl)
theorem g_ifnullN (C : Cx X D cy B cc nL own Ts l0 fr lo rc rs) {off : Int} {tgt : Nat} (hd : decode cc pc = .ok (.ifnull off, 3)) (ht : (pc : Int) + off = (tgt : Int)) (k : G X D cy B cells slots n M P (tgt) (lv) (st)) : G X D cy B cells slots n M P (pc) (lv) (Value.null :: st) := by
  obtain ⟨p, l, e, R, s, m, args, below, meth, c, Q⟩ := X
  obtain ⟨hx, hb, hml, hown, hts, hK, hN, hRf, hRl, hRc, hRs, hll, hBs⟩ := C
  intro H locs ls hP hS hl
  exact lv_ifnullN hx hb hd ht (k H locs ls hP hS hl)
theorem g_ifnonnullN (C : Cx X D cy B cc nL own Ts l0 fr lo rc rs) {off : Int} (hd : decode cc pc = .ok (.ifnonnull off, 3)) (k : G X D cy B cells slots n M P (pc + 3) (lv) (st)) : G X D cy B cells slots n M P (pc) (lv) (Value.null :: st) := by
  obtain ⟨p, l, e, R, s, m, args, below, meth, c, Q⟩ := X
  obtain ⟨hx, hb, hml, hown, hts, hK, hN, hRf, hRl, hRc, hRs, hll, hBs⟩ := C
  intro H locs ls hP hS hl
  exact lv_ifnonnullN hx hb hd (k H locs ls hP hS hl)
theorem g_aloadNN (C : Cx X D cy B cc nL own Ts l0 fr lo rc rs) {j : Fin 4} {i : Nat} (hd : decode cc pc = .ok (.aload_n j, 1)) (hi : (j : Nat) = i) (hv : lv[i]? = some (some Value.null)) (k : G X D cy B cells slots n M P (pc + 1) (lv) (Value.null :: st)) : G X D cy B cells slots n M P (pc) (lv) (st) := by
  obtain ⟨p, l, e, R, s, m, args, below, meth, c, Q⟩ := X
  obtain ⟨hx, hb, hml, hown, hts, hK, hN, hRf, hRl, hRc, hRs, hll, hBs⟩ := C
  intro H locs ls hP hS hl
  exact lv_aload_nN hx hb hd hi (hl.at hv) (k H locs ls hP hS hl)
theorem g_aloadWN (C : Cx X D cy B cc nL own Ts l0 fr lo rc rs) {i : Nat} (hd : decode cc pc = .ok (.aload i, 2)) (hv : lv[i]? = some (some Value.null)) (k : G X D cy B cells slots n M P (pc + 2) (lv) (Value.null :: st)) : G X D cy B cells slots n M P (pc) (lv) (st) := by
  obtain ⟨p, l, e, R, s, m, args, below, meth, c, Q⟩ := X
  obtain ⟨hx, hb, hml, hown, hts, hK, hN, hRf, hRl, hRc, hRs, hll, hBs⟩ := C
  intro H locs ls hP hS hl
  exact lv_aloadN hx hb hd (hl.at hv) (k H locs ls hP hS hl)
theorem g_astoreNN (C : Cx X D cy B cc nL own Ts l0 fr lo rc rs) {j : Fin 4} {i : Nat} (hd : decode cc pc = .ok (.astore_n j, 1)) (hi : (j : Nat) = i) (hn : i < lv.length) (k : G X D cy B cells slots n M P (pc + 1) (lv.set i (some Value.null)) (st)) : G X D cy B cells slots n M P (pc) (lv) (Value.null :: st) := by
  obtain ⟨p, l, e, R, s, m, args, below, meth, c, Q⟩ := X
  obtain ⟨hx, hb, hml, hown, hts, hK, hN, hRf, hRl, hRc, hRs, hll, hBs⟩ := C
  intro H locs ls hP hS hl
  exact lv_astore_nN (lv' := _) hx hb hd hi hl.lv hn rfl (fun ls' h' => k H locs ls' hP hS (hl.set rfl h'))
theorem g_astoreWN (C : Cx X D cy B cc nL own Ts l0 fr lo rc rs) {i : Nat} (hd : decode cc pc = .ok (.astore i, 2)) (hn : i < lv.length) (k : G X D cy B cells slots n M P (pc + 2) (lv.set i (some Value.null)) (st)) : G X D cy B cells slots n M P (pc) (lv) (Value.null :: st) := by
  obtain ⟨p, l, e, R, s, m, args, below, meth, c, Q⟩ := X
  obtain ⟨hx, hb, hml, hown, hts, hK, hN, hRf, hRl, hRc, hRs, hll, hBs⟩ := C
  intro H locs ls hP hS hl
  exact lv_astoreN (lv' := _) hx hb hd hl.lv hn rfl (fun ls' h' => k H locs ls' hP hS (hl.set rfl h'))
theorem g_aloadZ_0 (C : Cx X D cy B cc nL own Ts l0 fr lo rc rs) {r : List (Option Value)} (hd : decode cc pc = .ok (.aload_n 0, 1)) (k : G X D cy B cells slots n M P (pc + 1) (some Value.null :: r) (Value.null :: st)) : G X D cy B cells slots n M P (pc) (some Value.null :: r) (st) := g_aloadNN C hd rfl rfl k
theorem g_astoreZ_0 (C : Cx X D cy B cc nL own Ts l0 fr lo rc rs) {a0 : Option Value} {r : List (Option Value)} (hd : decode cc pc = .ok (.astore_n 0, 1)) (k : G X D cy B cells slots n M P (pc + 1) (some Value.null :: r) (st)) : G X D cy B cells slots n M P (pc) (a0 :: r) (Value.null :: st) := g_astoreNN C hd rfl (by simp only [List.length_cons]; omega) k
theorem g_aloadZ_1 (C : Cx X D cy B cc nL own Ts l0 fr lo rc rs) {a0 : Option Value} {r : List (Option Value)} (hd : decode cc pc = .ok (.aload_n 1, 1)) (k : G X D cy B cells slots n M P (pc + 1) (a0 :: some Value.null :: r) (Value.null :: st)) : G X D cy B cells slots n M P (pc) (a0 :: some Value.null :: r) (st) := g_aloadNN C hd rfl rfl k
theorem g_astoreZ_1 (C : Cx X D cy B cc nL own Ts l0 fr lo rc rs) {a0 a1 : Option Value} {r : List (Option Value)} (hd : decode cc pc = .ok (.astore_n 1, 1)) (k : G X D cy B cells slots n M P (pc + 1) (a0 :: some Value.null :: r) (st)) : G X D cy B cells slots n M P (pc) (a0 :: a1 :: r) (Value.null :: st) := g_astoreNN C hd rfl (by simp only [List.length_cons]; omega) k
theorem g_aloadZ_2 (C : Cx X D cy B cc nL own Ts l0 fr lo rc rs) {a0 a1 : Option Value} {r : List (Option Value)} (hd : decode cc pc = .ok (.aload_n 2, 1)) (k : G X D cy B cells slots n M P (pc + 1) (a0 :: a1 :: some Value.null :: r) (Value.null :: st)) : G X D cy B cells slots n M P (pc) (a0 :: a1 :: some Value.null :: r) (st) := g_aloadNN C hd rfl rfl k
theorem g_astoreZ_2 (C : Cx X D cy B cc nL own Ts l0 fr lo rc rs) {a0 a1 a2 : Option Value} {r : List (Option Value)} (hd : decode cc pc = .ok (.astore_n 2, 1)) (k : G X D cy B cells slots n M P (pc + 1) (a0 :: a1 :: some Value.null :: r) (st)) : G X D cy B cells slots n M P (pc) (a0 :: a1 :: a2 :: r) (Value.null :: st) := g_astoreNN C hd rfl (by simp only [List.length_cons]; omega) k
theorem g_aloadZ_3 (C : Cx X D cy B cc nL own Ts l0 fr lo rc rs) {a0 a1 a2 : Option Value} {r : List (Option Value)} (hd : decode cc pc = .ok (.aload_n 3, 1)) (k : G X D cy B cells slots n M P (pc + 1) (a0 :: a1 :: a2 :: some Value.null :: r) (Value.null :: st)) : G X D cy B cells slots n M P (pc) (a0 :: a1 :: a2 :: some Value.null :: r) (st) := g_aloadNN C hd rfl rfl k
theorem g_astoreZ_3 (C : Cx X D cy B cc nL own Ts l0 fr lo rc rs) {a0 a1 a2 a3 : Option Value} {r : List (Option Value)} (hd : decode cc pc = .ok (.astore_n 3, 1)) (k : G X D cy B cells slots n M P (pc + 1) (a0 :: a1 :: a2 :: some Value.null :: r) (st)) : G X D cy B cells slots n M P (pc) (a0 :: a1 :: a2 :: a3 :: r) (Value.null :: st) := g_astoreNN C hd rfl (by simp only [List.length_cons]; omega) k
theorem g_aloadZ_4 (C : Cx X D cy B cc nL own Ts l0 fr lo rc rs) {a0 a1 a2 a3 : Option Value} {r : List (Option Value)} (hd : decode cc pc = .ok (.aload 4, 2)) (k : G X D cy B cells slots n M P (pc + 2) (a0 :: a1 :: a2 :: a3 :: some Value.null :: r) (Value.null :: st)) : G X D cy B cells slots n M P (pc) (a0 :: a1 :: a2 :: a3 :: some Value.null :: r) (st) := g_aloadWN C hd rfl k
theorem g_astoreZ_4 (C : Cx X D cy B cc nL own Ts l0 fr lo rc rs) {a0 a1 a2 a3 a4 : Option Value} {r : List (Option Value)} (hd : decode cc pc = .ok (.astore 4, 2)) (k : G X D cy B cells slots n M P (pc + 2) (a0 :: a1 :: a2 :: a3 :: some Value.null :: r) (st)) : G X D cy B cells slots n M P (pc) (a0 :: a1 :: a2 :: a3 :: a4 :: r) (Value.null :: st) := g_astoreWN C hd (by simp only [List.length_cons]; omega) k
theorem g_aloadZ_5 (C : Cx X D cy B cc nL own Ts l0 fr lo rc rs) {a0 a1 a2 a3 a4 : Option Value} {r : List (Option Value)} (hd : decode cc pc = .ok (.aload 5, 2)) (k : G X D cy B cells slots n M P (pc + 2) (a0 :: a1 :: a2 :: a3 :: a4 :: some Value.null :: r) (Value.null :: st)) : G X D cy B cells slots n M P (pc) (a0 :: a1 :: a2 :: a3 :: a4 :: some Value.null :: r) (st) := g_aloadWN C hd rfl k
theorem g_astoreZ_5 (C : Cx X D cy B cc nL own Ts l0 fr lo rc rs) {a0 a1 a2 a3 a4 a5 : Option Value} {r : List (Option Value)} (hd : decode cc pc = .ok (.astore 5, 2)) (k : G X D cy B cells slots n M P (pc + 2) (a0 :: a1 :: a2 :: a3 :: a4 :: some Value.null :: r) (st)) : G X D cy B cells slots n M P (pc) (a0 :: a1 :: a2 :: a3 :: a4 :: a5 :: r) (Value.null :: st) := g_astoreWN C hd (by simp only [List.length_cons]; omega) k
theorem g_aloadZ_6 (C : Cx X D cy B cc nL own Ts l0 fr lo rc rs) {a0 a1 a2 a3 a4 a5 : Option Value} {r : List (Option Value)} (hd : decode cc pc = .ok (.aload 6, 2)) (k : G X D cy B cells slots n M P (pc + 2) (a0 :: a1 :: a2 :: a3 :: a4 :: a5 :: some Value.null :: r) (Value.null :: st)) : G X D cy B cells slots n M P (pc) (a0 :: a1 :: a2 :: a3 :: a4 :: a5 :: some Value.null :: r) (st) := g_aloadWN C hd rfl k
theorem g_astoreZ_6 (C : Cx X D cy B cc nL own Ts l0 fr lo rc rs) {a0 a1 a2 a3 a4 a5 a6 : Option Value} {r : List (Option Value)} (hd : decode cc pc = .ok (.astore 6, 2)) (k : G X D cy B cells slots n M P (pc + 2) (a0 :: a1 :: a2 :: a3 :: a4 :: a5 :: some Value.null :: r) (st)) : G X D cy B cells slots n M P (pc) (a0 :: a1 :: a2 :: a3 :: a4 :: a5 :: a6 :: r) (Value.null :: st) := g_astoreWN C hd (by simp only [List.length_cons]; omega) k
theorem g_tableOut (C : Cx X D cy B cc nL own Ts l0 fr lo rc rs) {dflt a b : Int} {offs : Array Int} {len : Nat} {x : Int32} {tgt : Nat} (hd : decode cc pc = .ok (.tableswitch dflt a b offs, len)) (h : x.toInt < a ∨ b < x.toInt) (ht : (pc : Int) + dflt = (tgt : Int)) (k : G X D cy B cells slots n M P (tgt) (lv) (st)) : G X D cy B cells slots n M P (pc) (lv) (Value.int x :: st) := by
  obtain ⟨p, l, e, R, s, m, args, below, meth, c, Q⟩ := X
  obtain ⟨hx, hb, hml, hown, hts, hK, hN, hRf, hRl, hRc, hRs, hll, hBs⟩ := C
  intro H locs ls hP hS hl
  exact lv_tableOut hx hb hd h ht (k H locs ls hP hS hl)
theorem g_tableIn (C : Cx X D cy B cc nL own Ts l0 fr lo rc rs) {dflt a b : Int} {offs : Array Int} {len : Nat} {x : Int32} {off : Int} {tgt : Nat} (hd : decode cc pc = .ok (.tableswitch dflt a b offs, len)) (h1 : ¬ x.toInt < a) (h2 : ¬ b < x.toInt) (ho : offs[(x.toInt - a).toNat]? = some off) (ht : (pc : Int) + off = (tgt : Int)) (k : G X D cy B cells slots n M P (tgt) (lv) (st)) : G X D cy B cells slots n M P (pc) (lv) (Value.int x :: st) := by
  obtain ⟨p, l, e, R, s, m, args, below, meth, c, Q⟩ := X
  obtain ⟨hx, hb, hml, hown, hts, hK, hN, hRf, hRl, hRc, hRs, hll, hBs⟩ := C
  intro H locs ls hP hS hl
  exact lv_tableIn hx hb hd h1 h2 ho ht (k H locs ls hP hS hl)
theorem g_lookup (C : Cx X D cy B cc nL own Ts l0 fr lo rc rs) {dflt : Int} {ps : Array (Int × Int)} {len : Nat} {x : Int32} {off : Int} {tgt : Nat} (hd : decode cc pc = .ok (.lookupswitch dflt ps, len)) (hp : (ps.toList.zip (ps.toList.drop 1)).all (fun (a, next) => a.1 < next.1) = true) (ho : Op.lookupswitch.offset ps.toList dflt x.toInt = off) (ht : (pc : Int) + off = (tgt : Int)) (k : G X D cy B cells slots n M P (tgt) (lv) (st)) : G X D cy B cells slots n M P (pc) (lv) (Value.int x :: st) := by
  obtain ⟨p, l, e, R, s, m, args, below, meth, c, Q⟩ := X
  obtain ⟨hx, hb, hml, hown, hts, hK, hN, hRf, hRl, hRc, hRs, hll, hBs⟩ := C
  intro H locs ls hP hS hl
  exact lv_lookup hx hb hd hp ho ht (k H locs ls hP hS hl)
end GR
theorem ln_lt (o : Nat) : ln o < 2000 := by
  unfold ln
  repeat' split
  all_goals omega
/-- an instruction's field: the class ci of the kind ci, its field j, of the type t -/
def FL (Ts : List Cond) (own : String) (index ci j t : Nat) : Prop := ∃ (C' : String) (T : u_T) (N : Nat), vwCl[ci]? = some (C', T, N) ∧ (∀ w ∈ u_ws C' T N, w ∈ Ts) ∧ j < N ∧ Cond.fieldLink own index (T j).1 (T j).2.1 (T j).2.2.1 ∈ Ts ∧ ci < 8 ∧ j < nf ci ∧ ft ci j = t
def PF (Ts : List Cond) (own : String) (index ci j t : Nat) (fin : Bool) (ty : FieldType) : Prop := ∃ (C' : String) (T : u_T) (N : Nat) (ty0 : Nat → FieldType), vwCl[ci]? = some (C', T, N) ∧ (∀ w ∈ u_ws C' T N, w ∈ Ts) ∧ j < N ∧ Cond.fieldLink own index (T j).1 (T j).2.1 (T j).2.2.1 ∈ Ts ∧ ci < 8 ∧ j < nf ci ∧ ft ci j = t ∧ (∀ k, k < N → parseFieldDescriptor (T k).2.2.1 = some (ty0 k)) ∧ (∀ a, a < N → ∀ b, b < N → a ≠ b → (T a).2.1 ≠ (T b).2.1) ∧ (T j).2.2.2 = fin ∧ parseFieldDescriptor (T j).2.2.1 = some ty ∧ (fin = true → (T j).1 = own)
theorem FL.of {Ts : List Cond} {own : String} {index ci j t : Nat} (C' : String) (T : u_T) (N : Nat) (h1 : vwCl[ci]? = some (C', T, N)) (h2 : ∀ w ∈ u_ws C' T N, w ∈ Ts) (h3 : Cond.fieldLink own index (T j).1 (T j).2.1 (T j).2.2.1 ∈ Ts) (h4 : (decide (j < N) && decide (ci < 8) && decide (j < nf ci) && decide (ft ci j = t)) = true) : FL Ts own index ci j t := by
  simp only [Bool.and_eq_true, decide_eq_true_eq] at h4
  exact ⟨C', T, N, h1, h2, h4.1.1.1, h3, h4.1.1.2, h4.1.2, h4.2⟩
section GR
variable {X : GX} {D : va_G} {cy : Nat → ClassId} {B cells slots n : Nat} {M : MM} {P : PP} {cc : ByteArray} {nL : Nat} {own : String} {Ts : List Cond} {fr lo rc rs pc : Nat} {lv : List (Option Value)} {st : List Value} {l0 : Launch}
theorem fv_i {B : Nat} {M : MM} {P : PP} {k o j t : Nat} (h : ft k j = t) (h1 : t ≠ 1) (h2 : t ≠ 2) : fv B M P k o j = .int (M o j) := by
  subst h
  simp only [fv, if_neg h1, if_neg h2]
theorem fv_r {B : Nat} {M : MM} {P : PP} {k o j x : Nat} (h : ft k j = 1) (hx : P o j = x) (h0 : x ≠ 0) : fv B M P k o j = .ref (B + x) := by
  subst hx
  simp only [fv, if_pos h, rq_some h0, va_rf]
theorem fv_f {B : Nat} {M : MM} {P : PP} {k o j : Nat} (h : ft k j = 2) : fv B M P k o j = .float (M o j).toUInt32 := by
  simp [fv, h]
theorem fv_M {B : Nat} {M : MM} {P : PP} {k o i j : Nat} {x : Int32} (h : i ≠ j) : fv B (up M o (up (M o) j x)) P k o i = fv B M P k o i := by
  simp only [fv, up_same, up_ne _ _ h]
theorem fv_P {B : Nat} {M : MM} {P : PP} {k o i j : Nat} {x : Nat} (h : i ≠ j) : fv B M (up P o (up (P o) j x)) k o i = fv B M P k o i := by
  simp only [fv, up_same, up_ne _ _ h]
theorem ce_put {cy : Nat → ClassId} {B : Nat} {M M' : MM} {P P' : PP} {o k j : Nat} {v : Value} (h : kd o = k) (hk : k < 8) (hv : fv B M' P' k o j = v) (hne : ∀ i, i ≠ j → fv B M' P' k o i = fv B M P k o i) : ce cy B M' P' o = .inr (k, ((List.range (nf k)).map (fv B M P k o)).set j v) := by
  rw [ce_obj h hk, fs_set hv hne]
theorem g_geti (C : Cx X D cy B cc nL own Ts l0 fr lo rc rs) {index ci j o : Nat} (hf : FL Ts own index ci j 0) (ho : kk n o ci) (hd : decode cc pc = .ok (.getfield index, 3)) (k : G X D cy B cells slots n M P (pc + 3) (lv) (Value.int (M o j) :: st)) : G X D cy B cells slots n M P (pc) (lv) (Value.ref (B + o) :: st) := by
  obtain ⟨p, l, e, R, s, m, args, below, meth, c, Q⟩ := X
  obtain ⟨hx, hb, hml, hown, hts, hK, hN, hRf, hRl, hRc, hRs, hll, hBs⟩ := C
  intro H locs ls hP hS hl
  obtain ⟨C', T, N, h1, h2, h3, h4, h5, h6, h7⟩ := hf
  exact va_get (D := D) hx hb hts h2 hown hK hP o ((wl_get ho.1).trans (by rw [ce_obj ho.2 h5])) h1 j h3 (hts _ h4) (fun _ h => h) ((fs_get h6).trans (congrArg some (fv_i h7 (by decide) (by decide)))) hd (k H locs ls hP hS hl)
theorem g_getz (C : Cx X D cy B cc nL own Ts l0 fr lo rc rs) {index ci j o : Nat} (hf : FL Ts own index ci j 3) (ho : kk n o ci) (hd : decode cc pc = .ok (.getfield index, 3)) (k : G X D cy B cells slots n M P (pc + 3) (lv) (Value.int (M o j) :: st)) : G X D cy B cells slots n M P (pc) (lv) (Value.ref (B + o) :: st) := by
  obtain ⟨p, l, e, R, s, m, args, below, meth, c, Q⟩ := X
  obtain ⟨hx, hb, hml, hown, hts, hK, hN, hRf, hRl, hRc, hRs, hll, hBs⟩ := C
  intro H locs ls hP hS hl
  obtain ⟨C', T, N, h1, h2, h3, h4, h5, h6, h7⟩ := hf
  exact va_get (D := D) hx hb hts h2 hown hK hP o ((wl_get ho.1).trans (by rw [ce_obj ho.2 h5])) h1 j h3 (hts _ h4) (fun _ h => h) ((fs_get h6).trans (congrArg some (fv_i h7 (by decide) (by decide)))) hd (k H locs ls hP hS hl)
theorem g_getf (C : Cx X D cy B cc nL own Ts l0 fr lo rc rs) {index ci j o : Nat} (hf : FL Ts own index ci j 2) (ho : kk n o ci) (hd : decode cc pc = .ok (.getfield index, 3)) (k : G X D cy B cells slots n M P (pc + 3) (lv) (Value.float (M o j).toUInt32 :: st)) : G X D cy B cells slots n M P (pc) (lv) (Value.ref (B + o) :: st) := by
  obtain ⟨p, l, e, R, s, m, args, below, meth, c, Q⟩ := X
  obtain ⟨hx, hb, hml, hown, hts, hK, hN, hRf, hRl, hRc, hRs, hll, hBs⟩ := C
  intro H locs ls hP hS hl
  obtain ⟨C', T, N, h1, h2, h3, h4, h5, h6, h7⟩ := hf
  exact va_get (D := D) hx hb hts h2 hown hK hP o ((wl_get ho.1).trans (by rw [ce_obj ho.2 h5])) h1 j h3 (hts _ h4) (fun _ h => h) ((fs_get h6).trans (congrArg some (fv_f h7))) hd (k H locs ls hP hS hl)
theorem g_getr (C : Cx X D cy B cc nL own Ts l0 fr lo rc rs) {index ci j o : Nat} {x : Nat} (hp : rr P o j x) (hf : FL Ts own index ci j 1) (ho : kk n o ci) (hd : decode cc pc = .ok (.getfield index, 3)) (k : G X D cy B cells slots n M P (pc + 3) (lv) (Value.ref (B + x) :: st)) : G X D cy B cells slots n M P (pc) (lv) (Value.ref (B + o) :: st) := by
  obtain ⟨p, l, e, R, s, m, args, below, meth, c, Q⟩ := X
  obtain ⟨hx, hb, hml, hown, hts, hK, hN, hRf, hRl, hRc, hRs, hll, hBs⟩ := C
  intro H locs ls hP hS hl
  obtain ⟨C', T, N, h1, h2, h3, h4, h5, h6, h7⟩ := hf
  exact va_get (D := D) hx hb hts h2 hown hK hP o ((wl_get ho.1).trans (by rw [ce_obj ho.2 h5])) h1 j h3 (hts _ h4) (fun _ h => h) ((fs_get h6).trans (congrArg some (fv_r h7 hp.1 hp.2))) hd (k H locs ls hP hS hl)
theorem g_puti (C : Cx X D cy B cc nL own Ts l0 fr lo rc rs) {index ci j o : Nat} {v : Int32} (hf : PF Ts own index ci j 0 false .int) (ho : kk n o ci) (hd : decode cc pc = .ok (.putfield index, 3)) (k : G X D cy B cells slots n (up M o (up (M o) j v)) P (pc + 3) (lv) (st)) : G X D cy B cells slots n M P (pc) (lv) (Value.int v :: Value.ref (B + o) :: st) := by
  obtain ⟨p, l, e, R, s, m, args, below, meth, c, Q⟩ := X
  obtain ⟨hx, hb, hml, hown, hts, hK, hN, hRf, hRl, hRc, hRs, hll, hBs⟩ := C
  intro H locs ls hP hS hl
  obtain ⟨C', T, N, ty0, h1, h2, h3, h4, h5, h6, h7, h8, h9, h10, h11, h12⟩ := hf
  refine va_put (D := D) hx hb hts h2 ty0 h8 h9 hown hK hP wl_D hS o ((wl_get ho.1).trans (by rw [ce_obj ho.2 h5])) h1 j h3 (hts _ h4) (fun _ h => h) h10 h11 rfl rfl (fs_len h6) hd (fun H1 locs1 hP1 hD1 hS1 => ?_)
  rw [wl_set (M' := (up M o (up (M o) j v))) (P' := P) (ce_put ho.2 h5 (by rw [fv_i h7 (by decide) (by decide), up_same, up_same]) (fun i hi => fv_M hi)) (fun a ha => ce_M ha)] at hP1
  exact k H1 locs1 ls hP1 hS1 hl
theorem g_putz (C : Cx X D cy B cc nL own Ts l0 fr lo rc rs) {index ci j o : Nat} {v : Int32} (hv : v = 0 ∨ v = 1) (hf : PF Ts own index ci j 3 false .boolean) (ho : kk n o ci) (hd : decode cc pc = .ok (.putfield index, 3)) (k : G X D cy B cells slots n (up M o (up (M o) j v)) P (pc + 3) (lv) (st)) : G X D cy B cells slots n M P (pc) (lv) (Value.int v :: Value.ref (B + o) :: st) := by
  obtain ⟨p, l, e, R, s, m, args, below, meth, c, Q⟩ := X
  obtain ⟨hx, hb, hml, hown, hts, hK, hN, hRf, hRl, hRc, hRs, hll, hBs⟩ := C
  intro H locs ls hP hS hl
  obtain ⟨C', T, N, ty0, h1, h2, h3, h4, h5, h6, h7, h8, h9, h10, h11, h12⟩ := hf
  refine va_put (D := D) hx hb hts h2 ty0 h8 h9 hown hK hP wl_D hS o ((wl_get ho.1).trans (by rw [ce_obj ho.2 h5])) h1 j h3 (hts _ h4) (fun _ h => h) h10 h11 (by rcases hv with rfl | rfl <;> rfl) (by rcases hv with rfl | rfl <;> rfl) (fs_len h6) hd (fun H1 locs1 hP1 hD1 hS1 => ?_)
  rw [wl_set (M' := (up M o (up (M o) j v))) (P' := P) (ce_put ho.2 h5 (by rw [fv_i h7 (by decide) (by decide), up_same, up_same]) (fun i hi => fv_M hi)) (fun a ha => ce_M ha)] at hP1
  exact k H1 locs1 ls hP1 hS1 hl
theorem g_putf (C : Cx X D cy B cc nL own Ts l0 fr lo rc rs) {index ci j o : Nat} {v : UInt32} (hf : PF Ts own index ci j 2 false .float) (ho : kk n o ci) (hd : decode cc pc = .ok (.putfield index, 3)) (k : G X D cy B cells slots n (up M o (up (M o) j v.toInt32)) P (pc + 3) (lv) (st)) : G X D cy B cells slots n M P (pc) (lv) (Value.float v :: Value.ref (B + o) :: st) := by
  obtain ⟨p, l, e, R, s, m, args, below, meth, c, Q⟩ := X
  obtain ⟨hx, hb, hml, hown, hts, hK, hN, hRf, hRl, hRc, hRs, hll, hBs⟩ := C
  intro H locs ls hP hS hl
  obtain ⟨C', T, N, ty0, h1, h2, h3, h4, h5, h6, h7, h8, h9, h10, h11, h12⟩ := hf
  refine va_put (D := D) hx hb hts h2 ty0 h8 h9 hown hK hP wl_D hS o ((wl_get ho.1).trans (by rw [ce_obj ho.2 h5])) h1 j h3 (hts _ h4) (fun _ h => h) h10 h11 rfl rfl (fs_len h6) hd (fun H1 locs1 hP1 hD1 hS1 => ?_)
  rw [wl_set (M' := (up M o (up (M o) j v.toInt32))) (P' := P) (ce_put ho.2 h5 (by rw [fv_f h7, up_same, up_same]; simp) (fun i hi => fv_M hi)) (fun a ha => ce_M ha)] at hP1
  exact k H1 locs1 ls hP1 hS1 hl
theorem g_iald (C : Cx X D cy B cc nL own Ts l0 fr lo rc rs) {o j L : Nat} {i : Int32} (ho : kk n o 8) (hi : i = nI j) (hL : ln o = L) (hj : j < L) (hd : decode cc pc = .ok (.iaload, 1)) (k : G X D cy B cells slots n M P (pc + 1) (lv) (Value.int (M o j) :: st)) : G X D cy B cells slots n M P (pc) (lv) (Value.int i :: Value.ref (B + o) :: st) := by
  obtain ⟨p, l, e, R, s, m, args, below, meth, c, Q⟩ := X
  obtain ⟨hx, hb, hml, hown, hts, hK, hN, hRf, hRl, hRc, hRs, hll, hBs⟩ := C
  intro H locs ls hP hS hl
  have hlt := ln_lt o
  subst hL
  refine va_iald (D := D) hx hb hK hP o 0 ((wl_get ho.1).trans (by rw [ce_int ho.2 (by decide) (by decide)])) rfl (by rw [hi]; exact vp_in_nI hj (by omega)) hd ?_
  rw [hi, nI_clamp (by omega)]
  exact k H locs ls hP hS hl
theorem g_cald (C : Cx X D cy B cc nL own Ts l0 fr lo rc rs) {o j L : Nat} {i : Int32} (ho : kk n o 9) (hi : i = nI j) (hL : ln o = L) (hj : j < L) (hd : decode cc pc = .ok (.caload, 1)) (k : G X D cy B cells slots n M P (pc + 1) (lv) (Value.int (M o j) :: st)) : G X D cy B cells slots n M P (pc) (lv) (Value.int i :: Value.ref (B + o) :: st) := by
  obtain ⟨p, l, e, R, s, m, args, below, meth, c, Q⟩ := X
  obtain ⟨hx, hb, hml, hown, hts, hK, hN, hRf, hRl, hRc, hRs, hll, hBs⟩ := C
  intro H locs ls hP hS hl
  have hlt := ln_lt o
  subst hL
  refine va_cald (D := D) hx hb hK hP o 1 ((wl_get ho.1).trans (by rw [ce_int ho.2 (by decide) (by decide)])) rfl (by rw [hi]; exact vp_in_nI hj (by omega)) hd ?_
  rw [hi, nI_clamp (by omega)]
  exact k H locs ls hP hS hl
theorem g_aald (C : Cx X D cy B cc nL own Ts l0 fr lo rc rs) {o j q x L : Nat} {i : Int32} (ho : kk n o q) (hq : (decide (10 ≤ q) && decide (q < 14)) = true) (hi : i = nI j) (hL : ln o = L) (hj : j < L) (hp : rr P o j x) (hd : decode cc pc = .ok (.aaload, 1)) (k : G X D cy B cells slots n M P (pc + 1) (lv) (Value.ref (B + x) :: st)) : G X D cy B cells slots n M P (pc) (lv) (Value.int i :: Value.ref (B + o) :: st) := by
  obtain ⟨p, l, e, R, s, m, args, below, meth, c, Q⟩ := X
  obtain ⟨hx, hb, hml, hown, hts, hK, hN, hRf, hRl, hRc, hRs, hll, hBs⟩ := C
  intro H locs ls hP hS hl
  have hlt := ln_lt o
  subst hL
  simp only [Bool.and_eq_true, decide_eq_true_eq] at hq
  have ht : ∃ C', (tyL cy)[q - 8]? = some (cy q, .object C') := by
    rcases (show q = 10 ∨ q = 11 ∨ q = 12 ∨ q = 13 by omega) with rfl | rfl | rfl | rfl <;> exact ⟨_, rfl⟩
  obtain ⟨C', ht⟩ := ht
  refine va_aldq (D := D) hx hb hK hP o (q - 8) ((wl_get ho.1).trans (by rw [ce_ref ho.2 hq.1])) ht (by rw [hi]; exact vp_in_nI hj (by omega)) hd ?_
  rw [hi, nI_clamp (by omega)]
  rw [hp.1, rq_some hp.2]
  exact k H locs ls hP hS hl
theorem g_alen (C : Cx X D cy B cc nL own Ts l0 fr lo rc rs) {o q L : Nat} (ho : kk n o q) (hL : ln o = L) (hq : (decide (8 ≤ q) && decide (q < 14)) = true) (hd : decode cc pc = .ok (.arraylength, 1)) (k : G X D cy B cells slots n M P (pc + 1) (lv) (Value.int (nI L) :: st)) : G X D cy B cells slots n M P (pc) (lv) (Value.ref (B + o) :: st) := by
  obtain ⟨p, l, e, R, s, m, args, below, meth, c, Q⟩ := X
  obtain ⟨hx, hb, hml, hown, hts, hK, hN, hRf, hRl, hRc, hRs, hll, hBs⟩ := C
  intro H locs ls hP hS hl
  simp only [Bool.and_eq_true, decide_eq_true_eq] at hq
  subst hL
  have ht : ∃ ty, (tyL cy)[q - 8]? = some (cy q, ty) := by
    rcases (show q = 8 ∨ q = 9 ∨ q = 10 ∨ q = 11 ∨ q = 12 ∨ q = 13 by omega) with rfl | rfl | rfl | rfl | rfl | rfl <;> exact ⟨_, rfl⟩
  obtain ⟨ty, ht⟩ := ht
  by_cases h10 : q < 10
  · exact va_alen (D := D) (x := (ln o, .inl (M o))) hx hb hK hP o (q - 8) ((wl_get ho.1).trans (by rw [ce_int ho.2 hq.1 h10])) ht rfl hd (k H locs ls hP hS hl)
  · exact va_alen (D := D) (x := (ln o, .inr (.inr (.inr (.inr (fun j => rq B (P o j))))))) hx hb hK hP o (q - 8) ((wl_get ho.1).trans (by rw [ce_ref ho.2 (by omega)])) ht rfl hd (k H locs ls hP hS hl)
theorem g_iast (C : Cx X D cy B cc nL own Ts l0 fr lo rc rs) {o j L : Nat} {i v : Int32} (ho : kk n o 8) (hi : i = nI j) (hL : ln o = L) (hj : j < L) (hd : decode cc pc = .ok (.iastore, 1)) (k : G X D cy B cells slots n (up M o (up (M o) j v)) P (pc + 1) (lv) (st)) : G X D cy B cells slots n M P (pc) (lv) (Value.int v :: Value.int i :: Value.ref (B + o) :: st) := by
  obtain ⟨p, l, e, R, s, m, args, below, meth, c, Q⟩ := X
  obtain ⟨hx, hb, hml, hown, hts, hK, hN, hRf, hRl, hRc, hRs, hll, hBs⟩ := C
  intro H locs ls hP hS hl
  have hlt := ln_lt o
  subst hL
  refine va_iast (D := D) hx hb hK hP wl_D hS o 0 ((wl_get ho.1).trans (by rw [ce_int ho.2 (by decide) (by decide)])) rfl (by rw [hi]; exact vp_in_nI hj (by omega)) hd (fun H1 locs1 hP1 hD1 hS1 => ?_)
  rw [hi, nI_clamp (by omega)] at hP1
  rw [wl_set (M' := (up M o (up (M o) j v))) (P' := P) (by rw [ce_int ho.2 (by decide) (by decide), up_same]; rfl) (fun a ha => ce_M ha)] at hP1
  exact k H1 locs1 ls hP1 hS1 hl
theorem g_cast (C : Cx X D cy B cc nL own Ts l0 fr lo rc rs) {o j L : Nat} {i v : Int32} (hv : vp_nar .char v = v) (ho : kk n o 9) (hi : i = nI j) (hL : ln o = L) (hj : j < L) (hd : decode cc pc = .ok (.castore, 1)) (k : G X D cy B cells slots n (up M o (up (M o) j v)) P (pc + 1) (lv) (st)) : G X D cy B cells slots n M P (pc) (lv) (Value.int v :: Value.int i :: Value.ref (B + o) :: st) := by
  obtain ⟨p, l, e, R, s, m, args, below, meth, c, Q⟩ := X
  obtain ⟨hx, hb, hml, hown, hts, hK, hN, hRf, hRl, hRc, hRs, hll, hBs⟩ := C
  intro H locs ls hP hS hl
  have hlt := ln_lt o
  subst hL
  refine va_cast (D := D) hx hb hK hP wl_D hS o 1 ((wl_get ho.1).trans (by rw [ce_int ho.2 (by decide) (by decide)])) rfl (by rw [hi]; exact vp_in_nI hj (by omega)) hd (fun H1 locs1 hP1 hD1 hS1 => ?_)
  rw [hi, nI_clamp (by omega)] at hP1
  rw [wl_set (M' := (up M o (up (M o) j v))) (P' := P) (by rw [ce_int ho.2 (by decide) (by decide), up_same]; first | rfl | (rw [hv]; rfl)) (fun a ha => ce_M ha)] at hP1
  exact k H1 locs1 ls hP1 hS1 hl
theorem g_aast (C : Cx X D cy B cc nL own Ts l0 fr lo rc rs) {o j q v ci L : Nat} {i : Int32} (ho : kk n o q) (hv : kk n v ci) (hqc : (q = 10 ∧ ci = 1) ∨ (q = 11 ∧ ci = 3) ∨ (q = 12 ∧ ci = 0) ∨ (q = 13 ∧ ci = 4)) (hv0 : v ≠ 0) (hi : i = nI j) (hL : ln o = L) (hj : j < L) (hd : decode cc pc = .ok (.aastore, 1)) (k : G X D cy B cells slots n M (up P o (up (P o) j v)) (pc + 1) (lv) (st)) : G X D cy B cells slots n M P (pc) (lv) (Value.ref (B + v) :: Value.int i :: Value.ref (B + o) :: st) := by
  obtain ⟨p, l, e, R, s, m, args, below, meth, c, Q⟩ := X
  obtain ⟨hx, hb, hml, hown, hts, hK, hN, hRf, hRl, hRc, hRs, hll, hBs⟩ := C
  intro H locs ls hP hS hl
  have hlt := ln_lt o
  subst hL
  have hr : ∃ r : vw_C, vwCl[ci]? = some r ∧ (tyL cy)[q - 8]? = some (cy q, .object r.1) ∧ 10 ≤ q ∧ ci < 8 := by
    rcases hqc with ⟨rfl, rfl⟩ | ⟨rfl, rfl⟩ | ⟨rfl, rfl⟩ | ⟨rfl, rfl⟩ <;> exact ⟨_, rfl, rfl, by decide, by decide⟩
  obtain ⟨r, hr1, hr2, hr3, hr4⟩ := hr
  refine va_astq (D := D) hx hb hK hP wl_D hS o (q - 8) v ci ((wl_get ho.1).trans (by rw [ce_ref ho.2 hr3])) hr2 ((wl_get hv.1).trans (by rw [ce_obj hv.2 hr4])) hr1 (by rw [hi]; exact vp_in_nI hj (by omega)) hd (fun H1 locs1 hP1 hD1 hS1 => ?_)
  rw [hi, nI_clamp (by omega)] at hP1
  rw [wl_set (M' := M) (P' := (up P o (up (P o) j v))) (by
    rw [ce_ref ho.2 hr3, up_same]
    refine congrArg (fun f => Sum.inl (cy q, ln o, Sum.inr (Sum.inr (Sum.inr (Sum.inr f))))) ?_
    funext a
    by_cases ha : a = j
    · subst ha; simp only [up_same, va_up, if_pos, rq_some hv0]
    · simp only [up_ne _ _ ha, va_up, if_neg ha]) (fun a ha => ce_P ha)] at hP1
  exact k H1 locs1 ls hP1 hS1 hl
theorem g_mmin (C : Cx X D cy B cc nL own Ts l0 fr lo rc rs) {index : Nat} {x y : Int32} (h1 : Cond.methodLink own index Lib.Math.min.name ∈ Ts) (h2 : Cond.static Lib.Math.min.name ∈ Ts) (h3 : Cond.initialized "java/lang/Math" ∈ Ts) (h4 : Cond.code Lib.Math.min.name Lib.Math.min.code 2 (some .int) ∈ Ts) (hf : 1 ≤ fr) (hlo : (st.map fun v => v.category).sum + 13 ≤ lo) (hnl : lv.length = nL) (hcl : cells ≤ rc) (hsl : slots ≤ rs) (hd : decode cc pc = .ok (.invokestatic index, 3)) (k : G X D cy B cells slots n M P (pc + 3) (lv) (Value.int (if y < x then y else x) :: st)) : G X D cy B cells slots n M P (pc) (lv) (Value.int y :: Value.int x :: st) := by
  obtain ⟨p, l, e, R, s, m, args, below, meth, c, Q⟩ := X
  obtain ⟨hx, hb, hml, hown, hts, hK, hN, hRf, hRl, hRc, hRs, hll, hBs⟩ := C
  intro H locs ls hP hS hl
  exact va_mmin hx hb (hml.trans (hl.2.1.trans hnl).symm) hown (hts _ h1) (hts _ h2) (hts _ h3) (hts _ h4) (by rw [hRf]; exact hf) (by rw [hRl]; exact hlo) (by rw [hRc]; exact hcl) (by rw [hRs]; exact hsl) hd (k H locs ls hP hS hl)
end GR
