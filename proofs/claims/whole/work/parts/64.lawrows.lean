/-! the law -/
/-- the law's own script -/
def Sx (X : GX) (B b L : Nat) (xs : Nat → Int32) : Prop := match X with | (_, _, _, _, s, _, _, _, _, _, _) => va_X b L xs s s.heap ∧ b < s.heap.size ∧ s.heap.size = B
section GL
variable {X : GX} {D : va_G} {cy : Nat → ClassId} {B cells slots n b L : Nat} {xs : Nat → Int32} {M : MM} {P : PP} {cc : ByteArray} {nL : Nat} {own : String} {Ts : List Cond} {fr lo rc rs pc : Nat} {lv : List (Option Value)} {st : List Value} {l0 : Launch}
theorem g_sld (C : Cx X D cy B cc nL own Ts l0 fr lo rc rs) (S : Sx X B b L xs) {i : Int32} {j : Nat} (hi : i = nI j) (hj : j < L) (hL : L ≤ 2560) (hd : decode cc pc = .ok (.iaload, 1)) (k : G X D cy B cells slots n M P (pc + 1) lv (Value.int (xs j) :: st)) : G X D cy B cells slots n M P pc lv (Value.int i :: Value.ref b :: st) := by
  obtain ⟨p, l, e, R, s, m, args, below, meth, c, Q⟩ := X
  obtain ⟨hx, hb, hml, hown, hts, hK, hN, hRf, hRl, hRc, hRs, hll, hBs⟩ := C
  obtain ⟨s1, s2, s3⟩ := S
  intro H locs ls hP hS hl
  refine va_sld (A := fun q => B ≤ q) hx hb s1 s2 (by rw [← s3]; exact Nat.not_le.mpr s2) hS (by rw [hi]; exact vp_in_nI hj (by omega)) hd ?_
  rw [hi, nI_clamp (by omega)]
  exact k H locs ls hP hS hl
theorem g_slen (C : Cx X D cy B cc nL own Ts l0 fr lo rc rs) (S : Sx X B b L xs) (hd : decode cc pc = .ok (.arraylength, 1)) (k : G X D cy B cells slots n M P (pc + 1) lv (Value.int (nI L) :: st)) : G X D cy B cells slots n M P pc lv (Value.ref b :: st) := by
  obtain ⟨p, l, e, R, s, m, args, below, meth, c, Q⟩ := X
  obtain ⟨hx, hb, hml, hown, hts, hK, hN, hRf, hRl, hRc, hRs, hll, hBs⟩ := C
  obtain ⟨s1, s2, s3⟩ := S
  intro H locs ls hP hS hl
  exact va_slen (A := fun q => B ≤ q) hx hb s1 s2 (by rw [← s3]; exact Nat.not_le.mpr s2) hS hd (k H locs ls hP hS hl)
def chr (x : Int32) : Int32 := (x.toUInt32 % 65536).toInt32
end GL
theorem chr_mod (a : UInt32) : (a % 65536) % 65536 = a % 65536 := by
  apply UInt32.toNat_inj.mp
  rw [UInt32.toNat_mod, UInt32.toNat_mod]
  exact Nat.mod_mod _ _
theorem chr_nar (x : Int32) : vp_nar .char (chr x) = chr x := by
  show chr (chr x) = chr x
  show (((x.toUInt32 % 65536).toInt32).toUInt32 % 65536).toInt32 = (x.toUInt32 % 65536).toInt32
  rw [show ((x.toUInt32 % 65536).toInt32).toUInt32 = x.toUInt32 % 65536 from rfl, chr_mod]
theorem chr_nI (x : Int32) : ∃ n, n < 65536 ∧ chr x = nI n := by
  refine ⟨(x.toUInt32 % 65536).toNat, ?_, ?_⟩
  · rw [UInt32.toNat_mod]
    exact Nat.mod_lt _ (by decide)
  · show (x.toUInt32 % 65536).toInt32 = Int32.ofNat (x.toUInt32 % 65536).toNat
    generalize x.toUInt32 % 65536 = u
    exact congrArg UInt32.toInt32 (UInt32.ofNat_toNat (x := u)).symm
/-- the loop's end: the index is behind the last five -/
theorem law_gt {i L : Nat} (hi : i ≤ 2560) (hL : L ≤ 2560) : nI L - 5 < nI i ↔ L < i + 5 := by
  rcases Nat.lt_or_ge L 5 with h | h
  · have h1 : nI L - 5 < 0 := by
      rcases (show L = 0 ∨ L = 1 ∨ L = 2 ∨ L = 3 ∨ L = 4 by omega) with rfl | rfl | rfl | rfl | rfl <;> decide
    have h2 : (0 : Int32) ≤ nI i := Int32.not_lt.mp (nI_pos (by omega))
    exact ⟨fun _ => by omega, fun _ => Int32.lt_of_lt_of_le h1 h2⟩
  · rw [show nI L - 5 = nI (L - 5) from nI_sub h]
    exact (nI_ltI (by omega) (by omega)).trans (by omega)
def TA (A : AS) : Prop := CH A.txt A.len

theorem TA_sBuy {A : AS} {x y g : Int32} (h : TA A) : TA (sBuy A x y g).2 := by
  unfold sBuy
  (repeat' split) <;> exact h
theorem TA_sLic {A : AS} {w x : Int32} (h : TA A) : TA (sLic A w x).2 := by
  unfold sLic
  (repeat' split) <;> exact h
theorem TA_sRate {A : AS} {m x : Int32} (h : TA A) : TA (sRate A m x).2 := by
  unfold sRate
  (repeat' split) <;> exact h
theorem TA_sSeed {A : AS} {x : Int32} (h : TA A) : TA (sSeed A x).2 := by
  unfold sSeed
  (repeat' split) <;> exact h
theorem TA_sSet {A : AS} {k x : Int32} (h : TA A) : TA (sSet A k x).2 := by
  unfold sSet
  (repeat' split) <;> exact h
theorem TA_sPay {A : AS} {w x : Int32} (h : TA A) : TA (sPay A w x).2 := by
  unfold sPay
  (repeat' split) <;> exact h
theorem TA_sFill {A : AS} {w m x : Int32} (h : TA A) : TA (sFill A w m x).2 := by
  unfold sFill
  (repeat' split) <;> exact h
theorem TA_sMend {A : AS} {m : Int32} (h : TA A) : TA (sMend A m).2 := by
  unfold sMend
  (repeat' split) <;> exact h
theorem TA_sBook {A : AS} {w m i x : Int32} (h : TA A) : TA (sBook A w m i x).2 := by
  unfold sBook
  (repeat' split) <;> exact h
theorem TA_sBack {A : AS} {b : Int32} (h : TA A) : TA (sBack A b).2 := by
  unfold sBack
  (repeat' split) <;> exact h
theorem TA_sPass {A : AS} {d : Int32} (h : TA A) : TA (sPass A d).2 := by
  unfold sPass
  (repeat' split) <;> exact h
theorem TA_sUndo {A : AS} (h : TA A) : TA (sUndo A ).2 := by
  unfold sUndo
  (repeat' split) <;> exact h
theorem TA_sKeep {A : AS} (h : TA A) : TA (sKeep A ).2 := by
  unfold sKeep
  (repeat' split) <;> exact h
theorem TA_sRest {A : AS} (h : TA A) : TA (sRest A ).2 := by
  unfold sRest
  (repeat' split) <;> exact h
theorem TA_sAll {A : AS} (h : TA A) : TA (sAll A ).2 := by
  unfold sAll
  (repeat' split) <;> exact h
theorem TA_sType {A : AS} {x : Int32} (h : TA A) (hx : ∃ n, n < 65536 ∧ x = nI n) : TA (sType A x).2 := by
  unfold sType
  split
  · exact h
  · intro i hi
    show ∃ n, n < 65536 ∧ up A.txt A.len x i = nI n
    by_cases e : i = A.len
    · rw [e, up_same]
      exact hx
    · rw [up_ne _ _ e]
      have hi2 : i < A.len + 1 := hi
      exact h i (by omega)
theorem TA_sClear {A : AS} : TA (sClear A).2 := fun i hi => absurd hi (Nat.not_lt_zero _)
set_option maxRecDepth 20000 in
theorem e_L_law_13 : EV wsL_law RL 13 RX6 yX6_buy wsX6_buy 3 6 4 89 8 278 := ⟨cX6_buy, 4, (some .int), _, TX6, 6, gL_law_X6_buy, rfl, ⟨rfl, by decide +kernel, by decide +kernel, by decide +kernel⟩, ⟨by decide, by decide⟩, rfl, by decide⟩
set_option maxRecDepth 20000 in
theorem e_L_law_17 : EV wsL_law RL 17 RX7 yX7_buy wsX7_buy 3 7 2 45 8 278 := ⟨cX7_buy, 5, (some .int), _, TX7, 13, gL_law_X7_buy, rfl, ⟨rfl, by decide +kernel, by decide +kernel, by decide +kernel⟩, ⟨by decide, by decide⟩, rfl, by decide⟩
set_option maxRecDepth 20000 in
theorem e_L_law_18 : EV wsL_law RL 18 RX6 yX6_license wsX6_license 2 6 4 89 8 278 := ⟨cX6_license, 5, (some .int), _, TX6, 6, gL_law_X6_license, rfl, ⟨rfl, by decide +kernel, by decide +kernel, by decide +kernel⟩, ⟨by decide, by decide⟩, rfl, by decide⟩
set_option maxRecDepth 20000 in
theorem e_L_law_22 : EV wsL_law RL 22 RX7 yX7_license wsX7_license 2 7 2 42 8 278 := ⟨cX7_license, 4, (some .int), _, TX7, 13, gL_law_X7_license, rfl, ⟨rfl, by decide +kernel, by decide +kernel, by decide +kernel⟩, ⟨by decide, by decide⟩, rfl, by decide⟩
set_option maxRecDepth 20000 in
theorem e_L_law_23 : EV wsL_law RL 23 RX6 yX6_setRate wsX6_setRate 2 6 4 89 8 278 := ⟨cX6_setRate, 5, (some .int), _, TX6, 6, gL_law_X6_setRate, rfl, ⟨rfl, by decide +kernel, by decide +kernel, by decide +kernel⟩, ⟨by decide, by decide⟩, rfl, by decide⟩
set_option maxRecDepth 20000 in
theorem e_L_law_26 : EV wsL_law RL 26 RX7 yX7_setRate wsX7_setRate 2 7 2 43 8 278 := ⟨cX7_setRate, 4, (some .int), _, TX7, 13, gL_law_X7_setRate, rfl, ⟨rfl, by decide +kernel, by decide +kernel, by decide +kernel⟩, ⟨by decide, by decide⟩, rfl, by decide⟩
set_option maxRecDepth 20000 in
theorem e_L_law_27 : EV wsL_law RL 27 RX6 yX6_fill wsX6_fill 3 6 4 89 8 278 := ⟨cX6_fill, 8, (some .int), _, TX6, 6, gL_law_X6_fill, rfl, ⟨rfl, by decide +kernel, by decide +kernel, by decide +kernel⟩, ⟨by decide, by decide⟩, rfl, by decide⟩
set_option maxRecDepth 20000 in
theorem e_L_law_30 : EV wsL_law RL 30 RX7 yX7_fill wsX7_fill 3 7 2 44 8 278 := ⟨cX7_fill, 5, (some .int), _, TX7, 13, gL_law_X7_fill, rfl, ⟨rfl, by decide +kernel, by decide +kernel, by decide +kernel⟩, ⟨by decide, by decide⟩, rfl, by decide⟩
set_option maxRecDepth 20000 in
theorem e_L_law_31 : EV wsL_law RL 31 RX6 yX6_mend wsX6_mend 1 6 4 89 8 278 := ⟨cX6_mend, 3, (some .int), _, TX6, 6, gL_law_X6_mend, rfl, ⟨rfl, by decide +kernel, by decide +kernel, by decide +kernel⟩, ⟨by decide, by decide⟩, rfl, by decide⟩
set_option maxRecDepth 20000 in
theorem e_L_law_35 : EV wsL_law RL 35 RX7 yX7_mend wsX7_mend 1 7 2 43 8 278 := ⟨cX7_mend, 5, (some .int), _, TX7, 13, gL_law_X7_mend, rfl, ⟨rfl, by decide +kernel, by decide +kernel, by decide +kernel⟩, ⟨by decide, by decide⟩, rfl, by decide⟩
set_option maxRecDepth 20000 in
theorem e_L_law_36 : EV wsL_law RL 36 RX6 yX6_pay wsX6_pay 2 6 4 89 8 278 := ⟨cX6_pay, 4, (some .int), _, TX6, 6, gL_law_X6_pay, rfl, ⟨rfl, by decide +kernel, by decide +kernel, by decide +kernel⟩, ⟨by decide, by decide⟩, rfl, by decide⟩
set_option maxRecDepth 20000 in
theorem e_L_law_39 : EV wsL_law RL 39 RX7 yX7_pay wsX7_pay 2 7 2 42 8 278 := ⟨cX7_pay, 3, (some .int), _, TX7, 13, gL_law_X7_pay, rfl, ⟨rfl, by decide +kernel, by decide +kernel, by decide +kernel⟩, ⟨by decide, by decide⟩, rfl, by decide⟩
set_option maxRecDepth 20000 in
theorem e_L_law_40 : EV wsL_law RL 40 RX6 yX6_book wsX6_book 4 6 4 89 8 278 := ⟨cX6_book, 6, (some .int), _, TX6, 6, gL_law_X6_book, rfl, ⟨rfl, by decide +kernel, by decide +kernel, by decide +kernel⟩, ⟨by decide, by decide⟩, rfl, by decide⟩
set_option maxRecDepth 20000 in
theorem e_L_law_44 : EV wsL_law RL 44 RX7 yX7_book wsX7_book 4 7 3 70 8 278 := ⟨cX7_book, 6, (some .int), _, TX7, 13, gL_law_X7_book, rfl, ⟨rfl, by decide +kernel, by decide +kernel, by decide +kernel⟩, ⟨by decide, by decide⟩, rfl, by decide⟩
set_option maxRecDepth 20000 in
theorem e_L_law_45 : EV wsL_law RL 45 RX6 yX6_bookAll wsX6_bookAll 0 6 5 109 8 278 := ⟨cX6_bookAll, 5, (some .int), _, TX6, 6, gL_law_X6_bookAll, rfl, ⟨rfl, by decide +kernel, by decide +kernel, by decide +kernel⟩, ⟨by decide, by decide⟩, rfl, by decide⟩
set_option maxRecDepth 20000 in
theorem e_L_law_49 : EV wsL_law RL 49 RX7 yX7_bookAll wsX7_bookAll 0 7 4 85 8 278 := ⟨cX7_bookAll, 4, (some .int), _, TX7, 13, gL_law_X7_bookAll, rfl, ⟨rfl, by decide +kernel, by decide +kernel, by decide +kernel⟩, ⟨by decide, by decide⟩, rfl, by decide⟩
set_option maxRecDepth 20000 in
theorem e_L_law_50 : EV wsL_law RL 50 RX6 yX6_takeBack wsX6_takeBack 1 6 4 89 8 278 := ⟨cX6_takeBack, 3, (some .int), _, TX6, 6, gL_law_X6_takeBack, rfl, ⟨rfl, by decide +kernel, by decide +kernel, by decide +kernel⟩, ⟨by decide, by decide⟩, rfl, by decide⟩
set_option maxRecDepth 20000 in
theorem e_L_law_53 : EV wsL_law RL 53 RX7 yX7_takeBack wsX7_takeBack 1 7 2 45 8 278 := ⟨cX7_takeBack, 3, (some .int), _, TX7, 13, gL_law_X7_takeBack, rfl, ⟨rfl, by decide +kernel, by decide +kernel, by decide +kernel⟩, ⟨by decide, by decide⟩, rfl, by decide⟩
set_option maxRecDepth 20000 in
theorem e_L_law_54 : EV wsL_law RL 54 RX6 yX6_pass wsX6_pass 1 6 5 116 8 278 := ⟨cX6_pass, 4, (some .int), _, TX6, 6, gL_law_X6_pass, rfl, ⟨rfl, by decide +kernel, by decide +kernel, by decide +kernel⟩, ⟨by decide, by decide⟩, rfl, by decide⟩
set_option maxRecDepth 20000 in
theorem e_L_law_57 : EV wsL_law RL 57 RX7 yX7_pass wsX7_pass 1 7 5 113 8 278 := ⟨cX7_pass, 4, (some .int), _, TX7, 13, gL_law_X7_pass, rfl, ⟨rfl, by decide +kernel, by decide +kernel, by decide +kernel⟩, ⟨by decide, by decide⟩, rfl, by decide⟩
set_option maxRecDepth 20000 in
theorem e_L_law_58 : EV wsL_law RL 58 RX6 yX6_set wsX6_set 2 6 4 89 8 278 := ⟨cX6_set, 5, (some .int), _, TX6, 6, gL_law_X6_set, rfl, ⟨rfl, by decide +kernel, by decide +kernel, by decide +kernel⟩, ⟨by decide, by decide⟩, rfl, by decide⟩
set_option maxRecDepth 20000 in
theorem e_L_law_61 : EV wsL_law RL 61 RX7 yX7_set wsX7_set 2 7 1 22 8 278 := ⟨cX7_set, 5, (some .int), _, TX7, 13, gL_law_X7_set, rfl, ⟨rfl, by decide +kernel, by decide +kernel, by decide +kernel⟩, ⟨by decide, by decide⟩, rfl, by decide⟩
set_option maxRecDepth 20000 in
theorem e_L_law_62 : EV wsL_law RL 62 RX6 yX6_setSeed wsX6_setSeed 1 6 4 89 8 278 := ⟨cX6_setSeed, 3, (some .int), _, TX6, 6, gL_law_X6_setSeed, rfl, ⟨rfl, by decide +kernel, by decide +kernel, by decide +kernel⟩, ⟨by decide, by decide⟩, rfl, by decide⟩
set_option maxRecDepth 20000 in
theorem e_L_law_65 : EV wsL_law RL 65 RX7 yX7_setSeed wsX7_setSeed 1 7 1 22 8 278 := ⟨cX7_setSeed, 3, (some .int), _, TX7, 13, gL_law_X7_setSeed, rfl, ⟨rfl, by decide +kernel, by decide +kernel, by decide +kernel⟩, ⟨by decide, by decide⟩, rfl, by decide⟩
set_option maxRecDepth 20000 in
theorem e_L_law_66 : EV wsL_law RL 66 RX6 yX6_type wsX6_type 1 6 1 21 8 278 := ⟨cX6_type, 2, (some .int), _, TX6, 6, gL_law_X6_type, rfl, ⟨rfl, by decide +kernel, by decide +kernel, by decide +kernel⟩, ⟨by decide, by decide⟩, rfl, by decide⟩
set_option maxRecDepth 20000 in
theorem e_L_law_70 : EV wsL_law RL 70 RX7 yX7_type wsX7_type 1 7 0 0 8 278 := ⟨cX7_type, 2, (some .int), _, TX7, 13, gL_law_X7_type, rfl, ⟨rfl, by decide +kernel, by decide +kernel, by decide +kernel⟩, ⟨by decide, by decide⟩, rfl, by decide⟩
set_option maxRecDepth 20000 in
theorem e_L_law_71 : EV wsL_law RL 71 RX6 yX6_clearText wsX6_clearText 0 6 0 0 8 278 := ⟨cX6_clearText, 2, (some .int), _, TX6, 6, gL_law_X6_clearText, rfl, ⟨rfl, by decide +kernel, by decide +kernel, by decide +kernel⟩, ⟨by decide, by decide⟩, rfl, by decide⟩
set_option maxRecDepth 20000 in
theorem e_L_law_74 : EV wsL_law RL 74 RX7 yX7_clearText wsX7_clearText 0 7 0 0 8 278 := ⟨cX7_clearText, 2, (some .int), _, TX7, 13, gL_law_X7_clearText, rfl, ⟨rfl, by decide +kernel, by decide +kernel, by decide +kernel⟩, ⟨by decide, by decide⟩, rfl, by decide⟩
set_option maxRecDepth 20000 in
theorem e_L_law_75 : EV wsL_law RL 75 RX6 yX6_undo wsX6_undo 0 6 3 67 8 278 := ⟨cX6_undo, 2, (some .int), _, TX6, 6, gL_law_X6_undo, rfl, ⟨rfl, by decide +kernel, by decide +kernel, by decide +kernel⟩, ⟨by decide, by decide⟩, rfl, by decide⟩
set_option maxRecDepth 20000 in
theorem e_L_law_78 : EV wsL_law RL 78 RX7 yX7_undo wsX7_undo 0 7 0 0 8 278 := ⟨cX7_undo, 2, (some .int), _, TX7, 13, gL_law_X7_undo, rfl, ⟨rfl, by decide +kernel, by decide +kernel, by decide +kernel⟩, ⟨by decide, by decide⟩, rfl, by decide⟩
set_option maxRecDepth 20000 in
theorem e_L_law_79 : EV wsL_law RL 79 RX6 yX6_keep wsX6_keep 0 6 3 67 8 278 := ⟨cX6_keep, 1, (some .int), _, TX6, 6, gL_law_X6_keep, rfl, ⟨rfl, by decide +kernel, by decide +kernel, by decide +kernel⟩, ⟨by decide, by decide⟩, rfl, by decide⟩
set_option maxRecDepth 20000 in
theorem e_L_law_82 : EV wsL_law RL 82 RX7 yX7_keep wsX7_keep 0 7 0 0 8 278 := ⟨cX7_keep, 2, (some .int), _, TX7, 13, gL_law_X7_keep, rfl, ⟨rfl, by decide +kernel, by decide +kernel, by decide +kernel⟩, ⟨by decide, by decide⟩, rfl, by decide⟩
set_option maxRecDepth 20000 in
theorem e_L_law_83 : EV wsL_law RL 83 RX6 yX6_restore wsX6_restore 0 6 4 89 8 278 := ⟨cX6_restore, 1, (some .int), _, TX6, 6, gL_law_X6_restore, rfl, ⟨rfl, by decide +kernel, by decide +kernel, by decide +kernel⟩, ⟨by decide, by decide⟩, rfl, by decide⟩
set_option maxRecDepth 20000 in
theorem e_L_law_86 : EV wsL_law RL 86 RX7 yX7_restore wsX7_restore 0 7 1 21 8 278 := ⟨cX7_restore, 2, (some .int), _, TX7, 13, gL_law_X7_restore, rfl, ⟨rfl, by decide +kernel, by decide +kernel, by decide +kernel⟩, ⟨by decide, by decide⟩, rfl, by decide⟩
set_option maxRecDepth 20000 in
theorem e_L_law_87 : EV wsL_law RL 87 RX6 yX6_farmer wsX6_farmer 2 6 2 45 8 278 := ⟨cX6_farmer, 4, (some .int), _, TX6, 6, gL_law_X6_farmer, rfl, ⟨rfl, by decide +kernel, by decide +kernel, by decide +kernel⟩, ⟨by decide, by decide⟩, rfl, by decide⟩
set_option maxRecDepth 20000 in
theorem e_L_law_90 : EV wsL_law RL 90 RX7 yX7_farmer wsX7_farmer 2 7 2 45 8 278 := ⟨cX7_farmer, 3, (some .int), _, TX7, 13, gL_law_X7_farmer, rfl, ⟨rfl, by decide +kernel, by decide +kernel, by decide +kernel⟩, ⟨by decide, by decide⟩, rfl, by decide⟩
set_option maxRecDepth 20000 in
theorem e_L_law_91 : EV wsL_law RL 91 RX6 yX6_machine wsX6_machine 2 6 1 23 8 278 := ⟨cX6_machine, 4, (some .int), _, TX6, 6, gL_law_X6_machine, rfl, ⟨rfl, by decide +kernel, by decide +kernel, by decide +kernel⟩, ⟨by decide, by decide⟩, rfl, by decide⟩
set_option maxRecDepth 20000 in
theorem e_L_law_94 : EV wsL_law RL 94 RX7 yX7_machine wsX7_machine 2 7 2 43 8 278 := ⟨cX7_machine, 3, (some .int), _, TX7, 13, gL_law_X7_machine, rfl, ⟨rfl, by decide +kernel, by decide +kernel, by decide +kernel⟩, ⟨by decide, by decide⟩, rfl, by decide⟩
set_option maxRecDepth 20000 in
theorem e_L_law_95 : EV wsL_law RL 95 RX6 yX6_fuel wsX6_fuel 1 6 1 21 8 278 := ⟨cX6_fuel, 3, (some .float), _, TX6, 6, gL_law_X6_fuel, rfl, ⟨rfl, by decide +kernel, by decide +kernel, by decide +kernel⟩, ⟨by decide, by decide⟩, rfl, by decide⟩
set_option maxRecDepth 20000 in
theorem e_L_law_99 : EV wsL_law RL 99 RX7 yX7_fuel wsX7_fuel 1 7 2 44 8 278 := ⟨cX7_fuel, 2, (some .float), _, TX7, 13, gL_law_X7_fuel, rfl, ⟨rfl, by decide +kernel, by decide +kernel, by decide +kernel⟩, ⟨by decide, by decide⟩, rfl, by decide⟩
set_option maxRecDepth 20000 in
theorem e_L_law_100 : EV wsL_law RL 100 RX6 yX6_hours wsX6_hours 2 6 1 22 8 278 := ⟨cX6_hours, 4, (some .int), _, TX6, 6, gL_law_X6_hours, rfl, ⟨rfl, by decide +kernel, by decide +kernel, by decide +kernel⟩, ⟨by decide, by decide⟩, rfl, by decide⟩
set_option maxRecDepth 20000 in
theorem e_L_law_103 : EV wsL_law RL 103 RX7 yX7_hours wsX7_hours 2 7 2 43 8 278 := ⟨cX7_hours, 3, (some .int), _, TX7, 13, gL_law_X7_hours, rfl, ⟨rfl, by decide +kernel, by decide +kernel, by decide +kernel⟩, ⟨by decide, by decide⟩, rfl, by decide⟩
set_option maxRecDepth 20000 in
theorem e_L_law_104 : EV wsL_law RL 104 RX6 yX6_booking wsX6_booking 2 6 2 45 8 278 := ⟨cX6_booking, 4, (some .int), _, TX6, 6, gL_law_X6_booking, rfl, ⟨rfl, by decide +kernel, by decide +kernel, by decide +kernel⟩, ⟨by decide, by decide⟩, rfl, by decide⟩
set_option maxRecDepth 20000 in
theorem e_L_law_107 : EV wsL_law RL 107 RX7 yX7_booking wsX7_booking 2 7 3 66 8 278 := ⟨cX7_booking, 4, (some .int), _, TX7, 13, gL_law_X7_booking, rfl, ⟨rfl, by decide +kernel, by decide +kernel, by decide +kernel⟩, ⟨by decide, by decide⟩, rfl, by decide⟩
set_option maxRecDepth 20000 in
theorem e_L_law_108 : EV wsL_law RL 108 RX6 yX6_booked wsX6_booked 2 6 2 47 8 278 := ⟨cX6_booked, 3, (some .int), _, TX6, 6, gL_law_X6_booked, rfl, ⟨rfl, by decide +kernel, by decide +kernel, by decide +kernel⟩, ⟨by decide, by decide⟩, rfl, by decide⟩
set_option maxRecDepth 20000 in
theorem e_L_law_111 : EV wsL_law RL 111 RX7 yX7_booked wsX7_booked 2 7 2 46 8 278 := ⟨cX7_booked, 3, (some .int), _, TX7, 13, gL_law_X7_booked, rfl, ⟨rfl, by decide +kernel, by decide +kernel, by decide +kernel⟩, ⟨by decide, by decide⟩, rfl, by decide⟩
set_option maxRecDepth 20000 in
theorem e_L_law_112 : EV wsL_law RL 112 RX6 yX6_wet wsX6_wet 1 6 1 22 8 278 := ⟨cX6_wet, 2, (some .int), _, TX6, 6, gL_law_X6_wet, rfl, ⟨rfl, by decide +kernel, by decide +kernel, by decide +kernel⟩, ⟨by decide, by decide⟩, rfl, by decide⟩
set_option maxRecDepth 20000 in
theorem e_L_law_115 : EV wsL_law RL 115 RX7 yX7_wet wsX7_wet 1 7 1 22 8 278 := ⟨cX7_wet, 2, (some .int), _, TX7, 13, gL_law_X7_wet, rfl, ⟨rfl, by decide +kernel, by decide +kernel, by decide +kernel⟩, ⟨by decide, by decide⟩, rfl, by decide⟩
set_option maxRecDepth 20000 in
theorem e_L_law_116 : EV wsL_law RL 116 RX6 yX6_most wsX6_most 1 6 1 23 8 278 := ⟨cX6_most, 3, (some .int), _, TX6, 6, gL_law_X6_most, rfl, ⟨rfl, by decide +kernel, by decide +kernel, by decide +kernel⟩, ⟨by decide, by decide⟩, rfl, by decide⟩
set_option maxRecDepth 20000 in
theorem e_L_law_119 : EV wsL_law RL 119 RX7 yX7_most wsX7_most 1 7 2 43 8 278 := ⟨cX7_most, 6, (some .int), _, TX7, 13, gL_law_X7_most, rfl, ⟨rfl, by decide +kernel, by decide +kernel, by decide +kernel⟩, ⟨by decide, by decide⟩, rfl, by decide⟩
set_option maxRecDepth 20000 in
theorem e_L_law_120 : EV wsL_law RL 120 RX6 yX6_lasts wsX6_lasts 1 6 3 67 8 278 := ⟨cX6_lasts, 3, (some .int), _, TX6, 6, gL_law_X6_lasts, rfl, ⟨rfl, by decide +kernel, by decide +kernel, by decide +kernel⟩, ⟨by decide, by decide⟩, rfl, by decide⟩
set_option maxRecDepth 20000 in
theorem e_L_law_123 : EV wsL_law RL 123 RX7 yX7_lasts wsX7_lasts 1 7 2 49 8 278 := ⟨cX7_lasts, 5, (some .int), _, TX7, 13, gL_law_X7_lasts, rfl, ⟨rfl, by decide +kernel, by decide +kernel, by decide +kernel⟩, ⟨by decide, by decide⟩, rfl, by decide⟩
set_option maxRecDepth 20000 in
theorem e_L_law_124 : EV wsL_law RL 124 RX6 yX6_count wsX6_count 1 6 2 44 8 278 := ⟨cX6_count, 2, (some .int), _, TX6, 6, gL_law_X6_count, rfl, ⟨rfl, by decide +kernel, by decide +kernel, by decide +kernel⟩, ⟨by decide, by decide⟩, rfl, by decide⟩
set_option maxRecDepth 20000 in
theorem e_L_law_127 : EV wsL_law RL 127 RX7 yX7_count wsX7_count 1 7 2 44 8 278 := ⟨cX7_count, 2, (some .int), _, TX7, 13, gL_law_X7_count, rfl, ⟨rfl, by decide +kernel, by decide +kernel, by decide +kernel⟩, ⟨by decide, by decide⟩, rfl, by decide⟩
