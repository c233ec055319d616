/-! the law's small methods -/
def lowI (v n : Int32) : Int32 := (v &&& 2147483647) - (v &&& 2147483647) / n * n
def cellI (L : Nat) (xs : Nat → Int32) (j : Nat) : Int32 := if j < L then xs j else 7919 * (nI j + 3) * (nI j + 11)
def doneI (x : Int32) : Int32 := if x ≤ -100000000 then 0 else 1
section LOW
variable {l : Launch} {D : va_G} {cy : Nat → ClassId} {B : Nat} {M : MM} {P : PP}
set_option maxRecDepth 100000 in
set_option maxHeartbeats 1000000 in
theorem l_low {v n : Int32} (hn : ¬ n = 0) : KI l D cy B yL_low wsL_low 0 0 [Value.int v, Value.int n] M P (qi (lowI v n) M P) := by
  refine met2_KI (cc := cL_low) (maxL := 2) (ret := some .int) (lv := [some (Value.int v), some (Value.int n)]) (by decide) rfl rfl rfl (Nat.le_of_ble_eq_true rfl) ?_
  intro X C F
  refine h_iload_0 (pc := 0) C dL_low_0 ?_
  refine h_ldc (pc := 1) C k_L_low_7 dL_low_1 ?_
  refine h_iand (pc := 3) C dL_low_3 ?_
  refine h_iload_1 (pc := 4) C dL_low_4 ?_
  refine h_irem (pc := 5) C dL_low_5 hn ?_
  exact h_iret (post := (qi (lowI v n) M P)) C F dL_low_6 ⟨rfl, rfl, rfl⟩
set_option maxRecDepth 100000 in
set_option maxHeartbeats 1000000 in
theorem l_isDone {x : Int32} : KI l D cy B yL_isDone wsL_isDone 0 0 [Value.int x] M P (qi (doneI x) M P) := by
  refine met2_KI (cc := cL_isDone) (maxL := 1) (ret := some .boolean) (lv := [some (Value.int x)]) (by decide) rfl rfl rfl (Nat.le_of_ble_eq_true rfl) ?_
  intro X C F
  refine h_iload_0 (pc := 0) C dL_isDone_0 ?_
  refine h_ldc (pc := 1) C k_L_isDone_28 dL_isDone_1 ?_
  refine h_icmp_le (pc := 3) (tgt := 10) C dL_isDone_3 (by decide) (fun c3 => ?_) (fun c3 => ?_)
  · refine h_iconst (pc := 10) (v := 0) C dL_isDone_10 rfl ?_
    exact h_zret (post := (qi (doneI x) M P)) C F dL_isDone_11 (by first | exact Or.inl rfl | exact Or.inr rfl) ⟨(if_pos c3).symm, rfl, rfl⟩
  · refine h_iconst (pc := 6) (v := 1) C dL_isDone_6 rfl ?_
    refine h_goto (pc := 7) (tgt := 11) C dL_isDone_7 (by decide) ?_
    exact h_zret (post := (qi (doneI x) M P)) C F dL_isDone_11 (by first | exact Or.inl rfl | exact Or.inr rfl) ⟨(if_neg c3).symm, rfl, rfl⟩
set_option maxRecDepth 100000 in
set_option maxHeartbeats 1000000 in
theorem l_cell {b L j : Nat} {xs : Nat → Int32} (hb : b < B) (hL : L ≤ 260) (hj : j < 1000) : KX l D cy B b L xs yL_cell wsL_cell 0 0 [Value.ref b, Value.int (nI j)] M P (qi (cellI L xs j) M P) := by
  refine met2_KX hb (cc := cL_cell) (maxL := 2) (ret := some .int) (lv := [some (Value.ref b), some (Value.int (nI j))]) (by decide) rfl rfl rfl (Nat.le_of_ble_eq_true rfl) ?_
  intro X C F S
  refine h_iload_1 (pc := 0) C dL_cell_0 ?_
  refine h_aload_0 (pc := 1) C dL_cell_1 ?_
  refine h_slen (pc := 2) C S dL_cell_2 ?_
  refine h_icmp_ge (pc := 3) (tgt := 12) C dL_cell_3 (by decide) (fun c3 => ?_) (fun c3 => ?_)
  · refine h_sipush (pc := 12) (v := 7919) C dL_cell_12 rfl ?_
    refine h_iload_1 (pc := 15) C dL_cell_15 ?_
    refine h_iconst (pc := 16) (v := 3) C dL_cell_16 rfl ?_
    refine h_iadd (pc := 17) C dL_cell_17 ?_
    refine h_imul (pc := 18) C dL_cell_18 ?_
    refine h_iload_1 (pc := 19) C dL_cell_19 ?_
    refine h_bipush (pc := 20) (v := 11) C dL_cell_20 rfl ?_
    refine h_iadd (pc := 22) C dL_cell_22 ?_
    refine h_imul (pc := 23) C dL_cell_23 ?_
    exact h_iret (post := (qi (cellI L xs j) M P)) C F dL_cell_24 ⟨(if_neg (Nat.not_lt.mpr (i_le (by omega) (by omega) c3))).symm, rfl, rfl⟩
  · have hj2 : j < L := i_nle (by omega) (by omega) c3
    refine h_aload_0 (pc := 6) C dL_cell_6 ?_
    refine h_iload_1 (pc := 7) C dL_cell_7 ?_
    refine h_sld (pc := 8) (j := j) C S rfl hj2 hL dL_cell_8 ?_
    refine h_goto (pc := 9) (tgt := 24) C dL_cell_9 (by decide) ?_
    exact h_iret (post := (qi (cellI L xs j) M P)) C F dL_cell_24 ⟨(if_pos hj2).symm, rfl, rfl⟩
end LOW
