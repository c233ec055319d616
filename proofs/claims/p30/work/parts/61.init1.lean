set_option maxRecDepth 20000 in
theorem nw_X4_init_9 : NW wsX4_init RX4 9 1 := ⟨RX1, TX1, tyX1, rfl, (fun _ h => List.mem_cons_of_mem _ (List.mem_append_left _ (List.mem_append_left _ (List.mem_append_right _ h)))), tyX1_ok, (List.mem_of_getElem? (i := 4) (by decide +kernel)), (List.mem_of_getElem? (i := 6) (by decide +kernel)), (List.mem_of_getElem? (i := 7) (by decide +kernel)), fun j hj => by
  have hj2 : j < 6 := hj
  rcases (show j = 0 ∨ j = 1 ∨ j = 2 ∨ j = 3 ∨ j = 4 ∨ j = 5 by omega) with rfl | rfl | rfl | rfl | rfl | rfl <;> rfl, by decide⟩
set_option maxRecDepth 20000 in
theorem nw_X4_init_18 : NW wsX4_init RX4 18 3 := ⟨RX3, TX3, tyX3, rfl, (fun _ h => List.mem_cons_of_mem _ (List.mem_append_left _ (List.mem_append_right _ h))), tyX3_ok, (List.mem_of_getElem? (i := 8) (by decide +kernel)), (List.mem_of_getElem? (i := 10) (by decide +kernel)), (List.mem_of_getElem? (i := 11) (by decide +kernel)), fun j hj => by
  have hj2 : j < 8 := hj
  rcases (show j = 0 ∨ j = 1 ∨ j = 2 ∨ j = 3 ∨ j = 4 ∨ j = 5 ∨ j = 6 ∨ j = 7 by omega) with rfl | rfl | rfl | rfl | rfl | rfl | rfl | rfl <;> rfl, by decide⟩
set_option maxRecDepth 20000 in
theorem nw_X4_init_25 : NW wsX4_init RX4 25 0 := ⟨RX0, TX0, tyX0, rfl, (fun _ h => List.mem_cons_of_mem _ (List.mem_append_right _ h)), tyX0_ok, (List.mem_of_getElem? (i := 12) (by decide +kernel)), (List.mem_of_getElem? (i := 14) (by decide +kernel)), (List.mem_of_getElem? (i := 15) (by decide +kernel)), fun j hj => by
  have hj2 : j < 6 := hj
  rcases (show j = 0 ∨ j = 1 ∨ j = 2 ∨ j = 3 ∨ j = 4 ∨ j = 5 by omega) with rfl | rfl | rfl | rfl | rfl | rfl <;> rfl, by decide⟩
set_option maxRecDepth 20000 in
theorem nw_X6_init_7 : NW wsX6_init RX6 7 4 := ⟨RX4, TX4, tyX4, rfl, (fun _ h => List.mem_cons_of_mem _ (List.mem_append_left _ (List.mem_append_left _ (List.mem_append_left _ (List.mem_append_left _ (List.mem_append_left _ (List.mem_append_left _ (List.mem_append_right _ h)))))))), tyX4_ok, (List.mem_of_getElem? (i := 4) (by decide +kernel)), (List.mem_of_getElem? (i := 5) (by decide +kernel)), (List.mem_of_getElem? (i := 6) (by decide +kernel)), fun j hj => by
  have hj2 : j < 16 := hj
  rcases (show j = 0 ∨ j = 1 ∨ j = 2 ∨ j = 3 ∨ j = 4 ∨ j = 5 ∨ j = 6 ∨ j = 7 ∨ j = 8 ∨ j = 9 ∨ j = 10 ∨ j = 11 ∨ j = 12 ∨ j = 13 ∨ j = 14 ∨ j = 15 by omega) with rfl | rfl | rfl | rfl | rfl | rfl | rfl | rfl | rfl | rfl | rfl | rfl | rfl | rfl | rfl | rfl <;> rfl, by decide⟩
set_option maxRecDepth 20000 in
theorem nw_X6_init_22 : NW wsX6_init RX6 22 2 := ⟨RX2, TX2, tyX2, rfl, (fun _ h => List.mem_cons_of_mem _ (List.mem_append_left _ (List.mem_append_left _ (List.mem_append_left _ (List.mem_append_left _ (List.mem_append_right _ h)))))), tyX2_ok, (List.mem_of_getElem? (i := 10) (by decide +kernel)), (List.mem_of_getElem? (i := 11) (by decide +kernel)), (List.mem_of_getElem? (i := 12) (by decide +kernel)), fun j hj => by
  have hj2 : j < 2 := hj
  rcases (show j = 0 ∨ j = 1 by omega) with rfl | rfl <;> rfl, by decide⟩
set_option maxRecDepth 20000 in
theorem nw_X6_init_29 : NW wsX6_init RX6 29 5 := ⟨RX5, TX5, tyX5, rfl, (fun _ h => List.mem_cons_of_mem _ (List.mem_append_left _ (List.mem_append_left _ (List.mem_append_left _ (List.mem_append_right _ h))))), tyX5_ok, (List.mem_of_getElem? (i := 14) (by decide +kernel)), (List.mem_of_getElem? (i := 15) (by decide +kernel)), (List.mem_of_getElem? (i := 16) (by decide +kernel)), fun j hj => by
  have hj2 : j < 7 := hj
  rcases (show j = 0 ∨ j = 1 ∨ j = 2 ∨ j = 3 ∨ j = 4 ∨ j = 5 ∨ j = 6 by omega) with rfl | rfl | rfl | rfl | rfl | rfl | rfl <;> rfl, by decide⟩
set_option maxRecDepth 20000 in
theorem nw_X2_init_9 : NW wsX2_init RX2 9 4 := ⟨RX4, TX4, tyX4, rfl, (fun _ h => List.mem_cons_of_mem _ (List.mem_append_left _ (List.mem_append_left _ (List.mem_append_left _ (List.mem_append_right _ h))))), tyX4_ok, (List.mem_of_getElem? (i := 4) (by decide +kernel)), (List.mem_of_getElem? (i := 6) (by decide +kernel)), (List.mem_of_getElem? (i := 7) (by decide +kernel)), fun j hj => by
  have hj2 : j < 16 := hj
  rcases (show j = 0 ∨ j = 1 ∨ j = 2 ∨ j = 3 ∨ j = 4 ∨ j = 5 ∨ j = 6 ∨ j = 7 ∨ j = 8 ∨ j = 9 ∨ j = 10 ∨ j = 11 ∨ j = 12 ∨ j = 13 ∨ j = 14 ∨ j = 15 by omega) with rfl | rfl | rfl | rfl | rfl | rfl | rfl | rfl | rfl | rfl | rfl | rfl | rfl | rfl | rfl | rfl <;> rfl, by decide⟩
set_option maxRecDepth 20000 in
theorem ei_X4_init_17 : EI wsX4_init RX4 17 yX1_init wsX1_init 1 12 2 32 := ⟨cX1_init, 1, _, gX4_init_X1_init, rfl, (List.mem_of_getElem? (i := 7) (by decide +kernel)), (List.mem_of_getElem? (i := 19) (by decide +kernel)), by decide +kernel, ⟨by decide +kernel, by decide +kernel, by decide +kernel⟩, ⟨by decide, by decide⟩⟩
set_option maxRecDepth 20000 in
theorem ei_X4_init_24 : EI wsX4_init RX4 24 yX3_init wsX3_init 1 12 2 32 := ⟨cX3_init, 1, _, gX4_init_X3_init, rfl, (List.mem_of_getElem? (i := 11) (by decide +kernel)), (List.mem_of_getElem? (i := 24) (by decide +kernel)), by decide +kernel, ⟨by decide +kernel, by decide +kernel, by decide +kernel⟩, ⟨by decide, by decide⟩⟩
set_option maxRecDepth 20000 in
theorem ei_X4_init_31 : EI wsX4_init RX4 31 yX0_init wsX0_init 1 12 2 32 := ⟨cX0_init, 1, _, gX4_init_X0_init_n31, rfl, (List.mem_of_getElem? (i := 15) (by decide +kernel)), (List.mem_of_getElem? (i := 29) (by decide +kernel)), by decide +kernel, ⟨by decide +kernel, by decide +kernel, by decide +kernel⟩, ⟨by decide, by decide⟩⟩
set_option maxRecDepth 20000 in
theorem ei_X6_init_9 : EI wsX6_init RX6 9 yX4_init wsX4_init 2 32 4 74 := ⟨cX4_init, 2, _, gX6_init_X4_init, rfl, (List.mem_of_getElem? (i := 6) (by decide +kernel)), (List.mem_of_getElem? (i := 19) (by decide +kernel)), by decide +kernel, ⟨by decide +kernel, by decide +kernel, by decide +kernel⟩, ⟨by decide, by decide⟩⟩
set_option maxRecDepth 20000 in
theorem ei_X6_init_24 : EI wsX6_init RX6 24 yX2_init wsX2_init 3 53 4 74 := ⟨cX2_init, 2, _, gX6_init_X2_init, rfl, (List.mem_of_getElem? (i := 12) (by decide +kernel)), (List.mem_of_getElem? (i := 51) (by decide +kernel)), by decide +kernel, ⟨by decide +kernel, by decide +kernel, by decide +kernel⟩, ⟨by decide, by decide⟩⟩
set_option maxRecDepth 20000 in
theorem ei_X6_init_31 : EI wsX6_init RX6 31 yX5_init wsX5_init 1 12 4 74 := ⟨cX5_init, 1, _, gX6_init_X5_init, rfl, (List.mem_of_getElem? (i := 16) (by decide +kernel)), (List.mem_of_getElem? (i := 58) (by decide +kernel)), by decide +kernel, ⟨by decide +kernel, by decide +kernel, by decide +kernel⟩, ⟨by decide, by decide⟩⟩
set_option maxRecDepth 20000 in
theorem ei_X2_init_17 : EI wsX2_init RX2 17 yX4_init wsX4_init 2 32 3 53 := ⟨cX4_init, 2, _, gX2_init_X4_init, rfl, (List.mem_of_getElem? (i := 7) (by decide +kernel)), (List.mem_of_getElem? (i := 9) (by decide +kernel)), by decide +kernel, ⟨by decide +kernel, by decide +kernel, by decide +kernel⟩, ⟨by decide, by decide⟩⟩
set_option maxRecDepth 100000 in
set_option maxHeartbeats 1000000 in
theorem c0_init {l : Launch} {D : va_G} {cy : Nat → ClassId} {B : Nat} {M : MM} {P : PP} {o n : Nat} (ho : kk n o 0) : KC l D cy B yX0_init wsX0_init 1 12 0 0 (n) (n) [Value.ref (B + o)] M P (qv M P) := by
  refine met_KC (cc := cX0_init) (maxL := 1) (lv := [some (Value.ref (B + o))]) (by decide) (by decide +kernel) rfl rfl rfl (Nat.le_of_ble_eq_true rfl) (by have := ho.1; omega) ?_
  intro X C F Z I
  refine g_aload_0 (pc := 0) C dX0_init_0 ?_
  refine g_objInit (pc := 1) C (List.mem_of_getElem? (i := 1) (by decide +kernel)) (List.mem_of_getElem? (i := 2) (by decide +kernel)) (List.mem_of_getElem? (i := 3) (by decide +kernel)) dX0_init_1 rfl (Nat.le_of_ble_eq_true rfl) (Nat.le_of_ble_eq_true rfl) ?_
  exact g_kret (post := qv M P) C F dX0_init_4 (by omega) (by omega) rfl ⟨rfl, rfl⟩

set_option maxRecDepth 100000 in
set_option maxHeartbeats 1000000 in
theorem c1_init {l : Launch} {D : va_G} {cy : Nat → ClassId} {B : Nat} {M : MM} {P : PP} {o n : Nat} (ho : kk n o 1) : KC l D cy B yX1_init wsX1_init 1 12 0 0 (n) (n) [Value.ref (B + o)] M P (qv (up M o (up (M o) 1 1)) P) := by
  refine met_KC (cc := cX1_init) (maxL := 1) (lv := [some (Value.ref (B + o))]) (by decide) (by decide +kernel) rfl rfl rfl (Nat.le_of_ble_eq_true rfl) (by have := ho.1; omega) ?_
  intro X C F Z I
  refine g_aload_0 (pc := 0) C dX1_init_0 ?_
  refine g_objInit (pc := 1) C (List.mem_of_getElem? (i := 1) (by decide +kernel)) (List.mem_of_getElem? (i := 2) (by decide +kernel)) (List.mem_of_getElem? (i := 3) (by decide +kernel)) dX1_init_1 rfl (Nat.le_of_ble_eq_true rfl) (Nat.le_of_ble_eq_true rfl) ?_
  refine g_aload_0 (pc := 4) C dX1_init_4 ?_
  refine g_iconst (pc := 5) (v := 1) C dX1_init_5 rfl ?_
  refine g_puti (pc := 6) C pf_X1_init_7 ho dX1_init_6 ?_
  exact g_kret (post := qv (up M o (up (M o) 1 1)) P) C F dX1_init_9 (by omega) (by omega) rfl ⟨rfl, rfl⟩

set_option maxRecDepth 100000 in
set_option maxHeartbeats 1000000 in
theorem c3_init {l : Launch} {D : va_G} {cy : Nat → ClassId} {B : Nat} {M : MM} {P : PP} {o n : Nat} (ho : kk n o 3) (hk : kd n = 8) (hL : ln n = 6) (hM : M n = fun _ => 0) : KC l D cy B yX3_init wsX3_init 1 12 1 6 (n) (n + 1) [Value.ref (B + o)] M P (qv M (up P o (up (P o) 7 n))) := by
  refine met_KC (cc := cX3_init) (maxL := 1) (lv := [some (Value.ref (B + o))]) (by decide) (by decide +kernel) rfl rfl rfl (Nat.le_of_ble_eq_true rfl) (by have := ho.1; omega) ?_
  intro X C F Z I
  refine g_aload_0 (pc := 0) C dX3_init_0 ?_
  refine g_objInit (pc := 1) C (List.mem_of_getElem? (i := 1) (by decide +kernel)) (List.mem_of_getElem? (i := 2) (by decide +kernel)) (List.mem_of_getElem? (i := 3) (by decide +kernel)) dX3_init_1 rfl (Nat.le_of_ble_eq_true rfl) (Nat.le_of_ble_eq_true rfl) ?_
  refine g_aload_0 (pc := 4) C dX3_init_4 ?_
  refine g_bipush (pc := 5) (v := 6) C dX3_init_5 rfl ?_
  refine g_newi (pc := 7) C Z (k8 := 8) (L := 6) (ty := .int) rfl (by first | exact Or.inl ⟨rfl, rfl⟩ | exact Or.inr ⟨rfl, rfl⟩) (List.mem_of_getElem? (i := 4) (by decide +kernel)) dX3_init_7 (by omega) hk hL rfl (by decide) hM (by omega) (by omega) ?_
  refine g_putF (pc := 9) C I pf_X3_init_9 dX3_init_9 rfl rfl ⟨by have := ho.1; omega, ho.2⟩ (by have := ho.1; omega) ?_
  exact g_kret (post := qv M (up P o (up (P o) 7 n))) C F dX3_init_12 (by omega) (by omega) rfl ⟨rfl, rfl⟩

set_option maxRecDepth 100000 in
set_option maxHeartbeats 1000000 in
theorem c5_init {l : Launch} {D : va_G} {cy : Nat → ClassId} {B : Nat} {M : MM} {P : PP} {o n : Nat} (ho : kk n o 5) (hk : kd n = 9) (hL : ln n = 60) (hM : M n = fun _ => 0) : KC l D cy B yX5_init wsX5_init 1 12 1 60 (n) (n + 1) [Value.ref (B + o)] M P (qv M (up P o (up (P o) 0 n))) := by
  refine met_KC (cc := cX5_init) (maxL := 1) (lv := [some (Value.ref (B + o))]) (by decide) (by decide +kernel) rfl rfl rfl (Nat.le_of_ble_eq_true rfl) (by have := ho.1; omega) ?_
  intro X C F Z I
  refine g_aload_0 (pc := 0) C dX5_init_0 ?_
  refine g_objInit (pc := 1) C (List.mem_of_getElem? (i := 1) (by decide +kernel)) (List.mem_of_getElem? (i := 2) (by decide +kernel)) (List.mem_of_getElem? (i := 3) (by decide +kernel)) dX5_init_1 rfl (Nat.le_of_ble_eq_true rfl) (Nat.le_of_ble_eq_true rfl) ?_
  refine g_aload_0 (pc := 4) C dX5_init_4 ?_
  refine g_bipush (pc := 5) (v := 60) C dX5_init_5 rfl ?_
  refine g_newi (pc := 7) C Z (k8 := 9) (L := 60) (ty := .char) rfl (by first | exact Or.inl ⟨rfl, rfl⟩ | exact Or.inr ⟨rfl, rfl⟩) (List.mem_of_getElem? (i := 4) (by decide +kernel)) dX5_init_7 (by omega) hk hL rfl (by decide) hM (by omega) (by omega) ?_
  refine g_putF (pc := 9) C I pf_X5_init_9 dX5_init_9 rfl rfl ⟨by have := ho.1; omega, ho.2⟩ (by have := ho.1; omega) ?_
  exact g_kret (post := qv M (up P o (up (P o) 0 n))) C F dX5_init_12 (by omega) (by omega) rfl ⟨rfl, rfl⟩
