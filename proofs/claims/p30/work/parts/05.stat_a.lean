set_option maxRecDepth 20000 in
theorem fl_X0_copyFrom_7 : FL wsX0_copyFrom RX0 7 0 0 0 := FL.of RX0 TX0 6 rfl (fun _ h => List.mem_cons_of_mem _ (List.mem_append_right _ h)) (List.mem_of_getElem? (i := 1) (by decide +kernel)) (by decide)
set_option maxRecDepth 20000 in
theorem pf_X0_copyFrom_7 : PF wsX0_copyFrom RX0 7 0 0 0 false .int := ⟨RX0, TX0, 6, tyX0, rfl, (fun _ h => List.mem_cons_of_mem _ (List.mem_append_right _ h)), by decide, (List.mem_of_getElem? (i := 1) (by decide +kernel)), by decide, by decide, by decide, tyX0_ok, nmX0, rfl, by decide +kernel, fun h => by cases h⟩
set_option maxRecDepth 20000 in
theorem fl_X0_copyFrom_13 : FL wsX0_copyFrom RX0 13 0 1 0 := FL.of RX0 TX0 6 rfl (fun _ h => List.mem_cons_of_mem _ (List.mem_append_right _ h)) (List.mem_of_getElem? (i := 2) (by decide +kernel)) (by decide)
set_option maxRecDepth 20000 in
theorem pf_X0_copyFrom_13 : PF wsX0_copyFrom RX0 13 0 1 0 false .int := ⟨RX0, TX0, 6, tyX0, rfl, (fun _ h => List.mem_cons_of_mem _ (List.mem_append_right _ h)), by decide, (List.mem_of_getElem? (i := 2) (by decide +kernel)), by decide, by decide, by decide, tyX0_ok, nmX0, rfl, by decide +kernel, fun h => by cases h⟩
set_option maxRecDepth 20000 in
theorem fl_X0_copyFrom_16 : FL wsX0_copyFrom RX0 16 0 2 0 := FL.of RX0 TX0 6 rfl (fun _ h => List.mem_cons_of_mem _ (List.mem_append_right _ h)) (List.mem_of_getElem? (i := 3) (by decide +kernel)) (by decide)
set_option maxRecDepth 20000 in
theorem pf_X0_copyFrom_16 : PF wsX0_copyFrom RX0 16 0 2 0 false .int := ⟨RX0, TX0, 6, tyX0, rfl, (fun _ h => List.mem_cons_of_mem _ (List.mem_append_right _ h)), by decide, (List.mem_of_getElem? (i := 3) (by decide +kernel)), by decide, by decide, by decide, tyX0_ok, nmX0, rfl, by decide +kernel, fun h => by cases h⟩
set_option maxRecDepth 20000 in
theorem fl_X0_copyFrom_19 : FL wsX0_copyFrom RX0 19 0 3 0 := FL.of RX0 TX0 6 rfl (fun _ h => List.mem_cons_of_mem _ (List.mem_append_right _ h)) (List.mem_of_getElem? (i := 4) (by decide +kernel)) (by decide)
set_option maxRecDepth 20000 in
theorem pf_X0_copyFrom_19 : PF wsX0_copyFrom RX0 19 0 3 0 false .int := ⟨RX0, TX0, 6, tyX0, rfl, (fun _ h => List.mem_cons_of_mem _ (List.mem_append_right _ h)), by decide, (List.mem_of_getElem? (i := 4) (by decide +kernel)), by decide, by decide, by decide, tyX0_ok, nmX0, rfl, by decide +kernel, fun h => by cases h⟩
set_option maxRecDepth 20000 in
theorem fl_X0_copyFrom_22 : FL wsX0_copyFrom RX0 22 0 4 0 := FL.of RX0 TX0 6 rfl (fun _ h => List.mem_cons_of_mem _ (List.mem_append_right _ h)) (List.mem_of_getElem? (i := 5) (by decide +kernel)) (by decide)
set_option maxRecDepth 20000 in
theorem pf_X0_copyFrom_22 : PF wsX0_copyFrom RX0 22 0 4 0 false .int := ⟨RX0, TX0, 6, tyX0, rfl, (fun _ h => List.mem_cons_of_mem _ (List.mem_append_right _ h)), by decide, (List.mem_of_getElem? (i := 5) (by decide +kernel)), by decide, by decide, by decide, tyX0_ok, nmX0, rfl, by decide +kernel, fun h => by cases h⟩
set_option maxRecDepth 20000 in
theorem fl_X0_copyFrom_25 : FL wsX0_copyFrom RX0 25 0 5 0 := FL.of RX0 TX0 6 rfl (fun _ h => List.mem_cons_of_mem _ (List.mem_append_right _ h)) (List.mem_of_getElem? (i := 6) (by decide +kernel)) (by decide)
set_option maxRecDepth 20000 in
theorem pf_X0_copyFrom_25 : PF wsX0_copyFrom RX0 25 0 5 0 false .int := ⟨RX0, TX0, 6, tyX0, rfl, (fun _ h => List.mem_cons_of_mem _ (List.mem_append_right _ h)), by decide, (List.mem_of_getElem? (i := 6) (by decide +kernel)), by decide, by decide, by decide, tyX0_ok, nmX0, rfl, by decide +kernel, fun h => by cases h⟩
set_option maxRecDepth 20000 in
theorem fl_X0_isFor_16 : FL wsX0_isFor RX0 16 0 2 0 := FL.of RX0 TX0 6 rfl (fun _ h => List.mem_cons_of_mem _ (List.mem_append_right _ h)) (List.mem_of_getElem? (i := 1) (by decide +kernel)) (by decide)
set_option maxRecDepth 20000 in
theorem fl_X0_isFor_19 : FL wsX0_isFor RX0 19 0 3 0 := FL.of RX0 TX0 6 rfl (fun _ h => List.mem_cons_of_mem _ (List.mem_append_right _ h)) (List.mem_of_getElem? (i := 2) (by decide +kernel)) (by decide)
set_option maxRecDepth 20000 in
theorem fl_X1_bearMending_13 : FL wsX1_bearMending RX1 13 1 0 0 := FL.of RX1 TX1 6 rfl (fun _ h => List.mem_cons_of_mem _ (List.mem_append_right _ h)) (List.mem_of_getElem? (i := 1) (by decide +kernel)) (by decide)
set_option maxRecDepth 20000 in
theorem pf_X1_bearMending_13 : PF wsX1_bearMending RX1 13 1 0 0 false .int := ⟨RX1, TX1, 6, tyX1, rfl, (fun _ h => List.mem_cons_of_mem _ (List.mem_append_right _ h)), by decide, (List.mem_of_getElem? (i := 1) (by decide +kernel)), by decide, by decide, by decide, tyX1_ok, nmX1, rfl, by decide +kernel, fun h => by cases h⟩
set_option maxRecDepth 20000 in
theorem fl_X1_bearMending_25 : FL wsX1_bearMending RX1 25 1 5 0 := FL.of RX1 TX1 6 rfl (fun _ h => List.mem_cons_of_mem _ (List.mem_append_right _ h)) (List.mem_of_getElem? (i := 2) (by decide +kernel)) (by decide)
set_option maxRecDepth 20000 in
theorem pf_X1_bearMending_25 : PF wsX1_bearMending RX1 25 1 5 0 false .int := ⟨RX1, TX1, 6, tyX1, rfl, (fun _ h => List.mem_cons_of_mem _ (List.mem_append_right _ h)), by decide, (List.mem_of_getElem? (i := 2) (by decide +kernel)), by decide, by decide, by decide, tyX1_ok, nmX1, rfl, by decide +kernel, fun h => by cases h⟩
set_option maxRecDepth 20000 in
theorem fl_X1_charge_13 : FL wsX1_charge RX1 13 1 0 0 := FL.of RX1 TX1 6 rfl (fun _ h => List.mem_cons_of_mem _ (List.mem_append_right _ h)) (List.mem_of_getElem? (i := 1) (by decide +kernel)) (by decide)
set_option maxRecDepth 20000 in
theorem pf_X1_charge_13 : PF wsX1_charge RX1 13 1 0 0 false .int := ⟨RX1, TX1, 6, tyX1, rfl, (fun _ h => List.mem_cons_of_mem _ (List.mem_append_right _ h)), by decide, (List.mem_of_getElem? (i := 1) (by decide +kernel)), by decide, by decide, by decide, tyX1_ok, nmX1, rfl, by decide +kernel, fun h => by cases h⟩
set_option maxRecDepth 20000 in
theorem fl_X1_charge_22 : FL wsX1_charge RX1 22 1 4 0 := FL.of RX1 TX1 6 rfl (fun _ h => List.mem_cons_of_mem _ (List.mem_append_right _ h)) (List.mem_of_getElem? (i := 2) (by decide +kernel)) (by decide)
set_option maxRecDepth 20000 in
theorem pf_X1_charge_22 : PF wsX1_charge RX1 22 1 4 0 false .int := ⟨RX1, TX1, 6, tyX1, rfl, (fun _ h => List.mem_cons_of_mem _ (List.mem_append_right _ h)), by decide, (List.mem_of_getElem? (i := 2) (by decide +kernel)), by decide, by decide, by decide, tyX1_ok, nmX1, rfl, by decide +kernel, fun h => by cases h⟩
set_option maxRecDepth 20000 in
theorem fl_X1_copyFrom_13 : FL wsX1_copyFrom RX1 13 1 0 0 := FL.of RX1 TX1 6 rfl (fun _ h => List.mem_cons_of_mem _ (List.mem_append_right _ h)) (List.mem_of_getElem? (i := 1) (by decide +kernel)) (by decide)
set_option maxRecDepth 20000 in
theorem pf_X1_copyFrom_13 : PF wsX1_copyFrom RX1 13 1 0 0 false .int := ⟨RX1, TX1, 6, tyX1, rfl, (fun _ h => List.mem_cons_of_mem _ (List.mem_append_right _ h)), by decide, (List.mem_of_getElem? (i := 1) (by decide +kernel)), by decide, by decide, by decide, tyX1_ok, nmX1, rfl, by decide +kernel, fun h => by cases h⟩
set_option maxRecDepth 20000 in
theorem fl_X1_copyFrom_7 : FL wsX1_copyFrom RX1 7 1 1 0 := FL.of RX1 TX1 6 rfl (fun _ h => List.mem_cons_of_mem _ (List.mem_append_right _ h)) (List.mem_of_getElem? (i := 2) (by decide +kernel)) (by decide)
set_option maxRecDepth 20000 in
theorem pf_X1_copyFrom_7 : PF wsX1_copyFrom RX1 7 1 1 0 false .int := ⟨RX1, TX1, 6, tyX1, rfl, (fun _ h => List.mem_cons_of_mem _ (List.mem_append_right _ h)), by decide, (List.mem_of_getElem? (i := 2) (by decide +kernel)), by decide, by decide, by decide, tyX1_ok, nmX1, rfl, by decide +kernel, fun h => by cases h⟩
set_option maxRecDepth 20000 in
theorem fl_X1_copyFrom_16 : FL wsX1_copyFrom RX1 16 1 2 0 := FL.of RX1 TX1 6 rfl (fun _ h => List.mem_cons_of_mem _ (List.mem_append_right _ h)) (List.mem_of_getElem? (i := 3) (by decide +kernel)) (by decide)
set_option maxRecDepth 20000 in
theorem pf_X1_copyFrom_16 : PF wsX1_copyFrom RX1 16 1 2 0 false .int := ⟨RX1, TX1, 6, tyX1, rfl, (fun _ h => List.mem_cons_of_mem _ (List.mem_append_right _ h)), by decide, (List.mem_of_getElem? (i := 3) (by decide +kernel)), by decide, by decide, by decide, tyX1_ok, nmX1, rfl, by decide +kernel, fun h => by cases h⟩
set_option maxRecDepth 20000 in
theorem fl_X1_copyFrom_19 : FL wsX1_copyFrom RX1 19 1 3 0 := FL.of RX1 TX1 6 rfl (fun _ h => List.mem_cons_of_mem _ (List.mem_append_right _ h)) (List.mem_of_getElem? (i := 4) (by decide +kernel)) (by decide)
set_option maxRecDepth 20000 in
theorem pf_X1_copyFrom_19 : PF wsX1_copyFrom RX1 19 1 3 0 false .int := ⟨RX1, TX1, 6, tyX1, rfl, (fun _ h => List.mem_cons_of_mem _ (List.mem_append_right _ h)), by decide, (List.mem_of_getElem? (i := 4) (by decide +kernel)), by decide, by decide, by decide, tyX1_ok, nmX1, rfl, by decide +kernel, fun h => by cases h⟩
set_option maxRecDepth 20000 in
theorem fl_X1_copyFrom_22 : FL wsX1_copyFrom RX1 22 1 4 0 := FL.of RX1 TX1 6 rfl (fun _ h => List.mem_cons_of_mem _ (List.mem_append_right _ h)) (List.mem_of_getElem? (i := 5) (by decide +kernel)) (by decide)
set_option maxRecDepth 20000 in
theorem pf_X1_copyFrom_22 : PF wsX1_copyFrom RX1 22 1 4 0 false .int := ⟨RX1, TX1, 6, tyX1, rfl, (fun _ h => List.mem_cons_of_mem _ (List.mem_append_right _ h)), by decide, (List.mem_of_getElem? (i := 5) (by decide +kernel)), by decide, by decide, by decide, tyX1_ok, nmX1, rfl, by decide +kernel, fun h => by cases h⟩
set_option maxRecDepth 20000 in
theorem fl_X1_copyFrom_25 : FL wsX1_copyFrom RX1 25 1 5 0 := FL.of RX1 TX1 6 rfl (fun _ h => List.mem_cons_of_mem _ (List.mem_append_right _ h)) (List.mem_of_getElem? (i := 6) (by decide +kernel)) (by decide)
set_option maxRecDepth 20000 in
theorem pf_X1_copyFrom_25 : PF wsX1_copyFrom RX1 25 1 5 0 false .int := ⟨RX1, TX1, 6, tyX1, rfl, (fun _ h => List.mem_cons_of_mem _ (List.mem_append_right _ h)), by decide, (List.mem_of_getElem? (i := 6) (by decide +kernel)), by decide, by decide, by decide, tyX1_ok, nmX1, rfl, by decide +kernel, fun h => by cases h⟩
set_option maxRecDepth 20000 in
theorem pf_X1_init_7 : PF wsX1_init RX1 7 1 1 0 false .int := ⟨RX1, TX1, 6, tyX1, rfl, (fun _ h => List.mem_cons_of_mem _ (List.mem_append_right _ h)), by decide, (List.mem_of_getElem? (i := 4) (by decide +kernel)), by decide, by decide, by decide, tyX1_ok, nmX1, rfl, by decide +kernel, fun h => by cases h⟩
set_option maxRecDepth 20000 in
theorem fl_X1_mayDrive_7 : FL wsX1_mayDrive RX1 7 1 1 0 := FL.of RX1 TX1 6 rfl (fun _ h => List.mem_cons_of_mem _ (List.mem_append_right _ h)) (List.mem_of_getElem? (i := 1) (by decide +kernel)) (by decide)
set_option maxRecDepth 20000 in
theorem fl_X2_dropOldest_11 : FL wsX2_dropOldest RX2 11 2 0 1 := FL.of RX2 TX2 2 rfl (fun _ h => List.mem_cons_of_mem _ (List.mem_append_right _ h)) (List.mem_of_getElem? (i := 1) (by decide +kernel)) (by decide)
set_option maxRecDepth 20000 in
theorem fl_X2_dropOldest_18 : FL wsX2_dropOldest RX2 18 2 1 0 := FL.of RX2 TX2 2 rfl (fun _ h => List.mem_cons_of_mem _ (List.mem_append_right _ h)) (List.mem_of_getElem? (i := 2) (by decide +kernel)) (by decide)
set_option maxRecDepth 20000 in
theorem pf_X2_dropOldest_18 : PF wsX2_dropOldest RX2 18 2 1 0 false .int := ⟨RX2, TX2, 2, tyX2, rfl, (fun _ h => List.mem_cons_of_mem _ (List.mem_append_right _ h)), by decide, (List.mem_of_getElem? (i := 2) (by decide +kernel)), by decide, by decide, by decide, tyX2_ok, nmX2, rfl, by decide +kernel, fun h => by cases h⟩
set_option maxRecDepth 20000 in
theorem pf_X2_init_11 : PF wsX2_init RX2 11 2 0 1 true (.array (.object "MachineRing$State")) := ⟨RX2, TX2, 2, tyX2, rfl, (fun _ h => List.mem_cons_of_mem _ (List.mem_append_left _ (List.mem_append_left _ (List.mem_append_left _ (List.mem_append_left _ (List.mem_append_right _ h)))))), by decide, (List.mem_of_getElem? (i := 5) (by decide +kernel)), by decide, by decide, by decide, tyX2_ok, nmX2, rfl, by decide +kernel, fun _ => rfl⟩
set_option maxRecDepth 20000 in
theorem fl_X2_init_11 : FL wsX2_init RX2 11 2 0 1 := FL.of RX2 TX2 2 rfl (fun _ h => List.mem_cons_of_mem _ (List.mem_append_left _ (List.mem_append_left _ (List.mem_append_left _ (List.mem_append_left _ (List.mem_append_right _ h)))))) (List.mem_of_getElem? (i := 5) (by decide +kernel)) (by decide)
set_option maxRecDepth 20000 in
theorem fl_X2_push_18 : FL wsX2_push RX2 18 2 1 0 := FL.of RX2 TX2 2 rfl (fun _ h => List.mem_cons_of_mem _ (List.mem_append_left _ (List.mem_append_left _ (List.mem_append_left _ (List.mem_append_left _ (List.mem_append_right _ h)))))) (List.mem_of_getElem? (i := 1) (by decide +kernel)) (by decide)
set_option maxRecDepth 20000 in
theorem fl_X2_push_11 : FL wsX2_push RX2 11 2 0 1 := FL.of RX2 TX2 2 rfl (fun _ h => List.mem_cons_of_mem _ (List.mem_append_left _ (List.mem_append_left _ (List.mem_append_left _ (List.mem_append_left _ (List.mem_append_right _ h)))))) (List.mem_of_getElem? (i := 2) (by decide +kernel)) (by decide)
set_option maxRecDepth 20000 in
theorem pf_X2_push_18 : PF wsX2_push RX2 18 2 1 0 false .int := ⟨RX2, TX2, 2, tyX2, rfl, (fun _ h => List.mem_cons_of_mem _ (List.mem_append_left _ (List.mem_append_left _ (List.mem_append_left _ (List.mem_append_left _ (List.mem_append_right _ h)))))), by decide, (List.mem_of_getElem? (i := 1) (by decide +kernel)), by decide, by decide, by decide, tyX2_ok, nmX2, rfl, by decide +kernel, fun h => by cases h⟩
set_option maxRecDepth 20000 in
theorem e_X2_push_22 : EV wsX2_push RX2 22 RX2 yX2_dropOldest wsX2_dropOldest 0 2 0 0 3 67 := ⟨cX2_dropOldest, 3, none, _, TX2, 2, gX2_push_X2_dropOldest, rfl, ⟨rfl, by decide +kernel, by decide +kernel, by decide +kernel⟩, ⟨by decide, by decide⟩, rfl, by decide⟩
set_option maxRecDepth 20000 in
theorem e_X2_push_25 : EV wsX2_push RX2 25 RX2 yX2_stateAt wsX2_stateAt 1 2 0 0 3 67 := ⟨cX2_stateAt, 2, (some (.object "MachineRing$State")), _, TX2, 2, gX2_push_X2_stateAt, rfl, ⟨rfl, by decide +kernel, by decide +kernel, by decide +kernel⟩, ⟨by decide, by decide⟩, rfl, by decide⟩
set_option maxRecDepth 20000 in
theorem e_X2_push_29 : EV wsX2_push RX2 29 RX4 yX4_copyFrom wsX4_copyFrom 1 4 2 43 3 67 := ⟨cX4_copyFrom, 5, none, _, TX4, 16, gX2_push_X4_copyFrom, rfl, ⟨rfl, by decide +kernel, by decide +kernel, by decide +kernel⟩, ⟨by decide, by decide⟩, rfl, by decide⟩
set_option maxRecDepth 20000 in
theorem fl_X2_stateAt_11 : FL wsX2_stateAt RX2 11 2 0 1 := FL.of RX2 TX2 2 rfl (fun _ h => List.mem_cons_of_mem _ (List.mem_append_right _ h)) (List.mem_of_getElem? (i := 1) (by decide +kernel)) (by decide)
set_option maxRecDepth 20000 in
theorem fl_X2_takeLatest_18 : FL wsX2_takeLatest RX2 18 2 1 0 := FL.of RX2 TX2 2 rfl (fun _ h => List.mem_cons_of_mem _ (List.mem_append_right _ h)) (List.mem_of_getElem? (i := 1) (by decide +kernel)) (by decide)
set_option maxRecDepth 20000 in
theorem pf_X2_takeLatest_18 : PF wsX2_takeLatest RX2 18 2 1 0 false .int := ⟨RX2, TX2, 2, tyX2, rfl, (fun _ h => List.mem_cons_of_mem _ (List.mem_append_right _ h)), by decide, (List.mem_of_getElem? (i := 1) (by decide +kernel)), by decide, by decide, by decide, tyX2_ok, nmX2, rfl, by decide +kernel, fun h => by cases h⟩
set_option maxRecDepth 20000 in
theorem e_X2_takeLatest_25 : EV wsX2_takeLatest RX2 25 RX2 yX2_stateAt wsX2_stateAt 1 2 0 0 1 21 := ⟨cX2_stateAt, 2, (some (.object "MachineRing$State")), _, TX2, 2, gX2_takeLatest_X2_stateAt, rfl, ⟨rfl, by decide +kernel, by decide +kernel, by decide +kernel⟩, ⟨by decide, by decide⟩, rfl, by decide⟩
set_option maxRecDepth 20000 in
theorem pf_X3_begin_15 : PF wsX3_begin RX3 15 3 0 0 false .int := ⟨RX3, TX3, 8, tyX3, rfl, (fun _ h => List.mem_cons_of_mem _ (List.mem_append_right _ h)), by decide, (List.mem_of_getElem? (i := 1) (by decide +kernel)), by decide, by decide, by decide, tyX3_ok, nmX3, rfl, by decide +kernel, fun h => by cases h⟩
set_option maxRecDepth 20000 in
theorem pf_X3_begin_19 : PF wsX3_begin RX3 19 3 1 0 false .int := ⟨RX3, TX3, 8, tyX3, rfl, (fun _ h => List.mem_cons_of_mem _ (List.mem_append_right _ h)), by decide, (List.mem_of_getElem? (i := 2) (by decide +kernel)), by decide, by decide, by decide, tyX3_ok, nmX3, rfl, by decide +kernel, fun h => by cases h⟩
set_option maxRecDepth 20000 in
theorem pf_X3_begin_22 : PF wsX3_begin RX3 22 3 2 0 false .int := ⟨RX3, TX3, 8, tyX3, rfl, (fun _ h => List.mem_cons_of_mem _ (List.mem_append_right _ h)), by decide, (List.mem_of_getElem? (i := 3) (by decide +kernel)), by decide, by decide, by decide, tyX3_ok, nmX3, rfl, by decide +kernel, fun h => by cases h⟩
set_option maxRecDepth 20000 in
theorem pf_X3_begin_25 : PF wsX3_begin RX3 25 3 3 2 false .float := ⟨RX3, TX3, 8, tyX3, rfl, (fun _ h => List.mem_cons_of_mem _ (List.mem_append_right _ h)), by decide, (List.mem_of_getElem? (i := 4) (by decide +kernel)), by decide, by decide, by decide, tyX3_ok, nmX3, rfl, by decide +kernel, fun h => by cases h⟩
set_option maxRecDepth 20000 in
theorem pf_X3_begin_29 : PF wsX3_begin RX3 29 3 4 3 false .boolean := ⟨RX3, TX3, 8, tyX3, rfl, (fun _ h => List.mem_cons_of_mem _ (List.mem_append_right _ h)), by decide, (List.mem_of_getElem? (i := 5) (by decide +kernel)), by decide, by decide, by decide, tyX3_ok, nmX3, rfl, by decide +kernel, fun h => by cases h⟩
set_option maxRecDepth 20000 in
theorem pf_X3_begin_33 : PF wsX3_begin RX3 33 3 5 0 false .int := ⟨RX3, TX3, 8, tyX3, rfl, (fun _ h => List.mem_cons_of_mem _ (List.mem_append_right _ h)), by decide, (List.mem_of_getElem? (i := 6) (by decide +kernel)), by decide, by decide, by decide, tyX3_ok, nmX3, rfl, by decide +kernel, fun h => by cases h⟩
set_option maxRecDepth 20000 in
theorem pf_X3_begin_36 : PF wsX3_begin RX3 36 3 6 0 false .int := ⟨RX3, TX3, 8, tyX3, rfl, (fun _ h => List.mem_cons_of_mem _ (List.mem_append_right _ h)), by decide, (List.mem_of_getElem? (i := 7) (by decide +kernel)), by decide, by decide, by decide, tyX3_ok, nmX3, rfl, by decide +kernel, fun h => by cases h⟩
set_option maxRecDepth 20000 in
theorem e_X3_begin_39 : EV wsX3_begin RX3 39 RX3 yX3_forgetHours wsX3_forgetHours 0 3 0 0 1 21 := ⟨cX3_forgetHours, 2, none, _, TX3, 8, gX3_begin_X3_forgetHours, rfl, ⟨rfl, by decide +kernel, by decide +kernel, by decide +kernel⟩, ⟨by decide, by decide⟩, rfl, by decide⟩
set_option maxRecDepth 20000 in
theorem fl_X3_copyFrom_15 : FL wsX3_copyFrom RX3 15 3 0 0 := FL.of RX3 TX3 8 rfl (fun _ h => List.mem_cons_of_mem _ (List.mem_append_right _ h)) (List.mem_of_getElem? (i := 1) (by decide +kernel)) (by decide)
set_option maxRecDepth 20000 in
theorem pf_X3_copyFrom_15 : PF wsX3_copyFrom RX3 15 3 0 0 false .int := ⟨RX3, TX3, 8, tyX3, rfl, (fun _ h => List.mem_cons_of_mem _ (List.mem_append_right _ h)), by decide, (List.mem_of_getElem? (i := 1) (by decide +kernel)), by decide, by decide, by decide, tyX3_ok, nmX3, rfl, by decide +kernel, fun h => by cases h⟩
set_option maxRecDepth 20000 in
theorem fl_X3_copyFrom_19 : FL wsX3_copyFrom RX3 19 3 1 0 := FL.of RX3 TX3 8 rfl (fun _ h => List.mem_cons_of_mem _ (List.mem_append_right _ h)) (List.mem_of_getElem? (i := 2) (by decide +kernel)) (by decide)
set_option maxRecDepth 20000 in
theorem pf_X3_copyFrom_19 : PF wsX3_copyFrom RX3 19 3 1 0 false .int := ⟨RX3, TX3, 8, tyX3, rfl, (fun _ h => List.mem_cons_of_mem _ (List.mem_append_right _ h)), by decide, (List.mem_of_getElem? (i := 2) (by decide +kernel)), by decide, by decide, by decide, tyX3_ok, nmX3, rfl, by decide +kernel, fun h => by cases h⟩
set_option maxRecDepth 20000 in
theorem fl_X3_copyFrom_22 : FL wsX3_copyFrom RX3 22 3 2 0 := FL.of RX3 TX3 8 rfl (fun _ h => List.mem_cons_of_mem _ (List.mem_append_right _ h)) (List.mem_of_getElem? (i := 3) (by decide +kernel)) (by decide)
set_option maxRecDepth 20000 in
theorem pf_X3_copyFrom_22 : PF wsX3_copyFrom RX3 22 3 2 0 false .int := ⟨RX3, TX3, 8, tyX3, rfl, (fun _ h => List.mem_cons_of_mem _ (List.mem_append_right _ h)), by decide, (List.mem_of_getElem? (i := 3) (by decide +kernel)), by decide, by decide, by decide, tyX3_ok, nmX3, rfl, by decide +kernel, fun h => by cases h⟩
set_option maxRecDepth 20000 in
theorem fl_X3_copyFrom_25 : FL wsX3_copyFrom RX3 25 3 3 2 := FL.of RX3 TX3 8 rfl (fun _ h => List.mem_cons_of_mem _ (List.mem_append_right _ h)) (List.mem_of_getElem? (i := 4) (by decide +kernel)) (by decide)
set_option maxRecDepth 20000 in
theorem pf_X3_copyFrom_25 : PF wsX3_copyFrom RX3 25 3 3 2 false .float := ⟨RX3, TX3, 8, tyX3, rfl, (fun _ h => List.mem_cons_of_mem _ (List.mem_append_right _ h)), by decide, (List.mem_of_getElem? (i := 4) (by decide +kernel)), by decide, by decide, by decide, tyX3_ok, nmX3, rfl, by decide +kernel, fun h => by cases h⟩
set_option maxRecDepth 20000 in
theorem fl_X3_copyFrom_29 : FL wsX3_copyFrom RX3 29 3 4 3 := FL.of RX3 TX3 8 rfl (fun _ h => List.mem_cons_of_mem _ (List.mem_append_right _ h)) (List.mem_of_getElem? (i := 5) (by decide +kernel)) (by decide)
set_option maxRecDepth 20000 in
theorem pf_X3_copyFrom_29 : PF wsX3_copyFrom RX3 29 3 4 3 false .boolean := ⟨RX3, TX3, 8, tyX3, rfl, (fun _ h => List.mem_cons_of_mem _ (List.mem_append_right _ h)), by decide, (List.mem_of_getElem? (i := 5) (by decide +kernel)), by decide, by decide, by decide, tyX3_ok, nmX3, rfl, by decide +kernel, fun h => by cases h⟩
set_option maxRecDepth 20000 in
theorem fl_X3_copyFrom_33 : FL wsX3_copyFrom RX3 33 3 5 0 := FL.of RX3 TX3 8 rfl (fun _ h => List.mem_cons_of_mem _ (List.mem_append_right _ h)) (List.mem_of_getElem? (i := 6) (by decide +kernel)) (by decide)
set_option maxRecDepth 20000 in
theorem pf_X3_copyFrom_33 : PF wsX3_copyFrom RX3 33 3 5 0 false .int := ⟨RX3, TX3, 8, tyX3, rfl, (fun _ h => List.mem_cons_of_mem _ (List.mem_append_right _ h)), by decide, (List.mem_of_getElem? (i := 6) (by decide +kernel)), by decide, by decide, by decide, tyX3_ok, nmX3, rfl, by decide +kernel, fun h => by cases h⟩
set_option maxRecDepth 20000 in
theorem fl_X3_copyFrom_36 : FL wsX3_copyFrom RX3 36 3 6 0 := FL.of RX3 TX3 8 rfl (fun _ h => List.mem_cons_of_mem _ (List.mem_append_right _ h)) (List.mem_of_getElem? (i := 7) (by decide +kernel)) (by decide)
set_option maxRecDepth 20000 in
theorem pf_X3_copyFrom_36 : PF wsX3_copyFrom RX3 36 3 6 0 false .int := ⟨RX3, TX3, 8, tyX3, rfl, (fun _ h => List.mem_cons_of_mem _ (List.mem_append_right _ h)), by decide, (List.mem_of_getElem? (i := 7) (by decide +kernel)), by decide, by decide, by decide, tyX3_ok, nmX3, rfl, by decide +kernel, fun h => by cases h⟩
set_option maxRecDepth 20000 in
theorem fl_X3_copyFrom_9 : FL wsX3_copyFrom RX3 9 3 7 1 := FL.of RX3 TX3 8 rfl (fun _ h => List.mem_cons_of_mem _ (List.mem_append_right _ h)) (List.mem_of_getElem? (i := 8) (by decide +kernel)) (by decide)
set_option maxRecDepth 20000 in
theorem e_X3_copyFrom_42 : EV wsX3_copyFrom RX3 42 RX3 yX3_hoursOf wsX3_hoursOf 1 3 0 0 1 21 := ⟨cX3_hoursOf, 2, (some .int), _, TX3, 8, gX3_copyFrom_X3_hoursOf, rfl, ⟨rfl, by decide +kernel, by decide +kernel, by decide +kernel⟩, ⟨by decide, by decide⟩, rfl, by decide⟩
set_option maxRecDepth 20000 in
theorem fl_X3_forgetHours_9 : FL wsX3_forgetHours RX3 9 3 7 1 := FL.of RX3 TX3 8 rfl (fun _ h => List.mem_cons_of_mem _ (List.mem_append_right _ h)) (List.mem_of_getElem? (i := 1) (by decide +kernel)) (by decide)
set_option maxRecDepth 20000 in
theorem fl_X3_fuelFor_15 : FL wsX3_fuelFor RX3 15 3 0 0 := FL.of RX3 TX3 8 rfl (fun _ h => List.mem_cons_of_mem _ (List.mem_append_right _ h)) (List.mem_of_getElem? (i := 1) (by decide +kernel)) (by decide)
set_option maxRecDepth 20000 in
theorem e_X3_fuelFor_47 : EN wsX3_fuelFor RX3 47 yX6_useOf wsX6_useOf 1 0 0 1 20 := ⟨cX6_useOf, 1, (some .float), _, gX3_fuelFor_X6_useOf_n47, rfl, ⟨by decide +kernel, by decide +kernel, by decide +kernel⟩, ⟨by decide, by decide⟩, fun s h => h.1, List.mem_of_getElem? (i := 2) (by decide +kernel), List.mem_of_getElem? (i := 3) (by decide +kernel)⟩
set_option maxRecDepth 20000 in
theorem fl_X3_hoursOf_9 : FL wsX3_hoursOf RX3 9 3 7 1 := FL.of RX3 TX3 8 rfl (fun _ h => List.mem_cons_of_mem _ (List.mem_append_right _ h)) (List.mem_of_getElem? (i := 1) (by decide +kernel)) (by decide)
set_option maxRecDepth 20000 in
theorem fl_X3_hoursSinceMended_9 : FL wsX3_hoursSinceMended RX3 9 3 7 1 := FL.of RX3 TX3 8 rfl (fun _ h => List.mem_cons_of_mem _ (List.mem_append_right _ h)) (List.mem_of_getElem? (i := 1) (by decide +kernel)) (by decide)
set_option maxRecDepth 20000 in
theorem pf_X3_init_9 : PF wsX3_init RX3 9 3 7 1 true (.array .int) := ⟨RX3, TX3, 8, tyX3, rfl, (fun _ h => List.mem_cons_of_mem _ (List.mem_append_right _ h)), by decide, (List.mem_of_getElem? (i := 5) (by decide +kernel)), by decide, by decide, by decide, tyX3_ok, nmX3, rfl, by decide +kernel, fun _ => rfl⟩
set_option maxRecDepth 20000 in
theorem fl_X3_work_25 : FL wsX3_work RX3 25 3 3 2 := FL.of RX3 TX3 8 rfl (fun _ h => List.mem_cons_of_mem _ (List.mem_append_right _ h)) (List.mem_of_getElem? (i := 1) (by decide +kernel)) (by decide)
set_option maxRecDepth 20000 in
theorem pf_X3_work_25 : PF wsX3_work RX3 25 3 3 2 false .float := ⟨RX3, TX3, 8, tyX3, rfl, (fun _ h => List.mem_cons_of_mem _ (List.mem_append_right _ h)), by decide, (List.mem_of_getElem? (i := 1) (by decide +kernel)), by decide, by decide, by decide, tyX3_ok, nmX3, rfl, by decide +kernel, fun h => by cases h⟩
set_option maxRecDepth 20000 in
theorem fl_X3_work_33 : FL wsX3_work RX3 33 3 5 0 := FL.of RX3 TX3 8 rfl (fun _ h => List.mem_cons_of_mem _ (List.mem_append_right _ h)) (List.mem_of_getElem? (i := 2) (by decide +kernel)) (by decide)
set_option maxRecDepth 20000 in
theorem pf_X3_work_33 : PF wsX3_work RX3 33 3 5 0 false .int := ⟨RX3, TX3, 8, tyX3, rfl, (fun _ h => List.mem_cons_of_mem _ (List.mem_append_right _ h)), by decide, (List.mem_of_getElem? (i := 2) (by decide +kernel)), by decide, by decide, by decide, tyX3_ok, nmX3, rfl, by decide +kernel, fun h => by cases h⟩
set_option maxRecDepth 20000 in
theorem fl_X3_work_9 : FL wsX3_work RX3 9 3 7 1 := FL.of RX3 TX3 8 rfl (fun _ h => List.mem_cons_of_mem _ (List.mem_append_right _ h)) (List.mem_of_getElem? (i := 3) (by decide +kernel)) (by decide)
set_option maxRecDepth 20000 in
theorem pf_X3_work_29 : PF wsX3_work RX3 29 3 4 3 false .boolean := ⟨RX3, TX3, 8, tyX3, rfl, (fun _ h => List.mem_cons_of_mem _ (List.mem_append_right _ h)), by decide, (List.mem_of_getElem? (i := 4) (by decide +kernel)), by decide, by decide, by decide, tyX3_ok, nmX3, rfl, by decide +kernel, fun h => by cases h⟩
set_option maxRecDepth 20000 in
theorem e_X3_work_51 : EV wsX3_work RX3 51 RX3 yX3_fuelFor wsX3_fuelFor 1 3 1 20 2 41 := ⟨cX3_fuelFor, 2, (some .float), _, TX3, 8, gX3_work_X3_fuelFor, rfl, ⟨rfl, by decide +kernel, by decide +kernel, by decide +kernel⟩, ⟨by decide, by decide⟩, rfl, by decide⟩
set_option maxRecDepth 20000 in
theorem e_X3_work_54 : EV wsX3_work RX3 54 RX3 yX3_hoursSinceMended wsX3_hoursSinceMended 0 3 0 0 2 41 := ⟨cX3_hoursSinceMended, 3, (some .int), _, TX3, 8, gX3_work_X3_hoursSinceMended, rfl, ⟨rfl, by decide +kernel, by decide +kernel, by decide +kernel⟩, ⟨by decide, by decide⟩, rfl, by decide⟩
set_option maxRecDepth 20000 in
theorem fl_X4_addBooking_61 : FL wsX4_addBooking RX4 61 4 4 0 := FL.of RX4 TX4 16 rfl (fun _ h => List.mem_cons_of_mem _ (List.mem_append_left _ (List.mem_append_right _ h))) (List.mem_of_getElem? (i := 1) (by decide +kernel)) (by decide)
set_option maxRecDepth 20000 in
theorem pf_X4_addBooking_61 : PF wsX4_addBooking RX4 61 4 4 0 false .int := ⟨RX4, TX4, 16, tyX4, rfl, (fun _ h => List.mem_cons_of_mem _ (List.mem_append_left _ (List.mem_append_right _ h))), by decide, (List.mem_of_getElem? (i := 1) (by decide +kernel)), by decide, by decide, by decide, tyX4_ok, nmX4, rfl, by decide +kernel, fun h => by cases h⟩
set_option maxRecDepth 20000 in
theorem k_X4_addBooking_108 : Cond.constant RX4 108 (-100000003) ∈ wsX4_addBooking := List.mem_of_getElem? (i := 2) (by decide +kernel)
set_option maxRecDepth 20000 in
theorem fl_X4_addBooking_74 : FL wsX4_addBooking RX4 74 4 6 0 := FL.of RX4 TX4 16 rfl (fun _ h => List.mem_cons_of_mem _ (List.mem_append_left _ (List.mem_append_right _ h))) (List.mem_of_getElem? (i := 3) (by decide +kernel)) (by decide)
set_option maxRecDepth 20000 in
theorem pf_X4_addBooking_98 : PF wsX4_addBooking RX4 98 0 0 0 false .int := ⟨RX0, TX0, 6, tyX0, rfl, (fun _ h => List.mem_cons_of_mem _ (List.mem_append_right _ h)), by decide, (List.mem_of_getElem? (i := 4) (by decide +kernel)), by decide, by decide, by decide, tyX0_ok, nmX0, rfl, by decide +kernel, fun h => by cases h⟩
set_option maxRecDepth 20000 in
theorem pf_X4_addBooking_145 : PF wsX4_addBooking RX4 145 0 1 0 false .int := ⟨RX0, TX0, 6, tyX0, rfl, (fun _ h => List.mem_cons_of_mem _ (List.mem_append_right _ h)), by decide, (List.mem_of_getElem? (i := 5) (by decide +kernel)), by decide, by decide, by decide, tyX0_ok, nmX0, rfl, by decide +kernel, fun h => by cases h⟩
set_option maxRecDepth 20000 in
theorem pf_X4_addBooking_148 : PF wsX4_addBooking RX4 148 0 2 0 false .int := ⟨RX0, TX0, 6, tyX0, rfl, (fun _ h => List.mem_cons_of_mem _ (List.mem_append_right _ h)), by decide, (List.mem_of_getElem? (i := 6) (by decide +kernel)), by decide, by decide, by decide, tyX0_ok, nmX0, rfl, by decide +kernel, fun h => by cases h⟩
set_option maxRecDepth 20000 in
theorem fl_X4_addBooking_71 : FL wsX4_addBooking RX4 71 4 5 0 := FL.of RX4 TX4 16 rfl (fun _ h => List.mem_cons_of_mem _ (List.mem_append_left _ (List.mem_append_right _ h))) (List.mem_of_getElem? (i := 7) (by decide +kernel)) (by decide)
set_option maxRecDepth 20000 in
theorem pf_X4_addBooking_151 : PF wsX4_addBooking RX4 151 0 3 0 false .int := ⟨RX0, TX0, 6, tyX0, rfl, (fun _ h => List.mem_cons_of_mem _ (List.mem_append_right _ h)), by decide, (List.mem_of_getElem? (i := 8) (by decide +kernel)), by decide, by decide, by decide, tyX0_ok, nmX0, rfl, by decide +kernel, fun h => by cases h⟩
set_option maxRecDepth 20000 in
theorem pf_X4_addBooking_152 : PF wsX4_addBooking RX4 152 0 4 0 false .int := ⟨RX0, TX0, 6, tyX0, rfl, (fun _ h => List.mem_cons_of_mem _ (List.mem_append_right _ h)), by decide, (List.mem_of_getElem? (i := 9) (by decide +kernel)), by decide, by decide, by decide, tyX0_ok, nmX0, rfl, by decide +kernel, fun h => by cases h⟩
set_option maxRecDepth 20000 in
theorem pf_X4_addBooking_155 : PF wsX4_addBooking RX4 155 0 5 0 false .int := ⟨RX0, TX0, 6, tyX0, rfl, (fun _ h => List.mem_cons_of_mem _ (List.mem_append_right _ h)), by decide, (List.mem_of_getElem? (i := 10) (by decide +kernel)), by decide, by decide, by decide, tyX0_ok, nmX0, rfl, by decide +kernel, fun h => by cases h⟩
set_option maxRecDepth 20000 in
theorem pf_X4_addBooking_74 : PF wsX4_addBooking RX4 74 4 6 0 false .int := ⟨RX4, TX4, 16, tyX4, rfl, (fun _ h => List.mem_cons_of_mem _ (List.mem_append_left _ (List.mem_append_right _ h))), by decide, (List.mem_of_getElem? (i := 3) (by decide +kernel)), by decide, by decide, by decide, tyX4_ok, nmX4, rfl, by decide +kernel, fun h => by cases h⟩
set_option maxRecDepth 20000 in
theorem fl_X4_addBooking_98 : FL wsX4_addBooking RX4 98 0 0 0 := FL.of RX0 TX0 6 rfl (fun _ h => List.mem_cons_of_mem _ (List.mem_append_right _ h)) (List.mem_of_getElem? (i := 4) (by decide +kernel)) (by decide)
set_option maxRecDepth 20000 in
theorem e_X4_addBooking_64 : EV wsX4_addBooking RX4 64 RX4 yX4_bookingAt wsX4_bookingAt 1 4 0 0 1 21 := ⟨cX4_bookingAt, 2, (some (.object "MachineRing$Booking")), _, TX4, 16, gX4_addBooking_X4_bookingAt, rfl, ⟨rfl, by decide +kernel, by decide +kernel, by decide +kernel⟩, ⟨by decide, by decide⟩, rfl, by decide⟩
set_option maxRecDepth 20000 in
theorem fl_X4_addMachine_51 : FL wsX4_addMachine RX4 51 4 3 0 := FL.of RX4 TX4 16 rfl (fun _ h => List.mem_cons_of_mem _ (List.mem_append_left _ (List.mem_append_right _ h))) (List.mem_of_getElem? (i := 1) (by decide +kernel)) (by decide)
set_option maxRecDepth 20000 in
theorem pf_X4_addMachine_51 : PF wsX4_addMachine RX4 51 4 3 0 false .int := ⟨RX4, TX4, 16, tyX4, rfl, (fun _ h => List.mem_cons_of_mem _ (List.mem_append_left _ (List.mem_append_right _ h))), by decide, (List.mem_of_getElem? (i := 1) (by decide +kernel)), by decide, by decide, by decide, tyX4_ok, nmX4, rfl, by decide +kernel, fun h => by cases h⟩
set_option maxRecDepth 20000 in
theorem k_X4_addMachine_108 : Cond.constant RX4 108 (-100000003) ∈ wsX4_addMachine := List.mem_of_getElem? (i := 2) (by decide +kernel)
set_option maxRecDepth 20000 in
theorem e_X4_addMachine_104 : EV wsX4_addMachine RX4 104 RX4 yX4_machinesIn wsX4_machinesIn 1 4 1 21 2 45 := ⟨cX4_machinesIn, 5, (some .int), _, TX4, 16, gX4_addMachine_X4_machinesIn, rfl, ⟨rfl, by decide +kernel, by decide +kernel, by decide +kernel⟩, ⟨by decide, by decide⟩, rfl, by decide⟩
set_option maxRecDepth 20000 in
theorem e_X4_addMachine_54 : EV wsX4_addMachine RX4 54 RX4 yX4_machineAt wsX4_machineAt 1 4 0 0 2 45 := ⟨cX4_machineAt, 2, (some (.object "MachineRing$Machine")), _, TX4, 16, gX4_addMachine_X4_machineAt, rfl, ⟨rfl, by decide +kernel, by decide +kernel, by decide +kernel⟩, ⟨by decide, by decide⟩, rfl, by decide⟩
set_option maxRecDepth 20000 in
theorem e_X4_addMachine_109 : EV wsX4_addMachine RX4 109 RX3 yX3_begin wsX3_begin 3 3 1 21 2 45 := ⟨cX3_begin, 4, none, _, TX3, 8, gX4_addMachine_X3_begin, rfl, ⟨rfl, by decide +kernel, by decide +kernel, by decide +kernel⟩, ⟨by decide, by decide⟩, rfl, by decide⟩
set_option maxRecDepth 20000 in
theorem fl_X4_bookingAt_61 : FL wsX4_bookingAt RX4 61 4 4 0 := FL.of RX4 TX4 16 rfl (fun _ h => List.mem_cons_of_mem _ (List.mem_append_right _ h)) (List.mem_of_getElem? (i := 1) (by decide +kernel)) (by decide)
set_option maxRecDepth 20000 in
theorem fl_X4_bookingAt_27 : FL wsX4_bookingAt RX4 27 4 2 1 := FL.of RX4 TX4 16 rfl (fun _ h => List.mem_cons_of_mem _ (List.mem_append_right _ h)) (List.mem_of_getElem? (i := 2) (by decide +kernel)) (by decide)
set_option maxRecDepth 20000 in
theorem fl_X4_brokenMachines_51 : FL wsX4_brokenMachines RX4 51 4 3 0 := FL.of RX4 TX4 16 rfl (fun _ h => List.mem_cons_of_mem _ (List.mem_append_left _ (List.mem_append_right _ h))) (List.mem_of_getElem? (i := 1) (by decide +kernel)) (by decide)
set_option maxRecDepth 20000 in
theorem fl_X4_brokenMachines_127 : FL wsX4_brokenMachines RX4 127 3 4 3 := FL.of RX3 TX3 8 rfl (fun _ h => List.mem_cons_of_mem _ (List.mem_append_right _ h)) (List.mem_of_getElem? (i := 2) (by decide +kernel)) (by decide)
set_option maxRecDepth 20000 in
theorem e_X4_brokenMachines_54 : EV wsX4_brokenMachines RX4 54 RX4 yX4_machineAt wsX4_machineAt 1 4 0 0 1 21 := ⟨cX4_machineAt, 2, (some (.object "MachineRing$Machine")), _, TX4, 16, gX4_brokenMachines_X4_machineAt, rfl, ⟨rfl, by decide +kernel, by decide +kernel, by decide +kernel⟩, ⟨by decide, by decide⟩, rfl, by decide⟩
set_option maxRecDepth 20000 in
theorem fl_X4_canWork_101 : FL wsX4_canWork RX4 101 3 0 0 := FL.of RX3 TX3 8 rfl (fun _ h => List.mem_cons_of_mem _ (List.mem_append_left _ (List.mem_append_right _ h))) (List.mem_of_getElem? (i := 1) (by decide +kernel)) (by decide)
set_option maxRecDepth 20000 in
theorem fl_X4_canWork_71 : FL wsX4_canWork RX4 71 4 5 0 := FL.of RX4 TX4 16 rfl (fun _ h => List.mem_cons_of_mem _ (List.mem_append_right _ h)) (List.mem_of_getElem? (i := 2) (by decide +kernel)) (by decide)
set_option maxRecDepth 20000 in
theorem fl_X4_canWork_127 : FL wsX4_canWork RX4 127 3 4 3 := FL.of RX3 TX3 8 rfl (fun _ h => List.mem_cons_of_mem _ (List.mem_append_left _ (List.mem_append_right _ h))) (List.mem_of_getElem? (i := 3) (by decide +kernel)) (by decide)
set_option maxRecDepth 20000 in
theorem fl_X4_canWork_206 : FL wsX4_canWork RX4 206 3 3 2 := FL.of RX3 TX3 8 rfl (fun _ h => List.mem_cons_of_mem _ (List.mem_append_left _ (List.mem_append_right _ h))) (List.mem_of_getElem? (i := 4) (by decide +kernel)) (by decide)
set_option maxRecDepth 20000 in
theorem e_X4_canWork_203 : EV wsX4_canWork RX4 203 RX4 yX4_isWet wsX4_isWet 1 4 0 0 2 41 := ⟨cX4_isWet, 2, (some .boolean), _, TX4, 16, gX4_canWork_X4_isWet, rfl, ⟨rfl, by decide +kernel, by decide +kernel, by decide +kernel⟩, ⟨by decide, by decide⟩, rfl, by decide⟩
set_option maxRecDepth 20000 in
theorem e_X4_canWork_210 : EV wsX4_canWork RX4 210 RX3 yX3_fuelFor wsX3_fuelFor 1 3 1 20 2 41 := ⟨cX3_fuelFor, 2, (some .float), _, TX3, 8, gX4_canWork_X3_fuelFor, rfl, ⟨rfl, by decide +kernel, by decide +kernel, by decide +kernel⟩, ⟨by decide, by decide⟩, rfl, by decide⟩
set_option maxRecDepth 20000 in
theorem fl_X4_chargeOf_148 : FL wsX4_chargeOf RX4 148 0 2 0 := FL.of RX0 TX0 6 rfl (fun _ h => List.mem_cons_of_mem _ (List.mem_append_left _ (List.mem_append_left _ (List.mem_append_left _ (List.mem_append_right _ h))))) (List.mem_of_getElem? (i := 1) (by decide +kernel)) (by decide)
set_option maxRecDepth 20000 in
theorem fl_X4_chargeOf_145 : FL wsX4_chargeOf RX4 145 0 1 0 := FL.of RX0 TX0 6 rfl (fun _ h => List.mem_cons_of_mem _ (List.mem_append_left _ (List.mem_append_left _ (List.mem_append_left _ (List.mem_append_right _ h))))) (List.mem_of_getElem? (i := 2) (by decide +kernel)) (by decide)
set_option maxRecDepth 20000 in
theorem fl_X4_chargeOf_152 : FL wsX4_chargeOf RX4 152 0 4 0 := FL.of RX0 TX0 6 rfl (fun _ h => List.mem_cons_of_mem _ (List.mem_append_left _ (List.mem_append_left _ (List.mem_append_left _ (List.mem_append_right _ h))))) (List.mem_of_getElem? (i := 3) (by decide +kernel)) (by decide)
set_option maxRecDepth 20000 in
theorem fl_X4_chargeOf_165 : FL wsX4_chargeOf RX4 165 3 1 0 := FL.of RX3 TX3 8 rfl (fun _ h => List.mem_cons_of_mem _ (List.mem_append_left _ (List.mem_append_left _ (List.mem_append_right _ h)))) (List.mem_of_getElem? (i := 4) (by decide +kernel)) (by decide)
set_option maxRecDepth 20000 in
theorem fl_X4_chargeOf_151 : FL wsX4_chargeOf RX4 151 0 3 0 := FL.of RX0 TX0 6 rfl (fun _ h => List.mem_cons_of_mem _ (List.mem_append_left _ (List.mem_append_left _ (List.mem_append_left _ (List.mem_append_right _ h))))) (List.mem_of_getElem? (i := 5) (by decide +kernel)) (by decide)
set_option maxRecDepth 20000 in
theorem fl_X4_chargeOf_101 : FL wsX4_chargeOf RX4 101 3 0 0 := FL.of RX3 TX3 8 rfl (fun _ h => List.mem_cons_of_mem _ (List.mem_append_left _ (List.mem_append_left _ (List.mem_append_right _ h)))) (List.mem_of_getElem? (i := 6) (by decide +kernel)) (by decide)
set_option maxRecDepth 20000 in
theorem e_X4_chargeOf_54 : EV wsX4_chargeOf RX4 54 RX4 yX4_machineAt wsX4_machineAt 1 4 0 0 1 21 := ⟨cX4_machineAt, 2, (some (.object "MachineRing$Machine")), _, TX4, 16, gX4_chargeOf_X4_machineAt, rfl, ⟨rfl, by decide +kernel, by decide +kernel, by decide +kernel⟩, ⟨by decide, by decide⟩, rfl, by decide⟩
set_option maxRecDepth 20000 in
theorem e_X4_chargeOf_43 : EV wsX4_chargeOf RX4 43 RX4 yX4_farmerAt wsX4_farmerAt 1 4 0 0 1 21 := ⟨cX4_farmerAt, 2, (some (.object "MachineRing$Farmer")), _, TX4, 16, gX4_chargeOf_X4_farmerAt, rfl, ⟨rfl, by decide +kernel, by decide +kernel, by decide +kernel⟩, ⟨by decide, by decide⟩, rfl, by decide⟩
set_option maxRecDepth 20000 in
theorem e_X4_chargeOf_168 : EN wsX4_chargeOf RX4 168 yX6_seasonOf wsX6_seasonOf 1 0 0 1 21 := ⟨cX6_seasonOf, 1, (some .int), _, gX4_chargeOf_X6_seasonOf_n168, rfl, ⟨by decide +kernel, by decide +kernel, by decide +kernel⟩, ⟨by decide, by decide⟩, fun s h => h.2.2.1, List.mem_of_getElem? (i := 19) (by decide +kernel), List.mem_of_getElem? (i := 20) (by decide +kernel)⟩
set_option maxRecDepth 20000 in
theorem e_X4_chargeOf_171 : EN wsX4_chargeOf RX4 171 yX6_factorOf wsX6_factorOf 1 0 0 1 21 := ⟨cX6_factorOf, 1, (some .float), _, gX4_chargeOf_X6_factorOf_n171, rfl, ⟨by decide +kernel, by decide +kernel, by decide +kernel⟩, ⟨by decide, by decide⟩, fun s h => h.2.2.2.1, List.mem_of_getElem? (i := 22) (by decide +kernel), List.mem_of_getElem? (i := 20) (by decide +kernel)⟩
set_option maxRecDepth 20000 in
theorem e_X4_chargeOf_175 : EV wsX4_chargeOf RX4 175 RX1 yX1_mayDrive wsX1_mayDrive 1 1 0 0 1 21 := ⟨cX1_mayDrive, 2, (some .boolean), _, TX1, 6, gX4_chargeOf_X1_mayDrive, rfl, ⟨rfl, by decide +kernel, by decide +kernel, by decide +kernel⟩, ⟨by decide, by decide⟩, rfl, by decide⟩
set_option maxRecDepth 20000 in
theorem fl_X4_copyFrom_51 : FL wsX4_copyFrom RX4 51 4 3 0 := FL.of RX4 TX4 16 rfl (fun _ h => List.mem_cons_of_mem _ (List.mem_append_left _ (List.mem_append_left _ (List.mem_append_left _ (List.mem_append_right _ h))))) (List.mem_of_getElem? (i := 1) (by decide +kernel)) (by decide)
set_option maxRecDepth 20000 in
theorem fl_X4_copyFrom_61 : FL wsX4_copyFrom RX4 61 4 4 0 := FL.of RX4 TX4 16 rfl (fun _ h => List.mem_cons_of_mem _ (List.mem_append_left _ (List.mem_append_left _ (List.mem_append_left _ (List.mem_append_right _ h))))) (List.mem_of_getElem? (i := 2) (by decide +kernel)) (by decide)
set_option maxRecDepth 20000 in
theorem e_X4_copyFrom_39 : EV wsX4_copyFrom RX4 39 RX4 yX4_copyNumbers wsX4_copyNumbers 1 4 0 0 2 43 := ⟨cX4_copyNumbers, 2, none, _, TX4, 16, gX4_copyFrom_X4_copyNumbers, rfl, ⟨rfl, by decide +kernel, by decide +kernel, by decide +kernel⟩, ⟨by decide, by decide⟩, rfl, by decide⟩
set_option maxRecDepth 20000 in
theorem e_X4_copyFrom_43 : EV wsX4_copyFrom RX4 43 RX4 yX4_farmerAt wsX4_farmerAt 1 4 0 0 2 43 := ⟨cX4_farmerAt, 2, (some (.object "MachineRing$Farmer")), _, TX4, 16, gX4_copyFrom_X4_farmerAt, rfl, ⟨rfl, by decide +kernel, by decide +kernel, by decide +kernel⟩, ⟨by decide, by decide⟩, rfl, by decide⟩
set_option maxRecDepth 20000 in
theorem e_X4_copyFrom_47 : EV wsX4_copyFrom RX4 47 RX1 yX1_copyFrom wsX1_copyFrom 1 1 0 0 2 43 := ⟨cX1_copyFrom, 2, none, _, TX1, 6, gX4_copyFrom_X1_copyFrom, rfl, ⟨rfl, by decide +kernel, by decide +kernel, by decide +kernel⟩, ⟨by decide, by decide⟩, rfl, by decide⟩
set_option maxRecDepth 20000 in
theorem e_X4_copyFrom_54 : EV wsX4_copyFrom RX4 54 RX4 yX4_machineAt wsX4_machineAt 1 4 0 0 2 43 := ⟨cX4_machineAt, 2, (some (.object "MachineRing$Machine")), _, TX4, 16, gX4_copyFrom_X4_machineAt, rfl, ⟨rfl, by decide +kernel, by decide +kernel, by decide +kernel⟩, ⟨by decide, by decide⟩, rfl, by decide⟩
set_option maxRecDepth 20000 in
theorem e_X4_copyFrom_58 : EV wsX4_copyFrom RX4 58 RX3 yX3_copyFrom wsX3_copyFrom 1 3 1 21 2 43 := ⟨cX3_copyFrom, 3, none, _, TX3, 8, gX4_copyFrom_X3_copyFrom, rfl, ⟨rfl, by decide +kernel, by decide +kernel, by decide +kernel⟩, ⟨by decide, by decide⟩, rfl, by decide⟩
set_option maxRecDepth 20000 in
theorem e_X4_copyFrom_64 : EV wsX4_copyFrom RX4 64 RX4 yX4_bookingAt wsX4_bookingAt 1 4 0 0 2 43 := ⟨cX4_bookingAt, 2, (some (.object "MachineRing$Booking")), _, TX4, 16, gX4_copyFrom_X4_bookingAt, rfl, ⟨rfl, by decide +kernel, by decide +kernel, by decide +kernel⟩, ⟨by decide, by decide⟩, rfl, by decide⟩
set_option maxRecDepth 20000 in
theorem e_X4_copyFrom_68 : EV wsX4_copyFrom RX4 68 RX0 yX0_copyFrom wsX0_copyFrom 1 0 0 0 2 43 := ⟨cX0_copyFrom, 2, none, _, TX0, 6, gX4_copyFrom_X0_copyFrom, rfl, ⟨rfl, by decide +kernel, by decide +kernel, by decide +kernel⟩, ⟨by decide, by decide⟩, rfl, by decide⟩
set_option maxRecDepth 20000 in
theorem fl_X4_copyNumbers_51 : FL wsX4_copyNumbers RX4 51 4 3 0 := FL.of RX4 TX4 16 rfl (fun _ h => List.mem_cons_of_mem _ (List.mem_append_right _ h)) (List.mem_of_getElem? (i := 1) (by decide +kernel)) (by decide)
set_option maxRecDepth 20000 in
theorem pf_X4_copyNumbers_51 : PF wsX4_copyNumbers RX4 51 4 3 0 false .int := ⟨RX4, TX4, 16, tyX4, rfl, (fun _ h => List.mem_cons_of_mem _ (List.mem_append_right _ h)), by decide, (List.mem_of_getElem? (i := 1) (by decide +kernel)), by decide, by decide, by decide, tyX4_ok, nmX4, rfl, by decide +kernel, fun h => by cases h⟩
set_option maxRecDepth 20000 in
theorem fl_X4_copyNumbers_61 : FL wsX4_copyNumbers RX4 61 4 4 0 := FL.of RX4 TX4 16 rfl (fun _ h => List.mem_cons_of_mem _ (List.mem_append_right _ h)) (List.mem_of_getElem? (i := 2) (by decide +kernel)) (by decide)
set_option maxRecDepth 20000 in
theorem pf_X4_copyNumbers_61 : PF wsX4_copyNumbers RX4 61 4 4 0 false .int := ⟨RX4, TX4, 16, tyX4, rfl, (fun _ h => List.mem_cons_of_mem _ (List.mem_append_right _ h)), by decide, (List.mem_of_getElem? (i := 2) (by decide +kernel)), by decide, by decide, by decide, tyX4_ok, nmX4, rfl, by decide +kernel, fun h => by cases h⟩
set_option maxRecDepth 20000 in
theorem fl_X4_copyNumbers_71 : FL wsX4_copyNumbers RX4 71 4 5 0 := FL.of RX4 TX4 16 rfl (fun _ h => List.mem_cons_of_mem _ (List.mem_append_right _ h)) (List.mem_of_getElem? (i := 3) (by decide +kernel)) (by decide)
set_option maxRecDepth 20000 in
theorem pf_X4_copyNumbers_71 : PF wsX4_copyNumbers RX4 71 4 5 0 false .int := ⟨RX4, TX4, 16, tyX4, rfl, (fun _ h => List.mem_cons_of_mem _ (List.mem_append_right _ h)), by decide, (List.mem_of_getElem? (i := 3) (by decide +kernel)), by decide, by decide, by decide, tyX4_ok, nmX4, rfl, by decide +kernel, fun h => by cases h⟩
set_option maxRecDepth 20000 in
theorem fl_X4_copyNumbers_74 : FL wsX4_copyNumbers RX4 74 4 6 0 := FL.of RX4 TX4 16 rfl (fun _ h => List.mem_cons_of_mem _ (List.mem_append_right _ h)) (List.mem_of_getElem? (i := 4) (by decide +kernel)) (by decide)
set_option maxRecDepth 20000 in
theorem pf_X4_copyNumbers_74 : PF wsX4_copyNumbers RX4 74 4 6 0 false .int := ⟨RX4, TX4, 16, tyX4, rfl, (fun _ h => List.mem_cons_of_mem _ (List.mem_append_right _ h)), by decide, (List.mem_of_getElem? (i := 4) (by decide +kernel)), by decide, by decide, by decide, tyX4_ok, nmX4, rfl, by decide +kernel, fun h => by cases h⟩
set_option maxRecDepth 20000 in
theorem fl_X4_copyNumbers_77 : FL wsX4_copyNumbers RX4 77 4 7 0 := FL.of RX4 TX4 16 rfl (fun _ h => List.mem_cons_of_mem _ (List.mem_append_right _ h)) (List.mem_of_getElem? (i := 5) (by decide +kernel)) (by decide)
set_option maxRecDepth 20000 in
theorem pf_X4_copyNumbers_77 : PF wsX4_copyNumbers RX4 77 4 7 0 false .int := ⟨RX4, TX4, 16, tyX4, rfl, (fun _ h => List.mem_cons_of_mem _ (List.mem_append_right _ h)), by decide, (List.mem_of_getElem? (i := 5) (by decide +kernel)), by decide, by decide, by decide, tyX4_ok, nmX4, rfl, by decide +kernel, fun h => by cases h⟩
set_option maxRecDepth 20000 in
theorem fl_X4_copyNumbers_80 : FL wsX4_copyNumbers RX4 80 4 8 0 := FL.of RX4 TX4 16 rfl (fun _ h => List.mem_cons_of_mem _ (List.mem_append_right _ h)) (List.mem_of_getElem? (i := 6) (by decide +kernel)) (by decide)
set_option maxRecDepth 20000 in
theorem pf_X4_copyNumbers_80 : PF wsX4_copyNumbers RX4 80 4 8 0 false .int := ⟨RX4, TX4, 16, tyX4, rfl, (fun _ h => List.mem_cons_of_mem _ (List.mem_append_right _ h)), by decide, (List.mem_of_getElem? (i := 6) (by decide +kernel)), by decide, by decide, by decide, tyX4_ok, nmX4, rfl, by decide +kernel, fun h => by cases h⟩
set_option maxRecDepth 20000 in
theorem fl_X4_copyNumbers_83 : FL wsX4_copyNumbers RX4 83 4 9 0 := FL.of RX4 TX4 16 rfl (fun _ h => List.mem_cons_of_mem _ (List.mem_append_right _ h)) (List.mem_of_getElem? (i := 7) (by decide +kernel)) (by decide)
set_option maxRecDepth 20000 in
theorem pf_X4_copyNumbers_83 : PF wsX4_copyNumbers RX4 83 4 9 0 false .int := ⟨RX4, TX4, 16, tyX4, rfl, (fun _ h => List.mem_cons_of_mem _ (List.mem_append_right _ h)), by decide, (List.mem_of_getElem? (i := 7) (by decide +kernel)), by decide, by decide, by decide, tyX4_ok, nmX4, rfl, by decide +kernel, fun h => by cases h⟩
set_option maxRecDepth 20000 in
theorem fl_X4_copyNumbers_32 : FL wsX4_copyNumbers RX4 32 4 10 0 := FL.of RX4 TX4 16 rfl (fun _ h => List.mem_cons_of_mem _ (List.mem_append_right _ h)) (List.mem_of_getElem? (i := 8) (by decide +kernel)) (by decide)
set_option maxRecDepth 20000 in
theorem pf_X4_copyNumbers_32 : PF wsX4_copyNumbers RX4 32 4 10 0 false .int := ⟨RX4, TX4, 16, tyX4, rfl, (fun _ h => List.mem_cons_of_mem _ (List.mem_append_right _ h)), by decide, (List.mem_of_getElem? (i := 8) (by decide +kernel)), by decide, by decide, by decide, tyX4_ok, nmX4, rfl, by decide +kernel, fun h => by cases h⟩
set_option maxRecDepth 20000 in
theorem fl_X4_copyNumbers_36 : FL wsX4_copyNumbers RX4 36 4 11 0 := FL.of RX4 TX4 16 rfl (fun _ h => List.mem_cons_of_mem _ (List.mem_append_right _ h)) (List.mem_of_getElem? (i := 9) (by decide +kernel)) (by decide)
set_option maxRecDepth 20000 in
theorem pf_X4_copyNumbers_36 : PF wsX4_copyNumbers RX4 36 4 11 0 false .int := ⟨RX4, TX4, 16, tyX4, rfl, (fun _ h => List.mem_cons_of_mem _ (List.mem_append_right _ h)), by decide, (List.mem_of_getElem? (i := 9) (by decide +kernel)), by decide, by decide, by decide, tyX4_ok, nmX4, rfl, by decide +kernel, fun h => by cases h⟩
set_option maxRecDepth 20000 in
theorem fl_X4_copyNumbers_86 : FL wsX4_copyNumbers RX4 86 4 12 0 := FL.of RX4 TX4 16 rfl (fun _ h => List.mem_cons_of_mem _ (List.mem_append_right _ h)) (List.mem_of_getElem? (i := 10) (by decide +kernel)) (by decide)
set_option maxRecDepth 20000 in
theorem pf_X4_copyNumbers_86 : PF wsX4_copyNumbers RX4 86 4 12 0 false .int := ⟨RX4, TX4, 16, tyX4, rfl, (fun _ h => List.mem_cons_of_mem _ (List.mem_append_right _ h)), by decide, (List.mem_of_getElem? (i := 10) (by decide +kernel)), by decide, by decide, by decide, tyX4_ok, nmX4, rfl, by decide +kernel, fun h => by cases h⟩
set_option maxRecDepth 20000 in
theorem fl_X4_copyNumbers_89 : FL wsX4_copyNumbers RX4 89 4 13 0 := FL.of RX4 TX4 16 rfl (fun _ h => List.mem_cons_of_mem _ (List.mem_append_right _ h)) (List.mem_of_getElem? (i := 11) (by decide +kernel)) (by decide)
set_option maxRecDepth 20000 in
theorem pf_X4_copyNumbers_89 : PF wsX4_copyNumbers RX4 89 4 13 0 false .int := ⟨RX4, TX4, 16, tyX4, rfl, (fun _ h => List.mem_cons_of_mem _ (List.mem_append_right _ h)), by decide, (List.mem_of_getElem? (i := 11) (by decide +kernel)), by decide, by decide, by decide, tyX4_ok, nmX4, rfl, by decide +kernel, fun h => by cases h⟩
set_option maxRecDepth 20000 in
theorem fl_X4_copyNumbers_92 : FL wsX4_copyNumbers RX4 92 4 14 0 := FL.of RX4 TX4 16 rfl (fun _ h => List.mem_cons_of_mem _ (List.mem_append_right _ h)) (List.mem_of_getElem? (i := 12) (by decide +kernel)) (by decide)
set_option maxRecDepth 20000 in
theorem pf_X4_copyNumbers_92 : PF wsX4_copyNumbers RX4 92 4 14 0 false .int := ⟨RX4, TX4, 16, tyX4, rfl, (fun _ h => List.mem_cons_of_mem _ (List.mem_append_right _ h)), by decide, (List.mem_of_getElem? (i := 12) (by decide +kernel)), by decide, by decide, by decide, tyX4_ok, nmX4, rfl, by decide +kernel, fun h => by cases h⟩
set_option maxRecDepth 20000 in
theorem fl_X4_copyNumbers_95 : FL wsX4_copyNumbers RX4 95 4 15 0 := FL.of RX4 TX4 16 rfl (fun _ h => List.mem_cons_of_mem _ (List.mem_append_right _ h)) (List.mem_of_getElem? (i := 13) (by decide +kernel)) (by decide)
set_option maxRecDepth 20000 in
theorem pf_X4_copyNumbers_95 : PF wsX4_copyNumbers RX4 95 4 15 0 false .int := ⟨RX4, TX4, 16, tyX4, rfl, (fun _ h => List.mem_cons_of_mem _ (List.mem_append_right _ h)), by decide, (List.mem_of_getElem? (i := 13) (by decide +kernel)), by decide, by decide, by decide, tyX4_ok, nmX4, rfl, by decide +kernel, fun h => by cases h⟩
set_option maxRecDepth 20000 in
theorem fl_X4_farmerAt_11 : FL wsX4_farmerAt RX4 11 4 0 1 := FL.of RX4 TX4 16 rfl (fun _ h => List.mem_cons_of_mem _ (List.mem_append_right _ h)) (List.mem_of_getElem? (i := 1) (by decide +kernel)) (by decide)
set_option maxRecDepth 20000 in
theorem fl_X4_hoursOn_61 : FL wsX4_hoursOn RX4 61 4 4 0 := FL.of RX4 TX4 16 rfl (fun _ h => List.mem_cons_of_mem _ (List.mem_append_left _ (List.mem_append_right _ h))) (List.mem_of_getElem? (i := 1) (by decide +kernel)) (by decide)
set_option maxRecDepth 20000 in
theorem fl_X4_hoursOn_152 : FL wsX4_hoursOn RX4 152 0 4 0 := FL.of RX0 TX0 6 rfl (fun _ h => List.mem_cons_of_mem _ (List.mem_append_right _ h)) (List.mem_of_getElem? (i := 2) (by decide +kernel)) (by decide)
set_option maxRecDepth 20000 in
theorem e_X4_hoursOn_64 : EV wsX4_hoursOn RX4 64 RX4 yX4_bookingAt wsX4_bookingAt 1 4 0 0 1 22 := ⟨cX4_bookingAt, 2, (some (.object "MachineRing$Booking")), _, TX4, 16, gX4_hoursOn_X4_bookingAt, rfl, ⟨rfl, by decide +kernel, by decide +kernel, by decide +kernel⟩, ⟨by decide, by decide⟩, rfl, by decide⟩
set_option maxRecDepth 20000 in
theorem e_X4_hoursOn_158 : EV wsX4_hoursOn RX4 158 RX0 yX0_isFor wsX0_isFor 2 0 0 0 1 22 := ⟨cX0_isFor, 3, (some .boolean), _, TX0, 6, gX4_hoursOn_X0_isFor, rfl, ⟨rfl, by decide +kernel, by decide +kernel, by decide +kernel⟩, ⟨by decide, by decide⟩, rfl, by decide⟩
set_option maxRecDepth 20000 in
theorem pf_X4_init_11 : PF wsX4_init RX4 11 4 0 1 true (.array (.object "MachineRing$Farmer")) := ⟨RX4, TX4, 16, tyX4, rfl, (fun _ h => List.mem_cons_of_mem _ (List.mem_append_left _ (List.mem_append_left _ (List.mem_append_left _ (List.mem_append_right _ h))))), by decide, (List.mem_of_getElem? (i := 5) (by decide +kernel)), by decide, by decide, by decide, tyX4_ok, nmX4, rfl, by decide +kernel, fun _ => rfl⟩
set_option maxRecDepth 20000 in
theorem fl_X4_init_11 : FL wsX4_init RX4 11 4 0 1 := FL.of RX4 TX4 16 rfl (fun _ h => List.mem_cons_of_mem _ (List.mem_append_left _ (List.mem_append_left _ (List.mem_append_left _ (List.mem_append_right _ h))))) (List.mem_of_getElem? (i := 5) (by decide +kernel)) (by decide)
set_option maxRecDepth 20000 in
theorem pf_X4_init_20 : PF wsX4_init RX4 20 4 1 1 true (.array (.object "MachineRing$Machine")) := ⟨RX4, TX4, 16, tyX4, rfl, (fun _ h => List.mem_cons_of_mem _ (List.mem_append_left _ (List.mem_append_left _ (List.mem_append_left _ (List.mem_append_right _ h))))), by decide, (List.mem_of_getElem? (i := 9) (by decide +kernel)), by decide, by decide, by decide, tyX4_ok, nmX4, rfl, by decide +kernel, fun _ => rfl⟩
set_option maxRecDepth 20000 in
theorem fl_X4_init_20 : FL wsX4_init RX4 20 4 1 1 := FL.of RX4 TX4 16 rfl (fun _ h => List.mem_cons_of_mem _ (List.mem_append_left _ (List.mem_append_left _ (List.mem_append_left _ (List.mem_append_right _ h))))) (List.mem_of_getElem? (i := 9) (by decide +kernel)) (by decide)
set_option maxRecDepth 20000 in
theorem pf_X4_init_27 : PF wsX4_init RX4 27 4 2 1 true (.array (.object "MachineRing$Booking")) := ⟨RX4, TX4, 16, tyX4, rfl, (fun _ h => List.mem_cons_of_mem _ (List.mem_append_left _ (List.mem_append_left _ (List.mem_append_left _ (List.mem_append_right _ h))))), by decide, (List.mem_of_getElem? (i := 13) (by decide +kernel)), by decide, by decide, by decide, tyX4_ok, nmX4, rfl, by decide +kernel, fun _ => rfl⟩
set_option maxRecDepth 20000 in
theorem fl_X4_init_27 : FL wsX4_init RX4 27 4 2 1 := FL.of RX4 TX4 16 rfl (fun _ h => List.mem_cons_of_mem _ (List.mem_append_left _ (List.mem_append_left _ (List.mem_append_left _ (List.mem_append_right _ h))))) (List.mem_of_getElem? (i := 13) (by decide +kernel)) (by decide)
set_option maxRecDepth 20000 in
theorem pf_X4_init_32 : PF wsX4_init RX4 32 4 10 0 false .int := ⟨RX4, TX4, 16, tyX4, rfl, (fun _ h => List.mem_cons_of_mem _ (List.mem_append_left _ (List.mem_append_left _ (List.mem_append_left _ (List.mem_append_right _ h))))), by decide, (List.mem_of_getElem? (i := 16) (by decide +kernel)), by decide, by decide, by decide, tyX4_ok, nmX4, rfl, by decide +kernel, fun h => by cases h⟩
set_option maxRecDepth 20000 in
theorem pf_X4_init_36 : PF wsX4_init RX4 36 4 11 0 false .int := ⟨RX4, TX4, 16, tyX4, rfl, (fun _ h => List.mem_cons_of_mem _ (List.mem_append_left _ (List.mem_append_left _ (List.mem_append_left _ (List.mem_append_right _ h))))), by decide, (List.mem_of_getElem? (i := 17) (by decide +kernel)), by decide, by decide, by decide, tyX4_ok, nmX4, rfl, by decide +kernel, fun h => by cases h⟩
set_option maxRecDepth 20000 in
theorem fl_X4_isWet_86 : FL wsX4_isWet RX4 86 4 12 0 := FL.of RX4 TX4 16 rfl (fun _ h => List.mem_cons_of_mem _ (List.mem_append_right _ h)) (List.mem_of_getElem? (i := 1) (by decide +kernel)) (by decide)
set_option maxRecDepth 20000 in
theorem fl_X4_machineAt_51 : FL wsX4_machineAt RX4 51 4 3 0 := FL.of RX4 TX4 16 rfl (fun _ h => List.mem_cons_of_mem _ (List.mem_append_right _ h)) (List.mem_of_getElem? (i := 1) (by decide +kernel)) (by decide)
set_option maxRecDepth 20000 in
theorem fl_X4_machineAt_20 : FL wsX4_machineAt RX4 20 4 1 1 := FL.of RX4 TX4 16 rfl (fun _ h => List.mem_cons_of_mem _ (List.mem_append_right _ h)) (List.mem_of_getElem? (i := 2) (by decide +kernel)) (by decide)
set_option maxRecDepth 20000 in
theorem fl_X4_machinesIn_51 : FL wsX4_machinesIn RX4 51 4 3 0 := FL.of RX4 TX4 16 rfl (fun _ h => List.mem_cons_of_mem _ (List.mem_append_left _ (List.mem_append_right _ h))) (List.mem_of_getElem? (i := 1) (by decide +kernel)) (by decide)
set_option maxRecDepth 20000 in
theorem fl_X4_machinesIn_101 : FL wsX4_machinesIn RX4 101 3 0 0 := FL.of RX3 TX3 8 rfl (fun _ h => List.mem_cons_of_mem _ (List.mem_append_right _ h)) (List.mem_of_getElem? (i := 2) (by decide +kernel)) (by decide)
set_option maxRecDepth 20000 in
theorem e_X4_machinesIn_54 : EV wsX4_machinesIn RX4 54 RX4 yX4_machineAt wsX4_machineAt 1 4 0 0 1 21 := ⟨cX4_machineAt, 2, (some (.object "MachineRing$Machine")), _, TX4, 16, gX4_machinesIn_X4_machineAt, rfl, ⟨rfl, by decide +kernel, by decide +kernel, by decide +kernel⟩, ⟨by decide, by decide⟩, rfl, by decide⟩
set_option maxRecDepth 20000 in
theorem fl_X4_mendAndShare_36 : FL wsX4_mendAndShare RX4 36 4 11 0 := FL.of RX4 TX4 16 rfl (fun _ h => List.mem_cons_of_mem _ (List.mem_append_left _ (List.mem_append_left _ (List.mem_append_right _ h)))) (List.mem_of_getElem? (i := 1) (by decide +kernel)) (by decide)
set_option maxRecDepth 20000 in
theorem fl_X4_mendAndShare_83 : FL wsX4_mendAndShare RX4 83 4 9 0 := FL.of RX4 TX4 16 rfl (fun _ h => List.mem_cons_of_mem _ (List.mem_append_left _ (List.mem_append_left _ (List.mem_append_right _ h)))) (List.mem_of_getElem? (i := 2) (by decide +kernel)) (by decide)
set_option maxRecDepth 20000 in
theorem pf_X4_mendAndShare_83 : PF wsX4_mendAndShare RX4 83 4 9 0 false .int := ⟨RX4, TX4, 16, tyX4, rfl, (fun _ h => List.mem_cons_of_mem _ (List.mem_append_left _ (List.mem_append_left _ (List.mem_append_right _ h)))), by decide, (List.mem_of_getElem? (i := 2) (by decide +kernel)), by decide, by decide, by decide, tyX4_ok, nmX4, rfl, by decide +kernel, fun h => by cases h⟩
set_option maxRecDepth 20000 in
theorem fl_X4_mendAndShare_89 : FL wsX4_mendAndShare RX4 89 4 13 0 := FL.of RX4 TX4 16 rfl (fun _ h => List.mem_cons_of_mem _ (List.mem_append_left _ (List.mem_append_left _ (List.mem_append_right _ h)))) (List.mem_of_getElem? (i := 3) (by decide +kernel)) (by decide)
set_option maxRecDepth 20000 in
theorem pf_X4_mendAndShare_89 : PF wsX4_mendAndShare RX4 89 4 13 0 false .int := ⟨RX4, TX4, 16, tyX4, rfl, (fun _ h => List.mem_cons_of_mem _ (List.mem_append_left _ (List.mem_append_left _ (List.mem_append_right _ h)))), by decide, (List.mem_of_getElem? (i := 3) (by decide +kernel)), by decide, by decide, by decide, tyX4_ok, nmX4, rfl, by decide +kernel, fun h => by cases h⟩
set_option maxRecDepth 20000 in
theorem pf_X4_mendAndShare_127 : PF wsX4_mendAndShare RX4 127 3 4 3 false .boolean := ⟨RX3, TX3, 8, tyX3, rfl, (fun _ h => List.mem_cons_of_mem _ (List.mem_append_left _ (List.mem_append_right _ h))), by decide, (List.mem_of_getElem? (i := 4) (by decide +kernel)), by decide, by decide, by decide, tyX3_ok, nmX3, rfl, by decide +kernel, fun h => by cases h⟩
set_option maxRecDepth 20000 in
theorem fl_X4_mendAndShare_131 : FL wsX4_mendAndShare RX4 131 3 6 0 := FL.of RX3 TX3 8 rfl (fun _ h => List.mem_cons_of_mem _ (List.mem_append_left _ (List.mem_append_right _ h))) (List.mem_of_getElem? (i := 5) (by decide +kernel)) (by decide)
set_option maxRecDepth 20000 in
theorem pf_X4_mendAndShare_131 : PF wsX4_mendAndShare RX4 131 3 6 0 false .int := ⟨RX3, TX3, 8, tyX3, rfl, (fun _ h => List.mem_cons_of_mem _ (List.mem_append_left _ (List.mem_append_right _ h))), by decide, (List.mem_of_getElem? (i := 5) (by decide +kernel)), by decide, by decide, by decide, tyX3_ok, nmX3, rfl, by decide +kernel, fun h => by cases h⟩
set_option maxRecDepth 20000 in
theorem e_X4_mendAndShare_113 : EV wsX4_mendAndShare RX4 113 RX3 yX3_hoursSinceMended wsX3_hoursSinceMended 0 3 0 0 1 22 := ⟨cX3_hoursSinceMended, 3, (some .int), _, TX3, 8, gX4_mendAndShare_X3_hoursSinceMended, rfl, ⟨rfl, by decide +kernel, by decide +kernel, by decide +kernel⟩, ⟨by decide, by decide⟩, rfl, by decide⟩
set_option maxRecDepth 20000 in
theorem e_X4_mendAndShare_43 : EV wsX4_mendAndShare RX4 43 RX4 yX4_farmerAt wsX4_farmerAt 1 4 0 0 1 22 := ⟨cX4_farmerAt, 2, (some (.object "MachineRing$Farmer")), _, TX4, 16, gX4_mendAndShare_X4_farmerAt, rfl, ⟨rfl, by decide +kernel, by decide +kernel, by decide +kernel⟩, ⟨by decide, by decide⟩, rfl, by decide⟩
set_option maxRecDepth 20000 in
theorem e_X4_mendAndShare_117 : EV wsX4_mendAndShare RX4 117 RX3 yX3_hoursOf wsX3_hoursOf 1 3 0 0 1 22 := ⟨cX3_hoursOf, 2, (some .int), _, TX3, 8, gX4_mendAndShare_X3_hoursOf, rfl, ⟨rfl, by decide +kernel, by decide +kernel, by decide +kernel⟩, ⟨by decide, by decide⟩, rfl, by decide⟩
set_option maxRecDepth 20000 in
theorem e_X4_mendAndShare_120 : EV wsX4_mendAndShare RX4 120 RX1 yX1_bearMending wsX1_bearMending 1 1 0 0 1 22 := ⟨cX1_bearMending, 2, none, _, TX1, 6, gX4_mendAndShare_X1_bearMending, rfl, ⟨rfl, by decide +kernel, by decide +kernel, by decide +kernel⟩, ⟨by decide, by decide⟩, rfl, by decide⟩
set_option maxRecDepth 20000 in
theorem e_X4_mendAndShare_124 : EV wsX4_mendAndShare RX4 124 RX3 yX3_forgetHours wsX3_forgetHours 0 3 0 0 1 22 := ⟨cX3_forgetHours, 2, none, _, TX3, 8, gX4_mendAndShare_X3_forgetHours, rfl, ⟨rfl, by decide +kernel, by decide +kernel, by decide +kernel⟩, ⟨by decide, by decide⟩, rfl, by decide⟩
set_option maxRecDepth 20000 in
theorem fl_X4_passDay_71 : FL wsX4_passDay RX4 71 4 5 0 := FL.of RX4 TX4 16 rfl (fun _ h => List.mem_cons_of_mem _ (List.mem_append_left _ (List.mem_append_left _ (List.mem_append_left _ (List.mem_append_right _ h))))) (List.mem_of_getElem? (i := 1) (by decide +kernel)) (by decide)
set_option maxRecDepth 20000 in
theorem pf_X4_passDay_71 : PF wsX4_passDay RX4 71 4 5 0 false .int := ⟨RX4, TX4, 16, tyX4, rfl, (fun _ h => List.mem_cons_of_mem _ (List.mem_append_left _ (List.mem_append_left _ (List.mem_append_left _ (List.mem_append_right _ h))))), by decide, (List.mem_of_getElem? (i := 1) (by decide +kernel)), by decide, by decide, by decide, tyX4_ok, nmX4, rfl, by decide +kernel, fun h => by cases h⟩
set_option maxRecDepth 20000 in
theorem fl_X4_passDay_61 : FL wsX4_passDay RX4 61 4 4 0 := FL.of RX4 TX4 16 rfl (fun _ h => List.mem_cons_of_mem _ (List.mem_append_left _ (List.mem_append_left _ (List.mem_append_left _ (List.mem_append_right _ h))))) (List.mem_of_getElem? (i := 2) (by decide +kernel)) (by decide)
set_option maxRecDepth 20000 in
theorem e_X4_passDay_179 : EV wsX4_passDay RX4 179 RX4 yX4_settle wsX4_settle 1 4 3 69 4 93 := ⟨cX4_settle, 5, (some .boolean), _, TX4, 16, gX4_passDay_X4_settle, rfl, ⟨rfl, by decide +kernel, by decide +kernel, by decide +kernel⟩, ⟨by decide, by decide⟩, rfl, by decide⟩
set_option maxRecDepth 20000 in
theorem fl_X4_placeOf_61 : FL wsX4_placeOf RX4 61 4 4 0 := FL.of RX4 TX4 16 rfl (fun _ h => List.mem_cons_of_mem _ (List.mem_append_left _ (List.mem_append_right _ h))) (List.mem_of_getElem? (i := 1) (by decide +kernel)) (by decide)
set_option maxRecDepth 20000 in
theorem fl_X4_placeOf_98 : FL wsX4_placeOf RX4 98 0 0 0 := FL.of RX0 TX0 6 rfl (fun _ h => List.mem_cons_of_mem _ (List.mem_append_right _ h)) (List.mem_of_getElem? (i := 2) (by decide +kernel)) (by decide)
set_option maxRecDepth 20000 in
theorem e_X4_placeOf_64 : EV wsX4_placeOf RX4 64 RX4 yX4_bookingAt wsX4_bookingAt 1 4 0 0 1 21 := ⟨cX4_bookingAt, 2, (some (.object "MachineRing$Booking")), _, TX4, 16, gX4_placeOf_X4_bookingAt, rfl, ⟨rfl, by decide +kernel, by decide +kernel, by decide +kernel⟩, ⟨by decide, by decide⟩, rfl, by decide⟩
set_option maxRecDepth 20000 in
theorem fl_X4_putOff_155 : FL wsX4_putOff RX4 155 0 5 0 := FL.of RX0 TX0 6 rfl (fun _ h => List.mem_cons_of_mem _ (List.mem_append_left _ (List.mem_append_right _ h))) (List.mem_of_getElem? (i := 1) (by decide +kernel)) (by decide)
set_option maxRecDepth 20000 in
theorem pf_X4_putOff_155 : PF wsX4_putOff RX4 155 0 5 0 false .int := ⟨RX0, TX0, 6, tyX0, rfl, (fun _ h => List.mem_cons_of_mem _ (List.mem_append_left _ (List.mem_append_right _ h))), by decide, (List.mem_of_getElem? (i := 1) (by decide +kernel)), by decide, by decide, by decide, tyX0_ok, nmX0, rfl, by decide +kernel, fun h => by cases h⟩
set_option maxRecDepth 20000 in
theorem fl_X4_putOff_80 : FL wsX4_putOff RX4 80 4 8 0 := FL.of RX4 TX4 16 rfl (fun _ h => List.mem_cons_of_mem _ (List.mem_append_right _ h)) (List.mem_of_getElem? (i := 2) (by decide +kernel)) (by decide)
set_option maxRecDepth 20000 in
theorem pf_X4_putOff_80 : PF wsX4_putOff RX4 80 4 8 0 false .int := ⟨RX4, TX4, 16, tyX4, rfl, (fun _ h => List.mem_cons_of_mem _ (List.mem_append_right _ h)), by decide, (List.mem_of_getElem? (i := 2) (by decide +kernel)), by decide, by decide, by decide, tyX4_ok, nmX4, rfl, by decide +kernel, fun h => by cases h⟩
set_option maxRecDepth 20000 in
theorem fl_X4_putOff_148 : FL wsX4_putOff RX4 148 0 2 0 := FL.of RX0 TX0 6 rfl (fun _ h => List.mem_cons_of_mem _ (List.mem_append_left _ (List.mem_append_right _ h))) (List.mem_of_getElem? (i := 3) (by decide +kernel)) (by decide)
set_option maxRecDepth 20000 in
theorem fl_X4_putOff_71 : FL wsX4_putOff RX4 71 4 5 0 := FL.of RX4 TX4 16 rfl (fun _ h => List.mem_cons_of_mem _ (List.mem_append_right _ h)) (List.mem_of_getElem? (i := 4) (by decide +kernel)) (by decide)
set_option maxRecDepth 20000 in
theorem fl_X4_putOff_152 : FL wsX4_putOff RX4 152 0 4 0 := FL.of RX0 TX0 6 rfl (fun _ h => List.mem_cons_of_mem _ (List.mem_append_left _ (List.mem_append_right _ h))) (List.mem_of_getElem? (i := 5) (by decide +kernel)) (by decide)
set_option maxRecDepth 20000 in
theorem pf_X4_putOff_151 : PF wsX4_putOff RX4 151 0 3 0 false .int := ⟨RX0, TX0, 6, tyX0, rfl, (fun _ h => List.mem_cons_of_mem _ (List.mem_append_left _ (List.mem_append_right _ h))), by decide, (List.mem_of_getElem? (i := 6) (by decide +kernel)), by decide, by decide, by decide, tyX0_ok, nmX0, rfl, by decide +kernel, fun h => by cases h⟩
set_option maxRecDepth 20000 in
theorem e_X4_putOff_140 : EV wsX4_putOff RX4 140 RX4 yX4_hoursOn wsX4_hoursOn 2 4 1 22 2 47 := ⟨cX4_hoursOn, 6, (some .int), _, TX4, 16, gX4_putOff_X4_hoursOn, rfl, ⟨rfl, by decide +kernel, by decide +kernel, by decide +kernel⟩, ⟨by decide, by decide⟩, rfl, by decide⟩
set_option maxRecDepth 20000 in
theorem fl_X4_removeBookingAt_61 : FL wsX4_removeBookingAt RX4 61 4 4 0 := FL.of RX4 TX4 16 rfl (fun _ h => List.mem_cons_of_mem _ (List.mem_append_right _ h)) (List.mem_of_getElem? (i := 1) (by decide +kernel)) (by decide)
set_option maxRecDepth 20000 in
theorem fl_X4_removeBookingAt_27 : FL wsX4_removeBookingAt RX4 27 4 2 1 := FL.of RX4 TX4 16 rfl (fun _ h => List.mem_cons_of_mem _ (List.mem_append_right _ h)) (List.mem_of_getElem? (i := 2) (by decide +kernel)) (by decide)
set_option maxRecDepth 20000 in
theorem pf_X4_removeBookingAt_61 : PF wsX4_removeBookingAt RX4 61 4 4 0 false .int := ⟨RX4, TX4, 16, tyX4, rfl, (fun _ h => List.mem_cons_of_mem _ (List.mem_append_right _ h)), by decide, (List.mem_of_getElem? (i := 1) (by decide +kernel)), by decide, by decide, by decide, tyX4_ok, nmX4, rfl, by decide +kernel, fun h => by cases h⟩
set_option maxRecDepth 20000 in
theorem fl_X4_settle_151 : FL wsX4_settle RX4 151 0 3 0 := FL.of RX0 TX0 6 rfl (fun _ h => List.mem_cons_of_mem _ (List.mem_append_left _ (List.mem_append_left _ (List.mem_append_left _ (List.mem_append_right _ h))))) (List.mem_of_getElem? (i := 1) (by decide +kernel)) (by decide)
set_option maxRecDepth 20000 in
theorem fl_X4_settle_71 : FL wsX4_settle RX4 71 4 5 0 := FL.of RX4 TX4 16 rfl (fun _ h => List.mem_cons_of_mem _ (List.mem_append_left _ (List.mem_append_left _ (List.mem_append_right _ h)))) (List.mem_of_getElem? (i := 2) (by decide +kernel)) (by decide)
set_option maxRecDepth 20000 in
theorem fl_X4_settle_148 : FL wsX4_settle RX4 148 0 2 0 := FL.of RX0 TX0 6 rfl (fun _ h => List.mem_cons_of_mem _ (List.mem_append_left _ (List.mem_append_left _ (List.mem_append_left _ (List.mem_append_right _ h))))) (List.mem_of_getElem? (i := 3) (by decide +kernel)) (by decide)
set_option maxRecDepth 20000 in
theorem fl_X4_settle_145 : FL wsX4_settle RX4 145 0 1 0 := FL.of RX0 TX0 6 rfl (fun _ h => List.mem_cons_of_mem _ (List.mem_append_left _ (List.mem_append_left _ (List.mem_append_left _ (List.mem_append_right _ h))))) (List.mem_of_getElem? (i := 4) (by decide +kernel)) (by decide)
set_option maxRecDepth 20000 in
theorem fl_X4_settle_152 : FL wsX4_settle RX4 152 0 4 0 := FL.of RX0 TX0 6 rfl (fun _ h => List.mem_cons_of_mem _ (List.mem_append_left _ (List.mem_append_left _ (List.mem_append_left _ (List.mem_append_right _ h))))) (List.mem_of_getElem? (i := 5) (by decide +kernel)) (by decide)
set_option maxRecDepth 20000 in
theorem fl_X4_settle_196 : FL wsX4_settle RX4 196 1 2 0 := FL.of RX1 TX1 6 rfl (fun _ h => List.mem_cons_of_mem _ (List.mem_append_left _ (List.mem_append_right _ h))) (List.mem_of_getElem? (i := 6) (by decide +kernel)) (by decide)
set_option maxRecDepth 20000 in
theorem pf_X4_settle_196 : PF wsX4_settle RX4 196 1 2 0 false .int := ⟨RX1, TX1, 6, tyX1, rfl, (fun _ h => List.mem_cons_of_mem _ (List.mem_append_left _ (List.mem_append_right _ h))), by decide, (List.mem_of_getElem? (i := 6) (by decide +kernel)), by decide, by decide, by decide, tyX1_ok, nmX1, rfl, by decide +kernel, fun h => by cases h⟩
set_option maxRecDepth 20000 in
theorem fl_X4_settle_32 : FL wsX4_settle RX4 32 4 10 0 := FL.of RX4 TX4 16 rfl (fun _ h => List.mem_cons_of_mem _ (List.mem_append_left _ (List.mem_append_left _ (List.mem_append_right _ h)))) (List.mem_of_getElem? (i := 7) (by decide +kernel)) (by decide)
set_option maxRecDepth 20000 in
theorem fl_X4_settle_77 : FL wsX4_settle RX4 77 4 7 0 := FL.of RX4 TX4 16 rfl (fun _ h => List.mem_cons_of_mem _ (List.mem_append_left _ (List.mem_append_left _ (List.mem_append_right _ h)))) (List.mem_of_getElem? (i := 8) (by decide +kernel)) (by decide)
set_option maxRecDepth 20000 in
theorem pf_X4_settle_77 : PF wsX4_settle RX4 77 4 7 0 false .int := ⟨RX4, TX4, 16, tyX4, rfl, (fun _ h => List.mem_cons_of_mem _ (List.mem_append_left _ (List.mem_append_left _ (List.mem_append_right _ h)))), by decide, (List.mem_of_getElem? (i := 8) (by decide +kernel)), by decide, by decide, by decide, tyX4_ok, nmX4, rfl, by decide +kernel, fun h => by cases h⟩
set_option maxRecDepth 20000 in
theorem e_X4_settle_64 : EV wsX4_settle RX4 64 RX4 yX4_bookingAt wsX4_bookingAt 1 4 0 0 3 69 := ⟨cX4_bookingAt, 2, (some (.object "MachineRing$Booking")), _, TX4, 16, gX4_settle_X4_bookingAt, rfl, ⟨rfl, by decide +kernel, by decide +kernel, by decide +kernel⟩, ⟨by decide, by decide⟩, rfl, by decide⟩
set_option maxRecDepth 20000 in
theorem e_X4_settle_54 : EV wsX4_settle RX4 54 RX4 yX4_machineAt wsX4_machineAt 1 4 0 0 3 69 := ⟨cX4_machineAt, 2, (some (.object "MachineRing$Machine")), _, TX4, 16, gX4_settle_X4_machineAt, rfl, ⟨rfl, by decide +kernel, by decide +kernel, by decide +kernel⟩, ⟨by decide, by decide⟩, rfl, by decide⟩
set_option maxRecDepth 20000 in
theorem e_X4_settle_43 : EV wsX4_settle RX4 43 RX4 yX4_farmerAt wsX4_farmerAt 1 4 0 0 3 69 := ⟨cX4_farmerAt, 2, (some (.object "MachineRing$Farmer")), _, TX4, 16, gX4_settle_X4_farmerAt, rfl, ⟨rfl, by decide +kernel, by decide +kernel, by decide +kernel⟩, ⟨by decide, by decide⟩, rfl, by decide⟩
set_option maxRecDepth 20000 in
theorem e_X4_settle_182 : EV wsX4_settle RX4 182 RX4 yX4_canWork wsX4_canWork 2 4 2 41 3 69 := ⟨cX4_canWork, 4, (some .boolean), _, TX4, 16, gX4_settle_X4_canWork, rfl, ⟨rfl, by decide +kernel, by decide +kernel, by decide +kernel⟩, ⟨by decide, by decide⟩, rfl, by decide⟩
set_option maxRecDepth 20000 in
theorem e_X4_settle_186 : EV wsX4_settle RX4 186 RX4 yX4_putOff wsX4_putOff 1 4 2 47 3 69 := ⟨cX4_putOff, 3, none, _, TX4, 16, gX4_settle_X4_putOff, rfl, ⟨rfl, by decide +kernel, by decide +kernel, by decide +kernel⟩, ⟨by decide, by decide⟩, rfl, by decide⟩
set_option maxRecDepth 20000 in
theorem e_X4_settle_189 : EV wsX4_settle RX4 189 RX4 yX4_chargeOf wsX4_chargeOf 1 4 1 21 3 69 := ⟨cX4_chargeOf, 5, (some .int), _, TX4, 16, gX4_settle_X4_chargeOf, rfl, ⟨rfl, by decide +kernel, by decide +kernel, by decide +kernel⟩, ⟨by decide, by decide⟩, rfl, by decide⟩
set_option maxRecDepth 20000 in
theorem e_X4_settle_193 : EV wsX4_settle RX4 193 RX1 yX1_charge wsX1_charge 1 1 0 0 3 69 := ⟨cX1_charge, 2, none, _, TX1, 6, gX4_settle_X1_charge, rfl, ⟨rfl, by decide +kernel, by decide +kernel, by decide +kernel⟩, ⟨by decide, by decide⟩, rfl, by decide⟩
set_option maxRecDepth 20000 in
theorem e_X4_settle_197 : EV wsX4_settle RX4 197 RX3 yX3_work wsX3_work 3 3 2 41 3 69 := ⟨cX3_work, 4, none, _, TX3, 8, gX4_settle_X3_work, rfl, ⟨rfl, by decide +kernel, by decide +kernel, by decide +kernel⟩, ⟨by decide, by decide⟩, rfl, by decide⟩
set_option maxRecDepth 20000 in
theorem e_X4_settle_200 : EV wsX4_settle RX4 200 RX4 yX4_removeBookingAt wsX4_removeBookingAt 1 4 0 0 3 69 := ⟨cX4_removeBookingAt, 4, none, _, TX4, 16, gX4_settle_X4_removeBookingAt, rfl, ⟨rfl, by decide +kernel, by decide +kernel, by decide +kernel⟩, ⟨by decide, by decide⟩, rfl, by decide⟩
set_option maxRecDepth 20000 in
theorem fl_X4_standingOf_61 : FL wsX4_standingOf RX4 61 4 4 0 := FL.of RX4 TX4 16 rfl (fun _ h => List.mem_cons_of_mem _ (List.mem_append_left _ (List.mem_append_right _ h))) (List.mem_of_getElem? (i := 1) (by decide +kernel)) (by decide)
set_option maxRecDepth 20000 in
theorem fl_X4_standingOf_145 : FL wsX4_standingOf RX4 145 0 1 0 := FL.of RX0 TX0 6 rfl (fun _ h => List.mem_cons_of_mem _ (List.mem_append_right _ h)) (List.mem_of_getElem? (i := 2) (by decide +kernel)) (by decide)
set_option maxRecDepth 20000 in
theorem e_X4_standingOf_64 : EV wsX4_standingOf RX4 64 RX4 yX4_bookingAt wsX4_bookingAt 1 4 0 0 1 21 := ⟨cX4_bookingAt, 2, (some (.object "MachineRing$Booking")), _, TX4, 16, gX4_standingOf_X4_bookingAt, rfl, ⟨rfl, by decide +kernel, by decide +kernel, by decide +kernel⟩, ⟨by decide, by decide⟩, rfl, by decide⟩
set_option maxRecDepth 20000 in
theorem fl_X4_sumOfAccounts_162 : FL wsX4_sumOfAccounts RX4 162 1 0 0 := FL.of RX1 TX1 6 rfl (fun _ h => List.mem_cons_of_mem _ (List.mem_append_left _ (List.mem_append_right _ h))) (List.mem_of_getElem? (i := 1) (by decide +kernel)) (by decide)
set_option maxRecDepth 20000 in
theorem e_X4_sumOfAccounts_43 : EV wsX4_sumOfAccounts RX4 43 RX4 yX4_farmerAt wsX4_farmerAt 1 4 0 0 1 21 := ⟨cX4_farmerAt, 2, (some (.object "MachineRing$Farmer")), _, TX4, 16, gX4_sumOfAccounts_X4_farmerAt, rfl, ⟨rfl, by decide +kernel, by decide +kernel, by decide +kernel⟩, ⟨by decide, by decide⟩, rfl, by decide⟩
set_option maxRecDepth 20000 in
theorem k_X4_whyNotBook_134 : Cond.constant RX4 134 (-100000001) ∈ wsX4_whyNotBook := List.mem_of_getElem? (i := 1) (by decide +kernel)
set_option maxRecDepth 20000 in
theorem k_X4_whyNotBook_139 : Cond.constant RX4 139 (-100000002) ∈ wsX4_whyNotBook := List.mem_of_getElem? (i := 2) (by decide +kernel)
set_option maxRecDepth 20000 in
theorem fl_X4_whyNotBook_61 : FL wsX4_whyNotBook RX4 61 4 4 0 := FL.of RX4 TX4 16 rfl (fun _ h => List.mem_cons_of_mem _ (List.mem_append_left _ (List.mem_append_right _ h))) (List.mem_of_getElem? (i := 3) (by decide +kernel)) (by decide)
set_option maxRecDepth 20000 in
theorem k_X4_whyNotBook_108 : Cond.constant RX4 108 (-100000003) ∈ wsX4_whyNotBook := List.mem_of_getElem? (i := 4) (by decide +kernel)
set_option maxRecDepth 20000 in
theorem fl_X4_whyNotBook_71 : FL wsX4_whyNotBook RX4 71 4 5 0 := FL.of RX4 TX4 16 rfl (fun _ h => List.mem_cons_of_mem _ (List.mem_append_left _ (List.mem_append_right _ h))) (List.mem_of_getElem? (i := 5) (by decide +kernel)) (by decide)
set_option maxRecDepth 20000 in
theorem k_X4_whyNotBook_144 : Cond.constant RX4 144 (-100000004) ∈ wsX4_whyNotBook := List.mem_of_getElem? (i := 6) (by decide +kernel)
set_option maxRecDepth 20000 in
theorem e_X4_whyNotBook_43 : EV wsX4_whyNotBook RX4 43 RX4 yX4_farmerAt wsX4_farmerAt 1 4 0 0 2 47 := ⟨cX4_farmerAt, 2, (some (.object "MachineRing$Farmer")), _, TX4, 16, gX4_whyNotBook_X4_farmerAt, rfl, ⟨rfl, by decide +kernel, by decide +kernel, by decide +kernel⟩, ⟨by decide, by decide⟩, rfl, by decide⟩
set_option maxRecDepth 20000 in
theorem e_X4_whyNotBook_54 : EV wsX4_whyNotBook RX4 54 RX4 yX4_machineAt wsX4_machineAt 1 4 0 0 2 47 := ⟨cX4_machineAt, 2, (some (.object "MachineRing$Machine")), _, TX4, 16, gX4_whyNotBook_X4_machineAt, rfl, ⟨rfl, by decide +kernel, by decide +kernel, by decide +kernel⟩, ⟨by decide, by decide⟩, rfl, by decide⟩
set_option maxRecDepth 20000 in
theorem e_X4_whyNotBook_135 : EN wsX4_whyNotBook RX4 135 yX6_outside wsX6_outside 3 0 0 2 47 := ⟨cX6_outside, 3, (some .boolean), _, gX4_whyNotBook_X6_outside_n135, rfl, ⟨by decide +kernel, by decide +kernel, by decide +kernel⟩, ⟨by decide, by decide⟩, fun s h => h.2.1, List.mem_of_getElem? (i := 19) (by decide +kernel), List.mem_of_getElem? (i := 20) (by decide +kernel)⟩
set_option maxRecDepth 20000 in
theorem e_X4_whyNotBook_140 : EV wsX4_whyNotBook RX4 140 RX4 yX4_hoursOn wsX4_hoursOn 2 4 1 22 2 47 := ⟨cX4_hoursOn, 6, (some .int), _, TX4, 16, gX4_whyNotBook_X4_hoursOn, rfl, ⟨rfl, by decide +kernel, by decide +kernel, by decide +kernel⟩, ⟨by decide, by decide⟩, rfl, by decide⟩
set_option maxRecDepth 20000 in
theorem pf_X5_init_9 : PF wsX5_init RX5 9 5 0 1 true (.array .char) := ⟨RX5, TX5, 7, tyX5, rfl, (fun _ h => List.mem_cons_of_mem _ (List.mem_append_right _ h)), by decide, (List.mem_of_getElem? (i := 5) (by decide +kernel)), by decide, by decide, by decide, tyX5_ok, nmX5, rfl, by decide +kernel, fun _ => rfl⟩
