set_option maxRecDepth 20000 in
theorem e_L_act_29 : ES wsL_act RL 29 yL_low wsL_low 2 0 0 6 139 := ⟨cL_low, 2, (some .int), _, gL_act_L_low, rfl, ⟨by decide +kernel, by decide +kernel, by decide +kernel⟩, ⟨by decide, by decide⟩⟩
set_option maxRecDepth 20000 in
theorem e_L_act_12 : EV wsL_act RL 12 RX6 yX6_count wsX6_count 1 6 2 44 6 139 := ⟨cX6_count, 2, (some .int), _, TX6, 6, gL_act_X6_count, rfl, ⟨rfl, by decide +kernel, by decide +kernel, by decide +kernel⟩, ⟨by decide, by decide⟩, rfl, by decide⟩
set_option maxRecDepth 20000 in
theorem e_L_act_34 : EV wsL_act RL 34 RX6 yX6_buy wsX6_buy 3 6 4 89 6 139 := ⟨cX6_buy, 4, (some .int), _, TX6, 6, gL_act_X6_buy, rfl, ⟨rfl, by decide +kernel, by decide +kernel, by decide +kernel⟩, ⟨by decide, by decide⟩, rfl, by decide⟩
set_option maxRecDepth 20000 in
theorem e_L_act_38 : EV wsL_act RL 38 RX6 yX6_license wsX6_license 2 6 4 89 6 139 := ⟨cX6_license, 5, (some .int), _, TX6, 6, gL_act_X6_license, rfl, ⟨rfl, by decide +kernel, by decide +kernel, by decide +kernel⟩, ⟨by decide, by decide⟩, rfl, by decide⟩
set_option maxRecDepth 20000 in
theorem e_L_act_41 : EV wsL_act RL 41 RX6 yX6_setRate wsX6_setRate 2 6 4 89 6 139 := ⟨cX6_setRate, 5, (some .int), _, TX6, 6, gL_act_X6_setRate, rfl, ⟨rfl, by decide +kernel, by decide +kernel, by decide +kernel⟩, ⟨by decide, by decide⟩, rfl, by decide⟩
set_option maxRecDepth 20000 in
theorem e_L_act_44 : EV wsL_act RL 44 RX6 yX6_set wsX6_set 2 6 4 89 6 139 := ⟨cX6_set, 5, (some .int), _, TX6, 6, gL_act_X6_set, rfl, ⟨rfl, by decide +kernel, by decide +kernel, by decide +kernel⟩, ⟨by decide, by decide⟩, rfl, by decide⟩
set_option maxRecDepth 20000 in
theorem e_L_act_47 : EV wsL_act RL 47 RX6 yX6_setSeed wsX6_setSeed 1 6 4 89 6 139 := ⟨cX6_setSeed, 3, (some .int), _, TX6, 6, gL_act_X6_setSeed, rfl, ⟨rfl, by decide +kernel, by decide +kernel, by decide +kernel⟩, ⟨by decide, by decide⟩, rfl, by decide⟩
set_option maxRecDepth 20000 in
theorem e_L_act_50 : EV wsL_act RL 50 RX6 yX6_fill wsX6_fill 3 6 4 89 6 139 := ⟨cX6_fill, 8, (some .int), _, TX6, 6, gL_act_X6_fill, rfl, ⟨rfl, by decide +kernel, by decide +kernel, by decide +kernel⟩, ⟨by decide, by decide⟩, rfl, by decide⟩
set_option maxRecDepth 20000 in
theorem e_L_act_53 : EV wsL_act RL 53 RX6 yX6_mend wsX6_mend 1 6 4 89 6 139 := ⟨cX6_mend, 3, (some .int), _, TX6, 6, gL_act_X6_mend, rfl, ⟨rfl, by decide +kernel, by decide +kernel, by decide +kernel⟩, ⟨by decide, by decide⟩, rfl, by decide⟩
set_option maxRecDepth 20000 in
theorem e_L_act_56 : EV wsL_act RL 56 RX6 yX6_pay wsX6_pay 2 6 4 89 6 139 := ⟨cX6_pay, 4, (some .int), _, TX6, 6, gL_act_X6_pay, rfl, ⟨rfl, by decide +kernel, by decide +kernel, by decide +kernel⟩, ⟨by decide, by decide⟩, rfl, by decide⟩
set_option maxRecDepth 20000 in
theorem e_L_act_59 : EV wsL_act RL 59 RX6 yX6_takeBack wsX6_takeBack 1 6 4 89 6 139 := ⟨cX6_takeBack, 3, (some .int), _, TX6, 6, gL_act_X6_takeBack, rfl, ⟨rfl, by decide +kernel, by decide +kernel, by decide +kernel⟩, ⟨by decide, by decide⟩, rfl, by decide⟩
set_option maxRecDepth 20000 in
theorem e_L_act_62 : EV wsL_act RL 62 RX6 yX6_restore wsX6_restore 0 6 4 89 6 139 := ⟨cX6_restore, 1, (some .int), _, TX6, 6, gL_act_X6_restore, rfl, ⟨rfl, by decide +kernel, by decide +kernel, by decide +kernel⟩, ⟨by decide, by decide⟩, rfl, by decide⟩
set_option maxRecDepth 20000 in
theorem e_L_act_66 : EV wsL_act RL 66 RX6 yX6_pass wsX6_pass 1 6 5 116 6 139 := ⟨cX6_pass, 4, (some .int), _, TX6, 6, gL_act_X6_pass, rfl, ⟨rfl, by decide +kernel, by decide +kernel, by decide +kernel⟩, ⟨by decide, by decide⟩, rfl, by decide⟩
set_option maxRecDepth 20000 in
theorem e_L_act_69 : EV wsL_act RL 69 RX6 yX6_book wsX6_book 4 6 4 89 6 139 := ⟨cX6_book, 6, (some .int), _, TX6, 6, gL_act_X6_book, rfl, ⟨rfl, by decide +kernel, by decide +kernel, by decide +kernel⟩, ⟨by decide, by decide⟩, rfl, by decide⟩
set_option maxRecDepth 20000 in
theorem k_L_holds_80 : Cond.constantFloat RL 80 (1142292480) ∈ wsL_holds := List.mem_of_getElem? (i := 1) (by decide +kernel)
set_option maxRecDepth 20000 in
theorem e_L_holds_18 : EV wsL_holds RL 18 RX6 yX6_farmer wsX6_farmer 2 6 2 45 3 69 := ⟨cX6_farmer, 4, (some .int), _, TX6, 6, gL_holds_X6_farmer, rfl, ⟨rfl, by decide +kernel, by decide +kernel, by decide +kernel⟩, ⟨by decide, by decide⟩, rfl, by decide⟩
set_option maxRecDepth 20000 in
theorem e_L_holds_12 : EV wsL_holds RL 12 RX6 yX6_count wsX6_count 1 6 2 44 3 69 := ⟨cX6_count, 2, (some .int), _, TX6, 6, gL_holds_X6_count, rfl, ⟨rfl, by decide +kernel, by decide +kernel, by decide +kernel⟩, ⟨by decide, by decide⟩, rfl, by decide⟩
set_option maxRecDepth 20000 in
theorem e_L_holds_73 : EV wsL_holds RL 73 RX6 yX6_hours wsX6_hours 2 6 1 22 3 69 := ⟨cX6_hours, 4, (some .int), _, TX6, 6, gL_holds_X6_hours, rfl, ⟨rfl, by decide +kernel, by decide +kernel, by decide +kernel⟩, ⟨by decide, by decide⟩, rfl, by decide⟩
set_option maxRecDepth 20000 in
theorem e_L_holds_76 : EV wsL_holds RL 76 RX6 yX6_fuel wsX6_fuel 1 6 1 21 3 69 := ⟨cX6_fuel, 3, (some .float), _, TX6, 6, gL_holds_X6_fuel, rfl, ⟨rfl, by decide +kernel, by decide +kernel, by decide +kernel⟩, ⟨by decide, by decide⟩, rfl, by decide⟩
set_option maxRecDepth 20000 in
theorem e_L_holds_22 : EV wsL_holds RL 22 RX6 yX6_machine wsX6_machine 2 6 1 23 3 69 := ⟨cX6_machine, 4, (some .int), _, TX6, 6, gL_holds_X6_machine, rfl, ⟨rfl, by decide +kernel, by decide +kernel, by decide +kernel⟩, ⟨by decide, by decide⟩, rfl, by decide⟩
set_option maxRecDepth 20000 in
theorem e_L_holds_81 : EV wsL_holds RL 81 RX6 yX6_booked wsX6_booked 2 6 2 47 3 69 := ⟨cX6_booked, 3, (some .int), _, TX6, 6, gL_holds_X6_booked, rfl, ⟨rfl, by decide +kernel, by decide +kernel, by decide +kernel⟩, ⟨by decide, by decide⟩, rfl, by decide⟩
set_option maxRecDepth 20000 in
theorem e_L_holds_25 : EV wsL_holds RL 25 RX6 yX6_booking wsX6_booking 2 6 2 45 3 69 := ⟨cX6_booking, 4, (some .int), _, TX6, 6, gL_holds_X6_booking, rfl, ⟨rfl, by decide +kernel, by decide +kernel, by decide +kernel⟩, ⟨by decide, by decide⟩, rfl, by decide⟩
set_option maxRecDepth 20000 in
theorem k_L_isDone_28 : Cond.constant RL 28 (-100000000) ∈ wsL_isDone := List.mem_of_getElem? (i := 1) (by decide +kernel)
set_option maxRecDepth 20000 in
theorem k_L_low_7 : Cond.constant RL 7 (2147483647) ∈ wsL_low := List.mem_of_getElem? (i := 1) (by decide +kernel)
set_option maxRecDepth 20000 in
theorem e_L_told_12 : EV wsL_told RL 12 RX6 yX6_count wsX6_count 1 6 2 44 3 68 := ⟨cX6_count, 2, (some .int), _, TX6, 6, gL_told_X6_count, rfl, ⟨rfl, by decide +kernel, by decide +kernel, by decide +kernel⟩, ⟨by decide, by decide⟩, rfl, by decide⟩
set_option maxRecDepth 20000 in
theorem e_L_told_18 : EV wsL_told RL 18 RX6 yX6_farmer wsX6_farmer 2 6 2 45 3 68 := ⟨cX6_farmer, 4, (some .int), _, TX6, 6, gL_told_X6_farmer, rfl, ⟨rfl, by decide +kernel, by decide +kernel, by decide +kernel⟩, ⟨by decide, by decide⟩, rfl, by decide⟩
set_option maxRecDepth 20000 in
theorem e_L_told_22 : EV wsL_told RL 22 RX6 yX6_machine wsX6_machine 2 6 1 23 3 68 := ⟨cX6_machine, 4, (some .int), _, TX6, 6, gL_told_X6_machine, rfl, ⟨rfl, by decide +kernel, by decide +kernel, by decide +kernel⟩, ⟨by decide, by decide⟩, rfl, by decide⟩
set_option maxRecDepth 20000 in
theorem e_L_told_25 : EV wsL_told RL 25 RX6 yX6_booking wsX6_booking 2 6 2 45 3 68 := ⟨cX6_booking, 4, (some .int), _, TX6, 6, gL_told_X6_booking, rfl, ⟨rfl, by decide +kernel, by decide +kernel, by decide +kernel⟩, ⟨by decide, by decide⟩, rfl, by decide⟩
set_option maxRecDepth 20000 in
theorem k_X6_bitsOf_273 : Cond.constantFloat RX6 273 (1056964608) ∈ wsX6_bitsOf := List.mem_of_getElem? (i := 1) (by decide +kernel)
set_option maxRecDepth 20000 in
theorem k_X6_bitsOf_277 : Cond.constantFloat RX6 277 (1258291200) ∈ wsX6_bitsOf := List.mem_of_getElem? (i := 2) (by decide +kernel)
set_option maxRecDepth 20000 in
theorem fl_X6_book_10 : FL wsX6_book RX6 10 6 0 1 := FL.of RX6 TX6 6 rfl (fun _ h => List.mem_cons_of_mem _ (List.mem_append_left _ (List.mem_append_left _ (List.mem_append_left _ (List.mem_append_left _ (List.mem_append_left _ (List.mem_append_right _ h))))))) (List.mem_of_getElem? (i := 1) (by decide +kernel)) (by decide)
set_option maxRecDepth 20000 in
theorem fl_X6_book_25 : FL wsX6_book RX6 25 6 3 1 := FL.of RX6 TX6 6 rfl (fun _ h => List.mem_cons_of_mem _ (List.mem_append_left _ (List.mem_append_left _ (List.mem_append_left _ (List.mem_append_left _ (List.mem_append_left _ (List.mem_append_right _ h))))))) (List.mem_of_getElem? (i := 2) (by decide +kernel)) (by decide)
set_option maxRecDepth 20000 in
theorem e_X6_book_104 : EV wsX6_book RX6 104 RX4 yX4_whyNotBook wsX4_whyNotBook 4 4 2 47 4 89 := ⟨cX4_whyNotBook, 5, (some .int), _, TX4, 16, gX6_book_X4_whyNotBook, rfl, ⟨rfl, by decide +kernel, by decide +kernel, by decide +kernel⟩, ⟨by decide, by decide⟩, rfl, by decide⟩
set_option maxRecDepth 20000 in
theorem e_X6_book_48 : EV wsX6_book RX6 48 RX2 yX2_push wsX2_push 1 2 3 67 4 89 := ⟨cX2_push, 3, none, _, TX2, 2, gX6_book_X2_push, rfl, ⟨rfl, by decide +kernel, by decide +kernel, by decide +kernel⟩, ⟨by decide, by decide⟩, rfl, by decide⟩
set_option maxRecDepth 20000 in
theorem e_X6_book_108 : EV wsX6_book RX6 108 RX4 yX4_addBooking wsX4_addBooking 4 4 1 21 4 89 := ⟨cX4_addBooking, 6, (some .int), _, TX4, 16, gX6_book_X4_addBooking, rfl, ⟨rfl, by decide +kernel, by decide +kernel, by decide +kernel⟩, ⟨by decide, by decide⟩, rfl, by decide⟩
set_option maxRecDepth 20000 in
theorem fl_X6_booked_10 : FL wsX6_booked RX6 10 6 0 1 := FL.of RX6 TX6 6 rfl (fun _ h => List.mem_cons_of_mem _ (List.mem_append_left _ (List.mem_append_left _ (List.mem_append_right _ h)))) (List.mem_of_getElem? (i := 1) (by decide +kernel)) (by decide)
set_option maxRecDepth 20000 in
theorem k_X6_booked_40 : Cond.constant RX6 40 (-100000001) ∈ wsX6_booked := List.mem_of_getElem? (i := 2) (by decide +kernel)
set_option maxRecDepth 20000 in
theorem k_X6_booked_41 : Cond.constant RX6 41 (-100000002) ∈ wsX6_booked := List.mem_of_getElem? (i := 3) (by decide +kernel)
set_option maxRecDepth 20000 in
theorem fl_X6_booked_183 : FL wsX6_booked RX6 183 4 5 0 := FL.of RX4 TX4 16 rfl (fun _ h => List.mem_cons_of_mem _ (List.mem_append_left _ (List.mem_append_right _ h))) (List.mem_of_getElem? (i := 4) (by decide +kernel)) (by decide)
set_option maxRecDepth 20000 in
theorem e_X6_booked_67 : EV wsX6_booked RX6 67 RX4 yX4_machineAt wsX4_machineAt 1 4 0 0 2 47 := ⟨cX4_machineAt, 2, (some (.object "MachineRing$Machine")), _, TX4, 16, gX6_booked_X4_machineAt, rfl, ⟨rfl, by decide +kernel, by decide +kernel, by decide +kernel⟩, ⟨by decide, by decide⟩, rfl, by decide⟩
set_option maxRecDepth 20000 in
theorem e_X6_booked_36 : ES wsX6_booked RX6 36 yX6_outside wsX6_outside 3 0 0 2 47 := ⟨cX6_outside, 3, (some .boolean), _, gX6_booked_X6_outside, rfl, ⟨by decide +kernel, by decide +kernel, by decide +kernel⟩, ⟨by decide, by decide⟩⟩
set_option maxRecDepth 20000 in
theorem e_X6_booked_236 : EV wsX6_booked RX6 236 RX4 yX4_hoursOn wsX4_hoursOn 2 4 1 22 2 47 := ⟨cX4_hoursOn, 6, (some .int), _, TX4, 16, gX6_booked_X4_hoursOn, rfl, ⟨rfl, by decide +kernel, by decide +kernel, by decide +kernel⟩, ⟨by decide, by decide⟩, rfl, by decide⟩
set_option maxRecDepth 20000 in
theorem fl_X6_booking_10 : FL wsX6_booking RX6 10 6 0 1 := FL.of RX6 TX6 6 rfl (fun _ h => List.mem_cons_of_mem _ (List.mem_append_left _ (List.mem_append_left _ (List.mem_append_left _ (List.mem_append_left _ (List.mem_append_right _ h)))))) (List.mem_of_getElem? (i := 1) (by decide +kernel)) (by decide)
set_option maxRecDepth 20000 in
theorem k_X6_booking_40 : Cond.constant RX6 40 (-100000001) ∈ wsX6_booking := List.mem_of_getElem? (i := 2) (by decide +kernel)
set_option maxRecDepth 20000 in
theorem fl_X6_booking_223 : FL wsX6_booking RX6 223 0 1 0 := FL.of RX0 TX0 6 rfl (fun _ h => List.mem_cons_of_mem _ (List.mem_append_left _ (List.mem_append_left _ (List.mem_append_left _ (List.mem_append_right _ h))))) (List.mem_of_getElem? (i := 3) (by decide +kernel)) (by decide)
set_option maxRecDepth 20000 in
theorem fl_X6_booking_226 : FL wsX6_booking RX6 226 0 2 0 := FL.of RX0 TX0 6 rfl (fun _ h => List.mem_cons_of_mem _ (List.mem_append_left _ (List.mem_append_left _ (List.mem_append_left _ (List.mem_append_right _ h))))) (List.mem_of_getElem? (i := 4) (by decide +kernel)) (by decide)
set_option maxRecDepth 20000 in
theorem fl_X6_booking_227 : FL wsX6_booking RX6 227 0 3 0 := FL.of RX0 TX0 6 rfl (fun _ h => List.mem_cons_of_mem _ (List.mem_append_left _ (List.mem_append_left _ (List.mem_append_left _ (List.mem_append_right _ h))))) (List.mem_of_getElem? (i := 5) (by decide +kernel)) (by decide)
set_option maxRecDepth 20000 in
theorem fl_X6_booking_228 : FL wsX6_booking RX6 228 0 4 0 := FL.of RX0 TX0 6 rfl (fun _ h => List.mem_cons_of_mem _ (List.mem_append_left _ (List.mem_append_left _ (List.mem_append_left _ (List.mem_append_right _ h))))) (List.mem_of_getElem? (i := 6) (by decide +kernel)) (by decide)
set_option maxRecDepth 20000 in
theorem fl_X6_booking_229 : FL wsX6_booking RX6 229 0 5 0 := FL.of RX0 TX0 6 rfl (fun _ h => List.mem_cons_of_mem _ (List.mem_append_left _ (List.mem_append_left _ (List.mem_append_left _ (List.mem_append_right _ h))))) (List.mem_of_getElem? (i := 7) (by decide +kernel)) (by decide)
set_option maxRecDepth 20000 in
theorem k_X6_booking_41 : Cond.constant RX6 41 (-100000002) ∈ wsX6_booking := List.mem_of_getElem? (i := 8) (by decide +kernel)
set_option maxRecDepth 20000 in
theorem e_X6_booking_142 : EV wsX6_booking RX6 142 RX4 yX4_placeOf wsX4_placeOf 1 4 1 21 2 45 := ⟨cX4_placeOf, 4, (some .int), _, TX4, 16, gX6_booking_X4_placeOf, rfl, ⟨rfl, by decide +kernel, by decide +kernel, by decide +kernel⟩, ⟨by decide, by decide⟩, rfl, by decide⟩
set_option maxRecDepth 20000 in
theorem e_X6_booking_219 : EV wsX6_booking RX6 219 RX4 yX4_bookingAt wsX4_bookingAt 1 4 0 0 2 45 := ⟨cX4_bookingAt, 2, (some (.object "MachineRing$Booking")), _, TX4, 16, gX6_booking_X4_bookingAt, rfl, ⟨rfl, by decide +kernel, by decide +kernel, by decide +kernel⟩, ⟨by decide, by decide⟩, rfl, by decide⟩
set_option maxRecDepth 20000 in
theorem e_X6_booking_232 : EV wsX6_booking RX6 232 RX4 yX4_chargeOf wsX4_chargeOf 1 4 1 21 2 45 := ⟨cX4_chargeOf, 5, (some .int), _, TX4, 16, gX6_booking_X4_chargeOf, rfl, ⟨rfl, by decide +kernel, by decide +kernel, by decide +kernel⟩, ⟨by decide, by decide⟩, rfl, by decide⟩
set_option maxRecDepth 20000 in
theorem k_X6_buy_40 : Cond.constant RX6 40 (-100000001) ∈ wsX6_buy := List.mem_of_getElem? (i := 1) (by decide +kernel)
set_option maxRecDepth 20000 in
theorem k_X6_buy_41 : Cond.constant RX6 41 (-100000002) ∈ wsX6_buy := List.mem_of_getElem? (i := 2) (by decide +kernel)
set_option maxRecDepth 20000 in
theorem fl_X6_buy_10 : FL wsX6_buy RX6 10 6 0 1 := FL.of RX6 TX6 6 rfl (fun _ h => List.mem_cons_of_mem _ (List.mem_append_left _ (List.mem_append_left _ (List.mem_append_left _ (List.mem_append_left _ (List.mem_append_left _ (List.mem_append_right _ h))))))) (List.mem_of_getElem? (i := 3) (by decide +kernel)) (by decide)
set_option maxRecDepth 20000 in
theorem k_X6_buy_46 : Cond.constant RX6 46 (-100000003) ∈ wsX6_buy := List.mem_of_getElem? (i := 4) (by decide +kernel)
set_option maxRecDepth 20000 in
theorem k_X6_buy_47 : Cond.constant RX6 47 (-100000004) ∈ wsX6_buy := List.mem_of_getElem? (i := 5) (by decide +kernel)
set_option maxRecDepth 20000 in
theorem fl_X6_buy_25 : FL wsX6_buy RX6 25 6 3 1 := FL.of RX6 TX6 6 rfl (fun _ h => List.mem_cons_of_mem _ (List.mem_append_left _ (List.mem_append_left _ (List.mem_append_left _ (List.mem_append_left _ (List.mem_append_left _ (List.mem_append_right _ h))))))) (List.mem_of_getElem? (i := 6) (by decide +kernel)) (by decide)
set_option maxRecDepth 20000 in
theorem e_X6_buy_36 : ES wsX6_buy RX6 36 yX6_outside wsX6_outside 3 0 0 4 89 := ⟨cX6_outside, 3, (some .boolean), _, gX6_buy_X6_outside, rfl, ⟨by decide +kernel, by decide +kernel, by decide +kernel⟩, ⟨by decide, by decide⟩⟩
set_option maxRecDepth 20000 in
theorem e_X6_buy_42 : EV wsX6_buy RX6 42 RX4 yX4_machinesIn wsX4_machinesIn 1 4 1 21 4 89 := ⟨cX4_machinesIn, 5, (some .int), _, TX4, 16, gX6_buy_X4_machinesIn, rfl, ⟨rfl, by decide +kernel, by decide +kernel, by decide +kernel⟩, ⟨by decide, by decide⟩, rfl, by decide⟩
set_option maxRecDepth 20000 in
theorem e_X6_buy_48 : EV wsX6_buy RX6 48 RX2 yX2_push wsX2_push 1 2 3 67 4 89 := ⟨cX2_push, 3, none, _, TX2, 2, gX6_buy_X2_push, rfl, ⟨rfl, by decide +kernel, by decide +kernel, by decide +kernel⟩, ⟨by decide, by decide⟩, rfl, by decide⟩
set_option maxRecDepth 20000 in
theorem e_X6_buy_52 : EV wsX6_buy RX6 52 RX4 yX4_addMachine wsX4_addMachine 2 4 2 45 4 89 := ⟨cX4_addMachine, 5, (some .int), _, TX4, 16, gX6_buy_X4_addMachine, rfl, ⟨rfl, by decide +kernel, by decide +kernel, by decide +kernel⟩, ⟨by decide, by decide⟩, rfl, by decide⟩
set_option maxRecDepth 20000 in
theorem fl_X6_count_10 : FL wsX6_count RX6 10 6 0 1 := FL.of RX6 TX6 6 rfl (fun _ h => List.mem_cons_of_mem _ (List.mem_append_left _ (List.mem_append_left _ (List.mem_append_left _ (List.mem_append_left _ (List.mem_append_left _ (List.mem_append_right _ h))))))) (List.mem_of_getElem? (i := 1) (by decide +kernel)) (by decide)
set_option maxRecDepth 20000 in
theorem fl_X6_count_183 : FL wsX6_count RX6 183 4 5 0 := FL.of RX4 TX4 16 rfl (fun _ h => List.mem_cons_of_mem _ (List.mem_append_left _ (List.mem_append_left _ (List.mem_append_left _ (List.mem_append_left _ (List.mem_append_right _ h)))))) (List.mem_of_getElem? (i := 2) (by decide +kernel)) (by decide)
set_option maxRecDepth 20000 in
theorem fl_X6_count_253 : FL wsX6_count RX6 253 4 3 0 := FL.of RX4 TX4 16 rfl (fun _ h => List.mem_cons_of_mem _ (List.mem_append_left _ (List.mem_append_left _ (List.mem_append_left _ (List.mem_append_left _ (List.mem_append_right _ h)))))) (List.mem_of_getElem? (i := 3) (by decide +kernel)) (by decide)
set_option maxRecDepth 20000 in
theorem fl_X6_count_149 : FL wsX6_count RX6 149 4 4 0 := FL.of RX4 TX4 16 rfl (fun _ h => List.mem_cons_of_mem _ (List.mem_append_left _ (List.mem_append_left _ (List.mem_append_left _ (List.mem_append_left _ (List.mem_append_right _ h)))))) (List.mem_of_getElem? (i := 4) (by decide +kernel)) (by decide)
set_option maxRecDepth 20000 in
theorem fl_X6_count_256 : FL wsX6_count RX6 256 4 6 0 := FL.of RX4 TX4 16 rfl (fun _ h => List.mem_cons_of_mem _ (List.mem_append_left _ (List.mem_append_left _ (List.mem_append_left _ (List.mem_append_left _ (List.mem_append_right _ h)))))) (List.mem_of_getElem? (i := 5) (by decide +kernel)) (by decide)
set_option maxRecDepth 20000 in
theorem fl_X6_count_152 : FL wsX6_count RX6 152 4 7 0 := FL.of RX4 TX4 16 rfl (fun _ h => List.mem_cons_of_mem _ (List.mem_append_left _ (List.mem_append_left _ (List.mem_append_left _ (List.mem_append_left _ (List.mem_append_right _ h)))))) (List.mem_of_getElem? (i := 6) (by decide +kernel)) (by decide)
set_option maxRecDepth 20000 in
theorem fl_X6_count_259 : FL wsX6_count RX6 259 4 8 0 := FL.of RX4 TX4 16 rfl (fun _ h => List.mem_cons_of_mem _ (List.mem_append_left _ (List.mem_append_left _ (List.mem_append_left _ (List.mem_append_left _ (List.mem_append_right _ h)))))) (List.mem_of_getElem? (i := 7) (by decide +kernel)) (by decide)
set_option maxRecDepth 20000 in
theorem fl_X6_count_84 : FL wsX6_count RX6 84 4 9 0 := FL.of RX4 TX4 16 rfl (fun _ h => List.mem_cons_of_mem _ (List.mem_append_left _ (List.mem_append_left _ (List.mem_append_left _ (List.mem_append_left _ (List.mem_append_right _ h)))))) (List.mem_of_getElem? (i := 8) (by decide +kernel)) (by decide)
set_option maxRecDepth 20000 in
theorem fl_X6_count_158 : FL wsX6_count RX6 158 4 10 0 := FL.of RX4 TX4 16 rfl (fun _ h => List.mem_cons_of_mem _ (List.mem_append_left _ (List.mem_append_left _ (List.mem_append_left _ (List.mem_append_left _ (List.mem_append_right _ h)))))) (List.mem_of_getElem? (i := 9) (by decide +kernel)) (by decide)
set_option maxRecDepth 20000 in
theorem fl_X6_count_161 : FL wsX6_count RX6 161 4 11 0 := FL.of RX4 TX4 16 rfl (fun _ h => List.mem_cons_of_mem _ (List.mem_append_left _ (List.mem_append_left _ (List.mem_append_left _ (List.mem_append_left _ (List.mem_append_right _ h)))))) (List.mem_of_getElem? (i := 10) (by decide +kernel)) (by decide)
set_option maxRecDepth 20000 in
theorem fl_X6_count_164 : FL wsX6_count RX6 164 4 12 0 := FL.of RX4 TX4 16 rfl (fun _ h => List.mem_cons_of_mem _ (List.mem_append_left _ (List.mem_append_left _ (List.mem_append_left _ (List.mem_append_left _ (List.mem_append_right _ h)))))) (List.mem_of_getElem? (i := 11) (by decide +kernel)) (by decide)
set_option maxRecDepth 20000 in
theorem fl_X6_count_25 : FL wsX6_count RX6 25 6 3 1 := FL.of RX6 TX6 6 rfl (fun _ h => List.mem_cons_of_mem _ (List.mem_append_left _ (List.mem_append_left _ (List.mem_append_left _ (List.mem_append_left _ (List.mem_append_left _ (List.mem_append_right _ h))))))) (List.mem_of_getElem? (i := 12) (by decide +kernel)) (by decide)
set_option maxRecDepth 20000 in
theorem fl_X6_count_177 : FL wsX6_count RX6 177 2 1 0 := FL.of RX2 TX2 2 rfl (fun _ h => List.mem_cons_of_mem _ (List.mem_append_left _ (List.mem_append_left _ (List.mem_append_left _ (List.mem_append_right _ h))))) (List.mem_of_getElem? (i := 13) (by decide +kernel)) (by decide)
set_option maxRecDepth 20000 in
theorem fl_X6_count_32 : FL wsX6_count RX6 32 6 4 1 := FL.of RX6 TX6 6 rfl (fun _ h => List.mem_cons_of_mem _ (List.mem_append_left _ (List.mem_append_left _ (List.mem_append_left _ (List.mem_append_left _ (List.mem_append_left _ (List.mem_append_right _ h))))))) (List.mem_of_getElem? (i := 14) (by decide +kernel)) (by decide)
set_option maxRecDepth 20000 in
theorem fl_X6_count_170 : FL wsX6_count RX6 170 5 1 0 := FL.of RX5 TX5 7 rfl (fun _ h => List.mem_cons_of_mem _ (List.mem_append_left _ (List.mem_append_left _ (List.mem_append_right _ h)))) (List.mem_of_getElem? (i := 15) (by decide +kernel)) (by decide)
set_option maxRecDepth 20000 in
theorem fl_X6_count_268 : FL wsX6_count RX6 268 4 13 0 := FL.of RX4 TX4 16 rfl (fun _ h => List.mem_cons_of_mem _ (List.mem_append_left _ (List.mem_append_left _ (List.mem_append_left _ (List.mem_append_left _ (List.mem_append_right _ h)))))) (List.mem_of_getElem? (i := 16) (by decide +kernel)) (by decide)
set_option maxRecDepth 20000 in
theorem fl_X6_count_87 : FL wsX6_count RX6 87 4 14 0 := FL.of RX4 TX4 16 rfl (fun _ h => List.mem_cons_of_mem _ (List.mem_append_left _ (List.mem_append_left _ (List.mem_append_left _ (List.mem_append_left _ (List.mem_append_right _ h)))))) (List.mem_of_getElem? (i := 17) (by decide +kernel)) (by decide)
set_option maxRecDepth 20000 in
theorem fl_X6_count_101 : FL wsX6_count RX6 101 4 15 0 := FL.of RX4 TX4 16 rfl (fun _ h => List.mem_cons_of_mem _ (List.mem_append_left _ (List.mem_append_left _ (List.mem_append_left _ (List.mem_append_left _ (List.mem_append_right _ h)))))) (List.mem_of_getElem? (i := 18) (by decide +kernel)) (by decide)
set_option maxRecDepth 20000 in
theorem k_X6_count_41 : Cond.constant RX6 41 (-100000002) ∈ wsX6_count := List.mem_of_getElem? (i := 19) (by decide +kernel)
set_option maxRecDepth 20000 in
theorem e_X6_count_250 : ES wsX6_count RX6 250 yX6_seasonOf wsX6_seasonOf 1 0 0 2 44 := ⟨cX6_seasonOf, 1, (some .int), _, gX6_count_X6_seasonOf, rfl, ⟨by decide +kernel, by decide +kernel, by decide +kernel⟩, ⟨by decide, by decide⟩⟩
set_option maxRecDepth 20000 in
theorem e_X6_count_262 : EV wsX6_count RX6 262 RX4 yX4_sumOfAccounts wsX4_sumOfAccounts 0 4 1 21 2 44 := ⟨cX4_sumOfAccounts, 4, (some .int), _, TX4, 16, gX6_count_X4_sumOfAccounts, rfl, ⟨rfl, by decide +kernel, by decide +kernel, by decide +kernel⟩, ⟨by decide, by decide⟩, rfl, by decide⟩
set_option maxRecDepth 20000 in
theorem e_X6_count_265 : EV wsX6_count RX6 265 RX4 yX4_brokenMachines wsX4_brokenMachines 0 4 1 21 2 44 := ⟨cX4_brokenMachines, 4, (some .int), _, TX4, 16, gX6_count_X4_brokenMachines, rfl, ⟨rfl, by decide +kernel, by decide +kernel, by decide +kernel⟩, ⟨by decide, by decide⟩, rfl, by decide⟩
set_option maxRecDepth 20000 in
theorem k_X6_factorOf_271 : Cond.constantFloat RX6 271 (1069547520) ∈ wsX6_factorOf := List.mem_of_getElem? (i := 1) (by decide +kernel)
set_option maxRecDepth 20000 in
theorem k_X6_factorOf_272 : Cond.constantFloat RX6 272 (1067450368) ∈ wsX6_factorOf := List.mem_of_getElem? (i := 2) (by decide +kernel)
set_option maxRecDepth 20000 in
theorem k_X6_factorOf_273 : Cond.constantFloat RX6 273 (1056964608) ∈ wsX6_factorOf := List.mem_of_getElem? (i := 3) (by decide +kernel)
set_option maxRecDepth 20000 in
theorem fl_X6_farmer_10 : FL wsX6_farmer RX6 10 6 0 1 := FL.of RX6 TX6 6 rfl (fun _ h => List.mem_cons_of_mem _ (List.mem_append_left _ (List.mem_append_left _ (List.mem_append_left _ (List.mem_append_right _ h))))) (List.mem_of_getElem? (i := 1) (by decide +kernel)) (by decide)
set_option maxRecDepth 20000 in
theorem k_X6_farmer_40 : Cond.constant RX6 40 (-100000001) ∈ wsX6_farmer := List.mem_of_getElem? (i := 2) (by decide +kernel)
set_option maxRecDepth 20000 in
theorem fl_X6_farmer_98 : FL wsX6_farmer RX6 98 1 0 0 := FL.of RX1 TX1 6 rfl (fun _ h => List.mem_cons_of_mem _ (List.mem_append_left _ (List.mem_append_left _ (List.mem_append_right _ h)))) (List.mem_of_getElem? (i := 3) (by decide +kernel)) (by decide)
set_option maxRecDepth 20000 in
theorem fl_X6_farmer_60 : FL wsX6_farmer RX6 60 1 1 0 := FL.of RX1 TX1 6 rfl (fun _ h => List.mem_cons_of_mem _ (List.mem_append_left _ (List.mem_append_left _ (List.mem_append_right _ h)))) (List.mem_of_getElem? (i := 4) (by decide +kernel)) (by decide)
set_option maxRecDepth 20000 in
theorem fl_X6_farmer_186 : FL wsX6_farmer RX6 186 1 2 0 := FL.of RX1 TX1 6 rfl (fun _ h => List.mem_cons_of_mem _ (List.mem_append_left _ (List.mem_append_left _ (List.mem_append_right _ h)))) (List.mem_of_getElem? (i := 5) (by decide +kernel)) (by decide)
set_option maxRecDepth 20000 in
theorem fl_X6_farmer_81 : FL wsX6_farmer RX6 81 1 3 0 := FL.of RX1 TX1 6 rfl (fun _ h => List.mem_cons_of_mem _ (List.mem_append_left _ (List.mem_append_left _ (List.mem_append_right _ h)))) (List.mem_of_getElem? (i := 6) (by decide +kernel)) (by decide)
set_option maxRecDepth 20000 in
theorem fl_X6_farmer_190 : FL wsX6_farmer RX6 190 1 4 0 := FL.of RX1 TX1 6 rfl (fun _ h => List.mem_cons_of_mem _ (List.mem_append_left _ (List.mem_append_left _ (List.mem_append_right _ h)))) (List.mem_of_getElem? (i := 7) (by decide +kernel)) (by decide)
set_option maxRecDepth 20000 in
theorem fl_X6_farmer_193 : FL wsX6_farmer RX6 193 1 5 0 := FL.of RX1 TX1 6 rfl (fun _ h => List.mem_cons_of_mem _ (List.mem_append_left _ (List.mem_append_left _ (List.mem_append_right _ h)))) (List.mem_of_getElem? (i := 8) (by decide +kernel)) (by decide)
set_option maxRecDepth 20000 in
theorem k_X6_farmer_41 : Cond.constant RX6 41 (-100000002) ∈ wsX6_farmer := List.mem_of_getElem? (i := 9) (by decide +kernel)
set_option maxRecDepth 20000 in
theorem e_X6_farmer_56 : EV wsX6_farmer RX6 56 RX4 yX4_farmerAt wsX4_farmerAt 1 4 0 0 2 45 := ⟨cX4_farmerAt, 2, (some (.object "MachineRing$Farmer")), _, TX4, 16, gX6_farmer_X4_farmerAt, rfl, ⟨rfl, by decide +kernel, by decide +kernel, by decide +kernel⟩, ⟨by decide, by decide⟩, rfl, by decide⟩
set_option maxRecDepth 20000 in
theorem e_X6_farmer_187 : EV wsX6_farmer RX6 187 RX4 yX4_standingOf wsX4_standingOf 1 4 1 21 2 45 := ⟨cX4_standingOf, 5, (some .int), _, TX4, 16, gX6_farmer_X4_standingOf, rfl, ⟨rfl, by decide +kernel, by decide +kernel, by decide +kernel⟩, ⟨by decide, by decide⟩, rfl, by decide⟩
set_option maxRecDepth 20000 in
theorem fl_X6_fill_10 : FL wsX6_fill RX6 10 6 0 1 := FL.of RX6 TX6 6 rfl (fun _ h => List.mem_cons_of_mem _ (List.mem_append_left _ (List.mem_append_left _ (List.mem_append_left _ (List.mem_append_left _ (List.mem_append_left _ (List.mem_append_right _ h))))))) (List.mem_of_getElem? (i := 1) (by decide +kernel)) (by decide)
set_option maxRecDepth 20000 in
theorem k_X6_fill_40 : Cond.constant RX6 40 (-100000001) ∈ wsX6_fill := List.mem_of_getElem? (i := 2) (by decide +kernel)
set_option maxRecDepth 20000 in
theorem k_X6_fill_41 : Cond.constant RX6 41 (-100000002) ∈ wsX6_fill := List.mem_of_getElem? (i := 3) (by decide +kernel)
set_option maxRecDepth 20000 in
theorem fl_X6_fill_76 : FL wsX6_fill RX6 76 3 3 2 := FL.of RX3 TX3 8 rfl (fun _ h => List.mem_cons_of_mem _ (List.mem_append_left _ (List.mem_append_left _ (List.mem_append_left _ (List.mem_append_left _ (List.mem_append_right _ h)))))) (List.mem_of_getElem? (i := 4) (by decide +kernel)) (by decide)
set_option maxRecDepth 20000 in
theorem k_X6_fill_80 : Cond.constantFloat RX6 80 (1142292480) ∈ wsX6_fill := List.mem_of_getElem? (i := 5) (by decide +kernel)
set_option maxRecDepth 20000 in
theorem k_X6_fill_46 : Cond.constant RX6 46 (-100000003) ∈ wsX6_fill := List.mem_of_getElem? (i := 6) (by decide +kernel)
set_option maxRecDepth 20000 in
theorem fl_X6_fill_25 : FL wsX6_fill RX6 25 6 3 1 := FL.of RX6 TX6 6 rfl (fun _ h => List.mem_cons_of_mem _ (List.mem_append_left _ (List.mem_append_left _ (List.mem_append_left _ (List.mem_append_left _ (List.mem_append_left _ (List.mem_append_right _ h))))))) (List.mem_of_getElem? (i := 7) (by decide +kernel)) (by decide)
set_option maxRecDepth 20000 in
theorem pf_X6_fill_76 : PF wsX6_fill RX6 76 3 3 2 false .float := ⟨RX3, TX3, 8, tyX3, rfl, (fun _ h => List.mem_cons_of_mem _ (List.mem_append_left _ (List.mem_append_left _ (List.mem_append_left _ (List.mem_append_left _ (List.mem_append_right _ h)))))), by decide, (List.mem_of_getElem? (i := 4) (by decide +kernel)), by decide, by decide, by decide, tyX3_ok, nmX3, rfl, by decide +kernel, fun h => by cases h⟩
set_option maxRecDepth 20000 in
theorem fl_X6_fill_81 : FL wsX6_fill RX6 81 1 3 0 := FL.of RX1 TX1 6 rfl (fun _ h => List.mem_cons_of_mem _ (List.mem_append_left _ (List.mem_append_left _ (List.mem_append_left _ (List.mem_append_right _ h))))) (List.mem_of_getElem? (i := 8) (by decide +kernel)) (by decide)
set_option maxRecDepth 20000 in
theorem pf_X6_fill_81 : PF wsX6_fill RX6 81 1 3 0 false .int := ⟨RX1, TX1, 6, tyX1, rfl, (fun _ h => List.mem_cons_of_mem _ (List.mem_append_left _ (List.mem_append_left _ (List.mem_append_left _ (List.mem_append_right _ h))))), by decide, (List.mem_of_getElem? (i := 8) (by decide +kernel)), by decide, by decide, by decide, tyX1_ok, nmX1, rfl, by decide +kernel, fun h => by cases h⟩
set_option maxRecDepth 20000 in
theorem fl_X6_fill_84 : FL wsX6_fill RX6 84 4 9 0 := FL.of RX4 TX4 16 rfl (fun _ h => List.mem_cons_of_mem _ (List.mem_append_left _ (List.mem_append_left _ (List.mem_append_right _ h)))) (List.mem_of_getElem? (i := 9) (by decide +kernel)) (by decide)
set_option maxRecDepth 20000 in
theorem pf_X6_fill_84 : PF wsX6_fill RX6 84 4 9 0 false .int := ⟨RX4, TX4, 16, tyX4, rfl, (fun _ h => List.mem_cons_of_mem _ (List.mem_append_left _ (List.mem_append_left _ (List.mem_append_right _ h)))), by decide, (List.mem_of_getElem? (i := 9) (by decide +kernel)), by decide, by decide, by decide, tyX4_ok, nmX4, rfl, by decide +kernel, fun h => by cases h⟩
set_option maxRecDepth 20000 in
theorem fl_X6_fill_87 : FL wsX6_fill RX6 87 4 14 0 := FL.of RX4 TX4 16 rfl (fun _ h => List.mem_cons_of_mem _ (List.mem_append_left _ (List.mem_append_left _ (List.mem_append_right _ h)))) (List.mem_of_getElem? (i := 10) (by decide +kernel)) (by decide)
set_option maxRecDepth 20000 in
theorem pf_X6_fill_87 : PF wsX6_fill RX6 87 4 14 0 false .int := ⟨RX4, TX4, 16, tyX4, rfl, (fun _ h => List.mem_cons_of_mem _ (List.mem_append_left _ (List.mem_append_left _ (List.mem_append_right _ h)))), by decide, (List.mem_of_getElem? (i := 10) (by decide +kernel)), by decide, by decide, by decide, tyX4_ok, nmX4, rfl, by decide +kernel, fun h => by cases h⟩
set_option maxRecDepth 20000 in
theorem e_X6_fill_56 : EV wsX6_fill RX6 56 RX4 yX4_farmerAt wsX4_farmerAt 1 4 0 0 4 89 := ⟨cX4_farmerAt, 2, (some (.object "MachineRing$Farmer")), _, TX4, 16, gX6_fill_X4_farmerAt, rfl, ⟨rfl, by decide +kernel, by decide +kernel, by decide +kernel⟩, ⟨by decide, by decide⟩, rfl, by decide⟩
set_option maxRecDepth 20000 in
theorem e_X6_fill_67 : EV wsX6_fill RX6 67 RX4 yX4_machineAt wsX4_machineAt 1 4 0 0 4 89 := ⟨cX4_machineAt, 2, (some (.object "MachineRing$Machine")), _, TX4, 16, gX6_fill_X4_machineAt, rfl, ⟨rfl, by decide +kernel, by decide +kernel, by decide +kernel⟩, ⟨by decide, by decide⟩, rfl, by decide⟩
set_option maxRecDepth 20000 in
theorem e_X6_fill_36 : ES wsX6_fill RX6 36 yX6_outside wsX6_outside 3 0 0 4 89 := ⟨cX6_outside, 3, (some .boolean), _, gX6_fill_X6_outside, rfl, ⟨by decide +kernel, by decide +kernel, by decide +kernel⟩, ⟨by decide, by decide⟩⟩
set_option maxRecDepth 20000 in
theorem e_X6_fill_48 : EV wsX6_fill RX6 48 RX2 yX2_push wsX2_push 1 2 3 67 4 89 := ⟨cX2_push, 3, none, _, TX2, 2, gX6_fill_X2_push, rfl, ⟨rfl, by decide +kernel, by decide +kernel, by decide +kernel⟩, ⟨by decide, by decide⟩, rfl, by decide⟩
set_option maxRecDepth 20000 in
theorem fl_X6_fuel_10 : FL wsX6_fuel RX6 10 6 0 1 := FL.of RX6 TX6 6 rfl (fun _ h => List.mem_cons_of_mem _ (List.mem_append_left _ (List.mem_append_left _ (List.mem_append_right _ h)))) (List.mem_of_getElem? (i := 1) (by decide +kernel)) (by decide)
set_option maxRecDepth 20000 in
theorem k_X6_fuel_215 : Cond.constantFloat RX6 215 (3212836864) ∈ wsX6_fuel := List.mem_of_getElem? (i := 2) (by decide +kernel)
set_option maxRecDepth 20000 in
theorem fl_X6_fuel_76 : FL wsX6_fuel RX6 76 3 3 2 := FL.of RX3 TX3 8 rfl (fun _ h => List.mem_cons_of_mem _ (List.mem_append_left _ (List.mem_append_right _ h))) (List.mem_of_getElem? (i := 3) (by decide +kernel)) (by decide)
set_option maxRecDepth 20000 in
theorem e_X6_fuel_67 : EV wsX6_fuel RX6 67 RX4 yX4_machineAt wsX4_machineAt 1 4 0 0 1 21 := ⟨cX4_machineAt, 2, (some (.object "MachineRing$Machine")), _, TX4, 16, gX6_fuel_X4_machineAt, rfl, ⟨rfl, by decide +kernel, by decide +kernel, by decide +kernel⟩, ⟨by decide, by decide⟩, rfl, by decide⟩
set_option maxRecDepth 20000 in
theorem fl_X6_hours_10 : FL wsX6_hours RX6 10 6 0 1 := FL.of RX6 TX6 6 rfl (fun _ h => List.mem_cons_of_mem _ (List.mem_append_left _ (List.mem_append_left _ (List.mem_append_right _ h)))) (List.mem_of_getElem? (i := 1) (by decide +kernel)) (by decide)
set_option maxRecDepth 20000 in
theorem k_X6_hours_40 : Cond.constant RX6 40 (-100000001) ∈ wsX6_hours := List.mem_of_getElem? (i := 2) (by decide +kernel)
set_option maxRecDepth 20000 in
theorem e_X6_hours_67 : EV wsX6_hours RX6 67 RX4 yX4_machineAt wsX4_machineAt 1 4 0 0 1 22 := ⟨cX4_machineAt, 2, (some (.object "MachineRing$Machine")), _, TX4, 16, gX6_hours_X4_machineAt, rfl, ⟨rfl, by decide +kernel, by decide +kernel, by decide +kernel⟩, ⟨by decide, by decide⟩, rfl, by decide⟩
set_option maxRecDepth 20000 in
theorem e_X6_hours_36 : ES wsX6_hours RX6 36 yX6_outside wsX6_outside 3 0 0 1 22 := ⟨cX6_outside, 3, (some .boolean), _, gX6_hours_X6_outside, rfl, ⟨by decide +kernel, by decide +kernel, by decide +kernel⟩, ⟨by decide, by decide⟩⟩
set_option maxRecDepth 20000 in
theorem e_X6_hours_216 : EV wsX6_hours RX6 216 RX3 yX3_hoursOf wsX3_hoursOf 1 3 0 0 1 22 := ⟨cX3_hoursOf, 2, (some .int), _, TX3, 8, gX6_hours_X3_hoursOf, rfl, ⟨rfl, by decide +kernel, by decide +kernel, by decide +kernel⟩, ⟨by decide, by decide⟩, rfl, by decide⟩
set_option maxRecDepth 20000 in
theorem pf_X6_init_10 : PF wsX6_init RX6 10 6 0 1 true (.object "MachineRing$State") := ⟨RX6, TX6, 6, tyX6, rfl, (fun _ h => List.mem_cons_of_mem _ (List.mem_append_left _ (List.mem_append_left _ (List.mem_append_left _ (List.mem_append_left _ (List.mem_append_left _ (List.mem_append_right _ h))))))), by decide, (List.mem_of_getElem? (i := 7) (by decide +kernel)), by decide, by decide, by decide, tyX6_ok, nmX6, rfl, by decide +kernel, fun _ => rfl⟩
set_option maxRecDepth 20000 in
theorem pf_X6_init_16 : PF wsX6_init RX6 16 6 1 1 true (.object "MachineRing$State") := ⟨RX6, TX6, 6, tyX6, rfl, (fun _ h => List.mem_cons_of_mem _ (List.mem_append_left _ (List.mem_append_left _ (List.mem_append_left _ (List.mem_append_left _ (List.mem_append_left _ (List.mem_append_right _ h))))))), by decide, (List.mem_of_getElem? (i := 8) (by decide +kernel)), by decide, by decide, by decide, tyX6_ok, nmX6, rfl, by decide +kernel, fun _ => rfl⟩
set_option maxRecDepth 20000 in
theorem pf_X6_init_19 : PF wsX6_init RX6 19 6 2 1 true (.object "MachineRing$State") := ⟨RX6, TX6, 6, tyX6, rfl, (fun _ h => List.mem_cons_of_mem _ (List.mem_append_left _ (List.mem_append_left _ (List.mem_append_left _ (List.mem_append_left _ (List.mem_append_left _ (List.mem_append_right _ h))))))), by decide, (List.mem_of_getElem? (i := 9) (by decide +kernel)), by decide, by decide, by decide, tyX6_ok, nmX6, rfl, by decide +kernel, fun _ => rfl⟩
set_option maxRecDepth 20000 in
theorem pf_X6_init_25 : PF wsX6_init RX6 25 6 3 1 true (.object "MachineRing$History") := ⟨RX6, TX6, 6, tyX6, rfl, (fun _ h => List.mem_cons_of_mem _ (List.mem_append_left _ (List.mem_append_left _ (List.mem_append_left _ (List.mem_append_left _ (List.mem_append_left _ (List.mem_append_right _ h))))))), by decide, (List.mem_of_getElem? (i := 13) (by decide +kernel)), by decide, by decide, by decide, tyX6_ok, nmX6, rfl, by decide +kernel, fun _ => rfl⟩
set_option maxRecDepth 20000 in
theorem pf_X6_init_32 : PF wsX6_init RX6 32 6 4 1 true (.object "MachineRing$Text") := ⟨RX6, TX6, 6, tyX6, rfl, (fun _ h => List.mem_cons_of_mem _ (List.mem_append_left _ (List.mem_append_left _ (List.mem_append_left _ (List.mem_append_left _ (List.mem_append_left _ (List.mem_append_right _ h))))))), by decide, (List.mem_of_getElem? (i := 17) (by decide +kernel)), by decide, by decide, by decide, tyX6_ok, nmX6, rfl, by decide +kernel, fun _ => rfl⟩
set_option maxRecDepth 20000 in
theorem fl_X6_keep_19 : FL wsX6_keep RX6 19 6 2 1 := FL.of RX6 TX6 6 rfl (fun _ h => List.mem_cons_of_mem _ (List.mem_append_left _ (List.mem_append_left _ (List.mem_append_left _ (List.mem_append_left _ (List.mem_append_right _ h)))))) (List.mem_of_getElem? (i := 1) (by decide +kernel)) (by decide)
set_option maxRecDepth 20000 in
theorem fl_X6_keep_10 : FL wsX6_keep RX6 10 6 0 1 := FL.of RX6 TX6 6 rfl (fun _ h => List.mem_cons_of_mem _ (List.mem_append_left _ (List.mem_append_left _ (List.mem_append_left _ (List.mem_append_left _ (List.mem_append_right _ h)))))) (List.mem_of_getElem? (i := 2) (by decide +kernel)) (by decide)
set_option maxRecDepth 20000 in
theorem pf_X6_keep_180 : PF wsX6_keep RX6 180 6 5 3 false .boolean := ⟨RX6, TX6, 6, tyX6, rfl, (fun _ h => List.mem_cons_of_mem _ (List.mem_append_left _ (List.mem_append_left _ (List.mem_append_left _ (List.mem_append_left _ (List.mem_append_right _ h)))))), by decide, (List.mem_of_getElem? (i := 3) (by decide +kernel)), by decide, by decide, by decide, tyX6_ok, nmX6, rfl, by decide +kernel, fun h => by cases h⟩
set_option maxRecDepth 20000 in
theorem fl_X6_keep_183 : FL wsX6_keep RX6 183 4 5 0 := FL.of RX4 TX4 16 rfl (fun _ h => List.mem_cons_of_mem _ (List.mem_append_left _ (List.mem_append_left _ (List.mem_append_left _ (List.mem_append_right _ h))))) (List.mem_of_getElem? (i := 4) (by decide +kernel)) (by decide)
set_option maxRecDepth 20000 in
theorem e_X6_keep_116 : EV wsX6_keep RX6 116 RX4 yX4_copyFrom wsX4_copyFrom 1 4 2 43 3 67 := ⟨cX4_copyFrom, 5, none, _, TX4, 16, gX6_keep_X4_copyFrom, rfl, ⟨rfl, by decide +kernel, by decide +kernel, by decide +kernel⟩, ⟨by decide, by decide⟩, rfl, by decide⟩
set_option maxRecDepth 20000 in
theorem fl_X6_license_10 : FL wsX6_license RX6 10 6 0 1 := FL.of RX6 TX6 6 rfl (fun _ h => List.mem_cons_of_mem _ (List.mem_append_left _ (List.mem_append_left _ (List.mem_append_left _ (List.mem_append_left _ (List.mem_append_left _ (List.mem_append_right _ h))))))) (List.mem_of_getElem? (i := 1) (by decide +kernel)) (by decide)
set_option maxRecDepth 20000 in
theorem k_X6_license_40 : Cond.constant RX6 40 (-100000001) ∈ wsX6_license := List.mem_of_getElem? (i := 2) (by decide +kernel)
set_option maxRecDepth 20000 in
theorem k_X6_license_41 : Cond.constant RX6 41 (-100000002) ∈ wsX6_license := List.mem_of_getElem? (i := 3) (by decide +kernel)
set_option maxRecDepth 20000 in
theorem fl_X6_license_60 : FL wsX6_license RX6 60 1 1 0 := FL.of RX1 TX1 6 rfl (fun _ h => List.mem_cons_of_mem _ (List.mem_append_left _ (List.mem_append_left _ (List.mem_append_left _ (List.mem_append_left _ (List.mem_append_right _ h)))))) (List.mem_of_getElem? (i := 4) (by decide +kernel)) (by decide)
set_option maxRecDepth 20000 in
theorem k_X6_license_66 : Cond.constant RX6 66 (-100000005) ∈ wsX6_license := List.mem_of_getElem? (i := 5) (by decide +kernel)
set_option maxRecDepth 20000 in
theorem fl_X6_license_25 : FL wsX6_license RX6 25 6 3 1 := FL.of RX6 TX6 6 rfl (fun _ h => List.mem_cons_of_mem _ (List.mem_append_left _ (List.mem_append_left _ (List.mem_append_left _ (List.mem_append_left _ (List.mem_append_left _ (List.mem_append_right _ h))))))) (List.mem_of_getElem? (i := 6) (by decide +kernel)) (by decide)
set_option maxRecDepth 20000 in
theorem pf_X6_license_60 : PF wsX6_license RX6 60 1 1 0 false .int := ⟨RX1, TX1, 6, tyX1, rfl, (fun _ h => List.mem_cons_of_mem _ (List.mem_append_left _ (List.mem_append_left _ (List.mem_append_left _ (List.mem_append_left _ (List.mem_append_right _ h)))))), by decide, (List.mem_of_getElem? (i := 4) (by decide +kernel)), by decide, by decide, by decide, tyX1_ok, nmX1, rfl, by decide +kernel, fun h => by cases h⟩
set_option maxRecDepth 20000 in
theorem e_X6_license_56 : EV wsX6_license RX6 56 RX4 yX4_farmerAt wsX4_farmerAt 1 4 0 0 4 89 := ⟨cX4_farmerAt, 2, (some (.object "MachineRing$Farmer")), _, TX4, 16, gX6_license_X4_farmerAt, rfl, ⟨rfl, by decide +kernel, by decide +kernel, by decide +kernel⟩, ⟨by decide, by decide⟩, rfl, by decide⟩
set_option maxRecDepth 20000 in
theorem e_X6_license_36 : ES wsX6_license RX6 36 yX6_outside wsX6_outside 3 0 0 4 89 := ⟨cX6_outside, 3, (some .boolean), _, gX6_license_X6_outside, rfl, ⟨by decide +kernel, by decide +kernel, by decide +kernel⟩, ⟨by decide, by decide⟩⟩
set_option maxRecDepth 20000 in
theorem e_X6_license_48 : EV wsX6_license RX6 48 RX2 yX2_push wsX2_push 1 2 3 67 4 89 := ⟨cX2_push, 3, none, _, TX2, 2, gX6_license_X2_push, rfl, ⟨rfl, by decide +kernel, by decide +kernel, by decide +kernel⟩, ⟨by decide, by decide⟩, rfl, by decide⟩
set_option maxRecDepth 20000 in
theorem fl_X6_machine_10 : FL wsX6_machine RX6 10 6 0 1 := FL.of RX6 TX6 6 rfl (fun _ h => List.mem_cons_of_mem _ (List.mem_append_left _ (List.mem_append_left _ (List.mem_append_right _ h)))) (List.mem_of_getElem? (i := 1) (by decide +kernel)) (by decide)
set_option maxRecDepth 20000 in
theorem k_X6_machine_40 : Cond.constant RX6 40 (-100000001) ∈ wsX6_machine := List.mem_of_getElem? (i := 2) (by decide +kernel)
set_option maxRecDepth 20000 in
theorem fl_X6_machine_196 : FL wsX6_machine RX6 196 3 0 0 := FL.of RX3 TX3 8 rfl (fun _ h => List.mem_cons_of_mem _ (List.mem_append_left _ (List.mem_append_right _ h))) (List.mem_of_getElem? (i := 3) (by decide +kernel)) (by decide)
set_option maxRecDepth 20000 in
theorem fl_X6_machine_71 : FL wsX6_machine RX6 71 3 1 0 := FL.of RX3 TX3 8 rfl (fun _ h => List.mem_cons_of_mem _ (List.mem_append_left _ (List.mem_append_right _ h))) (List.mem_of_getElem? (i := 4) (by decide +kernel)) (by decide)
set_option maxRecDepth 20000 in
theorem fl_X6_machine_90 : FL wsX6_machine RX6 90 3 4 3 := FL.of RX3 TX3 8 rfl (fun _ h => List.mem_cons_of_mem _ (List.mem_append_left _ (List.mem_append_right _ h))) (List.mem_of_getElem? (i := 5) (by decide +kernel)) (by decide)
set_option maxRecDepth 20000 in
theorem fl_X6_machine_202 : FL wsX6_machine RX6 202 3 5 0 := FL.of RX3 TX3 8 rfl (fun _ h => List.mem_cons_of_mem _ (List.mem_append_left _ (List.mem_append_right _ h))) (List.mem_of_getElem? (i := 6) (by decide +kernel)) (by decide)
set_option maxRecDepth 20000 in
theorem fl_X6_machine_205 : FL wsX6_machine RX6 205 3 2 0 := FL.of RX3 TX3 8 rfl (fun _ h => List.mem_cons_of_mem _ (List.mem_append_left _ (List.mem_append_right _ h))) (List.mem_of_getElem? (i := 7) (by decide +kernel)) (by decide)
set_option maxRecDepth 20000 in
theorem fl_X6_machine_76 : FL wsX6_machine RX6 76 3 3 2 := FL.of RX3 TX3 8 rfl (fun _ h => List.mem_cons_of_mem _ (List.mem_append_left _ (List.mem_append_right _ h))) (List.mem_of_getElem? (i := 8) (by decide +kernel)) (by decide)
set_option maxRecDepth 20000 in
theorem fl_X6_machine_212 : FL wsX6_machine RX6 212 3 6 0 := FL.of RX3 TX3 8 rfl (fun _ h => List.mem_cons_of_mem _ (List.mem_append_left _ (List.mem_append_right _ h))) (List.mem_of_getElem? (i := 9) (by decide +kernel)) (by decide)
set_option maxRecDepth 20000 in
theorem k_X6_machine_41 : Cond.constant RX6 41 (-100000002) ∈ wsX6_machine := List.mem_of_getElem? (i := 10) (by decide +kernel)
set_option maxRecDepth 20000 in
theorem e_X6_machine_67 : EV wsX6_machine RX6 67 RX4 yX4_machineAt wsX4_machineAt 1 4 0 0 1 23 := ⟨cX4_machineAt, 2, (some (.object "MachineRing$Machine")), _, TX4, 16, gX6_machine_X4_machineAt, rfl, ⟨rfl, by decide +kernel, by decide +kernel, by decide +kernel⟩, ⟨by decide, by decide⟩, rfl, by decide⟩
set_option maxRecDepth 20000 in
theorem e_X6_machine_199 : EV wsX6_machine RX6 199 RX3 yX3_hoursSinceMended wsX3_hoursSinceMended 0 3 0 0 1 23 := ⟨cX3_hoursSinceMended, 3, (some .int), _, TX3, 8, gX6_machine_X3_hoursSinceMended, rfl, ⟨rfl, by decide +kernel, by decide +kernel, by decide +kernel⟩, ⟨by decide, by decide⟩, rfl, by decide⟩
set_option maxRecDepth 20000 in
theorem e_X6_machine_208 : ES wsX6_machine RX6 208 yX6_bitsOf wsX6_bitsOf 1 0 0 1 23 := ⟨cX6_bitsOf, 4, (some .int), _, gX6_machine_X6_bitsOf, rfl, ⟨by decide +kernel, by decide +kernel, by decide +kernel⟩, ⟨by decide, by decide⟩⟩
set_option maxRecDepth 20000 in
theorem fl_X6_mend_10 : FL wsX6_mend RX6 10 6 0 1 := FL.of RX6 TX6 6 rfl (fun _ h => List.mem_cons_of_mem _ (List.mem_append_left _ (List.mem_append_left _ (List.mem_append_left _ (List.mem_append_left _ (List.mem_append_left _ (List.mem_append_right _ h))))))) (List.mem_of_getElem? (i := 1) (by decide +kernel)) (by decide)
set_option maxRecDepth 20000 in
theorem k_X6_mend_40 : Cond.constant RX6 40 (-100000001) ∈ wsX6_mend := List.mem_of_getElem? (i := 2) (by decide +kernel)
set_option maxRecDepth 20000 in
theorem fl_X6_mend_90 : FL wsX6_mend RX6 90 3 4 3 := FL.of RX3 TX3 8 rfl (fun _ h => List.mem_cons_of_mem _ (List.mem_append_left _ (List.mem_append_left _ (List.mem_append_left _ (List.mem_append_left _ (List.mem_append_right _ h)))))) (List.mem_of_getElem? (i := 3) (by decide +kernel)) (by decide)
set_option maxRecDepth 20000 in
theorem k_X6_mend_66 : Cond.constant RX6 66 (-100000005) ∈ wsX6_mend := List.mem_of_getElem? (i := 4) (by decide +kernel)
set_option maxRecDepth 20000 in
theorem fl_X6_mend_25 : FL wsX6_mend RX6 25 6 3 1 := FL.of RX6 TX6 6 rfl (fun _ h => List.mem_cons_of_mem _ (List.mem_append_left _ (List.mem_append_left _ (List.mem_append_left _ (List.mem_append_left _ (List.mem_append_left _ (List.mem_append_right _ h))))))) (List.mem_of_getElem? (i := 5) (by decide +kernel)) (by decide)
set_option maxRecDepth 20000 in
theorem e_X6_mend_67 : EV wsX6_mend RX6 67 RX4 yX4_machineAt wsX4_machineAt 1 4 0 0 4 89 := ⟨cX4_machineAt, 2, (some (.object "MachineRing$Machine")), _, TX4, 16, gX6_mend_X4_machineAt, rfl, ⟨rfl, by decide +kernel, by decide +kernel, by decide +kernel⟩, ⟨by decide, by decide⟩, rfl, by decide⟩
set_option maxRecDepth 20000 in
theorem e_X6_mend_48 : EV wsX6_mend RX6 48 RX2 yX2_push wsX2_push 1 2 3 67 4 89 := ⟨cX2_push, 3, none, _, TX2, 2, gX6_mend_X2_push, rfl, ⟨rfl, by decide +kernel, by decide +kernel, by decide +kernel⟩, ⟨by decide, by decide⟩, rfl, by decide⟩
set_option maxRecDepth 20000 in
theorem e_X6_mend_94 : EV wsX6_mend RX6 94 RX4 yX4_mendAndShare wsX4_mendAndShare 1 4 1 22 4 89 := ⟨cX4_mendAndShare, 7, (some .int), _, TX4, 16, gX6_mend_X4_mendAndShare, rfl, ⟨rfl, by decide +kernel, by decide +kernel, by decide +kernel⟩, ⟨by decide, by decide⟩, rfl, by decide⟩
set_option maxRecDepth 20000 in
theorem k_X6_pass_41 : Cond.constant RX6 41 (-100000002) ∈ wsX6_pass := List.mem_of_getElem? (i := 1) (by decide +kernel)
set_option maxRecDepth 20000 in
theorem fl_X6_pass_25 : FL wsX6_pass RX6 25 6 3 1 := FL.of RX6 TX6 6 rfl (fun _ h => List.mem_cons_of_mem _ (List.mem_append_left _ (List.mem_append_left _ (List.mem_append_left _ (List.mem_append_left _ (List.mem_append_left _ (List.mem_append_right _ h))))))) (List.mem_of_getElem? (i := 2) (by decide +kernel)) (by decide)
set_option maxRecDepth 20000 in
theorem fl_X6_pass_10 : FL wsX6_pass RX6 10 6 0 1 := FL.of RX6 TX6 6 rfl (fun _ h => List.mem_cons_of_mem _ (List.mem_append_left _ (List.mem_append_left _ (List.mem_append_left _ (List.mem_append_left _ (List.mem_append_left _ (List.mem_append_right _ h))))))) (List.mem_of_getElem? (i := 3) (by decide +kernel)) (by decide)
set_option maxRecDepth 20000 in
theorem fl_X6_pass_152 : FL wsX6_pass RX6 152 4 7 0 := FL.of RX4 TX4 16 rfl (fun _ h => List.mem_cons_of_mem _ (List.mem_append_left _ (List.mem_append_left _ (List.mem_append_left _ (List.mem_append_left _ (List.mem_append_right _ h)))))) (List.mem_of_getElem? (i := 4) (by decide +kernel)) (by decide)
set_option maxRecDepth 20000 in
theorem e_X6_pass_36 : ES wsX6_pass RX6 36 yX6_outside wsX6_outside 3 0 0 5 116 := ⟨cX6_outside, 3, (some .boolean), _, gX6_pass_X6_outside, rfl, ⟨by decide +kernel, by decide +kernel, by decide +kernel⟩, ⟨by decide, by decide⟩⟩
set_option maxRecDepth 20000 in
theorem e_X6_pass_48 : EV wsX6_pass RX6 48 RX2 yX2_push wsX2_push 1 2 3 67 5 116 := ⟨cX2_push, 3, none, _, TX2, 2, gX6_pass_X2_push, rfl, ⟨rfl, by decide +kernel, by decide +kernel, by decide +kernel⟩, ⟨by decide, by decide⟩, rfl, by decide⟩
set_option maxRecDepth 20000 in
theorem e_X6_pass_155 : EV wsX6_pass RX6 155 RX4 yX4_passDay wsX4_passDay 0 4 4 93 5 116 := ⟨cX4_passDay, 4, none, _, TX4, 16, gX6_pass_X4_passDay, rfl, ⟨rfl, by decide +kernel, by decide +kernel, by decide +kernel⟩, ⟨by decide, by decide⟩, rfl, by decide⟩
set_option maxRecDepth 20000 in
theorem fl_X6_pay_10 : FL wsX6_pay RX6 10 6 0 1 := FL.of RX6 TX6 6 rfl (fun _ h => List.mem_cons_of_mem _ (List.mem_append_left _ (List.mem_append_left _ (List.mem_append_left _ (List.mem_append_left _ (List.mem_append_left _ (List.mem_append_right _ h))))))) (List.mem_of_getElem? (i := 1) (by decide +kernel)) (by decide)
set_option maxRecDepth 20000 in
theorem k_X6_pay_40 : Cond.constant RX6 40 (-100000001) ∈ wsX6_pay := List.mem_of_getElem? (i := 2) (by decide +kernel)
set_option maxRecDepth 20000 in
theorem k_X6_pay_41 : Cond.constant RX6 41 (-100000002) ∈ wsX6_pay := List.mem_of_getElem? (i := 3) (by decide +kernel)
set_option maxRecDepth 20000 in
theorem fl_X6_pay_25 : FL wsX6_pay RX6 25 6 3 1 := FL.of RX6 TX6 6 rfl (fun _ h => List.mem_cons_of_mem _ (List.mem_append_left _ (List.mem_append_left _ (List.mem_append_left _ (List.mem_append_left _ (List.mem_append_left _ (List.mem_append_right _ h))))))) (List.mem_of_getElem? (i := 4) (by decide +kernel)) (by decide)
set_option maxRecDepth 20000 in
theorem fl_X6_pay_98 : FL wsX6_pay RX6 98 1 0 0 := FL.of RX1 TX1 6 rfl (fun _ h => List.mem_cons_of_mem _ (List.mem_append_left _ (List.mem_append_left _ (List.mem_append_left _ (List.mem_append_left _ (List.mem_append_right _ h)))))) (List.mem_of_getElem? (i := 5) (by decide +kernel)) (by decide)
set_option maxRecDepth 20000 in
theorem pf_X6_pay_98 : PF wsX6_pay RX6 98 1 0 0 false .int := ⟨RX1, TX1, 6, tyX1, rfl, (fun _ h => List.mem_cons_of_mem _ (List.mem_append_left _ (List.mem_append_left _ (List.mem_append_left _ (List.mem_append_left _ (List.mem_append_right _ h)))))), by decide, (List.mem_of_getElem? (i := 5) (by decide +kernel)), by decide, by decide, by decide, tyX1_ok, nmX1, rfl, by decide +kernel, fun h => by cases h⟩
set_option maxRecDepth 20000 in
theorem fl_X6_pay_84 : FL wsX6_pay RX6 84 4 9 0 := FL.of RX4 TX4 16 rfl (fun _ h => List.mem_cons_of_mem _ (List.mem_append_left _ (List.mem_append_left _ (List.mem_append_left _ (List.mem_append_right _ h))))) (List.mem_of_getElem? (i := 6) (by decide +kernel)) (by decide)
set_option maxRecDepth 20000 in
theorem pf_X6_pay_84 : PF wsX6_pay RX6 84 4 9 0 false .int := ⟨RX4, TX4, 16, tyX4, rfl, (fun _ h => List.mem_cons_of_mem _ (List.mem_append_left _ (List.mem_append_left _ (List.mem_append_left _ (List.mem_append_right _ h))))), by decide, (List.mem_of_getElem? (i := 6) (by decide +kernel)), by decide, by decide, by decide, tyX4_ok, nmX4, rfl, by decide +kernel, fun h => by cases h⟩
set_option maxRecDepth 20000 in
theorem fl_X6_pay_101 : FL wsX6_pay RX6 101 4 15 0 := FL.of RX4 TX4 16 rfl (fun _ h => List.mem_cons_of_mem _ (List.mem_append_left _ (List.mem_append_left _ (List.mem_append_left _ (List.mem_append_right _ h))))) (List.mem_of_getElem? (i := 7) (by decide +kernel)) (by decide)
set_option maxRecDepth 20000 in
theorem pf_X6_pay_101 : PF wsX6_pay RX6 101 4 15 0 false .int := ⟨RX4, TX4, 16, tyX4, rfl, (fun _ h => List.mem_cons_of_mem _ (List.mem_append_left _ (List.mem_append_left _ (List.mem_append_left _ (List.mem_append_right _ h))))), by decide, (List.mem_of_getElem? (i := 7) (by decide +kernel)), by decide, by decide, by decide, tyX4_ok, nmX4, rfl, by decide +kernel, fun h => by cases h⟩
set_option maxRecDepth 20000 in
theorem e_X6_pay_56 : EV wsX6_pay RX6 56 RX4 yX4_farmerAt wsX4_farmerAt 1 4 0 0 4 89 := ⟨cX4_farmerAt, 2, (some (.object "MachineRing$Farmer")), _, TX4, 16, gX6_pay_X4_farmerAt, rfl, ⟨rfl, by decide +kernel, by decide +kernel, by decide +kernel⟩, ⟨by decide, by decide⟩, rfl, by decide⟩
set_option maxRecDepth 20000 in
theorem e_X6_pay_36 : ES wsX6_pay RX6 36 yX6_outside wsX6_outside 3 0 0 4 89 := ⟨cX6_outside, 3, (some .boolean), _, gX6_pay_X6_outside, rfl, ⟨by decide +kernel, by decide +kernel, by decide +kernel⟩, ⟨by decide, by decide⟩⟩
set_option maxRecDepth 20000 in
theorem e_X6_pay_48 : EV wsX6_pay RX6 48 RX2 yX2_push wsX2_push 1 2 3 67 4 89 := ⟨cX2_push, 3, none, _, TX2, 2, gX6_pay_X2_push, rfl, ⟨rfl, by decide +kernel, by decide +kernel, by decide +kernel⟩, ⟨by decide, by decide⟩, rfl, by decide⟩
set_option maxRecDepth 20000 in
theorem fl_X6_restore_180 : FL wsX6_restore RX6 180 6 5 3 := FL.of RX6 TX6 6 rfl (fun _ h => List.mem_cons_of_mem _ (List.mem_append_left _ (List.mem_append_left _ (List.mem_append_left _ (List.mem_append_left _ (List.mem_append_left _ (List.mem_append_right _ h))))))) (List.mem_of_getElem? (i := 1) (by decide +kernel)) (by decide)
set_option maxRecDepth 20000 in
theorem k_X6_restore_66 : Cond.constant RX6 66 (-100000005) ∈ wsX6_restore := List.mem_of_getElem? (i := 2) (by decide +kernel)
set_option maxRecDepth 20000 in
theorem fl_X6_restore_25 : FL wsX6_restore RX6 25 6 3 1 := FL.of RX6 TX6 6 rfl (fun _ h => List.mem_cons_of_mem _ (List.mem_append_left _ (List.mem_append_left _ (List.mem_append_left _ (List.mem_append_left _ (List.mem_append_left _ (List.mem_append_right _ h))))))) (List.mem_of_getElem? (i := 3) (by decide +kernel)) (by decide)
set_option maxRecDepth 20000 in
theorem fl_X6_restore_10 : FL wsX6_restore RX6 10 6 0 1 := FL.of RX6 TX6 6 rfl (fun _ h => List.mem_cons_of_mem _ (List.mem_append_left _ (List.mem_append_left _ (List.mem_append_left _ (List.mem_append_left _ (List.mem_append_left _ (List.mem_append_right _ h))))))) (List.mem_of_getElem? (i := 4) (by decide +kernel)) (by decide)
set_option maxRecDepth 20000 in
theorem fl_X6_restore_19 : FL wsX6_restore RX6 19 6 2 1 := FL.of RX6 TX6 6 rfl (fun _ h => List.mem_cons_of_mem _ (List.mem_append_left _ (List.mem_append_left _ (List.mem_append_left _ (List.mem_append_left _ (List.mem_append_left _ (List.mem_append_right _ h))))))) (List.mem_of_getElem? (i := 5) (by decide +kernel)) (by decide)
set_option maxRecDepth 20000 in
theorem fl_X6_restore_183 : FL wsX6_restore RX6 183 4 5 0 := FL.of RX4 TX4 16 rfl (fun _ h => List.mem_cons_of_mem _ (List.mem_append_left _ (List.mem_append_left _ (List.mem_append_left _ (List.mem_append_left _ (List.mem_append_right _ h)))))) (List.mem_of_getElem? (i := 6) (by decide +kernel)) (by decide)
set_option maxRecDepth 20000 in
theorem e_X6_restore_48 : EV wsX6_restore RX6 48 RX2 yX2_push wsX2_push 1 2 3 67 4 89 := ⟨cX2_push, 3, none, _, TX2, 2, gX6_restore_X2_push, rfl, ⟨rfl, by decide +kernel, by decide +kernel, by decide +kernel⟩, ⟨by decide, by decide⟩, rfl, by decide⟩
set_option maxRecDepth 20000 in
theorem e_X6_restore_116 : EV wsX6_restore RX6 116 RX4 yX4_copyFrom wsX4_copyFrom 1 4 2 43 4 89 := ⟨cX4_copyFrom, 5, none, _, TX4, 16, gX6_restore_X4_copyFrom, rfl, ⟨rfl, by decide +kernel, by decide +kernel, by decide +kernel⟩, ⟨by decide, by decide⟩, rfl, by decide⟩
set_option maxRecDepth 20000 in
theorem k_X6_set_41 : Cond.constant RX6 41 (-100000002) ∈ wsX6_set := List.mem_of_getElem? (i := 1) (by decide +kernel)
set_option maxRecDepth 20000 in
theorem fl_X6_set_10 : FL wsX6_set RX6 10 6 0 1 := FL.of RX6 TX6 6 rfl (fun _ h => List.mem_cons_of_mem _ (List.mem_append_left _ (List.mem_append_left _ (List.mem_append_left _ (List.mem_append_left _ (List.mem_append_left _ (List.mem_append_right _ h))))))) (List.mem_of_getElem? (i := 2) (by decide +kernel)) (by decide)
set_option maxRecDepth 20000 in
theorem fl_X6_set_158 : FL wsX6_set RX6 158 4 10 0 := FL.of RX4 TX4 16 rfl (fun _ h => List.mem_cons_of_mem _ (List.mem_append_left _ (List.mem_append_left _ (List.mem_append_left _ (List.mem_append_left _ (List.mem_append_right _ h)))))) (List.mem_of_getElem? (i := 3) (by decide +kernel)) (by decide)
set_option maxRecDepth 20000 in
theorem fl_X6_set_161 : FL wsX6_set RX6 161 4 11 0 := FL.of RX4 TX4 16 rfl (fun _ h => List.mem_cons_of_mem _ (List.mem_append_left _ (List.mem_append_left _ (List.mem_append_left _ (List.mem_append_left _ (List.mem_append_right _ h)))))) (List.mem_of_getElem? (i := 4) (by decide +kernel)) (by decide)
set_option maxRecDepth 20000 in
theorem k_X6_set_66 : Cond.constant RX6 66 (-100000005) ∈ wsX6_set := List.mem_of_getElem? (i := 5) (by decide +kernel)
set_option maxRecDepth 20000 in
theorem fl_X6_set_25 : FL wsX6_set RX6 25 6 3 1 := FL.of RX6 TX6 6 rfl (fun _ h => List.mem_cons_of_mem _ (List.mem_append_left _ (List.mem_append_left _ (List.mem_append_left _ (List.mem_append_left _ (List.mem_append_left _ (List.mem_append_right _ h))))))) (List.mem_of_getElem? (i := 6) (by decide +kernel)) (by decide)
set_option maxRecDepth 20000 in
theorem pf_X6_set_158 : PF wsX6_set RX6 158 4 10 0 false .int := ⟨RX4, TX4, 16, tyX4, rfl, (fun _ h => List.mem_cons_of_mem _ (List.mem_append_left _ (List.mem_append_left _ (List.mem_append_left _ (List.mem_append_left _ (List.mem_append_right _ h)))))), by decide, (List.mem_of_getElem? (i := 3) (by decide +kernel)), by decide, by decide, by decide, tyX4_ok, nmX4, rfl, by decide +kernel, fun h => by cases h⟩
set_option maxRecDepth 20000 in
theorem pf_X6_set_161 : PF wsX6_set RX6 161 4 11 0 false .int := ⟨RX4, TX4, 16, tyX4, rfl, (fun _ h => List.mem_cons_of_mem _ (List.mem_append_left _ (List.mem_append_left _ (List.mem_append_left _ (List.mem_append_left _ (List.mem_append_right _ h)))))), by decide, (List.mem_of_getElem? (i := 4) (by decide +kernel)), by decide, by decide, by decide, tyX4_ok, nmX4, rfl, by decide +kernel, fun h => by cases h⟩
set_option maxRecDepth 20000 in
theorem e_X6_set_36 : ES wsX6_set RX6 36 yX6_outside wsX6_outside 3 0 0 4 89 := ⟨cX6_outside, 3, (some .boolean), _, gX6_set_X6_outside, rfl, ⟨by decide +kernel, by decide +kernel, by decide +kernel⟩, ⟨by decide, by decide⟩⟩
set_option maxRecDepth 20000 in
theorem e_X6_set_48 : EV wsX6_set RX6 48 RX2 yX2_push wsX2_push 1 2 3 67 4 89 := ⟨cX2_push, 3, none, _, TX2, 2, gX6_set_X2_push, rfl, ⟨rfl, by decide +kernel, by decide +kernel, by decide +kernel⟩, ⟨by decide, by decide⟩, rfl, by decide⟩
set_option maxRecDepth 20000 in
theorem fl_X6_setRate_10 : FL wsX6_setRate RX6 10 6 0 1 := FL.of RX6 TX6 6 rfl (fun _ h => List.mem_cons_of_mem _ (List.mem_append_left _ (List.mem_append_left _ (List.mem_append_left _ (List.mem_append_left _ (List.mem_append_left _ (List.mem_append_right _ h))))))) (List.mem_of_getElem? (i := 1) (by decide +kernel)) (by decide)
set_option maxRecDepth 20000 in
theorem k_X6_setRate_40 : Cond.constant RX6 40 (-100000001) ∈ wsX6_setRate := List.mem_of_getElem? (i := 2) (by decide +kernel)
set_option maxRecDepth 20000 in
theorem k_X6_setRate_41 : Cond.constant RX6 41 (-100000002) ∈ wsX6_setRate := List.mem_of_getElem? (i := 3) (by decide +kernel)
set_option maxRecDepth 20000 in
theorem fl_X6_setRate_71 : FL wsX6_setRate RX6 71 3 1 0 := FL.of RX3 TX3 8 rfl (fun _ h => List.mem_cons_of_mem _ (List.mem_append_left _ (List.mem_append_left _ (List.mem_append_left _ (List.mem_append_left _ (List.mem_append_right _ h)))))) (List.mem_of_getElem? (i := 4) (by decide +kernel)) (by decide)
set_option maxRecDepth 20000 in
theorem k_X6_setRate_66 : Cond.constant RX6 66 (-100000005) ∈ wsX6_setRate := List.mem_of_getElem? (i := 5) (by decide +kernel)
set_option maxRecDepth 20000 in
theorem fl_X6_setRate_25 : FL wsX6_setRate RX6 25 6 3 1 := FL.of RX6 TX6 6 rfl (fun _ h => List.mem_cons_of_mem _ (List.mem_append_left _ (List.mem_append_left _ (List.mem_append_left _ (List.mem_append_left _ (List.mem_append_left _ (List.mem_append_right _ h))))))) (List.mem_of_getElem? (i := 6) (by decide +kernel)) (by decide)
set_option maxRecDepth 20000 in
theorem pf_X6_setRate_71 : PF wsX6_setRate RX6 71 3 1 0 false .int := ⟨RX3, TX3, 8, tyX3, rfl, (fun _ h => List.mem_cons_of_mem _ (List.mem_append_left _ (List.mem_append_left _ (List.mem_append_left _ (List.mem_append_left _ (List.mem_append_right _ h)))))), by decide, (List.mem_of_getElem? (i := 4) (by decide +kernel)), by decide, by decide, by decide, tyX3_ok, nmX3, rfl, by decide +kernel, fun h => by cases h⟩
set_option maxRecDepth 20000 in
theorem e_X6_setRate_67 : EV wsX6_setRate RX6 67 RX4 yX4_machineAt wsX4_machineAt 1 4 0 0 4 89 := ⟨cX4_machineAt, 2, (some (.object "MachineRing$Machine")), _, TX4, 16, gX6_setRate_X4_machineAt, rfl, ⟨rfl, by decide +kernel, by decide +kernel, by decide +kernel⟩, ⟨by decide, by decide⟩, rfl, by decide⟩
set_option maxRecDepth 20000 in
theorem e_X6_setRate_36 : ES wsX6_setRate RX6 36 yX6_outside wsX6_outside 3 0 0 4 89 := ⟨cX6_outside, 3, (some .boolean), _, gX6_setRate_X6_outside, rfl, ⟨by decide +kernel, by decide +kernel, by decide +kernel⟩, ⟨by decide, by decide⟩⟩
set_option maxRecDepth 20000 in
theorem e_X6_setRate_48 : EV wsX6_setRate RX6 48 RX2 yX2_push wsX2_push 1 2 3 67 4 89 := ⟨cX2_push, 3, none, _, TX2, 2, gX6_setRate_X2_push, rfl, ⟨rfl, by decide +kernel, by decide +kernel, by decide +kernel⟩, ⟨by decide, by decide⟩, rfl, by decide⟩
set_option maxRecDepth 20000 in
theorem k_X6_setSeed_41 : Cond.constant RX6 41 (-100000002) ∈ wsX6_setSeed := List.mem_of_getElem? (i := 1) (by decide +kernel)
set_option maxRecDepth 20000 in
theorem fl_X6_setSeed_10 : FL wsX6_setSeed RX6 10 6 0 1 := FL.of RX6 TX6 6 rfl (fun _ h => List.mem_cons_of_mem _ (List.mem_append_left _ (List.mem_append_left _ (List.mem_append_left _ (List.mem_append_left _ (List.mem_append_left _ (List.mem_append_right _ h))))))) (List.mem_of_getElem? (i := 2) (by decide +kernel)) (by decide)
set_option maxRecDepth 20000 in
theorem fl_X6_setSeed_164 : FL wsX6_setSeed RX6 164 4 12 0 := FL.of RX4 TX4 16 rfl (fun _ h => List.mem_cons_of_mem _ (List.mem_append_left _ (List.mem_append_left _ (List.mem_append_left _ (List.mem_append_left _ (List.mem_append_right _ h)))))) (List.mem_of_getElem? (i := 3) (by decide +kernel)) (by decide)
set_option maxRecDepth 20000 in
theorem k_X6_setSeed_66 : Cond.constant RX6 66 (-100000005) ∈ wsX6_setSeed := List.mem_of_getElem? (i := 4) (by decide +kernel)
set_option maxRecDepth 20000 in
theorem fl_X6_setSeed_25 : FL wsX6_setSeed RX6 25 6 3 1 := FL.of RX6 TX6 6 rfl (fun _ h => List.mem_cons_of_mem _ (List.mem_append_left _ (List.mem_append_left _ (List.mem_append_left _ (List.mem_append_left _ (List.mem_append_left _ (List.mem_append_right _ h))))))) (List.mem_of_getElem? (i := 5) (by decide +kernel)) (by decide)
set_option maxRecDepth 20000 in
theorem pf_X6_setSeed_164 : PF wsX6_setSeed RX6 164 4 12 0 false .int := ⟨RX4, TX4, 16, tyX4, rfl, (fun _ h => List.mem_cons_of_mem _ (List.mem_append_left _ (List.mem_append_left _ (List.mem_append_left _ (List.mem_append_left _ (List.mem_append_right _ h)))))), by decide, (List.mem_of_getElem? (i := 3) (by decide +kernel)), by decide, by decide, by decide, tyX4_ok, nmX4, rfl, by decide +kernel, fun h => by cases h⟩
set_option maxRecDepth 20000 in
theorem e_X6_setSeed_36 : ES wsX6_setSeed RX6 36 yX6_outside wsX6_outside 3 0 0 4 89 := ⟨cX6_outside, 3, (some .boolean), _, gX6_setSeed_X6_outside, rfl, ⟨by decide +kernel, by decide +kernel, by decide +kernel⟩, ⟨by decide, by decide⟩⟩
set_option maxRecDepth 20000 in
theorem e_X6_setSeed_48 : EV wsX6_setSeed RX6 48 RX2 yX2_push wsX2_push 1 2 3 67 4 89 := ⟨cX2_push, 3, none, _, TX2, 2, gX6_setSeed_X2_push, rfl, ⟨rfl, by decide +kernel, by decide +kernel, by decide +kernel⟩, ⟨by decide, by decide⟩, rfl, by decide⟩
set_option maxRecDepth 20000 in
theorem fl_X6_takeBack_10 : FL wsX6_takeBack RX6 10 6 0 1 := FL.of RX6 TX6 6 rfl (fun _ h => List.mem_cons_of_mem _ (List.mem_append_left _ (List.mem_append_left _ (List.mem_append_left _ (List.mem_append_left _ (List.mem_append_left _ (List.mem_append_right _ h))))))) (List.mem_of_getElem? (i := 1) (by decide +kernel)) (by decide)
set_option maxRecDepth 20000 in
theorem k_X6_takeBack_40 : Cond.constant RX6 40 (-100000001) ∈ wsX6_takeBack := List.mem_of_getElem? (i := 2) (by decide +kernel)
set_option maxRecDepth 20000 in
theorem fl_X6_takeBack_25 : FL wsX6_takeBack RX6 25 6 3 1 := FL.of RX6 TX6 6 rfl (fun _ h => List.mem_cons_of_mem _ (List.mem_append_left _ (List.mem_append_left _ (List.mem_append_left _ (List.mem_append_left _ (List.mem_append_left _ (List.mem_append_right _ h))))))) (List.mem_of_getElem? (i := 3) (by decide +kernel)) (by decide)
set_option maxRecDepth 20000 in
theorem fl_X6_takeBack_149 : FL wsX6_takeBack RX6 149 4 4 0 := FL.of RX4 TX4 16 rfl (fun _ h => List.mem_cons_of_mem _ (List.mem_append_left _ (List.mem_append_left _ (List.mem_append_left _ (List.mem_append_left _ (List.mem_append_right _ h)))))) (List.mem_of_getElem? (i := 4) (by decide +kernel)) (by decide)
set_option maxRecDepth 20000 in
theorem e_X6_takeBack_142 : EV wsX6_takeBack RX6 142 RX4 yX4_placeOf wsX4_placeOf 1 4 1 21 4 89 := ⟨cX4_placeOf, 4, (some .int), _, TX4, 16, gX6_takeBack_X4_placeOf, rfl, ⟨rfl, by decide +kernel, by decide +kernel, by decide +kernel⟩, ⟨by decide, by decide⟩, rfl, by decide⟩
set_option maxRecDepth 20000 in
theorem e_X6_takeBack_48 : EV wsX6_takeBack RX6 48 RX2 yX2_push wsX2_push 1 2 3 67 4 89 := ⟨cX2_push, 3, none, _, TX2, 2, gX6_takeBack_X2_push, rfl, ⟨rfl, by decide +kernel, by decide +kernel, by decide +kernel⟩, ⟨by decide, by decide⟩, rfl, by decide⟩
set_option maxRecDepth 20000 in
theorem e_X6_takeBack_145 : EV wsX6_takeBack RX6 145 RX4 yX4_removeBookingAt wsX4_removeBookingAt 1 4 0 0 4 89 := ⟨cX4_removeBookingAt, 4, none, _, TX4, 16, gX6_takeBack_X4_removeBookingAt, rfl, ⟨rfl, by decide +kernel, by decide +kernel, by decide +kernel⟩, ⟨by decide, by decide⟩, rfl, by decide⟩
set_option maxRecDepth 20000 in
theorem fl_X6_undo_25 : FL wsX6_undo RX6 25 6 3 1 := FL.of RX6 TX6 6 rfl (fun _ h => List.mem_cons_of_mem _ (List.mem_append_left _ (List.mem_append_left _ (List.mem_append_left _ (List.mem_append_left _ (List.mem_append_left _ (List.mem_append_right _ h))))))) (List.mem_of_getElem? (i := 1) (by decide +kernel)) (by decide)
set_option maxRecDepth 20000 in
theorem k_X6_undo_66 : Cond.constant RX6 66 (-100000005) ∈ wsX6_undo := List.mem_of_getElem? (i := 2) (by decide +kernel)
set_option maxRecDepth 20000 in
theorem fl_X6_undo_10 : FL wsX6_undo RX6 10 6 0 1 := FL.of RX6 TX6 6 rfl (fun _ h => List.mem_cons_of_mem _ (List.mem_append_left _ (List.mem_append_left _ (List.mem_append_left _ (List.mem_append_left _ (List.mem_append_left _ (List.mem_append_right _ h))))))) (List.mem_of_getElem? (i := 3) (by decide +kernel)) (by decide)
set_option maxRecDepth 20000 in
theorem fl_X6_undo_177 : FL wsX6_undo RX6 177 2 1 0 := FL.of RX2 TX2 2 rfl (fun _ h => List.mem_cons_of_mem _ (List.mem_append_left _ (List.mem_append_left _ (List.mem_append_left _ (List.mem_append_left _ (List.mem_append_right _ h)))))) (List.mem_of_getElem? (i := 4) (by decide +kernel)) (by decide)
set_option maxRecDepth 20000 in
theorem e_X6_undo_173 : EV wsX6_undo RX6 173 RX2 yX2_takeLatest wsX2_takeLatest 0 2 1 21 3 67 := ⟨cX2_takeLatest, 2, (some (.object "MachineRing$State")), _, TX2, 2, gX6_undo_X2_takeLatest, rfl, ⟨rfl, by decide +kernel, by decide +kernel, by decide +kernel⟩, ⟨by decide, by decide⟩, rfl, by decide⟩
set_option maxRecDepth 20000 in
theorem e_X6_undo_116 : EV wsX6_undo RX6 116 RX4 yX4_copyFrom wsX4_copyFrom 1 4 2 43 3 67 := ⟨cX4_copyFrom, 5, none, _, TX4, 16, gX6_undo_X4_copyFrom, rfl, ⟨rfl, by decide +kernel, by decide +kernel, by decide +kernel⟩, ⟨by decide, by decide⟩, rfl, by decide⟩
set_option maxRecDepth 20000 in
theorem k_X6_useOf_274 : Cond.constantFloat RX6 274 (1091043328) ∈ wsX6_useOf := List.mem_of_getElem? (i := 1) (by decide +kernel)
set_option maxRecDepth 20000 in
theorem k_X6_useOf_275 : Cond.constantFloat RX6 275 (1084751872) ∈ wsX6_useOf := List.mem_of_getElem? (i := 2) (by decide +kernel)
set_option maxRecDepth 20000 in
theorem k_X6_useOf_276 : Cond.constantFloat RX6 276 (1101398016) ∈ wsX6_useOf := List.mem_of_getElem? (i := 3) (by decide +kernel)
