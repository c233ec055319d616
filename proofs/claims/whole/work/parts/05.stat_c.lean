set_option maxRecDepth 20000 in
theorem k_Jxf58ca_floatToIntBits_5c35a_77 : Cond.constant RJxf58ca 77 (2143289344) ∈ wsJxf58ca_floatToIntBits_5c35a := List.mem_of_getElem? (i := 5) (by decide +kernel)
set_option maxRecDepth 20000 in
theorem e_Jxf58ca_floatToIntBits_5c35a_59 : ES wsJxf58ca_floatToIntBits_5c35a RJxf58ca 59 yJxf58ca_isNaN_12338 wsJxf58ca_isNaN_12338 1 0 0 1 23 := ⟨cJxf58ca_isNaN_12338, 1, (some .boolean), _, gJxf58ca_floatToIntBits_5c35a_Jxf58ca_isNaN_12338, rfl, ⟨by decide +kernel, by decide +kernel, by decide +kernel⟩, ⟨by decide, by decide⟩⟩
set_option maxRecDepth 20000 in
theorem e_X7_accounts_66 : EV wsX7_accounts RX7 66 RX7 yX7_ofFarmer wsX7_ofFarmer 2 7 0 0 1 22 := ⟨cX7_ofFarmer, 3, (some .int), _, TX7, 13, gX7_accounts_X7_ofFarmer, rfl, ⟨rfl, by decide +kernel, by decide +kernel, by decide +kernel⟩, ⟨by decide, by decide⟩, rfl, by decide⟩
set_option maxRecDepth 20000 in
theorem fl_X7_addFarmer_7 : FL wsX7_addFarmer RX7 7 7 1 1 := FL.of RX7 TX7 13 rfl (fun _ h => List.mem_cons_of_mem _ (List.mem_append_right _ h)) (List.mem_of_getElem? (i := 1) (by decide +kernel)) (by decide)
set_option maxRecDepth 20000 in
theorem fl_X7_asks_161 : FL wsX7_asks RX7 161 7 10 3 := FL.of RX7 TX7 13 rfl (fun _ h => List.mem_cons_of_mem _ (List.mem_append_right _ h)) (List.mem_of_getElem? (i := 1) (by decide +kernel)) (by decide)
set_option maxRecDepth 20000 in
theorem pf_X7_asks_161 : PF wsX7_asks RX7 161 7 10 3 false .boolean := ⟨RX7, TX7, 13, tyX7, rfl, (fun _ h => List.mem_cons_of_mem _ (List.mem_append_right _ h)), by decide, (List.mem_of_getElem? (i := 1) (by decide +kernel)), by decide, by decide, by decide, tyX7_ok, nmX7, rfl, by decide +kernel, fun h => by cases h⟩
set_option maxRecDepth 20000 in
theorem fl_X7_asks_158 : FL wsX7_asks RX7 158 7 9 0 := FL.of RX7 TX7 13 rfl (fun _ h => List.mem_cons_of_mem _ (List.mem_append_right _ h)) (List.mem_of_getElem? (i := 2) (by decide +kernel)) (by decide)
set_option maxRecDepth 20000 in
theorem pf_X7_asks_158 : PF wsX7_asks RX7 158 7 9 0 false .int := ⟨RX7, TX7, 13, tyX7, rfl, (fun _ h => List.mem_cons_of_mem _ (List.mem_append_right _ h)), by decide, (List.mem_of_getElem? (i := 2) (by decide +kernel)), by decide, by decide, by decide, tyX7_ok, nmX7, rfl, by decide +kernel, fun h => by cases h⟩
set_option maxRecDepth 20000 in
theorem e_X7_asks_165 : EV wsX7_asks RX7 165 RX7 yX7_sign wsX7_sign 0 7 0 0 1 20 := ⟨cX7_sign, 1, (some .int), _, TX7, 13, gX7_asks_X7_sign, rfl, ⟨rfl, by decide +kernel, by decide +kernel, by decide +kernel⟩, ⟨by decide, by decide⟩, rfl, by decide⟩
set_option maxRecDepth 20000 in
theorem pf_X7_book_28 : PF wsX7_book RX7 28 7 0 0 false .int := ⟨RX7, TX7, 13, tyX7, rfl, (fun _ h => List.mem_cons_of_mem _ (List.mem_append_right _ h)), by decide, (List.mem_of_getElem? (i := 1) (by decide +kernel)), by decide, by decide, by decide, tyX7_ok, nmX7, rfl, by decide +kernel, fun h => by cases h⟩
set_option maxRecDepth 20000 in
theorem e_X7_book_132 : EV wsX7_book RX7 132 RX7 yX7_refuses wsX7_refuses 4 7 2 46 3 70 := ⟨cX7_refuses, 5, (some .int), _, TX7, 13, gX7_book_X7_refuses, rfl, ⟨rfl, by decide +kernel, by decide +kernel, by decide +kernel⟩, ⟨by decide, by decide⟩, rfl, by decide⟩
set_option maxRecDepth 20000 in
theorem e_X7_book_122 : EV wsX7_book RX7 122 RX7 yX7_records wsX7_records 0 7 0 0 3 70 := ⟨cX7_records, 2, none, _, TX7, 13, gX7_book_X7_records, rfl, ⟨rfl, by decide +kernel, by decide +kernel, by decide +kernel⟩, ⟨by decide, by decide⟩, rfl, by decide⟩
set_option maxRecDepth 20000 in
theorem e_X7_book_135 : EV wsX7_book RX7 135 RX7 yX7_books wsX7_books 4 7 1 23 3 70 := ⟨cX7_books, 6, (some .int), _, TX7, 13, gX7_book_X7_books, rfl, ⟨rfl, by decide +kernel, by decide +kernel, by decide +kernel⟩, ⟨by decide, by decide⟩, rfl, by decide⟩
set_option maxRecDepth 20000 in
theorem pf_X7_bookAll_28 : PF wsX7_bookAll RX7 28 7 0 0 false .int := ⟨RX7, TX7, 13, tyX7, rfl, (fun _ h => List.mem_cons_of_mem _ (List.mem_append_right _ h)), by decide, (List.mem_of_getElem? (i := 1) (by decide +kernel)), by decide, by decide, by decide, tyX7_ok, nmX7, rfl, by decide +kernel, fun h => by cases h⟩
set_option maxRecDepth 20000 in
theorem k_X7_bookAll_40 : Cond.constant RX7 40 (-100000005) ∈ wsX7_bookAll := List.mem_of_getElem? (i := 2) (by decide +kernel)
set_option maxRecDepth 20000 in
theorem k_X7_bookAll_142 : Cond.constant RX7 142 (-100000100) ∈ wsX7_bookAll := List.mem_of_getElem? (i := 3) (by decide +kernel)
set_option maxRecDepth 20000 in
theorem fl_X7_bookAll_13 : FL wsX7_bookAll RX7 13 7 2 1 := FL.of RX7 TX7 13 rfl (fun _ h => List.mem_cons_of_mem _ (List.mem_append_right _ h)) (List.mem_of_getElem? (i := 4) (by decide +kernel)) (by decide)
set_option maxRecDepth 20000 in
theorem fl_X7_bookAll_7 : FL wsX7_bookAll RX7 7 7 1 1 := FL.of RX7 TX7 13 rfl (fun _ h => List.mem_cons_of_mem _ (List.mem_append_right _ h)) (List.mem_of_getElem? (i := 5) (by decide +kernel)) (by decide)
set_option maxRecDepth 20000 in
theorem fl_X7_bookAll_143 : FL wsX7_bookAll RX7 143 7 12 0 := FL.of RX7 TX7 13 rfl (fun _ h => List.mem_cons_of_mem _ (List.mem_append_right _ h)) (List.mem_of_getElem? (i := 6) (by decide +kernel)) (by decide)
set_option maxRecDepth 20000 in
theorem fl_X7_bookAll_25 : FL wsX7_bookAll RX7 25 7 11 1 := FL.of RX7 TX7 13 rfl (fun _ h => List.mem_cons_of_mem _ (List.mem_append_right _ h)) (List.mem_of_getElem? (i := 7) (by decide +kernel)) (by decide)
set_option maxRecDepth 20000 in
theorem e_X7_bookAll_138 : EV wsX7_bookAll RX7 138 RX7 yX7_reads wsX7_reads 0 7 3 65 4 85 := ⟨cX7_reads, 1, (some .int), _, TX7, 13, gX7_bookAll_X7_reads, rfl, ⟨rfl, by decide +kernel, by decide +kernel, by decide +kernel⟩, ⟨by decide, by decide⟩, rfl, by decide⟩
set_option maxRecDepth 20000 in
theorem e_X7_bookAll_132 : EV wsX7_bookAll RX7 132 RX7 yX7_refuses wsX7_refuses 4 7 2 46 4 85 := ⟨cX7_refuses, 5, (some .int), _, TX7, 13, gX7_bookAll_X7_refuses, rfl, ⟨rfl, by decide +kernel, by decide +kernel, by decide +kernel⟩, ⟨by decide, by decide⟩, rfl, by decide⟩
set_option maxRecDepth 20000 in
theorem e_X7_bookAll_146 : EV wsX7_bookAll RX7 146 RX7 yX7_swapsAside wsX7_swapsAside 0 7 0 0 4 85 := ⟨cX7_swapsAside, 3, none, _, TX7, 13, gX7_bookAll_X7_swapsAside, rfl, ⟨rfl, by decide +kernel, by decide +kernel, by decide +kernel⟩, ⟨by decide, by decide⟩, rfl, by decide⟩
set_option maxRecDepth 20000 in
theorem e_X7_bookAll_135 : EV wsX7_bookAll RX7 135 RX7 yX7_books wsX7_books 4 7 1 23 4 85 := ⟨cX7_books, 6, (some .int), _, TX7, 13, gX7_bookAll_X7_books, rfl, ⟨rfl, by decide +kernel, by decide +kernel, by decide +kernel⟩, ⟨by decide, by decide⟩, rfl, by decide⟩
set_option maxRecDepth 20000 in
theorem e_X7_bookAll_122 : EV wsX7_bookAll RX7 122 RX7 yX7_records wsX7_records 0 7 0 0 4 85 := ⟨cX7_records, 2, none, _, TX7, 13, gX7_bookAll_X7_records, rfl, ⟨rfl, by decide +kernel, by decide +kernel, by decide +kernel⟩, ⟨by decide, by decide⟩, rfl, by decide⟩
set_option maxRecDepth 20000 in
theorem pf_X7_booked_28 : PF wsX7_booked RX7 28 7 0 0 false .int := ⟨RX7, TX7, 13, tyX7, rfl, (fun _ h => List.mem_cons_of_mem _ (List.mem_append_right _ h)), by decide, (List.mem_of_getElem? (i := 1) (by decide +kernel)), by decide, by decide, by decide, tyX7_ok, nmX7, rfl, by decide +kernel, fun h => by cases h⟩
set_option maxRecDepth 20000 in
theorem k_X7_booked_115 : Cond.constant RX7 115 (-100000001) ∈ wsX7_booked := List.mem_of_getElem? (i := 2) (by decide +kernel)
set_option maxRecDepth 20000 in
theorem fl_X7_booked_7 : FL wsX7_booked RX7 7 7 1 1 := FL.of RX7 TX7 13 rfl (fun _ h => List.mem_cons_of_mem _ (List.mem_append_right _ h)) (List.mem_of_getElem? (i := 3) (by decide +kernel)) (by decide)
set_option maxRecDepth 20000 in
theorem k_X7_booked_116 : Cond.constant RX7 116 (-100000002) ∈ wsX7_booked := List.mem_of_getElem? (i := 4) (by decide +kernel)
set_option maxRecDepth 20000 in
theorem e_X7_booked_128 : EV wsX7_booked RX7 128 RX7 yX7_isMachine wsX7_isMachine 1 7 1 22 2 46 := ⟨cX7_isMachine, 2, (some .boolean), _, TX7, 13, gX7_booked_X7_isMachine, rfl, ⟨rfl, by decide +kernel, by decide +kernel, by decide +kernel⟩, ⟨by decide, by decide⟩, rfl, by decide⟩
set_option maxRecDepth 20000 in
theorem e_X7_booked_32 : ES wsX7_booked RX7 32 yX7_in wsX7_in 3 0 0 2 46 := ⟨cX7_in, 3, (some .boolean), _, gX7_booked_X7_in, rfl, ⟨by decide +kernel, by decide +kernel, by decide +kernel⟩, ⟨by decide, by decide⟩⟩
set_option maxRecDepth 20000 in
theorem e_X7_booked_84 : EV wsX7_booked RX7 84 RX7 yX7_bookedOn wsX7_bookedOn 2 7 1 22 2 46 := ⟨cX7_bookedOn, 5, (some .int), _, TX7, 13, gX7_booked_X7_bookedOn, rfl, ⟨rfl, by decide +kernel, by decide +kernel, by decide +kernel⟩, ⟨by decide, by decide⟩, rfl, by decide⟩
set_option maxRecDepth 20000 in
theorem fl_X7_bookedOn_7 : FL wsX7_bookedOn RX7 7 7 1 1 := FL.of RX7 TX7 13 rfl (fun _ h => List.mem_cons_of_mem _ (List.mem_append_right _ h)) (List.mem_of_getElem? (i := 1) (by decide +kernel)) (by decide)
set_option maxRecDepth 20000 in
theorem e_X7_bookedOn_36 : EV wsX7_bookedOn RX7 36 RX7 yX7_ofBooking wsX7_ofBooking 2 7 0 0 1 22 := ⟨cX7_ofBooking, 3, (some .int), _, TX7, 13, gX7_bookedOn_X7_ofBooking, rfl, ⟨rfl, by decide +kernel, by decide +kernel, by decide +kernel⟩, ⟨by decide, by decide⟩, rfl, by decide⟩
set_option maxRecDepth 20000 in
theorem pf_X7_booking_28 : PF wsX7_booking RX7 28 7 0 0 false .int := ⟨RX7, TX7, 13, tyX7, rfl, (fun _ h => List.mem_cons_of_mem _ (List.mem_append_right _ h)), by decide, (List.mem_of_getElem? (i := 1) (by decide +kernel)), by decide, by decide, by decide, tyX7_ok, nmX7, rfl, by decide +kernel, fun h => by cases h⟩
set_option maxRecDepth 20000 in
theorem k_X7_booking_40 : Cond.constant RX7 40 (-100000005) ∈ wsX7_booking := List.mem_of_getElem? (i := 2) (by decide +kernel)
set_option maxRecDepth 20000 in
theorem k_X7_booking_115 : Cond.constant RX7 115 (-100000001) ∈ wsX7_booking := List.mem_of_getElem? (i := 3) (by decide +kernel)
set_option maxRecDepth 20000 in
theorem k_X7_booking_116 : Cond.constant RX7 116 (-100000002) ∈ wsX7_booking := List.mem_of_getElem? (i := 4) (by decide +kernel)
set_option maxRecDepth 20000 in
theorem e_X7_booking_149 : EV wsX7_booking RX7 149 RX7 yX7_placeOf wsX7_placeOf 1 7 1 22 3 66 := ⟨cX7_placeOf, 3, (some .int), _, TX7, 13, gX7_booking_X7_placeOf, rfl, ⟨rfl, by decide +kernel, by decide +kernel, by decide +kernel⟩, ⟨by decide, by decide⟩, rfl, by decide⟩
set_option maxRecDepth 20000 in
theorem e_X7_booking_36 : EV wsX7_booking RX7 36 RX7 yX7_ofBooking wsX7_ofBooking 2 7 0 0 3 66 := ⟨cX7_ofBooking, 3, (some .int), _, TX7, 13, gX7_booking_X7_ofBooking, rfl, ⟨rfl, by decide +kernel, by decide +kernel, by decide +kernel⟩, ⟨by decide, by decide⟩, rfl, by decide⟩
set_option maxRecDepth 20000 in
theorem e_X7_booking_87 : EV wsX7_booking RX7 87 RX7 yX7_charge wsX7_charge 4 7 2 40 3 66 := ⟨cX7_charge, 7, (some .int), _, TX7, 13, gX7_booking_X7_charge, rfl, ⟨rfl, by decide +kernel, by decide +kernel, by decide +kernel⟩, ⟨by decide, by decide⟩, rfl, by decide⟩
set_option maxRecDepth 20000 in
theorem e_X7_booking_32 : ES wsX7_booking RX7 32 yX7_in wsX7_in 3 0 0 3 66 := ⟨cX7_in, 3, (some .boolean), _, gX7_booking_X7_in, rfl, ⟨by decide +kernel, by decide +kernel, by decide +kernel⟩, ⟨by decide, by decide⟩⟩
set_option maxRecDepth 20000 in
theorem fl_X7_books_7 : FL wsX7_books RX7 7 7 1 1 := FL.of RX7 TX7 13 rfl (fun _ h => List.mem_cons_of_mem _ (List.mem_append_right _ h)) (List.mem_of_getElem? (i := 1) (by decide +kernel)) (by decide)
set_option maxRecDepth 20000 in
theorem e_X7_books_69 : EV wsX7_books RX7 69 RX7 yX7_layBooking wsX7_layBooking 3 7 0 0 1 23 := ⟨cX7_layBooking, 4, none, _, TX7, 13, gX7_books_X7_layBooking, rfl, ⟨rfl, by decide +kernel, by decide +kernel, by decide +kernel⟩, ⟨by decide, by decide⟩, rfl, by decide⟩
set_option maxRecDepth 20000 in
theorem fl_X7_brokenOnes_7 : FL wsX7_brokenOnes RX7 7 7 1 1 := FL.of RX7 TX7 13 rfl (fun _ h => List.mem_cons_of_mem _ (List.mem_append_right _ h)) (List.mem_of_getElem? (i := 1) (by decide +kernel)) (by decide)
set_option maxRecDepth 20000 in
theorem e_X7_brokenOnes_51 : EV wsX7_brokenOnes RX7 51 RX7 yX7_ofMachine wsX7_ofMachine 2 7 0 0 1 22 := ⟨cX7_ofMachine, 3, (some .int), _, TX7, 13, gX7_brokenOnes_X7_ofMachine, rfl, ⟨rfl, by decide +kernel, by decide +kernel, by decide +kernel⟩, ⟨by decide, by decide⟩, rfl, by decide⟩
set_option maxRecDepth 20000 in
theorem pf_X7_buy_28 : PF wsX7_buy RX7 28 7 0 0 false .int := ⟨RX7, TX7, 13, tyX7, rfl, (fun _ h => List.mem_cons_of_mem _ (List.mem_append_right _ h)), by decide, (List.mem_of_getElem? (i := 1) (by decide +kernel)), by decide, by decide, by decide, tyX7_ok, nmX7, rfl, by decide +kernel, fun h => by cases h⟩
set_option maxRecDepth 20000 in
theorem k_X7_buy_115 : Cond.constant RX7 115 (-100000001) ∈ wsX7_buy := List.mem_of_getElem? (i := 2) (by decide +kernel)
set_option maxRecDepth 20000 in
theorem k_X7_buy_116 : Cond.constant RX7 116 (-100000002) ∈ wsX7_buy := List.mem_of_getElem? (i := 3) (by decide +kernel)
set_option maxRecDepth 20000 in
theorem k_X7_buy_120 : Cond.constant RX7 120 (-100000003) ∈ wsX7_buy := List.mem_of_getElem? (i := 4) (by decide +kernel)
set_option maxRecDepth 20000 in
theorem k_X7_buy_121 : Cond.constant RX7 121 (-100000004) ∈ wsX7_buy := List.mem_of_getElem? (i := 5) (by decide +kernel)
set_option maxRecDepth 20000 in
theorem fl_X7_buy_7 : FL wsX7_buy RX7 7 7 1 1 := FL.of RX7 TX7 13 rfl (fun _ h => List.mem_cons_of_mem _ (List.mem_append_right _ h)) (List.mem_of_getElem? (i := 6) (by decide +kernel)) (by decide)
set_option maxRecDepth 20000 in
theorem e_X7_buy_32 : ES wsX7_buy RX7 32 yX7_in wsX7_in 3 0 0 2 45 := ⟨cX7_in, 3, (some .boolean), _, gX7_buy_X7_in, rfl, ⟨by decide +kernel, by decide +kernel, by decide +kernel⟩, ⟨by decide, by decide⟩⟩
set_option maxRecDepth 20000 in
theorem e_X7_buy_117 : EV wsX7_buy RX7 117 RX7 yX7_machinesOf wsX7_machinesOf 1 7 1 22 2 45 := ⟨cX7_machinesOf, 4, (some .int), _, TX7, 13, gX7_buy_X7_machinesOf, rfl, ⟨rfl, by decide +kernel, by decide +kernel, by decide +kernel⟩, ⟨by decide, by decide⟩, rfl, by decide⟩
set_option maxRecDepth 20000 in
theorem e_X7_buy_122 : EV wsX7_buy RX7 122 RX7 yX7_records wsX7_records 0 7 0 0 2 45 := ⟨cX7_records, 2, none, _, TX7, 13, gX7_buy_X7_records, rfl, ⟨rfl, by decide +kernel, by decide +kernel, by decide +kernel⟩, ⟨by decide, by decide⟩, rfl, by decide⟩
set_option maxRecDepth 20000 in
theorem e_X7_buy_95 : EV wsX7_buy RX7 95 RX7 yX7_layMachine wsX7_layMachine 3 7 0 0 2 45 := ⟨cX7_layMachine, 4, none, _, TX7, 13, gX7_buy_X7_layMachine, rfl, ⟨rfl, by decide +kernel, by decide +kernel, by decide +kernel⟩, ⟨by decide, by decide⟩, rfl, by decide⟩
set_option maxRecDepth 20000 in
theorem e_X7_charge_51 : EV wsX7_charge RX7 51 RX7 yX7_ofMachine wsX7_ofMachine 2 7 0 0 2 40 := ⟨cX7_ofMachine, 3, (some .int), _, TX7, 13, gX7_charge_X7_ofMachine, rfl, ⟨rfl, by decide +kernel, by decide +kernel, by decide +kernel⟩, ⟨by decide, by decide⟩, rfl, by decide⟩
set_option maxRecDepth 20000 in
theorem e_X7_charge_63 : ES wsX7_charge RX7 63 yX7_factor wsX7_factor 1 1 20 2 40 := ⟨cX7_factor, 1, (some .float), _, gX7_charge_X7_factor, rfl, ⟨by decide +kernel, by decide +kernel, by decide +kernel⟩, ⟨by decide, by decide⟩⟩
set_option maxRecDepth 20000 in
theorem e_X7_charge_66 : EV wsX7_charge RX7 66 RX7 yX7_ofFarmer wsX7_ofFarmer 2 7 0 0 2 40 := ⟨cX7_ofFarmer, 3, (some .int), _, TX7, 13, gX7_charge_X7_ofFarmer, rfl, ⟨rfl, by decide +kernel, by decide +kernel, by decide +kernel⟩, ⟨by decide, by decide⟩, rfl, by decide⟩
set_option maxRecDepth 20000 in
theorem pf_X7_clearText_28 : PF wsX7_clearText RX7 28 7 0 0 false .int := ⟨RX7, TX7, 13, tyX7, rfl, (fun _ h => List.mem_cons_of_mem _ (List.mem_append_right _ h)), by decide, (List.mem_of_getElem? (i := 1) (by decide +kernel)), by decide, by decide, by decide, tyX7_ok, nmX7, rfl, by decide +kernel, fun h => by cases h⟩
set_option maxRecDepth 20000 in
theorem fl_X7_clearText_155 : FL wsX7_clearText RX7 155 7 8 0 := FL.of RX7 TX7 13 rfl (fun _ h => List.mem_cons_of_mem _ (List.mem_append_right _ h)) (List.mem_of_getElem? (i := 2) (by decide +kernel)) (by decide)
set_option maxRecDepth 20000 in
theorem pf_X7_clearText_155 : PF wsX7_clearText RX7 155 7 8 0 false .int := ⟨RX7, TX7, 13, tyX7, rfl, (fun _ h => List.mem_cons_of_mem _ (List.mem_append_right _ h)), by decide, (List.mem_of_getElem? (i := 2) (by decide +kernel)), by decide, by decide, by decide, tyX7_ok, nmX7, rfl, by decide +kernel, fun h => by cases h⟩
set_option maxRecDepth 20000 in
theorem pf_X7_count_28 : PF wsX7_count RX7 28 7 0 0 false .int := ⟨RX7, TX7, 13, tyX7, rfl, (fun _ h => List.mem_cons_of_mem _ (List.mem_append_right _ h)), by decide, (List.mem_of_getElem? (i := 1) (by decide +kernel)), by decide, by decide, by decide, tyX7_ok, nmX7, rfl, by decide +kernel, fun h => by cases h⟩
set_option maxRecDepth 20000 in
theorem fl_X7_count_7 : FL wsX7_count RX7 7 7 1 1 := FL.of RX7 TX7 13 rfl (fun _ h => List.mem_cons_of_mem _ (List.mem_append_right _ h)) (List.mem_of_getElem? (i := 2) (by decide +kernel)) (by decide)
set_option maxRecDepth 20000 in
theorem fl_X7_count_41 : FL wsX7_count RX7 41 7 4 0 := FL.of RX7 TX7 13 rfl (fun _ h => List.mem_cons_of_mem _ (List.mem_append_right _ h)) (List.mem_of_getElem? (i := 3) (by decide +kernel)) (by decide)
set_option maxRecDepth 20000 in
theorem fl_X7_count_155 : FL wsX7_count RX7 155 7 8 0 := FL.of RX7 TX7 13 rfl (fun _ h => List.mem_cons_of_mem _ (List.mem_append_right _ h)) (List.mem_of_getElem? (i := 4) (by decide +kernel)) (by decide)
set_option maxRecDepth 20000 in
theorem k_X7_count_116 : Cond.constant RX7 116 (-100000002) ∈ wsX7_count := List.mem_of_getElem? (i := 5) (by decide +kernel)
set_option maxRecDepth 20000 in
theorem e_X7_count_44 : ES wsX7_count RX7 44 yX7_season wsX7_season 1 0 0 2 44 := ⟨cX7_season, 1, (some .int), _, gX7_count_X7_season, rfl, ⟨by decide +kernel, by decide +kernel, by decide +kernel⟩, ⟨by decide, by decide⟩⟩
set_option maxRecDepth 20000 in
theorem e_X7_count_191 : EV wsX7_count RX7 191 RX7 yX7_accounts wsX7_accounts 0 7 1 22 2 44 := ⟨cX7_accounts, 3, (some .int), _, TX7, 13, gX7_count_X7_accounts, rfl, ⟨rfl, by decide +kernel, by decide +kernel, by decide +kernel⟩, ⟨by decide, by decide⟩, rfl, by decide⟩
set_option maxRecDepth 20000 in
theorem e_X7_count_194 : EV wsX7_count RX7 194 RX7 yX7_brokenOnes wsX7_brokenOnes 0 7 1 22 2 44 := ⟨cX7_brokenOnes, 3, (some .int), _, TX7, 13, gX7_count_X7_brokenOnes, rfl, ⟨rfl, by decide +kernel, by decide +kernel, by decide +kernel⟩, ⟨by decide, by decide⟩, rfl, by decide⟩
set_option maxRecDepth 20000 in
theorem e_X7_count_32 : ES wsX7_count RX7 32 yX7_in wsX7_in 3 0 0 2 44 := ⟨cX7_in, 3, (some .boolean), _, gX7_count_X7_in, rfl, ⟨by decide +kernel, by decide +kernel, by decide +kernel⟩, ⟨by decide, by decide⟩⟩
set_option maxRecDepth 20000 in
theorem fl_X7_digit_161 : FL wsX7_digit RX7 161 7 10 3 := FL.of RX7 TX7 13 rfl (fun _ h => List.mem_cons_of_mem _ (List.mem_append_right _ h)) (List.mem_of_getElem? (i := 1) (by decide +kernel)) (by decide)
set_option maxRecDepth 20000 in
theorem pf_X7_digit_161 : PF wsX7_digit RX7 161 7 10 3 false .boolean := ⟨RX7, TX7, 13, tyX7, rfl, (fun _ h => List.mem_cons_of_mem _ (List.mem_append_right _ h)), by decide, (List.mem_of_getElem? (i := 1) (by decide +kernel)), by decide, by decide, by decide, tyX7_ok, nmX7, rfl, by decide +kernel, fun h => by cases h⟩
set_option maxRecDepth 20000 in
theorem fl_X7_digit_158 : FL wsX7_digit RX7 158 7 9 0 := FL.of RX7 TX7 13 rfl (fun _ h => List.mem_cons_of_mem _ (List.mem_append_right _ h)) (List.mem_of_getElem? (i := 2) (by decide +kernel)) (by decide)
set_option maxRecDepth 20000 in
theorem pf_X7_digit_158 : PF wsX7_digit RX7 158 7 9 0 false .int := ⟨RX7, TX7, 13, tyX7, rfl, (fun _ h => List.mem_cons_of_mem _ (List.mem_append_right _ h)), by decide, (List.mem_of_getElem? (i := 2) (by decide +kernel)), by decide, by decide, by decide, tyX7_ok, nmX7, rfl, by decide +kernel, fun h => by cases h⟩
set_option maxRecDepth 20000 in
theorem e_X7_digit_165 : EV wsX7_digit RX7 165 RX7 yX7_sign wsX7_sign 0 7 0 0 1 22 := ⟨cX7_sign, 1, (some .int), _, TX7, 13, gX7_digit_X7_sign, rfl, ⟨rfl, by decide +kernel, by decide +kernel, by decide +kernel⟩, ⟨by decide, by decide⟩, rfl, by decide⟩
set_option maxRecDepth 20000 in
theorem e_X7_digit_32 : ES wsX7_digit RX7 32 yX7_in wsX7_in 3 0 0 1 22 := ⟨cX7_in, 3, (some .boolean), _, gX7_digit_X7_in, rfl, ⟨by decide +kernel, by decide +kernel, by decide +kernel⟩, ⟨by decide, by decide⟩⟩
set_option maxRecDepth 20000 in
theorem fl_X7_does_7 : FL wsX7_does RX7 7 7 1 1 := FL.of RX7 TX7 13 rfl (fun _ h => List.mem_cons_of_mem _ (List.mem_append_right _ h)) (List.mem_of_getElem? (i := 1) (by decide +kernel)) (by decide)
set_option maxRecDepth 20000 in
theorem e_X7_does_36 : EV wsX7_does RX7 36 RX7 yX7_ofBooking wsX7_ofBooking 2 7 0 0 3 66 := ⟨cX7_ofBooking, 3, (some .int), _, TX7, 13, gX7_does_X7_ofBooking, rfl, ⟨rfl, by decide +kernel, by decide +kernel, by decide +kernel⟩, ⟨by decide, by decide⟩, rfl, by decide⟩
set_option maxRecDepth 20000 in
theorem e_X7_does_87 : EV wsX7_does RX7 87 RX7 yX7_charge wsX7_charge 4 7 2 40 3 66 := ⟨cX7_charge, 7, (some .int), _, TX7, 13, gX7_does_X7_charge, rfl, ⟨rfl, by decide +kernel, by decide +kernel, by decide +kernel⟩, ⟨by decide, by decide⟩, rfl, by decide⟩
set_option maxRecDepth 20000 in
theorem e_X7_does_77 : EV wsX7_does RX7 77 RX7 yX7_fuelOf wsX7_fuelOf 1 7 1 23 3 66 := ⟨cX7_fuelOf, 2, (some .float), _, TX7, 13, gX7_does_X7_fuelOf, rfl, ⟨rfl, by decide +kernel, by decide +kernel, by decide +kernel⟩, ⟨by decide, by decide⟩, rfl, by decide⟩
set_option maxRecDepth 20000 in
theorem e_X7_does_80 : EV wsX7_does RX7 80 RX7 yX7_wants wsX7_wants 2 7 1 22 3 66 := ⟨cX7_wants, 5, (some .float), _, TX7, 13, gX7_does_X7_wants, rfl, ⟨rfl, by decide +kernel, by decide +kernel, by decide +kernel⟩, ⟨by decide, by decide⟩, rfl, by decide⟩
set_option maxRecDepth 20000 in
theorem e_X7_does_91 : ES wsX7_does RX7 91 yJxf58ca_floatToIntBits_5c35a wsJxf58ca_floatToIntBits_5c35a 1 1 23 3 66 := ⟨cJxf58ca_floatToIntBits_5c35a, 1, (some .int), _, gX7_does_Jxf58ca_floatToIntBits_5c35a, rfl, ⟨by decide +kernel, by decide +kernel, by decide +kernel⟩, ⟨by decide, by decide⟩⟩
set_option maxRecDepth 20000 in
theorem e_X7_does_95 : EV wsX7_does RX7 95 RX7 yX7_layMachine wsX7_layMachine 3 7 0 0 3 66 := ⟨cX7_layMachine, 4, none, _, TX7, 13, gX7_does_X7_layMachine, rfl, ⟨rfl, by decide +kernel, by decide +kernel, by decide +kernel⟩, ⟨by decide, by decide⟩, rfl, by decide⟩
set_option maxRecDepth 20000 in
theorem e_X7_does_98 : EV wsX7_does RX7 98 RX7 yX7_addFarmer wsX7_addFarmer 3 7 0 0 3 66 := ⟨cX7_addFarmer, 4, none, _, TX7, 13, gX7_does_X7_addFarmer, rfl, ⟨rfl, by decide +kernel, by decide +kernel, by decide +kernel⟩, ⟨by decide, by decide⟩, rfl, by decide⟩
set_option maxRecDepth 20000 in
theorem e_X7_does_51 : EV wsX7_does RX7 51 RX7 yX7_ofMachine wsX7_ofMachine 2 7 0 0 3 66 := ⟨cX7_ofMachine, 3, (some .int), _, TX7, 13, gX7_does_X7_ofMachine, rfl, ⟨rfl, by decide +kernel, by decide +kernel, by decide +kernel⟩, ⟨by decide, by decide⟩, rfl, by decide⟩
set_option maxRecDepth 20000 in
theorem e_X7_does_101 : EV wsX7_does RX7 101 RX7 yX7_dropsBooking wsX7_dropsBooking 1 7 1 23 3 66 := ⟨cX7_dropsBooking, 3, none, _, TX7, 13, gX7_does_X7_dropsBooking, rfl, ⟨rfl, by decide +kernel, by decide +kernel, by decide +kernel⟩, ⟨by decide, by decide⟩, rfl, by decide⟩
set_option maxRecDepth 20000 in
theorem fl_X7_dropsBooking_7 : FL wsX7_dropsBooking RX7 7 7 1 1 := FL.of RX7 TX7 13 rfl (fun _ h => List.mem_cons_of_mem _ (List.mem_append_right _ h)) (List.mem_of_getElem? (i := 1) (by decide +kernel)) (by decide)
set_option maxRecDepth 20000 in
theorem e_X7_dropsBooking_69 : EV wsX7_dropsBooking RX7 69 RX7 yX7_layBooking wsX7_layBooking 3 7 0 0 1 23 := ⟨cX7_layBooking, 4, none, _, TX7, 13, gX7_dropsBooking_X7_layBooking, rfl, ⟨rfl, by decide +kernel, by decide +kernel, by decide +kernel⟩, ⟨by decide, by decide⟩, rfl, by decide⟩
set_option maxRecDepth 20000 in
theorem k_X7_factor_48 : Cond.constantFloat RX7 48 (1069547520) ∈ wsX7_factor := List.mem_of_getElem? (i := 1) (by decide +kernel)
set_option maxRecDepth 20000 in
theorem k_X7_factor_49 : Cond.constantFloat RX7 49 (1067450368) ∈ wsX7_factor := List.mem_of_getElem? (i := 2) (by decide +kernel)
set_option maxRecDepth 20000 in
theorem k_X7_factor_50 : Cond.constantFloat RX7 50 (1056964608) ∈ wsX7_factor := List.mem_of_getElem? (i := 3) (by decide +kernel)
set_option maxRecDepth 20000 in
theorem e_X7_factor_44 : ES wsX7_factor RX7 44 yX7_season wsX7_season 1 0 0 1 20 := ⟨cX7_season, 1, (some .int), _, gX7_factor_X7_season, rfl, ⟨by decide +kernel, by decide +kernel, by decide +kernel⟩, ⟨by decide, by decide⟩⟩
set_option maxRecDepth 20000 in
theorem pf_X7_farmer_28 : PF wsX7_farmer RX7 28 7 0 0 false .int := ⟨RX7, TX7, 13, tyX7, rfl, (fun _ h => List.mem_cons_of_mem _ (List.mem_append_right _ h)), by decide, (List.mem_of_getElem? (i := 1) (by decide +kernel)), by decide, by decide, by decide, tyX7_ok, nmX7, rfl, by decide +kernel, fun h => by cases h⟩
set_option maxRecDepth 20000 in
theorem k_X7_farmer_115 : Cond.constant RX7 115 (-100000001) ∈ wsX7_farmer := List.mem_of_getElem? (i := 2) (by decide +kernel)
set_option maxRecDepth 20000 in
theorem k_X7_farmer_116 : Cond.constant RX7 116 (-100000002) ∈ wsX7_farmer := List.mem_of_getElem? (i := 3) (by decide +kernel)
set_option maxRecDepth 20000 in
theorem e_X7_farmer_125 : ES wsX7_farmer RX7 125 yX7_isFarmer wsX7_isFarmer 1 1 22 2 45 := ⟨cX7_isFarmer, 1, (some .boolean), _, gX7_farmer_X7_isFarmer, rfl, ⟨by decide +kernel, by decide +kernel, by decide +kernel⟩, ⟨by decide, by decide⟩⟩
set_option maxRecDepth 20000 in
theorem e_X7_farmer_66 : EV wsX7_farmer RX7 66 RX7 yX7_ofFarmer wsX7_ofFarmer 2 7 0 0 2 45 := ⟨cX7_ofFarmer, 3, (some .int), _, TX7, 13, gX7_farmer_X7_ofFarmer, rfl, ⟨rfl, by decide +kernel, by decide +kernel, by decide +kernel⟩, ⟨by decide, by decide⟩, rfl, by decide⟩
set_option maxRecDepth 20000 in
theorem e_X7_farmer_183 : EV wsX7_farmer RX7 183 RX7 yX7_standingOf wsX7_standingOf 1 7 1 22 2 45 := ⟨cX7_standingOf, 4, (some .int), _, TX7, 13, gX7_farmer_X7_standingOf, rfl, ⟨rfl, by decide +kernel, by decide +kernel, by decide +kernel⟩, ⟨by decide, by decide⟩, rfl, by decide⟩
set_option maxRecDepth 20000 in
theorem pf_X7_fill_28 : PF wsX7_fill RX7 28 7 0 0 false .int := ⟨RX7, TX7, 13, tyX7, rfl, (fun _ h => List.mem_cons_of_mem _ (List.mem_append_right _ h)), by decide, (List.mem_of_getElem? (i := 1) (by decide +kernel)), by decide, by decide, by decide, tyX7_ok, nmX7, rfl, by decide +kernel, fun h => by cases h⟩
set_option maxRecDepth 20000 in
theorem k_X7_fill_115 : Cond.constant RX7 115 (-100000001) ∈ wsX7_fill := List.mem_of_getElem? (i := 2) (by decide +kernel)
set_option maxRecDepth 20000 in
theorem k_X7_fill_116 : Cond.constant RX7 116 (-100000002) ∈ wsX7_fill := List.mem_of_getElem? (i := 3) (by decide +kernel)
set_option maxRecDepth 20000 in
theorem k_X7_fill_131 : Cond.constantFloat RX7 131 (1142292480) ∈ wsX7_fill := List.mem_of_getElem? (i := 4) (by decide +kernel)
set_option maxRecDepth 20000 in
theorem k_X7_fill_120 : Cond.constant RX7 120 (-100000003) ∈ wsX7_fill := List.mem_of_getElem? (i := 5) (by decide +kernel)
set_option maxRecDepth 20000 in
theorem fl_X7_fill_7 : FL wsX7_fill RX7 7 7 1 1 := FL.of RX7 TX7 13 rfl (fun _ h => List.mem_cons_of_mem _ (List.mem_append_right _ h)) (List.mem_of_getElem? (i := 6) (by decide +kernel)) (by decide)
set_option maxRecDepth 20000 in
theorem e_X7_fill_125 : ES wsX7_fill RX7 125 yX7_isFarmer wsX7_isFarmer 1 1 22 2 44 := ⟨cX7_isFarmer, 1, (some .boolean), _, gX7_fill_X7_isFarmer, rfl, ⟨by decide +kernel, by decide +kernel, by decide +kernel⟩, ⟨by decide, by decide⟩⟩
set_option maxRecDepth 20000 in
theorem e_X7_fill_128 : EV wsX7_fill RX7 128 RX7 yX7_isMachine wsX7_isMachine 1 7 1 22 2 44 := ⟨cX7_isMachine, 2, (some .boolean), _, TX7, 13, gX7_fill_X7_isMachine, rfl, ⟨rfl, by decide +kernel, by decide +kernel, by decide +kernel⟩, ⟨by decide, by decide⟩, rfl, by decide⟩
set_option maxRecDepth 20000 in
theorem e_X7_fill_32 : ES wsX7_fill RX7 32 yX7_in wsX7_in 3 0 0 2 44 := ⟨cX7_in, 3, (some .boolean), _, gX7_fill_X7_in, rfl, ⟨by decide +kernel, by decide +kernel, by decide +kernel⟩, ⟨by decide, by decide⟩⟩
set_option maxRecDepth 20000 in
theorem e_X7_fill_77 : EV wsX7_fill RX7 77 RX7 yX7_fuelOf wsX7_fuelOf 1 7 1 23 2 44 := ⟨cX7_fuelOf, 2, (some .float), _, TX7, 13, gX7_fill_X7_fuelOf, rfl, ⟨rfl, by decide +kernel, by decide +kernel, by decide +kernel⟩, ⟨by decide, by decide⟩, rfl, by decide⟩
set_option maxRecDepth 20000 in
theorem e_X7_fill_122 : EV wsX7_fill RX7 122 RX7 yX7_records wsX7_records 0 7 0 0 2 44 := ⟨cX7_records, 2, none, _, TX7, 13, gX7_fill_X7_records, rfl, ⟨rfl, by decide +kernel, by decide +kernel, by decide +kernel⟩, ⟨by decide, by decide⟩, rfl, by decide⟩
set_option maxRecDepth 20000 in
theorem e_X7_fill_91 : ES wsX7_fill RX7 91 yJxf58ca_floatToIntBits_5c35a wsJxf58ca_floatToIntBits_5c35a 1 1 23 2 44 := ⟨cJxf58ca_floatToIntBits_5c35a, 1, (some .int), _, gX7_fill_Jxf58ca_floatToIntBits_5c35a, rfl, ⟨by decide +kernel, by decide +kernel, by decide +kernel⟩, ⟨by decide, by decide⟩⟩
set_option maxRecDepth 20000 in
theorem e_X7_fill_95 : EV wsX7_fill RX7 95 RX7 yX7_layMachine wsX7_layMachine 3 7 0 0 2 44 := ⟨cX7_layMachine, 4, none, _, TX7, 13, gX7_fill_X7_layMachine, rfl, ⟨rfl, by decide +kernel, by decide +kernel, by decide +kernel⟩, ⟨by decide, by decide⟩, rfl, by decide⟩
set_option maxRecDepth 20000 in
theorem e_X7_fill_98 : EV wsX7_fill RX7 98 RX7 yX7_addFarmer wsX7_addFarmer 3 7 0 0 2 44 := ⟨cX7_addFarmer, 4, none, _, TX7, 13, gX7_fill_X7_addFarmer, rfl, ⟨rfl, by decide +kernel, by decide +kernel, by decide +kernel⟩, ⟨by decide, by decide⟩, rfl, by decide⟩
set_option maxRecDepth 20000 in
theorem pf_X7_fuel_28 : PF wsX7_fuel RX7 28 7 0 0 false .int := ⟨RX7, TX7, 13, tyX7, rfl, (fun _ h => List.mem_cons_of_mem _ (List.mem_append_right _ h)), by decide, (List.mem_of_getElem? (i := 1) (by decide +kernel)), by decide, by decide, by decide, tyX7_ok, nmX7, rfl, by decide +kernel, fun h => by cases h⟩
set_option maxRecDepth 20000 in
theorem k_X7_fuel_186 : Cond.constantFloat RX7 186 (3212836864) ∈ wsX7_fuel := List.mem_of_getElem? (i := 2) (by decide +kernel)
set_option maxRecDepth 20000 in
theorem e_X7_fuel_128 : EV wsX7_fuel RX7 128 RX7 yX7_isMachine wsX7_isMachine 1 7 1 22 2 44 := ⟨cX7_isMachine, 2, (some .boolean), _, TX7, 13, gX7_fuel_X7_isMachine, rfl, ⟨rfl, by decide +kernel, by decide +kernel, by decide +kernel⟩, ⟨by decide, by decide⟩, rfl, by decide⟩
set_option maxRecDepth 20000 in
theorem e_X7_fuel_77 : EV wsX7_fuel RX7 77 RX7 yX7_fuelOf wsX7_fuelOf 1 7 1 23 2 44 := ⟨cX7_fuelOf, 2, (some .float), _, TX7, 13, gX7_fuel_X7_fuelOf, rfl, ⟨rfl, by decide +kernel, by decide +kernel, by decide +kernel⟩, ⟨by decide, by decide⟩, rfl, by decide⟩
set_option maxRecDepth 20000 in
theorem e_X7_fuelOf_51 : EV wsX7_fuelOf RX7 51 RX7 yX7_ofMachine wsX7_ofMachine 2 7 0 0 1 23 := ⟨cX7_ofMachine, 3, (some .int), _, TX7, 13, gX7_fuelOf_X7_ofMachine, rfl, ⟨rfl, by decide +kernel, by decide +kernel, by decide +kernel⟩, ⟨by decide, by decide⟩, rfl, by decide⟩
set_option maxRecDepth 20000 in
theorem pf_X7_hours_28 : PF wsX7_hours RX7 28 7 0 0 false .int := ⟨RX7, TX7, 13, tyX7, rfl, (fun _ h => List.mem_cons_of_mem _ (List.mem_append_right _ h)), by decide, (List.mem_of_getElem? (i := 1) (by decide +kernel)), by decide, by decide, by decide, tyX7_ok, nmX7, rfl, by decide +kernel, fun h => by cases h⟩
set_option maxRecDepth 20000 in
theorem k_X7_hours_115 : Cond.constant RX7 115 (-100000001) ∈ wsX7_hours := List.mem_of_getElem? (i := 2) (by decide +kernel)
set_option maxRecDepth 20000 in
theorem e_X7_hours_128 : EV wsX7_hours RX7 128 RX7 yX7_isMachine wsX7_isMachine 1 7 1 22 2 43 := ⟨cX7_isMachine, 2, (some .boolean), _, TX7, 13, gX7_hours_X7_isMachine, rfl, ⟨rfl, by decide +kernel, by decide +kernel, by decide +kernel⟩, ⟨by decide, by decide⟩, rfl, by decide⟩
set_option maxRecDepth 20000 in
theorem e_X7_hours_125 : ES wsX7_hours RX7 125 yX7_isFarmer wsX7_isFarmer 1 1 22 2 43 := ⟨cX7_isFarmer, 1, (some .boolean), _, gX7_hours_X7_isFarmer, rfl, ⟨by decide +kernel, by decide +kernel, by decide +kernel⟩, ⟨by decide, by decide⟩⟩
set_option maxRecDepth 20000 in
theorem e_X7_hours_51 : EV wsX7_hours RX7 51 RX7 yX7_ofMachine wsX7_ofMachine 2 7 0 0 2 43 := ⟨cX7_ofMachine, 3, (some .int), _, TX7, 13, gX7_hours_X7_ofMachine, rfl, ⟨rfl, by decide +kernel, by decide +kernel, by decide +kernel⟩, ⟨by decide, by decide⟩, rfl, by decide⟩
set_option maxRecDepth 20000 in
theorem pf_X7_init_7 : PF wsX7_init RX7 7 7 1 1 true (.array .int) := ⟨RX7, TX7, 13, tyX7, rfl, (fun _ h => List.mem_cons_of_mem _ (List.mem_append_right _ h)), by decide, (List.mem_of_getElem? (i := 5) (by decide +kernel)), by decide, by decide, by decide, tyX7_ok, nmX7, rfl, by decide +kernel, fun _ => rfl⟩
set_option maxRecDepth 20000 in
theorem pf_X7_init_13 : PF wsX7_init RX7 13 7 2 1 true (.array .int) := ⟨RX7, TX7, 13, tyX7, rfl, (fun _ h => List.mem_cons_of_mem _ (List.mem_append_right _ h)), by decide, (List.mem_of_getElem? (i := 6) (by decide +kernel)), by decide, by decide, by decide, tyX7_ok, nmX7, rfl, by decide +kernel, fun _ => rfl⟩
set_option maxRecDepth 20000 in
theorem pf_X7_init_16 : PF wsX7_init RX7 16 7 3 1 true (.array .int) := ⟨RX7, TX7, 13, tyX7, rfl, (fun _ h => List.mem_cons_of_mem _ (List.mem_append_right _ h)), by decide, (List.mem_of_getElem? (i := 7) (by decide +kernel)), by decide, by decide, by decide, tyX7_ok, nmX7, rfl, by decide +kernel, fun _ => rfl⟩
set_option maxRecDepth 20000 in
theorem pf_X7_init_19 : PF wsX7_init RX7 19 7 5 1 true (.array .int) := ⟨RX7, TX7, 13, tyX7, rfl, (fun _ h => List.mem_cons_of_mem _ (List.mem_append_right _ h)), by decide, (List.mem_of_getElem? (i := 8) (by decide +kernel)), by decide, by decide, by decide, tyX7_ok, nmX7, rfl, by decide +kernel, fun _ => rfl⟩
set_option maxRecDepth 20000 in
theorem pf_X7_init_22 : PF wsX7_init RX7 22 7 7 1 true (.array .int) := ⟨RX7, TX7, 13, tyX7, rfl, (fun _ h => List.mem_cons_of_mem _ (List.mem_append_right _ h)), by decide, (List.mem_of_getElem? (i := 9) (by decide +kernel)), by decide, by decide, by decide, tyX7_ok, nmX7, rfl, by decide +kernel, fun _ => rfl⟩
set_option maxRecDepth 20000 in
theorem pf_X7_init_25 : PF wsX7_init RX7 25 7 11 1 true (.array .int) := ⟨RX7, TX7, 13, tyX7, rfl, (fun _ h => List.mem_cons_of_mem _ (List.mem_append_right _ h)), by decide, (List.mem_of_getElem? (i := 10) (by decide +kernel)), by decide, by decide, by decide, tyX7_ok, nmX7, rfl, by decide +kernel, fun _ => rfl⟩
set_option maxRecDepth 20000 in
theorem pf_X7_init_28 : PF wsX7_init RX7 28 7 0 0 false .int := ⟨RX7, TX7, 13, tyX7, rfl, (fun _ h => List.mem_cons_of_mem _ (List.mem_append_right _ h)), by decide, (List.mem_of_getElem? (i := 11) (by decide +kernel)), by decide, by decide, by decide, tyX7_ok, nmX7, rfl, by decide +kernel, fun h => by cases h⟩
set_option maxRecDepth 20000 in
theorem fl_X7_init_7 : FL wsX7_init RX7 7 7 1 1 := FL.of RX7 TX7 13 rfl (fun _ h => List.mem_cons_of_mem _ (List.mem_append_right _ h)) (List.mem_of_getElem? (i := 5) (by decide +kernel)) (by decide)
set_option maxRecDepth 20000 in
theorem e_X7_isFarmer_32 : ES wsX7_isFarmer RX7 32 yX7_in wsX7_in 3 0 0 1 22 := ⟨cX7_in, 3, (some .boolean), _, gX7_isFarmer_X7_in, rfl, ⟨by decide +kernel, by decide +kernel, by decide +kernel⟩, ⟨by decide, by decide⟩⟩
set_option maxRecDepth 20000 in
theorem fl_X7_isMachine_7 : FL wsX7_isMachine RX7 7 7 1 1 := FL.of RX7 TX7 13 rfl (fun _ h => List.mem_cons_of_mem _ (List.mem_append_right _ h)) (List.mem_of_getElem? (i := 1) (by decide +kernel)) (by decide)
set_option maxRecDepth 20000 in
theorem e_X7_isMachine_32 : ES wsX7_isMachine RX7 32 yX7_in wsX7_in 3 0 0 1 22 := ⟨cX7_in, 3, (some .boolean), _, gX7_isMachine_X7_in, rfl, ⟨by decide +kernel, by decide +kernel, by decide +kernel⟩, ⟨by decide, by decide⟩⟩
set_option maxRecDepth 20000 in
theorem fl_X7_isWet_7 : FL wsX7_isWet RX7 7 7 1 1 := FL.of RX7 TX7 13 rfl (fun _ h => List.mem_cons_of_mem _ (List.mem_append_right _ h)) (List.mem_of_getElem? (i := 1) (by decide +kernel)) (by decide)
set_option maxRecDepth 20000 in
theorem pf_X7_keep_28 : PF wsX7_keep RX7 28 7 0 0 false .int := ⟨RX7, TX7, 13, tyX7, rfl, (fun _ h => List.mem_cons_of_mem _ (List.mem_append_right _ h)), by decide, (List.mem_of_getElem? (i := 1) (by decide +kernel)), by decide, by decide, by decide, tyX7_ok, nmX7, rfl, by decide +kernel, fun h => by cases h⟩
set_option maxRecDepth 20000 in
theorem fl_X7_keep_19 : FL wsX7_keep RX7 19 7 5 1 := FL.of RX7 TX7 13 rfl (fun _ h => List.mem_cons_of_mem _ (List.mem_append_right _ h)) (List.mem_of_getElem? (i := 2) (by decide +kernel)) (by decide)
set_option maxRecDepth 20000 in
theorem fl_X7_keep_7 : FL wsX7_keep RX7 7 7 1 1 := FL.of RX7 TX7 13 rfl (fun _ h => List.mem_cons_of_mem _ (List.mem_append_right _ h)) (List.mem_of_getElem? (i := 3) (by decide +kernel)) (by decide)
set_option maxRecDepth 20000 in
theorem pf_X7_keep_180 : PF wsX7_keep RX7 180 7 6 3 false .boolean := ⟨RX7, TX7, 13, tyX7, rfl, (fun _ h => List.mem_cons_of_mem _ (List.mem_append_right _ h)), by decide, (List.mem_of_getElem? (i := 4) (by decide +kernel)), by decide, by decide, by decide, tyX7_ok, nmX7, rfl, by decide +kernel, fun h => by cases h⟩
set_option maxRecDepth 20000 in
theorem pf_X7_lasts_28 : PF wsX7_lasts RX7 28 7 0 0 false .int := ⟨RX7, TX7, 13, tyX7, rfl, (fun _ h => List.mem_cons_of_mem _ (List.mem_append_right _ h)), by decide, (List.mem_of_getElem? (i := 1) (by decide +kernel)), by decide, by decide, by decide, tyX7_ok, nmX7, rfl, by decide +kernel, fun h => by cases h⟩
set_option maxRecDepth 20000 in
theorem k_X7_lasts_115 : Cond.constant RX7 115 (-100000001) ∈ wsX7_lasts := List.mem_of_getElem? (i := 2) (by decide +kernel)
set_option maxRecDepth 20000 in
theorem fl_X7_lasts_7 : FL wsX7_lasts RX7 7 7 1 1 := FL.of RX7 TX7 13 rfl (fun _ h => List.mem_cons_of_mem _ (List.mem_append_right _ h)) (List.mem_of_getElem? (i := 3) (by decide +kernel)) (by decide)
set_option maxRecDepth 20000 in
theorem k_X7_lasts_40 : Cond.constant RX7 40 (-100000005) ∈ wsX7_lasts := List.mem_of_getElem? (i := 4) (by decide +kernel)
set_option maxRecDepth 20000 in
theorem e_X7_lasts_128 : EV wsX7_lasts RX7 128 RX7 yX7_isMachine wsX7_isMachine 1 7 1 22 2 49 := ⟨cX7_isMachine, 2, (some .boolean), _, TX7, 13, gX7_lasts_X7_isMachine, rfl, ⟨rfl, by decide +kernel, by decide +kernel, by decide +kernel⟩, ⟨by decide, by decide⟩, rfl, by decide⟩
set_option maxRecDepth 20000 in
theorem e_X7_lasts_77 : EV wsX7_lasts RX7 77 RX7 yX7_fuelOf wsX7_fuelOf 1 7 1 23 2 49 := ⟨cX7_fuelOf, 2, (some .float), _, TX7, 13, gX7_lasts_X7_fuelOf, rfl, ⟨rfl, by decide +kernel, by decide +kernel, by decide +kernel⟩, ⟨by decide, by decide⟩, rfl, by decide⟩
set_option maxRecDepth 20000 in
theorem e_X7_lasts_187 : EV wsX7_lasts RX7 187 RX7 yX7_nextOf wsX7_nextOf 3 7 1 22 2 49 := ⟨cX7_nextOf, 8, (some .int), _, TX7, 13, gX7_lasts_X7_nextOf, rfl, ⟨rfl, by decide +kernel, by decide +kernel, by decide +kernel⟩, ⟨by decide, by decide⟩, rfl, by decide⟩
set_option maxRecDepth 20000 in
theorem e_X7_lasts_36 : EV wsX7_lasts RX7 36 RX7 yX7_ofBooking wsX7_ofBooking 2 7 0 0 2 49 := ⟨cX7_ofBooking, 3, (some .int), _, TX7, 13, gX7_lasts_X7_ofBooking, rfl, ⟨rfl, by decide +kernel, by decide +kernel, by decide +kernel⟩, ⟨by decide, by decide⟩, rfl, by decide⟩
set_option maxRecDepth 20000 in
theorem e_X7_lasts_80 : EV wsX7_lasts RX7 80 RX7 yX7_wants wsX7_wants 2 7 1 22 2 49 := ⟨cX7_wants, 5, (some .float), _, TX7, 13, gX7_lasts_X7_wants, rfl, ⟨rfl, by decide +kernel, by decide +kernel, by decide +kernel⟩, ⟨by decide, by decide⟩, rfl, by decide⟩
set_option maxRecDepth 20000 in
theorem fl_X7_layBooking_7 : FL wsX7_layBooking RX7 7 7 1 1 := FL.of RX7 TX7 13 rfl (fun _ h => List.mem_cons_of_mem _ (List.mem_append_right _ h)) (List.mem_of_getElem? (i := 1) (by decide +kernel)) (by decide)
set_option maxRecDepth 20000 in
theorem fl_X7_layMachine_7 : FL wsX7_layMachine RX7 7 7 1 1 := FL.of RX7 TX7 13 rfl (fun _ h => List.mem_cons_of_mem _ (List.mem_append_right _ h)) (List.mem_of_getElem? (i := 1) (by decide +kernel)) (by decide)
set_option maxRecDepth 20000 in
theorem pf_X7_license_28 : PF wsX7_license RX7 28 7 0 0 false .int := ⟨RX7, TX7, 13, tyX7, rfl, (fun _ h => List.mem_cons_of_mem _ (List.mem_append_right _ h)), by decide, (List.mem_of_getElem? (i := 1) (by decide +kernel)), by decide, by decide, by decide, tyX7_ok, nmX7, rfl, by decide +kernel, fun h => by cases h⟩
set_option maxRecDepth 20000 in
theorem k_X7_license_115 : Cond.constant RX7 115 (-100000001) ∈ wsX7_license := List.mem_of_getElem? (i := 2) (by decide +kernel)
set_option maxRecDepth 20000 in
theorem k_X7_license_116 : Cond.constant RX7 116 (-100000002) ∈ wsX7_license := List.mem_of_getElem? (i := 3) (by decide +kernel)
set_option maxRecDepth 20000 in
theorem k_X7_license_40 : Cond.constant RX7 40 (-100000005) ∈ wsX7_license := List.mem_of_getElem? (i := 4) (by decide +kernel)
set_option maxRecDepth 20000 in
theorem e_X7_license_125 : ES wsX7_license RX7 125 yX7_isFarmer wsX7_isFarmer 1 1 22 2 42 := ⟨cX7_isFarmer, 1, (some .boolean), _, gX7_license_X7_isFarmer, rfl, ⟨by decide +kernel, by decide +kernel, by decide +kernel⟩, ⟨by decide, by decide⟩⟩
set_option maxRecDepth 20000 in
theorem e_X7_license_32 : ES wsX7_license RX7 32 yX7_in wsX7_in 3 0 0 2 42 := ⟨cX7_in, 3, (some .boolean), _, gX7_license_X7_in, rfl, ⟨by decide +kernel, by decide +kernel, by decide +kernel⟩, ⟨by decide, by decide⟩⟩
set_option maxRecDepth 20000 in
theorem e_X7_license_66 : EV wsX7_license RX7 66 RX7 yX7_ofFarmer wsX7_ofFarmer 2 7 0 0 2 42 := ⟨cX7_ofFarmer, 3, (some .int), _, TX7, 13, gX7_license_X7_ofFarmer, rfl, ⟨rfl, by decide +kernel, by decide +kernel, by decide +kernel⟩, ⟨by decide, by decide⟩, rfl, by decide⟩
set_option maxRecDepth 20000 in
theorem e_X7_license_122 : EV wsX7_license RX7 122 RX7 yX7_records wsX7_records 0 7 0 0 2 42 := ⟨cX7_records, 2, none, _, TX7, 13, gX7_license_X7_records, rfl, ⟨rfl, by decide +kernel, by decide +kernel, by decide +kernel⟩, ⟨by decide, by decide⟩, rfl, by decide⟩
set_option maxRecDepth 20000 in
theorem e_X7_license_98 : EV wsX7_license RX7 98 RX7 yX7_addFarmer wsX7_addFarmer 3 7 0 0 2 42 := ⟨cX7_addFarmer, 4, none, _, TX7, 13, gX7_license_X7_addFarmer, rfl, ⟨rfl, by decide +kernel, by decide +kernel, by decide +kernel⟩, ⟨by decide, by decide⟩, rfl, by decide⟩
set_option maxRecDepth 20000 in
theorem pf_X7_machine_28 : PF wsX7_machine RX7 28 7 0 0 false .int := ⟨RX7, TX7, 13, tyX7, rfl, (fun _ h => List.mem_cons_of_mem _ (List.mem_append_right _ h)), by decide, (List.mem_of_getElem? (i := 1) (by decide +kernel)), by decide, by decide, by decide, tyX7_ok, nmX7, rfl, by decide +kernel, fun h => by cases h⟩
set_option maxRecDepth 20000 in
theorem k_X7_machine_115 : Cond.constant RX7 115 (-100000001) ∈ wsX7_machine := List.mem_of_getElem? (i := 2) (by decide +kernel)
set_option maxRecDepth 20000 in
theorem k_X7_machine_116 : Cond.constant RX7 116 (-100000002) ∈ wsX7_machine := List.mem_of_getElem? (i := 3) (by decide +kernel)
set_option maxRecDepth 20000 in
theorem e_X7_machine_128 : EV wsX7_machine RX7 128 RX7 yX7_isMachine wsX7_isMachine 1 7 1 22 2 43 := ⟨cX7_isMachine, 2, (some .boolean), _, TX7, 13, gX7_machine_X7_isMachine, rfl, ⟨rfl, by decide +kernel, by decide +kernel, by decide +kernel⟩, ⟨by decide, by decide⟩, rfl, by decide⟩
set_option maxRecDepth 20000 in
theorem e_X7_machine_32 : ES wsX7_machine RX7 32 yX7_in wsX7_in 3 0 0 2 43 := ⟨cX7_in, 3, (some .boolean), _, gX7_machine_X7_in, rfl, ⟨by decide +kernel, by decide +kernel, by decide +kernel⟩, ⟨by decide, by decide⟩⟩
set_option maxRecDepth 20000 in
theorem e_X7_machine_51 : EV wsX7_machine RX7 51 RX7 yX7_ofMachine wsX7_ofMachine 2 7 0 0 2 43 := ⟨cX7_ofMachine, 3, (some .int), _, TX7, 13, gX7_machine_X7_ofMachine, rfl, ⟨rfl, by decide +kernel, by decide +kernel, by decide +kernel⟩, ⟨by decide, by decide⟩, rfl, by decide⟩
set_option maxRecDepth 20000 in
theorem fl_X7_machinesOf_7 : FL wsX7_machinesOf RX7 7 7 1 1 := FL.of RX7 TX7 13 rfl (fun _ h => List.mem_cons_of_mem _ (List.mem_append_right _ h)) (List.mem_of_getElem? (i := 1) (by decide +kernel)) (by decide)
set_option maxRecDepth 20000 in
theorem e_X7_machinesOf_51 : EV wsX7_machinesOf RX7 51 RX7 yX7_ofMachine wsX7_ofMachine 2 7 0 0 1 22 := ⟨cX7_ofMachine, 3, (some .int), _, TX7, 13, gX7_machinesOf_X7_ofMachine, rfl, ⟨rfl, by decide +kernel, by decide +kernel, by decide +kernel⟩, ⟨by decide, by decide⟩, rfl, by decide⟩
set_option maxRecDepth 20000 in
theorem pf_X7_mend_28 : PF wsX7_mend RX7 28 7 0 0 false .int := ⟨RX7, TX7, 13, tyX7, rfl, (fun _ h => List.mem_cons_of_mem _ (List.mem_append_right _ h)), by decide, (List.mem_of_getElem? (i := 1) (by decide +kernel)), by decide, by decide, by decide, tyX7_ok, nmX7, rfl, by decide +kernel, fun h => by cases h⟩
set_option maxRecDepth 20000 in
theorem k_X7_mend_115 : Cond.constant RX7 115 (-100000001) ∈ wsX7_mend := List.mem_of_getElem? (i := 2) (by decide +kernel)
set_option maxRecDepth 20000 in
theorem k_X7_mend_40 : Cond.constant RX7 40 (-100000005) ∈ wsX7_mend := List.mem_of_getElem? (i := 3) (by decide +kernel)
set_option maxRecDepth 20000 in
theorem fl_X7_mend_7 : FL wsX7_mend RX7 7 7 1 1 := FL.of RX7 TX7 13 rfl (fun _ h => List.mem_cons_of_mem _ (List.mem_append_right _ h)) (List.mem_of_getElem? (i := 4) (by decide +kernel)) (by decide)
set_option maxRecDepth 20000 in
theorem e_X7_mend_128 : EV wsX7_mend RX7 128 RX7 yX7_isMachine wsX7_isMachine 1 7 1 22 2 43 := ⟨cX7_isMachine, 2, (some .boolean), _, TX7, 13, gX7_mend_X7_isMachine, rfl, ⟨rfl, by decide +kernel, by decide +kernel, by decide +kernel⟩, ⟨by decide, by decide⟩, rfl, by decide⟩
set_option maxRecDepth 20000 in
theorem e_X7_mend_51 : EV wsX7_mend RX7 51 RX7 yX7_ofMachine wsX7_ofMachine 2 7 0 0 2 43 := ⟨cX7_ofMachine, 3, (some .int), _, TX7, 13, gX7_mend_X7_ofMachine, rfl, ⟨rfl, by decide +kernel, by decide +kernel, by decide +kernel⟩, ⟨by decide, by decide⟩, rfl, by decide⟩
set_option maxRecDepth 20000 in
theorem e_X7_mend_122 : EV wsX7_mend RX7 122 RX7 yX7_records wsX7_records 0 7 0 0 2 43 := ⟨cX7_records, 2, none, _, TX7, 13, gX7_mend_X7_records, rfl, ⟨rfl, by decide +kernel, by decide +kernel, by decide +kernel⟩, ⟨by decide, by decide⟩, rfl, by decide⟩
set_option maxRecDepth 20000 in
theorem e_X7_mend_98 : EV wsX7_mend RX7 98 RX7 yX7_addFarmer wsX7_addFarmer 3 7 0 0 2 43 := ⟨cX7_addFarmer, 4, none, _, TX7, 13, gX7_mend_X7_addFarmer, rfl, ⟨rfl, by decide +kernel, by decide +kernel, by decide +kernel⟩, ⟨by decide, by decide⟩, rfl, by decide⟩
set_option maxRecDepth 20000 in
theorem e_X7_mend_95 : EV wsX7_mend RX7 95 RX7 yX7_layMachine wsX7_layMachine 3 7 0 0 2 43 := ⟨cX7_layMachine, 4, none, _, TX7, 13, gX7_mend_X7_layMachine, rfl, ⟨rfl, by decide +kernel, by decide +kernel, by decide +kernel⟩, ⟨by decide, by decide⟩, rfl, by decide⟩
set_option maxRecDepth 20000 in
theorem pf_X7_most_28 : PF wsX7_most RX7 28 7 0 0 false .int := ⟨RX7, TX7, 13, tyX7, rfl, (fun _ h => List.mem_cons_of_mem _ (List.mem_append_right _ h)), by decide, (List.mem_of_getElem? (i := 1) (by decide +kernel)), by decide, by decide, by decide, tyX7_ok, nmX7, rfl, by decide +kernel, fun h => by cases h⟩
set_option maxRecDepth 20000 in
theorem k_X7_most_115 : Cond.constant RX7 115 (-100000001) ∈ wsX7_most := List.mem_of_getElem? (i := 2) (by decide +kernel)
set_option maxRecDepth 20000 in
theorem k_X7_most_40 : Cond.constant RX7 40 (-100000005) ∈ wsX7_most := List.mem_of_getElem? (i := 3) (by decide +kernel)
set_option maxRecDepth 20000 in
theorem e_X7_most_128 : EV wsX7_most RX7 128 RX7 yX7_isMachine wsX7_isMachine 1 7 1 22 2 43 := ⟨cX7_isMachine, 2, (some .boolean), _, TX7, 13, gX7_most_X7_isMachine, rfl, ⟨rfl, by decide +kernel, by decide +kernel, by decide +kernel⟩, ⟨by decide, by decide⟩, rfl, by decide⟩
set_option maxRecDepth 20000 in
theorem e_X7_most_51 : EV wsX7_most RX7 51 RX7 yX7_ofMachine wsX7_ofMachine 2 7 0 0 2 43 := ⟨cX7_ofMachine, 3, (some .int), _, TX7, 13, gX7_most_X7_ofMachine, rfl, ⟨rfl, by decide +kernel, by decide +kernel, by decide +kernel⟩, ⟨by decide, by decide⟩, rfl, by decide⟩
set_option maxRecDepth 20000 in
theorem k_X7_nextOf_40 : Cond.constant RX7 40 (-100000005) ∈ wsX7_nextOf := List.mem_of_getElem? (i := 1) (by decide +kernel)
set_option maxRecDepth 20000 in
theorem fl_X7_nextOf_7 : FL wsX7_nextOf RX7 7 7 1 1 := FL.of RX7 TX7 13 rfl (fun _ h => List.mem_cons_of_mem _ (List.mem_append_right _ h)) (List.mem_of_getElem? (i := 2) (by decide +kernel)) (by decide)
set_option maxRecDepth 20000 in
theorem e_X7_nextOf_36 : EV wsX7_nextOf RX7 36 RX7 yX7_ofBooking wsX7_ofBooking 2 7 0 0 1 22 := ⟨cX7_ofBooking, 3, (some .int), _, TX7, 13, gX7_nextOf_X7_ofBooking, rfl, ⟨rfl, by decide +kernel, by decide +kernel, by decide +kernel⟩, ⟨by decide, by decide⟩, rfl, by decide⟩
set_option maxRecDepth 20000 in
theorem fl_X7_number_161 : FL wsX7_number RX7 161 7 10 3 := FL.of RX7 TX7 13 rfl (fun _ h => List.mem_cons_of_mem _ (List.mem_append_right _ h)) (List.mem_of_getElem? (i := 1) (by decide +kernel)) (by decide)
set_option maxRecDepth 20000 in
theorem pf_X7_number_161 : PF wsX7_number RX7 161 7 10 3 false .boolean := ⟨RX7, TX7, 13, tyX7, rfl, (fun _ h => List.mem_cons_of_mem _ (List.mem_append_right _ h)), by decide, (List.mem_of_getElem? (i := 1) (by decide +kernel)), by decide, by decide, by decide, tyX7_ok, nmX7, rfl, by decide +kernel, fun h => by cases h⟩
set_option maxRecDepth 20000 in
theorem fl_X7_number_158 : FL wsX7_number RX7 158 7 9 0 := FL.of RX7 TX7 13 rfl (fun _ h => List.mem_cons_of_mem _ (List.mem_append_right _ h)) (List.mem_of_getElem? (i := 2) (by decide +kernel)) (by decide)
set_option maxRecDepth 20000 in
theorem pf_X7_number_158 : PF wsX7_number RX7 158 7 9 0 false .int := ⟨RX7, TX7, 13, tyX7, rfl, (fun _ h => List.mem_cons_of_mem _ (List.mem_append_right _ h)), by decide, (List.mem_of_getElem? (i := 2) (by decide +kernel)), by decide, by decide, by decide, tyX7_ok, nmX7, rfl, by decide +kernel, fun h => by cases h⟩
set_option maxRecDepth 20000 in
theorem e_X7_number_165 : EV wsX7_number RX7 165 RX7 yX7_sign wsX7_sign 0 7 0 0 1 22 := ⟨cX7_sign, 1, (some .int), _, TX7, 13, gX7_number_X7_sign, rfl, ⟨rfl, by decide +kernel, by decide +kernel, by decide +kernel⟩, ⟨by decide, by decide⟩, rfl, by decide⟩
set_option maxRecDepth 20000 in
theorem e_X7_number_32 : ES wsX7_number RX7 32 yX7_in wsX7_in 3 0 0 1 22 := ⟨cX7_in, 3, (some .boolean), _, gX7_number_X7_in, rfl, ⟨by decide +kernel, by decide +kernel, by decide +kernel⟩, ⟨by decide, by decide⟩⟩
set_option maxRecDepth 20000 in
theorem fl_X7_ofBooking_7 : FL wsX7_ofBooking RX7 7 7 1 1 := FL.of RX7 TX7 13 rfl (fun _ h => List.mem_cons_of_mem _ (List.mem_append_right _ h)) (List.mem_of_getElem? (i := 1) (by decide +kernel)) (by decide)
set_option maxRecDepth 20000 in
theorem fl_X7_ofFarmer_7 : FL wsX7_ofFarmer RX7 7 7 1 1 := FL.of RX7 TX7 13 rfl (fun _ h => List.mem_cons_of_mem _ (List.mem_append_right _ h)) (List.mem_of_getElem? (i := 1) (by decide +kernel)) (by decide)
set_option maxRecDepth 20000 in
theorem fl_X7_ofMachine_7 : FL wsX7_ofMachine RX7 7 7 1 1 := FL.of RX7 TX7 13 rfl (fun _ h => List.mem_cons_of_mem _ (List.mem_append_right _ h)) (List.mem_of_getElem? (i := 1) (by decide +kernel)) (by decide)
set_option maxRecDepth 20000 in
theorem pf_X7_pass_28 : PF wsX7_pass RX7 28 7 0 0 false .int := ⟨RX7, TX7, 13, tyX7, rfl, (fun _ h => List.mem_cons_of_mem _ (List.mem_append_right _ h)), by decide, (List.mem_of_getElem? (i := 1) (by decide +kernel)), by decide, by decide, by decide, tyX7_ok, nmX7, rfl, by decide +kernel, fun h => by cases h⟩
set_option maxRecDepth 20000 in
theorem k_X7_pass_116 : Cond.constant RX7 116 (-100000002) ∈ wsX7_pass := List.mem_of_getElem? (i := 2) (by decide +kernel)
set_option maxRecDepth 20000 in
theorem fl_X7_pass_7 : FL wsX7_pass RX7 7 7 1 1 := FL.of RX7 TX7 13 rfl (fun _ h => List.mem_cons_of_mem _ (List.mem_append_right _ h)) (List.mem_of_getElem? (i := 3) (by decide +kernel)) (by decide)
set_option maxRecDepth 20000 in
theorem e_X7_pass_32 : ES wsX7_pass RX7 32 yX7_in wsX7_in 3 0 0 5 113 := ⟨cX7_in, 3, (some .boolean), _, gX7_pass_X7_in, rfl, ⟨by decide +kernel, by decide +kernel, by decide +kernel⟩, ⟨by decide, by decide⟩⟩
set_option maxRecDepth 20000 in
theorem e_X7_pass_122 : EV wsX7_pass RX7 122 RX7 yX7_records wsX7_records 0 7 0 0 5 113 := ⟨cX7_records, 2, none, _, TX7, 13, gX7_pass_X7_records, rfl, ⟨rfl, by decide +kernel, by decide +kernel, by decide +kernel⟩, ⟨by decide, by decide⟩, rfl, by decide⟩
set_option maxRecDepth 20000 in
theorem e_X7_pass_152 : EV wsX7_pass RX7 152 RX7 yX7_passesDay wsX7_passesDay 0 7 4 91 5 113 := ⟨cX7_passesDay, 3, none, _, TX7, 13, gX7_pass_X7_passesDay, rfl, ⟨rfl, by decide +kernel, by decide +kernel, by decide +kernel⟩, ⟨by decide, by decide⟩, rfl, by decide⟩
set_option maxRecDepth 20000 in
theorem fl_X7_passesDay_7 : FL wsX7_passesDay RX7 7 7 1 1 := FL.of RX7 TX7 13 rfl (fun _ h => List.mem_cons_of_mem _ (List.mem_append_right _ h)) (List.mem_of_getElem? (i := 1) (by decide +kernel)) (by decide)
set_option maxRecDepth 20000 in
theorem e_X7_passesDay_36 : EV wsX7_passesDay RX7 36 RX7 yX7_ofBooking wsX7_ofBooking 2 7 0 0 4 91 := ⟨cX7_ofBooking, 3, (some .int), _, TX7, 13, gX7_passesDay_X7_ofBooking, rfl, ⟨rfl, by decide +kernel, by decide +kernel, by decide +kernel⟩, ⟨by decide, by decide⟩, rfl, by decide⟩
set_option maxRecDepth 20000 in
theorem e_X7_passesDay_105 : EV wsX7_passesDay RX7 105 RX7 yX7_works wsX7_works 2 7 2 46 4 91 := ⟨cX7_works, 4, (some .boolean), _, TX7, 13, gX7_passesDay_X7_works, rfl, ⟨rfl, by decide +kernel, by decide +kernel, by decide +kernel⟩, ⟨by decide, by decide⟩, rfl, by decide⟩
set_option maxRecDepth 20000 in
theorem e_X7_passesDay_109 : EV wsX7_passesDay RX7 109 RX7 yX7_does wsX7_does 1 7 3 66 4 91 := ⟨cX7_does, 6, none, _, TX7, 13, gX7_passesDay_X7_does, rfl, ⟨rfl, by decide +kernel, by decide +kernel, by decide +kernel⟩, ⟨by decide, by decide⟩, rfl, by decide⟩
set_option maxRecDepth 20000 in
theorem e_X7_passesDay_112 : EV wsX7_passesDay RX7 112 RX7 yX7_putsOff wsX7_putsOff 1 7 2 46 4 91 := ⟨cX7_putsOff, 4, none, _, TX7, 13, gX7_passesDay_X7_putsOff, rfl, ⟨rfl, by decide +kernel, by decide +kernel, by decide +kernel⟩, ⟨by decide, by decide⟩, rfl, by decide⟩
set_option maxRecDepth 20000 in
theorem pf_X7_pay_28 : PF wsX7_pay RX7 28 7 0 0 false .int := ⟨RX7, TX7, 13, tyX7, rfl, (fun _ h => List.mem_cons_of_mem _ (List.mem_append_right _ h)), by decide, (List.mem_of_getElem? (i := 1) (by decide +kernel)), by decide, by decide, by decide, tyX7_ok, nmX7, rfl, by decide +kernel, fun h => by cases h⟩
set_option maxRecDepth 20000 in
theorem k_X7_pay_115 : Cond.constant RX7 115 (-100000001) ∈ wsX7_pay := List.mem_of_getElem? (i := 2) (by decide +kernel)
set_option maxRecDepth 20000 in
theorem k_X7_pay_116 : Cond.constant RX7 116 (-100000002) ∈ wsX7_pay := List.mem_of_getElem? (i := 3) (by decide +kernel)
set_option maxRecDepth 20000 in
theorem fl_X7_pay_7 : FL wsX7_pay RX7 7 7 1 1 := FL.of RX7 TX7 13 rfl (fun _ h => List.mem_cons_of_mem _ (List.mem_append_right _ h)) (List.mem_of_getElem? (i := 4) (by decide +kernel)) (by decide)
set_option maxRecDepth 20000 in
theorem e_X7_pay_125 : ES wsX7_pay RX7 125 yX7_isFarmer wsX7_isFarmer 1 1 22 2 42 := ⟨cX7_isFarmer, 1, (some .boolean), _, gX7_pay_X7_isFarmer, rfl, ⟨by decide +kernel, by decide +kernel, by decide +kernel⟩, ⟨by decide, by decide⟩⟩
set_option maxRecDepth 20000 in
theorem e_X7_pay_32 : ES wsX7_pay RX7 32 yX7_in wsX7_in 3 0 0 2 42 := ⟨cX7_in, 3, (some .boolean), _, gX7_pay_X7_in, rfl, ⟨by decide +kernel, by decide +kernel, by decide +kernel⟩, ⟨by decide, by decide⟩⟩
set_option maxRecDepth 20000 in
theorem e_X7_pay_122 : EV wsX7_pay RX7 122 RX7 yX7_records wsX7_records 0 7 0 0 2 42 := ⟨cX7_records, 2, none, _, TX7, 13, gX7_pay_X7_records, rfl, ⟨rfl, by decide +kernel, by decide +kernel, by decide +kernel⟩, ⟨by decide, by decide⟩, rfl, by decide⟩
set_option maxRecDepth 20000 in
theorem e_X7_pay_98 : EV wsX7_pay RX7 98 RX7 yX7_addFarmer wsX7_addFarmer 3 7 0 0 2 42 := ⟨cX7_addFarmer, 4, none, _, TX7, 13, gX7_pay_X7_addFarmer, rfl, ⟨rfl, by decide +kernel, by decide +kernel, by decide +kernel⟩, ⟨by decide, by decide⟩, rfl, by decide⟩
set_option maxRecDepth 20000 in
theorem e_X7_pay_66 : EV wsX7_pay RX7 66 RX7 yX7_ofFarmer wsX7_ofFarmer 2 7 0 0 2 42 := ⟨cX7_ofFarmer, 3, (some .int), _, TX7, 13, gX7_pay_X7_ofFarmer, rfl, ⟨rfl, by decide +kernel, by decide +kernel, by decide +kernel⟩, ⟨by decide, by decide⟩, rfl, by decide⟩
set_option maxRecDepth 20000 in
theorem fl_X7_placeOf_7 : FL wsX7_placeOf RX7 7 7 1 1 := FL.of RX7 TX7 13 rfl (fun _ h => List.mem_cons_of_mem _ (List.mem_append_right _ h)) (List.mem_of_getElem? (i := 1) (by decide +kernel)) (by decide)
set_option maxRecDepth 20000 in
theorem k_X7_placeOf_40 : Cond.constant RX7 40 (-100000005) ∈ wsX7_placeOf := List.mem_of_getElem? (i := 2) (by decide +kernel)
set_option maxRecDepth 20000 in
theorem e_X7_placeOf_36 : EV wsX7_placeOf RX7 36 RX7 yX7_ofBooking wsX7_ofBooking 2 7 0 0 1 22 := ⟨cX7_ofBooking, 3, (some .int), _, TX7, 13, gX7_placeOf_X7_ofBooking, rfl, ⟨rfl, by decide +kernel, by decide +kernel, by decide +kernel⟩, ⟨by decide, by decide⟩, rfl, by decide⟩
set_option maxRecDepth 20000 in
theorem fl_X7_putsOff_7 : FL wsX7_putsOff RX7 7 7 1 1 := FL.of RX7 TX7 13 rfl (fun _ h => List.mem_cons_of_mem _ (List.mem_append_right _ h)) (List.mem_of_getElem? (i := 1) (by decide +kernel)) (by decide)
set_option maxRecDepth 20000 in
theorem e_X7_putsOff_36 : EV wsX7_putsOff RX7 36 RX7 yX7_ofBooking wsX7_ofBooking 2 7 0 0 2 46 := ⟨cX7_ofBooking, 3, (some .int), _, TX7, 13, gX7_putsOff_X7_ofBooking, rfl, ⟨rfl, by decide +kernel, by decide +kernel, by decide +kernel⟩, ⟨by decide, by decide⟩, rfl, by decide⟩
set_option maxRecDepth 20000 in
theorem e_X7_putsOff_84 : EV wsX7_putsOff RX7 84 RX7 yX7_bookedOn wsX7_bookedOn 2 7 1 22 2 46 := ⟨cX7_bookedOn, 5, (some .int), _, TX7, 13, gX7_putsOff_X7_bookedOn, rfl, ⟨rfl, by decide +kernel, by decide +kernel, by decide +kernel⟩, ⟨by decide, by decide⟩, rfl, by decide⟩
set_option maxRecDepth 20000 in
theorem e_X7_putsOff_69 : EV wsX7_putsOff RX7 69 RX7 yX7_layBooking wsX7_layBooking 3 7 0 0 2 46 := ⟨cX7_layBooking, 4, none, _, TX7, 13, gX7_putsOff_X7_layBooking, rfl, ⟨rfl, by decide +kernel, by decide +kernel, by decide +kernel⟩, ⟨by decide, by decide⟩, rfl, by decide⟩
set_option maxRecDepth 20000 in
theorem pf_X7_reads_158 : PF wsX7_reads RX7 158 7 9 0 false .int := ⟨RX7, TX7, 13, tyX7, rfl, (fun _ h => List.mem_cons_of_mem _ (List.mem_append_right _ h)), by decide, (List.mem_of_getElem? (i := 1) (by decide +kernel)), by decide, by decide, by decide, tyX7_ok, nmX7, rfl, by decide +kernel, fun h => by cases h⟩
set_option maxRecDepth 20000 in
theorem pf_X7_reads_161 : PF wsX7_reads RX7 161 7 10 3 false .boolean := ⟨RX7, TX7, 13, tyX7, rfl, (fun _ h => List.mem_cons_of_mem _ (List.mem_append_right _ h)), by decide, (List.mem_of_getElem? (i := 2) (by decide +kernel)), by decide, by decide, by decide, tyX7_ok, nmX7, rfl, by decide +kernel, fun h => by cases h⟩
set_option maxRecDepth 20000 in
theorem pf_X7_reads_143 : PF wsX7_reads RX7 143 7 12 0 false .int := ⟨RX7, TX7, 13, tyX7, rfl, (fun _ h => List.mem_cons_of_mem _ (List.mem_append_right _ h)), by decide, (List.mem_of_getElem? (i := 3) (by decide +kernel)), by decide, by decide, by decide, tyX7_ok, nmX7, rfl, by decide +kernel, fun h => by cases h⟩
set_option maxRecDepth 20000 in
theorem fl_X7_reads_161 : FL wsX7_reads RX7 161 7 10 3 := FL.of RX7 TX7 13 rfl (fun _ h => List.mem_cons_of_mem _ (List.mem_append_right _ h)) (List.mem_of_getElem? (i := 2) (by decide +kernel)) (by decide)
set_option maxRecDepth 20000 in
theorem fl_X7_reads_158 : FL wsX7_reads RX7 158 7 9 0 := FL.of RX7 TX7 13 rfl (fun _ h => List.mem_cons_of_mem _ (List.mem_append_right _ h)) (List.mem_of_getElem? (i := 1) (by decide +kernel)) (by decide)
set_option maxRecDepth 20000 in
theorem fl_X7_reads_155 : FL wsX7_reads RX7 155 7 8 0 := FL.of RX7 TX7 13 rfl (fun _ h => List.mem_cons_of_mem _ (List.mem_append_right _ h)) (List.mem_of_getElem? (i := 4) (by decide +kernel)) (by decide)
set_option maxRecDepth 20000 in
theorem k_X7_reads_40 : Cond.constant RX7 40 (-100000005) ∈ wsX7_reads := List.mem_of_getElem? (i := 5) (by decide +kernel)
set_option maxRecDepth 20000 in
theorem e_X7_reads_177 : EV wsX7_reads RX7 177 RX7 yX7_readsBooking wsX7_readsBooking 0 7 2 44 3 65 := ⟨cX7_readsBooking, 2, none, _, TX7, 13, gX7_reads_X7_readsBooking, rfl, ⟨rfl, by decide +kernel, by decide +kernel, by decide +kernel⟩, ⟨by decide, by decide⟩, rfl, by decide⟩
set_option maxRecDepth 20000 in
theorem e_X7_reads_171 : EV wsX7_reads RX7 171 RX7 yX7_asks wsX7_asks 1 7 1 20 3 65 := ⟨cX7_asks, 2, none, _, TX7, 13, gX7_reads_X7_asks, rfl, ⟨rfl, by decide +kernel, by decide +kernel, by decide +kernel⟩, ⟨by decide, by decide⟩, rfl, by decide⟩
set_option maxRecDepth 20000 in
theorem fl_X7_readsBooking_143 : FL wsX7_readsBooking RX7 143 7 12 0 := FL.of RX7 TX7 13 rfl (fun _ h => List.mem_cons_of_mem _ (List.mem_append_right _ h)) (List.mem_of_getElem? (i := 1) (by decide +kernel)) (by decide)
set_option maxRecDepth 20000 in
theorem fl_X7_readsBooking_25 : FL wsX7_readsBooking RX7 25 7 11 1 := FL.of RX7 TX7 13 rfl (fun _ h => List.mem_cons_of_mem _ (List.mem_append_right _ h)) (List.mem_of_getElem? (i := 2) (by decide +kernel)) (by decide)
set_option maxRecDepth 20000 in
theorem fl_X7_readsBooking_161 : FL wsX7_readsBooking RX7 161 7 10 3 := FL.of RX7 TX7 13 rfl (fun _ h => List.mem_cons_of_mem _ (List.mem_append_right _ h)) (List.mem_of_getElem? (i := 3) (by decide +kernel)) (by decide)
set_option maxRecDepth 20000 in
theorem pf_X7_readsBooking_143 : PF wsX7_readsBooking RX7 143 7 12 0 false .int := ⟨RX7, TX7, 13, tyX7, rfl, (fun _ h => List.mem_cons_of_mem _ (List.mem_append_right _ h)), by decide, (List.mem_of_getElem? (i := 1) (by decide +kernel)), by decide, by decide, by decide, tyX7_ok, nmX7, rfl, by decide +kernel, fun h => by cases h⟩
set_option maxRecDepth 20000 in
theorem e_X7_readsBooking_168 : EV wsX7_readsBooking RX7 168 RX7 yX7_digit wsX7_digit 0 7 1 22 2 44 := ⟨cX7_digit, 2, (some .int), _, TX7, 13, gX7_readsBooking_X7_digit, rfl, ⟨rfl, by decide +kernel, by decide +kernel, by decide +kernel⟩, ⟨by decide, by decide⟩, rfl, by decide⟩
set_option maxRecDepth 20000 in
theorem e_X7_readsBooking_171 : EV wsX7_readsBooking RX7 171 RX7 yX7_asks wsX7_asks 1 7 1 20 2 44 := ⟨cX7_asks, 2, none, _, TX7, 13, gX7_readsBooking_X7_asks, rfl, ⟨rfl, by decide +kernel, by decide +kernel, by decide +kernel⟩, ⟨by decide, by decide⟩, rfl, by decide⟩
set_option maxRecDepth 20000 in
theorem e_X7_readsBooking_174 : EV wsX7_readsBooking RX7 174 RX7 yX7_number wsX7_number 1 7 1 22 2 44 := ⟨cX7_number, 3, (some .int), _, TX7, 13, gX7_readsBooking_X7_number, rfl, ⟨rfl, by decide +kernel, by decide +kernel, by decide +kernel⟩, ⟨by decide, by decide⟩, rfl, by decide⟩
set_option maxRecDepth 20000 in
theorem fl_X7_records_41 : FL wsX7_records RX7 41 7 4 0 := FL.of RX7 TX7 13 rfl (fun _ h => List.mem_cons_of_mem _ (List.mem_append_right _ h)) (List.mem_of_getElem? (i := 1) (by decide +kernel)) (by decide)
set_option maxRecDepth 20000 in
theorem fl_X7_records_16 : FL wsX7_records RX7 16 7 3 1 := FL.of RX7 TX7 13 rfl (fun _ h => List.mem_cons_of_mem _ (List.mem_append_right _ h)) (List.mem_of_getElem? (i := 2) (by decide +kernel)) (by decide)
set_option maxRecDepth 20000 in
theorem pf_X7_records_41 : PF wsX7_records RX7 41 7 4 0 false .int := ⟨RX7, TX7, 13, tyX7, rfl, (fun _ h => List.mem_cons_of_mem _ (List.mem_append_right _ h)), by decide, (List.mem_of_getElem? (i := 1) (by decide +kernel)), by decide, by decide, by decide, tyX7_ok, nmX7, rfl, by decide +kernel, fun h => by cases h⟩
set_option maxRecDepth 20000 in
theorem fl_X7_records_7 : FL wsX7_records RX7 7 7 1 1 := FL.of RX7 TX7 13 rfl (fun _ h => List.mem_cons_of_mem _ (List.mem_append_right _ h)) (List.mem_of_getElem? (i := 3) (by decide +kernel)) (by decide)
set_option maxRecDepth 20000 in
theorem k_X7_refuses_115 : Cond.constant RX7 115 (-100000001) ∈ wsX7_refuses := List.mem_of_getElem? (i := 1) (by decide +kernel)
set_option maxRecDepth 20000 in
theorem k_X7_refuses_116 : Cond.constant RX7 116 (-100000002) ∈ wsX7_refuses := List.mem_of_getElem? (i := 2) (by decide +kernel)
set_option maxRecDepth 20000 in
theorem fl_X7_refuses_7 : FL wsX7_refuses RX7 7 7 1 1 := FL.of RX7 TX7 13 rfl (fun _ h => List.mem_cons_of_mem _ (List.mem_append_right _ h)) (List.mem_of_getElem? (i := 3) (by decide +kernel)) (by decide)
set_option maxRecDepth 20000 in
theorem k_X7_refuses_120 : Cond.constant RX7 120 (-100000003) ∈ wsX7_refuses := List.mem_of_getElem? (i := 4) (by decide +kernel)
set_option maxRecDepth 20000 in
theorem k_X7_refuses_121 : Cond.constant RX7 121 (-100000004) ∈ wsX7_refuses := List.mem_of_getElem? (i := 5) (by decide +kernel)
set_option maxRecDepth 20000 in
theorem e_X7_refuses_125 : ES wsX7_refuses RX7 125 yX7_isFarmer wsX7_isFarmer 1 1 22 2 46 := ⟨cX7_isFarmer, 1, (some .boolean), _, gX7_refuses_X7_isFarmer, rfl, ⟨by decide +kernel, by decide +kernel, by decide +kernel⟩, ⟨by decide, by decide⟩⟩
set_option maxRecDepth 20000 in
theorem e_X7_refuses_128 : EV wsX7_refuses RX7 128 RX7 yX7_isMachine wsX7_isMachine 1 7 1 22 2 46 := ⟨cX7_isMachine, 2, (some .boolean), _, TX7, 13, gX7_refuses_X7_isMachine, rfl, ⟨rfl, by decide +kernel, by decide +kernel, by decide +kernel⟩, ⟨by decide, by decide⟩, rfl, by decide⟩
set_option maxRecDepth 20000 in
theorem e_X7_refuses_32 : ES wsX7_refuses RX7 32 yX7_in wsX7_in 3 0 0 2 46 := ⟨cX7_in, 3, (some .boolean), _, gX7_refuses_X7_in, rfl, ⟨by decide +kernel, by decide +kernel, by decide +kernel⟩, ⟨by decide, by decide⟩⟩
set_option maxRecDepth 20000 in
theorem e_X7_refuses_84 : EV wsX7_refuses RX7 84 RX7 yX7_bookedOn wsX7_bookedOn 2 7 1 22 2 46 := ⟨cX7_bookedOn, 5, (some .int), _, TX7, 13, gX7_refuses_X7_bookedOn, rfl, ⟨rfl, by decide +kernel, by decide +kernel, by decide +kernel⟩, ⟨by decide, by decide⟩, rfl, by decide⟩
set_option maxRecDepth 20000 in
theorem pf_X7_restore_28 : PF wsX7_restore RX7 28 7 0 0 false .int := ⟨RX7, TX7, 13, tyX7, rfl, (fun _ h => List.mem_cons_of_mem _ (List.mem_append_right _ h)), by decide, (List.mem_of_getElem? (i := 1) (by decide +kernel)), by decide, by decide, by decide, tyX7_ok, nmX7, rfl, by decide +kernel, fun h => by cases h⟩
set_option maxRecDepth 20000 in
theorem fl_X7_restore_180 : FL wsX7_restore RX7 180 7 6 3 := FL.of RX7 TX7 13 rfl (fun _ h => List.mem_cons_of_mem _ (List.mem_append_right _ h)) (List.mem_of_getElem? (i := 2) (by decide +kernel)) (by decide)
set_option maxRecDepth 20000 in
theorem k_X7_restore_40 : Cond.constant RX7 40 (-100000005) ∈ wsX7_restore := List.mem_of_getElem? (i := 3) (by decide +kernel)
set_option maxRecDepth 20000 in
theorem fl_X7_restore_7 : FL wsX7_restore RX7 7 7 1 1 := FL.of RX7 TX7 13 rfl (fun _ h => List.mem_cons_of_mem _ (List.mem_append_right _ h)) (List.mem_of_getElem? (i := 4) (by decide +kernel)) (by decide)
set_option maxRecDepth 20000 in
theorem fl_X7_restore_19 : FL wsX7_restore RX7 19 7 5 1 := FL.of RX7 TX7 13 rfl (fun _ h => List.mem_cons_of_mem _ (List.mem_append_right _ h)) (List.mem_of_getElem? (i := 5) (by decide +kernel)) (by decide)
set_option maxRecDepth 20000 in
theorem e_X7_restore_122 : EV wsX7_restore RX7 122 RX7 yX7_records wsX7_records 0 7 0 0 1 21 := ⟨cX7_records, 2, none, _, TX7, 13, gX7_restore_X7_records, rfl, ⟨rfl, by decide +kernel, by decide +kernel, by decide +kernel⟩, ⟨by decide, by decide⟩, rfl, by decide⟩
set_option maxRecDepth 20000 in
theorem pf_X7_set_28 : PF wsX7_set RX7 28 7 0 0 false .int := ⟨RX7, TX7, 13, tyX7, rfl, (fun _ h => List.mem_cons_of_mem _ (List.mem_append_right _ h)), by decide, (List.mem_of_getElem? (i := 1) (by decide +kernel)), by decide, by decide, by decide, tyX7_ok, nmX7, rfl, by decide +kernel, fun h => by cases h⟩
set_option maxRecDepth 20000 in
theorem k_X7_set_116 : Cond.constant RX7 116 (-100000002) ∈ wsX7_set := List.mem_of_getElem? (i := 2) (by decide +kernel)
set_option maxRecDepth 20000 in
theorem fl_X7_set_7 : FL wsX7_set RX7 7 7 1 1 := FL.of RX7 TX7 13 rfl (fun _ h => List.mem_cons_of_mem _ (List.mem_append_right _ h)) (List.mem_of_getElem? (i := 3) (by decide +kernel)) (by decide)
set_option maxRecDepth 20000 in
theorem k_X7_set_40 : Cond.constant RX7 40 (-100000005) ∈ wsX7_set := List.mem_of_getElem? (i := 4) (by decide +kernel)
set_option maxRecDepth 20000 in
theorem e_X7_set_32 : ES wsX7_set RX7 32 yX7_in wsX7_in 3 0 0 1 22 := ⟨cX7_in, 3, (some .boolean), _, gX7_set_X7_in, rfl, ⟨by decide +kernel, by decide +kernel, by decide +kernel⟩, ⟨by decide, by decide⟩⟩
set_option maxRecDepth 20000 in
theorem e_X7_set_122 : EV wsX7_set RX7 122 RX7 yX7_records wsX7_records 0 7 0 0 1 22 := ⟨cX7_records, 2, none, _, TX7, 13, gX7_set_X7_records, rfl, ⟨rfl, by decide +kernel, by decide +kernel, by decide +kernel⟩, ⟨by decide, by decide⟩, rfl, by decide⟩
set_option maxRecDepth 20000 in
theorem pf_X7_setRate_28 : PF wsX7_setRate RX7 28 7 0 0 false .int := ⟨RX7, TX7, 13, tyX7, rfl, (fun _ h => List.mem_cons_of_mem _ (List.mem_append_right _ h)), by decide, (List.mem_of_getElem? (i := 1) (by decide +kernel)), by decide, by decide, by decide, tyX7_ok, nmX7, rfl, by decide +kernel, fun h => by cases h⟩
set_option maxRecDepth 20000 in
theorem k_X7_setRate_115 : Cond.constant RX7 115 (-100000001) ∈ wsX7_setRate := List.mem_of_getElem? (i := 2) (by decide +kernel)
set_option maxRecDepth 20000 in
theorem k_X7_setRate_116 : Cond.constant RX7 116 (-100000002) ∈ wsX7_setRate := List.mem_of_getElem? (i := 3) (by decide +kernel)
set_option maxRecDepth 20000 in
theorem k_X7_setRate_40 : Cond.constant RX7 40 (-100000005) ∈ wsX7_setRate := List.mem_of_getElem? (i := 4) (by decide +kernel)
set_option maxRecDepth 20000 in
theorem e_X7_setRate_128 : EV wsX7_setRate RX7 128 RX7 yX7_isMachine wsX7_isMachine 1 7 1 22 2 43 := ⟨cX7_isMachine, 2, (some .boolean), _, TX7, 13, gX7_setRate_X7_isMachine, rfl, ⟨rfl, by decide +kernel, by decide +kernel, by decide +kernel⟩, ⟨by decide, by decide⟩, rfl, by decide⟩
set_option maxRecDepth 20000 in
theorem e_X7_setRate_32 : ES wsX7_setRate RX7 32 yX7_in wsX7_in 3 0 0 2 43 := ⟨cX7_in, 3, (some .boolean), _, gX7_setRate_X7_in, rfl, ⟨by decide +kernel, by decide +kernel, by decide +kernel⟩, ⟨by decide, by decide⟩⟩
set_option maxRecDepth 20000 in
theorem e_X7_setRate_51 : EV wsX7_setRate RX7 51 RX7 yX7_ofMachine wsX7_ofMachine 2 7 0 0 2 43 := ⟨cX7_ofMachine, 3, (some .int), _, TX7, 13, gX7_setRate_X7_ofMachine, rfl, ⟨rfl, by decide +kernel, by decide +kernel, by decide +kernel⟩, ⟨by decide, by decide⟩, rfl, by decide⟩
set_option maxRecDepth 20000 in
theorem e_X7_setRate_122 : EV wsX7_setRate RX7 122 RX7 yX7_records wsX7_records 0 7 0 0 2 43 := ⟨cX7_records, 2, none, _, TX7, 13, gX7_setRate_X7_records, rfl, ⟨rfl, by decide +kernel, by decide +kernel, by decide +kernel⟩, ⟨by decide, by decide⟩, rfl, by decide⟩
set_option maxRecDepth 20000 in
theorem e_X7_setRate_95 : EV wsX7_setRate RX7 95 RX7 yX7_layMachine wsX7_layMachine 3 7 0 0 2 43 := ⟨cX7_layMachine, 4, none, _, TX7, 13, gX7_setRate_X7_layMachine, rfl, ⟨rfl, by decide +kernel, by decide +kernel, by decide +kernel⟩, ⟨by decide, by decide⟩, rfl, by decide⟩
set_option maxRecDepth 20000 in
theorem pf_X7_setSeed_28 : PF wsX7_setSeed RX7 28 7 0 0 false .int := ⟨RX7, TX7, 13, tyX7, rfl, (fun _ h => List.mem_cons_of_mem _ (List.mem_append_right _ h)), by decide, (List.mem_of_getElem? (i := 1) (by decide +kernel)), by decide, by decide, by decide, tyX7_ok, nmX7, rfl, by decide +kernel, fun h => by cases h⟩
set_option maxRecDepth 20000 in
theorem k_X7_setSeed_116 : Cond.constant RX7 116 (-100000002) ∈ wsX7_setSeed := List.mem_of_getElem? (i := 2) (by decide +kernel)
set_option maxRecDepth 20000 in
theorem fl_X7_setSeed_7 : FL wsX7_setSeed RX7 7 7 1 1 := FL.of RX7 TX7 13 rfl (fun _ h => List.mem_cons_of_mem _ (List.mem_append_right _ h)) (List.mem_of_getElem? (i := 3) (by decide +kernel)) (by decide)
set_option maxRecDepth 20000 in
theorem k_X7_setSeed_40 : Cond.constant RX7 40 (-100000005) ∈ wsX7_setSeed := List.mem_of_getElem? (i := 4) (by decide +kernel)
set_option maxRecDepth 20000 in
theorem e_X7_setSeed_32 : ES wsX7_setSeed RX7 32 yX7_in wsX7_in 3 0 0 1 22 := ⟨cX7_in, 3, (some .boolean), _, gX7_setSeed_X7_in, rfl, ⟨by decide +kernel, by decide +kernel, by decide +kernel⟩, ⟨by decide, by decide⟩⟩
set_option maxRecDepth 20000 in
theorem e_X7_setSeed_122 : EV wsX7_setSeed RX7 122 RX7 yX7_records wsX7_records 0 7 0 0 1 22 := ⟨cX7_records, 2, none, _, TX7, 13, gX7_setSeed_X7_records, rfl, ⟨rfl, by decide +kernel, by decide +kernel, by decide +kernel⟩, ⟨by decide, by decide⟩, rfl, by decide⟩
set_option maxRecDepth 20000 in
theorem fl_X7_sign_158 : FL wsX7_sign RX7 158 7 9 0 := FL.of RX7 TX7 13 rfl (fun _ h => List.mem_cons_of_mem _ (List.mem_append_right _ h)) (List.mem_of_getElem? (i := 1) (by decide +kernel)) (by decide)
set_option maxRecDepth 20000 in
theorem fl_X7_sign_155 : FL wsX7_sign RX7 155 7 8 0 := FL.of RX7 TX7 13 rfl (fun _ h => List.mem_cons_of_mem _ (List.mem_append_right _ h)) (List.mem_of_getElem? (i := 2) (by decide +kernel)) (by decide)
set_option maxRecDepth 20000 in
theorem fl_X7_sign_22 : FL wsX7_sign RX7 22 7 7 1 := FL.of RX7 TX7 13 rfl (fun _ h => List.mem_cons_of_mem _ (List.mem_append_right _ h)) (List.mem_of_getElem? (i := 3) (by decide +kernel)) (by decide)
set_option maxRecDepth 20000 in
theorem fl_X7_standingOf_7 : FL wsX7_standingOf RX7 7 7 1 1 := FL.of RX7 TX7 13 rfl (fun _ h => List.mem_cons_of_mem _ (List.mem_append_right _ h)) (List.mem_of_getElem? (i := 1) (by decide +kernel)) (by decide)
set_option maxRecDepth 20000 in
theorem e_X7_standingOf_36 : EV wsX7_standingOf RX7 36 RX7 yX7_ofBooking wsX7_ofBooking 2 7 0 0 1 22 := ⟨cX7_ofBooking, 3, (some .int), _, TX7, 13, gX7_standingOf_X7_ofBooking, rfl, ⟨rfl, by decide +kernel, by decide +kernel, by decide +kernel⟩, ⟨by decide, by decide⟩, rfl, by decide⟩
set_option maxRecDepth 20000 in
theorem fl_X7_swapsAside_7 : FL wsX7_swapsAside RX7 7 7 1 1 := FL.of RX7 TX7 13 rfl (fun _ h => List.mem_cons_of_mem _ (List.mem_append_right _ h)) (List.mem_of_getElem? (i := 1) (by decide +kernel)) (by decide)
set_option maxRecDepth 20000 in
theorem fl_X7_swapsAside_13 : FL wsX7_swapsAside RX7 13 7 2 1 := FL.of RX7 TX7 13 rfl (fun _ h => List.mem_cons_of_mem _ (List.mem_append_right _ h)) (List.mem_of_getElem? (i := 2) (by decide +kernel)) (by decide)
set_option maxRecDepth 20000 in
theorem pf_X7_takeBack_28 : PF wsX7_takeBack RX7 28 7 0 0 false .int := ⟨RX7, TX7, 13, tyX7, rfl, (fun _ h => List.mem_cons_of_mem _ (List.mem_append_right _ h)), by decide, (List.mem_of_getElem? (i := 1) (by decide +kernel)), by decide, by decide, by decide, tyX7_ok, nmX7, rfl, by decide +kernel, fun h => by cases h⟩
set_option maxRecDepth 20000 in
theorem k_X7_takeBack_40 : Cond.constant RX7 40 (-100000005) ∈ wsX7_takeBack := List.mem_of_getElem? (i := 2) (by decide +kernel)
set_option maxRecDepth 20000 in
theorem k_X7_takeBack_115 : Cond.constant RX7 115 (-100000001) ∈ wsX7_takeBack := List.mem_of_getElem? (i := 3) (by decide +kernel)
set_option maxRecDepth 20000 in
theorem fl_X7_takeBack_7 : FL wsX7_takeBack RX7 7 7 1 1 := FL.of RX7 TX7 13 rfl (fun _ h => List.mem_cons_of_mem _ (List.mem_append_right _ h)) (List.mem_of_getElem? (i := 4) (by decide +kernel)) (by decide)
set_option maxRecDepth 20000 in
theorem e_X7_takeBack_149 : EV wsX7_takeBack RX7 149 RX7 yX7_placeOf wsX7_placeOf 1 7 1 22 2 45 := ⟨cX7_placeOf, 3, (some .int), _, TX7, 13, gX7_takeBack_X7_placeOf, rfl, ⟨rfl, by decide +kernel, by decide +kernel, by decide +kernel⟩, ⟨by decide, by decide⟩, rfl, by decide⟩
set_option maxRecDepth 20000 in
theorem e_X7_takeBack_122 : EV wsX7_takeBack RX7 122 RX7 yX7_records wsX7_records 0 7 0 0 2 45 := ⟨cX7_records, 2, none, _, TX7, 13, gX7_takeBack_X7_records, rfl, ⟨rfl, by decide +kernel, by decide +kernel, by decide +kernel⟩, ⟨by decide, by decide⟩, rfl, by decide⟩
set_option maxRecDepth 20000 in
theorem e_X7_takeBack_101 : EV wsX7_takeBack RX7 101 RX7 yX7_dropsBooking wsX7_dropsBooking 1 7 1 23 2 45 := ⟨cX7_dropsBooking, 3, none, _, TX7, 13, gX7_takeBack_X7_dropsBooking, rfl, ⟨rfl, by decide +kernel, by decide +kernel, by decide +kernel⟩, ⟨by decide, by decide⟩, rfl, by decide⟩
set_option maxRecDepth 20000 in
theorem pf_X7_type_28 : PF wsX7_type RX7 28 7 0 0 false .int := ⟨RX7, TX7, 13, tyX7, rfl, (fun _ h => List.mem_cons_of_mem _ (List.mem_append_right _ h)), by decide, (List.mem_of_getElem? (i := 1) (by decide +kernel)), by decide, by decide, by decide, tyX7_ok, nmX7, rfl, by decide +kernel, fun h => by cases h⟩
set_option maxRecDepth 20000 in
theorem fl_X7_type_155 : FL wsX7_type RX7 155 7 8 0 := FL.of RX7 TX7 13 rfl (fun _ h => List.mem_cons_of_mem _ (List.mem_append_right _ h)) (List.mem_of_getElem? (i := 2) (by decide +kernel)) (by decide)
set_option maxRecDepth 20000 in
theorem k_X7_type_120 : Cond.constant RX7 120 (-100000003) ∈ wsX7_type := List.mem_of_getElem? (i := 3) (by decide +kernel)
set_option maxRecDepth 20000 in
theorem fl_X7_type_22 : FL wsX7_type RX7 22 7 7 1 := FL.of RX7 TX7 13 rfl (fun _ h => List.mem_cons_of_mem _ (List.mem_append_right _ h)) (List.mem_of_getElem? (i := 4) (by decide +kernel)) (by decide)
set_option maxRecDepth 20000 in
theorem pf_X7_type_155 : PF wsX7_type RX7 155 7 8 0 false .int := ⟨RX7, TX7, 13, tyX7, rfl, (fun _ h => List.mem_cons_of_mem _ (List.mem_append_right _ h)), by decide, (List.mem_of_getElem? (i := 2) (by decide +kernel)), by decide, by decide, by decide, tyX7_ok, nmX7, rfl, by decide +kernel, fun h => by cases h⟩
set_option maxRecDepth 20000 in
theorem pf_X7_undo_28 : PF wsX7_undo RX7 28 7 0 0 false .int := ⟨RX7, TX7, 13, tyX7, rfl, (fun _ h => List.mem_cons_of_mem _ (List.mem_append_right _ h)), by decide, (List.mem_of_getElem? (i := 1) (by decide +kernel)), by decide, by decide, by decide, tyX7_ok, nmX7, rfl, by decide +kernel, fun h => by cases h⟩
set_option maxRecDepth 20000 in
theorem fl_X7_undo_41 : FL wsX7_undo RX7 41 7 4 0 := FL.of RX7 TX7 13 rfl (fun _ h => List.mem_cons_of_mem _ (List.mem_append_right _ h)) (List.mem_of_getElem? (i := 2) (by decide +kernel)) (by decide)
set_option maxRecDepth 20000 in
theorem k_X7_undo_40 : Cond.constant RX7 40 (-100000005) ∈ wsX7_undo := List.mem_of_getElem? (i := 3) (by decide +kernel)
set_option maxRecDepth 20000 in
theorem pf_X7_undo_41 : PF wsX7_undo RX7 41 7 4 0 false .int := ⟨RX7, TX7, 13, tyX7, rfl, (fun _ h => List.mem_cons_of_mem _ (List.mem_append_right _ h)), by decide, (List.mem_of_getElem? (i := 2) (by decide +kernel)), by decide, by decide, by decide, tyX7_ok, nmX7, rfl, by decide +kernel, fun h => by cases h⟩
set_option maxRecDepth 20000 in
theorem fl_X7_undo_7 : FL wsX7_undo RX7 7 7 1 1 := FL.of RX7 TX7 13 rfl (fun _ h => List.mem_cons_of_mem _ (List.mem_append_right _ h)) (List.mem_of_getElem? (i := 4) (by decide +kernel)) (by decide)
set_option maxRecDepth 20000 in
theorem fl_X7_undo_16 : FL wsX7_undo RX7 16 7 3 1 := FL.of RX7 TX7 13 rfl (fun _ h => List.mem_cons_of_mem _ (List.mem_append_right _ h)) (List.mem_of_getElem? (i := 5) (by decide +kernel)) (by decide)
set_option maxRecDepth 20000 in
theorem k_X7_wants_60 : Cond.constantFloat RX7 60 (1091043328) ∈ wsX7_wants := List.mem_of_getElem? (i := 1) (by decide +kernel)
set_option maxRecDepth 20000 in
theorem k_X7_wants_61 : Cond.constantFloat RX7 61 (1084751872) ∈ wsX7_wants := List.mem_of_getElem? (i := 2) (by decide +kernel)
set_option maxRecDepth 20000 in
theorem k_X7_wants_62 : Cond.constantFloat RX7 62 (1101398016) ∈ wsX7_wants := List.mem_of_getElem? (i := 3) (by decide +kernel)
set_option maxRecDepth 20000 in
theorem e_X7_wants_51 : EV wsX7_wants RX7 51 RX7 yX7_ofMachine wsX7_ofMachine 2 7 0 0 1 22 := ⟨cX7_ofMachine, 3, (some .int), _, TX7, 13, gX7_wants_X7_ofMachine, rfl, ⟨rfl, by decide +kernel, by decide +kernel, by decide +kernel⟩, ⟨by decide, by decide⟩, rfl, by decide⟩
set_option maxRecDepth 20000 in
theorem pf_X7_wet_28 : PF wsX7_wet RX7 28 7 0 0 false .int := ⟨RX7, TX7, 13, tyX7, rfl, (fun _ h => List.mem_cons_of_mem _ (List.mem_append_right _ h)), by decide, (List.mem_of_getElem? (i := 1) (by decide +kernel)), by decide, by decide, by decide, tyX7_ok, nmX7, rfl, by decide +kernel, fun h => by cases h⟩
set_option maxRecDepth 20000 in
theorem k_X7_wet_116 : Cond.constant RX7 116 (-100000002) ∈ wsX7_wet := List.mem_of_getElem? (i := 2) (by decide +kernel)
set_option maxRecDepth 20000 in
theorem fl_X7_wet_7 : FL wsX7_wet RX7 7 7 1 1 := FL.of RX7 TX7 13 rfl (fun _ h => List.mem_cons_of_mem _ (List.mem_append_right _ h)) (List.mem_of_getElem? (i := 3) (by decide +kernel)) (by decide)
set_option maxRecDepth 20000 in
theorem e_X7_wet_32 : ES wsX7_wet RX7 32 yX7_in wsX7_in 3 0 0 1 22 := ⟨cX7_in, 3, (some .boolean), _, gX7_wet_X7_in, rfl, ⟨by decide +kernel, by decide +kernel, by decide +kernel⟩, ⟨by decide, by decide⟩⟩
set_option maxRecDepth 20000 in
theorem e_X7_wet_73 : EV wsX7_wet RX7 73 RX7 yX7_isWet wsX7_isWet 1 7 0 0 1 22 := ⟨cX7_isWet, 2, (some .boolean), _, TX7, 13, gX7_wet_X7_isWet, rfl, ⟨rfl, by decide +kernel, by decide +kernel, by decide +kernel⟩, ⟨by decide, by decide⟩, rfl, by decide⟩
set_option maxRecDepth 20000 in
theorem fl_X7_works_7 : FL wsX7_works RX7 7 7 1 1 := FL.of RX7 TX7 13 rfl (fun _ h => List.mem_cons_of_mem _ (List.mem_append_right _ h)) (List.mem_of_getElem? (i := 1) (by decide +kernel)) (by decide)
set_option maxRecDepth 20000 in
theorem e_X7_works_51 : EV wsX7_works RX7 51 RX7 yX7_ofMachine wsX7_ofMachine 2 7 0 0 2 46 := ⟨cX7_ofMachine, 3, (some .int), _, TX7, 13, gX7_works_X7_ofMachine, rfl, ⟨rfl, by decide +kernel, by decide +kernel, by decide +kernel⟩, ⟨by decide, by decide⟩, rfl, by decide⟩
set_option maxRecDepth 20000 in
theorem e_X7_works_73 : EV wsX7_works RX7 73 RX7 yX7_isWet wsX7_isWet 1 7 0 0 2 46 := ⟨cX7_isWet, 2, (some .boolean), _, TX7, 13, gX7_works_X7_isWet, rfl, ⟨rfl, by decide +kernel, by decide +kernel, by decide +kernel⟩, ⟨by decide, by decide⟩, rfl, by decide⟩
set_option maxRecDepth 20000 in
theorem e_X7_works_77 : EV wsX7_works RX7 77 RX7 yX7_fuelOf wsX7_fuelOf 1 7 1 23 2 46 := ⟨cX7_fuelOf, 2, (some .float), _, TX7, 13, gX7_works_X7_fuelOf, rfl, ⟨rfl, by decide +kernel, by decide +kernel, by decide +kernel⟩, ⟨by decide, by decide⟩, rfl, by decide⟩
set_option maxRecDepth 20000 in
theorem e_X7_works_80 : EV wsX7_works RX7 80 RX7 yX7_wants wsX7_wants 2 7 1 22 2 46 := ⟨cX7_wants, 5, (some .float), _, TX7, 13, gX7_works_X7_wants, rfl, ⟨rfl, by decide +kernel, by decide +kernel, by decide +kernel⟩, ⟨by decide, by decide⟩, rfl, by decide⟩
