set_option maxRecDepth 20000 in
theorem ggX6_booking_X4_placeOf : GoodIn wsX6_booking wsX4_placeOf := goodIn_r _ [13, 14, 15, 16, 17, 18, 12, 19, 20, 69, 70, 71, 72, 73, 74, 75, 76, 77, 78, 79, 80, 81, 82, 83, 84, 63, 64, 65, 66, 67, 68] (by decide +kernel) (by decide +kernel)
set_option maxRecDepth 20000 in
theorem gX6_booking_X4_placeOf : GoodIn wsX6_booking (wsV RX6 142 RX4 yX4_placeOf wsX4_placeOf) := goodIn_app (goodIn_of _ (by decide +kernel)) ggX6_booking_X4_placeOf
set_option maxRecDepth 20000 in
theorem ggX6_booking_X4_bookingAt : GoodIn wsX6_booking wsX4_bookingAt := goodIn_r _ [19, 14, 20, 69, 70, 71, 72, 73, 74, 75, 76, 77, 78, 79, 80, 81, 82, 83, 84] (by decide +kernel) (by decide +kernel)
set_option maxRecDepth 20000 in
theorem gX6_booking_X4_bookingAt : GoodIn wsX6_booking (wsV RX6 219 RX4 yX4_bookingAt wsX4_bookingAt) := goodIn_app (goodIn_of _ (by decide +kernel)) ggX6_booking_X4_bookingAt
set_option maxRecDepth 20000 in
theorem ggX6_booking_X4_chargeOf : GoodIn wsX6_booking wsX4_chargeOf := goodIn_r _ [25, 26, 27, 28, 29, 30, 31, 32, 33, 34, 12, 35, 36, 37, 38, 39, 40, 41, 42, 43, 44, 45, 46, 47, 48, 49, 50, 51, 52, 53, 54, 55, 56, 63, 64, 65, 66, 67, 68, 85, 86, 87, 88, 89, 90, 91, 92, 69, 70, 71, 72, 73, 74, 75, 76, 77, 78, 79, 80, 81, 82, 83, 84, 93, 94, 95, 96, 97, 98] (by decide +kernel) (by decide +kernel)
set_option maxRecDepth 20000 in
theorem gX6_booking_X4_chargeOf : GoodIn wsX6_booking (wsV RX6 232 RX4 yX4_chargeOf wsX4_chargeOf) := goodIn_app (goodIn_of _ (by decide +kernel)) ggX6_booking_X4_chargeOf
theorem dX6_booking_0 : decode cX6_booking 0 = .ok (.aload_n 0, 1) := by decide +kernel
theorem dX6_booking_1 : decode cX6_booking 1 = .ok (.getfield 10, 3) := by decide +kernel
theorem dX6_booking_4 : decode cX6_booking 4 = .ok (.aload_n 0, 1) := by decide +kernel
theorem dX6_booking_5 : decode cX6_booking 5 = .ok (.getfield 10, 3) := by decide +kernel
theorem dX6_booking_8 : decode cX6_booking 8 = .ok (.iload_n 1, 1) := by decide +kernel
theorem dX6_booking_9 : decode cX6_booking 9 = .ok (.invokevirtual 142, 3) := by decide +kernel
theorem dX6_booking_12 : decode cX6_booking 12 = .ok (.invokevirtual 219, 3) := by decide +kernel
theorem dX6_booking_15 : decode cX6_booking 15 = .ok (.astore_n 3, 1) := by decide +kernel
theorem dX6_booking_16 : decode cX6_booking 16 = .ok (.aload_n 3, 1) := by decide +kernel
theorem dX6_booking_17 : decode cX6_booking 17 = .ok (.ifnonnull 6, 3) := by decide +kernel
theorem dX6_booking_20 : decode cX6_booking 20 = .ok (.ldc 40, 2) := by decide +kernel
theorem dX6_booking_22 : decode cX6_booking 22 = .ok (.ireturn, 1) := by decide +kernel
theorem dX6_booking_23 : decode cX6_booking 23 = .ok (.iload_n 2, 1) := by decide +kernel
theorem dX6_booking_24 : decode cX6_booking 24 = .ok (.tableswitch 74 0 5 #[40, 45, 50, 55, 60, 65], 40) := by decide +kernel
theorem dX6_booking_64 : decode cX6_booking 64 = .ok (.aload_n 3, 1) := by decide +kernel
theorem dX6_booking_65 : decode cX6_booking 65 = .ok (.getfield 223, 3) := by decide +kernel
theorem dX6_booking_68 : decode cX6_booking 68 = .ok (.ireturn, 1) := by decide +kernel
theorem dX6_booking_69 : decode cX6_booking 69 = .ok (.aload_n 3, 1) := by decide +kernel
theorem dX6_booking_70 : decode cX6_booking 70 = .ok (.getfield 226, 3) := by decide +kernel
theorem dX6_booking_73 : decode cX6_booking 73 = .ok (.ireturn, 1) := by decide +kernel
theorem dX6_booking_74 : decode cX6_booking 74 = .ok (.aload_n 3, 1) := by decide +kernel
theorem dX6_booking_75 : decode cX6_booking 75 = .ok (.getfield 227, 3) := by decide +kernel
theorem dX6_booking_78 : decode cX6_booking 78 = .ok (.ireturn, 1) := by decide +kernel
theorem dX6_booking_79 : decode cX6_booking 79 = .ok (.aload_n 3, 1) := by decide +kernel
theorem dX6_booking_80 : decode cX6_booking 80 = .ok (.getfield 228, 3) := by decide +kernel
theorem dX6_booking_83 : decode cX6_booking 83 = .ok (.ireturn, 1) := by decide +kernel
theorem dX6_booking_84 : decode cX6_booking 84 = .ok (.aload_n 3, 1) := by decide +kernel
theorem dX6_booking_85 : decode cX6_booking 85 = .ok (.getfield 229, 3) := by decide +kernel
theorem dX6_booking_88 : decode cX6_booking 88 = .ok (.ireturn, 1) := by decide +kernel
theorem dX6_booking_89 : decode cX6_booking 89 = .ok (.aload_n 0, 1) := by decide +kernel
theorem dX6_booking_90 : decode cX6_booking 90 = .ok (.getfield 10, 3) := by decide +kernel
theorem dX6_booking_93 : decode cX6_booking 93 = .ok (.aload_n 3, 1) := by decide +kernel
theorem dX6_booking_94 : decode cX6_booking 94 = .ok (.invokevirtual 232, 3) := by decide +kernel
theorem dX6_booking_97 : decode cX6_booking 97 = .ok (.ireturn, 1) := by decide +kernel
theorem dX6_booking_98 : decode cX6_booking 98 = .ok (.ldc 41, 2) := by decide +kernel
theorem dX6_booking_100 : decode cX6_booking 100 = .ok (.ireturn, 1) := by decide +kernel
set_option maxRecDepth 20000 in
theorem ggX6_booked_X4_machineAt : GoodIn wsX6_booked wsX4_machineAt := goodIn_r _ [9, 10, 11, 40, 41, 42, 43, 44, 45, 46, 47, 48, 49, 50, 51, 52, 53, 54, 55] (by decide +kernel) (by decide +kernel)
set_option maxRecDepth 20000 in
theorem gX6_booked_X4_machineAt : GoodIn wsX6_booked (wsV RX6 67 RX4 yX4_machineAt wsX4_machineAt) := goodIn_app (goodIn_of _ (by decide +kernel)) ggX6_booked_X4_machineAt
set_option maxRecDepth 20000 in
theorem ggX6_booked_X6_outside : GoodIn wsX6_booked wsX6_outside := goodIn_r _ [15] (by decide +kernel) (by decide +kernel)
set_option maxRecDepth 20000 in
theorem gX6_booked_X6_outside : GoodIn wsX6_booked (va_wsS RX6 36 yX6_outside wsX6_outside) := goodIn_app (goodIn_of _ (by decide +kernel)) ggX6_booked_X6_outside
set_option maxRecDepth 20000 in
theorem ggX6_booked_X4_hoursOn : GoodIn wsX6_booked wsX4_hoursOn := goodIn_r _ [19, 20, 21, 22, 23, 24, 8, 25, 26, 27, 28, 29, 30, 31, 32, 33, 40, 41, 42, 43, 44, 45, 46, 47, 48, 49, 50, 51, 52, 53, 54, 55, 56, 57, 58, 59, 60, 61] (by decide +kernel) (by decide +kernel)
set_option maxRecDepth 20000 in
theorem gX6_booked_X4_hoursOn : GoodIn wsX6_booked (wsV RX6 236 RX4 yX4_hoursOn wsX4_hoursOn) := goodIn_app (goodIn_of _ (by decide +kernel)) ggX6_booked_X4_hoursOn
theorem dX6_booked_0 : decode cX6_booked 0 = .ok (.aload_n 0, 1) := by decide +kernel
theorem dX6_booked_1 : decode cX6_booked 1 = .ok (.getfield 10, 3) := by decide +kernel
theorem dX6_booked_4 : decode cX6_booked 4 = .ok (.iload_n 1, 1) := by decide +kernel
theorem dX6_booked_5 : decode cX6_booked 5 = .ok (.invokevirtual 67, 3) := by decide +kernel
theorem dX6_booked_8 : decode cX6_booked 8 = .ok (.ifnonnull 6, 3) := by decide +kernel
theorem dX6_booked_11 : decode cX6_booked 11 = .ok (.ldc 40, 2) := by decide +kernel
theorem dX6_booked_13 : decode cX6_booked 13 = .ok (.ireturn, 1) := by decide +kernel
theorem dX6_booked_14 : decode cX6_booked 14 = .ok (.iload_n 2, 1) := by decide +kernel
theorem dX6_booked_15 : decode cX6_booked 15 = .ok (.iconst 1, 1) := by decide +kernel
theorem dX6_booked_16 : decode cX6_booked 16 = .ok (.bipush 99, 2) := by decide +kernel
theorem dX6_booked_18 : decode cX6_booked 18 = .ok (.invokestatic 36, 3) := by decide +kernel
theorem dX6_booked_21 : decode cX6_booked 21 = .ok (.ifCond .eq 6, 3) := by decide +kernel
theorem dX6_booked_24 : decode cX6_booked 24 = .ok (.ldc 41, 2) := by decide +kernel
theorem dX6_booked_26 : decode cX6_booked 26 = .ok (.ireturn, 1) := by decide +kernel
theorem dX6_booked_27 : decode cX6_booked 27 = .ok (.aload_n 0, 1) := by decide +kernel
theorem dX6_booked_28 : decode cX6_booked 28 = .ok (.getfield 10, 3) := by decide +kernel
theorem dX6_booked_31 : decode cX6_booked 31 = .ok (.iload_n 1, 1) := by decide +kernel
theorem dX6_booked_32 : decode cX6_booked 32 = .ok (.aload_n 0, 1) := by decide +kernel
theorem dX6_booked_33 : decode cX6_booked 33 = .ok (.getfield 10, 3) := by decide +kernel
theorem dX6_booked_36 : decode cX6_booked 36 = .ok (.getfield 183, 3) := by decide +kernel
theorem dX6_booked_39 : decode cX6_booked 39 = .ok (.iload_n 2, 1) := by decide +kernel
theorem dX6_booked_40 : decode cX6_booked 40 = .ok (.iadd, 1) := by decide +kernel
theorem dX6_booked_41 : decode cX6_booked 41 = .ok (.invokevirtual 236, 3) := by decide +kernel
theorem dX6_booked_44 : decode cX6_booked 44 = .ok (.ireturn, 1) := by decide +kernel
set_option maxRecDepth 20000 in
theorem ggX6_wet_X6_outside : GoodIn wsX6_wet wsX6_outside := goodIn_r _ [7] (by decide +kernel) (by decide +kernel)
set_option maxRecDepth 20000 in
theorem gX6_wet_X6_outside : GoodIn wsX6_wet (va_wsS RX6 36 yX6_outside wsX6_outside) := goodIn_app (goodIn_of _ (by decide +kernel)) ggX6_wet_X6_outside
set_option maxRecDepth 20000 in
theorem ggX6_wet_X4_isWet : GoodIn wsX6_wet wsX4_isWet := goodIn_r _ [12, 13, 20, 21, 22, 23, 24, 25, 26, 27, 28, 29, 30, 31, 32, 33, 34, 35] (by decide +kernel) (by decide +kernel)
set_option maxRecDepth 20000 in
theorem gX6_wet_X4_isWet : GoodIn wsX6_wet (wsV RX6 239 RX4 yX4_isWet wsX4_isWet) := goodIn_app (goodIn_of _ (by decide +kernel)) ggX6_wet_X4_isWet
theorem dX6_wet_0 : decode cX6_wet 0 = .ok (.iload_n 1, 1) := by decide +kernel
theorem dX6_wet_1 : decode cX6_wet 1 = .ok (.iconst 0, 1) := by decide +kernel
theorem dX6_wet_2 : decode cX6_wet 2 = .ok (.bipush 99, 2) := by decide +kernel
theorem dX6_wet_4 : decode cX6_wet 4 = .ok (.invokestatic 36, 3) := by decide +kernel
theorem dX6_wet_7 : decode cX6_wet 7 = .ok (.ifCond .eq 6, 3) := by decide +kernel
theorem dX6_wet_10 : decode cX6_wet 10 = .ok (.ldc 41, 2) := by decide +kernel
theorem dX6_wet_12 : decode cX6_wet 12 = .ok (.ireturn, 1) := by decide +kernel
theorem dX6_wet_13 : decode cX6_wet 13 = .ok (.aload_n 0, 1) := by decide +kernel
theorem dX6_wet_14 : decode cX6_wet 14 = .ok (.getfield 10, 3) := by decide +kernel
theorem dX6_wet_17 : decode cX6_wet 17 = .ok (.aload_n 0, 1) := by decide +kernel
theorem dX6_wet_18 : decode cX6_wet 18 = .ok (.getfield 10, 3) := by decide +kernel
theorem dX6_wet_21 : decode cX6_wet 21 = .ok (.getfield 183, 3) := by decide +kernel
theorem dX6_wet_24 : decode cX6_wet 24 = .ok (.iload_n 1, 1) := by decide +kernel
theorem dX6_wet_25 : decode cX6_wet 25 = .ok (.iadd, 1) := by decide +kernel
theorem dX6_wet_26 : decode cX6_wet 26 = .ok (.invokevirtual 239, 3) := by decide +kernel
theorem dX6_wet_29 : decode cX6_wet 29 = .ok (.ifCond .eq 7, 3) := by decide +kernel
theorem dX6_wet_32 : decode cX6_wet 32 = .ok (.iconst 1, 1) := by decide +kernel
theorem dX6_wet_33 : decode cX6_wet 33 = .ok (.goto 4, 3) := by decide +kernel
theorem dX6_wet_36 : decode cX6_wet 36 = .ok (.iconst 0, 1) := by decide +kernel
theorem dX6_wet_37 : decode cX6_wet 37 = .ok (.ireturn, 1) := by decide +kernel
set_option maxRecDepth 20000 in
theorem ggX6_most_X4_machineAt : GoodIn wsX6_most wsX4_machineAt := goodIn_r _ [7, 8, 9, 23, 24, 25, 26, 27, 28, 29, 30, 31, 32, 33, 34, 35, 36, 37, 38] (by decide +kernel) (by decide +kernel)
set_option maxRecDepth 20000 in
theorem gX6_most_X4_machineAt : GoodIn wsX6_most (wsV RX6 67 RX4 yX4_machineAt wsX4_machineAt) := goodIn_app (goodIn_of _ (by decide +kernel)) ggX6_most_X4_machineAt
set_option maxRecDepth 20000 in
theorem ggX6_most_X3_bestFarmer : GoodIn wsX6_most wsX3_bestFarmer := goodIn_r _ [14, 15, 16, 39, 40, 41, 42, 43, 44, 45, 46] (by decide +kernel) (by decide +kernel)
set_option maxRecDepth 20000 in
theorem gX6_most_X3_bestFarmer : GoodIn wsX6_most (wsV RX6 243 RX3 yX3_bestFarmer wsX3_bestFarmer) := goodIn_app (goodIn_of _ (by decide +kernel)) ggX6_most_X3_bestFarmer
theorem dX6_most_0 : decode cX6_most 0 = .ok (.aload_n 0, 1) := by decide +kernel
theorem dX6_most_1 : decode cX6_most 1 = .ok (.getfield 10, 3) := by decide +kernel
theorem dX6_most_4 : decode cX6_most 4 = .ok (.iload_n 1, 1) := by decide +kernel
theorem dX6_most_5 : decode cX6_most 5 = .ok (.invokevirtual 67, 3) := by decide +kernel
theorem dX6_most_8 : decode cX6_most 8 = .ok (.astore_n 2, 1) := by decide +kernel
theorem dX6_most_9 : decode cX6_most 9 = .ok (.aload_n 2, 1) := by decide +kernel
theorem dX6_most_10 : decode cX6_most 10 = .ok (.ifnonnull 8, 3) := by decide +kernel
theorem dX6_most_13 : decode cX6_most 13 = .ok (.ldc 40, 2) := by decide +kernel
theorem dX6_most_15 : decode cX6_most 15 = .ok (.goto 7, 3) := by decide +kernel
theorem dX6_most_18 : decode cX6_most 18 = .ok (.aload_n 2, 1) := by decide +kernel
theorem dX6_most_19 : decode cX6_most 19 = .ok (.invokevirtual 243, 3) := by decide +kernel
theorem dX6_most_22 : decode cX6_most 22 = .ok (.ireturn, 1) := by decide +kernel
set_option maxRecDepth 20000 in
theorem ggX6_lasts_X4_machineAt : GoodIn wsX6_lasts wsX4_machineAt := goodIn_r _ [7, 8, 9, 49, 50, 51, 52, 53, 54, 55, 56, 57, 58, 59, 60, 61, 62, 63, 64] (by decide +kernel) (by decide +kernel)
set_option maxRecDepth 20000 in
theorem gX6_lasts_X4_machineAt : GoodIn wsX6_lasts (wsV RX6 67 RX4 yX4_machineAt wsX4_machineAt) := goodIn_app (goodIn_of _ (by decide +kernel)) ggX6_lasts_X4_machineAt
set_option maxRecDepth 20000 in
theorem ggX6_lasts_X4_daysOfFuel : GoodIn wsX6_lasts wsX4_daysOfFuel := goodIn_r _ [13, 14, 15, 16, 17, 18, 19, 20, 21, 6, 22, 23, 24, 25, 26, 27, 28, 29, 30, 31, 32, 33, 34, 35, 36, 37, 38, 39, 40, 41, 42, 65, 66, 67, 68, 69, 70, 71, 72, 49, 50, 51, 52, 53, 54, 55, 56, 57, 58, 59, 60, 61, 62, 63, 64, 73, 74, 75, 76, 77, 78] (by decide +kernel) (by decide +kernel)
set_option maxRecDepth 20000 in
theorem gX6_lasts_X4_daysOfFuel : GoodIn wsX6_lasts (wsV RX6 246 RX4 yX4_daysOfFuel wsX4_daysOfFuel) := goodIn_app (goodIn_of _ (by decide +kernel)) ggX6_lasts_X4_daysOfFuel
theorem dX6_lasts_0 : decode cX6_lasts 0 = .ok (.aload_n 0, 1) := by decide +kernel
theorem dX6_lasts_1 : decode cX6_lasts 1 = .ok (.getfield 10, 3) := by decide +kernel
theorem dX6_lasts_4 : decode cX6_lasts 4 = .ok (.iload_n 1, 1) := by decide +kernel
theorem dX6_lasts_5 : decode cX6_lasts 5 = .ok (.invokevirtual 67, 3) := by decide +kernel
theorem dX6_lasts_8 : decode cX6_lasts 8 = .ok (.astore_n 2, 1) := by decide +kernel
theorem dX6_lasts_9 : decode cX6_lasts 9 = .ok (.aload_n 2, 1) := by decide +kernel
theorem dX6_lasts_10 : decode cX6_lasts 10 = .ok (.ifnonnull 8, 3) := by decide +kernel
theorem dX6_lasts_13 : decode cX6_lasts 13 = .ok (.ldc 40, 2) := by decide +kernel
theorem dX6_lasts_15 : decode cX6_lasts 15 = .ok (.goto 12, 3) := by decide +kernel
theorem dX6_lasts_18 : decode cX6_lasts 18 = .ok (.aload_n 0, 1) := by decide +kernel
theorem dX6_lasts_19 : decode cX6_lasts 19 = .ok (.getfield 10, 3) := by decide +kernel
theorem dX6_lasts_22 : decode cX6_lasts 22 = .ok (.iload_n 1, 1) := by decide +kernel
theorem dX6_lasts_23 : decode cX6_lasts 23 = .ok (.aload_n 2, 1) := by decide +kernel
theorem dX6_lasts_24 : decode cX6_lasts 24 = .ok (.invokevirtual 246, 3) := by decide +kernel
theorem dX6_lasts_27 : decode cX6_lasts 27 = .ok (.ireturn, 1) := by decide +kernel
set_option maxRecDepth 20000 in
theorem ggX6_count_X6_seasonOf : GoodIn wsX6_count wsX6_seasonOf := goodIn_r _ [23] (by decide +kernel) (by decide +kernel)
set_option maxRecDepth 20000 in
theorem gX6_count_X6_seasonOf : GoodIn wsX6_count (va_wsS RX6 250 yX6_seasonOf wsX6_seasonOf) := goodIn_app (goodIn_of _ (by decide +kernel)) ggX6_count_X6_seasonOf
set_option maxRecDepth 20000 in
theorem ggX6_count_X4_sumOfAccounts : GoodIn wsX6_count wsX4_sumOfAccounts := goodIn_r _ [28, 29, 30, 31, 32, 27, 33, 34, 77, 78, 79, 80, 81, 82, 52, 53, 54, 55, 56, 57, 58, 59, 60, 61, 62, 63, 64, 65, 66, 67] (by decide +kernel) (by decide +kernel)
set_option maxRecDepth 20000 in
theorem gX6_count_X4_sumOfAccounts : GoodIn wsX6_count (wsV RX6 262 RX4 yX4_sumOfAccounts wsX4_sumOfAccounts) := goodIn_app (goodIn_of _ (by decide +kernel)) ggX6_count_X4_sumOfAccounts
set_option maxRecDepth 20000 in
theorem ggX6_count_X4_brokenMachines : GoodIn wsX6_count wsX4_brokenMachines := goodIn_r _ [38, 39, 40, 41, 42, 43, 27, 44, 45, 52, 53, 54, 55, 56, 57, 58, 59, 60, 61, 62, 63, 64, 65, 66, 67, 83, 84, 85, 86, 87, 88, 89, 90] (by decide +kernel) (by decide +kernel)
set_option maxRecDepth 20000 in
theorem gX6_count_X4_brokenMachines : GoodIn wsX6_count (wsV RX6 265 RX4 yX4_brokenMachines wsX4_brokenMachines) := goodIn_app (goodIn_of _ (by decide +kernel)) ggX6_count_X4_brokenMachines
theorem dX6_count_0 : decode cX6_count 0 = .ok (.iload_n 1, 1) := by decide +kernel
theorem dX6_count_1 : decode cX6_count 1 = .ok (.tableswitch 234 0 17 #[87, 95, 106, 114, 122, 130, 138, 146, 154, 162, 170, 178, 186, 194, 202, 210, 218, 226], 87) := by decide +kernel
theorem dX6_count_88 : decode cX6_count 88 = .ok (.aload_n 0, 1) := by decide +kernel
theorem dX6_count_89 : decode cX6_count 89 = .ok (.getfield 10, 3) := by decide +kernel
theorem dX6_count_92 : decode cX6_count 92 = .ok (.getfield 183, 3) := by decide +kernel
theorem dX6_count_95 : decode cX6_count 95 = .ok (.ireturn, 1) := by decide +kernel
theorem dX6_count_96 : decode cX6_count 96 = .ok (.aload_n 0, 1) := by decide +kernel
theorem dX6_count_97 : decode cX6_count 97 = .ok (.getfield 10, 3) := by decide +kernel
theorem dX6_count_100 : decode cX6_count 100 = .ok (.getfield 183, 3) := by decide +kernel
theorem dX6_count_103 : decode cX6_count 103 = .ok (.invokestatic 250, 3) := by decide +kernel
theorem dX6_count_106 : decode cX6_count 106 = .ok (.ireturn, 1) := by decide +kernel
theorem dX6_count_107 : decode cX6_count 107 = .ok (.aload_n 0, 1) := by decide +kernel
theorem dX6_count_108 : decode cX6_count 108 = .ok (.getfield 10, 3) := by decide +kernel
theorem dX6_count_111 : decode cX6_count 111 = .ok (.getfield 253, 3) := by decide +kernel
theorem dX6_count_114 : decode cX6_count 114 = .ok (.ireturn, 1) := by decide +kernel
theorem dX6_count_115 : decode cX6_count 115 = .ok (.aload_n 0, 1) := by decide +kernel
theorem dX6_count_116 : decode cX6_count 116 = .ok (.getfield 10, 3) := by decide +kernel
theorem dX6_count_119 : decode cX6_count 119 = .ok (.getfield 149, 3) := by decide +kernel
theorem dX6_count_122 : decode cX6_count 122 = .ok (.ireturn, 1) := by decide +kernel
theorem dX6_count_123 : decode cX6_count 123 = .ok (.aload_n 0, 1) := by decide +kernel
theorem dX6_count_124 : decode cX6_count 124 = .ok (.getfield 10, 3) := by decide +kernel
theorem dX6_count_127 : decode cX6_count 127 = .ok (.getfield 256, 3) := by decide +kernel
theorem dX6_count_130 : decode cX6_count 130 = .ok (.ireturn, 1) := by decide +kernel
theorem dX6_count_131 : decode cX6_count 131 = .ok (.aload_n 0, 1) := by decide +kernel
theorem dX6_count_132 : decode cX6_count 132 = .ok (.getfield 10, 3) := by decide +kernel
theorem dX6_count_135 : decode cX6_count 135 = .ok (.getfield 152, 3) := by decide +kernel
theorem dX6_count_138 : decode cX6_count 138 = .ok (.ireturn, 1) := by decide +kernel
theorem dX6_count_139 : decode cX6_count 139 = .ok (.aload_n 0, 1) := by decide +kernel
theorem dX6_count_140 : decode cX6_count 140 = .ok (.getfield 10, 3) := by decide +kernel
theorem dX6_count_143 : decode cX6_count 143 = .ok (.getfield 259, 3) := by decide +kernel
theorem dX6_count_146 : decode cX6_count 146 = .ok (.ireturn, 1) := by decide +kernel
theorem dX6_count_147 : decode cX6_count 147 = .ok (.aload_n 0, 1) := by decide +kernel
theorem dX6_count_148 : decode cX6_count 148 = .ok (.getfield 10, 3) := by decide +kernel
theorem dX6_count_151 : decode cX6_count 151 = .ok (.getfield 84, 3) := by decide +kernel
theorem dX6_count_154 : decode cX6_count 154 = .ok (.ireturn, 1) := by decide +kernel
theorem dX6_count_155 : decode cX6_count 155 = .ok (.aload_n 0, 1) := by decide +kernel
theorem dX6_count_156 : decode cX6_count 156 = .ok (.getfield 10, 3) := by decide +kernel
theorem dX6_count_159 : decode cX6_count 159 = .ok (.invokevirtual 262, 3) := by decide +kernel
theorem dX6_count_162 : decode cX6_count 162 = .ok (.ireturn, 1) := by decide +kernel
theorem dX6_count_163 : decode cX6_count 163 = .ok (.aload_n 0, 1) := by decide +kernel
theorem dX6_count_164 : decode cX6_count 164 = .ok (.getfield 10, 3) := by decide +kernel
theorem dX6_count_167 : decode cX6_count 167 = .ok (.getfield 158, 3) := by decide +kernel
theorem dX6_count_170 : decode cX6_count 170 = .ok (.ireturn, 1) := by decide +kernel
theorem dX6_count_171 : decode cX6_count 171 = .ok (.aload_n 0, 1) := by decide +kernel
theorem dX6_count_172 : decode cX6_count 172 = .ok (.getfield 10, 3) := by decide +kernel
theorem dX6_count_175 : decode cX6_count 175 = .ok (.getfield 161, 3) := by decide +kernel
theorem dX6_count_178 : decode cX6_count 178 = .ok (.ireturn, 1) := by decide +kernel
theorem dX6_count_179 : decode cX6_count 179 = .ok (.aload_n 0, 1) := by decide +kernel
theorem dX6_count_180 : decode cX6_count 180 = .ok (.getfield 10, 3) := by decide +kernel
theorem dX6_count_183 : decode cX6_count 183 = .ok (.getfield 164, 3) := by decide +kernel
theorem dX6_count_186 : decode cX6_count 186 = .ok (.ireturn, 1) := by decide +kernel
theorem dX6_count_187 : decode cX6_count 187 = .ok (.aload_n 0, 1) := by decide +kernel
theorem dX6_count_188 : decode cX6_count 188 = .ok (.getfield 10, 3) := by decide +kernel
theorem dX6_count_191 : decode cX6_count 191 = .ok (.invokevirtual 265, 3) := by decide +kernel
theorem dX6_count_194 : decode cX6_count 194 = .ok (.ireturn, 1) := by decide +kernel
theorem dX6_count_195 : decode cX6_count 195 = .ok (.aload_n 0, 1) := by decide +kernel
theorem dX6_count_196 : decode cX6_count 196 = .ok (.getfield 25, 3) := by decide +kernel
theorem dX6_count_199 : decode cX6_count 199 = .ok (.getfield 177, 3) := by decide +kernel
theorem dX6_count_202 : decode cX6_count 202 = .ok (.ireturn, 1) := by decide +kernel
theorem dX6_count_203 : decode cX6_count 203 = .ok (.aload_n 0, 1) := by decide +kernel
theorem dX6_count_204 : decode cX6_count 204 = .ok (.getfield 32, 3) := by decide +kernel
theorem dX6_count_207 : decode cX6_count 207 = .ok (.getfield 170, 3) := by decide +kernel
theorem dX6_count_210 : decode cX6_count 210 = .ok (.ireturn, 1) := by decide +kernel
theorem dX6_count_211 : decode cX6_count 211 = .ok (.aload_n 0, 1) := by decide +kernel
theorem dX6_count_212 : decode cX6_count 212 = .ok (.getfield 10, 3) := by decide +kernel
theorem dX6_count_215 : decode cX6_count 215 = .ok (.getfield 268, 3) := by decide +kernel
theorem dX6_count_218 : decode cX6_count 218 = .ok (.ireturn, 1) := by decide +kernel
theorem dX6_count_219 : decode cX6_count 219 = .ok (.aload_n 0, 1) := by decide +kernel
theorem dX6_count_220 : decode cX6_count 220 = .ok (.getfield 10, 3) := by decide +kernel
theorem dX6_count_223 : decode cX6_count 223 = .ok (.getfield 87, 3) := by decide +kernel
theorem dX6_count_226 : decode cX6_count 226 = .ok (.ireturn, 1) := by decide +kernel
theorem dX6_count_227 : decode cX6_count 227 = .ok (.aload_n 0, 1) := by decide +kernel
theorem dX6_count_228 : decode cX6_count 228 = .ok (.getfield 10, 3) := by decide +kernel
theorem dX6_count_231 : decode cX6_count 231 = .ok (.getfield 101, 3) := by decide +kernel
theorem dX6_count_234 : decode cX6_count 234 = .ok (.ireturn, 1) := by decide +kernel
theorem dX6_count_235 : decode cX6_count 235 = .ok (.ldc 41, 2) := by decide +kernel
theorem dX6_count_237 : decode cX6_count 237 = .ok (.ireturn, 1) := by decide +kernel
theorem dX6_outside_0 : decode cX6_outside 0 = .ok (.iload_n 0, 1) := by decide +kernel
theorem dX6_outside_1 : decode cX6_outside 1 = .ok (.iload_n 1, 1) := by decide +kernel
theorem dX6_outside_2 : decode cX6_outside 2 = .ok (.if_icmp .lt 8, 3) := by decide +kernel
theorem dX6_outside_5 : decode cX6_outside 5 = .ok (.iload_n 0, 1) := by decide +kernel
theorem dX6_outside_6 : decode cX6_outside 6 = .ok (.iload_n 2, 1) := by decide +kernel
theorem dX6_outside_7 : decode cX6_outside 7 = .ok (.if_icmp .le 7, 3) := by decide +kernel
theorem dX6_outside_10 : decode cX6_outside 10 = .ok (.iconst 1, 1) := by decide +kernel
theorem dX6_outside_11 : decode cX6_outside 11 = .ok (.goto 4, 3) := by decide +kernel
theorem dX6_outside_14 : decode cX6_outside 14 = .ok (.iconst 0, 1) := by decide +kernel
theorem dX6_outside_15 : decode cX6_outside 15 = .ok (.ireturn, 1) := by decide +kernel
theorem dX6_seasonOf_0 : decode cX6_seasonOf 0 = .ok (.iload_n 0, 1) := by decide +kernel
theorem dX6_seasonOf_1 : decode cX6_seasonOf 1 = .ok (.sipush 360, 3) := by decide +kernel
theorem dX6_seasonOf_4 : decode cX6_seasonOf 4 = .ok (.irem, 1) := by decide +kernel
theorem dX6_seasonOf_5 : decode cX6_seasonOf 5 = .ok (.bipush 90, 2) := by decide +kernel
theorem dX6_seasonOf_7 : decode cX6_seasonOf 7 = .ok (.idiv, 1) := by decide +kernel
theorem dX6_seasonOf_8 : decode cX6_seasonOf 8 = .ok (.ireturn, 1) := by decide +kernel
theorem dX6_factorOf_0 : decode cX6_factorOf 0 = .ok (.iload_n 0, 1) := by decide +kernel
theorem dX6_factorOf_1 : decode cX6_factorOf 1 = .ok (.tableswitch 37 0 2 #[27, 29, 33], 27) := by decide +kernel
theorem dX6_factorOf_28 : decode cX6_factorOf 28 = .ok (.fconst 1, 1) := by decide +kernel
theorem dX6_factorOf_29 : decode cX6_factorOf 29 = .ok (.freturn, 1) := by decide +kernel
theorem dX6_factorOf_30 : decode cX6_factorOf 30 = .ok (.ldc_w 271, 3) := by decide +kernel
theorem dX6_factorOf_33 : decode cX6_factorOf 33 = .ok (.freturn, 1) := by decide +kernel
theorem dX6_factorOf_34 : decode cX6_factorOf 34 = .ok (.ldc_w 272, 3) := by decide +kernel
theorem dX6_factorOf_37 : decode cX6_factorOf 37 = .ok (.freturn, 1) := by decide +kernel
theorem dX6_factorOf_38 : decode cX6_factorOf 38 = .ok (.ldc_w 273, 3) := by decide +kernel
theorem dX6_factorOf_41 : decode cX6_factorOf 41 = .ok (.freturn, 1) := by decide +kernel
theorem dX6_useOf_0 : decode cX6_useOf 0 = .ok (.iload_n 0, 1) := by decide +kernel
theorem dX6_useOf_1 : decode cX6_useOf 1 = .ok (.lookupswitch 35 #[(0, 27), (1, 31)], 27) := by decide +kernel
theorem dX6_useOf_28 : decode cX6_useOf 28 = .ok (.ldc_w 274, 3) := by decide +kernel
theorem dX6_useOf_31 : decode cX6_useOf 31 = .ok (.freturn, 1) := by decide +kernel
theorem dX6_useOf_32 : decode cX6_useOf 32 = .ok (.ldc_w 275, 3) := by decide +kernel
theorem dX6_useOf_35 : decode cX6_useOf 35 = .ok (.freturn, 1) := by decide +kernel
theorem dX6_useOf_36 : decode cX6_useOf 36 = .ok (.ldc_w 276, 3) := by decide +kernel
theorem dX6_useOf_39 : decode cX6_useOf 39 = .ok (.freturn, 1) := by decide +kernel
theorem dX6_bitsOf_0 : decode cX6_bitsOf 0 = .ok (.fload_n 0, 1) := by decide +kernel
theorem dX6_bitsOf_1 : decode cX6_bitsOf 1 = .ok (.fconst 0, 1) := by decide +kernel
theorem dX6_bitsOf_2 : decode cX6_bitsOf 2 = .ok (.fcmp .g, 1) := by decide +kernel
theorem dX6_bitsOf_3 : decode cX6_bitsOf 3 = .ok (.ifCond .gt 5, 3) := by decide +kernel
theorem dX6_bitsOf_6 : decode cX6_bitsOf 6 = .ok (.iconst 0, 1) := by decide +kernel
theorem dX6_bitsOf_7 : decode cX6_bitsOf 7 = .ok (.ireturn, 1) := by decide +kernel
theorem dX6_bitsOf_8 : decode cX6_bitsOf 8 = .ok (.bipush 127, 2) := by decide +kernel
theorem dX6_bitsOf_10 : decode cX6_bitsOf 10 = .ok (.istore_n 1, 1) := by decide +kernel
theorem dX6_bitsOf_11 : decode cX6_bitsOf 11 = .ok (.fload_n 0, 1) := by decide +kernel
theorem dX6_bitsOf_12 : decode cX6_bitsOf 12 = .ok (.fstore_n 2, 1) := by decide +kernel
theorem dX6_bitsOf_13 : decode cX6_bitsOf 13 = .ok (.iconst 0, 1) := by decide +kernel
theorem dX6_bitsOf_14 : decode cX6_bitsOf 14 = .ok (.istore_n 3, 1) := by decide +kernel
theorem dX6_bitsOf_15 : decode cX6_bitsOf 15 = .ok (.iload_n 3, 1) := by decide +kernel
theorem dX6_bitsOf_16 : decode cX6_bitsOf 16 = .ok (.bipush 126, 2) := by decide +kernel
theorem dX6_bitsOf_18 : decode cX6_bitsOf 18 = .ok (.if_icmp .ge 24, 3) := by decide +kernel
theorem dX6_bitsOf_21 : decode cX6_bitsOf 21 = .ok (.fload_n 2, 1) := by decide +kernel
theorem dX6_bitsOf_22 : decode cX6_bitsOf 22 = .ok (.fconst 2, 1) := by decide +kernel
theorem dX6_bitsOf_23 : decode cX6_bitsOf 23 = .ok (.fcmp .l, 1) := by decide +kernel
theorem dX6_bitsOf_24 : decode cX6_bitsOf 24 = .ok (.ifCond .lt 18, 3) := by decide +kernel
theorem dX6_bitsOf_27 : decode cX6_bitsOf 27 = .ok (.fload_n 2, 1) := by decide +kernel
theorem dX6_bitsOf_28 : decode cX6_bitsOf 28 = .ok (.ldc_w 273, 3) := by decide +kernel
theorem dX6_bitsOf_31 : decode cX6_bitsOf 31 = .ok (.fmul, 1) := by decide +kernel
theorem dX6_bitsOf_32 : decode cX6_bitsOf 32 = .ok (.fstore_n 2, 1) := by decide +kernel
theorem dX6_bitsOf_33 : decode cX6_bitsOf 33 = .ok (.iinc 1 1, 3) := by decide +kernel
theorem dX6_bitsOf_36 : decode cX6_bitsOf 36 = .ok (.iinc 3 1, 3) := by decide +kernel
theorem dX6_bitsOf_39 : decode cX6_bitsOf 39 = .ok (.goto (-24), 3) := by decide +kernel
theorem dX6_bitsOf_42 : decode cX6_bitsOf 42 = .ok (.iconst 0, 1) := by decide +kernel
theorem dX6_bitsOf_43 : decode cX6_bitsOf 43 = .ok (.istore_n 3, 1) := by decide +kernel
theorem dX6_bitsOf_44 : decode cX6_bitsOf 44 = .ok (.iload_n 3, 1) := by decide +kernel
theorem dX6_bitsOf_45 : decode cX6_bitsOf 45 = .ok (.bipush 126, 2) := by decide +kernel
theorem dX6_bitsOf_47 : decode cX6_bitsOf 47 = .ok (.if_icmp .ge 22, 3) := by decide +kernel
theorem dX6_bitsOf_50 : decode cX6_bitsOf 50 = .ok (.fload_n 2, 1) := by decide +kernel
theorem dX6_bitsOf_51 : decode cX6_bitsOf 51 = .ok (.fconst 1, 1) := by decide +kernel
theorem dX6_bitsOf_52 : decode cX6_bitsOf 52 = .ok (.fcmp .g, 1) := by decide +kernel
theorem dX6_bitsOf_53 : decode cX6_bitsOf 53 = .ok (.ifCond .ge 16, 3) := by decide +kernel
theorem dX6_bitsOf_56 : decode cX6_bitsOf 56 = .ok (.fload_n 2, 1) := by decide +kernel
theorem dX6_bitsOf_57 : decode cX6_bitsOf 57 = .ok (.fconst 2, 1) := by decide +kernel
theorem dX6_bitsOf_58 : decode cX6_bitsOf 58 = .ok (.fmul, 1) := by decide +kernel
theorem dX6_bitsOf_59 : decode cX6_bitsOf 59 = .ok (.fstore_n 2, 1) := by decide +kernel
theorem dX6_bitsOf_60 : decode cX6_bitsOf 60 = .ok (.iinc 1 (-1), 3) := by decide +kernel
theorem dX6_bitsOf_63 : decode cX6_bitsOf 63 = .ok (.iinc 3 1, 3) := by decide +kernel
theorem dX6_bitsOf_66 : decode cX6_bitsOf 66 = .ok (.goto (-22), 3) := by decide +kernel
theorem dX6_bitsOf_69 : decode cX6_bitsOf 69 = .ok (.iload_n 1, 1) := by decide +kernel
theorem dX6_bitsOf_70 : decode cX6_bitsOf 70 = .ok (.bipush 23, 2) := by decide +kernel
theorem dX6_bitsOf_72 : decode cX6_bitsOf 72 = .ok (.ishl, 1) := by decide +kernel
theorem dX6_bitsOf_73 : decode cX6_bitsOf 73 = .ok (.fload_n 2, 1) := by decide +kernel
theorem dX6_bitsOf_74 : decode cX6_bitsOf 74 = .ok (.fconst 1, 1) := by decide +kernel
theorem dX6_bitsOf_75 : decode cX6_bitsOf 75 = .ok (.fsub, 1) := by decide +kernel
theorem dX6_bitsOf_76 : decode cX6_bitsOf 76 = .ok (.ldc_w 277, 3) := by decide +kernel
theorem dX6_bitsOf_79 : decode cX6_bitsOf 79 = .ok (.fmul, 1) := by decide +kernel
theorem dX6_bitsOf_80 : decode cX6_bitsOf 80 = .ok (.f2i, 1) := by decide +kernel
theorem dX6_bitsOf_81 : decode cX6_bitsOf 81 = .ok (.ior, 1) := by decide +kernel
theorem dX6_bitsOf_82 : decode cX6_bitsOf 82 = .ok (.ireturn, 1) := by decide +kernel
theorem dX7_init_0 : decode cX7_init 0 = .ok (.aload_n 0, 1) := by decide +kernel
theorem dX7_init_1 : decode cX7_init 1 = .ok (.invokespecial 1, 3) := by decide +kernel
theorem dX7_init_4 : decode cX7_init 4 = .ok (.aload_n 0, 1) := by decide +kernel
theorem dX7_init_5 : decode cX7_init 5 = .ok (.sipush 313, 3) := by decide +kernel
theorem dX7_init_8 : decode cX7_init 8 = .ok (.newarray .int, 2) := by decide +kernel
theorem dX7_init_10 : decode cX7_init 10 = .ok (.putfield 7, 3) := by decide +kernel
theorem dX7_init_13 : decode cX7_init 13 = .ok (.aload_n 0, 1) := by decide +kernel
theorem dX7_init_14 : decode cX7_init 14 = .ok (.sipush 313, 3) := by decide +kernel
theorem dX7_init_17 : decode cX7_init 17 = .ok (.newarray .int, 2) := by decide +kernel
theorem dX7_init_19 : decode cX7_init 19 = .ok (.putfield 13, 3) := by decide +kernel
theorem dX7_init_22 : decode cX7_init 22 = .ok (.aload_n 0, 1) := by decide +kernel
theorem dX7_init_23 : decode cX7_init 23 = .ok (.sipush 1252, 3) := by decide +kernel
theorem dX7_init_26 : decode cX7_init 26 = .ok (.newarray .int, 2) := by decide +kernel
theorem dX7_init_28 : decode cX7_init 28 = .ok (.putfield 16, 3) := by decide +kernel
theorem dX7_init_31 : decode cX7_init 31 = .ok (.aload_n 0, 1) := by decide +kernel
theorem dX7_init_32 : decode cX7_init 32 = .ok (.sipush 313, 3) := by decide +kernel
theorem dX7_init_35 : decode cX7_init 35 = .ok (.newarray .int, 2) := by decide +kernel
theorem dX7_init_37 : decode cX7_init 37 = .ok (.putfield 19, 3) := by decide +kernel
theorem dX7_init_40 : decode cX7_init 40 = .ok (.aload_n 0, 1) := by decide +kernel
theorem dX7_init_41 : decode cX7_init 41 = .ok (.bipush 60, 2) := by decide +kernel
theorem dX7_init_43 : decode cX7_init 43 = .ok (.newarray .int, 2) := by decide +kernel
theorem dX7_init_45 : decode cX7_init 45 = .ok (.putfield 22, 3) := by decide +kernel
theorem dX7_init_48 : decode cX7_init 48 = .ok (.aload_n 0, 1) := by decide +kernel
theorem dX7_init_49 : decode cX7_init 49 = .ok (.bipush 60, 2) := by decide +kernel
theorem dX7_init_51 : decode cX7_init 51 = .ok (.newarray .int, 2) := by decide +kernel
theorem dX7_init_53 : decode cX7_init 53 = .ok (.putfield 25, 3) := by decide +kernel
theorem dX7_init_56 : decode cX7_init 56 = .ok (.aload_n 0, 1) := by decide +kernel
theorem dX7_init_57 : decode cX7_init 57 = .ok (.iconst 0, 1) := by decide +kernel
theorem dX7_init_58 : decode cX7_init 58 = .ok (.putfield 28, 3) := by decide +kernel
theorem dX7_init_61 : decode cX7_init 61 = .ok (.aload_n 0, 1) := by decide +kernel
theorem dX7_init_62 : decode cX7_init 62 = .ok (.getfield 7, 3) := by decide +kernel
theorem dX7_init_65 : decode cX7_init 65 = .ok (.iconst 0, 1) := by decide +kernel
theorem dX7_init_66 : decode cX7_init 66 = .ok (.bipush 40, 2) := by decide +kernel
theorem dX7_init_68 : decode cX7_init 68 = .ok (.iastore, 1) := by decide +kernel
theorem dX7_init_69 : decode cX7_init 69 = .ok (.aload_n 0, 1) := by decide +kernel
theorem dX7_init_70 : decode cX7_init 70 = .ok (.getfield 7, 3) := by decide +kernel
theorem dX7_init_73 : decode cX7_init 73 = .ok (.iconst 1, 1) := by decide +kernel
theorem dX7_init_74 : decode cX7_init 74 = .ok (.sipush 300, 3) := by decide +kernel
theorem dX7_init_77 : decode cX7_init 77 = .ok (.iastore, 1) := by decide +kernel
theorem dX7_init_78 : decode cX7_init 78 = .ok (.iconst 0, 1) := by decide +kernel
theorem dX7_init_79 : decode cX7_init 79 = .ok (.istore_n 1, 1) := by decide +kernel
theorem dX7_init_80 : decode cX7_init 80 = .ok (.iload_n 1, 1) := by decide +kernel
theorem dX7_init_81 : decode cX7_init 81 = .ok (.bipush 6, 2) := by decide +kernel
theorem dX7_init_83 : decode cX7_init 83 = .ok (.if_icmp .ge 24, 3) := by decide +kernel
theorem dX7_init_86 : decode cX7_init 86 = .ok (.aload_n 0, 1) := by decide +kernel
theorem dX7_init_87 : decode cX7_init 87 = .ok (.getfield 7, 3) := by decide +kernel
theorem dX7_init_90 : decode cX7_init 90 = .ok (.bipush 13, 2) := by decide +kernel
theorem dX7_init_92 : decode cX7_init 92 = .ok (.bipush 6, 2) := by decide +kernel
theorem dX7_init_94 : decode cX7_init 94 = .ok (.iload_n 1, 1) := by decide +kernel
theorem dX7_init_95 : decode cX7_init 95 = .ok (.imul, 1) := by decide +kernel
theorem dX7_init_96 : decode cX7_init 96 = .ok (.iadd, 1) := by decide +kernel
theorem dX7_init_97 : decode cX7_init 97 = .ok (.iconst 1, 1) := by decide +kernel
theorem dX7_init_98 : decode cX7_init 98 = .ok (.iadd, 1) := by decide +kernel
theorem dX7_init_99 : decode cX7_init 99 = .ok (.iconst 1, 1) := by decide +kernel
theorem dX7_init_100 : decode cX7_init 100 = .ok (.iastore, 1) := by decide +kernel
theorem dX7_init_101 : decode cX7_init 101 = .ok (.iinc 1 1, 3) := by decide +kernel
theorem dX7_init_104 : decode cX7_init 104 = .ok (.goto (-24), 3) := by decide +kernel
theorem dX7_init_107 : decode cX7_init 107 = .ok (.return_, 1) := by decide +kernel
theorem dX7_in_0 : decode cX7_in 0 = .ok (.iload_n 0, 1) := by decide +kernel
theorem dX7_in_1 : decode cX7_in 1 = .ok (.iload_n 1, 1) := by decide +kernel
theorem dX7_in_2 : decode cX7_in 2 = .ok (.if_icmp .lt 12, 3) := by decide +kernel
theorem dX7_in_5 : decode cX7_in 5 = .ok (.iload_n 0, 1) := by decide +kernel
theorem dX7_in_6 : decode cX7_in 6 = .ok (.iload_n 2, 1) := by decide +kernel
theorem dX7_in_7 : decode cX7_in 7 = .ok (.if_icmp .gt 7, 3) := by decide +kernel
theorem dX7_in_10 : decode cX7_in 10 = .ok (.iconst 1, 1) := by decide +kernel
theorem dX7_in_11 : decode cX7_in 11 = .ok (.goto 4, 3) := by decide +kernel
theorem dX7_in_14 : decode cX7_in 14 = .ok (.iconst 0, 1) := by decide +kernel
theorem dX7_in_15 : decode cX7_in 15 = .ok (.ireturn, 1) := by decide +kernel
theorem dX7_ofFarmer_0 : decode cX7_ofFarmer 0 = .ok (.aload_n 0, 1) := by decide +kernel
theorem dX7_ofFarmer_1 : decode cX7_ofFarmer 1 = .ok (.getfield 7, 3) := by decide +kernel
theorem dX7_ofFarmer_4 : decode cX7_ofFarmer 4 = .ok (.bipush 13, 2) := by decide +kernel
theorem dX7_ofFarmer_6 : decode cX7_ofFarmer 6 = .ok (.bipush 6, 2) := by decide +kernel
theorem dX7_ofFarmer_8 : decode cX7_ofFarmer 8 = .ok (.iload_n 1, 1) := by decide +kernel
theorem dX7_ofFarmer_9 : decode cX7_ofFarmer 9 = .ok (.imul, 1) := by decide +kernel
theorem dX7_ofFarmer_10 : decode cX7_ofFarmer 10 = .ok (.iadd, 1) := by decide +kernel
theorem dX7_ofFarmer_11 : decode cX7_ofFarmer 11 = .ok (.iload_n 2, 1) := by decide +kernel
theorem dX7_ofFarmer_12 : decode cX7_ofFarmer 12 = .ok (.iadd, 1) := by decide +kernel
theorem dX7_ofFarmer_13 : decode cX7_ofFarmer 13 = .ok (.iaload, 1) := by decide +kernel
theorem dX7_ofFarmer_14 : decode cX7_ofFarmer 14 = .ok (.ireturn, 1) := by decide +kernel
theorem dX7_addFarmer_0 : decode cX7_addFarmer 0 = .ok (.aload_n 0, 1) := by decide +kernel
theorem dX7_addFarmer_1 : decode cX7_addFarmer 1 = .ok (.getfield 7, 3) := by decide +kernel
theorem dX7_addFarmer_4 : decode cX7_addFarmer 4 = .ok (.bipush 13, 2) := by decide +kernel
theorem dX7_addFarmer_6 : decode cX7_addFarmer 6 = .ok (.bipush 6, 2) := by decide +kernel
theorem dX7_addFarmer_8 : decode cX7_addFarmer 8 = .ok (.iload_n 1, 1) := by decide +kernel
theorem dX7_addFarmer_9 : decode cX7_addFarmer 9 = .ok (.imul, 1) := by decide +kernel
theorem dX7_addFarmer_10 : decode cX7_addFarmer 10 = .ok (.iadd, 1) := by decide +kernel
theorem dX7_addFarmer_11 : decode cX7_addFarmer 11 = .ok (.iload_n 2, 1) := by decide +kernel
theorem dX7_addFarmer_12 : decode cX7_addFarmer 12 = .ok (.iadd, 1) := by decide +kernel
theorem dX7_addFarmer_13 : decode cX7_addFarmer 13 = .ok (.dup2, 1) := by decide +kernel
theorem dX7_addFarmer_14 : decode cX7_addFarmer 14 = .ok (.iaload, 1) := by decide +kernel
theorem dX7_addFarmer_15 : decode cX7_addFarmer 15 = .ok (.iload_n 3, 1) := by decide +kernel
theorem dX7_addFarmer_16 : decode cX7_addFarmer 16 = .ok (.iadd, 1) := by decide +kernel
theorem dX7_addFarmer_17 : decode cX7_addFarmer 17 = .ok (.iastore, 1) := by decide +kernel
theorem dX7_addFarmer_18 : decode cX7_addFarmer 18 = .ok (.return_, 1) := by decide +kernel
theorem dX7_ofMachine_0 : decode cX7_ofMachine 0 = .ok (.aload_n 0, 1) := by decide +kernel
theorem dX7_ofMachine_1 : decode cX7_ofMachine 1 = .ok (.getfield 7, 3) := by decide +kernel
theorem dX7_ofMachine_4 : decode cX7_ofMachine 4 = .ok (.bipush 49, 2) := by decide +kernel
theorem dX7_ofMachine_6 : decode cX7_ofMachine 6 = .ok (.bipush 14, 2) := by decide +kernel
theorem dX7_ofMachine_8 : decode cX7_ofMachine 8 = .ok (.iload_n 1, 1) := by decide +kernel
theorem dX7_ofMachine_9 : decode cX7_ofMachine 9 = .ok (.imul, 1) := by decide +kernel
theorem dX7_ofMachine_10 : decode cX7_ofMachine 10 = .ok (.iadd, 1) := by decide +kernel
theorem dX7_ofMachine_11 : decode cX7_ofMachine 11 = .ok (.iload_n 2, 1) := by decide +kernel
theorem dX7_ofMachine_12 : decode cX7_ofMachine 12 = .ok (.iadd, 1) := by decide +kernel
theorem dX7_ofMachine_13 : decode cX7_ofMachine 13 = .ok (.iaload, 1) := by decide +kernel
theorem dX7_ofMachine_14 : decode cX7_ofMachine 14 = .ok (.ireturn, 1) := by decide +kernel
theorem dX7_layMachine_0 : decode cX7_layMachine 0 = .ok (.aload_n 0, 1) := by decide +kernel
theorem dX7_layMachine_1 : decode cX7_layMachine 1 = .ok (.getfield 7, 3) := by decide +kernel
theorem dX7_layMachine_4 : decode cX7_layMachine 4 = .ok (.bipush 49, 2) := by decide +kernel
theorem dX7_layMachine_6 : decode cX7_layMachine 6 = .ok (.bipush 14, 2) := by decide +kernel
theorem dX7_layMachine_8 : decode cX7_layMachine 8 = .ok (.iload_n 1, 1) := by decide +kernel
theorem dX7_layMachine_9 : decode cX7_layMachine 9 = .ok (.imul, 1) := by decide +kernel
theorem dX7_layMachine_10 : decode cX7_layMachine 10 = .ok (.iadd, 1) := by decide +kernel
theorem dX7_layMachine_11 : decode cX7_layMachine 11 = .ok (.iload_n 2, 1) := by decide +kernel
theorem dX7_layMachine_12 : decode cX7_layMachine 12 = .ok (.iadd, 1) := by decide +kernel
theorem dX7_layMachine_13 : decode cX7_layMachine 13 = .ok (.iload_n 3, 1) := by decide +kernel
theorem dX7_layMachine_14 : decode cX7_layMachine 14 = .ok (.iastore, 1) := by decide +kernel
theorem dX7_layMachine_15 : decode cX7_layMachine 15 = .ok (.return_, 1) := by decide +kernel
theorem dX7_ofBooking_0 : decode cX7_ofBooking 0 = .ok (.aload_n 0, 1) := by decide +kernel
theorem dX7_ofBooking_1 : decode cX7_ofBooking 1 = .ok (.getfield 7, 3) := by decide +kernel
theorem dX7_ofBooking_4 : decode cX7_ofBooking 4 = .ok (.sipush 133, 3) := by decide +kernel
theorem dX7_ofBooking_7 : decode cX7_ofBooking 7 = .ok (.bipush 6, 2) := by decide +kernel
theorem dX7_ofBooking_9 : decode cX7_ofBooking 9 = .ok (.iload_n 1, 1) := by decide +kernel
theorem dX7_ofBooking_10 : decode cX7_ofBooking 10 = .ok (.imul, 1) := by decide +kernel
theorem dX7_ofBooking_11 : decode cX7_ofBooking 11 = .ok (.iadd, 1) := by decide +kernel
theorem dX7_ofBooking_12 : decode cX7_ofBooking 12 = .ok (.iload_n 2, 1) := by decide +kernel
theorem dX7_ofBooking_13 : decode cX7_ofBooking 13 = .ok (.iadd, 1) := by decide +kernel
theorem dX7_ofBooking_14 : decode cX7_ofBooking 14 = .ok (.iaload, 1) := by decide +kernel
theorem dX7_ofBooking_15 : decode cX7_ofBooking 15 = .ok (.ireturn, 1) := by decide +kernel
theorem dX7_layBooking_0 : decode cX7_layBooking 0 = .ok (.aload_n 0, 1) := by decide +kernel
theorem dX7_layBooking_1 : decode cX7_layBooking 1 = .ok (.getfield 7, 3) := by decide +kernel
theorem dX7_layBooking_4 : decode cX7_layBooking 4 = .ok (.sipush 133, 3) := by decide +kernel
theorem dX7_layBooking_7 : decode cX7_layBooking 7 = .ok (.bipush 6, 2) := by decide +kernel
theorem dX7_layBooking_9 : decode cX7_layBooking 9 = .ok (.iload_n 1, 1) := by decide +kernel
theorem dX7_layBooking_10 : decode cX7_layBooking 10 = .ok (.imul, 1) := by decide +kernel
theorem dX7_layBooking_11 : decode cX7_layBooking 11 = .ok (.iadd, 1) := by decide +kernel
theorem dX7_layBooking_12 : decode cX7_layBooking 12 = .ok (.iload_n 2, 1) := by decide +kernel
theorem dX7_layBooking_13 : decode cX7_layBooking 13 = .ok (.iadd, 1) := by decide +kernel
theorem dX7_layBooking_14 : decode cX7_layBooking 14 = .ok (.iload_n 3, 1) := by decide +kernel
theorem dX7_layBooking_15 : decode cX7_layBooking 15 = .ok (.iastore, 1) := by decide +kernel
theorem dX7_layBooking_16 : decode cX7_layBooking 16 = .ok (.return_, 1) := by decide +kernel
set_option maxRecDepth 20000 in
theorem ggX7_isFarmer_X7_in : GoodIn wsX7_isFarmer wsX7_in := goodIn_r _ [4] (by decide +kernel) (by decide +kernel)
set_option maxRecDepth 20000 in
theorem gX7_isFarmer_X7_in : GoodIn wsX7_isFarmer (va_wsS RX7 32 yX7_in wsX7_in) := goodIn_app (goodIn_of _ (by decide +kernel)) ggX7_isFarmer_X7_in
theorem dX7_isFarmer_0 : decode cX7_isFarmer 0 = .ok (.iload_n 0, 1) := by decide +kernel
theorem dX7_isFarmer_1 : decode cX7_isFarmer 1 = .ok (.iconst 0, 1) := by decide +kernel
theorem dX7_isFarmer_2 : decode cX7_isFarmer 2 = .ok (.iconst 5, 1) := by decide +kernel
theorem dX7_isFarmer_3 : decode cX7_isFarmer 3 = .ok (.invokestatic 32, 3) := by decide +kernel
theorem dX7_isFarmer_6 : decode cX7_isFarmer 6 = .ok (.ireturn, 1) := by decide +kernel
set_option maxRecDepth 20000 in
theorem ggX7_isMachine_X7_in : GoodIn wsX7_isMachine wsX7_in := goodIn_r _ [5] (by decide +kernel) (by decide +kernel)
set_option maxRecDepth 20000 in
theorem gX7_isMachine_X7_in : GoodIn wsX7_isMachine (va_wsS RX7 32 yX7_in wsX7_in) := goodIn_app (goodIn_of _ (by decide +kernel)) ggX7_isMachine_X7_in
theorem dX7_isMachine_0 : decode cX7_isMachine 0 = .ok (.iload_n 1, 1) := by decide +kernel
theorem dX7_isMachine_1 : decode cX7_isMachine 1 = .ok (.iconst 0, 1) := by decide +kernel
theorem dX7_isMachine_2 : decode cX7_isMachine 2 = .ok (.aload_n 0, 1) := by decide +kernel
theorem dX7_isMachine_3 : decode cX7_isMachine 3 = .ok (.getfield 7, 3) := by decide +kernel
theorem dX7_isMachine_6 : decode cX7_isMachine 6 = .ok (.bipush 12, 2) := by decide +kernel
theorem dX7_isMachine_8 : decode cX7_isMachine 8 = .ok (.iaload, 1) := by decide +kernel
theorem dX7_isMachine_9 : decode cX7_isMachine 9 = .ok (.iconst 1, 1) := by decide +kernel
theorem dX7_isMachine_10 : decode cX7_isMachine 10 = .ok (.isub, 1) := by decide +kernel
theorem dX7_isMachine_11 : decode cX7_isMachine 11 = .ok (.invokestatic 32, 3) := by decide +kernel
theorem dX7_isMachine_14 : decode cX7_isMachine 14 = .ok (.ireturn, 1) := by decide +kernel
set_option maxRecDepth 20000 in
theorem ggX7_placeOf_X7_ofBooking : GoodIn wsX7_placeOf wsX7_ofBooking := goodIn_r _ [7, 1, 8, 9, 10, 11, 12, 13, 14, 15, 16, 17, 18, 19, 20] (by decide +kernel) (by decide +kernel)
set_option maxRecDepth 20000 in
theorem gX7_placeOf_X7_ofBooking : GoodIn wsX7_placeOf (wsV RX7 36 RX7 yX7_ofBooking wsX7_ofBooking) := goodIn_app (goodIn_of _ (by decide +kernel)) ggX7_placeOf_X7_ofBooking
theorem dX7_placeOf_0 : decode cX7_placeOf 0 = .ok (.iconst 0, 1) := by decide +kernel
theorem dX7_placeOf_1 : decode cX7_placeOf 1 = .ok (.istore_n 2, 1) := by decide +kernel
theorem dX7_placeOf_2 : decode cX7_placeOf 2 = .ok (.iload_n 2, 1) := by decide +kernel
theorem dX7_placeOf_3 : decode cX7_placeOf 3 = .ok (.aload_n 0, 1) := by decide +kernel
theorem dX7_placeOf_4 : decode cX7_placeOf 4 = .ok (.getfield 7, 3) := by decide +kernel
theorem dX7_placeOf_7 : decode cX7_placeOf 7 = .ok (.bipush 6, 2) := by decide +kernel
theorem dX7_placeOf_9 : decode cX7_placeOf 9 = .ok (.iaload, 1) := by decide +kernel
theorem dX7_placeOf_10 : decode cX7_placeOf 10 = .ok (.if_icmp .ge 21, 3) := by decide +kernel
theorem dX7_placeOf_13 : decode cX7_placeOf 13 = .ok (.aload_n 0, 1) := by decide +kernel
theorem dX7_placeOf_14 : decode cX7_placeOf 14 = .ok (.iload_n 2, 1) := by decide +kernel
theorem dX7_placeOf_15 : decode cX7_placeOf 15 = .ok (.iconst 0, 1) := by decide +kernel
theorem dX7_placeOf_16 : decode cX7_placeOf 16 = .ok (.invokevirtual 36, 3) := by decide +kernel
theorem dX7_placeOf_19 : decode cX7_placeOf 19 = .ok (.iload_n 1, 1) := by decide +kernel
theorem dX7_placeOf_20 : decode cX7_placeOf 20 = .ok (.if_icmp .ne 5, 3) := by decide +kernel
theorem dX7_placeOf_23 : decode cX7_placeOf 23 = .ok (.iload_n 2, 1) := by decide +kernel
theorem dX7_placeOf_24 : decode cX7_placeOf 24 = .ok (.ireturn, 1) := by decide +kernel
theorem dX7_placeOf_25 : decode cX7_placeOf 25 = .ok (.iinc 2 1, 3) := by decide +kernel
theorem dX7_placeOf_28 : decode cX7_placeOf 28 = .ok (.goto (-26), 3) := by decide +kernel
theorem dX7_placeOf_31 : decode cX7_placeOf 31 = .ok (.ldc 40, 2) := by decide +kernel
theorem dX7_placeOf_33 : decode cX7_placeOf 33 = .ok (.ireturn, 1) := by decide +kernel
theorem dX7_records_0 : decode cX7_records 0 = .ok (.aload_n 0, 1) := by decide +kernel
theorem dX7_records_1 : decode cX7_records 1 = .ok (.getfield 41, 3) := by decide +kernel
theorem dX7_records_4 : decode cX7_records 4 = .ok (.iconst 4, 1) := by decide +kernel
theorem dX7_records_5 : decode cX7_records 5 = .ok (.if_icmp .ne 44, 3) := by decide +kernel
theorem dX7_records_8 : decode cX7_records 8 = .ok (.iconst 0, 1) := by decide +kernel
theorem dX7_records_9 : decode cX7_records 9 = .ok (.istore_n 1, 1) := by decide +kernel
theorem dX7_records_10 : decode cX7_records 10 = .ok (.iload_n 1, 1) := by decide +kernel
theorem dX7_records_11 : decode cX7_records 11 = .ok (.sipush 939, 3) := by decide +kernel
theorem dX7_records_14 : decode cX7_records 14 = .ok (.if_icmp .ge 25, 3) := by decide +kernel
theorem dX7_records_17 : decode cX7_records 17 = .ok (.aload_n 0, 1) := by decide +kernel
theorem dX7_records_18 : decode cX7_records 18 = .ok (.getfield 16, 3) := by decide +kernel
theorem dX7_records_21 : decode cX7_records 21 = .ok (.iload_n 1, 1) := by decide +kernel
theorem dX7_records_22 : decode cX7_records 22 = .ok (.aload_n 0, 1) := by decide +kernel
theorem dX7_records_23 : decode cX7_records 23 = .ok (.getfield 16, 3) := by decide +kernel
theorem dX7_records_26 : decode cX7_records 26 = .ok (.iload_n 1, 1) := by decide +kernel
theorem dX7_records_27 : decode cX7_records 27 = .ok (.sipush 313, 3) := by decide +kernel
theorem dX7_records_30 : decode cX7_records 30 = .ok (.iadd, 1) := by decide +kernel
theorem dX7_records_31 : decode cX7_records 31 = .ok (.iaload, 1) := by decide +kernel
theorem dX7_records_32 : decode cX7_records 32 = .ok (.iastore, 1) := by decide +kernel
theorem dX7_records_33 : decode cX7_records 33 = .ok (.iinc 1 1, 3) := by decide +kernel
theorem dX7_records_36 : decode cX7_records 36 = .ok (.goto (-26), 3) := by decide +kernel
theorem dX7_records_39 : decode cX7_records 39 = .ok (.aload_n 0, 1) := by decide +kernel
theorem dX7_records_40 : decode cX7_records 40 = .ok (.dup, 1) := by decide +kernel
theorem dX7_records_41 : decode cX7_records 41 = .ok (.getfield 41, 3) := by decide +kernel
theorem dX7_records_44 : decode cX7_records 44 = .ok (.iconst 1, 1) := by decide +kernel
theorem dX7_records_45 : decode cX7_records 45 = .ok (.isub, 1) := by decide +kernel
theorem dX7_records_46 : decode cX7_records 46 = .ok (.putfield 41, 3) := by decide +kernel
theorem dX7_records_49 : decode cX7_records 49 = .ok (.iconst 0, 1) := by decide +kernel
theorem dX7_records_50 : decode cX7_records 50 = .ok (.istore_n 1, 1) := by decide +kernel
theorem dX7_records_51 : decode cX7_records 51 = .ok (.iload_n 1, 1) := by decide +kernel
theorem dX7_records_52 : decode cX7_records 52 = .ok (.sipush 313, 3) := by decide +kernel
theorem dX7_records_55 : decode cX7_records 55 = .ok (.if_icmp .ge 30, 3) := by decide +kernel
theorem dX7_records_58 : decode cX7_records 58 = .ok (.aload_n 0, 1) := by decide +kernel
theorem dX7_records_59 : decode cX7_records 59 = .ok (.getfield 16, 3) := by decide +kernel
theorem dX7_records_62 : decode cX7_records 62 = .ok (.sipush 313, 3) := by decide +kernel
theorem dX7_records_65 : decode cX7_records 65 = .ok (.aload_n 0, 1) := by decide +kernel
theorem dX7_records_66 : decode cX7_records 66 = .ok (.getfield 41, 3) := by decide +kernel
theorem dX7_records_69 : decode cX7_records 69 = .ok (.imul, 1) := by decide +kernel
theorem dX7_records_70 : decode cX7_records 70 = .ok (.iload_n 1, 1) := by decide +kernel
theorem dX7_records_71 : decode cX7_records 71 = .ok (.iadd, 1) := by decide +kernel
theorem dX7_records_72 : decode cX7_records 72 = .ok (.aload_n 0, 1) := by decide +kernel
theorem dX7_records_73 : decode cX7_records 73 = .ok (.getfield 7, 3) := by decide +kernel
theorem dX7_records_76 : decode cX7_records 76 = .ok (.iload_n 1, 1) := by decide +kernel
theorem dX7_records_77 : decode cX7_records 77 = .ok (.iaload, 1) := by decide +kernel
theorem dX7_records_78 : decode cX7_records 78 = .ok (.iastore, 1) := by decide +kernel
theorem dX7_records_79 : decode cX7_records 79 = .ok (.iinc 1 1, 3) := by decide +kernel
theorem dX7_records_82 : decode cX7_records 82 = .ok (.goto (-31), 3) := by decide +kernel
theorem dX7_records_85 : decode cX7_records 85 = .ok (.aload_n 0, 1) := by decide +kernel
theorem dX7_records_86 : decode cX7_records 86 = .ok (.dup, 1) := by decide +kernel
theorem dX7_records_87 : decode cX7_records 87 = .ok (.getfield 41, 3) := by decide +kernel
theorem dX7_records_90 : decode cX7_records 90 = .ok (.iconst 1, 1) := by decide +kernel
theorem dX7_records_91 : decode cX7_records 91 = .ok (.iadd, 1) := by decide +kernel
theorem dX7_records_92 : decode cX7_records 92 = .ok (.putfield 41, 3) := by decide +kernel
theorem dX7_records_95 : decode cX7_records 95 = .ok (.return_, 1) := by decide +kernel
theorem dX7_season_0 : decode cX7_season 0 = .ok (.iload_n 0, 1) := by decide +kernel
theorem dX7_season_1 : decode cX7_season 1 = .ok (.sipush 360, 3) := by decide +kernel
theorem dX7_season_4 : decode cX7_season 4 = .ok (.irem, 1) := by decide +kernel
theorem dX7_season_5 : decode cX7_season 5 = .ok (.bipush 90, 2) := by decide +kernel
theorem dX7_season_7 : decode cX7_season 7 = .ok (.idiv, 1) := by decide +kernel
theorem dX7_season_8 : decode cX7_season 8 = .ok (.ireturn, 1) := by decide +kernel
set_option maxRecDepth 20000 in
theorem ggX7_factor_X7_season : GoodIn wsX7_factor wsX7_season := goodIn_r _ [7] (by decide +kernel) (by decide +kernel)
set_option maxRecDepth 20000 in
theorem gX7_factor_X7_season : GoodIn wsX7_factor (va_wsS RX7 44 yX7_season wsX7_season) := goodIn_app (goodIn_of _ (by decide +kernel)) ggX7_factor_X7_season
theorem dX7_factor_0 : decode cX7_factor 0 = .ok (.iload_n 0, 1) := by decide +kernel
theorem dX7_factor_1 : decode cX7_factor 1 = .ok (.invokestatic 44, 3) := by decide +kernel
theorem dX7_factor_4 : decode cX7_factor 4 = .ok (.tableswitch 36 0 2 #[28, 30, 33], 28) := by decide +kernel
theorem dX7_factor_32 : decode cX7_factor 32 = .ok (.fconst 1, 1) := by decide +kernel
theorem dX7_factor_33 : decode cX7_factor 33 = .ok (.freturn, 1) := by decide +kernel
theorem dX7_factor_34 : decode cX7_factor 34 = .ok (.ldc 48, 2) := by decide +kernel
theorem dX7_factor_36 : decode cX7_factor 36 = .ok (.freturn, 1) := by decide +kernel
theorem dX7_factor_37 : decode cX7_factor 37 = .ok (.ldc 49, 2) := by decide +kernel
theorem dX7_factor_39 : decode cX7_factor 39 = .ok (.freturn, 1) := by decide +kernel
theorem dX7_factor_40 : decode cX7_factor 40 = .ok (.ldc 50, 2) := by decide +kernel
theorem dX7_factor_42 : decode cX7_factor 42 = .ok (.freturn, 1) := by decide +kernel
theorem dX7_isWet_0 : decode cX7_isWet 0 = .ok (.sipush 421, 3) := by decide +kernel
theorem dX7_isWet_3 : decode cX7_isWet 3 = .ok (.iload_n 1, 1) := by decide +kernel
theorem dX7_isWet_4 : decode cX7_isWet 4 = .ok (.aload_n 0, 1) := by decide +kernel
theorem dX7_isWet_5 : decode cX7_isWet 5 = .ok (.getfield 7, 3) := by decide +kernel
theorem dX7_isWet_8 : decode cX7_isWet 8 = .ok (.iconst 2, 1) := by decide +kernel
theorem dX7_isWet_9 : decode cX7_isWet 9 = .ok (.iaload, 1) := by decide +kernel
theorem dX7_isWet_10 : decode cX7_isWet 10 = .ok (.iadd, 1) := by decide +kernel
theorem dX7_isWet_11 : decode cX7_isWet 11 = .ok (.imul, 1) := by decide +kernel
theorem dX7_isWet_12 : decode cX7_isWet 12 = .ok (.sipush 1663, 3) := by decide +kernel
theorem dX7_isWet_15 : decode cX7_isWet 15 = .ok (.iadd, 1) := by decide +kernel
theorem dX7_isWet_16 : decode cX7_isWet 16 = .ok (.sipush 10000, 3) := by decide +kernel
theorem dX7_isWet_19 : decode cX7_isWet 19 = .ok (.irem, 1) := by decide +kernel
theorem dX7_isWet_20 : decode cX7_isWet 20 = .ok (.bipush 16, 2) := by decide +kernel
theorem dX7_isWet_22 : decode cX7_isWet 22 = .ok (.idiv, 1) := by decide +kernel
theorem dX7_isWet_23 : decode cX7_isWet 23 = .ok (.iconst 4, 1) := by decide +kernel
theorem dX7_isWet_24 : decode cX7_isWet 24 = .ok (.irem, 1) := by decide +kernel
theorem dX7_isWet_25 : decode cX7_isWet 25 = .ok (.ifCond .ne 7, 3) := by decide +kernel
theorem dX7_isWet_28 : decode cX7_isWet 28 = .ok (.iconst 1, 1) := by decide +kernel
theorem dX7_isWet_29 : decode cX7_isWet 29 = .ok (.goto 4, 3) := by decide +kernel
theorem dX7_isWet_32 : decode cX7_isWet 32 = .ok (.iconst 0, 1) := by decide +kernel
theorem dX7_isWet_33 : decode cX7_isWet 33 = .ok (.ireturn, 1) := by decide +kernel
set_option maxRecDepth 20000 in
theorem ggX7_fuelOf_X7_ofMachine : GoodIn wsX7_fuelOf wsX7_ofMachine := goodIn_r _ [9, 10, 11, 12, 13, 14, 15, 16, 17, 18, 19, 20, 21, 22, 23] (by decide +kernel) (by decide +kernel)
set_option maxRecDepth 20000 in
theorem gX7_fuelOf_X7_ofMachine : GoodIn wsX7_fuelOf (wsV RX7 51 RX7 yX7_ofMachine wsX7_ofMachine) := goodIn_app (goodIn_of _ (by decide +kernel)) ggX7_fuelOf_X7_ofMachine
theorem dX7_fuelOf_0 : decode cX7_fuelOf 0 = .ok (.aload_n 0, 1) := by decide +kernel
theorem dX7_fuelOf_1 : decode cX7_fuelOf 1 = .ok (.iload_n 1, 1) := by decide +kernel
theorem dX7_fuelOf_2 : decode cX7_fuelOf 2 = .ok (.bipush 6, 2) := by decide +kernel
theorem dX7_fuelOf_4 : decode cX7_fuelOf 4 = .ok (.invokevirtual 51, 3) := by decide +kernel
theorem dX7_fuelOf_7 : decode cX7_fuelOf 7 = .ok (.invokestatic 54, 3) := by decide +kernel
theorem dX7_fuelOf_10 : decode cX7_fuelOf 10 = .ok (.freturn, 1) := by decide +kernel
set_option maxRecDepth 20000 in
theorem ggX7_wants_X7_ofMachine : GoodIn wsX7_wants wsX7_ofMachine := goodIn_r _ [8, 9, 10, 11, 12, 13, 14, 15, 16, 17, 18, 19, 20, 21, 22] (by decide +kernel) (by decide +kernel)
set_option maxRecDepth 20000 in
theorem gX7_wants_X7_ofMachine : GoodIn wsX7_wants (wsV RX7 51 RX7 yX7_ofMachine wsX7_ofMachine) := goodIn_app (goodIn_of _ (by decide +kernel)) ggX7_wants_X7_ofMachine
theorem dX7_wants_0 : decode cX7_wants 0 = .ok (.aload_n 0, 1) := by decide +kernel
theorem dX7_wants_1 : decode cX7_wants 1 = .ok (.iload_n 1, 1) := by decide +kernel
theorem dX7_wants_2 : decode cX7_wants 2 = .ok (.iconst 0, 1) := by decide +kernel
theorem dX7_wants_3 : decode cX7_wants 3 = .ok (.invokevirtual 51, 3) := by decide +kernel
theorem dX7_wants_6 : decode cX7_wants 6 = .ok (.istore_n 3, 1) := by decide +kernel
theorem dX7_wants_7 : decode cX7_wants 7 = .ok (.iload_n 3, 1) := by decide +kernel
theorem dX7_wants_8 : decode cX7_wants 8 = .ok (.ifCond .ne 8, 3) := by decide +kernel
theorem dX7_wants_11 : decode cX7_wants 11 = .ok (.ldc 60, 2) := by decide +kernel
theorem dX7_wants_13 : decode cX7_wants 13 = .ok (.goto 15, 3) := by decide +kernel
theorem dX7_wants_16 : decode cX7_wants 16 = .ok (.iload_n 3, 1) := by decide +kernel
theorem dX7_wants_17 : decode cX7_wants 17 = .ok (.iconst 1, 1) := by decide +kernel
theorem dX7_wants_18 : decode cX7_wants 18 = .ok (.if_icmp .ne 8, 3) := by decide +kernel
theorem dX7_wants_21 : decode cX7_wants 21 = .ok (.ldc 61, 2) := by decide +kernel
theorem dX7_wants_23 : decode cX7_wants 23 = .ok (.goto 5, 3) := by decide +kernel
theorem dX7_wants_26 : decode cX7_wants 26 = .ok (.ldc 62, 2) := by decide +kernel
theorem dX7_wants_28 : decode cX7_wants 28 = .ok (.fstore 4, 2) := by decide +kernel
theorem dX7_wants_30 : decode cX7_wants 30 = .ok (.iload_n 2, 1) := by decide +kernel
theorem dX7_wants_31 : decode cX7_wants 31 = .ok (.i2f, 1) := by decide +kernel
theorem dX7_wants_32 : decode cX7_wants 32 = .ok (.fload 4, 2) := by decide +kernel
theorem dX7_wants_34 : decode cX7_wants 34 = .ok (.fmul, 1) := by decide +kernel
theorem dX7_wants_35 : decode cX7_wants 35 = .ok (.freturn, 1) := by decide +kernel
set_option maxRecDepth 20000 in
theorem ggX7_charge_X7_ofMachine : GoodIn wsX7_charge wsX7_ofMachine := goodIn_r _ [5, 6, 20, 21, 22, 23, 24, 25, 26, 27, 28, 29, 30, 31, 32] (by decide +kernel) (by decide +kernel)
set_option maxRecDepth 20000 in
theorem gX7_charge_X7_ofMachine : GoodIn wsX7_charge (wsV RX7 51 RX7 yX7_ofMachine wsX7_ofMachine) := goodIn_app (goodIn_of _ (by decide +kernel)) ggX7_charge_X7_ofMachine
set_option maxRecDepth 20000 in
theorem ggX7_charge_X7_factor : GoodIn wsX7_charge wsX7_factor := goodIn_r _ [9, 10, 11, 12, 13, 14, 4, 15] (by decide +kernel) (by decide +kernel)
set_option maxRecDepth 20000 in
theorem gX7_charge_X7_factor : GoodIn wsX7_charge (va_wsS RX7 63 yX7_factor wsX7_factor) := goodIn_app (goodIn_of _ (by decide +kernel)) ggX7_charge_X7_factor
set_option maxRecDepth 20000 in
theorem ggX7_charge_X7_ofFarmer : GoodIn wsX7_charge wsX7_ofFarmer := goodIn_r _ [19, 6, 20, 21, 22, 23, 24, 25, 26, 27, 28, 29, 30, 31, 32] (by decide +kernel) (by decide +kernel)
set_option maxRecDepth 20000 in
theorem gX7_charge_X7_ofFarmer : GoodIn wsX7_charge (wsV RX7 66 RX7 yX7_ofFarmer wsX7_ofFarmer) := goodIn_app (goodIn_of _ (by decide +kernel)) ggX7_charge_X7_ofFarmer
theorem dX7_charge_0 : decode cX7_charge 0 = .ok (.iload 4, 2) := by decide +kernel
theorem dX7_charge_2 : decode cX7_charge 2 = .ok (.aload_n 0, 1) := by decide +kernel
theorem dX7_charge_3 : decode cX7_charge 3 = .ok (.iload_n 2, 1) := by decide +kernel
theorem dX7_charge_4 : decode cX7_charge 4 = .ok (.iconst 1, 1) := by decide +kernel
theorem dX7_charge_5 : decode cX7_charge 5 = .ok (.invokevirtual 51, 3) := by decide +kernel
theorem dX7_charge_8 : decode cX7_charge 8 = .ok (.imul, 1) := by decide +kernel
theorem dX7_charge_9 : decode cX7_charge 9 = .ok (.i2f, 1) := by decide +kernel
theorem dX7_charge_10 : decode cX7_charge 10 = .ok (.iload_n 3, 1) := by decide +kernel
theorem dX7_charge_11 : decode cX7_charge 11 = .ok (.invokestatic 63, 3) := by decide +kernel
theorem dX7_charge_14 : decode cX7_charge 14 = .ok (.fmul, 1) := by decide +kernel
theorem dX7_charge_15 : decode cX7_charge 15 = .ok (.f2i, 1) := by decide +kernel
theorem dX7_charge_16 : decode cX7_charge 16 = .ok (.istore 5, 2) := by decide +kernel
theorem dX7_charge_18 : decode cX7_charge 18 = .ok (.aload_n 0, 1) := by decide +kernel
theorem dX7_charge_19 : decode cX7_charge 19 = .ok (.iload_n 1, 1) := by decide +kernel
theorem dX7_charge_20 : decode cX7_charge 20 = .ok (.iconst 1, 1) := by decide +kernel
theorem dX7_charge_21 : decode cX7_charge 21 = .ok (.invokevirtual 66, 3) := by decide +kernel
theorem dX7_charge_24 : decode cX7_charge 24 = .ok (.aload_n 0, 1) := by decide +kernel
theorem dX7_charge_25 : decode cX7_charge 25 = .ok (.iload_n 2, 1) := by decide +kernel
theorem dX7_charge_26 : decode cX7_charge 26 = .ok (.iconst 0, 1) := by decide +kernel
theorem dX7_charge_27 : decode cX7_charge 27 = .ok (.invokevirtual 51, 3) := by decide +kernel
theorem dX7_charge_30 : decode cX7_charge 30 = .ok (.ishr, 1) := by decide +kernel
theorem dX7_charge_31 : decode cX7_charge 31 = .ok (.iconst 1, 1) := by decide +kernel
theorem dX7_charge_32 : decode cX7_charge 32 = .ok (.iand, 1) := by decide +kernel
theorem dX7_charge_33 : decode cX7_charge 33 = .ok (.iconst 1, 1) := by decide +kernel
theorem dX7_charge_34 : decode cX7_charge 34 = .ok (.if_icmp .ne 7, 3) := by decide +kernel
theorem dX7_charge_37 : decode cX7_charge 37 = .ok (.iconst 1, 1) := by decide +kernel
theorem dX7_charge_38 : decode cX7_charge 38 = .ok (.goto 4, 3) := by decide +kernel
theorem dX7_charge_41 : decode cX7_charge 41 = .ok (.iconst 0, 1) := by decide +kernel
theorem dX7_charge_42 : decode cX7_charge 42 = .ok (.istore 6, 2) := by decide +kernel
theorem dX7_charge_44 : decode cX7_charge 44 = .ok (.iload 6, 2) := by decide +kernel
theorem dX7_charge_46 : decode cX7_charge 46 = .ok (.ifCond .eq 8, 3) := by decide +kernel
theorem dX7_charge_49 : decode cX7_charge 49 = .ok (.iload 5, 2) := by decide +kernel
theorem dX7_charge_51 : decode cX7_charge 51 = .ok (.goto 11, 3) := by decide +kernel
theorem dX7_charge_54 : decode cX7_charge 54 = .ok (.iload 5, 2) := by decide +kernel
theorem dX7_charge_56 : decode cX7_charge 56 = .ok (.bipush 6, 2) := by decide +kernel
theorem dX7_charge_58 : decode cX7_charge 58 = .ok (.iload 4, 2) := by decide +kernel
theorem dX7_charge_60 : decode cX7_charge 60 = .ok (.imul, 1) := by decide +kernel
theorem dX7_charge_61 : decode cX7_charge 61 = .ok (.iadd, 1) := by decide +kernel
theorem dX7_charge_62 : decode cX7_charge 62 = .ok (.ireturn, 1) := by decide +kernel
set_option maxRecDepth 20000 in
theorem ggX7_bookedOn_X7_ofBooking : GoodIn wsX7_bookedOn wsX7_ofBooking := goodIn_r _ [6, 1, 7, 8, 9, 10, 11, 12, 13, 14, 15, 16, 17, 18, 19] (by decide +kernel) (by decide +kernel)
set_option maxRecDepth 20000 in
theorem gX7_bookedOn_X7_ofBooking : GoodIn wsX7_bookedOn (wsV RX7 36 RX7 yX7_ofBooking wsX7_ofBooking) := goodIn_app (goodIn_of _ (by decide +kernel)) ggX7_bookedOn_X7_ofBooking
theorem dX7_bookedOn_0 : decode cX7_bookedOn 0 = .ok (.iconst 0, 1) := by decide +kernel
theorem dX7_bookedOn_1 : decode cX7_bookedOn 1 = .ok (.istore_n 3, 1) := by decide +kernel
theorem dX7_bookedOn_2 : decode cX7_bookedOn 2 = .ok (.iconst 0, 1) := by decide +kernel
theorem dX7_bookedOn_3 : decode cX7_bookedOn 3 = .ok (.istore 4, 2) := by decide +kernel
theorem dX7_bookedOn_5 : decode cX7_bookedOn 5 = .ok (.iload 4, 2) := by decide +kernel
theorem dX7_bookedOn_7 : decode cX7_bookedOn 7 = .ok (.aload_n 0, 1) := by decide +kernel
theorem dX7_bookedOn_8 : decode cX7_bookedOn 8 = .ok (.getfield 7, 3) := by decide +kernel
theorem dX7_bookedOn_11 : decode cX7_bookedOn 11 = .ok (.bipush 6, 2) := by decide +kernel
theorem dX7_bookedOn_13 : decode cX7_bookedOn 13 = .ok (.iaload, 1) := by decide +kernel
theorem dX7_bookedOn_14 : decode cX7_bookedOn 14 = .ok (.if_icmp .ge 45, 3) := by decide +kernel
theorem dX7_bookedOn_17 : decode cX7_bookedOn 17 = .ok (.iload_n 3, 1) := by decide +kernel
theorem dX7_bookedOn_18 : decode cX7_bookedOn 18 = .ok (.aload_n 0, 1) := by decide +kernel
theorem dX7_bookedOn_19 : decode cX7_bookedOn 19 = .ok (.iload 4, 2) := by decide +kernel
theorem dX7_bookedOn_21 : decode cX7_bookedOn 21 = .ok (.iconst 2, 1) := by decide +kernel
theorem dX7_bookedOn_22 : decode cX7_bookedOn 22 = .ok (.invokevirtual 36, 3) := by decide +kernel
theorem dX7_bookedOn_25 : decode cX7_bookedOn 25 = .ok (.iload_n 1, 1) := by decide +kernel
theorem dX7_bookedOn_26 : decode cX7_bookedOn 26 = .ok (.if_icmp .ne 24, 3) := by decide +kernel
theorem dX7_bookedOn_29 : decode cX7_bookedOn 29 = .ok (.aload_n 0, 1) := by decide +kernel
theorem dX7_bookedOn_30 : decode cX7_bookedOn 30 = .ok (.iload 4, 2) := by decide +kernel
theorem dX7_bookedOn_32 : decode cX7_bookedOn 32 = .ok (.iconst 3, 1) := by decide +kernel
theorem dX7_bookedOn_33 : decode cX7_bookedOn 33 = .ok (.invokevirtual 36, 3) := by decide +kernel
theorem dX7_bookedOn_36 : decode cX7_bookedOn 36 = .ok (.iload_n 2, 1) := by decide +kernel
theorem dX7_bookedOn_37 : decode cX7_bookedOn 37 = .ok (.if_icmp .ne 13, 3) := by decide +kernel
theorem dX7_bookedOn_40 : decode cX7_bookedOn 40 = .ok (.aload_n 0, 1) := by decide +kernel
theorem dX7_bookedOn_41 : decode cX7_bookedOn 41 = .ok (.iload 4, 2) := by decide +kernel
theorem dX7_bookedOn_43 : decode cX7_bookedOn 43 = .ok (.iconst 4, 1) := by decide +kernel
theorem dX7_bookedOn_44 : decode cX7_bookedOn 44 = .ok (.invokevirtual 36, 3) := by decide +kernel
theorem dX7_bookedOn_47 : decode cX7_bookedOn 47 = .ok (.goto 4, 3) := by decide +kernel
theorem dX7_bookedOn_50 : decode cX7_bookedOn 50 = .ok (.iconst 0, 1) := by decide +kernel
theorem dX7_bookedOn_51 : decode cX7_bookedOn 51 = .ok (.iadd, 1) := by decide +kernel
theorem dX7_bookedOn_52 : decode cX7_bookedOn 52 = .ok (.istore_n 3, 1) := by decide +kernel
theorem dX7_bookedOn_53 : decode cX7_bookedOn 53 = .ok (.iinc 4 1, 3) := by decide +kernel
theorem dX7_bookedOn_56 : decode cX7_bookedOn 56 = .ok (.goto (-51), 3) := by decide +kernel
theorem dX7_bookedOn_59 : decode cX7_bookedOn 59 = .ok (.iload_n 3, 1) := by decide +kernel
theorem dX7_bookedOn_60 : decode cX7_bookedOn 60 = .ok (.ireturn, 1) := by decide +kernel
set_option maxRecDepth 20000 in
theorem ggX7_dropsBooking_X7_layBooking : GoodIn wsX7_dropsBooking wsX7_layBooking := goodIn_r _ [6, 1, 7, 8, 9, 10, 11, 12, 13, 14, 15, 16, 17, 18, 19] (by decide +kernel) (by decide +kernel)
set_option maxRecDepth 20000 in
theorem gX7_dropsBooking_X7_layBooking : GoodIn wsX7_dropsBooking (wsV RX7 69 RX7 yX7_layBooking wsX7_layBooking) := goodIn_app (goodIn_of _ (by decide +kernel)) ggX7_dropsBooking_X7_layBooking
theorem dX7_dropsBooking_0 : decode cX7_dropsBooking 0 = .ok (.aload_n 0, 1) := by decide +kernel
theorem dX7_dropsBooking_1 : decode cX7_dropsBooking 1 = .ok (.getfield 7, 3) := by decide +kernel
theorem dX7_dropsBooking_4 : decode cX7_dropsBooking 4 = .ok (.bipush 6, 2) := by decide +kernel
theorem dX7_dropsBooking_6 : decode cX7_dropsBooking 6 = .ok (.dup2, 1) := by decide +kernel
theorem dX7_dropsBooking_7 : decode cX7_dropsBooking 7 = .ok (.iaload, 1) := by decide +kernel
theorem dX7_dropsBooking_8 : decode cX7_dropsBooking 8 = .ok (.iconst 1, 1) := by decide +kernel
theorem dX7_dropsBooking_9 : decode cX7_dropsBooking 9 = .ok (.isub, 1) := by decide +kernel
theorem dX7_dropsBooking_10 : decode cX7_dropsBooking 10 = .ok (.iastore, 1) := by decide +kernel
theorem dX7_dropsBooking_11 : decode cX7_dropsBooking 11 = .ok (.bipush 6, 2) := by decide +kernel
theorem dX7_dropsBooking_13 : decode cX7_dropsBooking 13 = .ok (.iload_n 1, 1) := by decide +kernel
theorem dX7_dropsBooking_14 : decode cX7_dropsBooking 14 = .ok (.imul, 1) := by decide +kernel
theorem dX7_dropsBooking_15 : decode cX7_dropsBooking 15 = .ok (.istore_n 2, 1) := by decide +kernel
theorem dX7_dropsBooking_16 : decode cX7_dropsBooking 16 = .ok (.iload_n 2, 1) := by decide +kernel
theorem dX7_dropsBooking_17 : decode cX7_dropsBooking 17 = .ok (.bipush 6, 2) := by decide +kernel
theorem dX7_dropsBooking_19 : decode cX7_dropsBooking 19 = .ok (.aload_n 0, 1) := by decide +kernel
theorem dX7_dropsBooking_20 : decode cX7_dropsBooking 20 = .ok (.getfield 7, 3) := by decide +kernel
theorem dX7_dropsBooking_23 : decode cX7_dropsBooking 23 = .ok (.bipush 6, 2) := by decide +kernel
theorem dX7_dropsBooking_25 : decode cX7_dropsBooking 25 = .ok (.iaload, 1) := by decide +kernel
theorem dX7_dropsBooking_26 : decode cX7_dropsBooking 26 = .ok (.imul, 1) := by decide +kernel
theorem dX7_dropsBooking_27 : decode cX7_dropsBooking 27 = .ok (.if_icmp .ge 32, 3) := by decide +kernel
theorem dX7_dropsBooking_30 : decode cX7_dropsBooking 30 = .ok (.aload_n 0, 1) := by decide +kernel
theorem dX7_dropsBooking_31 : decode cX7_dropsBooking 31 = .ok (.getfield 7, 3) := by decide +kernel
theorem dX7_dropsBooking_34 : decode cX7_dropsBooking 34 = .ok (.sipush 133, 3) := by decide +kernel
theorem dX7_dropsBooking_37 : decode cX7_dropsBooking 37 = .ok (.iload_n 2, 1) := by decide +kernel
theorem dX7_dropsBooking_38 : decode cX7_dropsBooking 38 = .ok (.iadd, 1) := by decide +kernel
theorem dX7_dropsBooking_39 : decode cX7_dropsBooking 39 = .ok (.aload_n 0, 1) := by decide +kernel
theorem dX7_dropsBooking_40 : decode cX7_dropsBooking 40 = .ok (.getfield 7, 3) := by decide +kernel
theorem dX7_dropsBooking_43 : decode cX7_dropsBooking 43 = .ok (.sipush 133, 3) := by decide +kernel
theorem dX7_dropsBooking_46 : decode cX7_dropsBooking 46 = .ok (.iload_n 2, 1) := by decide +kernel
theorem dX7_dropsBooking_47 : decode cX7_dropsBooking 47 = .ok (.iadd, 1) := by decide +kernel
theorem dX7_dropsBooking_48 : decode cX7_dropsBooking 48 = .ok (.bipush 6, 2) := by decide +kernel
theorem dX7_dropsBooking_50 : decode cX7_dropsBooking 50 = .ok (.iadd, 1) := by decide +kernel
theorem dX7_dropsBooking_51 : decode cX7_dropsBooking 51 = .ok (.iaload, 1) := by decide +kernel
theorem dX7_dropsBooking_52 : decode cX7_dropsBooking 52 = .ok (.iastore, 1) := by decide +kernel
theorem dX7_dropsBooking_53 : decode cX7_dropsBooking 53 = .ok (.iinc 2 1, 3) := by decide +kernel
theorem dX7_dropsBooking_56 : decode cX7_dropsBooking 56 = .ok (.goto (-40), 3) := by decide +kernel
theorem dX7_dropsBooking_59 : decode cX7_dropsBooking 59 = .ok (.iconst 0, 1) := by decide +kernel
theorem dX7_dropsBooking_60 : decode cX7_dropsBooking 60 = .ok (.istore_n 2, 1) := by decide +kernel
theorem dX7_dropsBooking_61 : decode cX7_dropsBooking 61 = .ok (.iload_n 2, 1) := by decide +kernel
theorem dX7_dropsBooking_62 : decode cX7_dropsBooking 62 = .ok (.bipush 6, 2) := by decide +kernel
theorem dX7_dropsBooking_64 : decode cX7_dropsBooking 64 = .ok (.if_icmp .ge 22, 3) := by decide +kernel
theorem dX7_dropsBooking_67 : decode cX7_dropsBooking 67 = .ok (.aload_n 0, 1) := by decide +kernel
theorem dX7_dropsBooking_68 : decode cX7_dropsBooking 68 = .ok (.aload_n 0, 1) := by decide +kernel
theorem dX7_dropsBooking_69 : decode cX7_dropsBooking 69 = .ok (.getfield 7, 3) := by decide +kernel
theorem dX7_dropsBooking_72 : decode cX7_dropsBooking 72 = .ok (.bipush 6, 2) := by decide +kernel
theorem dX7_dropsBooking_74 : decode cX7_dropsBooking 74 = .ok (.iaload, 1) := by decide +kernel
theorem dX7_dropsBooking_75 : decode cX7_dropsBooking 75 = .ok (.iload_n 2, 1) := by decide +kernel
theorem dX7_dropsBooking_76 : decode cX7_dropsBooking 76 = .ok (.iconst 0, 1) := by decide +kernel
theorem dX7_dropsBooking_77 : decode cX7_dropsBooking 77 = .ok (.invokevirtual 69, 3) := by decide +kernel
theorem dX7_dropsBooking_80 : decode cX7_dropsBooking 80 = .ok (.iinc 2 1, 3) := by decide +kernel
theorem dX7_dropsBooking_83 : decode cX7_dropsBooking 83 = .ok (.goto (-22), 3) := by decide +kernel
theorem dX7_dropsBooking_86 : decode cX7_dropsBooking 86 = .ok (.return_, 1) := by decide +kernel
set_option maxRecDepth 20000 in
theorem ggX7_works_X7_ofMachine : GoodIn wsX7_works wsX7_ofMachine := goodIn_r _ [6, 1, 26, 27, 28, 29, 30, 31, 32, 33, 34, 35, 36, 37, 38] (by decide +kernel) (by decide +kernel)
set_option maxRecDepth 20000 in
theorem gX7_works_X7_ofMachine : GoodIn wsX7_works (wsV RX7 51 RX7 yX7_ofMachine wsX7_ofMachine) := goodIn_app (goodIn_of _ (by decide +kernel)) ggX7_works_X7_ofMachine
set_option maxRecDepth 20000 in
theorem ggX7_works_X7_isWet : GoodIn wsX7_works wsX7_isWet := goodIn_r _ [10, 1, 26, 27, 28, 29, 30, 31, 32, 33, 34, 35, 36, 37, 38] (by decide +kernel) (by decide +kernel)
set_option maxRecDepth 20000 in
theorem gX7_works_X7_isWet : GoodIn wsX7_works (wsV RX7 73 RX7 yX7_isWet wsX7_isWet) := goodIn_app (goodIn_of _ (by decide +kernel)) ggX7_works_X7_isWet
set_option maxRecDepth 20000 in
theorem ggX7_works_X7_fuelOf : GoodIn wsX7_works wsX7_fuelOf := goodIn_r _ [14, 15, 16, 17, 18, 2, 3, 4, 5, 6, 1, 26, 27, 28, 29, 30, 31, 32, 33, 34, 35, 36, 37, 38] (by decide +kernel) (by decide +kernel)
set_option maxRecDepth 20000 in
theorem gX7_works_X7_fuelOf : GoodIn wsX7_works (wsV RX7 77 RX7 yX7_fuelOf wsX7_fuelOf) := goodIn_app (goodIn_of _ (by decide +kernel)) ggX7_works_X7_fuelOf
set_option maxRecDepth 20000 in
theorem ggX7_works_X7_wants : GoodIn wsX7_works wsX7_wants := goodIn_r _ [22, 23, 24, 25, 2, 3, 4, 5, 6, 1, 26, 27, 28, 29, 30, 31, 32, 33, 34, 35, 36, 37, 38] (by decide +kernel) (by decide +kernel)
set_option maxRecDepth 20000 in
theorem gX7_works_X7_wants : GoodIn wsX7_works (wsV RX7 80 RX7 yX7_wants wsX7_wants) := goodIn_app (goodIn_of _ (by decide +kernel)) ggX7_works_X7_wants
theorem dX7_works_0 : decode cX7_works 0 = .ok (.aload_n 0, 1) := by decide +kernel
theorem dX7_works_1 : decode cX7_works 1 = .ok (.iload_n 1, 1) := by decide +kernel
theorem dX7_works_2 : decode cX7_works 2 = .ok (.iconst 0, 1) := by decide +kernel
theorem dX7_works_3 : decode cX7_works 3 = .ok (.invokevirtual 51, 3) := by decide +kernel
theorem dX7_works_6 : decode cX7_works 6 = .ok (.ifCond .eq 16, 3) := by decide +kernel
theorem dX7_works_9 : decode cX7_works 9 = .ok (.aload_n 0, 1) := by decide +kernel
theorem dX7_works_10 : decode cX7_works 10 = .ok (.aload_n 0, 1) := by decide +kernel
theorem dX7_works_11 : decode cX7_works 11 = .ok (.getfield 7, 3) := by decide +kernel
theorem dX7_works_14 : decode cX7_works 14 = .ok (.iconst 3, 1) := by decide +kernel
theorem dX7_works_15 : decode cX7_works 15 = .ok (.iaload, 1) := by decide +kernel
theorem dX7_works_16 : decode cX7_works 16 = .ok (.invokevirtual 73, 3) := by decide +kernel
theorem dX7_works_19 : decode cX7_works 19 = .ok (.ifCond .ne 7, 3) := by decide +kernel
theorem dX7_works_22 : decode cX7_works 22 = .ok (.iconst 1, 1) := by decide +kernel
theorem dX7_works_23 : decode cX7_works 23 = .ok (.goto 4, 3) := by decide +kernel
theorem dX7_works_26 : decode cX7_works 26 = .ok (.iconst 0, 1) := by decide +kernel
theorem dX7_works_27 : decode cX7_works 27 = .ok (.istore_n 3, 1) := by decide +kernel
theorem dX7_works_28 : decode cX7_works 28 = .ok (.iload_n 3, 1) := by decide +kernel
theorem dX7_works_29 : decode cX7_works 29 = .ok (.ifCond .eq 31, 3) := by decide +kernel
theorem dX7_works_32 : decode cX7_works 32 = .ok (.aload_n 0, 1) := by decide +kernel
theorem dX7_works_33 : decode cX7_works 33 = .ok (.iload_n 1, 1) := by decide +kernel
theorem dX7_works_34 : decode cX7_works 34 = .ok (.iconst 2, 1) := by decide +kernel
theorem dX7_works_35 : decode cX7_works 35 = .ok (.invokevirtual 51, 3) := by decide +kernel
theorem dX7_works_38 : decode cX7_works 38 = .ok (.ifCond .ne 22, 3) := by decide +kernel
theorem dX7_works_41 : decode cX7_works 41 = .ok (.aload_n 0, 1) := by decide +kernel
theorem dX7_works_42 : decode cX7_works 42 = .ok (.iload_n 1, 1) := by decide +kernel
theorem dX7_works_43 : decode cX7_works 43 = .ok (.invokevirtual 77, 3) := by decide +kernel
theorem dX7_works_46 : decode cX7_works 46 = .ok (.aload_n 0, 1) := by decide +kernel
theorem dX7_works_47 : decode cX7_works 47 = .ok (.iload_n 1, 1) := by decide +kernel
theorem dX7_works_48 : decode cX7_works 48 = .ok (.iload_n 2, 1) := by decide +kernel
theorem dX7_works_49 : decode cX7_works 49 = .ok (.invokevirtual 80, 3) := by decide +kernel
theorem dX7_works_52 : decode cX7_works 52 = .ok (.fcmp .l, 1) := by decide +kernel
theorem dX7_works_53 : decode cX7_works 53 = .ok (.ifCond .lt 7, 3) := by decide +kernel
theorem dX7_works_56 : decode cX7_works 56 = .ok (.iconst 1, 1) := by decide +kernel
theorem dX7_works_57 : decode cX7_works 57 = .ok (.goto 4, 3) := by decide +kernel
theorem dX7_works_60 : decode cX7_works 60 = .ok (.iconst 0, 1) := by decide +kernel
theorem dX7_works_61 : decode cX7_works 61 = .ok (.ireturn, 1) := by decide +kernel
set_option maxRecDepth 20000 in
theorem ggX7_putsOff_X7_ofBooking : GoodIn wsX7_putsOff wsX7_ofBooking := goodIn_r _ [6, 1, 15, 16, 17, 18, 19, 20, 21, 22, 23, 24, 25, 26, 27] (by decide +kernel) (by decide +kernel)
set_option maxRecDepth 20000 in
theorem gX7_putsOff_X7_ofBooking : GoodIn wsX7_putsOff (wsV RX7 36 RX7 yX7_ofBooking wsX7_ofBooking) := goodIn_app (goodIn_of _ (by decide +kernel)) ggX7_putsOff_X7_ofBooking
set_option maxRecDepth 20000 in
theorem ggX7_putsOff_X7_bookedOn : GoodIn wsX7_putsOff wsX7_bookedOn := goodIn_r _ [10, 1, 2, 3, 4, 5, 6, 15, 16, 17, 18, 19, 20, 21, 22, 23, 24, 25, 26, 27] (by decide +kernel) (by decide +kernel)
set_option maxRecDepth 20000 in
theorem gX7_putsOff_X7_bookedOn : GoodIn wsX7_putsOff (wsV RX7 84 RX7 yX7_bookedOn wsX7_bookedOn) := goodIn_app (goodIn_of _ (by decide +kernel)) ggX7_putsOff_X7_bookedOn
set_option maxRecDepth 20000 in
theorem ggX7_putsOff_X7_layBooking : GoodIn wsX7_putsOff wsX7_layBooking := goodIn_r _ [14, 1, 15, 16, 17, 18, 19, 20, 21, 22, 23, 24, 25, 26, 27] (by decide +kernel) (by decide +kernel)
set_option maxRecDepth 20000 in
theorem gX7_putsOff_X7_layBooking : GoodIn wsX7_putsOff (wsV RX7 69 RX7 yX7_layBooking wsX7_layBooking) := goodIn_app (goodIn_of _ (by decide +kernel)) ggX7_putsOff_X7_layBooking
theorem dX7_putsOff_0 : decode cX7_putsOff 0 = .ok (.aload_n 0, 1) := by decide +kernel
theorem dX7_putsOff_1 : decode cX7_putsOff 1 = .ok (.iload_n 1, 1) := by decide +kernel
theorem dX7_putsOff_2 : decode cX7_putsOff 2 = .ok (.iconst 2, 1) := by decide +kernel
theorem dX7_putsOff_3 : decode cX7_putsOff 3 = .ok (.invokevirtual 36, 3) := by decide +kernel
theorem dX7_putsOff_6 : decode cX7_putsOff 6 = .ok (.istore_n 2, 1) := by decide +kernel
theorem dX7_putsOff_7 : decode cX7_putsOff 7 = .ok (.aload_n 0, 1) := by decide +kernel
theorem dX7_putsOff_8 : decode cX7_putsOff 8 = .ok (.getfield 7, 3) := by decide +kernel
theorem dX7_putsOff_11 : decode cX7_putsOff 11 = .ok (.iconst 3, 1) := by decide +kernel
theorem dX7_putsOff_12 : decode cX7_putsOff 12 = .ok (.iaload, 1) := by decide +kernel
theorem dX7_putsOff_13 : decode cX7_putsOff 13 = .ok (.iconst 1, 1) := by decide +kernel
theorem dX7_putsOff_14 : decode cX7_putsOff 14 = .ok (.iadd, 1) := by decide +kernel
theorem dX7_putsOff_15 : decode cX7_putsOff 15 = .ok (.istore_n 3, 1) := by decide +kernel
theorem dX7_putsOff_16 : decode cX7_putsOff 16 = .ok (.aload_n 0, 1) := by decide +kernel
theorem dX7_putsOff_17 : decode cX7_putsOff 17 = .ok (.iload_n 2, 1) := by decide +kernel
theorem dX7_putsOff_18 : decode cX7_putsOff 18 = .ok (.iload_n 3, 1) := by decide +kernel
theorem dX7_putsOff_19 : decode cX7_putsOff 19 = .ok (.invokevirtual 84, 3) := by decide +kernel
theorem dX7_putsOff_22 : decode cX7_putsOff 22 = .ok (.aload_n 0, 1) := by decide +kernel
theorem dX7_putsOff_23 : decode cX7_putsOff 23 = .ok (.iload_n 1, 1) := by decide +kernel
theorem dX7_putsOff_24 : decode cX7_putsOff 24 = .ok (.iconst 4, 1) := by decide +kernel
theorem dX7_putsOff_25 : decode cX7_putsOff 25 = .ok (.invokevirtual 36, 3) := by decide +kernel
theorem dX7_putsOff_28 : decode cX7_putsOff 28 = .ok (.iadd, 1) := by decide +kernel
theorem dX7_putsOff_29 : decode cX7_putsOff 29 = .ok (.bipush 12, 2) := by decide +kernel
theorem dX7_putsOff_31 : decode cX7_putsOff 31 = .ok (.if_icmp .le 9, 3) := by decide +kernel
theorem dX7_putsOff_34 : decode cX7_putsOff 34 = .ok (.iinc 3 1, 3) := by decide +kernel
theorem dX7_putsOff_37 : decode cX7_putsOff 37 = .ok (.goto (-21), 3) := by decide +kernel
theorem dX7_putsOff_40 : decode cX7_putsOff 40 = .ok (.aload_n 0, 1) := by decide +kernel
theorem dX7_putsOff_41 : decode cX7_putsOff 41 = .ok (.iload_n 1, 1) := by decide +kernel
theorem dX7_putsOff_42 : decode cX7_putsOff 42 = .ok (.iconst 3, 1) := by decide +kernel
theorem dX7_putsOff_43 : decode cX7_putsOff 43 = .ok (.iload_n 3, 1) := by decide +kernel
theorem dX7_putsOff_44 : decode cX7_putsOff 44 = .ok (.invokevirtual 69, 3) := by decide +kernel
theorem dX7_putsOff_47 : decode cX7_putsOff 47 = .ok (.aload_n 0, 1) := by decide +kernel
theorem dX7_putsOff_48 : decode cX7_putsOff 48 = .ok (.iload_n 1, 1) := by decide +kernel
theorem dX7_putsOff_49 : decode cX7_putsOff 49 = .ok (.iconst 5, 1) := by decide +kernel
theorem dX7_putsOff_50 : decode cX7_putsOff 50 = .ok (.aload_n 0, 1) := by decide +kernel
theorem dX7_putsOff_51 : decode cX7_putsOff 51 = .ok (.iload_n 1, 1) := by decide +kernel
theorem dX7_putsOff_52 : decode cX7_putsOff 52 = .ok (.iconst 5, 1) := by decide +kernel
theorem dX7_putsOff_53 : decode cX7_putsOff 53 = .ok (.invokevirtual 36, 3) := by decide +kernel
theorem dX7_putsOff_56 : decode cX7_putsOff 56 = .ok (.iconst 1, 1) := by decide +kernel
theorem dX7_putsOff_57 : decode cX7_putsOff 57 = .ok (.iadd, 1) := by decide +kernel
theorem dX7_putsOff_58 : decode cX7_putsOff 58 = .ok (.invokevirtual 69, 3) := by decide +kernel
theorem dX7_putsOff_61 : decode cX7_putsOff 61 = .ok (.aload_n 0, 1) := by decide +kernel
theorem dX7_putsOff_62 : decode cX7_putsOff 62 = .ok (.getfield 7, 3) := by decide +kernel
theorem dX7_putsOff_65 : decode cX7_putsOff 65 = .ok (.bipush 8, 2) := by decide +kernel
theorem dX7_putsOff_67 : decode cX7_putsOff 67 = .ok (.dup2, 1) := by decide +kernel
theorem dX7_putsOff_68 : decode cX7_putsOff 68 = .ok (.iaload, 1) := by decide +kernel
theorem dX7_putsOff_69 : decode cX7_putsOff 69 = .ok (.iconst 1, 1) := by decide +kernel
theorem dX7_putsOff_70 : decode cX7_putsOff 70 = .ok (.iadd, 1) := by decide +kernel
theorem dX7_putsOff_71 : decode cX7_putsOff 71 = .ok (.iastore, 1) := by decide +kernel
theorem dX7_putsOff_72 : decode cX7_putsOff 72 = .ok (.return_, 1) := by decide +kernel
