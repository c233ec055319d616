set_option maxRecDepth 20000 in
theorem ggX4_whyNotBook_X4_farmerAt : GoodIn wsX4_whyNotBook wsX4_farmerAt := goodIn_r _ [11, 12, 39, 40, 41, 42, 43, 44, 45, 46, 47, 48, 49, 50, 51, 52, 53, 54] (by decide +kernel) (by decide +kernel)
set_option maxRecDepth 20000 in
theorem gX4_whyNotBook_X4_farmerAt : GoodIn wsX4_whyNotBook (wsV RX4 43 RX4 yX4_farmerAt wsX4_farmerAt) := goodIn_app (goodIn_of _ (by decide +kernel)) ggX4_whyNotBook_X4_farmerAt
set_option maxRecDepth 20000 in
theorem ggX4_whyNotBook_X4_machineAt : GoodIn wsX4_whyNotBook wsX4_machineAt := goodIn_r _ [16, 17, 18, 39, 40, 41, 42, 43, 44, 45, 46, 47, 48, 49, 50, 51, 52, 53, 54] (by decide +kernel) (by decide +kernel)
set_option maxRecDepth 20000 in
theorem gX4_whyNotBook_X4_machineAt : GoodIn wsX4_whyNotBook (wsV RX4 54 RX4 yX4_machineAt wsX4_machineAt) := goodIn_app (goodIn_of _ (by decide +kernel)) ggX4_whyNotBook_X4_machineAt
set_option maxRecDepth 20000 in
theorem ggX4_whyNotBook_X6_outside : GoodIn wsX4_whyNotBook wsX6_outside := goodIn_r _ [21] (by decide +kernel) (by decide +kernel)
set_option maxRecDepth 20000 in
theorem gX4_whyNotBook_X6_outside_n135 : GoodIn wsX4_whyNotBook (wsX6_outside) := ggX4_whyNotBook_X6_outside
set_option maxRecDepth 20000 in
theorem ggX4_whyNotBook_X4_hoursOn : GoodIn wsX4_whyNotBook wsX4_hoursOn := goodIn_r _ [25, 3, 26, 27, 28, 29, 10, 30, 31, 32, 33, 34, 35, 36, 37, 38, 39, 40, 41, 42, 43, 44, 45, 46, 47, 48, 49, 50, 51, 52, 53, 54, 55, 56, 57, 58, 59, 60] (by decide +kernel) (by decide +kernel)
set_option maxRecDepth 20000 in
theorem gX4_whyNotBook_X4_hoursOn : GoodIn wsX4_whyNotBook (wsV RX4 140 RX4 yX4_hoursOn wsX4_hoursOn) := goodIn_app (goodIn_of _ (by decide +kernel)) ggX4_whyNotBook_X4_hoursOn
theorem dX4_whyNotBook_0 : decode cX4_whyNotBook 0 = .ok (.aload_n 0, 1) := by decide +kernel
theorem dX4_whyNotBook_1 : decode cX4_whyNotBook 1 = .ok (.iload_n 1, 1) := by decide +kernel
theorem dX4_whyNotBook_2 : decode cX4_whyNotBook 2 = .ok (.invokevirtual 43, 3) := by decide +kernel
theorem dX4_whyNotBook_5 : decode cX4_whyNotBook 5 = .ok (.ifnull 11, 3) := by decide +kernel
theorem dX4_whyNotBook_8 : decode cX4_whyNotBook 8 = .ok (.aload_n 0, 1) := by decide +kernel
theorem dX4_whyNotBook_9 : decode cX4_whyNotBook 9 = .ok (.iload_n 2, 1) := by decide +kernel
theorem dX4_whyNotBook_10 : decode cX4_whyNotBook 10 = .ok (.invokevirtual 54, 3) := by decide +kernel
theorem dX4_whyNotBook_13 : decode cX4_whyNotBook 13 = .ok (.ifnonnull 6, 3) := by decide +kernel
theorem dX4_whyNotBook_16 : decode cX4_whyNotBook 16 = .ok (.ldc 134, 2) := by decide +kernel
theorem dX4_whyNotBook_18 : decode cX4_whyNotBook 18 = .ok (.ireturn, 1) := by decide +kernel
theorem dX4_whyNotBook_19 : decode cX4_whyNotBook 19 = .ok (.iload_n 3, 1) := by decide +kernel
theorem dX4_whyNotBook_20 : decode cX4_whyNotBook 20 = .ok (.iconst 1, 1) := by decide +kernel
theorem dX4_whyNotBook_21 : decode cX4_whyNotBook 21 = .ok (.bipush 99, 2) := by decide +kernel
theorem dX4_whyNotBook_23 : decode cX4_whyNotBook 23 = .ok (.invokestatic 135, 3) := by decide +kernel
theorem dX4_whyNotBook_26 : decode cX4_whyNotBook 26 = .ok (.ifCond .ne 14, 3) := by decide +kernel
theorem dX4_whyNotBook_29 : decode cX4_whyNotBook 29 = .ok (.iload 4, 2) := by decide +kernel
theorem dX4_whyNotBook_31 : decode cX4_whyNotBook 31 = .ok (.iconst 1, 1) := by decide +kernel
theorem dX4_whyNotBook_32 : decode cX4_whyNotBook 32 = .ok (.bipush 12, 2) := by decide +kernel
theorem dX4_whyNotBook_34 : decode cX4_whyNotBook 34 = .ok (.invokestatic 135, 3) := by decide +kernel
theorem dX4_whyNotBook_37 : decode cX4_whyNotBook 37 = .ok (.ifCond .eq 6, 3) := by decide +kernel
theorem dX4_whyNotBook_40 : decode cX4_whyNotBook 40 = .ok (.ldc 139, 2) := by decide +kernel
theorem dX4_whyNotBook_42 : decode cX4_whyNotBook 42 = .ok (.ireturn, 1) := by decide +kernel
theorem dX4_whyNotBook_43 : decode cX4_whyNotBook 43 = .ok (.aload_n 0, 1) := by decide +kernel
theorem dX4_whyNotBook_44 : decode cX4_whyNotBook 44 = .ok (.getfield 61, 3) := by decide +kernel
theorem dX4_whyNotBook_47 : decode cX4_whyNotBook 47 = .ok (.bipush 30, 2) := by decide +kernel
theorem dX4_whyNotBook_49 : decode cX4_whyNotBook 49 = .ok (.if_icmp .lt 6, 3) := by decide +kernel
theorem dX4_whyNotBook_52 : decode cX4_whyNotBook 52 = .ok (.ldc 108, 2) := by decide +kernel
theorem dX4_whyNotBook_54 : decode cX4_whyNotBook 54 = .ok (.ireturn, 1) := by decide +kernel
theorem dX4_whyNotBook_55 : decode cX4_whyNotBook 55 = .ok (.aload_n 0, 1) := by decide +kernel
theorem dX4_whyNotBook_56 : decode cX4_whyNotBook 56 = .ok (.iload_n 2, 1) := by decide +kernel
theorem dX4_whyNotBook_57 : decode cX4_whyNotBook 57 = .ok (.aload_n 0, 1) := by decide +kernel
theorem dX4_whyNotBook_58 : decode cX4_whyNotBook 58 = .ok (.getfield 71, 3) := by decide +kernel
theorem dX4_whyNotBook_61 : decode cX4_whyNotBook 61 = .ok (.iload_n 3, 1) := by decide +kernel
theorem dX4_whyNotBook_62 : decode cX4_whyNotBook 62 = .ok (.iadd, 1) := by decide +kernel
theorem dX4_whyNotBook_63 : decode cX4_whyNotBook 63 = .ok (.invokevirtual 140, 3) := by decide +kernel
theorem dX4_whyNotBook_66 : decode cX4_whyNotBook 66 = .ok (.iload 4, 2) := by decide +kernel
theorem dX4_whyNotBook_68 : decode cX4_whyNotBook 68 = .ok (.iadd, 1) := by decide +kernel
theorem dX4_whyNotBook_69 : decode cX4_whyNotBook 69 = .ok (.bipush 12, 2) := by decide +kernel
theorem dX4_whyNotBook_71 : decode cX4_whyNotBook 71 = .ok (.if_icmp .le 8, 3) := by decide +kernel
theorem dX4_whyNotBook_74 : decode cX4_whyNotBook 74 = .ok (.ldc 144, 2) := by decide +kernel
theorem dX4_whyNotBook_76 : decode cX4_whyNotBook 76 = .ok (.goto 4, 3) := by decide +kernel
theorem dX4_whyNotBook_79 : decode cX4_whyNotBook 79 = .ok (.iconst 0, 1) := by decide +kernel
theorem dX4_whyNotBook_80 : decode cX4_whyNotBook 80 = .ok (.ireturn, 1) := by decide +kernel
set_option maxRecDepth 20000 in
theorem ggX4_addBooking_X4_bookingAt : GoodIn wsX4_addBooking wsX4_bookingAt := goodIn_r _ [15, 1, 16, 17, 18, 19, 20, 21, 22, 23, 24, 25, 26, 27, 28, 29, 30, 31, 32] (by decide +kernel) (by decide +kernel)
set_option maxRecDepth 20000 in
theorem gX4_addBooking_X4_bookingAt : GoodIn wsX4_addBooking (wsV RX4 64 RX4 yX4_bookingAt wsX4_bookingAt) := goodIn_app (goodIn_of _ (by decide +kernel)) ggX4_addBooking_X4_bookingAt
theorem dX4_addBooking_0 : decode cX4_addBooking 0 = .ok (.aload_n 0, 1) := by decide +kernel
theorem dX4_addBooking_1 : decode cX4_addBooking 1 = .ok (.dup, 1) := by decide +kernel
theorem dX4_addBooking_2 : decode cX4_addBooking 2 = .ok (.getfield 61, 3) := by decide +kernel
theorem dX4_addBooking_5 : decode cX4_addBooking 5 = .ok (.iconst 1, 1) := by decide +kernel
theorem dX4_addBooking_6 : decode cX4_addBooking 6 = .ok (.iadd, 1) := by decide +kernel
theorem dX4_addBooking_7 : decode cX4_addBooking 7 = .ok (.putfield 61, 3) := by decide +kernel
theorem dX4_addBooking_10 : decode cX4_addBooking 10 = .ok (.aload_n 0, 1) := by decide +kernel
theorem dX4_addBooking_11 : decode cX4_addBooking 11 = .ok (.aload_n 0, 1) := by decide +kernel
theorem dX4_addBooking_12 : decode cX4_addBooking 12 = .ok (.getfield 61, 3) := by decide +kernel
theorem dX4_addBooking_15 : decode cX4_addBooking 15 = .ok (.iconst 1, 1) := by decide +kernel
theorem dX4_addBooking_16 : decode cX4_addBooking 16 = .ok (.isub, 1) := by decide +kernel
theorem dX4_addBooking_17 : decode cX4_addBooking 17 = .ok (.invokevirtual 64, 3) := by decide +kernel
theorem dX4_addBooking_20 : decode cX4_addBooking 20 = .ok (.astore 5, 2) := by decide +kernel
theorem dX4_addBooking_22 : decode cX4_addBooking 22 = .ok (.aload 5, 2) := by decide +kernel
theorem dX4_addBooking_24 : decode cX4_addBooking 24 = .ok (.ifnonnull 16, 3) := by decide +kernel
theorem dX4_addBooking_27 : decode cX4_addBooking 27 = .ok (.aload_n 0, 1) := by decide +kernel
theorem dX4_addBooking_28 : decode cX4_addBooking 28 = .ok (.dup, 1) := by decide +kernel
theorem dX4_addBooking_29 : decode cX4_addBooking 29 = .ok (.getfield 61, 3) := by decide +kernel
theorem dX4_addBooking_32 : decode cX4_addBooking 32 = .ok (.iconst 1, 1) := by decide +kernel
theorem dX4_addBooking_33 : decode cX4_addBooking 33 = .ok (.isub, 1) := by decide +kernel
theorem dX4_addBooking_34 : decode cX4_addBooking 34 = .ok (.putfield 61, 3) := by decide +kernel
theorem dX4_addBooking_37 : decode cX4_addBooking 37 = .ok (.ldc 108, 2) := by decide +kernel
theorem dX4_addBooking_39 : decode cX4_addBooking 39 = .ok (.ireturn, 1) := by decide +kernel
theorem dX4_addBooking_40 : decode cX4_addBooking 40 = .ok (.aload 5, 2) := by decide +kernel
theorem dX4_addBooking_42 : decode cX4_addBooking 42 = .ok (.aload_n 0, 1) := by decide +kernel
theorem dX4_addBooking_43 : decode cX4_addBooking 43 = .ok (.getfield 74, 3) := by decide +kernel
theorem dX4_addBooking_46 : decode cX4_addBooking 46 = .ok (.putfield 98, 3) := by decide +kernel
theorem dX4_addBooking_49 : decode cX4_addBooking 49 = .ok (.aload 5, 2) := by decide +kernel
theorem dX4_addBooking_51 : decode cX4_addBooking 51 = .ok (.iload_n 1, 1) := by decide +kernel
theorem dX4_addBooking_52 : decode cX4_addBooking 52 = .ok (.putfield 145, 3) := by decide +kernel
theorem dX4_addBooking_55 : decode cX4_addBooking 55 = .ok (.aload 5, 2) := by decide +kernel
theorem dX4_addBooking_57 : decode cX4_addBooking 57 = .ok (.iload_n 2, 1) := by decide +kernel
theorem dX4_addBooking_58 : decode cX4_addBooking 58 = .ok (.putfield 148, 3) := by decide +kernel
theorem dX4_addBooking_61 : decode cX4_addBooking 61 = .ok (.aload 5, 2) := by decide +kernel
theorem dX4_addBooking_63 : decode cX4_addBooking 63 = .ok (.aload_n 0, 1) := by decide +kernel
theorem dX4_addBooking_64 : decode cX4_addBooking 64 = .ok (.getfield 71, 3) := by decide +kernel
theorem dX4_addBooking_67 : decode cX4_addBooking 67 = .ok (.iload_n 3, 1) := by decide +kernel
theorem dX4_addBooking_68 : decode cX4_addBooking 68 = .ok (.iadd, 1) := by decide +kernel
theorem dX4_addBooking_69 : decode cX4_addBooking 69 = .ok (.putfield 151, 3) := by decide +kernel
theorem dX4_addBooking_72 : decode cX4_addBooking 72 = .ok (.aload 5, 2) := by decide +kernel
theorem dX4_addBooking_74 : decode cX4_addBooking 74 = .ok (.iload 4, 2) := by decide +kernel
theorem dX4_addBooking_76 : decode cX4_addBooking 76 = .ok (.putfield 152, 3) := by decide +kernel
theorem dX4_addBooking_79 : decode cX4_addBooking 79 = .ok (.aload 5, 2) := by decide +kernel
theorem dX4_addBooking_81 : decode cX4_addBooking 81 = .ok (.iconst 0, 1) := by decide +kernel
theorem dX4_addBooking_82 : decode cX4_addBooking 82 = .ok (.putfield 155, 3) := by decide +kernel
theorem dX4_addBooking_85 : decode cX4_addBooking 85 = .ok (.aload_n 0, 1) := by decide +kernel
theorem dX4_addBooking_86 : decode cX4_addBooking 86 = .ok (.dup, 1) := by decide +kernel
theorem dX4_addBooking_87 : decode cX4_addBooking 87 = .ok (.getfield 74, 3) := by decide +kernel
theorem dX4_addBooking_90 : decode cX4_addBooking 90 = .ok (.iconst 1, 1) := by decide +kernel
theorem dX4_addBooking_91 : decode cX4_addBooking 91 = .ok (.iadd, 1) := by decide +kernel
theorem dX4_addBooking_92 : decode cX4_addBooking 92 = .ok (.putfield 74, 3) := by decide +kernel
theorem dX4_addBooking_95 : decode cX4_addBooking 95 = .ok (.aload 5, 2) := by decide +kernel
theorem dX4_addBooking_97 : decode cX4_addBooking 97 = .ok (.getfield 98, 3) := by decide +kernel
theorem dX4_addBooking_100 : decode cX4_addBooking 100 = .ok (.ireturn, 1) := by decide +kernel
theorem dX4_removeBookingAt_0 : decode cX4_removeBookingAt 0 = .ok (.iload_n 1, 1) := by decide +kernel
theorem dX4_removeBookingAt_1 : decode cX4_removeBookingAt 1 = .ok (.ifCond .lt 11, 3) := by decide +kernel
theorem dX4_removeBookingAt_4 : decode cX4_removeBookingAt 4 = .ok (.iload_n 1, 1) := by decide +kernel
theorem dX4_removeBookingAt_5 : decode cX4_removeBookingAt 5 = .ok (.aload_n 0, 1) := by decide +kernel
theorem dX4_removeBookingAt_6 : decode cX4_removeBookingAt 6 = .ok (.getfield 61, 3) := by decide +kernel
theorem dX4_removeBookingAt_9 : decode cX4_removeBookingAt 9 = .ok (.if_icmp .lt 4, 3) := by decide +kernel
theorem dX4_removeBookingAt_12 : decode cX4_removeBookingAt 12 = .ok (.return_, 1) := by decide +kernel
theorem dX4_removeBookingAt_13 : decode cX4_removeBookingAt 13 = .ok (.iload_n 1, 1) := by decide +kernel
theorem dX4_removeBookingAt_14 : decode cX4_removeBookingAt 14 = .ok (.iconst 1, 1) := by decide +kernel
theorem dX4_removeBookingAt_15 : decode cX4_removeBookingAt 15 = .ok (.iadd, 1) := by decide +kernel
theorem dX4_removeBookingAt_16 : decode cX4_removeBookingAt 16 = .ok (.istore_n 2, 1) := by decide +kernel
theorem dX4_removeBookingAt_17 : decode cX4_removeBookingAt 17 = .ok (.iload_n 2, 1) := by decide +kernel
theorem dX4_removeBookingAt_18 : decode cX4_removeBookingAt 18 = .ok (.aload_n 0, 1) := by decide +kernel
theorem dX4_removeBookingAt_19 : decode cX4_removeBookingAt 19 = .ok (.getfield 61, 3) := by decide +kernel
theorem dX4_removeBookingAt_22 : decode cX4_removeBookingAt 22 = .ok (.if_icmp .ge 48, 3) := by decide +kernel
theorem dX4_removeBookingAt_25 : decode cX4_removeBookingAt 25 = .ok (.iload_n 2, 1) := by decide +kernel
theorem dX4_removeBookingAt_26 : decode cX4_removeBookingAt 26 = .ok (.aload_n 0, 1) := by decide +kernel
theorem dX4_removeBookingAt_27 : decode cX4_removeBookingAt 27 = .ok (.getfield 27, 3) := by decide +kernel
theorem dX4_removeBookingAt_30 : decode cX4_removeBookingAt 30 = .ok (.arraylength, 1) := by decide +kernel
theorem dX4_removeBookingAt_31 : decode cX4_removeBookingAt 31 = .ok (.if_icmp .ge 39, 3) := by decide +kernel
theorem dX4_removeBookingAt_34 : decode cX4_removeBookingAt 34 = .ok (.aload_n 0, 1) := by decide +kernel
theorem dX4_removeBookingAt_35 : decode cX4_removeBookingAt 35 = .ok (.getfield 27, 3) := by decide +kernel
theorem dX4_removeBookingAt_38 : decode cX4_removeBookingAt 38 = .ok (.iload_n 2, 1) := by decide +kernel
theorem dX4_removeBookingAt_39 : decode cX4_removeBookingAt 39 = .ok (.iconst 1, 1) := by decide +kernel
theorem dX4_removeBookingAt_40 : decode cX4_removeBookingAt 40 = .ok (.isub, 1) := by decide +kernel
theorem dX4_removeBookingAt_41 : decode cX4_removeBookingAt 41 = .ok (.aaload, 1) := by decide +kernel
theorem dX4_removeBookingAt_42 : decode cX4_removeBookingAt 42 = .ok (.astore_n 3, 1) := by decide +kernel
theorem dX4_removeBookingAt_43 : decode cX4_removeBookingAt 43 = .ok (.aload_n 0, 1) := by decide +kernel
theorem dX4_removeBookingAt_44 : decode cX4_removeBookingAt 44 = .ok (.getfield 27, 3) := by decide +kernel
theorem dX4_removeBookingAt_47 : decode cX4_removeBookingAt 47 = .ok (.iload_n 2, 1) := by decide +kernel
theorem dX4_removeBookingAt_48 : decode cX4_removeBookingAt 48 = .ok (.iconst 1, 1) := by decide +kernel
theorem dX4_removeBookingAt_49 : decode cX4_removeBookingAt 49 = .ok (.isub, 1) := by decide +kernel
theorem dX4_removeBookingAt_50 : decode cX4_removeBookingAt 50 = .ok (.aload_n 0, 1) := by decide +kernel
theorem dX4_removeBookingAt_51 : decode cX4_removeBookingAt 51 = .ok (.getfield 27, 3) := by decide +kernel
theorem dX4_removeBookingAt_54 : decode cX4_removeBookingAt 54 = .ok (.iload_n 2, 1) := by decide +kernel
theorem dX4_removeBookingAt_55 : decode cX4_removeBookingAt 55 = .ok (.aaload, 1) := by decide +kernel
theorem dX4_removeBookingAt_56 : decode cX4_removeBookingAt 56 = .ok (.aastore, 1) := by decide +kernel
theorem dX4_removeBookingAt_57 : decode cX4_removeBookingAt 57 = .ok (.aload_n 0, 1) := by decide +kernel
theorem dX4_removeBookingAt_58 : decode cX4_removeBookingAt 58 = .ok (.getfield 27, 3) := by decide +kernel
theorem dX4_removeBookingAt_61 : decode cX4_removeBookingAt 61 = .ok (.iload_n 2, 1) := by decide +kernel
theorem dX4_removeBookingAt_62 : decode cX4_removeBookingAt 62 = .ok (.aload_n 3, 1) := by decide +kernel
theorem dX4_removeBookingAt_63 : decode cX4_removeBookingAt 63 = .ok (.aastore, 1) := by decide +kernel
theorem dX4_removeBookingAt_64 : decode cX4_removeBookingAt 64 = .ok (.iinc 2 1, 3) := by decide +kernel
theorem dX4_removeBookingAt_67 : decode cX4_removeBookingAt 67 = .ok (.goto (-50), 3) := by decide +kernel
theorem dX4_removeBookingAt_70 : decode cX4_removeBookingAt 70 = .ok (.aload_n 0, 1) := by decide +kernel
theorem dX4_removeBookingAt_71 : decode cX4_removeBookingAt 71 = .ok (.dup, 1) := by decide +kernel
theorem dX4_removeBookingAt_72 : decode cX4_removeBookingAt 72 = .ok (.getfield 61, 3) := by decide +kernel
theorem dX4_removeBookingAt_75 : decode cX4_removeBookingAt 75 = .ok (.iconst 1, 1) := by decide +kernel
theorem dX4_removeBookingAt_76 : decode cX4_removeBookingAt 76 = .ok (.isub, 1) := by decide +kernel
theorem dX4_removeBookingAt_77 : decode cX4_removeBookingAt 77 = .ok (.putfield 61, 3) := by decide +kernel
theorem dX4_removeBookingAt_80 : decode cX4_removeBookingAt 80 = .ok (.return_, 1) := by decide +kernel
set_option maxRecDepth 20000 in
theorem ggX4_hoursOn_X4_bookingAt : GoodIn wsX4_hoursOn wsX4_bookingAt := goodIn_r _ [7, 1, 8, 16, 17, 18, 19, 20, 21, 22, 23, 24, 25, 26, 27, 28, 29, 30, 31] (by decide +kernel) (by decide +kernel)
set_option maxRecDepth 20000 in
theorem gX4_hoursOn_X4_bookingAt : GoodIn wsX4_hoursOn (wsV RX4 64 RX4 yX4_bookingAt wsX4_bookingAt) := goodIn_app (goodIn_of _ (by decide +kernel)) ggX4_hoursOn_X4_bookingAt
set_option maxRecDepth 20000 in
theorem ggX4_hoursOn_X0_isFor : GoodIn wsX4_hoursOn wsX0_isFor := goodIn_r _ [13, 14, 15, 32, 33, 34, 35, 36, 37] (by decide +kernel) (by decide +kernel)
set_option maxRecDepth 20000 in
theorem gX4_hoursOn_X0_isFor : GoodIn wsX4_hoursOn (wsV RX4 158 RX0 yX0_isFor wsX0_isFor) := goodIn_app (goodIn_of _ (by decide +kernel)) ggX4_hoursOn_X0_isFor
theorem dX4_hoursOn_0 : decode cX4_hoursOn 0 = .ok (.iconst 0, 1) := by decide +kernel
theorem dX4_hoursOn_1 : decode cX4_hoursOn 1 = .ok (.istore_n 3, 1) := by decide +kernel
theorem dX4_hoursOn_2 : decode cX4_hoursOn 2 = .ok (.iconst 0, 1) := by decide +kernel
theorem dX4_hoursOn_3 : decode cX4_hoursOn 3 = .ok (.istore 4, 2) := by decide +kernel
theorem dX4_hoursOn_5 : decode cX4_hoursOn 5 = .ok (.iload 4, 2) := by decide +kernel
theorem dX4_hoursOn_7 : decode cX4_hoursOn 7 = .ok (.aload_n 0, 1) := by decide +kernel
theorem dX4_hoursOn_8 : decode cX4_hoursOn 8 = .ok (.getfield 61, 3) := by decide +kernel
theorem dX4_hoursOn_11 : decode cX4_hoursOn 11 = .ok (.if_icmp .ge 40, 3) := by decide +kernel
theorem dX4_hoursOn_14 : decode cX4_hoursOn 14 = .ok (.aload_n 0, 1) := by decide +kernel
theorem dX4_hoursOn_15 : decode cX4_hoursOn 15 = .ok (.iload 4, 2) := by decide +kernel
theorem dX4_hoursOn_17 : decode cX4_hoursOn 17 = .ok (.invokevirtual 64, 3) := by decide +kernel
theorem dX4_hoursOn_20 : decode cX4_hoursOn 20 = .ok (.astore 5, 2) := by decide +kernel
theorem dX4_hoursOn_22 : decode cX4_hoursOn 22 = .ok (.aload 5, 2) := by decide +kernel
theorem dX4_hoursOn_24 : decode cX4_hoursOn 24 = .ok (.ifnull 21, 3) := by decide +kernel
theorem dX4_hoursOn_27 : decode cX4_hoursOn 27 = .ok (.aload 5, 2) := by decide +kernel
theorem dX4_hoursOn_29 : decode cX4_hoursOn 29 = .ok (.iload_n 1, 1) := by decide +kernel
theorem dX4_hoursOn_30 : decode cX4_hoursOn 30 = .ok (.iload_n 2, 1) := by decide +kernel
theorem dX4_hoursOn_31 : decode cX4_hoursOn 31 = .ok (.invokevirtual 158, 3) := by decide +kernel
theorem dX4_hoursOn_34 : decode cX4_hoursOn 34 = .ok (.ifCond .eq 11, 3) := by decide +kernel
theorem dX4_hoursOn_37 : decode cX4_hoursOn 37 = .ok (.iload_n 3, 1) := by decide +kernel
theorem dX4_hoursOn_38 : decode cX4_hoursOn 38 = .ok (.aload 5, 2) := by decide +kernel
theorem dX4_hoursOn_40 : decode cX4_hoursOn 40 = .ok (.getfield 152, 3) := by decide +kernel
theorem dX4_hoursOn_43 : decode cX4_hoursOn 43 = .ok (.iadd, 1) := by decide +kernel
theorem dX4_hoursOn_44 : decode cX4_hoursOn 44 = .ok (.istore_n 3, 1) := by decide +kernel
theorem dX4_hoursOn_45 : decode cX4_hoursOn 45 = .ok (.iinc 4 1, 3) := by decide +kernel
theorem dX4_hoursOn_48 : decode cX4_hoursOn 48 = .ok (.goto (-43), 3) := by decide +kernel
theorem dX4_hoursOn_51 : decode cX4_hoursOn 51 = .ok (.iload_n 3, 1) := by decide +kernel
theorem dX4_hoursOn_52 : decode cX4_hoursOn 52 = .ok (.ireturn, 1) := by decide +kernel
set_option maxRecDepth 20000 in
theorem ggX4_standingOf_X4_bookingAt : GoodIn wsX4_standingOf wsX4_bookingAt := goodIn_r _ [7, 1, 8, 9, 10, 11, 12, 13, 14, 15, 16, 17, 18, 19, 20, 21, 22, 23, 24] (by decide +kernel) (by decide +kernel)
set_option maxRecDepth 20000 in
theorem gX4_standingOf_X4_bookingAt : GoodIn wsX4_standingOf (wsV RX4 64 RX4 yX4_bookingAt wsX4_bookingAt) := goodIn_app (goodIn_of _ (by decide +kernel)) ggX4_standingOf_X4_bookingAt
theorem dX4_standingOf_0 : decode cX4_standingOf 0 = .ok (.iconst 0, 1) := by decide +kernel
theorem dX4_standingOf_1 : decode cX4_standingOf 1 = .ok (.istore_n 2, 1) := by decide +kernel
theorem dX4_standingOf_2 : decode cX4_standingOf 2 = .ok (.iconst 0, 1) := by decide +kernel
theorem dX4_standingOf_3 : decode cX4_standingOf 3 = .ok (.istore_n 3, 1) := by decide +kernel
theorem dX4_standingOf_4 : decode cX4_standingOf 4 = .ok (.iload_n 3, 1) := by decide +kernel
theorem dX4_standingOf_5 : decode cX4_standingOf 5 = .ok (.aload_n 0, 1) := by decide +kernel
theorem dX4_standingOf_6 : decode cX4_standingOf 6 = .ok (.getfield 61, 3) := by decide +kernel
theorem dX4_standingOf_9 : decode cX4_standingOf 9 = .ok (.if_icmp .ge 33, 3) := by decide +kernel
theorem dX4_standingOf_12 : decode cX4_standingOf 12 = .ok (.aload_n 0, 1) := by decide +kernel
theorem dX4_standingOf_13 : decode cX4_standingOf 13 = .ok (.iload_n 3, 1) := by decide +kernel
theorem dX4_standingOf_14 : decode cX4_standingOf 14 = .ok (.invokevirtual 64, 3) := by decide +kernel
theorem dX4_standingOf_17 : decode cX4_standingOf 17 = .ok (.astore 4, 2) := by decide +kernel
theorem dX4_standingOf_19 : decode cX4_standingOf 19 = .ok (.aload 4, 2) := by decide +kernel
theorem dX4_standingOf_21 : decode cX4_standingOf 21 = .ok (.ifnull 15, 3) := by decide +kernel
theorem dX4_standingOf_24 : decode cX4_standingOf 24 = .ok (.aload 4, 2) := by decide +kernel
theorem dX4_standingOf_26 : decode cX4_standingOf 26 = .ok (.getfield 145, 3) := by decide +kernel
theorem dX4_standingOf_29 : decode cX4_standingOf 29 = .ok (.iload_n 1, 1) := by decide +kernel
theorem dX4_standingOf_30 : decode cX4_standingOf 30 = .ok (.if_icmp .ne 6, 3) := by decide +kernel
theorem dX4_standingOf_33 : decode cX4_standingOf 33 = .ok (.iinc 2 1, 3) := by decide +kernel
theorem dX4_standingOf_36 : decode cX4_standingOf 36 = .ok (.iinc 3 1, 3) := by decide +kernel
theorem dX4_standingOf_39 : decode cX4_standingOf 39 = .ok (.goto (-35), 3) := by decide +kernel
theorem dX4_standingOf_42 : decode cX4_standingOf 42 = .ok (.iload_n 2, 1) := by decide +kernel
theorem dX4_standingOf_43 : decode cX4_standingOf 43 = .ok (.ireturn, 1) := by decide +kernel
set_option maxRecDepth 20000 in
theorem ggX4_sumOfAccounts_X4_farmerAt : GoodIn wsX4_sumOfAccounts wsX4_farmerAt := goodIn_r _ [6, 7, 14, 15, 16, 17, 18, 19, 20, 21, 22, 23, 24, 25, 26, 27, 28, 29] (by decide +kernel) (by decide +kernel)
set_option maxRecDepth 20000 in
theorem gX4_sumOfAccounts_X4_farmerAt : GoodIn wsX4_sumOfAccounts (wsV RX4 43 RX4 yX4_farmerAt wsX4_farmerAt) := goodIn_app (goodIn_of _ (by decide +kernel)) ggX4_sumOfAccounts_X4_farmerAt
theorem dX4_sumOfAccounts_0 : decode cX4_sumOfAccounts 0 = .ok (.iconst 0, 1) := by decide +kernel
theorem dX4_sumOfAccounts_1 : decode cX4_sumOfAccounts 1 = .ok (.istore_n 1, 1) := by decide +kernel
theorem dX4_sumOfAccounts_2 : decode cX4_sumOfAccounts 2 = .ok (.iconst 0, 1) := by decide +kernel
theorem dX4_sumOfAccounts_3 : decode cX4_sumOfAccounts 3 = .ok (.istore_n 2, 1) := by decide +kernel
theorem dX4_sumOfAccounts_4 : decode cX4_sumOfAccounts 4 = .ok (.iload_n 2, 1) := by decide +kernel
theorem dX4_sumOfAccounts_5 : decode cX4_sumOfAccounts 5 = .ok (.bipush 6, 2) := by decide +kernel
theorem dX4_sumOfAccounts_7 : decode cX4_sumOfAccounts 7 = .ok (.if_icmp .ge 26, 3) := by decide +kernel
theorem dX4_sumOfAccounts_10 : decode cX4_sumOfAccounts 10 = .ok (.aload_n 0, 1) := by decide +kernel
theorem dX4_sumOfAccounts_11 : decode cX4_sumOfAccounts 11 = .ok (.iload_n 2, 1) := by decide +kernel
theorem dX4_sumOfAccounts_12 : decode cX4_sumOfAccounts 12 = .ok (.invokevirtual 43, 3) := by decide +kernel
theorem dX4_sumOfAccounts_15 : decode cX4_sumOfAccounts 15 = .ok (.astore_n 3, 1) := by decide +kernel
theorem dX4_sumOfAccounts_16 : decode cX4_sumOfAccounts 16 = .ok (.aload_n 3, 1) := by decide +kernel
theorem dX4_sumOfAccounts_17 : decode cX4_sumOfAccounts 17 = .ok (.ifnull 10, 3) := by decide +kernel
theorem dX4_sumOfAccounts_20 : decode cX4_sumOfAccounts 20 = .ok (.iload_n 1, 1) := by decide +kernel
theorem dX4_sumOfAccounts_21 : decode cX4_sumOfAccounts 21 = .ok (.aload_n 3, 1) := by decide +kernel
theorem dX4_sumOfAccounts_22 : decode cX4_sumOfAccounts 22 = .ok (.getfield 162, 3) := by decide +kernel
theorem dX4_sumOfAccounts_25 : decode cX4_sumOfAccounts 25 = .ok (.iadd, 1) := by decide +kernel
theorem dX4_sumOfAccounts_26 : decode cX4_sumOfAccounts 26 = .ok (.istore_n 1, 1) := by decide +kernel
theorem dX4_sumOfAccounts_27 : decode cX4_sumOfAccounts 27 = .ok (.iinc 2 1, 3) := by decide +kernel
theorem dX4_sumOfAccounts_30 : decode cX4_sumOfAccounts 30 = .ok (.goto (-26), 3) := by decide +kernel
theorem dX4_sumOfAccounts_33 : decode cX4_sumOfAccounts 33 = .ok (.iload_n 1, 1) := by decide +kernel
theorem dX4_sumOfAccounts_34 : decode cX4_sumOfAccounts 34 = .ok (.ireturn, 1) := by decide +kernel
set_option maxRecDepth 20000 in
theorem ggX4_brokenMachines_X4_machineAt : GoodIn wsX4_brokenMachines wsX4_machineAt := goodIn_r _ [7, 1, 8, 9, 10, 11, 12, 13, 14, 15, 16, 17, 18, 19, 20, 21, 22, 23, 24] (by decide +kernel) (by decide +kernel)
set_option maxRecDepth 20000 in
theorem gX4_brokenMachines_X4_machineAt : GoodIn wsX4_brokenMachines (wsV RX4 54 RX4 yX4_machineAt wsX4_machineAt) := goodIn_app (goodIn_of _ (by decide +kernel)) ggX4_brokenMachines_X4_machineAt
theorem dX4_brokenMachines_0 : decode cX4_brokenMachines 0 = .ok (.iconst 0, 1) := by decide +kernel
theorem dX4_brokenMachines_1 : decode cX4_brokenMachines 1 = .ok (.istore_n 1, 1) := by decide +kernel
theorem dX4_brokenMachines_2 : decode cX4_brokenMachines 2 = .ok (.iconst 0, 1) := by decide +kernel
theorem dX4_brokenMachines_3 : decode cX4_brokenMachines 3 = .ok (.istore_n 2, 1) := by decide +kernel
theorem dX4_brokenMachines_4 : decode cX4_brokenMachines 4 = .ok (.iload_n 2, 1) := by decide +kernel
theorem dX4_brokenMachines_5 : decode cX4_brokenMachines 5 = .ok (.aload_n 0, 1) := by decide +kernel
theorem dX4_brokenMachines_6 : decode cX4_brokenMachines 6 = .ok (.getfield 51, 3) := by decide +kernel
theorem dX4_brokenMachines_9 : decode cX4_brokenMachines 9 = .ok (.if_icmp .ge 29, 3) := by decide +kernel
theorem dX4_brokenMachines_12 : decode cX4_brokenMachines 12 = .ok (.aload_n 0, 1) := by decide +kernel
theorem dX4_brokenMachines_13 : decode cX4_brokenMachines 13 = .ok (.iload_n 2, 1) := by decide +kernel
theorem dX4_brokenMachines_14 : decode cX4_brokenMachines 14 = .ok (.invokevirtual 54, 3) := by decide +kernel
theorem dX4_brokenMachines_17 : decode cX4_brokenMachines 17 = .ok (.astore_n 3, 1) := by decide +kernel
theorem dX4_brokenMachines_18 : decode cX4_brokenMachines 18 = .ok (.aload_n 3, 1) := by decide +kernel
theorem dX4_brokenMachines_19 : decode cX4_brokenMachines 19 = .ok (.ifnull 13, 3) := by decide +kernel
theorem dX4_brokenMachines_22 : decode cX4_brokenMachines 22 = .ok (.aload_n 3, 1) := by decide +kernel
theorem dX4_brokenMachines_23 : decode cX4_brokenMachines 23 = .ok (.getfield 127, 3) := by decide +kernel
theorem dX4_brokenMachines_26 : decode cX4_brokenMachines 26 = .ok (.ifCond .eq 6, 3) := by decide +kernel
theorem dX4_brokenMachines_29 : decode cX4_brokenMachines 29 = .ok (.iinc 1 1, 3) := by decide +kernel
theorem dX4_brokenMachines_32 : decode cX4_brokenMachines 32 = .ok (.iinc 2 1, 3) := by decide +kernel
theorem dX4_brokenMachines_35 : decode cX4_brokenMachines 35 = .ok (.goto (-31), 3) := by decide +kernel
theorem dX4_brokenMachines_38 : decode cX4_brokenMachines 38 = .ok (.iload_n 1, 1) := by decide +kernel
theorem dX4_brokenMachines_39 : decode cX4_brokenMachines 39 = .ok (.ireturn, 1) := by decide +kernel
theorem dX4_isWet_0 : decode cX4_isWet 0 = .ok (.sipush 421, 3) := by decide +kernel
theorem dX4_isWet_3 : decode cX4_isWet 3 = .ok (.iload_n 1, 1) := by decide +kernel
theorem dX4_isWet_4 : decode cX4_isWet 4 = .ok (.aload_n 0, 1) := by decide +kernel
theorem dX4_isWet_5 : decode cX4_isWet 5 = .ok (.getfield 86, 3) := by decide +kernel
theorem dX4_isWet_8 : decode cX4_isWet 8 = .ok (.iadd, 1) := by decide +kernel
theorem dX4_isWet_9 : decode cX4_isWet 9 = .ok (.imul, 1) := by decide +kernel
theorem dX4_isWet_10 : decode cX4_isWet 10 = .ok (.sipush 1663, 3) := by decide +kernel
theorem dX4_isWet_13 : decode cX4_isWet 13 = .ok (.iadd, 1) := by decide +kernel
theorem dX4_isWet_14 : decode cX4_isWet 14 = .ok (.sipush 10000, 3) := by decide +kernel
theorem dX4_isWet_17 : decode cX4_isWet 17 = .ok (.irem, 1) := by decide +kernel
theorem dX4_isWet_18 : decode cX4_isWet 18 = .ok (.bipush 16, 2) := by decide +kernel
theorem dX4_isWet_20 : decode cX4_isWet 20 = .ok (.idiv, 1) := by decide +kernel
theorem dX4_isWet_21 : decode cX4_isWet 21 = .ok (.iconst 4, 1) := by decide +kernel
theorem dX4_isWet_22 : decode cX4_isWet 22 = .ok (.irem, 1) := by decide +kernel
theorem dX4_isWet_23 : decode cX4_isWet 23 = .ok (.ifCond .ne 7, 3) := by decide +kernel
theorem dX4_isWet_26 : decode cX4_isWet 26 = .ok (.iconst 1, 1) := by decide +kernel
theorem dX4_isWet_27 : decode cX4_isWet 27 = .ok (.goto 4, 3) := by decide +kernel
theorem dX4_isWet_30 : decode cX4_isWet 30 = .ok (.iconst 0, 1) := by decide +kernel
theorem dX4_isWet_31 : decode cX4_isWet 31 = .ok (.ireturn, 1) := by decide +kernel
set_option maxRecDepth 20000 in
theorem ggX4_chargeOf_X4_machineAt : GoodIn wsX4_chargeOf wsX4_machineAt := goodIn_r _ [11, 12, 13, 47, 48, 49, 50, 51, 52, 53, 54, 55, 56, 57, 58, 59, 60, 61, 62] (by decide +kernel) (by decide +kernel)
set_option maxRecDepth 20000 in
theorem gX4_chargeOf_X4_machineAt : GoodIn wsX4_chargeOf (wsV RX4 54 RX4 yX4_machineAt wsX4_machineAt) := goodIn_app (goodIn_of _ (by decide +kernel)) ggX4_chargeOf_X4_machineAt
set_option maxRecDepth 20000 in
theorem ggX4_chargeOf_X4_farmerAt : GoodIn wsX4_chargeOf wsX4_farmerAt := goodIn_r _ [17, 18, 47, 48, 49, 50, 51, 52, 53, 54, 55, 56, 57, 58, 59, 60, 61, 62] (by decide +kernel) (by decide +kernel)
set_option maxRecDepth 20000 in
theorem gX4_chargeOf_X4_farmerAt : GoodIn wsX4_chargeOf (wsV RX4 43 RX4 yX4_farmerAt wsX4_farmerAt) := goodIn_app (goodIn_of _ (by decide +kernel)) ggX4_chargeOf_X4_farmerAt
set_option maxRecDepth 20000 in
theorem ggX4_chargeOf_X6_seasonOf : GoodIn wsX4_chargeOf wsX6_seasonOf := goodIn_r _ [21] (by decide +kernel) (by decide +kernel)
set_option maxRecDepth 20000 in
theorem gX4_chargeOf_X6_seasonOf_n168 : GoodIn wsX4_chargeOf (wsX6_seasonOf) := ggX4_chargeOf_X6_seasonOf
set_option maxRecDepth 20000 in
theorem ggX4_chargeOf_X6_factorOf : GoodIn wsX4_chargeOf wsX6_factorOf := goodIn_r _ [23, 24, 25, 26] (by decide +kernel) (by decide +kernel)
set_option maxRecDepth 20000 in
theorem gX4_chargeOf_X6_factorOf_n171 : GoodIn wsX4_chargeOf (wsX6_factorOf) := ggX4_chargeOf_X6_factorOf
set_option maxRecDepth 20000 in
theorem ggX4_chargeOf_X1_mayDrive : GoodIn wsX4_chargeOf wsX1_mayDrive := goodIn_r _ [31, 32, 63, 64, 65, 66, 67, 68] (by decide +kernel) (by decide +kernel)
set_option maxRecDepth 20000 in
theorem gX4_chargeOf_X1_mayDrive : GoodIn wsX4_chargeOf (wsV RX4 175 RX1 yX1_mayDrive wsX1_mayDrive) := goodIn_app (goodIn_of _ (by decide +kernel)) ggX4_chargeOf_X1_mayDrive
theorem dX4_chargeOf_0 : decode cX4_chargeOf 0 = .ok (.aload_n 0, 1) := by decide +kernel
theorem dX4_chargeOf_1 : decode cX4_chargeOf 1 = .ok (.aload_n 1, 1) := by decide +kernel
theorem dX4_chargeOf_2 : decode cX4_chargeOf 2 = .ok (.getfield 148, 3) := by decide +kernel
theorem dX4_chargeOf_5 : decode cX4_chargeOf 5 = .ok (.invokevirtual 54, 3) := by decide +kernel
theorem dX4_chargeOf_8 : decode cX4_chargeOf 8 = .ok (.astore_n 2, 1) := by decide +kernel
theorem dX4_chargeOf_9 : decode cX4_chargeOf 9 = .ok (.aload_n 0, 1) := by decide +kernel
theorem dX4_chargeOf_10 : decode cX4_chargeOf 10 = .ok (.aload_n 1, 1) := by decide +kernel
theorem dX4_chargeOf_11 : decode cX4_chargeOf 11 = .ok (.getfield 145, 3) := by decide +kernel
theorem dX4_chargeOf_14 : decode cX4_chargeOf 14 = .ok (.invokevirtual 43, 3) := by decide +kernel
theorem dX4_chargeOf_17 : decode cX4_chargeOf 17 = .ok (.astore_n 3, 1) := by decide +kernel
theorem dX4_chargeOf_18 : decode cX4_chargeOf 18 = .ok (.aload_n 2, 1) := by decide +kernel
theorem dX4_chargeOf_19 : decode cX4_chargeOf 19 = .ok (.ifnull 7, 3) := by decide +kernel
theorem dX4_chargeOf_22 : decode cX4_chargeOf 22 = .ok (.aload_n 3, 1) := by decide +kernel
theorem dX4_chargeOf_23 : decode cX4_chargeOf 23 = .ok (.ifnonnull 5, 3) := by decide +kernel
theorem dX4_chargeOf_26 : decode cX4_chargeOf 26 = .ok (.iconst 0, 1) := by decide +kernel
theorem dX4_chargeOf_27 : decode cX4_chargeOf 27 = .ok (.ireturn, 1) := by decide +kernel
theorem dX4_chargeOf_28 : decode cX4_chargeOf 28 = .ok (.aload_n 1, 1) := by decide +kernel
theorem dX4_chargeOf_29 : decode cX4_chargeOf 29 = .ok (.getfield 152, 3) := by decide +kernel
theorem dX4_chargeOf_32 : decode cX4_chargeOf 32 = .ok (.aload_n 2, 1) := by decide +kernel
theorem dX4_chargeOf_33 : decode cX4_chargeOf 33 = .ok (.getfield 165, 3) := by decide +kernel
theorem dX4_chargeOf_36 : decode cX4_chargeOf 36 = .ok (.imul, 1) := by decide +kernel
theorem dX4_chargeOf_37 : decode cX4_chargeOf 37 = .ok (.i2f, 1) := by decide +kernel
theorem dX4_chargeOf_38 : decode cX4_chargeOf 38 = .ok (.aload_n 1, 1) := by decide +kernel
theorem dX4_chargeOf_39 : decode cX4_chargeOf 39 = .ok (.getfield 151, 3) := by decide +kernel
theorem dX4_chargeOf_42 : decode cX4_chargeOf 42 = .ok (.invokestatic 168, 3) := by decide +kernel
theorem dX4_chargeOf_45 : decode cX4_chargeOf 45 = .ok (.invokestatic 171, 3) := by decide +kernel
theorem dX4_chargeOf_48 : decode cX4_chargeOf 48 = .ok (.fmul, 1) := by decide +kernel
theorem dX4_chargeOf_49 : decode cX4_chargeOf 49 = .ok (.f2i, 1) := by decide +kernel
theorem dX4_chargeOf_50 : decode cX4_chargeOf 50 = .ok (.istore 4, 2) := by decide +kernel
theorem dX4_chargeOf_52 : decode cX4_chargeOf 52 = .ok (.aload_n 3, 1) := by decide +kernel
theorem dX4_chargeOf_53 : decode cX4_chargeOf 53 = .ok (.aload_n 2, 1) := by decide +kernel
theorem dX4_chargeOf_54 : decode cX4_chargeOf 54 = .ok (.getfield 101, 3) := by decide +kernel
theorem dX4_chargeOf_57 : decode cX4_chargeOf 57 = .ok (.invokevirtual 175, 3) := by decide +kernel
theorem dX4_chargeOf_60 : decode cX4_chargeOf 60 = .ok (.ifCond .eq 8, 3) := by decide +kernel
theorem dX4_chargeOf_63 : decode cX4_chargeOf 63 = .ok (.iload 4, 2) := by decide +kernel
theorem dX4_chargeOf_65 : decode cX4_chargeOf 65 = .ok (.goto 13, 3) := by decide +kernel
theorem dX4_chargeOf_68 : decode cX4_chargeOf 68 = .ok (.iload 4, 2) := by decide +kernel
theorem dX4_chargeOf_70 : decode cX4_chargeOf 70 = .ok (.bipush 6, 2) := by decide +kernel
theorem dX4_chargeOf_72 : decode cX4_chargeOf 72 = .ok (.aload_n 1, 1) := by decide +kernel
theorem dX4_chargeOf_73 : decode cX4_chargeOf 73 = .ok (.getfield 152, 3) := by decide +kernel
theorem dX4_chargeOf_76 : decode cX4_chargeOf 76 = .ok (.imul, 1) := by decide +kernel
theorem dX4_chargeOf_77 : decode cX4_chargeOf 77 = .ok (.iadd, 1) := by decide +kernel
theorem dX4_chargeOf_78 : decode cX4_chargeOf 78 = .ok (.ireturn, 1) := by decide +kernel
set_option maxRecDepth 20000 in
theorem ggX4_passDay_X4_settle : GoodIn wsX4_passDay wsX4_settle := goodIn_r _ [7, 8, 1, 9, 10, 11, 12, 13, 14, 15, 16, 17, 6, 18, 2, 19, 20, 21, 22, 23, 24, 25, 26, 27, 28, 29, 30, 31, 32, 33, 34, 35, 36, 37, 38, 39, 40, 41, 42, 43, 44, 45, 46, 47, 48, 49, 50, 51, 52, 53, 54, 55, 56, 57, 58, 59, 60, 61, 62, 63, 64, 65, 66, 67, 68, 69, 70, 71, 72, 73, 74, 75, 76, 77, 78, 79, 80, 81, 82, 83, 84, 85, 86, 87, 88, 89, 90, 91, 92, 93, 94, 95, 96, 97, 98, 99, 100, 101, 102, 103, 104, 105, 106, 107, 108, 109, 110, 111, 112, 129, 130, 131, 132, 133, 134, 113, 114, 115, 116, 117, 118, 119, 120, 121, 122, 123, 124, 125, 126, 127, 128, 135, 136, 137, 138, 139, 140, 141, 142, 143, 144, 145, 146, 147, 148] (by decide +kernel) (by decide +kernel)
set_option maxRecDepth 20000 in
theorem gX4_passDay_X4_settle : GoodIn wsX4_passDay (wsV RX4 179 RX4 yX4_settle wsX4_settle) := goodIn_app (goodIn_of _ (by decide +kernel)) ggX4_passDay_X4_settle
theorem dX4_passDay_0 : decode cX4_passDay 0 = .ok (.aload_n 0, 1) := by decide +kernel
theorem dX4_passDay_1 : decode cX4_passDay 1 = .ok (.dup, 1) := by decide +kernel
theorem dX4_passDay_2 : decode cX4_passDay 2 = .ok (.getfield 71, 3) := by decide +kernel
theorem dX4_passDay_5 : decode cX4_passDay 5 = .ok (.iconst 1, 1) := by decide +kernel
theorem dX4_passDay_6 : decode cX4_passDay 6 = .ok (.iadd, 1) := by decide +kernel
theorem dX4_passDay_7 : decode cX4_passDay 7 = .ok (.putfield 71, 3) := by decide +kernel
theorem dX4_passDay_10 : decode cX4_passDay 10 = .ok (.aload_n 0, 1) := by decide +kernel
theorem dX4_passDay_11 : decode cX4_passDay 11 = .ok (.getfield 61, 3) := by decide +kernel
theorem dX4_passDay_14 : decode cX4_passDay 14 = .ok (.istore_n 1, 1) := by decide +kernel
theorem dX4_passDay_15 : decode cX4_passDay 15 = .ok (.iconst 0, 1) := by decide +kernel
theorem dX4_passDay_16 : decode cX4_passDay 16 = .ok (.istore_n 2, 1) := by decide +kernel
theorem dX4_passDay_17 : decode cX4_passDay 17 = .ok (.iconst 0, 1) := by decide +kernel
theorem dX4_passDay_18 : decode cX4_passDay 18 = .ok (.istore_n 3, 1) := by decide +kernel
theorem dX4_passDay_19 : decode cX4_passDay 19 = .ok (.iload_n 3, 1) := by decide +kernel
theorem dX4_passDay_20 : decode cX4_passDay 20 = .ok (.iload_n 1, 1) := by decide +kernel
theorem dX4_passDay_21 : decode cX4_passDay 21 = .ok (.if_icmp .ge 20, 3) := by decide +kernel
theorem dX4_passDay_24 : decode cX4_passDay 24 = .ok (.aload_n 0, 1) := by decide +kernel
theorem dX4_passDay_25 : decode cX4_passDay 25 = .ok (.iload_n 2, 1) := by decide +kernel
theorem dX4_passDay_26 : decode cX4_passDay 26 = .ok (.invokevirtual 179, 3) := by decide +kernel
theorem dX4_passDay_29 : decode cX4_passDay 29 = .ok (.ifCond .ne 6, 3) := by decide +kernel
theorem dX4_passDay_32 : decode cX4_passDay 32 = .ok (.iinc 2 1, 3) := by decide +kernel
theorem dX4_passDay_35 : decode cX4_passDay 35 = .ok (.iinc 3 1, 3) := by decide +kernel
theorem dX4_passDay_38 : decode cX4_passDay 38 = .ok (.goto (-19), 3) := by decide +kernel
theorem dX4_passDay_41 : decode cX4_passDay 41 = .ok (.return_, 1) := by decide +kernel
set_option maxRecDepth 20000 in
theorem ggX4_settle_X4_bookingAt : GoodIn wsX4_settle wsX4_bookingAt := goodIn_r _ [13, 14, 15, 115, 116, 117, 118, 119, 120, 121, 122, 123, 124, 125, 126, 127, 128, 129, 130] (by decide +kernel) (by decide +kernel)
set_option maxRecDepth 20000 in
theorem gX4_settle_X4_bookingAt : GoodIn wsX4_settle (wsV RX4 64 RX4 yX4_bookingAt wsX4_bookingAt) := goodIn_app (goodIn_of _ (by decide +kernel)) ggX4_settle_X4_bookingAt
set_option maxRecDepth 20000 in
theorem ggX4_settle_X4_machineAt : GoodIn wsX4_settle wsX4_machineAt := goodIn_r _ [19, 20, 21, 115, 116, 117, 118, 119, 120, 121, 122, 123, 124, 125, 126, 127, 128, 129, 130] (by decide +kernel) (by decide +kernel)
set_option maxRecDepth 20000 in
theorem gX4_settle_X4_machineAt : GoodIn wsX4_settle (wsV RX4 54 RX4 yX4_machineAt wsX4_machineAt) := goodIn_app (goodIn_of _ (by decide +kernel)) ggX4_settle_X4_machineAt
set_option maxRecDepth 20000 in
theorem ggX4_settle_X4_farmerAt : GoodIn wsX4_settle wsX4_farmerAt := goodIn_r _ [25, 26, 115, 116, 117, 118, 119, 120, 121, 122, 123, 124, 125, 126, 127, 128, 129, 130] (by decide +kernel) (by decide +kernel)
set_option maxRecDepth 20000 in
theorem gX4_settle_X4_farmerAt : GoodIn wsX4_settle (wsV RX4 43 RX4 yX4_farmerAt wsX4_farmerAt) := goodIn_app (goodIn_of _ (by decide +kernel)) ggX4_settle_X4_farmerAt
set_option maxRecDepth 20000 in
theorem ggX4_settle_X4_canWork : GoodIn wsX4_settle wsX4_canWork := goodIn_r _ [30, 31, 2, 32, 33, 34, 35, 36, 12, 37, 38, 39, 40, 41, 42, 43, 44, 45, 46, 47, 48, 49, 50, 137, 138, 139, 140, 141, 142, 143, 144, 115, 116, 117, 118, 119, 120, 121, 122, 123, 124, 125, 126, 127, 128, 129, 130] (by decide +kernel) (by decide +kernel)
set_option maxRecDepth 20000 in
theorem gX4_settle_X4_canWork : GoodIn wsX4_settle (wsV RX4 182 RX4 yX4_canWork wsX4_canWork) := goodIn_app (goodIn_of _ (by decide +kernel)) ggX4_settle_X4_canWork
set_option maxRecDepth 20000 in
theorem ggX4_settle_X4_putOff : GoodIn wsX4_settle wsX4_putOff := goodIn_r _ [54, 55, 56, 3, 2, 5, 1, 57, 58, 59, 12, 60, 14, 9, 10, 11, 13, 15, 61, 62, 63, 64, 65, 66, 67, 109, 110, 111, 112, 113, 114, 115, 116, 117, 118, 119, 120, 121, 122, 123, 124, 125, 126, 127, 128, 129, 130] (by decide +kernel) (by decide +kernel)
set_option maxRecDepth 20000 in
theorem gX4_settle_X4_putOff : GoodIn wsX4_settle (wsV RX4 186 RX4 yX4_putOff wsX4_putOff) := goodIn_app (goodIn_of _ (by decide +kernel)) ggX4_settle_X4_putOff
set_option maxRecDepth 20000 in
theorem ggX4_settle_X4_chargeOf : GoodIn wsX4_settle wsX4_chargeOf := goodIn_r _ [71, 3, 4, 5, 72, 1, 31, 16, 17, 18, 12, 19, 20, 21, 22, 23, 24, 25, 26, 73, 46, 74, 75, 76, 77, 78, 79, 80, 81, 82, 83, 84, 85, 109, 110, 111, 112, 113, 114, 137, 138, 139, 140, 141, 142, 143, 144, 115, 116, 117, 118, 119, 120, 121, 122, 123, 124, 125, 126, 127, 128, 129, 130, 131, 132, 133, 134, 135, 136] (by decide +kernel) (by decide +kernel)
set_option maxRecDepth 20000 in
theorem gX4_settle_X4_chargeOf : GoodIn wsX4_settle (wsV RX4 189 RX4 yX4_chargeOf wsX4_chargeOf) := goodIn_app (goodIn_of _ (by decide +kernel)) ggX4_settle_X4_chargeOf
set_option maxRecDepth 20000 in
theorem ggX4_settle_X1_charge : GoodIn wsX4_settle wsX1_charge := goodIn_r _ [89, 90, 91, 131, 132, 133, 134, 135, 136] (by decide +kernel) (by decide +kernel)
set_option maxRecDepth 20000 in
theorem gX4_settle_X1_charge : GoodIn wsX4_settle (wsV RX4 193 RX1 yX1_charge wsX1_charge) := goodIn_app (goodIn_of _ (by decide +kernel)) ggX4_settle_X1_charge
set_option maxRecDepth 20000 in
theorem ggX4_settle_X3_work : GoodIn wsX4_settle wsX3_work := goodIn_r _ [95, 96, 97, 98, 99, 100, 40, 41, 42, 43, 44, 45, 46, 47, 48, 49, 50, 101, 102, 103, 104, 137, 138, 139, 140, 141, 142, 143, 144] (by decide +kernel) (by decide +kernel)
set_option maxRecDepth 20000 in
theorem gX4_settle_X3_work : GoodIn wsX4_settle (wsV RX4 197 RX3 yX3_work wsX3_work) := goodIn_app (goodIn_of _ (by decide +kernel)) ggX4_settle_X3_work
set_option maxRecDepth 20000 in
theorem ggX4_settle_X4_removeBookingAt : GoodIn wsX4_settle wsX4_removeBookingAt := goodIn_r _ [108, 14, 15, 115, 116, 117, 118, 119, 120, 121, 122, 123, 124, 125, 126, 127, 128, 129, 130] (by decide +kernel) (by decide +kernel)
set_option maxRecDepth 20000 in
theorem gX4_settle_X4_removeBookingAt : GoodIn wsX4_settle (wsV RX4 200 RX4 yX4_removeBookingAt wsX4_removeBookingAt) := goodIn_app (goodIn_of _ (by decide +kernel)) ggX4_settle_X4_removeBookingAt
theorem dX4_settle_0 : decode cX4_settle 0 = .ok (.aload_n 0, 1) := by decide +kernel
theorem dX4_settle_1 : decode cX4_settle 1 = .ok (.iload_n 1, 1) := by decide +kernel
theorem dX4_settle_2 : decode cX4_settle 2 = .ok (.invokevirtual 64, 3) := by decide +kernel
theorem dX4_settle_5 : decode cX4_settle 5 = .ok (.astore_n 2, 1) := by decide +kernel
theorem dX4_settle_6 : decode cX4_settle 6 = .ok (.aload_n 2, 1) := by decide +kernel
theorem dX4_settle_7 : decode cX4_settle 7 = .ok (.ifnull 14, 3) := by decide +kernel
theorem dX4_settle_10 : decode cX4_settle 10 = .ok (.aload_n 2, 1) := by decide +kernel
theorem dX4_settle_11 : decode cX4_settle 11 = .ok (.getfield 151, 3) := by decide +kernel
theorem dX4_settle_14 : decode cX4_settle 14 = .ok (.aload_n 0, 1) := by decide +kernel
theorem dX4_settle_15 : decode cX4_settle 15 = .ok (.getfield 71, 3) := by decide +kernel
theorem dX4_settle_18 : decode cX4_settle 18 = .ok (.if_icmp .eq 5, 3) := by decide +kernel
theorem dX4_settle_21 : decode cX4_settle 21 = .ok (.iconst 0, 1) := by decide +kernel
theorem dX4_settle_22 : decode cX4_settle 22 = .ok (.ireturn, 1) := by decide +kernel
theorem dX4_settle_23 : decode cX4_settle 23 = .ok (.aload_n 0, 1) := by decide +kernel
theorem dX4_settle_24 : decode cX4_settle 24 = .ok (.aload_n 2, 1) := by decide +kernel
theorem dX4_settle_25 : decode cX4_settle 25 = .ok (.getfield 148, 3) := by decide +kernel
theorem dX4_settle_28 : decode cX4_settle 28 = .ok (.invokevirtual 54, 3) := by decide +kernel
theorem dX4_settle_31 : decode cX4_settle 31 = .ok (.astore_n 3, 1) := by decide +kernel
theorem dX4_settle_32 : decode cX4_settle 32 = .ok (.aload_n 0, 1) := by decide +kernel
theorem dX4_settle_33 : decode cX4_settle 33 = .ok (.aload_n 2, 1) := by decide +kernel
theorem dX4_settle_34 : decode cX4_settle 34 = .ok (.getfield 145, 3) := by decide +kernel
theorem dX4_settle_37 : decode cX4_settle 37 = .ok (.invokevirtual 43, 3) := by decide +kernel
theorem dX4_settle_40 : decode cX4_settle 40 = .ok (.astore 4, 2) := by decide +kernel
theorem dX4_settle_42 : decode cX4_settle 42 = .ok (.aload_n 3, 1) := by decide +kernel
theorem dX4_settle_43 : decode cX4_settle 43 = .ok (.ifnull 8, 3) := by decide +kernel
theorem dX4_settle_46 : decode cX4_settle 46 = .ok (.aload 4, 2) := by decide +kernel
theorem dX4_settle_48 : decode cX4_settle 48 = .ok (.ifnonnull 5, 3) := by decide +kernel
theorem dX4_settle_51 : decode cX4_settle 51 = .ok (.iconst 0, 1) := by decide +kernel
theorem dX4_settle_52 : decode cX4_settle 52 = .ok (.ireturn, 1) := by decide +kernel
theorem dX4_settle_53 : decode cX4_settle 53 = .ok (.aload_n 0, 1) := by decide +kernel
theorem dX4_settle_54 : decode cX4_settle 54 = .ok (.aload_n 3, 1) := by decide +kernel
theorem dX4_settle_55 : decode cX4_settle 55 = .ok (.aload_n 2, 1) := by decide +kernel
theorem dX4_settle_56 : decode cX4_settle 56 = .ok (.getfield 152, 3) := by decide +kernel
theorem dX4_settle_59 : decode cX4_settle 59 = .ok (.invokevirtual 182, 3) := by decide +kernel
theorem dX4_settle_62 : decode cX4_settle 62 = .ok (.ifCond .ne 10, 3) := by decide +kernel
theorem dX4_settle_65 : decode cX4_settle 65 = .ok (.aload_n 0, 1) := by decide +kernel
theorem dX4_settle_66 : decode cX4_settle 66 = .ok (.aload_n 2, 1) := by decide +kernel
theorem dX4_settle_67 : decode cX4_settle 67 = .ok (.invokevirtual 186, 3) := by decide +kernel
theorem dX4_settle_70 : decode cX4_settle 70 = .ok (.iconst 0, 1) := by decide +kernel
theorem dX4_settle_71 : decode cX4_settle 71 = .ok (.ireturn, 1) := by decide +kernel
theorem dX4_settle_72 : decode cX4_settle 72 = .ok (.aload 4, 2) := by decide +kernel
theorem dX4_settle_74 : decode cX4_settle 74 = .ok (.aload_n 0, 1) := by decide +kernel
theorem dX4_settle_75 : decode cX4_settle 75 = .ok (.aload_n 2, 1) := by decide +kernel
theorem dX4_settle_76 : decode cX4_settle 76 = .ok (.invokevirtual 189, 3) := by decide +kernel
theorem dX4_settle_79 : decode cX4_settle 79 = .ok (.invokevirtual 193, 3) := by decide +kernel
theorem dX4_settle_82 : decode cX4_settle 82 = .ok (.aload 4, 2) := by decide +kernel
theorem dX4_settle_84 : decode cX4_settle 84 = .ok (.dup, 1) := by decide +kernel
theorem dX4_settle_85 : decode cX4_settle 85 = .ok (.getfield 196, 3) := by decide +kernel
theorem dX4_settle_88 : decode cX4_settle 88 = .ok (.aload_n 2, 1) := by decide +kernel
theorem dX4_settle_89 : decode cX4_settle 89 = .ok (.getfield 152, 3) := by decide +kernel
theorem dX4_settle_92 : decode cX4_settle 92 = .ok (.iadd, 1) := by decide +kernel
theorem dX4_settle_93 : decode cX4_settle 93 = .ok (.putfield 196, 3) := by decide +kernel
theorem dX4_settle_96 : decode cX4_settle 96 = .ok (.aload_n 3, 1) := by decide +kernel
theorem dX4_settle_97 : decode cX4_settle 97 = .ok (.aload_n 2, 1) := by decide +kernel
theorem dX4_settle_98 : decode cX4_settle 98 = .ok (.getfield 145, 3) := by decide +kernel
theorem dX4_settle_101 : decode cX4_settle 101 = .ok (.aload_n 2, 1) := by decide +kernel
theorem dX4_settle_102 : decode cX4_settle 102 = .ok (.getfield 152, 3) := by decide +kernel
theorem dX4_settle_105 : decode cX4_settle 105 = .ok (.aload_n 0, 1) := by decide +kernel
theorem dX4_settle_106 : decode cX4_settle 106 = .ok (.getfield 32, 3) := by decide +kernel
theorem dX4_settle_109 : decode cX4_settle 109 = .ok (.invokevirtual 197, 3) := by decide +kernel
theorem dX4_settle_112 : decode cX4_settle 112 = .ok (.aload_n 0, 1) := by decide +kernel
theorem dX4_settle_113 : decode cX4_settle 113 = .ok (.dup, 1) := by decide +kernel
theorem dX4_settle_114 : decode cX4_settle 114 = .ok (.getfield 77, 3) := by decide +kernel
theorem dX4_settle_117 : decode cX4_settle 117 = .ok (.iconst 1, 1) := by decide +kernel
theorem dX4_settle_118 : decode cX4_settle 118 = .ok (.iadd, 1) := by decide +kernel
theorem dX4_settle_119 : decode cX4_settle 119 = .ok (.putfield 77, 3) := by decide +kernel
theorem dX4_settle_122 : decode cX4_settle 122 = .ok (.aload_n 0, 1) := by decide +kernel
theorem dX4_settle_123 : decode cX4_settle 123 = .ok (.iload_n 1, 1) := by decide +kernel
theorem dX4_settle_124 : decode cX4_settle 124 = .ok (.invokevirtual 200, 3) := by decide +kernel
theorem dX4_settle_127 : decode cX4_settle 127 = .ok (.iconst 1, 1) := by decide +kernel
theorem dX4_settle_128 : decode cX4_settle 128 = .ok (.ireturn, 1) := by decide +kernel
set_option maxRecDepth 20000 in
theorem ggX4_canWork_X4_isWet : GoodIn wsX4_canWork wsX4_isWet := goodIn_r _ [9, 10, 31, 32, 33, 34, 35, 36, 37, 38, 39, 40, 41, 42, 43, 44, 45, 46] (by decide +kernel) (by decide +kernel)
set_option maxRecDepth 20000 in
theorem gX4_canWork_X4_isWet : GoodIn wsX4_canWork (wsV RX4 203 RX4 yX4_isWet wsX4_isWet) := goodIn_app (goodIn_of _ (by decide +kernel)) ggX4_canWork_X4_isWet
set_option maxRecDepth 20000 in
theorem ggX4_canWork_X3_fuelFor : GoodIn wsX4_canWork wsX3_fuelFor := goodIn_r _ [15, 16, 17, 18, 19, 20, 21, 22, 23, 24, 25, 26, 27, 28, 29, 30] (by decide +kernel) (by decide +kernel)
set_option maxRecDepth 20000 in
theorem gX4_canWork_X3_fuelFor : GoodIn wsX4_canWork (wsV RX4 210 RX3 yX3_fuelFor wsX3_fuelFor) := goodIn_app (goodIn_of _ (by decide +kernel)) ggX4_canWork_X3_fuelFor
theorem dX4_canWork_0 : decode cX4_canWork 0 = .ok (.aload_n 1, 1) := by decide +kernel
theorem dX4_canWork_1 : decode cX4_canWork 1 = .ok (.getfield 101, 3) := by decide +kernel
theorem dX4_canWork_4 : decode cX4_canWork 4 = .ok (.ifCond .eq 18, 3) := by decide +kernel
theorem dX4_canWork_7 : decode cX4_canWork 7 = .ok (.aload_n 0, 1) := by decide +kernel
theorem dX4_canWork_8 : decode cX4_canWork 8 = .ok (.aload_n 0, 1) := by decide +kernel
theorem dX4_canWork_9 : decode cX4_canWork 9 = .ok (.getfield 71, 3) := by decide +kernel
theorem dX4_canWork_12 : decode cX4_canWork 12 = .ok (.invokevirtual 203, 3) := by decide +kernel
theorem dX4_canWork_15 : decode cX4_canWork 15 = .ok (.ifCond .eq 7, 3) := by decide +kernel
theorem dX4_canWork_18 : decode cX4_canWork 18 = .ok (.iconst 1, 1) := by decide +kernel
theorem dX4_canWork_19 : decode cX4_canWork 19 = .ok (.goto 4, 3) := by decide +kernel
theorem dX4_canWork_22 : decode cX4_canWork 22 = .ok (.iconst 0, 1) := by decide +kernel
theorem dX4_canWork_23 : decode cX4_canWork 23 = .ok (.istore_n 3, 1) := by decide +kernel
theorem dX4_canWork_24 : decode cX4_canWork 24 = .ok (.iload_n 3, 1) := by decide +kernel
theorem dX4_canWork_25 : decode cX4_canWork 25 = .ok (.ifCond .ne 27, 3) := by decide +kernel
theorem dX4_canWork_28 : decode cX4_canWork 28 = .ok (.aload_n 1, 1) := by decide +kernel
theorem dX4_canWork_29 : decode cX4_canWork 29 = .ok (.getfield 127, 3) := by decide +kernel
theorem dX4_canWork_32 : decode cX4_canWork 32 = .ok (.ifCond .ne 20, 3) := by decide +kernel
theorem dX4_canWork_35 : decode cX4_canWork 35 = .ok (.aload_n 1, 1) := by decide +kernel
theorem dX4_canWork_36 : decode cX4_canWork 36 = .ok (.getfield 206, 3) := by decide +kernel
theorem dX4_canWork_39 : decode cX4_canWork 39 = .ok (.aload_n 1, 1) := by decide +kernel
theorem dX4_canWork_40 : decode cX4_canWork 40 = .ok (.iload_n 2, 1) := by decide +kernel
theorem dX4_canWork_41 : decode cX4_canWork 41 = .ok (.invokevirtual 210, 3) := by decide +kernel
theorem dX4_canWork_44 : decode cX4_canWork 44 = .ok (.fcmp .l, 1) := by decide +kernel
theorem dX4_canWork_45 : decode cX4_canWork 45 = .ok (.ifCond .lt 7, 3) := by decide +kernel
theorem dX4_canWork_48 : decode cX4_canWork 48 = .ok (.iconst 1, 1) := by decide +kernel
theorem dX4_canWork_49 : decode cX4_canWork 49 = .ok (.goto 4, 3) := by decide +kernel
theorem dX4_canWork_52 : decode cX4_canWork 52 = .ok (.iconst 0, 1) := by decide +kernel
theorem dX4_canWork_53 : decode cX4_canWork 53 = .ok (.ireturn, 1) := by decide +kernel
set_option maxRecDepth 20000 in
theorem ggX4_putOff_X4_hoursOn : GoodIn wsX4_putOff wsX4_hoursOn := goodIn_r _ [11, 12, 5, 13, 14, 15, 10, 16, 17, 18, 19, 20, 21, 22, 23, 24, 31, 32, 33, 34, 35, 36, 37, 38, 39, 40, 41, 42, 43, 44, 45, 46, 25, 26, 27, 28, 29, 30] (by decide +kernel) (by decide +kernel)
set_option maxRecDepth 20000 in
theorem gX4_putOff_X4_hoursOn : GoodIn wsX4_putOff (wsV RX4 140 RX4 yX4_hoursOn wsX4_hoursOn) := goodIn_app (goodIn_of _ (by decide +kernel)) ggX4_putOff_X4_hoursOn
theorem dX4_putOff_0 : decode cX4_putOff 0 = .ok (.aload_n 1, 1) := by decide +kernel
theorem dX4_putOff_1 : decode cX4_putOff 1 = .ok (.dup, 1) := by decide +kernel
theorem dX4_putOff_2 : decode cX4_putOff 2 = .ok (.getfield 155, 3) := by decide +kernel
theorem dX4_putOff_5 : decode cX4_putOff 5 = .ok (.iconst 1, 1) := by decide +kernel
theorem dX4_putOff_6 : decode cX4_putOff 6 = .ok (.iadd, 1) := by decide +kernel
theorem dX4_putOff_7 : decode cX4_putOff 7 = .ok (.putfield 155, 3) := by decide +kernel
theorem dX4_putOff_10 : decode cX4_putOff 10 = .ok (.aload_n 0, 1) := by decide +kernel
theorem dX4_putOff_11 : decode cX4_putOff 11 = .ok (.dup, 1) := by decide +kernel
theorem dX4_putOff_12 : decode cX4_putOff 12 = .ok (.getfield 80, 3) := by decide +kernel
theorem dX4_putOff_15 : decode cX4_putOff 15 = .ok (.iconst 1, 1) := by decide +kernel
theorem dX4_putOff_16 : decode cX4_putOff 16 = .ok (.iadd, 1) := by decide +kernel
theorem dX4_putOff_17 : decode cX4_putOff 17 = .ok (.putfield 80, 3) := by decide +kernel
theorem dX4_putOff_20 : decode cX4_putOff 20 = .ok (.iconst 1, 1) := by decide +kernel
theorem dX4_putOff_21 : decode cX4_putOff 21 = .ok (.istore_n 2, 1) := by decide +kernel
theorem dX4_putOff_22 : decode cX4_putOff 22 = .ok (.iload_n 2, 1) := by decide +kernel
theorem dX4_putOff_23 : decode cX4_putOff 23 = .ok (.bipush 30, 2) := by decide +kernel
theorem dX4_putOff_25 : decode cX4_putOff 25 = .ok (.if_icmp .gt 44, 3) := by decide +kernel
theorem dX4_putOff_28 : decode cX4_putOff 28 = .ok (.aload_n 0, 1) := by decide +kernel
theorem dX4_putOff_29 : decode cX4_putOff 29 = .ok (.aload_n 1, 1) := by decide +kernel
theorem dX4_putOff_30 : decode cX4_putOff 30 = .ok (.getfield 148, 3) := by decide +kernel
theorem dX4_putOff_33 : decode cX4_putOff 33 = .ok (.aload_n 0, 1) := by decide +kernel
theorem dX4_putOff_34 : decode cX4_putOff 34 = .ok (.getfield 71, 3) := by decide +kernel
theorem dX4_putOff_37 : decode cX4_putOff 37 = .ok (.iload_n 2, 1) := by decide +kernel
theorem dX4_putOff_38 : decode cX4_putOff 38 = .ok (.iadd, 1) := by decide +kernel
theorem dX4_putOff_39 : decode cX4_putOff 39 = .ok (.invokevirtual 140, 3) := by decide +kernel
theorem dX4_putOff_42 : decode cX4_putOff 42 = .ok (.aload_n 1, 1) := by decide +kernel
theorem dX4_putOff_43 : decode cX4_putOff 43 = .ok (.getfield 152, 3) := by decide +kernel
theorem dX4_putOff_46 : decode cX4_putOff 46 = .ok (.iadd, 1) := by decide +kernel
theorem dX4_putOff_47 : decode cX4_putOff 47 = .ok (.bipush 12, 2) := by decide +kernel
theorem dX4_putOff_49 : decode cX4_putOff 49 = .ok (.if_icmp .gt 14, 3) := by decide +kernel
theorem dX4_putOff_52 : decode cX4_putOff 52 = .ok (.aload_n 1, 1) := by decide +kernel
theorem dX4_putOff_53 : decode cX4_putOff 53 = .ok (.aload_n 0, 1) := by decide +kernel
theorem dX4_putOff_54 : decode cX4_putOff 54 = .ok (.getfield 71, 3) := by decide +kernel
theorem dX4_putOff_57 : decode cX4_putOff 57 = .ok (.iload_n 2, 1) := by decide +kernel
theorem dX4_putOff_58 : decode cX4_putOff 58 = .ok (.iadd, 1) := by decide +kernel
theorem dX4_putOff_59 : decode cX4_putOff 59 = .ok (.putfield 151, 3) := by decide +kernel
theorem dX4_putOff_62 : decode cX4_putOff 62 = .ok (.return_, 1) := by decide +kernel
theorem dX4_putOff_63 : decode cX4_putOff 63 = .ok (.iinc 2 1, 3) := by decide +kernel
theorem dX4_putOff_66 : decode cX4_putOff 66 = .ok (.goto (-44), 3) := by decide +kernel
theorem dX4_putOff_69 : decode cX4_putOff 69 = .ok (.return_, 1) := by decide +kernel
theorem dX5_init_0 : decode cX5_init 0 = .ok (.aload_n 0, 1) := by decide +kernel
theorem dX5_init_1 : decode cX5_init 1 = .ok (.invokespecial 3, 3) := by decide +kernel
theorem dX5_init_4 : decode cX5_init 4 = .ok (.aload_n 0, 1) := by decide +kernel
theorem dX5_init_5 : decode cX5_init 5 = .ok (.bipush 60, 2) := by decide +kernel
theorem dX5_init_7 : decode cX5_init 7 = .ok (.newarray .char, 2) := by decide +kernel
theorem dX5_init_9 : decode cX5_init 9 = .ok (.putfield 9, 3) := by decide +kernel
theorem dX5_init_12 : decode cX5_init 12 = .ok (.return_, 1) := by decide +kernel
set_option maxRecDepth 20000 in
theorem ggX6_init_X4_init : GoodIn wsX6_init wsX4_init := goodIn_r _ [20, 21, 2, 3, 22, 23, 24, 25, 26, 27, 28, 29, 30, 31, 32, 33, 34, 35, 36, 37, 38, 39, 40, 41, 42, 43, 44, 45, 46, 47, 48, 49, 63, 64, 65, 66, 67, 68, 69, 70, 71, 72, 73, 74, 75, 76, 77, 78, 94, 95, 96, 97, 98, 99, 100, 101, 102, 103, 104, 105, 106, 107, 108, 109, 110, 111, 112, 113] (by decide +kernel) (by decide +kernel)
set_option maxRecDepth 20000 in
theorem gX6_init_X4_init : GoodIn wsX6_init (wsX4_init) := ggX6_init_X4_init
set_option maxRecDepth 20000 in
theorem ggX6_init_X2_init : GoodIn wsX6_init wsX2_init := goodIn_r _ [52, 53, 2, 3, 54, 55, 5, 6, 56, 19, 20, 21, 22, 23, 24, 25, 26, 27, 28, 29, 30, 31, 32, 33, 34, 35, 36, 37, 38, 39, 40, 41, 42, 43, 44, 45, 46, 47, 48, 49, 85, 86, 63, 64, 65, 66, 67, 68, 69, 70, 71, 72, 73, 74, 75, 76, 77, 78, 94, 95, 96, 97, 98, 99, 100, 101, 102, 103, 104, 105, 106, 107, 108, 109, 110, 111, 112, 113] (by decide +kernel) (by decide +kernel)
set_option maxRecDepth 20000 in
theorem gX6_init_X2_init : GoodIn wsX6_init (wsX2_init) := ggX6_init_X2_init
set_option maxRecDepth 20000 in
theorem ggX6_init_X5_init : GoodIn wsX6_init wsX5_init := goodIn_r _ [59, 60, 2, 3, 61, 62, 87, 88, 89, 90, 91, 92, 93] (by decide +kernel) (by decide +kernel)
set_option maxRecDepth 20000 in
theorem gX6_init_X5_init : GoodIn wsX6_init (wsX5_init) := ggX6_init_X5_init
theorem dX6_init_0 : decode cX6_init 0 = .ok (.aload_n 0, 1) := by decide +kernel
theorem dX6_init_1 : decode cX6_init 1 = .ok (.invokespecial 1, 3) := by decide +kernel
theorem dX6_init_4 : decode cX6_init 4 = .ok (.aload_n 0, 1) := by decide +kernel
theorem dX6_init_5 : decode cX6_init 5 = .ok (.new 7, 3) := by decide +kernel
theorem dX6_init_8 : decode cX6_init 8 = .ok (.dup, 1) := by decide +kernel
theorem dX6_init_9 : decode cX6_init 9 = .ok (.invokespecial 9, 3) := by decide +kernel
theorem dX6_init_12 : decode cX6_init 12 = .ok (.putfield 10, 3) := by decide +kernel
theorem dX6_init_15 : decode cX6_init 15 = .ok (.aload_n 0, 1) := by decide +kernel
theorem dX6_init_16 : decode cX6_init 16 = .ok (.new 7, 3) := by decide +kernel
theorem dX6_init_19 : decode cX6_init 19 = .ok (.dup, 1) := by decide +kernel
theorem dX6_init_20 : decode cX6_init 20 = .ok (.invokespecial 9, 3) := by decide +kernel
theorem dX6_init_23 : decode cX6_init 23 = .ok (.putfield 16, 3) := by decide +kernel
theorem dX6_init_26 : decode cX6_init 26 = .ok (.aload_n 0, 1) := by decide +kernel
theorem dX6_init_27 : decode cX6_init 27 = .ok (.new 7, 3) := by decide +kernel
theorem dX6_init_30 : decode cX6_init 30 = .ok (.dup, 1) := by decide +kernel
theorem dX6_init_31 : decode cX6_init 31 = .ok (.invokespecial 9, 3) := by decide +kernel
theorem dX6_init_34 : decode cX6_init 34 = .ok (.putfield 19, 3) := by decide +kernel
theorem dX6_init_37 : decode cX6_init 37 = .ok (.aload_n 0, 1) := by decide +kernel
theorem dX6_init_38 : decode cX6_init 38 = .ok (.new 22, 3) := by decide +kernel
theorem dX6_init_41 : decode cX6_init 41 = .ok (.dup, 1) := by decide +kernel
theorem dX6_init_42 : decode cX6_init 42 = .ok (.invokespecial 24, 3) := by decide +kernel
theorem dX6_init_45 : decode cX6_init 45 = .ok (.putfield 25, 3) := by decide +kernel
theorem dX6_init_48 : decode cX6_init 48 = .ok (.aload_n 0, 1) := by decide +kernel
theorem dX6_init_49 : decode cX6_init 49 = .ok (.new 29, 3) := by decide +kernel
theorem dX6_init_52 : decode cX6_init 52 = .ok (.dup, 1) := by decide +kernel
theorem dX6_init_53 : decode cX6_init 53 = .ok (.invokespecial 31, 3) := by decide +kernel
theorem dX6_init_56 : decode cX6_init 56 = .ok (.putfield 32, 3) := by decide +kernel
theorem dX6_init_59 : decode cX6_init 59 = .ok (.return_, 1) := by decide +kernel
set_option maxRecDepth 20000 in
theorem ggX6_buy_X6_outside : GoodIn wsX6_buy wsX6_outside := goodIn_r _ [10] (by decide +kernel) (by decide +kernel)
set_option maxRecDepth 20000 in
theorem gX6_buy_X6_outside : GoodIn wsX6_buy (va_wsS RX6 36 yX6_outside wsX6_outside) := goodIn_app (goodIn_of _ (by decide +kernel)) ggX6_buy_X6_outside
set_option maxRecDepth 20000 in
theorem ggX6_buy_X4_machinesIn : GoodIn wsX6_buy wsX4_machinesIn := goodIn_r _ [15, 16, 17, 18, 19, 20, 14, 21, 22, 127, 128, 129, 130, 131, 132, 133, 134, 135, 136, 137, 138, 139, 140, 141, 142, 143, 144, 145, 146, 147, 148, 149, 150] (by decide +kernel) (by decide +kernel)
set_option maxRecDepth 20000 in
theorem gX6_buy_X4_machinesIn : GoodIn wsX6_buy (wsV RX6 42 RX4 yX4_machinesIn wsX4_machinesIn) := goodIn_app (goodIn_of _ (by decide +kernel)) ggX6_buy_X4_machinesIn
set_option maxRecDepth 20000 in
theorem ggX6_buy_X2_push : GoodIn wsX6_buy wsX2_push := goodIn_r _ [27, 28, 29, 30, 31, 32, 26, 33, 34, 35, 36, 37, 38, 39, 40, 14, 41, 16, 42, 43, 44, 45, 46, 47, 48, 49, 50, 51, 52, 53, 54, 55, 56, 57, 58, 59, 60, 61, 62, 63, 64, 65, 66, 67, 68, 69, 70, 71, 72, 73, 18, 19, 20, 21, 22, 74, 75, 76, 77, 78, 79, 80, 81, 82, 83, 84, 85, 86, 87, 88, 89, 90, 91, 92, 93, 94, 95, 96, 97, 98, 99, 100, 101, 102, 103, 104, 105, 106, 151, 152, 127, 128, 129, 130, 131, 132, 133, 134, 135, 136, 137, 138, 139, 140, 141, 142, 153, 154, 155, 156, 157, 158, 143, 144, 145, 146, 147, 148, 149, 150, 159, 160, 161, 162, 163, 164] (by decide +kernel) (by decide +kernel)
set_option maxRecDepth 20000 in
theorem gX6_buy_X2_push : GoodIn wsX6_buy (wsV RX6 48 RX2 yX2_push wsX2_push) := goodIn_app (goodIn_of _ (by decide +kernel)) ggX6_buy_X2_push
set_option maxRecDepth 20000 in
theorem ggX6_buy_X4_addMachine : GoodIn wsX6_buy wsX4_addMachine := goodIn_r _ [110, 16, 111, 112, 12, 13, 14, 15, 17, 18, 19, 20, 21, 22, 113, 114, 115, 77, 116, 79, 80, 81, 82, 83, 84, 85, 117, 118, 119, 120, 86, 127, 128, 129, 130, 131, 132, 133, 134, 135, 136, 137, 138, 139, 140, 141, 142, 143, 144, 145, 146, 147, 148, 149, 150] (by decide +kernel) (by decide +kernel)
set_option maxRecDepth 20000 in
theorem gX6_buy_X4_addMachine : GoodIn wsX6_buy (wsV RX6 52 RX4 yX4_addMachine wsX4_addMachine) := goodIn_app (goodIn_of _ (by decide +kernel)) ggX6_buy_X4_addMachine
theorem dX6_buy_0 : decode cX6_buy 0 = .ok (.iload_n 2, 1) := by decide +kernel
theorem dX6_buy_1 : decode cX6_buy 1 = .ok (.iconst 0, 1) := by decide +kernel
theorem dX6_buy_2 : decode cX6_buy 2 = .ok (.iconst 2, 1) := by decide +kernel
theorem dX6_buy_3 : decode cX6_buy 3 = .ok (.invokestatic 36, 3) := by decide +kernel
theorem dX6_buy_6 : decode cX6_buy 6 = .ok (.ifCond .eq 6, 3) := by decide +kernel
theorem dX6_buy_9 : decode cX6_buy 9 = .ok (.ldc 40, 2) := by decide +kernel
theorem dX6_buy_11 : decode cX6_buy 11 = .ok (.ireturn, 1) := by decide +kernel
theorem dX6_buy_12 : decode cX6_buy 12 = .ok (.iload_n 1, 1) := by decide +kernel
theorem dX6_buy_13 : decode cX6_buy 13 = .ok (.iconst 0, 1) := by decide +kernel
theorem dX6_buy_14 : decode cX6_buy 14 = .ok (.iconst 2, 1) := by decide +kernel
theorem dX6_buy_15 : decode cX6_buy 15 = .ok (.invokestatic 36, 3) := by decide +kernel
theorem dX6_buy_18 : decode cX6_buy 18 = .ok (.ifCond .ne 13, 3) := by decide +kernel
theorem dX6_buy_21 : decode cX6_buy 21 = .ok (.iload_n 3, 1) := by decide +kernel
theorem dX6_buy_22 : decode cX6_buy 22 = .ok (.iconst 1, 1) := by decide +kernel
theorem dX6_buy_23 : decode cX6_buy 23 = .ok (.bipush 99, 2) := by decide +kernel
theorem dX6_buy_25 : decode cX6_buy 25 = .ok (.invokestatic 36, 3) := by decide +kernel
theorem dX6_buy_28 : decode cX6_buy 28 = .ok (.ifCond .eq 6, 3) := by decide +kernel
theorem dX6_buy_31 : decode cX6_buy 31 = .ok (.ldc 41, 2) := by decide +kernel
theorem dX6_buy_33 : decode cX6_buy 33 = .ok (.ireturn, 1) := by decide +kernel
theorem dX6_buy_34 : decode cX6_buy 34 = .ok (.aload_n 0, 1) := by decide +kernel
theorem dX6_buy_35 : decode cX6_buy 35 = .ok (.getfield 10, 3) := by decide +kernel
theorem dX6_buy_38 : decode cX6_buy 38 = .ok (.iload_n 2, 1) := by decide +kernel
theorem dX6_buy_39 : decode cX6_buy 39 = .ok (.invokevirtual 42, 3) := by decide +kernel
theorem dX6_buy_42 : decode cX6_buy 42 = .ok (.iconst 2, 1) := by decide +kernel
theorem dX6_buy_43 : decode cX6_buy 43 = .ok (.if_icmp .lt 6, 3) := by decide +kernel
theorem dX6_buy_46 : decode cX6_buy 46 = .ok (.ldc 46, 2) := by decide +kernel
theorem dX6_buy_48 : decode cX6_buy 48 = .ok (.ireturn, 1) := by decide +kernel
theorem dX6_buy_49 : decode cX6_buy 49 = .ok (.iload_n 1, 1) := by decide +kernel
theorem dX6_buy_50 : decode cX6_buy 50 = .ok (.iload_n 2, 1) := by decide +kernel
theorem dX6_buy_51 : decode cX6_buy 51 = .ok (.if_icmp .eq 6, 3) := by decide +kernel
theorem dX6_buy_54 : decode cX6_buy 54 = .ok (.ldc 47, 2) := by decide +kernel
theorem dX6_buy_56 : decode cX6_buy 56 = .ok (.ireturn, 1) := by decide +kernel
theorem dX6_buy_57 : decode cX6_buy 57 = .ok (.aload_n 0, 1) := by decide +kernel
theorem dX6_buy_58 : decode cX6_buy 58 = .ok (.getfield 25, 3) := by decide +kernel
theorem dX6_buy_61 : decode cX6_buy 61 = .ok (.aload_n 0, 1) := by decide +kernel
theorem dX6_buy_62 : decode cX6_buy 62 = .ok (.getfield 10, 3) := by decide +kernel
theorem dX6_buy_65 : decode cX6_buy 65 = .ok (.invokevirtual 48, 3) := by decide +kernel
theorem dX6_buy_68 : decode cX6_buy 68 = .ok (.aload_n 0, 1) := by decide +kernel
theorem dX6_buy_69 : decode cX6_buy 69 = .ok (.getfield 10, 3) := by decide +kernel
theorem dX6_buy_72 : decode cX6_buy 72 = .ok (.iload_n 1, 1) := by decide +kernel
theorem dX6_buy_73 : decode cX6_buy 73 = .ok (.iload_n 3, 1) := by decide +kernel
theorem dX6_buy_74 : decode cX6_buy 74 = .ok (.invokevirtual 52, 3) := by decide +kernel
theorem dX6_buy_77 : decode cX6_buy 77 = .ok (.ireturn, 1) := by decide +kernel
set_option maxRecDepth 20000 in
theorem ggX6_license_X4_farmerAt : GoodIn wsX6_license wsX4_farmerAt := goodIn_r _ [11, 12, 115, 116, 117, 118, 119, 120, 121, 122, 123, 124, 125, 126, 127, 128, 129, 130] (by decide +kernel) (by decide +kernel)
set_option maxRecDepth 20000 in
theorem gX6_license_X4_farmerAt : GoodIn wsX6_license (wsV RX6 56 RX4 yX4_farmerAt wsX4_farmerAt) := goodIn_app (goodIn_of _ (by decide +kernel)) ggX6_license_X4_farmerAt
set_option maxRecDepth 20000 in
theorem ggX6_license_X6_outside : GoodIn wsX6_license wsX6_outside := goodIn_r _ [16] (by decide +kernel) (by decide +kernel)
set_option maxRecDepth 20000 in
theorem gX6_license_X6_outside : GoodIn wsX6_license (va_wsS RX6 36 yX6_outside wsX6_outside) := goodIn_app (goodIn_of _ (by decide +kernel)) ggX6_license_X6_outside
set_option maxRecDepth 20000 in
theorem ggX6_license_X2_push : GoodIn wsX6_license wsX2_push := goodIn_r _ [21, 22, 23, 24, 25, 26, 20, 27, 28, 29, 30, 31, 32, 33, 34, 10, 35, 36, 37, 38, 39, 40, 41, 42, 43, 44, 45, 46, 47, 48, 49, 50, 51, 52, 53, 8, 9, 11, 12, 54, 55, 56, 57, 58, 59, 60, 61, 62, 63, 64, 65, 66, 67, 68, 69, 70, 71, 72, 73, 74, 75, 76, 77, 78, 79, 80, 81, 82, 83, 84, 85, 86, 87, 88, 89, 90, 91, 92, 93, 94, 95, 96, 97, 98, 99, 100, 101, 102, 131, 132, 115, 116, 117, 118, 119, 120, 121, 122, 123, 124, 125, 126, 127, 128, 129, 130, 109, 110, 111, 112, 113, 114, 133, 134, 135, 136, 137, 138, 139, 140, 141, 142, 143, 144, 145, 146] (by decide +kernel) (by decide +kernel)
set_option maxRecDepth 20000 in
theorem gX6_license_X2_push : GoodIn wsX6_license (wsV RX6 48 RX2 yX2_push wsX2_push) := goodIn_app (goodIn_of _ (by decide +kernel)) ggX6_license_X2_push
theorem dX6_license_0 : decode cX6_license 0 = .ok (.aload_n 0, 1) := by decide +kernel
theorem dX6_license_1 : decode cX6_license 1 = .ok (.getfield 10, 3) := by decide +kernel
theorem dX6_license_4 : decode cX6_license 4 = .ok (.iload_n 1, 1) := by decide +kernel
theorem dX6_license_5 : decode cX6_license 5 = .ok (.invokevirtual 56, 3) := by decide +kernel
theorem dX6_license_8 : decode cX6_license 8 = .ok (.astore_n 3, 1) := by decide +kernel
theorem dX6_license_9 : decode cX6_license 9 = .ok (.aload_n 3, 1) := by decide +kernel
theorem dX6_license_10 : decode cX6_license 10 = .ok (.ifnonnull 6, 3) := by decide +kernel
theorem dX6_license_13 : decode cX6_license 13 = .ok (.ldc 40, 2) := by decide +kernel
theorem dX6_license_15 : decode cX6_license 15 = .ok (.ireturn, 1) := by decide +kernel
theorem dX6_license_16 : decode cX6_license 16 = .ok (.iload_n 2, 1) := by decide +kernel
theorem dX6_license_17 : decode cX6_license 17 = .ok (.iconst 0, 1) := by decide +kernel
theorem dX6_license_18 : decode cX6_license 18 = .ok (.bipush 7, 2) := by decide +kernel
theorem dX6_license_20 : decode cX6_license 20 = .ok (.invokestatic 36, 3) := by decide +kernel
theorem dX6_license_23 : decode cX6_license 23 = .ok (.ifCond .eq 6, 3) := by decide +kernel
theorem dX6_license_26 : decode cX6_license 26 = .ok (.ldc 41, 2) := by decide +kernel
theorem dX6_license_28 : decode cX6_license 28 = .ok (.ireturn, 1) := by decide +kernel
theorem dX6_license_29 : decode cX6_license 29 = .ok (.aload_n 3, 1) := by decide +kernel
theorem dX6_license_30 : decode cX6_license 30 = .ok (.getfield 60, 3) := by decide +kernel
theorem dX6_license_33 : decode cX6_license 33 = .ok (.istore 4, 2) := by decide +kernel
theorem dX6_license_35 : decode cX6_license 35 = .ok (.iload_n 2, 1) := by decide +kernel
theorem dX6_license_36 : decode cX6_license 36 = .ok (.iload 4, 2) := by decide +kernel
theorem dX6_license_38 : decode cX6_license 38 = .ok (.if_icmp .ne 6, 3) := by decide +kernel
theorem dX6_license_41 : decode cX6_license 41 = .ok (.ldc 66, 2) := by decide +kernel
theorem dX6_license_43 : decode cX6_license 43 = .ok (.ireturn, 1) := by decide +kernel
theorem dX6_license_44 : decode cX6_license 44 = .ok (.aload_n 0, 1) := by decide +kernel
theorem dX6_license_45 : decode cX6_license 45 = .ok (.getfield 25, 3) := by decide +kernel
theorem dX6_license_48 : decode cX6_license 48 = .ok (.aload_n 0, 1) := by decide +kernel
theorem dX6_license_49 : decode cX6_license 49 = .ok (.getfield 10, 3) := by decide +kernel
theorem dX6_license_52 : decode cX6_license 52 = .ok (.invokevirtual 48, 3) := by decide +kernel
theorem dX6_license_55 : decode cX6_license 55 = .ok (.aload_n 3, 1) := by decide +kernel
theorem dX6_license_56 : decode cX6_license 56 = .ok (.iload_n 2, 1) := by decide +kernel
theorem dX6_license_57 : decode cX6_license 57 = .ok (.putfield 60, 3) := by decide +kernel
theorem dX6_license_60 : decode cX6_license 60 = .ok (.iload 4, 2) := by decide +kernel
theorem dX6_license_62 : decode cX6_license 62 = .ok (.ireturn, 1) := by decide +kernel
set_option maxRecDepth 20000 in
theorem ggX6_setRate_X4_machineAt : GoodIn wsX6_setRate wsX4_machineAt := goodIn_r _ [11, 12, 13, 117, 118, 119, 120, 121, 122, 123, 124, 125, 126, 127, 128, 129, 130, 131, 132] (by decide +kernel) (by decide +kernel)
set_option maxRecDepth 20000 in
theorem gX6_setRate_X4_machineAt : GoodIn wsX6_setRate (wsV RX6 67 RX4 yX4_machineAt wsX4_machineAt) := goodIn_app (goodIn_of _ (by decide +kernel)) ggX6_setRate_X4_machineAt
set_option maxRecDepth 20000 in
theorem ggX6_setRate_X6_outside : GoodIn wsX6_setRate wsX6_outside := goodIn_r _ [17] (by decide +kernel) (by decide +kernel)
set_option maxRecDepth 20000 in
theorem gX6_setRate_X6_outside : GoodIn wsX6_setRate (va_wsS RX6 36 yX6_outside wsX6_outside) := goodIn_app (goodIn_of _ (by decide +kernel)) ggX6_setRate_X6_outside
set_option maxRecDepth 20000 in
theorem ggX6_setRate_X2_push : GoodIn wsX6_setRate wsX2_push := goodIn_r _ [22, 23, 24, 25, 26, 27, 21, 28, 29, 30, 31, 32, 33, 34, 35, 10, 36, 12, 37, 38, 39, 40, 41, 42, 43, 44, 45, 46, 47, 48, 49, 50, 51, 52, 53, 54, 55, 56, 57, 58, 59, 60, 61, 62, 63, 64, 65, 66, 67, 68, 69, 8, 9, 11, 13, 70, 71, 72, 73, 74, 75, 76, 77, 78, 79, 80, 81, 82, 83, 84, 85, 86, 87, 88, 89, 90, 91, 92, 93, 94, 95, 96, 97, 98, 99, 100, 101, 102, 133, 134, 117, 118, 119, 120, 121, 122, 123, 124, 125, 126, 127, 128, 129, 130, 131, 132, 135, 136, 137, 138, 139, 140, 109, 110, 111, 112, 113, 114, 115, 116, 141, 142, 143, 144, 145, 146] (by decide +kernel) (by decide +kernel)
set_option maxRecDepth 20000 in
theorem gX6_setRate_X2_push : GoodIn wsX6_setRate (wsV RX6 48 RX2 yX2_push wsX2_push) := goodIn_app (goodIn_of _ (by decide +kernel)) ggX6_setRate_X2_push
theorem dX6_setRate_0 : decode cX6_setRate 0 = .ok (.aload_n 0, 1) := by decide +kernel
theorem dX6_setRate_1 : decode cX6_setRate 1 = .ok (.getfield 10, 3) := by decide +kernel
theorem dX6_setRate_4 : decode cX6_setRate 4 = .ok (.iload_n 1, 1) := by decide +kernel
theorem dX6_setRate_5 : decode cX6_setRate 5 = .ok (.invokevirtual 67, 3) := by decide +kernel
theorem dX6_setRate_8 : decode cX6_setRate 8 = .ok (.astore_n 3, 1) := by decide +kernel
theorem dX6_setRate_9 : decode cX6_setRate 9 = .ok (.aload_n 3, 1) := by decide +kernel
theorem dX6_setRate_10 : decode cX6_setRate 10 = .ok (.ifnonnull 6, 3) := by decide +kernel
theorem dX6_setRate_13 : decode cX6_setRate 13 = .ok (.ldc 40, 2) := by decide +kernel
theorem dX6_setRate_15 : decode cX6_setRate 15 = .ok (.ireturn, 1) := by decide +kernel
theorem dX6_setRate_16 : decode cX6_setRate 16 = .ok (.iload_n 2, 1) := by decide +kernel
theorem dX6_setRate_17 : decode cX6_setRate 17 = .ok (.iconst 1, 1) := by decide +kernel
theorem dX6_setRate_18 : decode cX6_setRate 18 = .ok (.bipush 99, 2) := by decide +kernel
theorem dX6_setRate_20 : decode cX6_setRate 20 = .ok (.invokestatic 36, 3) := by decide +kernel
theorem dX6_setRate_23 : decode cX6_setRate 23 = .ok (.ifCond .eq 6, 3) := by decide +kernel
theorem dX6_setRate_26 : decode cX6_setRate 26 = .ok (.ldc 41, 2) := by decide +kernel
theorem dX6_setRate_28 : decode cX6_setRate 28 = .ok (.ireturn, 1) := by decide +kernel
theorem dX6_setRate_29 : decode cX6_setRate 29 = .ok (.aload_n 3, 1) := by decide +kernel
theorem dX6_setRate_30 : decode cX6_setRate 30 = .ok (.getfield 71, 3) := by decide +kernel
theorem dX6_setRate_33 : decode cX6_setRate 33 = .ok (.istore 4, 2) := by decide +kernel
theorem dX6_setRate_35 : decode cX6_setRate 35 = .ok (.iload_n 2, 1) := by decide +kernel
theorem dX6_setRate_36 : decode cX6_setRate 36 = .ok (.iload 4, 2) := by decide +kernel
theorem dX6_setRate_38 : decode cX6_setRate 38 = .ok (.if_icmp .ne 6, 3) := by decide +kernel
theorem dX6_setRate_41 : decode cX6_setRate 41 = .ok (.ldc 66, 2) := by decide +kernel
theorem dX6_setRate_43 : decode cX6_setRate 43 = .ok (.ireturn, 1) := by decide +kernel
theorem dX6_setRate_44 : decode cX6_setRate 44 = .ok (.aload_n 0, 1) := by decide +kernel
theorem dX6_setRate_45 : decode cX6_setRate 45 = .ok (.getfield 25, 3) := by decide +kernel
theorem dX6_setRate_48 : decode cX6_setRate 48 = .ok (.aload_n 0, 1) := by decide +kernel
theorem dX6_setRate_49 : decode cX6_setRate 49 = .ok (.getfield 10, 3) := by decide +kernel
theorem dX6_setRate_52 : decode cX6_setRate 52 = .ok (.invokevirtual 48, 3) := by decide +kernel
theorem dX6_setRate_55 : decode cX6_setRate 55 = .ok (.aload_n 3, 1) := by decide +kernel
theorem dX6_setRate_56 : decode cX6_setRate 56 = .ok (.iload_n 2, 1) := by decide +kernel
theorem dX6_setRate_57 : decode cX6_setRate 57 = .ok (.putfield 71, 3) := by decide +kernel
theorem dX6_setRate_60 : decode cX6_setRate 60 = .ok (.iload 4, 2) := by decide +kernel
theorem dX6_setRate_62 : decode cX6_setRate 62 = .ok (.ireturn, 1) := by decide +kernel
set_option maxRecDepth 20000 in
theorem ggX6_fill_X4_farmerAt : GoodIn wsX6_fill wsX4_farmerAt := goodIn_r _ [15, 16, 128, 129, 130, 131, 132, 133, 134, 135, 136, 137, 138, 139, 140, 141, 142, 143] (by decide +kernel) (by decide +kernel)
set_option maxRecDepth 20000 in
theorem gX6_fill_X4_farmerAt : GoodIn wsX6_fill (wsV RX6 56 RX4 yX4_farmerAt wsX4_farmerAt) := goodIn_app (goodIn_of _ (by decide +kernel)) ggX6_fill_X4_farmerAt
set_option maxRecDepth 20000 in
theorem ggX6_fill_X4_machineAt : GoodIn wsX6_fill wsX4_machineAt := goodIn_r _ [20, 21, 22, 128, 129, 130, 131, 132, 133, 134, 135, 136, 137, 138, 139, 140, 141, 142, 143] (by decide +kernel) (by decide +kernel)
set_option maxRecDepth 20000 in
theorem gX6_fill_X4_machineAt : GoodIn wsX6_fill (wsV RX6 67 RX4 yX4_machineAt wsX4_machineAt) := goodIn_app (goodIn_of _ (by decide +kernel)) ggX6_fill_X4_machineAt
set_option maxRecDepth 20000 in
theorem ggX6_fill_X6_outside : GoodIn wsX6_fill wsX6_outside := goodIn_r _ [26] (by decide +kernel) (by decide +kernel)
set_option maxRecDepth 20000 in
theorem gX6_fill_X6_outside : GoodIn wsX6_fill (va_wsS RX6 36 yX6_outside wsX6_outside) := goodIn_app (goodIn_of _ (by decide +kernel)) ggX6_fill_X6_outside
set_option maxRecDepth 20000 in
theorem ggX6_fill_X2_push : GoodIn wsX6_fill wsX2_push := goodIn_r _ [31, 32, 33, 34, 35, 36, 30, 37, 38, 39, 40, 41, 42, 43, 44, 14, 45, 21, 46, 47, 48, 49, 50, 51, 52, 53, 54, 55, 56, 57, 58, 59, 60, 61, 62, 12, 13, 15, 16, 63, 64, 65, 66, 67, 68, 69, 70, 71, 72, 73, 74, 18, 19, 20, 22, 75, 76, 77, 78, 79, 80, 81, 82, 83, 84, 85, 86, 87, 88, 89, 90, 91, 92, 93, 94, 95, 96, 97, 98, 99, 100, 101, 102, 103, 104, 105, 106, 107, 144, 145, 128, 129, 130, 131, 132, 133, 134, 135, 136, 137, 138, 139, 140, 141, 142, 143, 122, 123, 124, 125, 126, 127, 114, 115, 116, 117, 118, 119, 120, 121, 146, 147, 148, 149, 150, 151] (by decide +kernel) (by decide +kernel)
set_option maxRecDepth 20000 in
theorem gX6_fill_X2_push : GoodIn wsX6_fill (wsV RX6 48 RX2 yX2_push wsX2_push) := goodIn_app (goodIn_of _ (by decide +kernel)) ggX6_fill_X2_push
theorem dX6_fill_0 : decode cX6_fill 0 = .ok (.aload_n 0, 1) := by decide +kernel
theorem dX6_fill_1 : decode cX6_fill 1 = .ok (.getfield 10, 3) := by decide +kernel
theorem dX6_fill_4 : decode cX6_fill 4 = .ok (.iload_n 1, 1) := by decide +kernel
theorem dX6_fill_5 : decode cX6_fill 5 = .ok (.invokevirtual 56, 3) := by decide +kernel
theorem dX6_fill_8 : decode cX6_fill 8 = .ok (.astore 4, 2) := by decide +kernel
theorem dX6_fill_10 : decode cX6_fill 10 = .ok (.aload_n 0, 1) := by decide +kernel
theorem dX6_fill_11 : decode cX6_fill 11 = .ok (.getfield 10, 3) := by decide +kernel
theorem dX6_fill_14 : decode cX6_fill 14 = .ok (.iload_n 2, 1) := by decide +kernel
theorem dX6_fill_15 : decode cX6_fill 15 = .ok (.invokevirtual 67, 3) := by decide +kernel
theorem dX6_fill_18 : decode cX6_fill 18 = .ok (.astore 5, 2) := by decide +kernel
theorem dX6_fill_20 : decode cX6_fill 20 = .ok (.aload 4, 2) := by decide +kernel
theorem dX6_fill_22 : decode cX6_fill 22 = .ok (.ifnull 8, 3) := by decide +kernel
theorem dX6_fill_25 : decode cX6_fill 25 = .ok (.aload 5, 2) := by decide +kernel
theorem dX6_fill_27 : decode cX6_fill 27 = .ok (.ifnonnull 6, 3) := by decide +kernel
theorem dX6_fill_30 : decode cX6_fill 30 = .ok (.ldc 40, 2) := by decide +kernel
theorem dX6_fill_32 : decode cX6_fill 32 = .ok (.ireturn, 1) := by decide +kernel
theorem dX6_fill_33 : decode cX6_fill 33 = .ok (.iload_n 3, 1) := by decide +kernel
theorem dX6_fill_34 : decode cX6_fill 34 = .ok (.iconst 1, 1) := by decide +kernel
theorem dX6_fill_35 : decode cX6_fill 35 = .ok (.sipush 500, 3) := by decide +kernel
theorem dX6_fill_38 : decode cX6_fill 38 = .ok (.invokestatic 36, 3) := by decide +kernel
theorem dX6_fill_41 : decode cX6_fill 41 = .ok (.ifCond .eq 6, 3) := by decide +kernel
theorem dX6_fill_44 : decode cX6_fill 44 = .ok (.ldc 41, 2) := by decide +kernel
theorem dX6_fill_46 : decode cX6_fill 46 = .ok (.ireturn, 1) := by decide +kernel
theorem dX6_fill_47 : decode cX6_fill 47 = .ok (.aload 5, 2) := by decide +kernel
theorem dX6_fill_49 : decode cX6_fill 49 = .ok (.getfield 76, 3) := by decide +kernel
theorem dX6_fill_52 : decode cX6_fill 52 = .ok (.iload_n 3, 1) := by decide +kernel
theorem dX6_fill_53 : decode cX6_fill 53 = .ok (.i2f, 1) := by decide +kernel
theorem dX6_fill_54 : decode cX6_fill 54 = .ok (.fadd, 1) := by decide +kernel
theorem dX6_fill_55 : decode cX6_fill 55 = .ok (.fstore 6, 2) := by decide +kernel
theorem dX6_fill_57 : decode cX6_fill 57 = .ok (.fload 6, 2) := by decide +kernel
theorem dX6_fill_59 : decode cX6_fill 59 = .ok (.ldc 80, 2) := by decide +kernel
theorem dX6_fill_61 : decode cX6_fill 61 = .ok (.fcmp .l, 1) := by decide +kernel
theorem dX6_fill_62 : decode cX6_fill 62 = .ok (.ifCond .le 6, 3) := by decide +kernel
theorem dX6_fill_65 : decode cX6_fill 65 = .ok (.ldc 46, 2) := by decide +kernel
theorem dX6_fill_67 : decode cX6_fill 67 = .ok (.ireturn, 1) := by decide +kernel
theorem dX6_fill_68 : decode cX6_fill 68 = .ok (.aload_n 0, 1) := by decide +kernel
theorem dX6_fill_69 : decode cX6_fill 69 = .ok (.getfield 25, 3) := by decide +kernel
theorem dX6_fill_72 : decode cX6_fill 72 = .ok (.aload_n 0, 1) := by decide +kernel
theorem dX6_fill_73 : decode cX6_fill 73 = .ok (.getfield 10, 3) := by decide +kernel
theorem dX6_fill_76 : decode cX6_fill 76 = .ok (.invokevirtual 48, 3) := by decide +kernel
theorem dX6_fill_79 : decode cX6_fill 79 = .ok (.iconst 2, 1) := by decide +kernel
theorem dX6_fill_80 : decode cX6_fill 80 = .ok (.iload_n 3, 1) := by decide +kernel
theorem dX6_fill_81 : decode cX6_fill 81 = .ok (.imul, 1) := by decide +kernel
theorem dX6_fill_82 : decode cX6_fill 82 = .ok (.istore 7, 2) := by decide +kernel
theorem dX6_fill_84 : decode cX6_fill 84 = .ok (.aload 5, 2) := by decide +kernel
theorem dX6_fill_86 : decode cX6_fill 86 = .ok (.fload 6, 2) := by decide +kernel
theorem dX6_fill_88 : decode cX6_fill 88 = .ok (.putfield 76, 3) := by decide +kernel
theorem dX6_fill_91 : decode cX6_fill 91 = .ok (.aload 4, 2) := by decide +kernel
theorem dX6_fill_93 : decode cX6_fill 93 = .ok (.dup, 1) := by decide +kernel
theorem dX6_fill_94 : decode cX6_fill 94 = .ok (.getfield 81, 3) := by decide +kernel
theorem dX6_fill_97 : decode cX6_fill 97 = .ok (.iload_n 3, 1) := by decide +kernel
theorem dX6_fill_98 : decode cX6_fill 98 = .ok (.iadd, 1) := by decide +kernel
theorem dX6_fill_99 : decode cX6_fill 99 = .ok (.putfield 81, 3) := by decide +kernel
theorem dX6_fill_102 : decode cX6_fill 102 = .ok (.aload_n 0, 1) := by decide +kernel
theorem dX6_fill_103 : decode cX6_fill 103 = .ok (.getfield 10, 3) := by decide +kernel
theorem dX6_fill_106 : decode cX6_fill 106 = .ok (.dup, 1) := by decide +kernel
theorem dX6_fill_107 : decode cX6_fill 107 = .ok (.getfield 84, 3) := by decide +kernel
theorem dX6_fill_110 : decode cX6_fill 110 = .ok (.iload 7, 2) := by decide +kernel
theorem dX6_fill_112 : decode cX6_fill 112 = .ok (.isub, 1) := by decide +kernel
theorem dX6_fill_113 : decode cX6_fill 113 = .ok (.putfield 84, 3) := by decide +kernel
theorem dX6_fill_116 : decode cX6_fill 116 = .ok (.aload_n 0, 1) := by decide +kernel
theorem dX6_fill_117 : decode cX6_fill 117 = .ok (.getfield 10, 3) := by decide +kernel
theorem dX6_fill_120 : decode cX6_fill 120 = .ok (.dup, 1) := by decide +kernel
theorem dX6_fill_121 : decode cX6_fill 121 = .ok (.getfield 87, 3) := by decide +kernel
theorem dX6_fill_124 : decode cX6_fill 124 = .ok (.iload 7, 2) := by decide +kernel
theorem dX6_fill_126 : decode cX6_fill 126 = .ok (.iadd, 1) := by decide +kernel
theorem dX6_fill_127 : decode cX6_fill 127 = .ok (.putfield 87, 3) := by decide +kernel
theorem dX6_fill_130 : decode cX6_fill 130 = .ok (.iload 7, 2) := by decide +kernel
theorem dX6_fill_132 : decode cX6_fill 132 = .ok (.ireturn, 1) := by decide +kernel
set_option maxRecDepth 20000 in
theorem ggX6_mend_X4_machineAt : GoodIn wsX6_mend wsX4_machineAt := goodIn_r _ [10, 11, 12, 131, 132, 133, 134, 135, 136, 137, 138, 139, 140, 141, 142, 143, 144, 145, 146] (by decide +kernel) (by decide +kernel)
set_option maxRecDepth 20000 in
theorem gX6_mend_X4_machineAt : GoodIn wsX6_mend (wsV RX6 67 RX4 yX4_machineAt wsX4_machineAt) := goodIn_app (goodIn_of _ (by decide +kernel)) ggX6_mend_X4_machineAt
set_option maxRecDepth 20000 in
theorem ggX6_mend_X2_push : GoodIn wsX6_mend wsX2_push := goodIn_r _ [17, 18, 19, 20, 21, 22, 16, 23, 24, 25, 26, 27, 28, 29, 30, 9, 31, 11, 32, 33, 34, 35, 36, 37, 38, 39, 40, 41, 42, 43, 44, 45, 46, 47, 48, 49, 50, 51, 52, 53, 54, 55, 56, 57, 58, 59, 60, 61, 62, 63, 64, 7, 8, 10, 12, 65, 66, 67, 68, 69, 70, 71, 72, 73, 74, 75, 76, 77, 78, 79, 80, 81, 82, 83, 84, 85, 86, 87, 88, 89, 90, 91, 92, 93, 94, 95, 96, 97, 147, 148, 131, 132, 133, 134, 135, 136, 137, 138, 139, 140, 141, 142, 143, 144, 145, 146, 149, 150, 151, 152, 153, 154, 123, 124, 125, 126, 127, 128, 129, 130, 155, 156, 157, 158, 159, 160] (by decide +kernel) (by decide +kernel)
set_option maxRecDepth 20000 in
theorem gX6_mend_X2_push : GoodIn wsX6_mend (wsV RX6 48 RX2 yX2_push wsX2_push) := goodIn_app (goodIn_of _ (by decide +kernel)) ggX6_mend_X2_push
set_option maxRecDepth 20000 in
theorem ggX6_mend_X4_mendAndShare : GoodIn wsX6_mend wsX4_mendAndShare := goodIn_r _ [101, 43, 41, 45, 102, 103, 104, 105, 106, 68, 107, 77, 48, 49, 50, 9, 51, 52, 108, 79, 80, 81, 109, 110, 111, 56, 112, 58, 63, 113, 114, 115, 116, 131, 132, 133, 134, 135, 136, 137, 138, 139, 140, 141, 142, 143, 144, 145, 146, 123, 124, 125, 126, 127, 128, 129, 130, 149, 150, 151, 152, 153, 154] (by decide +kernel) (by decide +kernel)
set_option maxRecDepth 20000 in
theorem gX6_mend_X4_mendAndShare : GoodIn wsX6_mend (wsV RX6 94 RX4 yX4_mendAndShare wsX4_mendAndShare) := goodIn_app (goodIn_of _ (by decide +kernel)) ggX6_mend_X4_mendAndShare
theorem dX6_mend_0 : decode cX6_mend 0 = .ok (.aload_n 0, 1) := by decide +kernel
theorem dX6_mend_1 : decode cX6_mend 1 = .ok (.getfield 10, 3) := by decide +kernel
theorem dX6_mend_4 : decode cX6_mend 4 = .ok (.iload_n 1, 1) := by decide +kernel
theorem dX6_mend_5 : decode cX6_mend 5 = .ok (.invokevirtual 67, 3) := by decide +kernel
theorem dX6_mend_8 : decode cX6_mend 8 = .ok (.astore_n 2, 1) := by decide +kernel
theorem dX6_mend_9 : decode cX6_mend 9 = .ok (.aload_n 2, 1) := by decide +kernel
theorem dX6_mend_10 : decode cX6_mend 10 = .ok (.ifnonnull 6, 3) := by decide +kernel
theorem dX6_mend_13 : decode cX6_mend 13 = .ok (.ldc 40, 2) := by decide +kernel
theorem dX6_mend_15 : decode cX6_mend 15 = .ok (.ireturn, 1) := by decide +kernel
theorem dX6_mend_16 : decode cX6_mend 16 = .ok (.aload_n 2, 1) := by decide +kernel
theorem dX6_mend_17 : decode cX6_mend 17 = .ok (.getfield 90, 3) := by decide +kernel
theorem dX6_mend_20 : decode cX6_mend 20 = .ok (.ifCond .ne 6, 3) := by decide +kernel
theorem dX6_mend_23 : decode cX6_mend 23 = .ok (.ldc 66, 2) := by decide +kernel
theorem dX6_mend_25 : decode cX6_mend 25 = .ok (.ireturn, 1) := by decide +kernel
theorem dX6_mend_26 : decode cX6_mend 26 = .ok (.aload_n 0, 1) := by decide +kernel
theorem dX6_mend_27 : decode cX6_mend 27 = .ok (.getfield 25, 3) := by decide +kernel
theorem dX6_mend_30 : decode cX6_mend 30 = .ok (.aload_n 0, 1) := by decide +kernel
theorem dX6_mend_31 : decode cX6_mend 31 = .ok (.getfield 10, 3) := by decide +kernel
theorem dX6_mend_34 : decode cX6_mend 34 = .ok (.invokevirtual 48, 3) := by decide +kernel
theorem dX6_mend_37 : decode cX6_mend 37 = .ok (.aload_n 0, 1) := by decide +kernel
theorem dX6_mend_38 : decode cX6_mend 38 = .ok (.getfield 10, 3) := by decide +kernel
theorem dX6_mend_41 : decode cX6_mend 41 = .ok (.aload_n 2, 1) := by decide +kernel
theorem dX6_mend_42 : decode cX6_mend 42 = .ok (.invokevirtual 94, 3) := by decide +kernel
theorem dX6_mend_45 : decode cX6_mend 45 = .ok (.ireturn, 1) := by decide +kernel
set_option maxRecDepth 20000 in
theorem ggX6_pay_X4_farmerAt : GoodIn wsX6_pay wsX4_farmerAt := goodIn_r _ [12, 13, 116, 117, 118, 119, 120, 121, 122, 123, 124, 125, 126, 127, 128, 129, 130, 131] (by decide +kernel) (by decide +kernel)
set_option maxRecDepth 20000 in
theorem gX6_pay_X4_farmerAt : GoodIn wsX6_pay (wsV RX6 56 RX4 yX4_farmerAt wsX4_farmerAt) := goodIn_app (goodIn_of _ (by decide +kernel)) ggX6_pay_X4_farmerAt
set_option maxRecDepth 20000 in
theorem ggX6_pay_X6_outside : GoodIn wsX6_pay wsX6_outside := goodIn_r _ [17] (by decide +kernel) (by decide +kernel)
set_option maxRecDepth 20000 in
theorem gX6_pay_X6_outside : GoodIn wsX6_pay (va_wsS RX6 36 yX6_outside wsX6_outside) := goodIn_app (goodIn_of _ (by decide +kernel)) ggX6_pay_X6_outside
set_option maxRecDepth 20000 in
theorem ggX6_pay_X2_push : GoodIn wsX6_pay wsX2_push := goodIn_r _ [22, 23, 24, 25, 26, 27, 21, 28, 29, 30, 31, 32, 33, 34, 35, 11, 36, 37, 38, 39, 40, 41, 42, 43, 44, 45, 46, 47, 48, 49, 50, 51, 52, 53, 54, 9, 10, 12, 13, 55, 56, 57, 58, 59, 60, 61, 62, 63, 64, 65, 66, 67, 68, 69, 70, 71, 72, 73, 74, 75, 76, 77, 78, 79, 80, 81, 82, 83, 84, 85, 86, 87, 88, 89, 90, 91, 92, 93, 94, 95, 96, 97, 98, 99, 100, 101, 102, 103, 132, 133, 116, 117, 118, 119, 120, 121, 122, 123, 124, 125, 126, 127, 128, 129, 130, 131, 110, 111, 112, 113, 114, 115, 134, 135, 136, 137, 138, 139, 140, 141, 142, 143, 144, 145, 146, 147] (by decide +kernel) (by decide +kernel)
set_option maxRecDepth 20000 in
theorem gX6_pay_X2_push : GoodIn wsX6_pay (wsV RX6 48 RX2 yX2_push wsX2_push) := goodIn_app (goodIn_of _ (by decide +kernel)) ggX6_pay_X2_push
theorem dX6_pay_0 : decode cX6_pay 0 = .ok (.aload_n 0, 1) := by decide +kernel
theorem dX6_pay_1 : decode cX6_pay 1 = .ok (.getfield 10, 3) := by decide +kernel
theorem dX6_pay_4 : decode cX6_pay 4 = .ok (.iload_n 1, 1) := by decide +kernel
theorem dX6_pay_5 : decode cX6_pay 5 = .ok (.invokevirtual 56, 3) := by decide +kernel
theorem dX6_pay_8 : decode cX6_pay 8 = .ok (.astore_n 3, 1) := by decide +kernel
theorem dX6_pay_9 : decode cX6_pay 9 = .ok (.aload_n 3, 1) := by decide +kernel
theorem dX6_pay_10 : decode cX6_pay 10 = .ok (.ifnonnull 6, 3) := by decide +kernel
theorem dX6_pay_13 : decode cX6_pay 13 = .ok (.ldc 40, 2) := by decide +kernel
theorem dX6_pay_15 : decode cX6_pay 15 = .ok (.ireturn, 1) := by decide +kernel
theorem dX6_pay_16 : decode cX6_pay 16 = .ok (.iload_n 2, 1) := by decide +kernel
theorem dX6_pay_17 : decode cX6_pay 17 = .ok (.iconst 1, 1) := by decide +kernel
theorem dX6_pay_18 : decode cX6_pay 18 = .ok (.sipush 9999, 3) := by decide +kernel
theorem dX6_pay_21 : decode cX6_pay 21 = .ok (.invokestatic 36, 3) := by decide +kernel
theorem dX6_pay_24 : decode cX6_pay 24 = .ok (.ifCond .eq 6, 3) := by decide +kernel
theorem dX6_pay_27 : decode cX6_pay 27 = .ok (.ldc 41, 2) := by decide +kernel
theorem dX6_pay_29 : decode cX6_pay 29 = .ok (.ireturn, 1) := by decide +kernel
theorem dX6_pay_30 : decode cX6_pay 30 = .ok (.aload_n 0, 1) := by decide +kernel
theorem dX6_pay_31 : decode cX6_pay 31 = .ok (.getfield 25, 3) := by decide +kernel
theorem dX6_pay_34 : decode cX6_pay 34 = .ok (.aload_n 0, 1) := by decide +kernel
theorem dX6_pay_35 : decode cX6_pay 35 = .ok (.getfield 10, 3) := by decide +kernel
theorem dX6_pay_38 : decode cX6_pay 38 = .ok (.invokevirtual 48, 3) := by decide +kernel
theorem dX6_pay_41 : decode cX6_pay 41 = .ok (.aload_n 3, 1) := by decide +kernel
theorem dX6_pay_42 : decode cX6_pay 42 = .ok (.dup, 1) := by decide +kernel
theorem dX6_pay_43 : decode cX6_pay 43 = .ok (.getfield 98, 3) := by decide +kernel
theorem dX6_pay_46 : decode cX6_pay 46 = .ok (.iload_n 2, 1) := by decide +kernel
theorem dX6_pay_47 : decode cX6_pay 47 = .ok (.iadd, 1) := by decide +kernel
theorem dX6_pay_48 : decode cX6_pay 48 = .ok (.putfield 98, 3) := by decide +kernel
theorem dX6_pay_51 : decode cX6_pay 51 = .ok (.aload_n 0, 1) := by decide +kernel
theorem dX6_pay_52 : decode cX6_pay 52 = .ok (.getfield 10, 3) := by decide +kernel
theorem dX6_pay_55 : decode cX6_pay 55 = .ok (.dup, 1) := by decide +kernel
theorem dX6_pay_56 : decode cX6_pay 56 = .ok (.getfield 84, 3) := by decide +kernel
theorem dX6_pay_59 : decode cX6_pay 59 = .ok (.iload_n 2, 1) := by decide +kernel
theorem dX6_pay_60 : decode cX6_pay 60 = .ok (.iadd, 1) := by decide +kernel
theorem dX6_pay_61 : decode cX6_pay 61 = .ok (.putfield 84, 3) := by decide +kernel
theorem dX6_pay_64 : decode cX6_pay 64 = .ok (.aload_n 0, 1) := by decide +kernel
theorem dX6_pay_65 : decode cX6_pay 65 = .ok (.getfield 10, 3) := by decide +kernel
theorem dX6_pay_68 : decode cX6_pay 68 = .ok (.dup, 1) := by decide +kernel
theorem dX6_pay_69 : decode cX6_pay 69 = .ok (.getfield 101, 3) := by decide +kernel
theorem dX6_pay_72 : decode cX6_pay 72 = .ok (.iload_n 2, 1) := by decide +kernel
theorem dX6_pay_73 : decode cX6_pay 73 = .ok (.iadd, 1) := by decide +kernel
theorem dX6_pay_74 : decode cX6_pay 74 = .ok (.putfield 101, 3) := by decide +kernel
theorem dX6_pay_77 : decode cX6_pay 77 = .ok (.aload_n 3, 1) := by decide +kernel
theorem dX6_pay_78 : decode cX6_pay 78 = .ok (.getfield 98, 3) := by decide +kernel
theorem dX6_pay_81 : decode cX6_pay 81 = .ok (.ireturn, 1) := by decide +kernel
