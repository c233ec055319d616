set_option maxRecDepth 20000 in
theorem ggX4_whyNotBook_X4_farmerAt : GoodIn wsX4_whyNotBook wsX4_farmerAt := goodIn_r _ [11, 12, 39, 40, 41, 42, 43, 44, 45, 46, 47, 48, 49, 50, 51, 52, 53, 54] (by decide +kernel) (by decide +kernel)
set_option maxRecDepth 20000 in
theorem gX4_whyNotBook_X4_farmerAt : GoodIn wsX4_whyNotBook (wsV RX4 43 RX4 yX4_farmerAt wsX4_farmerAt) := goodIn_app (goodIn_of _ (by decide +kernel)) ggX4_whyNotBook_X4_farmerAt
set_option maxRecDepth 20000 in
theorem ggX4_whyNotBook_X4_machineAt : GoodIn wsX4_whyNotBook wsX4_machineAt := goodIn_r _ [16, 17, 18, 39, 40, 41, 42, 43, 44, 45, 46, 47, 48, 49, 50, 51, 52, 53, 54] (by decide +kernel) (by decide +kernel)
set_option maxRecDepth 20000 in
theorem gX4_whyNotBook_X4_machineAt : GoodIn wsX4_whyNotBook (wsV RX4 54 RX4 yX4_machineAt wsX4_machineAt) := goodIn_app (goodIn_of _ (by decide +kernel)) ggX4_whyNotBook_X4_machineAt
set_option maxRecDepth 20000 in
theorem ggX4_whyNotBook_X6_outside : GoodIn wsX4_whyNotBook wsX6_outside := goodIn_r _ [21] (by decide +kernel) (by decide +kernel)
set_option maxRecDepth 20000 in
theorem gX4_whyNotBook_X6_outside_n135 : GoodIn wsX4_whyNotBook (wsX6_outside) := ggX4_whyNotBook_X6_outside
set_option maxRecDepth 20000 in
theorem ggX4_whyNotBook_X4_hoursOn : GoodIn wsX4_whyNotBook wsX4_hoursOn := goodIn_r _ [25, 3, 26, 27, 28, 29, 10, 30, 31, 32, 33, 34, 35, 36, 37, 38, 39, 40, 41, 42, 43, 44, 45, 46, 47, 48, 49, 50, 51, 52, 53, 54, 55, 56, 57, 58, 59, 60] (by decide +kernel) (by decide +kernel)
set_option maxRecDepth 20000 in
theorem gX4_whyNotBook_X4_hoursOn : GoodIn wsX4_whyNotBook (wsV RX4 140 RX4 yX4_hoursOn wsX4_hoursOn) := goodIn_app (goodIn_of _ (by decide +kernel)) ggX4_whyNotBook_X4_hoursOn
theorem dX4_whyNotBook_0 : decode cX4_whyNotBook 0 = .ok (.aload_n 0, 1) := by decide +kernel
theorem dX4_whyNotBook_1 : decode cX4_whyNotBook 1 = .ok (.iload_n 1, 1) := by decide +kernel
theorem dX4_whyNotBook_2 : decode cX4_whyNotBook 2 = .ok (.invokevirtual 43, 3) := by decide +kernel
theorem dX4_whyNotBook_5 : decode cX4_whyNotBook 5 = .ok (.ifnull 11, 3) := by decide +kernel
theorem dX4_whyNotBook_8 : decode cX4_whyNotBook 8 = .ok (.aload_n 0, 1) := by decide +kernel
theorem dX4_whyNotBook_9 : decode cX4_whyNotBook 9 = .ok (.iload_n 2, 1) := by decide +kernel
theorem dX4_whyNotBook_10 : decode cX4_whyNotBook 10 = .ok (.invokevirtual 54, 3) := by decide +kernel
theorem dX4_whyNotBook_13 : decode cX4_whyNotBook 13 = .ok (.ifnonnull 6, 3) := by decide +kernel
theorem dX4_whyNotBook_16 : decode cX4_whyNotBook 16 = .ok (.ldc 134, 2) := by decide +kernel
theorem dX4_whyNotBook_18 : decode cX4_whyNotBook 18 = .ok (.ireturn, 1) := by decide +kernel
theorem dX4_whyNotBook_19 : decode cX4_whyNotBook 19 = .ok (.iload_n 3, 1) := by decide +kernel
theorem dX4_whyNotBook_20 : decode cX4_whyNotBook 20 = .ok (.iconst 1, 1) := by decide +kernel
theorem dX4_whyNotBook_21 : decode cX4_whyNotBook 21 = .ok (.bipush 99, 2) := by decide +kernel
theorem dX4_whyNotBook_23 : decode cX4_whyNotBook 23 = .ok (.invokestatic 135, 3) := by decide +kernel
theorem dX4_whyNotBook_26 : decode cX4_whyNotBook 26 = .ok (.ifCond .ne 14, 3) := by decide +kernel
theorem dX4_whyNotBook_29 : decode cX4_whyNotBook 29 = .ok (.iload 4, 2) := by decide +kernel
theorem dX4_whyNotBook_31 : decode cX4_whyNotBook 31 = .ok (.iconst 1, 1) := by decide +kernel
theorem dX4_whyNotBook_32 : decode cX4_whyNotBook 32 = .ok (.bipush 12, 2) := by decide +kernel
theorem dX4_whyNotBook_34 : decode cX4_whyNotBook 34 = .ok (.invokestatic 135, 3) := by decide +kernel
theorem dX4_whyNotBook_37 : decode cX4_whyNotBook 37 = .ok (.ifCond .eq 6, 3) := by decide +kernel
theorem dX4_whyNotBook_40 : decode cX4_whyNotBook 40 = .ok (.ldc 139, 2) := by decide +kernel
theorem dX4_whyNotBook_42 : decode cX4_whyNotBook 42 = .ok (.ireturn, 1) := by decide +kernel
theorem dX4_whyNotBook_43 : decode cX4_whyNotBook 43 = .ok (.aload_n 0, 1) := by decide +kernel
theorem dX4_whyNotBook_44 : decode cX4_whyNotBook 44 = .ok (.getfield 61, 3) := by decide +kernel
theorem dX4_whyNotBook_47 : decode cX4_whyNotBook 47 = .ok (.bipush 30, 2) := by decide +kernel
theorem dX4_whyNotBook_49 : decode cX4_whyNotBook 49 = .ok (.if_icmp .lt 6, 3) := by decide +kernel
theorem dX4_whyNotBook_52 : decode cX4_whyNotBook 52 = .ok (.ldc 108, 2) := by decide +kernel
theorem dX4_whyNotBook_54 : decode cX4_whyNotBook 54 = .ok (.ireturn, 1) := by decide +kernel
theorem dX4_whyNotBook_55 : decode cX4_whyNotBook 55 = .ok (.aload_n 0, 1) := by decide +kernel
theorem dX4_whyNotBook_56 : decode cX4_whyNotBook 56 = .ok (.iload_n 2, 1) := by decide +kernel
theorem dX4_whyNotBook_57 : decode cX4_whyNotBook 57 = .ok (.aload_n 0, 1) := by decide +kernel
theorem dX4_whyNotBook_58 : decode cX4_whyNotBook 58 = .ok (.getfield 71, 3) := by decide +kernel
theorem dX4_whyNotBook_61 : decode cX4_whyNotBook 61 = .ok (.iload_n 3, 1) := by decide +kernel
theorem dX4_whyNotBook_62 : decode cX4_whyNotBook 62 = .ok (.iadd, 1) := by decide +kernel
theorem dX4_whyNotBook_63 : decode cX4_whyNotBook 63 = .ok (.invokevirtual 140, 3) := by decide +kernel
theorem dX4_whyNotBook_66 : decode cX4_whyNotBook 66 = .ok (.iload 4, 2) := by decide +kernel
theorem dX4_whyNotBook_68 : decode cX4_whyNotBook 68 = .ok (.iadd, 1) := by decide +kernel
theorem dX4_whyNotBook_69 : decode cX4_whyNotBook 69 = .ok (.bipush 12, 2) := by decide +kernel
theorem dX4_whyNotBook_71 : decode cX4_whyNotBook 71 = .ok (.if_icmp .le 8, 3) := by decide +kernel
theorem dX4_whyNotBook_74 : decode cX4_whyNotBook 74 = .ok (.ldc 144, 2) := by decide +kernel
theorem dX4_whyNotBook_76 : decode cX4_whyNotBook 76 = .ok (.goto 4, 3) := by decide +kernel
theorem dX4_whyNotBook_79 : decode cX4_whyNotBook 79 = .ok (.iconst 0, 1) := by decide +kernel
theorem dX4_whyNotBook_80 : decode cX4_whyNotBook 80 = .ok (.ireturn, 1) := by decide +kernel
set_option maxRecDepth 20000 in
theorem ggX4_addBooking_X4_bookingAt : GoodIn wsX4_addBooking wsX4_bookingAt := goodIn_r _ [15, 1, 16, 17, 18, 19, 20, 21, 22, 23, 24, 25, 26, 27, 28, 29, 30, 31, 32] (by decide +kernel) (by decide +kernel)
set_option maxRecDepth 20000 in
theorem gX4_addBooking_X4_bookingAt : GoodIn wsX4_addBooking (wsV RX4 64 RX4 yX4_bookingAt wsX4_bookingAt) := goodIn_app (goodIn_of _ (by decide +kernel)) ggX4_addBooking_X4_bookingAt
theorem dX4_addBooking_0 : decode cX4_addBooking 0 = .ok (.aload_n 0, 1) := by decide +kernel
theorem dX4_addBooking_1 : decode cX4_addBooking 1 = .ok (.dup, 1) := by decide +kernel
theorem dX4_addBooking_2 : decode cX4_addBooking 2 = .ok (.getfield 61, 3) := by decide +kernel
theorem dX4_addBooking_5 : decode cX4_addBooking 5 = .ok (.iconst 1, 1) := by decide +kernel
theorem dX4_addBooking_6 : decode cX4_addBooking 6 = .ok (.iadd, 1) := by decide +kernel
theorem dX4_addBooking_7 : decode cX4_addBooking 7 = .ok (.putfield 61, 3) := by decide +kernel
theorem dX4_addBooking_10 : decode cX4_addBooking 10 = .ok (.aload_n 0, 1) := by decide +kernel
theorem dX4_addBooking_11 : decode cX4_addBooking 11 = .ok (.aload_n 0, 1) := by decide +kernel
theorem dX4_addBooking_12 : decode cX4_addBooking 12 = .ok (.getfield 61, 3) := by decide +kernel
theorem dX4_addBooking_15 : decode cX4_addBooking 15 = .ok (.iconst 1, 1) := by decide +kernel
theorem dX4_addBooking_16 : decode cX4_addBooking 16 = .ok (.isub, 1) := by decide +kernel
theorem dX4_addBooking_17 : decode cX4_addBooking 17 = .ok (.invokevirtual 64, 3) := by decide +kernel
theorem dX4_addBooking_20 : decode cX4_addBooking 20 = .ok (.astore 5, 2) := by decide +kernel
theorem dX4_addBooking_22 : decode cX4_addBooking 22 = .ok (.aload 5, 2) := by decide +kernel
theorem dX4_addBooking_24 : decode cX4_addBooking 24 = .ok (.ifnonnull 16, 3) := by decide +kernel
theorem dX4_addBooking_27 : decode cX4_addBooking 27 = .ok (.aload_n 0, 1) := by decide +kernel
theorem dX4_addBooking_28 : decode cX4_addBooking 28 = .ok (.dup, 1) := by decide +kernel
theorem dX4_addBooking_29 : decode cX4_addBooking 29 = .ok (.getfield 61, 3) := by decide +kernel
theorem dX4_addBooking_32 : decode cX4_addBooking 32 = .ok (.iconst 1, 1) := by decide +kernel
theorem dX4_addBooking_33 : decode cX4_addBooking 33 = .ok (.isub, 1) := by decide +kernel
theorem dX4_addBooking_34 : decode cX4_addBooking 34 = .ok (.putfield 61, 3) := by decide +kernel
theorem dX4_addBooking_37 : decode cX4_addBooking 37 = .ok (.ldc 108, 2) := by decide +kernel
theorem dX4_addBooking_39 : decode cX4_addBooking 39 = .ok (.ireturn, 1) := by decide +kernel
theorem dX4_addBooking_40 : decode cX4_addBooking 40 = .ok (.aload 5, 2) := by decide +kernel
theorem dX4_addBooking_42 : decode cX4_addBooking 42 = .ok (.aload_n 0, 1) := by decide +kernel
theorem dX4_addBooking_43 : decode cX4_addBooking 43 = .ok (.getfield 74, 3) := by decide +kernel
theorem dX4_addBooking_46 : decode cX4_addBooking 46 = .ok (.putfield 98, 3) := by decide +kernel
theorem dX4_addBooking_49 : decode cX4_addBooking 49 = .ok (.aload 5, 2) := by decide +kernel
theorem dX4_addBooking_51 : decode cX4_addBooking 51 = .ok (.iload_n 1, 1) := by decide +kernel
theorem dX4_addBooking_52 : decode cX4_addBooking 52 = .ok (.putfield 145, 3) := by decide +kernel
theorem dX4_addBooking_55 : decode cX4_addBooking 55 = .ok (.aload 5, 2) := by decide +kernel
theorem dX4_addBooking_57 : decode cX4_addBooking 57 = .ok (.iload_n 2, 1) := by decide +kernel
theorem dX4_addBooking_58 : decode cX4_addBooking 58 = .ok (.putfield 148, 3) := by decide +kernel
theorem dX4_addBooking_61 : decode cX4_addBooking 61 = .ok (.aload 5, 2) := by decide +kernel
theorem dX4_addBooking_63 : decode cX4_addBooking 63 = .ok (.aload_n 0, 1) := by decide +kernel
theorem dX4_addBooking_64 : decode cX4_addBooking 64 = .ok (.getfield 71, 3) := by decide +kernel
theorem dX4_addBooking_67 : decode cX4_addBooking 67 = .ok (.iload_n 3, 1) := by decide +kernel
theorem dX4_addBooking_68 : decode cX4_addBooking 68 = .ok (.iadd, 1) := by decide +kernel
theorem dX4_addBooking_69 : decode cX4_addBooking 69 = .ok (.putfield 151, 3) := by decide +kernel
theorem dX4_addBooking_72 : decode cX4_addBooking 72 = .ok (.aload 5, 2) := by decide +kernel
theorem dX4_addBooking_74 : decode cX4_addBooking 74 = .ok (.iload 4, 2) := by decide +kernel
theorem dX4_addBooking_76 : decode cX4_addBooking 76 = .ok (.putfield 152, 3) := by decide +kernel
theorem dX4_addBooking_79 : decode cX4_addBooking 79 = .ok (.aload 5, 2) := by decide +kernel
theorem dX4_addBooking_81 : decode cX4_addBooking 81 = .ok (.iconst 0, 1) := by decide +kernel
theorem dX4_addBooking_82 : decode cX4_addBooking 82 = .ok (.putfield 155, 3) := by decide +kernel
theorem dX4_addBooking_85 : decode cX4_addBooking 85 = .ok (.aload_n 0, 1) := by decide +kernel
theorem dX4_addBooking_86 : decode cX4_addBooking 86 = .ok (.dup, 1) := by decide +kernel
theorem dX4_addBooking_87 : decode cX4_addBooking 87 = .ok (.getfield 74, 3) := by decide +kernel
theorem dX4_addBooking_90 : decode cX4_addBooking 90 = .ok (.iconst 1, 1) := by decide +kernel
theorem dX4_addBooking_91 : decode cX4_addBooking 91 = .ok (.iadd, 1) := by decide +kernel
theorem dX4_addBooking_92 : decode cX4_addBooking 92 = .ok (.putfield 74, 3) := by decide +kernel
theorem dX4_addBooking_95 : decode cX4_addBooking 95 = .ok (.aload 5, 2) := by decide +kernel
theorem dX4_addBooking_97 : decode cX4_addBooking 97 = .ok (.getfield 98, 3) := by decide +kernel
theorem dX4_addBooking_100 : decode cX4_addBooking 100 = .ok (.ireturn, 1) := by decide +kernel
theorem dX4_removeBookingAt_0 : decode cX4_removeBookingAt 0 = .ok (.iload_n 1, 1) := by decide +kernel
theorem dX4_removeBookingAt_1 : decode cX4_removeBookingAt 1 = .ok (.ifCond .lt 11, 3) := by decide +kernel
theorem dX4_removeBookingAt_4 : decode cX4_removeBookingAt 4 = .ok (.iload_n 1, 1) := by decide +kernel
theorem dX4_removeBookingAt_5 : decode cX4_removeBookingAt 5 = .ok (.aload_n 0, 1) := by decide +kernel
theorem dX4_removeBookingAt_6 : decode cX4_removeBookingAt 6 = .ok (.getfield 61, 3) := by decide +kernel
theorem dX4_removeBookingAt_9 : decode cX4_removeBookingAt 9 = .ok (.if_icmp .lt 4, 3) := by decide +kernel
theorem dX4_removeBookingAt_12 : decode cX4_removeBookingAt 12 = .ok (.return_, 1) := by decide +kernel
theorem dX4_removeBookingAt_13 : decode cX4_removeBookingAt 13 = .ok (.iload_n 1, 1) := by decide +kernel
theorem dX4_removeBookingAt_14 : decode cX4_removeBookingAt 14 = .ok (.iconst 1, 1) := by decide +kernel
theorem dX4_removeBookingAt_15 : decode cX4_removeBookingAt 15 = .ok (.iadd, 1) := by decide +kernel
theorem dX4_removeBookingAt_16 : decode cX4_removeBookingAt 16 = .ok (.istore_n 2, 1) := by decide +kernel
theorem dX4_removeBookingAt_17 : decode cX4_removeBookingAt 17 = .ok (.iload_n 2, 1) := by decide +kernel
theorem dX4_removeBookingAt_18 : decode cX4_removeBookingAt 18 = .ok (.aload_n 0, 1) := by decide +kernel
theorem dX4_removeBookingAt_19 : decode cX4_removeBookingAt 19 = .ok (.getfield 61, 3) := by decide +kernel
theorem dX4_removeBookingAt_22 : decode cX4_removeBookingAt 22 = .ok (.if_icmp .ge 48, 3) := by decide +kernel
theorem dX4_removeBookingAt_25 : decode cX4_removeBookingAt 25 = .ok (.iload_n 2, 1) := by decide +kernel
theorem dX4_removeBookingAt_26 : decode cX4_removeBookingAt 26 = .ok (.aload_n 0, 1) := by decide +kernel
theorem dX4_removeBookingAt_27 : decode cX4_removeBookingAt 27 = .ok (.getfield 27, 3) := by decide +kernel
theorem dX4_removeBookingAt_30 : decode cX4_removeBookingAt 30 = .ok (.arraylength, 1) := by decide +kernel
theorem dX4_removeBookingAt_31 : decode cX4_removeBookingAt 31 = .ok (.if_icmp .ge 39, 3) := by decide +kernel
theorem dX4_removeBookingAt_34 : decode cX4_removeBookingAt 34 = .ok (.aload_n 0, 1) := by decide +kernel
theorem dX4_removeBookingAt_35 : decode cX4_removeBookingAt 35 = .ok (.getfield 27, 3) := by decide +kernel
theorem dX4_removeBookingAt_38 : decode cX4_removeBookingAt 38 = .ok (.iload_n 2, 1) := by decide +kernel
theorem dX4_removeBookingAt_39 : decode cX4_removeBookingAt 39 = .ok (.iconst 1, 1) := by decide +kernel
theorem dX4_removeBookingAt_40 : decode cX4_removeBookingAt 40 = .ok (.isub, 1) := by decide +kernel
theorem dX4_removeBookingAt_41 : decode cX4_removeBookingAt 41 = .ok (.aaload, 1) := by decide +kernel
theorem dX4_removeBookingAt_42 : decode cX4_removeBookingAt 42 = .ok (.astore_n 3, 1) := by decide +kernel
theorem dX4_removeBookingAt_43 : decode cX4_removeBookingAt 43 = .ok (.aload_n 0, 1) := by decide +kernel
theorem dX4_removeBookingAt_44 : decode cX4_removeBookingAt 44 = .ok (.getfield 27, 3) := by decide +kernel
theorem dX4_removeBookingAt_47 : decode cX4_removeBookingAt 47 = .ok (.iload_n 2, 1) := by decide +kernel
theorem dX4_removeBookingAt_48 : decode cX4_removeBookingAt 48 = .ok (.iconst 1, 1) := by decide +kernel
theorem dX4_removeBookingAt_49 : decode cX4_removeBookingAt 49 = .ok (.isub, 1) := by decide +kernel
theorem dX4_removeBookingAt_50 : decode cX4_removeBookingAt 50 = .ok (.aload_n 0, 1) := by decide +kernel
theorem dX4_removeBookingAt_51 : decode cX4_removeBookingAt 51 = .ok (.getfield 27, 3) := by decide +kernel
theorem dX4_removeBookingAt_54 : decode cX4_removeBookingAt 54 = .ok (.iload_n 2, 1) := by decide +kernel
theorem dX4_removeBookingAt_55 : decode cX4_removeBookingAt 55 = .ok (.aaload, 1) := by decide +kernel
theorem dX4_removeBookingAt_56 : decode cX4_removeBookingAt 56 = .ok (.aastore, 1) := by decide +kernel
theorem dX4_removeBookingAt_57 : decode cX4_removeBookingAt 57 = .ok (.aload_n 0, 1) := by decide +kernel
theorem dX4_removeBookingAt_58 : decode cX4_removeBookingAt 58 = .ok (.getfield 27, 3) := by decide +kernel
theorem dX4_removeBookingAt_61 : decode cX4_removeBookingAt 61 = .ok (.iload_n 2, 1) := by decide +kernel
theorem dX4_removeBookingAt_62 : decode cX4_removeBookingAt 62 = .ok (.aload_n 3, 1) := by decide +kernel
theorem dX4_removeBookingAt_63 : decode cX4_removeBookingAt 63 = .ok (.aastore, 1) := by decide +kernel
theorem dX4_removeBookingAt_64 : decode cX4_removeBookingAt 64 = .ok (.iinc 2 1, 3) := by decide +kernel
theorem dX4_removeBookingAt_67 : decode cX4_removeBookingAt 67 = .ok (.goto (-50), 3) := by decide +kernel
theorem dX4_removeBookingAt_70 : decode cX4_removeBookingAt 70 = .ok (.aload_n 0, 1) := by decide +kernel
theorem dX4_removeBookingAt_71 : decode cX4_removeBookingAt 71 = .ok (.dup, 1) := by decide +kernel
theorem dX4_removeBookingAt_72 : decode cX4_removeBookingAt 72 = .ok (.getfield 61, 3) := by decide +kernel
theorem dX4_removeBookingAt_75 : decode cX4_removeBookingAt 75 = .ok (.iconst 1, 1) := by decide +kernel
theorem dX4_removeBookingAt_76 : decode cX4_removeBookingAt 76 = .ok (.isub, 1) := by decide +kernel
theorem dX4_removeBookingAt_77 : decode cX4_removeBookingAt 77 = .ok (.putfield 61, 3) := by decide +kernel
theorem dX4_removeBookingAt_80 : decode cX4_removeBookingAt 80 = .ok (.return_, 1) := by decide +kernel
set_option maxRecDepth 20000 in
theorem ggX4_hoursOn_X4_bookingAt : GoodIn wsX4_hoursOn wsX4_bookingAt := goodIn_r _ [7, 1, 8, 16, 17, 18, 19, 20, 21, 22, 23, 24, 25, 26, 27, 28, 29, 30, 31] (by decide +kernel) (by decide +kernel)
set_option maxRecDepth 20000 in
theorem gX4_hoursOn_X4_bookingAt : GoodIn wsX4_hoursOn (wsV RX4 64 RX4 yX4_bookingAt wsX4_bookingAt) := goodIn_app (goodIn_of _ (by decide +kernel)) ggX4_hoursOn_X4_bookingAt
set_option maxRecDepth 20000 in
theorem ggX4_hoursOn_X0_isFor : GoodIn wsX4_hoursOn wsX0_isFor := goodIn_r _ [13, 14, 15, 32, 33, 34, 35, 36, 37] (by decide +kernel) (by decide +kernel)
set_option maxRecDepth 20000 in
theorem gX4_hoursOn_X0_isFor : GoodIn wsX4_hoursOn (wsV RX4 158 RX0 yX0_isFor wsX0_isFor) := goodIn_app (goodIn_of _ (by decide +kernel)) ggX4_hoursOn_X0_isFor
theorem dX4_hoursOn_0 : decode cX4_hoursOn 0 = .ok (.iconst 0, 1) := by decide +kernel
theorem dX4_hoursOn_1 : decode cX4_hoursOn 1 = .ok (.istore_n 3, 1) := by decide +kernel
theorem dX4_hoursOn_2 : decode cX4_hoursOn 2 = .ok (.iconst 0, 1) := by decide +kernel
theorem dX4_hoursOn_3 : decode cX4_hoursOn 3 = .ok (.istore 4, 2) := by decide +kernel
theorem dX4_hoursOn_5 : decode cX4_hoursOn 5 = .ok (.iload 4, 2) := by decide +kernel
theorem dX4_hoursOn_7 : decode cX4_hoursOn 7 = .ok (.aload_n 0, 1) := by decide +kernel
theorem dX4_hoursOn_8 : decode cX4_hoursOn 8 = .ok (.getfield 61, 3) := by decide +kernel
theorem dX4_hoursOn_11 : decode cX4_hoursOn 11 = .ok (.if_icmp .ge 40, 3) := by decide +kernel
theorem dX4_hoursOn_14 : decode cX4_hoursOn 14 = .ok (.aload_n 0, 1) := by decide +kernel
theorem dX4_hoursOn_15 : decode cX4_hoursOn 15 = .ok (.iload 4, 2) := by decide +kernel
theorem dX4_hoursOn_17 : decode cX4_hoursOn 17 = .ok (.invokevirtual 64, 3) := by decide +kernel
theorem dX4_hoursOn_20 : decode cX4_hoursOn 20 = .ok (.astore 5, 2) := by decide +kernel
theorem dX4_hoursOn_22 : decode cX4_hoursOn 22 = .ok (.aload 5, 2) := by decide +kernel
theorem dX4_hoursOn_24 : decode cX4_hoursOn 24 = .ok (.ifnull 21, 3) := by decide +kernel
theorem dX4_hoursOn_27 : decode cX4_hoursOn 27 = .ok (.aload 5, 2) := by decide +kernel
theorem dX4_hoursOn_29 : decode cX4_hoursOn 29 = .ok (.iload_n 1, 1) := by decide +kernel
theorem dX4_hoursOn_30 : decode cX4_hoursOn 30 = .ok (.iload_n 2, 1) := by decide +kernel
theorem dX4_hoursOn_31 : decode cX4_hoursOn 31 = .ok (.invokevirtual 158, 3) := by decide +kernel
theorem dX4_hoursOn_34 : decode cX4_hoursOn 34 = .ok (.ifCond .eq 11, 3) := by decide +kernel
theorem dX4_hoursOn_37 : decode cX4_hoursOn 37 = .ok (.iload_n 3, 1) := by decide +kernel
theorem dX4_hoursOn_38 : decode cX4_hoursOn 38 = .ok (.aload 5, 2) := by decide +kernel
theorem dX4_hoursOn_40 : decode cX4_hoursOn 40 = .ok (.getfield 152, 3) := by decide +kernel
theorem dX4_hoursOn_43 : decode cX4_hoursOn 43 = .ok (.iadd, 1) := by decide +kernel
theorem dX4_hoursOn_44 : decode cX4_hoursOn 44 = .ok (.istore_n 3, 1) := by decide +kernel
theorem dX4_hoursOn_45 : decode cX4_hoursOn 45 = .ok (.iinc 4 1, 3) := by decide +kernel
theorem dX4_hoursOn_48 : decode cX4_hoursOn 48 = .ok (.goto (-43), 3) := by decide +kernel
theorem dX4_hoursOn_51 : decode cX4_hoursOn 51 = .ok (.iload_n 3, 1) := by decide +kernel
theorem dX4_hoursOn_52 : decode cX4_hoursOn 52 = .ok (.ireturn, 1) := by decide +kernel
set_option maxRecDepth 20000 in
theorem ggX4_standingOf_X4_bookingAt : GoodIn wsX4_standingOf wsX4_bookingAt := goodIn_r _ [7, 1, 8, 9, 10, 11, 12, 13, 14, 15, 16, 17, 18, 19, 20, 21, 22, 23, 24] (by decide +kernel) (by decide +kernel)
set_option maxRecDepth 20000 in
theorem gX4_standingOf_X4_bookingAt : GoodIn wsX4_standingOf (wsV RX4 64 RX4 yX4_bookingAt wsX4_bookingAt) := goodIn_app (goodIn_of _ (by decide +kernel)) ggX4_standingOf_X4_bookingAt
theorem dX4_standingOf_0 : decode cX4_standingOf 0 = .ok (.iconst 0, 1) := by decide +kernel
theorem dX4_standingOf_1 : decode cX4_standingOf 1 = .ok (.istore_n 2, 1) := by decide +kernel
theorem dX4_standingOf_2 : decode cX4_standingOf 2 = .ok (.iconst 0, 1) := by decide +kernel
theorem dX4_standingOf_3 : decode cX4_standingOf 3 = .ok (.istore_n 3, 1) := by decide +kernel
theorem dX4_standingOf_4 : decode cX4_standingOf 4 = .ok (.iload_n 3, 1) := by decide +kernel
theorem dX4_standingOf_5 : decode cX4_standingOf 5 = .ok (.aload_n 0, 1) := by decide +kernel
theorem dX4_standingOf_6 : decode cX4_standingOf 6 = .ok (.getfield 61, 3) := by decide +kernel
theorem dX4_standingOf_9 : decode cX4_standingOf 9 = .ok (.if_icmp .ge 33, 3) := by decide +kernel
theorem dX4_standingOf_12 : decode cX4_standingOf 12 = .ok (.aload_n 0, 1) := by decide +kernel
theorem dX4_standingOf_13 : decode cX4_standingOf 13 = .ok (.iload_n 3, 1) := by decide +kernel
theorem dX4_standingOf_14 : decode cX4_standingOf 14 = .ok (.invokevirtual 64, 3) := by decide +kernel
theorem dX4_standingOf_17 : decode cX4_standingOf 17 = .ok (.astore 4, 2) := by decide +kernel
theorem dX4_standingOf_19 : decode cX4_standingOf 19 = .ok (.aload 4, 2) := by decide +kernel
theorem dX4_standingOf_21 : decode cX4_standingOf 21 = .ok (.ifnull 15, 3) := by decide +kernel
theorem dX4_standingOf_24 : decode cX4_standingOf 24 = .ok (.aload 4, 2) := by decide +kernel
theorem dX4_standingOf_26 : decode cX4_standingOf 26 = .ok (.getfield 145, 3) := by decide +kernel
theorem dX4_standingOf_29 : decode cX4_standingOf 29 = .ok (.iload_n 1, 1) := by decide +kernel
theorem dX4_standingOf_30 : decode cX4_standingOf 30 = .ok (.if_icmp .ne 6, 3) := by decide +kernel
theorem dX4_standingOf_33 : decode cX4_standingOf 33 = .ok (.iinc 2 1, 3) := by decide +kernel
theorem dX4_standingOf_36 : decode cX4_standingOf 36 = .ok (.iinc 3 1, 3) := by decide +kernel
theorem dX4_standingOf_39 : decode cX4_standingOf 39 = .ok (.goto (-35), 3) := by decide +kernel
theorem dX4_standingOf_42 : decode cX4_standingOf 42 = .ok (.iload_n 2, 1) := by decide +kernel
theorem dX4_standingOf_43 : decode cX4_standingOf 43 = .ok (.ireturn, 1) := by decide +kernel
set_option maxRecDepth 20000 in
theorem ggX4_sumOfAccounts_X4_farmerAt : GoodIn wsX4_sumOfAccounts wsX4_farmerAt := goodIn_r _ [6, 7, 14, 15, 16, 17, 18, 19, 20, 21, 22, 23, 24, 25, 26, 27, 28, 29] (by decide +kernel) (by decide +kernel)
set_option maxRecDepth 20000 in
theorem gX4_sumOfAccounts_X4_farmerAt : GoodIn wsX4_sumOfAccounts (wsV RX4 43 RX4 yX4_farmerAt wsX4_farmerAt) := goodIn_app (goodIn_of _ (by decide +kernel)) ggX4_sumOfAccounts_X4_farmerAt
theorem dX4_sumOfAccounts_0 : decode cX4_sumOfAccounts 0 = .ok (.iconst 0, 1) := by decide +kernel
theorem dX4_sumOfAccounts_1 : decode cX4_sumOfAccounts 1 = .ok (.istore_n 1, 1) := by decide +kernel
theorem dX4_sumOfAccounts_2 : decode cX4_sumOfAccounts 2 = .ok (.iconst 0, 1) := by decide +kernel
theorem dX4_sumOfAccounts_3 : decode cX4_sumOfAccounts 3 = .ok (.istore_n 2, 1) := by decide +kernel
theorem dX4_sumOfAccounts_4 : decode cX4_sumOfAccounts 4 = .ok (.iload_n 2, 1) := by decide +kernel
theorem dX4_sumOfAccounts_5 : decode cX4_sumOfAccounts 5 = .ok (.bipush 6, 2) := by decide +kernel
theorem dX4_sumOfAccounts_7 : decode cX4_sumOfAccounts 7 = .ok (.if_icmp .ge 26, 3) := by decide +kernel
theorem dX4_sumOfAccounts_10 : decode cX4_sumOfAccounts 10 = .ok (.aload_n 0, 1) := by decide +kernel
theorem dX4_sumOfAccounts_11 : decode cX4_sumOfAccounts 11 = .ok (.iload_n 2, 1) := by decide +kernel
theorem dX4_sumOfAccounts_12 : decode cX4_sumOfAccounts 12 = .ok (.invokevirtual 43, 3) := by decide +kernel
theorem dX4_sumOfAccounts_15 : decode cX4_sumOfAccounts 15 = .ok (.astore_n 3, 1) := by decide +kernel
theorem dX4_sumOfAccounts_16 : decode cX4_sumOfAccounts 16 = .ok (.aload_n 3, 1) := by decide +kernel
theorem dX4_sumOfAccounts_17 : decode cX4_sumOfAccounts 17 = .ok (.ifnull 10, 3) := by decide +kernel
theorem dX4_sumOfAccounts_20 : decode cX4_sumOfAccounts 20 = .ok (.iload_n 1, 1) := by decide +kernel
theorem dX4_sumOfAccounts_21 : decode cX4_sumOfAccounts 21 = .ok (.aload_n 3, 1) := by decide +kernel
theorem dX4_sumOfAccounts_22 : decode cX4_sumOfAccounts 22 = .ok (.getfield 162, 3) := by decide +kernel
theorem dX4_sumOfAccounts_25 : decode cX4_sumOfAccounts 25 = .ok (.iadd, 1) := by decide +kernel
theorem dX4_sumOfAccounts_26 : decode cX4_sumOfAccounts 26 = .ok (.istore_n 1, 1) := by decide +kernel
theorem dX4_sumOfAccounts_27 : decode cX4_sumOfAccounts 27 = .ok (.iinc 2 1, 3) := by decide +kernel
theorem dX4_sumOfAccounts_30 : decode cX4_sumOfAccounts 30 = .ok (.goto (-26), 3) := by decide +kernel
theorem dX4_sumOfAccounts_33 : decode cX4_sumOfAccounts 33 = .ok (.iload_n 1, 1) := by decide +kernel
theorem dX4_sumOfAccounts_34 : decode cX4_sumOfAccounts 34 = .ok (.ireturn, 1) := by decide +kernel
set_option maxRecDepth 20000 in
theorem ggX4_brokenMachines_X4_machineAt : GoodIn wsX4_brokenMachines wsX4_machineAt := goodIn_r _ [7, 1, 8, 9, 10, 11, 12, 13, 14, 15, 16, 17, 18, 19, 20, 21, 22, 23, 24] (by decide +kernel) (by decide +kernel)
set_option maxRecDepth 20000 in
theorem gX4_brokenMachines_X4_machineAt : GoodIn wsX4_brokenMachines (wsV RX4 54 RX4 yX4_machineAt wsX4_machineAt) := goodIn_app (goodIn_of _ (by decide +kernel)) ggX4_brokenMachines_X4_machineAt
theorem dX4_brokenMachines_0 : decode cX4_brokenMachines 0 = .ok (.iconst 0, 1) := by decide +kernel
theorem dX4_brokenMachines_1 : decode cX4_brokenMachines 1 = .ok (.istore_n 1, 1) := by decide +kernel
theorem dX4_brokenMachines_2 : decode cX4_brokenMachines 2 = .ok (.iconst 0, 1) := by decide +kernel
theorem dX4_brokenMachines_3 : decode cX4_brokenMachines 3 = .ok (.istore_n 2, 1) := by decide +kernel
theorem dX4_brokenMachines_4 : decode cX4_brokenMachines 4 = .ok (.iload_n 2, 1) := by decide +kernel
theorem dX4_brokenMachines_5 : decode cX4_brokenMachines 5 = .ok (.aload_n 0, 1) := by decide +kernel
theorem dX4_brokenMachines_6 : decode cX4_brokenMachines 6 = .ok (.getfield 51, 3) := by decide +kernel
theorem dX4_brokenMachines_9 : decode cX4_brokenMachines 9 = .ok (.if_icmp .ge 29, 3) := by decide +kernel
theorem dX4_brokenMachines_12 : decode cX4_brokenMachines 12 = .ok (.aload_n 0, 1) := by decide +kernel
theorem dX4_brokenMachines_13 : decode cX4_brokenMachines 13 = .ok (.iload_n 2, 1) := by decide +kernel
theorem dX4_brokenMachines_14 : decode cX4_brokenMachines 14 = .ok (.invokevirtual 54, 3) := by decide +kernel
theorem dX4_brokenMachines_17 : decode cX4_brokenMachines 17 = .ok (.astore_n 3, 1) := by decide +kernel
theorem dX4_brokenMachines_18 : decode cX4_brokenMachines 18 = .ok (.aload_n 3, 1) := by decide +kernel
theorem dX4_brokenMachines_19 : decode cX4_brokenMachines 19 = .ok (.ifnull 13, 3) := by decide +kernel
theorem dX4_brokenMachines_22 : decode cX4_brokenMachines 22 = .ok (.aload_n 3, 1) := by decide +kernel
theorem dX4_brokenMachines_23 : decode cX4_brokenMachines 23 = .ok (.getfield 127, 3) := by decide +kernel
theorem dX4_brokenMachines_26 : decode cX4_brokenMachines 26 = .ok (.ifCond .eq 6, 3) := by decide +kernel
theorem dX4_brokenMachines_29 : decode cX4_brokenMachines 29 = .ok (.iinc 1 1, 3) := by decide +kernel
theorem dX4_brokenMachines_32 : decode cX4_brokenMachines 32 = .ok (.iinc 2 1, 3) := by decide +kernel
theorem dX4_brokenMachines_35 : decode cX4_brokenMachines 35 = .ok (.goto (-31), 3) := by decide +kernel
theorem dX4_brokenMachines_38 : decode cX4_brokenMachines 38 = .ok (.iload_n 1, 1) := by decide +kernel
theorem dX4_brokenMachines_39 : decode cX4_brokenMachines 39 = .ok (.ireturn, 1) := by decide +kernel
theorem dX4_isWet_0 : decode cX4_isWet 0 = .ok (.sipush 421, 3) := by decide +kernel
theorem dX4_isWet_3 : decode cX4_isWet 3 = .ok (.iload_n 1, 1) := by decide +kernel
theorem dX4_isWet_4 : decode cX4_isWet 4 = .ok (.aload_n 0, 1) := by decide +kernel
theorem dX4_isWet_5 : decode cX4_isWet 5 = .ok (.getfield 86, 3) := by decide +kernel
theorem dX4_isWet_8 : decode cX4_isWet 8 = .ok (.iadd, 1) := by decide +kernel
theorem dX4_isWet_9 : decode cX4_isWet 9 = .ok (.imul, 1) := by decide +kernel
theorem dX4_isWet_10 : decode cX4_isWet 10 = .ok (.sipush 1663, 3) := by decide +kernel
theorem dX4_isWet_13 : decode cX4_isWet 13 = .ok (.iadd, 1) := by decide +kernel
theorem dX4_isWet_14 : decode cX4_isWet 14 = .ok (.sipush 10000, 3) := by decide +kernel
theorem dX4_isWet_17 : decode cX4_isWet 17 = .ok (.irem, 1) := by decide +kernel
theorem dX4_isWet_18 : decode cX4_isWet 18 = .ok (.bipush 16, 2) := by decide +kernel
theorem dX4_isWet_20 : decode cX4_isWet 20 = .ok (.idiv, 1) := by decide +kernel
theorem dX4_isWet_21 : decode cX4_isWet 21 = .ok (.iconst 4, 1) := by decide +kernel
theorem dX4_isWet_22 : decode cX4_isWet 22 = .ok (.irem, 1) := by decide +kernel
theorem dX4_isWet_23 : decode cX4_isWet 23 = .ok (.ifCond .ne 7, 3) := by decide +kernel
theorem dX4_isWet_26 : decode cX4_isWet 26 = .ok (.iconst 1, 1) := by decide +kernel
theorem dX4_isWet_27 : decode cX4_isWet 27 = .ok (.goto 4, 3) := by decide +kernel
theorem dX4_isWet_30 : decode cX4_isWet 30 = .ok (.iconst 0, 1) := by decide +kernel
theorem dX4_isWet_31 : decode cX4_isWet 31 = .ok (.ireturn, 1) := by decide +kernel
set_option maxRecDepth 20000 in
theorem ggX4_chargeOf_X4_machineAt : GoodIn wsX4_chargeOf wsX4_machineAt := goodIn_r _ [11, 12, 13, 47, 48, 49, 50, 51, 52, 53, 54, 55, 56, 57, 58, 59, 60, 61, 62] (by decide +kernel) (by decide +kernel)
set_option maxRecDepth 20000 in
theorem gX4_chargeOf_X4_machineAt : GoodIn wsX4_chargeOf (wsV RX4 54 RX4 yX4_machineAt wsX4_machineAt) := goodIn_app (goodIn_of _ (by decide +kernel)) ggX4_chargeOf_X4_machineAt
set_option maxRecDepth 20000 in
theorem ggX4_chargeOf_X4_farmerAt : GoodIn wsX4_chargeOf wsX4_farmerAt := goodIn_r _ [17, 18, 47, 48, 49, 50, 51, 52, 53, 54, 55, 56, 57, 58, 59, 60, 61, 62] (by decide +kernel) (by decide +kernel)
set_option maxRecDepth 20000 in
theorem gX4_chargeOf_X4_farmerAt : GoodIn wsX4_chargeOf (wsV RX4 43 RX4 yX4_farmerAt wsX4_farmerAt) := goodIn_app (goodIn_of _ (by decide +kernel)) ggX4_chargeOf_X4_farmerAt
set_option maxRecDepth 20000 in
theorem ggX4_chargeOf_X6_seasonOf : GoodIn wsX4_chargeOf wsX6_seasonOf := goodIn_r _ [21] (by decide +kernel) (by decide +kernel)
set_option maxRecDepth 20000 in
theorem gX4_chargeOf_X6_seasonOf_n168 : GoodIn wsX4_chargeOf (wsX6_seasonOf) := ggX4_chargeOf_X6_seasonOf
set_option maxRecDepth 20000 in
theorem ggX4_chargeOf_X6_factorOf : GoodIn wsX4_chargeOf wsX6_factorOf := goodIn_r _ [23, 24, 25, 26] (by decide +kernel) (by decide +kernel)
set_option maxRecDepth 20000 in
theorem gX4_chargeOf_X6_factorOf_n171 : GoodIn wsX4_chargeOf (wsX6_factorOf) := ggX4_chargeOf_X6_factorOf
set_option maxRecDepth 20000 in
theorem ggX4_chargeOf_X1_mayDrive : GoodIn wsX4_chargeOf wsX1_mayDrive := goodIn_r _ [31, 32, 63, 64, 65, 66, 67, 68] (by decide +kernel) (by decide +kernel)
set_option maxRecDepth 20000 in
theorem gX4_chargeOf_X1_mayDrive : GoodIn wsX4_chargeOf (wsV RX4 175 RX1 yX1_mayDrive wsX1_mayDrive) := goodIn_app (goodIn_of _ (by decide +kernel)) ggX4_chargeOf_X1_mayDrive
theorem dX4_chargeOf_0 : decode cX4_chargeOf 0 = .ok (.aload_n 0, 1) := by decide +kernel
theorem dX4_chargeOf_1 : decode cX4_chargeOf 1 = .ok (.aload_n 1, 1) := by decide +kernel
theorem dX4_chargeOf_2 : decode cX4_chargeOf 2 = .ok (.getfield 148, 3) := by decide +kernel
theorem dX4_chargeOf_5 : decode cX4_chargeOf 5 = .ok (.invokevirtual 54, 3) := by decide +kernel
theorem dX4_chargeOf_8 : decode cX4_chargeOf 8 = .ok (.astore_n 2, 1) := by decide +kernel
theorem dX4_chargeOf_9 : decode cX4_chargeOf 9 = .ok (.aload_n 0, 1) := by decide +kernel
theorem dX4_chargeOf_10 : decode cX4_chargeOf 10 = .ok (.aload_n 1, 1) := by decide +kernel
theorem dX4_chargeOf_11 : decode cX4_chargeOf 11 = .ok (.getfield 145, 3) := by decide +kernel
theorem dX4_chargeOf_14 : decode cX4_chargeOf 14 = .ok (.invokevirtual 43, 3) := by decide +kernel
theorem dX4_chargeOf_17 : decode cX4_chargeOf 17 = .ok (.astore_n 3, 1) := by decide +kernel
theorem dX4_chargeOf_18 : decode cX4_chargeOf 18 = .ok (.aload_n 2, 1) := by decide +kernel
theorem dX4_chargeOf_19 : decode cX4_chargeOf 19 = .ok (.ifnull 7, 3) := by decide +kernel
theorem dX4_chargeOf_22 : decode cX4_chargeOf 22 = .ok (.aload_n 3, 1) := by decide +kernel
theorem dX4_chargeOf_23 : decode cX4_chargeOf 23 = .ok (.ifnonnull 5, 3) := by decide +kernel
theorem dX4_chargeOf_26 : decode cX4_chargeOf 26 = .ok (.iconst 0, 1) := by decide +kernel
theorem dX4_chargeOf_27 : decode cX4_chargeOf 27 = .ok (.ireturn, 1) := by decide +kernel
theorem dX4_chargeOf_28 : decode cX4_chargeOf 28 = .ok (.aload_n 1, 1) := by decide +kernel
theorem dX4_chargeOf_29 : decode cX4_chargeOf 29 = .ok (.getfield 152, 3) := by decide +kernel
theorem dX4_chargeOf_32 : decode cX4_chargeOf 32 = .ok (.aload_n 2, 1) := by decide +kernel
theorem dX4_chargeOf_33 : decode cX4_chargeOf 33 = .ok (.getfield 165, 3) := by decide +kernel
theorem dX4_chargeOf_36 : decode cX4_chargeOf 36 = .ok (.imul, 1) := by decide +kernel
theorem dX4_chargeOf_37 : decode cX4_chargeOf 37 = .ok (.i2f, 1) := by decide +kernel
theorem dX4_chargeOf_38 : decode cX4_chargeOf 38 = .ok (.aload_n 1, 1) := by decide +kernel
theorem dX4_chargeOf_39 : decode cX4_chargeOf 39 = .ok (.getfield 151, 3) := by decide +kernel
theorem dX4_chargeOf_42 : decode cX4_chargeOf 42 = .ok (.invokestatic 168, 3) := by decide +kernel
theorem dX4_chargeOf_45 : decode cX4_chargeOf 45 = .ok (.invokestatic 171, 3) := by decide +kernel
theorem dX4_chargeOf_48 : decode cX4_chargeOf 48 = .ok (.fmul, 1) := by decide +kernel
theorem dX4_chargeOf_49 : decode cX4_chargeOf 49 = .ok (.f2i, 1) := by decide +kernel
theorem dX4_chargeOf_50 : decode cX4_chargeOf 50 = .ok (.istore 4, 2) := by decide +kernel
theorem dX4_chargeOf_52 : decode cX4_chargeOf 52 = .ok (.aload_n 3, 1) := by decide +kernel
theorem dX4_chargeOf_53 : decode cX4_chargeOf 53 = .ok (.aload_n 2, 1) := by decide +kernel
theorem dX4_chargeOf_54 : decode cX4_chargeOf 54 = .ok (.getfield 101, 3) := by decide +kernel
theorem dX4_chargeOf_57 : decode cX4_chargeOf 57 = .ok (.invokevirtual 175, 3) := by decide +kernel
theorem dX4_chargeOf_60 : decode cX4_chargeOf 60 = .ok (.ifCond .eq 8, 3) := by decide +kernel
theorem dX4_chargeOf_63 : decode cX4_chargeOf 63 = .ok (.iload 4, 2) := by decide +kernel
theorem dX4_chargeOf_65 : decode cX4_chargeOf 65 = .ok (.goto 13, 3) := by decide +kernel
theorem dX4_chargeOf_68 : decode cX4_chargeOf 68 = .ok (.iload 4, 2) := by decide +kernel
theorem dX4_chargeOf_70 : decode cX4_chargeOf 70 = .ok (.bipush 6, 2) := by decide +kernel
theorem dX4_chargeOf_72 : decode cX4_chargeOf 72 = .ok (.aload_n 1, 1) := by decide +kernel
theorem dX4_chargeOf_73 : decode cX4_chargeOf 73 = .ok (.getfield 152, 3) := by decide +kernel
theorem dX4_chargeOf_76 : decode cX4_chargeOf 76 = .ok (.imul, 1) := by decide +kernel
theorem dX4_chargeOf_77 : decode cX4_chargeOf 77 = .ok (.iadd, 1) := by decide +kernel
theorem dX4_chargeOf_78 : decode cX4_chargeOf 78 = .ok (.ireturn, 1) := by decide +kernel
set_option maxRecDepth 20000 in
theorem ggX4_passDay_X4_settle : GoodIn wsX4_passDay wsX4_settle := goodIn_r _ [7, 8, 1, 9, 10, 11, 12, 13, 14, 15, 16, 17, 6, 18, 2, 19, 20, 21, 22, 23, 24, 25, 26, 27, 28, 29, 30, 31, 32, 33, 34, 35, 36, 37, 38, 39, 40, 41, 42, 43, 44, 45, 46, 47, 48, 49, 50, 51, 52, 53, 54, 55, 56, 57, 58, 59, 60, 61, 62, 63, 64, 65, 66, 67, 68, 69, 70, 71, 72, 73, 74, 75, 76, 77, 78, 79, 80, 81, 82, 83, 84, 85, 86, 87, 88, 89, 90, 91, 92, 93, 94, 95, 96, 97, 98, 99, 100, 101, 102, 103, 104, 105, 106, 107, 108, 109, 110, 111, 112, 129, 130, 131, 132, 133, 134, 113, 114, 115, 116, 117, 118, 119, 120, 121, 122, 123, 124, 125, 126, 127, 128, 135, 136, 137, 138, 139, 140, 141, 142, 143, 144, 145, 146, 147, 148] (by decide +kernel) (by decide +kernel)
set_option maxRecDepth 20000 in
theorem gX4_passDay_X4_settle : GoodIn wsX4_passDay (wsV RX4 179 RX4 yX4_settle wsX4_settle) := goodIn_app (goodIn_of _ (by decide +kernel)) ggX4_passDay_X4_settle
theorem dX4_passDay_0 : decode cX4_passDay 0 = .ok (.aload_n 0, 1) := by decide +kernel
theorem dX4_passDay_1 : decode cX4_passDay 1 = .ok (.dup, 1) := by decide +kernel
theorem dX4_passDay_2 : decode cX4_passDay 2 = .ok (.getfield 71, 3) := by decide +kernel
theorem dX4_passDay_5 : decode cX4_passDay 5 = .ok (.iconst 1, 1) := by decide +kernel
theorem dX4_passDay_6 : decode cX4_passDay 6 = .ok (.iadd, 1) := by decide +kernel
theorem dX4_passDay_7 : decode cX4_passDay 7 = .ok (.putfield 71, 3) := by decide +kernel
theorem dX4_passDay_10 : decode cX4_passDay 10 = .ok (.aload_n 0, 1) := by decide +kernel
theorem dX4_passDay_11 : decode cX4_passDay 11 = .ok (.getfield 61, 3) := by decide +kernel
theorem dX4_passDay_14 : decode cX4_passDay 14 = .ok (.istore_n 1, 1) := by decide +kernel
theorem dX4_passDay_15 : decode cX4_passDay 15 = .ok (.iconst 0, 1) := by decide +kernel
theorem dX4_passDay_16 : decode cX4_passDay 16 = .ok (.istore_n 2, 1) := by decide +kernel
theorem dX4_passDay_17 : decode cX4_passDay 17 = .ok (.iconst 0, 1) := by decide +kernel
theorem dX4_passDay_18 : decode cX4_passDay 18 = .ok (.istore_n 3, 1) := by decide +kernel
theorem dX4_passDay_19 : decode cX4_passDay 19 = .ok (.iload_n 3, 1) := by decide +kernel
theorem dX4_passDay_20 : decode cX4_passDay 20 = .ok (.iload_n 1, 1) := by decide +kernel
theorem dX4_passDay_21 : decode cX4_passDay 21 = .ok (.if_icmp .ge 20, 3) := by decide +kernel
theorem dX4_passDay_24 : decode cX4_passDay 24 = .ok (.aload_n 0, 1) := by decide +kernel
theorem dX4_passDay_25 : decode cX4_passDay 25 = .ok (.iload_n 2, 1) := by decide +kernel
theorem dX4_passDay_26 : decode cX4_passDay 26 = .ok (.invokevirtual 179, 3) := by decide +kernel
theorem dX4_passDay_29 : decode cX4_passDay 29 = .ok (.ifCond .ne 6, 3) := by decide +kernel
theorem dX4_passDay_32 : decode cX4_passDay 32 = .ok (.iinc 2 1, 3) := by decide +kernel
theorem dX4_passDay_35 : decode cX4_passDay 35 = .ok (.iinc 3 1, 3) := by decide +kernel
theorem dX4_passDay_38 : decode cX4_passDay 38 = .ok (.goto (-19), 3) := by decide +kernel
theorem dX4_passDay_41 : decode cX4_passDay 41 = .ok (.return_, 1) := by decide +kernel
set_option maxRecDepth 20000 in
theorem ggX4_settle_X4_bookingAt : GoodIn wsX4_settle wsX4_bookingAt := goodIn_r _ [13, 14, 15, 115, 116, 117, 118, 119, 120, 121, 122, 123, 124, 125, 126, 127, 128, 129, 130] (by decide +kernel) (by decide +kernel)
set_option maxRecDepth 20000 in
theorem gX4_settle_X4_bookingAt : GoodIn wsX4_settle (wsV RX4 64 RX4 yX4_bookingAt wsX4_bookingAt) := goodIn_app (goodIn_of _ (by decide +kernel)) ggX4_settle_X4_bookingAt
set_option maxRecDepth 20000 in
theorem ggX4_settle_X4_machineAt : GoodIn wsX4_settle wsX4_machineAt := goodIn_r _ [19, 20, 21, 115, 116, 117, 118, 119, 120, 121, 122, 123, 124, 125, 126, 127, 128, 129, 130] (by decide +kernel) (by decide +kernel)
set_option maxRecDepth 20000 in
theorem gX4_settle_X4_machineAt : GoodIn wsX4_settle (wsV RX4 54 RX4 yX4_machineAt wsX4_machineAt) := goodIn_app (goodIn_of _ (by decide +kernel)) ggX4_settle_X4_machineAt
set_option maxRecDepth 20000 in
theorem ggX4_settle_X4_farmerAt : GoodIn wsX4_settle wsX4_farmerAt := goodIn_r _ [25, 26, 115, 116, 117, 118, 119, 120, 121, 122, 123, 124, 125, 126, 127, 128, 129, 130] (by decide +kernel) (by decide +kernel)
set_option maxRecDepth 20000 in
theorem gX4_settle_X4_farmerAt : GoodIn wsX4_settle (wsV RX4 43 RX4 yX4_farmerAt wsX4_farmerAt) := goodIn_app (goodIn_of _ (by decide +kernel)) ggX4_settle_X4_farmerAt
set_option maxRecDepth 20000 in
theorem ggX4_settle_X4_canWork : GoodIn wsX4_settle wsX4_canWork := goodIn_r _ [30, 31, 2, 32, 33, 34, 35, 36, 12, 37, 38, 39, 40, 41, 42, 43, 44, 45, 46, 47, 48, 49, 50, 137, 138, 139, 140, 141, 142, 143, 144, 115, 116, 117, 118, 119, 120, 121, 122, 123, 124, 125, 126, 127, 128, 129, 130] (by decide +kernel) (by decide +kernel)
set_option maxRecDepth 20000 in
theorem gX4_settle_X4_canWork : GoodIn wsX4_settle (wsV RX4 182 RX4 yX4_canWork wsX4_canWork) := goodIn_app (goodIn_of _ (by decide +kernel)) ggX4_settle_X4_canWork
set_option maxRecDepth 20000 in
theorem ggX4_settle_X4_putOff : GoodIn wsX4_settle wsX4_putOff := goodIn_r _ [54, 55, 56, 3, 2, 5, 1, 57, 58, 59, 12, 60, 14, 9, 10, 11, 13, 15, 61, 62, 63, 64, 65, 66, 67, 109, 110, 111, 112, 113, 114, 115, 116, 117, 118, 119, 120, 121, 122, 123, 124, 125, 126, 127, 128, 129, 130] (by decide +kernel) (by decide +kernel)
set_option maxRecDepth 20000 in
theorem gX4_settle_X4_putOff : GoodIn wsX4_settle (wsV RX4 186 RX4 yX4_putOff wsX4_putOff) := goodIn_app (goodIn_of _ (by decide +kernel)) ggX4_settle_X4_putOff
set_option maxRecDepth 20000 in
theorem ggX4_settle_X4_chargeOf : GoodIn wsX4_settle wsX4_chargeOf := goodIn_r _ [71, 3, 4, 5, 72, 1, 31, 16, 17, 18, 12, 19, 20, 21, 22, 23, 24, 25, 26, 73, 46, 74, 75, 76, 77, 78, 79, 80, 81, 82, 83, 84, 85, 109, 110, 111, 112, 113, 114, 137, 138, 139, 140, 141, 142, 143, 144, 115, 116, 117, 118, 119, 120, 121, 122, 123, 124, 125, 126, 127, 128, 129, 130, 131, 132, 133, 134, 135, 136] (by decide +kernel) (by decide +kernel)
set_option maxRecDepth 20000 in
theorem gX4_settle_X4_chargeOf : GoodIn wsX4_settle (wsV RX4 189 RX4 yX4_chargeOf wsX4_chargeOf) := goodIn_app (goodIn_of _ (by decide +kernel)) ggX4_settle_X4_chargeOf
set_option maxRecDepth 20000 in
theorem ggX4_settle_X1_charge : GoodIn wsX4_settle wsX1_charge := goodIn_r _ [89, 90, 91, 131, 132, 133, 134, 135, 136] (by decide +kernel) (by decide +kernel)
set_option maxRecDepth 20000 in
theorem gX4_settle_X1_charge : GoodIn wsX4_settle (wsV RX4 193 RX1 yX1_charge wsX1_charge) := goodIn_app (goodIn_of _ (by decide +kernel)) ggX4_settle_X1_charge
set_option maxRecDepth 20000 in
theorem ggX4_settle_X3_work : GoodIn wsX4_settle wsX3_work := goodIn_r _ [95, 96, 97, 98, 99, 100, 40, 41, 42, 43, 44, 45, 46, 47, 48, 49, 50, 101, 102, 103, 104, 137, 138, 139, 140, 141, 142, 143, 144] (by decide +kernel) (by decide +kernel)
set_option maxRecDepth 20000 in
theorem gX4_settle_X3_work : GoodIn wsX4_settle (wsV RX4 197 RX3 yX3_work wsX3_work) := goodIn_app (goodIn_of _ (by decide +kernel)) ggX4_settle_X3_work
set_option maxRecDepth 20000 in
theorem ggX4_settle_X4_removeBookingAt : GoodIn wsX4_settle wsX4_removeBookingAt := goodIn_r _ [108, 14, 15, 115, 116, 117, 118, 119, 120, 121, 122, 123, 124, 125, 126, 127, 128, 129, 130] (by decide +kernel) (by decide +kernel)
set_option maxRecDepth 20000 in
theorem gX4_settle_X4_removeBookingAt : GoodIn wsX4_settle (wsV RX4 200 RX4 yX4_removeBookingAt wsX4_removeBookingAt) := goodIn_app (goodIn_of _ (by decide +kernel)) ggX4_settle_X4_removeBookingAt
theorem dX4_settle_0 : decode cX4_settle 0 = .ok (.aload_n 0, 1) := by decide +kernel
theorem dX4_settle_1 : decode cX4_settle 1 = .ok (.iload_n 1, 1) := by decide +kernel
theorem dX4_settle_2 : decode cX4_settle 2 = .ok (.invokevirtual 64, 3) := by decide +kernel
theorem dX4_settle_5 : decode cX4_settle 5 = .ok (.astore_n 2, 1) := by decide +kernel
theorem dX4_settle_6 : decode cX4_settle 6 = .ok (.aload_n 2, 1) := by decide +kernel
theorem dX4_settle_7 : decode cX4_settle 7 = .ok (.ifnull 14, 3) := by decide +kernel
theorem dX4_settle_10 : decode cX4_settle 10 = .ok (.aload_n 2, 1) := by decide +kernel
theorem dX4_settle_11 : decode cX4_settle 11 = .ok (.getfield 151, 3) := by decide +kernel
theorem dX4_settle_14 : decode cX4_settle 14 = .ok (.aload_n 0, 1) := by decide +kernel
theorem dX4_settle_15 : decode cX4_settle 15 = .ok (.getfield 71, 3) := by decide +kernel
theorem dX4_settle_18 : decode cX4_settle 18 = .ok (.if_icmp .eq 5, 3) := by decide +kernel
theorem dX4_settle_21 : decode cX4_settle 21 = .ok (.iconst 0, 1) := by decide +kernel
theorem dX4_settle_22 : decode cX4_settle 22 = .ok (.ireturn, 1) := by decide +kernel
theorem dX4_settle_23 : decode cX4_settle 23 = .ok (.aload_n 0, 1) := by decide +kernel
theorem dX4_settle_24 : decode cX4_settle 24 = .ok (.aload_n 2, 1) := by decide +kernel
theorem dX4_settle_25 : decode cX4_settle 25 = .ok (.getfield 148, 3) := by decide +kernel
theorem dX4_settle_28 : decode cX4_settle 28 = .ok (.invokevirtual 54, 3) := by decide +kernel
theorem dX4_settle_31 : decode cX4_settle 31 = .ok (.astore_n 3, 1) := by decide +kernel
theorem dX4_settle_32 : decode cX4_settle 32 = .ok (.aload_n 0, 1) := by decide +kernel
theorem dX4_settle_33 : decode cX4_settle 33 = .ok (.aload_n 2, 1) := by decide +kernel
theorem dX4_settle_34 : decode cX4_settle 34 = .ok (.getfield 145, 3) := by decide +kernel
theorem dX4_settle_37 : decode cX4_settle 37 = .ok (.invokevirtual 43, 3) := by decide +kernel
theorem dX4_settle_40 : decode cX4_settle 40 = .ok (.astore 4, 2) := by decide +kernel
theorem dX4_settle_42 : decode cX4_settle 42 = .ok (.aload_n 3, 1) := by decide +kernel
theorem dX4_settle_43 : decode cX4_settle 43 = .ok (.ifnull 8, 3) := by decide +kernel
theorem dX4_settle_46 : decode cX4_settle 46 = .ok (.aload 4, 2) := by decide +kernel
theorem dX4_settle_48 : decode cX4_settle 48 = .ok (.ifnonnull 5, 3) := by decide +kernel
theorem dX4_settle_51 : decode cX4_settle 51 = .ok (.iconst 0, 1) := by decide +kernel
theorem dX4_settle_52 : decode cX4_settle 52 = .ok (.ireturn, 1) := by decide +kernel
theorem dX4_settle_53 : decode cX4_settle 53 = .ok (.aload_n 0, 1) := by decide +kernel
theorem dX4_settle_54 : decode cX4_settle 54 = .ok (.aload_n 3, 1) := by decide +kernel
theorem dX4_settle_55 : decode cX4_settle 55 = .ok (.aload_n 2, 1) := by decide +kernel
theorem dX4_settle_56 : decode cX4_settle 56 = .ok (.getfield 152, 3) := by decide +kernel
theorem dX4_settle_59 : decode cX4_settle 59 = .ok (.invokevirtual 182, 3) := by decide +kernel
theorem dX4_settle_62 : decode cX4_settle 62 = .ok (.ifCond .ne 10, 3) := by decide +kernel
theorem dX4_settle_65 : decode cX4_settle 65 = .ok (.aload_n 0, 1) := by decide +kernel
theorem dX4_settle_66 : decode cX4_settle 66 = .ok (.aload_n 2, 1) := by decide +kernel
theorem dX4_settle_67 : decode cX4_settle 67 = .ok (.invokevirtual 186, 3) := by decide +kernel
theorem dX4_settle_70 : decode cX4_settle 70 = .ok (.iconst 0, 1) := by decide +kernel
theorem dX4_settle_71 : decode cX4_settle 71 = .ok (.ireturn, 1) := by decide +kernel
theorem dX4_settle_72 : decode cX4_settle 72 = .ok (.aload 4, 2) := by decide +kernel
theorem dX4_settle_74 : decode cX4_settle 74 = .ok (.aload_n 0, 1) := by decide +kernel
theorem dX4_settle_75 : decode cX4_settle 75 = .ok (.aload_n 2, 1) := by decide +kernel
theorem dX4_settle_76 : decode cX4_settle 76 = .ok (.invokevirtual 189, 3) := by decide +kernel
theorem dX4_settle_79 : decode cX4_settle 79 = .ok (.invokevirtual 193, 3) := by decide +kernel
theorem dX4_settle_82 : decode cX4_settle 82 = .ok (.aload 4, 2) := by decide +kernel
theorem dX4_settle_84 : decode cX4_settle 84 = .ok (.dup, 1) := by decide +kernel
theorem dX4_settle_85 : decode cX4_settle 85 = .ok (.getfield 196, 3) := by decide +kernel
theorem dX4_settle_88 : decode cX4_settle 88 = .ok (.aload_n 2, 1) := by decide +kernel
theorem dX4_settle_89 : decode cX4_settle 89 = .ok (.getfield 152, 3) := by decide +kernel
theorem dX4_settle_92 : decode cX4_settle 92 = .ok (.iadd, 1) := by decide +kernel
theorem dX4_settle_93 : decode cX4_settle 93 = .ok (.putfield 196, 3) := by decide +kernel
theorem dX4_settle_96 : decode cX4_settle 96 = .ok (.aload_n 3, 1) := by decide +kernel
theorem dX4_settle_97 : decode cX4_settle 97 = .ok (.aload_n 2, 1) := by decide +kernel
theorem dX4_settle_98 : decode cX4_settle 98 = .ok (.getfield 145, 3) := by decide +kernel
theorem dX4_settle_101 : decode cX4_settle 101 = .ok (.aload_n 2, 1) := by decide +kernel
theorem dX4_settle_102 : decode cX4_settle 102 = .ok (.getfield 152, 3) := by decide +kernel
theorem dX4_settle_105 : decode cX4_settle 105 = .ok (.aload_n 0, 1) := by decide +kernel
theorem dX4_settle_106 : decode cX4_settle 106 = .ok (.getfield 32, 3) := by decide +kernel
theorem dX4_settle_109 : decode cX4_settle 109 = .ok (.invokevirtual 197, 3) := by decide +kernel
theorem dX4_settle_112 : decode cX4_settle 112 = .ok (.aload_n 0, 1) := by decide +kernel
theorem dX4_settle_113 : decode cX4_settle 113 = .ok (.dup, 1) := by decide +kernel
theorem dX4_settle_114 : decode cX4_settle 114 = .ok (.getfield 77, 3) := by decide +kernel
theorem dX4_settle_117 : decode cX4_settle 117 = .ok (.iconst 1, 1) := by decide +kernel
theorem dX4_settle_118 : decode cX4_settle 118 = .ok (.iadd, 1) := by decide +kernel
theorem dX4_settle_119 : decode cX4_settle 119 = .ok (.putfield 77, 3) := by decide +kernel
theorem dX4_settle_122 : decode cX4_settle 122 = .ok (.aload_n 0, 1) := by decide +kernel
theorem dX4_settle_123 : decode cX4_settle 123 = .ok (.iload_n 1, 1) := by decide +kernel
theorem dX4_settle_124 : decode cX4_settle 124 = .ok (.invokevirtual 200, 3) := by decide +kernel
theorem dX4_settle_127 : decode cX4_settle 127 = .ok (.iconst 1, 1) := by decide +kernel
theorem dX4_settle_128 : decode cX4_settle 128 = .ok (.ireturn, 1) := by decide +kernel
set_option maxRecDepth 20000 in
theorem ggX4_canWork_X4_isWet : GoodIn wsX4_canWork wsX4_isWet := goodIn_r _ [9, 10, 31, 32, 33, 34, 35, 36, 37, 38, 39, 40, 41, 42, 43, 44, 45, 46] (by decide +kernel) (by decide +kernel)
set_option maxRecDepth 20000 in
theorem gX4_canWork_X4_isWet : GoodIn wsX4_canWork (wsV RX4 203 RX4 yX4_isWet wsX4_isWet) := goodIn_app (goodIn_of _ (by decide +kernel)) ggX4_canWork_X4_isWet
set_option maxRecDepth 20000 in
theorem ggX4_canWork_X3_fuelFor : GoodIn wsX4_canWork wsX3_fuelFor := goodIn_r _ [15, 16, 17, 18, 19, 20, 21, 22, 23, 24, 25, 26, 27, 28, 29, 30] (by decide +kernel) (by decide +kernel)
set_option maxRecDepth 20000 in
theorem gX4_canWork_X3_fuelFor : GoodIn wsX4_canWork (wsV RX4 210 RX3 yX3_fuelFor wsX3_fuelFor) := goodIn_app (goodIn_of _ (by decide +kernel)) ggX4_canWork_X3_fuelFor
theorem dX4_canWork_0 : decode cX4_canWork 0 = .ok (.aload_n 1, 1) := by decide +kernel
theorem dX4_canWork_1 : decode cX4_canWork 1 = .ok (.getfield 101, 3) := by decide +kernel
theorem dX4_canWork_4 : decode cX4_canWork 4 = .ok (.ifCond .eq 18, 3) := by decide +kernel
theorem dX4_canWork_7 : decode cX4_canWork 7 = .ok (.aload_n 0, 1) := by decide +kernel
theorem dX4_canWork_8 : decode cX4_canWork 8 = .ok (.aload_n 0, 1) := by decide +kernel
theorem dX4_canWork_9 : decode cX4_canWork 9 = .ok (.getfield 71, 3) := by decide +kernel
theorem dX4_canWork_12 : decode cX4_canWork 12 = .ok (.invokevirtual 203, 3) := by decide +kernel
theorem dX4_canWork_15 : decode cX4_canWork 15 = .ok (.ifCond .eq 7, 3) := by decide +kernel
theorem dX4_canWork_18 : decode cX4_canWork 18 = .ok (.iconst 1, 1) := by decide +kernel
theorem dX4_canWork_19 : decode cX4_canWork 19 = .ok (.goto 4, 3) := by decide +kernel
theorem dX4_canWork_22 : decode cX4_canWork 22 = .ok (.iconst 0, 1) := by decide +kernel
theorem dX4_canWork_23 : decode cX4_canWork 23 = .ok (.istore_n 3, 1) := by decide +kernel
theorem dX4_canWork_24 : decode cX4_canWork 24 = .ok (.iload_n 3, 1) := by decide +kernel
theorem dX4_canWork_25 : decode cX4_canWork 25 = .ok (.ifCond .ne 27, 3) := by decide +kernel
theorem dX4_canWork_28 : decode cX4_canWork 28 = .ok (.aload_n 1, 1) := by decide +kernel
theorem dX4_canWork_29 : decode cX4_canWork 29 = .ok (.getfield 127, 3) := by decide +kernel
theorem dX4_canWork_32 : decode cX4_canWork 32 = .ok (.ifCond .ne 20, 3) := by decide +kernel
theorem dX4_canWork_35 : decode cX4_canWork 35 = .ok (.aload_n 1, 1) := by decide +kernel
theorem dX4_canWork_36 : decode cX4_canWork 36 = .ok (.getfield 206, 3) := by decide +kernel
theorem dX4_canWork_39 : decode cX4_canWork 39 = .ok (.aload_n 1, 1) := by decide +kernel
theorem dX4_canWork_40 : decode cX4_canWork 40 = .ok (.iload_n 2, 1) := by decide +kernel
theorem dX4_canWork_41 : decode cX4_canWork 41 = .ok (.invokevirtual 210, 3) := by decide +kernel
theorem dX4_canWork_44 : decode cX4_canWork 44 = .ok (.fcmp .l, 1) := by decide +kernel
theorem dX4_canWork_45 : decode cX4_canWork 45 = .ok (.ifCond .lt 7, 3) := by decide +kernel
theorem dX4_canWork_48 : decode cX4_canWork 48 = .ok (.iconst 1, 1) := by decide +kernel
theorem dX4_canWork_49 : decode cX4_canWork 49 = .ok (.goto 4, 3) := by decide +kernel
theorem dX4_canWork_52 : decode cX4_canWork 52 = .ok (.iconst 0, 1) := by decide +kernel
theorem dX4_canWork_53 : decode cX4_canWork 53 = .ok (.ireturn, 1) := by decide +kernel
set_option maxRecDepth 20000 in
theorem ggX4_putOff_X4_hoursOn : GoodIn wsX4_putOff wsX4_hoursOn := goodIn_r _ [11, 12, 5, 13, 14, 15, 10, 16, 17, 18, 19, 20, 21, 22, 23, 24, 31, 32, 33, 34, 35, 36, 37, 38, 39, 40, 41, 42, 43, 44, 45, 46, 25, 26, 27, 28, 29, 30] (by decide +kernel) (by decide +kernel)
set_option maxRecDepth 20000 in
theorem gX4_putOff_X4_hoursOn : GoodIn wsX4_putOff (wsV RX4 140 RX4 yX4_hoursOn wsX4_hoursOn) := goodIn_app (goodIn_of _ (by decide +kernel)) ggX4_putOff_X4_hoursOn
theorem dX4_putOff_0 : decode cX4_putOff 0 = .ok (.aload_n 1, 1) := by decide +kernel
theorem dX4_putOff_1 : decode cX4_putOff 1 = .ok (.dup, 1) := by decide +kernel
theorem dX4_putOff_2 : decode cX4_putOff 2 = .ok (.getfield 155, 3) := by decide +kernel
theorem dX4_putOff_5 : decode cX4_putOff 5 = .ok (.iconst 1, 1) := by decide +kernel
theorem dX4_putOff_6 : decode cX4_putOff 6 = .ok (.iadd, 1) := by decide +kernel
theorem dX4_putOff_7 : decode cX4_putOff 7 = .ok (.putfield 155, 3) := by decide +kernel
theorem dX4_putOff_10 : decode cX4_putOff 10 = .ok (.aload_n 0, 1) := by decide +kernel
theorem dX4_putOff_11 : decode cX4_putOff 11 = .ok (.dup, 1) := by decide +kernel
theorem dX4_putOff_12 : decode cX4_putOff 12 = .ok (.getfield 80, 3) := by decide +kernel
theorem dX4_putOff_15 : decode cX4_putOff 15 = .ok (.iconst 1, 1) := by decide +kernel
theorem dX4_putOff_16 : decode cX4_putOff 16 = .ok (.iadd, 1) := by decide +kernel
theorem dX4_putOff_17 : decode cX4_putOff 17 = .ok (.putfield 80, 3) := by decide +kernel
theorem dX4_putOff_20 : decode cX4_putOff 20 = .ok (.iconst 1, 1) := by decide +kernel
theorem dX4_putOff_21 : decode cX4_putOff 21 = .ok (.istore_n 2, 1) := by decide +kernel
theorem dX4_putOff_22 : decode cX4_putOff 22 = .ok (.iload_n 2, 1) := by decide +kernel
theorem dX4_putOff_23 : decode cX4_putOff 23 = .ok (.bipush 30, 2) := by decide +kernel
theorem dX4_putOff_25 : decode cX4_putOff 25 = .ok (.if_icmp .gt 44, 3) := by decide +kernel
theorem dX4_putOff_28 : decode cX4_putOff 28 = .ok (.aload_n 0, 1) := by decide +kernel
theorem dX4_putOff_29 : decode cX4_putOff 29 = .ok (.aload_n 1, 1) := by decide +kernel
theorem dX4_putOff_30 : decode cX4_putOff 30 = .ok (.getfield 148, 3) := by decide +kernel
theorem dX4_putOff_33 : decode cX4_putOff 33 = .ok (.aload_n 0, 1) := by decide +kernel
theorem dX4_putOff_34 : decode cX4_putOff 34 = .ok (.getfield 71, 3) := by decide +kernel
theorem dX4_putOff_37 : decode cX4_putOff 37 = .ok (.iload_n 2, 1) := by decide +kernel
theorem dX4_putOff_38 : decode cX4_putOff 38 = .ok (.iadd, 1) := by decide +kernel
theorem dX4_putOff_39 : decode cX4_putOff 39 = .ok (.invokevirtual 140, 3) := by decide +kernel
theorem dX4_putOff_42 : decode cX4_putOff 42 = .ok (.aload_n 1, 1) := by decide +kernel
theorem dX4_putOff_43 : decode cX4_putOff 43 = .ok (.getfield 152, 3) := by decide +kernel
theorem dX4_putOff_46 : decode cX4_putOff 46 = .ok (.iadd, 1) := by decide +kernel
theorem dX4_putOff_47 : decode cX4_putOff 47 = .ok (.bipush 12, 2) := by decide +kernel
theorem dX4_putOff_49 : decode cX4_putOff 49 = .ok (.if_icmp .gt 14, 3) := by decide +kernel
theorem dX4_putOff_52 : decode cX4_putOff 52 = .ok (.aload_n 1, 1) := by decide +kernel
theorem dX4_putOff_53 : decode cX4_putOff 53 = .ok (.aload_n 0, 1) := by decide +kernel
theorem dX4_putOff_54 : decode cX4_putOff 54 = .ok (.getfield 71, 3) := by decide +kernel
theorem dX4_putOff_57 : decode cX4_putOff 57 = .ok (.iload_n 2, 1) := by decide +kernel
theorem dX4_putOff_58 : decode cX4_putOff 58 = .ok (.iadd, 1) := by decide +kernel
theorem dX4_putOff_59 : decode cX4_putOff 59 = .ok (.putfield 151, 3) := by decide +kernel
theorem dX4_putOff_62 : decode cX4_putOff 62 = .ok (.return_, 1) := by decide +kernel
theorem dX4_putOff_63 : decode cX4_putOff 63 = .ok (.iinc 2 1, 3) := by decide +kernel
theorem dX4_putOff_66 : decode cX4_putOff 66 = .ok (.goto (-44), 3) := by decide +kernel
theorem dX4_putOff_69 : decode cX4_putOff 69 = .ok (.return_, 1) := by decide +kernel
set_option maxRecDepth 20000 in
theorem ggX4_daysOfFuel_X4_bookingAt : GoodIn wsX4_daysOfFuel wsX4_bookingAt := goodIn_r _ [10, 2, 11, 39, 40, 41, 42, 43, 44, 45, 46, 47, 48, 49, 50, 51, 52, 53, 54] (by decide +kernel) (by decide +kernel)
set_option maxRecDepth 20000 in
theorem gX4_daysOfFuel_X4_bookingAt : GoodIn wsX4_daysOfFuel (wsV RX4 64 RX4 yX4_bookingAt wsX4_bookingAt) := goodIn_app (goodIn_of _ (by decide +kernel)) ggX4_daysOfFuel_X4_bookingAt
set_option maxRecDepth 20000 in
theorem ggX4_daysOfFuel_X0_isFor : GoodIn wsX4_daysOfFuel wsX0_isFor := goodIn_r _ [16, 17, 18, 55, 56, 57, 58, 59, 60] (by decide +kernel) (by decide +kernel)
set_option maxRecDepth 20000 in
theorem gX4_daysOfFuel_X0_isFor : GoodIn wsX4_daysOfFuel (wsV RX4 158 RX0 yX0_isFor wsX0_isFor) := goodIn_app (goodIn_of _ (by decide +kernel)) ggX4_daysOfFuel_X0_isFor
set_option maxRecDepth 20000 in
theorem ggX4_daysOfFuel_X3_fuelFor : GoodIn wsX4_daysOfFuel wsX3_fuelFor := goodIn_r _ [23, 24, 25, 26, 27, 28, 29, 30, 31, 32, 33, 34, 35, 36, 37, 38] (by decide +kernel) (by decide +kernel)
set_option maxRecDepth 20000 in
theorem gX4_daysOfFuel_X3_fuelFor : GoodIn wsX4_daysOfFuel (wsV RX4 210 RX3 yX3_fuelFor wsX3_fuelFor) := goodIn_app (goodIn_of _ (by decide +kernel)) ggX4_daysOfFuel_X3_fuelFor
theorem dX4_daysOfFuel_0 : decode cX4_daysOfFuel 0 = .ok (.aload_n 2, 1) := by decide +kernel
theorem dX4_daysOfFuel_1 : decode cX4_daysOfFuel 1 = .ok (.getfield 206, 3) := by decide +kernel
theorem dX4_daysOfFuel_4 : decode cX4_daysOfFuel 4 = .ok (.fstore_n 3, 1) := by decide +kernel
theorem dX4_daysOfFuel_5 : decode cX4_daysOfFuel 5 = .ok (.iconst 1, 1) := by decide +kernel
theorem dX4_daysOfFuel_6 : decode cX4_daysOfFuel 6 = .ok (.istore 4, 2) := by decide +kernel
theorem dX4_daysOfFuel_8 : decode cX4_daysOfFuel 8 = .ok (.iload 4, 2) := by decide +kernel
theorem dX4_daysOfFuel_10 : decode cX4_daysOfFuel 10 = .ok (.bipush 99, 2) := by decide +kernel
theorem dX4_daysOfFuel_12 : decode cX4_daysOfFuel 12 = .ok (.if_icmp .gt 85, 3) := by decide +kernel
theorem dX4_daysOfFuel_15 : decode cX4_daysOfFuel 15 = .ok (.iconst 0, 1) := by decide +kernel
theorem dX4_daysOfFuel_16 : decode cX4_daysOfFuel 16 = .ok (.istore 5, 2) := by decide +kernel
theorem dX4_daysOfFuel_18 : decode cX4_daysOfFuel 18 = .ok (.iload 5, 2) := by decide +kernel
theorem dX4_daysOfFuel_20 : decode cX4_daysOfFuel 20 = .ok (.aload_n 0, 1) := by decide +kernel
theorem dX4_daysOfFuel_21 : decode cX4_daysOfFuel 21 = .ok (.getfield 61, 3) := by decide +kernel
theorem dX4_daysOfFuel_24 : decode cX4_daysOfFuel 24 = .ok (.if_icmp .ge 67, 3) := by decide +kernel
theorem dX4_daysOfFuel_27 : decode cX4_daysOfFuel 27 = .ok (.aload_n 0, 1) := by decide +kernel
theorem dX4_daysOfFuel_28 : decode cX4_daysOfFuel 28 = .ok (.iload 5, 2) := by decide +kernel
theorem dX4_daysOfFuel_30 : decode cX4_daysOfFuel 30 = .ok (.invokevirtual 64, 3) := by decide +kernel
theorem dX4_daysOfFuel_33 : decode cX4_daysOfFuel 33 = .ok (.astore 6, 2) := by decide +kernel
theorem dX4_daysOfFuel_35 : decode cX4_daysOfFuel 35 = .ok (.aload 6, 2) := by decide +kernel
theorem dX4_daysOfFuel_37 : decode cX4_daysOfFuel 37 = .ok (.ifnull 48, 3) := by decide +kernel
theorem dX4_daysOfFuel_40 : decode cX4_daysOfFuel 40 = .ok (.aload 6, 2) := by decide +kernel
theorem dX4_daysOfFuel_42 : decode cX4_daysOfFuel 42 = .ok (.iload_n 1, 1) := by decide +kernel
theorem dX4_daysOfFuel_43 : decode cX4_daysOfFuel 43 = .ok (.aload_n 0, 1) := by decide +kernel
theorem dX4_daysOfFuel_44 : decode cX4_daysOfFuel 44 = .ok (.getfield 71, 3) := by decide +kernel
theorem dX4_daysOfFuel_47 : decode cX4_daysOfFuel 47 = .ok (.iload 4, 2) := by decide +kernel
theorem dX4_daysOfFuel_49 : decode cX4_daysOfFuel 49 = .ok (.iadd, 1) := by decide +kernel
theorem dX4_daysOfFuel_50 : decode cX4_daysOfFuel 50 = .ok (.invokevirtual 158, 3) := by decide +kernel
theorem dX4_daysOfFuel_53 : decode cX4_daysOfFuel 53 = .ok (.ifCond .eq 32, 3) := by decide +kernel
theorem dX4_daysOfFuel_56 : decode cX4_daysOfFuel 56 = .ok (.fload_n 3, 1) := by decide +kernel
theorem dX4_daysOfFuel_57 : decode cX4_daysOfFuel 57 = .ok (.aload_n 2, 1) := by decide +kernel
theorem dX4_daysOfFuel_58 : decode cX4_daysOfFuel 58 = .ok (.aload 6, 2) := by decide +kernel
theorem dX4_daysOfFuel_60 : decode cX4_daysOfFuel 60 = .ok (.getfield 152, 3) := by decide +kernel
theorem dX4_daysOfFuel_63 : decode cX4_daysOfFuel 63 = .ok (.invokevirtual 210, 3) := by decide +kernel
theorem dX4_daysOfFuel_66 : decode cX4_daysOfFuel 66 = .ok (.fcmp .g, 1) := by decide +kernel
theorem dX4_daysOfFuel_67 : decode cX4_daysOfFuel 67 = .ok (.ifCond .ge 6, 3) := by decide +kernel
theorem dX4_daysOfFuel_70 : decode cX4_daysOfFuel 70 = .ok (.iload 4, 2) := by decide +kernel
theorem dX4_daysOfFuel_72 : decode cX4_daysOfFuel 72 = .ok (.ireturn, 1) := by decide +kernel
theorem dX4_daysOfFuel_73 : decode cX4_daysOfFuel 73 = .ok (.fload_n 3, 1) := by decide +kernel
theorem dX4_daysOfFuel_74 : decode cX4_daysOfFuel 74 = .ok (.aload_n 2, 1) := by decide +kernel
theorem dX4_daysOfFuel_75 : decode cX4_daysOfFuel 75 = .ok (.aload 6, 2) := by decide +kernel
theorem dX4_daysOfFuel_77 : decode cX4_daysOfFuel 77 = .ok (.getfield 152, 3) := by decide +kernel
theorem dX4_daysOfFuel_80 : decode cX4_daysOfFuel 80 = .ok (.invokevirtual 210, 3) := by decide +kernel
theorem dX4_daysOfFuel_83 : decode cX4_daysOfFuel 83 = .ok (.fsub, 1) := by decide +kernel
theorem dX4_daysOfFuel_84 : decode cX4_daysOfFuel 84 = .ok (.fstore_n 3, 1) := by decide +kernel
theorem dX4_daysOfFuel_85 : decode cX4_daysOfFuel 85 = .ok (.iinc 5 1, 3) := by decide +kernel
theorem dX4_daysOfFuel_88 : decode cX4_daysOfFuel 88 = .ok (.goto (-70), 3) := by decide +kernel
theorem dX4_daysOfFuel_91 : decode cX4_daysOfFuel 91 = .ok (.iinc 4 1, 3) := by decide +kernel
theorem dX4_daysOfFuel_94 : decode cX4_daysOfFuel 94 = .ok (.goto (-86), 3) := by decide +kernel
theorem dX4_daysOfFuel_97 : decode cX4_daysOfFuel 97 = .ok (.ldc 213, 2) := by decide +kernel
theorem dX4_daysOfFuel_99 : decode cX4_daysOfFuel 99 = .ok (.ireturn, 1) := by decide +kernel
theorem dX5_init_0 : decode cX5_init 0 = .ok (.aload_n 0, 1) := by decide +kernel
theorem dX5_init_1 : decode cX5_init 1 = .ok (.invokespecial 3, 3) := by decide +kernel
theorem dX5_init_4 : decode cX5_init 4 = .ok (.aload_n 0, 1) := by decide +kernel
theorem dX5_init_5 : decode cX5_init 5 = .ok (.bipush 60, 2) := by decide +kernel
theorem dX5_init_7 : decode cX5_init 7 = .ok (.newarray .char, 2) := by decide +kernel
theorem dX5_init_9 : decode cX5_init 9 = .ok (.putfield 9, 3) := by decide +kernel
theorem dX5_init_12 : decode cX5_init 12 = .ok (.return_, 1) := by decide +kernel
theorem dX5_add_0 : decode cX5_add 0 = .ok (.aload_n 0, 1) := by decide +kernel
theorem dX5_add_1 : decode cX5_add 1 = .ok (.getfield 15, 3) := by decide +kernel
theorem dX5_add_4 : decode cX5_add 4 = .ok (.ifCond .lt 15, 3) := by decide +kernel
theorem dX5_add_7 : decode cX5_add 7 = .ok (.aload_n 0, 1) := by decide +kernel
theorem dX5_add_8 : decode cX5_add 8 = .ok (.getfield 15, 3) := by decide +kernel
theorem dX5_add_11 : decode cX5_add 11 = .ok (.aload_n 0, 1) := by decide +kernel
theorem dX5_add_12 : decode cX5_add 12 = .ok (.getfield 9, 3) := by decide +kernel
theorem dX5_add_15 : decode cX5_add 15 = .ok (.arraylength, 1) := by decide +kernel
theorem dX5_add_16 : decode cX5_add 16 = .ok (.if_icmp .lt 5, 3) := by decide +kernel
theorem dX5_add_19 : decode cX5_add 19 = .ok (.iconst 0, 1) := by decide +kernel
theorem dX5_add_20 : decode cX5_add 20 = .ok (.ireturn, 1) := by decide +kernel
theorem dX5_add_21 : decode cX5_add 21 = .ok (.aload_n 0, 1) := by decide +kernel
theorem dX5_add_22 : decode cX5_add 22 = .ok (.getfield 9, 3) := by decide +kernel
theorem dX5_add_25 : decode cX5_add 25 = .ok (.aload_n 0, 1) := by decide +kernel
theorem dX5_add_26 : decode cX5_add 26 = .ok (.getfield 15, 3) := by decide +kernel
theorem dX5_add_29 : decode cX5_add 29 = .ok (.iload_n 1, 1) := by decide +kernel
theorem dX5_add_30 : decode cX5_add 30 = .ok (.castore, 1) := by decide +kernel
theorem dX5_add_31 : decode cX5_add 31 = .ok (.aload_n 0, 1) := by decide +kernel
theorem dX5_add_32 : decode cX5_add 32 = .ok (.dup, 1) := by decide +kernel
theorem dX5_add_33 : decode cX5_add 33 = .ok (.getfield 15, 3) := by decide +kernel
theorem dX5_add_36 : decode cX5_add 36 = .ok (.iconst 1, 1) := by decide +kernel
theorem dX5_add_37 : decode cX5_add 37 = .ok (.iadd, 1) := by decide +kernel
theorem dX5_add_38 : decode cX5_add 38 = .ok (.putfield 15, 3) := by decide +kernel
theorem dX5_add_41 : decode cX5_add 41 = .ok (.iconst 1, 1) := by decide +kernel
theorem dX5_add_42 : decode cX5_add 42 = .ok (.ireturn, 1) := by decide +kernel
theorem dX5_startReading_0 : decode cX5_startReading 0 = .ok (.aload_n 0, 1) := by decide +kernel
theorem dX5_startReading_1 : decode cX5_startReading 1 = .ok (.iconst 0, 1) := by decide +kernel
theorem dX5_startReading_2 : decode cX5_startReading 2 = .ok (.putfield 19, 3) := by decide +kernel
theorem dX5_startReading_5 : decode cX5_startReading 5 = .ok (.return_, 1) := by decide +kernel
set_option maxRecDepth 20000 in
theorem ggX5_findFault_X5_startReading : GoodIn wsX5_findFault wsX5_startReading := goodIn_r _ [7, 1, 40, 41, 42, 43, 44, 45, 46] (by decide +kernel) (by decide +kernel)
set_option maxRecDepth 20000 in
theorem gX5_findFault_X5_startReading : GoodIn wsX5_findFault (wsV RX5 22 RX5 yX5_startReading wsX5_startReading) := goodIn_app (goodIn_of _ (by decide +kernel)) ggX5_findFault_X5_startReading
set_option maxRecDepth 20000 in
theorem ggX5_findFault_X5_readBooking : GoodIn wsX5_findFault wsX5_readBooking := goodIn_r _ [11, 12, 13, 14, 15, 16, 17, 18, 6, 19, 1, 20, 21, 22, 23, 2, 24, 25, 26, 27, 28, 29, 30, 31, 32, 33, 34, 35, 36, 37, 38, 39, 40, 41, 42, 43, 44, 45, 46] (by decide +kernel) (by decide +kernel)
set_option maxRecDepth 20000 in
theorem gX5_findFault_X5_readBooking : GoodIn wsX5_findFault (wsV RX5 25 RX5 yX5_readBooking wsX5_readBooking) := goodIn_app (goodIn_of _ (by decide +kernel)) ggX5_findFault_X5_readBooking
set_option maxRecDepth 20000 in
theorem ggX5_findFault_X5_takeSign : GoodIn wsX5_findFault wsX5_takeSign := goodIn_r _ [31, 1, 20, 21, 22, 6, 23, 2, 24, 40, 41, 42, 43, 44, 45, 46] (by decide +kernel) (by decide +kernel)
set_option maxRecDepth 20000 in
theorem gX5_findFault_X5_takeSign : GoodIn wsX5_findFault (wsV RX5 29 RX5 yX5_takeSign wsX5_takeSign) := goodIn_app (goodIn_of _ (by decide +kernel)) ggX5_findFault_X5_takeSign
theorem dX5_findFault_0 : decode cX5_findFault 0 = .ok (.aload_n 0, 1) := by decide +kernel
theorem dX5_findFault_1 : decode cX5_findFault 1 = .ok (.invokevirtual 22, 3) := by decide +kernel
theorem dX5_findFault_4 : decode cX5_findFault 4 = .ok (.iconst 0, 1) := by decide +kernel
theorem dX5_findFault_5 : decode cX5_findFault 5 = .ok (.istore_n 1, 1) := by decide +kernel
theorem dX5_findFault_6 : decode cX5_findFault 6 = .ok (.iload_n 1, 1) := by decide +kernel
theorem dX5_findFault_7 : decode cX5_findFault 7 = .ok (.bipush 8, 2) := by decide +kernel
theorem dX5_findFault_9 : decode cX5_findFault 9 = .ok (.if_icmp .ge 48, 3) := by decide +kernel
theorem dX5_findFault_12 : decode cX5_findFault 12 = .ok (.aload_n 0, 1) := by decide +kernel
theorem dX5_findFault_13 : decode cX5_findFault 13 = .ok (.invokevirtual 25, 3) := by decide +kernel
theorem dX5_findFault_16 : decode cX5_findFault 16 = .ok (.ifCond .ne 8, 3) := by decide +kernel
theorem dX5_findFault_19 : decode cX5_findFault 19 = .ok (.aload_n 0, 1) := by decide +kernel
theorem dX5_findFault_20 : decode cX5_findFault 20 = .ok (.getfield 19, 3) := by decide +kernel
theorem dX5_findFault_23 : decode cX5_findFault 23 = .ok (.ireturn, 1) := by decide +kernel
theorem dX5_findFault_24 : decode cX5_findFault 24 = .ok (.aload_n 0, 1) := by decide +kernel
theorem dX5_findFault_25 : decode cX5_findFault 25 = .ok (.getfield 19, 3) := by decide +kernel
theorem dX5_findFault_28 : decode cX5_findFault 28 = .ok (.aload_n 0, 1) := by decide +kernel
theorem dX5_findFault_29 : decode cX5_findFault 29 = .ok (.getfield 15, 3) := by decide +kernel
theorem dX5_findFault_32 : decode cX5_findFault 32 = .ok (.if_icmp .lt 5, 3) := by decide +kernel
theorem dX5_findFault_35 : decode cX5_findFault 35 = .ok (.iconst (-1), 1) := by decide +kernel
theorem dX5_findFault_36 : decode cX5_findFault 36 = .ok (.ireturn, 1) := by decide +kernel
theorem dX5_findFault_37 : decode cX5_findFault 37 = .ok (.aload_n 0, 1) := by decide +kernel
theorem dX5_findFault_38 : decode cX5_findFault 38 = .ok (.bipush 44, 2) := by decide +kernel
theorem dX5_findFault_40 : decode cX5_findFault 40 = .ok (.invokevirtual 29, 3) := by decide +kernel
theorem dX5_findFault_43 : decode cX5_findFault 43 = .ok (.ifCond .ne 8, 3) := by decide +kernel
theorem dX5_findFault_46 : decode cX5_findFault 46 = .ok (.aload_n 0, 1) := by decide +kernel
theorem dX5_findFault_47 : decode cX5_findFault 47 = .ok (.getfield 19, 3) := by decide +kernel
theorem dX5_findFault_50 : decode cX5_findFault 50 = .ok (.ireturn, 1) := by decide +kernel
theorem dX5_findFault_51 : decode cX5_findFault 51 = .ok (.iinc 1 1, 3) := by decide +kernel
theorem dX5_findFault_54 : decode cX5_findFault 54 = .ok (.goto (-48), 3) := by decide +kernel
theorem dX5_findFault_57 : decode cX5_findFault 57 = .ok (.aload_n 0, 1) := by decide +kernel
theorem dX5_findFault_58 : decode cX5_findFault 58 = .ok (.getfield 19, 3) := by decide +kernel
theorem dX5_findFault_61 : decode cX5_findFault 61 = .ok (.ireturn, 1) := by decide +kernel
set_option maxRecDepth 20000 in
theorem ggX5_readBooking_X5_takeDigit : GoodIn wsX5_readBooking wsX5_takeDigit := goodIn_r _ [9, 10, 11, 12, 13, 8, 14, 15, 16, 17, 18, 19, 32, 33, 34, 35, 36, 37, 38] (by decide +kernel) (by decide +kernel)
set_option maxRecDepth 20000 in
theorem gX5_readBooking_X5_takeDigit : GoodIn wsX5_readBooking (wsV RX5 33 RX5 yX5_takeDigit wsX5_takeDigit) := goodIn_app (goodIn_of _ (by decide +kernel)) ggX5_readBooking_X5_takeDigit
set_option maxRecDepth 20000 in
theorem ggX5_readBooking_X5_takeSign : GoodIn wsX5_readBooking wsX5_takeSign := goodIn_r _ [23, 10, 11, 12, 13, 8, 14, 15, 16, 32, 33, 34, 35, 36, 37, 38] (by decide +kernel) (by decide +kernel)
set_option maxRecDepth 20000 in
theorem gX5_readBooking_X5_takeSign : GoodIn wsX5_readBooking (wsV RX5 29 RX5 yX5_takeSign wsX5_takeSign) := goodIn_app (goodIn_of _ (by decide +kernel)) ggX5_readBooking_X5_takeSign
set_option maxRecDepth 20000 in
theorem ggX5_readBooking_X5_takeNumber : GoodIn wsX5_readBooking wsX5_takeNumber := goodIn_r _ [27, 28, 29, 30, 31, 5, 6, 7, 8, 9, 10, 11, 12, 13, 14, 15, 16, 17, 18, 19, 32, 33, 34, 35, 36, 37, 38] (by decide +kernel) (by decide +kernel)
set_option maxRecDepth 20000 in
theorem gX5_readBooking_X5_takeNumber : GoodIn wsX5_readBooking (wsV RX5 43 RX5 yX5_takeNumber wsX5_takeNumber) := goodIn_app (goodIn_of _ (by decide +kernel)) ggX5_readBooking_X5_takeNumber
theorem dX5_readBooking_0 : decode cX5_readBooking 0 = .ok (.aload_n 0, 1) := by decide +kernel
theorem dX5_readBooking_1 : decode cX5_readBooking 1 = .ok (.aload_n 0, 1) := by decide +kernel
theorem dX5_readBooking_2 : decode cX5_readBooking 2 = .ok (.iconst 0, 1) := by decide +kernel
theorem dX5_readBooking_3 : decode cX5_readBooking 3 = .ok (.iconst 5, 1) := by decide +kernel
theorem dX5_readBooking_4 : decode cX5_readBooking 4 = .ok (.invokevirtual 33, 3) := by decide +kernel
theorem dX5_readBooking_7 : decode cX5_readBooking 7 = .ok (.putfield 37, 3) := by decide +kernel
theorem dX5_readBooking_10 : decode cX5_readBooking 10 = .ok (.aload_n 0, 1) := by decide +kernel
theorem dX5_readBooking_11 : decode cX5_readBooking 11 = .ok (.getfield 37, 3) := by decide +kernel
theorem dX5_readBooking_14 : decode cX5_readBooking 14 = .ok (.iconst (-1), 1) := by decide +kernel
theorem dX5_readBooking_15 : decode cX5_readBooking 15 = .ok (.if_icmp .eq 12, 3) := by decide +kernel
theorem dX5_readBooking_18 : decode cX5_readBooking 18 = .ok (.aload_n 0, 1) := by decide +kernel
theorem dX5_readBooking_19 : decode cX5_readBooking 19 = .ok (.bipush 109, 2) := by decide +kernel
theorem dX5_readBooking_21 : decode cX5_readBooking 21 = .ok (.invokevirtual 29, 3) := by decide +kernel
theorem dX5_readBooking_24 : decode cX5_readBooking 24 = .ok (.ifCond .ne 5, 3) := by decide +kernel
theorem dX5_readBooking_27 : decode cX5_readBooking 27 = .ok (.iconst 0, 1) := by decide +kernel
theorem dX5_readBooking_28 : decode cX5_readBooking 28 = .ok (.ireturn, 1) := by decide +kernel
theorem dX5_readBooking_29 : decode cX5_readBooking 29 = .ok (.aload_n 0, 1) := by decide +kernel
theorem dX5_readBooking_30 : decode cX5_readBooking 30 = .ok (.aload_n 0, 1) := by decide +kernel
theorem dX5_readBooking_31 : decode cX5_readBooking 31 = .ok (.iconst 0, 1) := by decide +kernel
theorem dX5_readBooking_32 : decode cX5_readBooking 32 = .ok (.iconst 5, 1) := by decide +kernel
theorem dX5_readBooking_33 : decode cX5_readBooking 33 = .ok (.invokevirtual 33, 3) := by decide +kernel
theorem dX5_readBooking_36 : decode cX5_readBooking 36 = .ok (.putfield 40, 3) := by decide +kernel
theorem dX5_readBooking_39 : decode cX5_readBooking 39 = .ok (.aload_n 0, 1) := by decide +kernel
theorem dX5_readBooking_40 : decode cX5_readBooking 40 = .ok (.getfield 40, 3) := by decide +kernel
theorem dX5_readBooking_43 : decode cX5_readBooking 43 = .ok (.iconst (-1), 1) := by decide +kernel
theorem dX5_readBooking_44 : decode cX5_readBooking 44 = .ok (.if_icmp .eq 12, 3) := by decide +kernel
theorem dX5_readBooking_47 : decode cX5_readBooking 47 = .ok (.aload_n 0, 1) := by decide +kernel
theorem dX5_readBooking_48 : decode cX5_readBooking 48 = .ok (.bipush 43, 2) := by decide +kernel
theorem dX5_readBooking_50 : decode cX5_readBooking 50 = .ok (.invokevirtual 29, 3) := by decide +kernel
theorem dX5_readBooking_53 : decode cX5_readBooking 53 = .ok (.ifCond .ne 5, 3) := by decide +kernel
theorem dX5_readBooking_56 : decode cX5_readBooking 56 = .ok (.iconst 0, 1) := by decide +kernel
theorem dX5_readBooking_57 : decode cX5_readBooking 57 = .ok (.ireturn, 1) := by decide +kernel
theorem dX5_readBooking_58 : decode cX5_readBooking 58 = .ok (.aload_n 0, 1) := by decide +kernel
theorem dX5_readBooking_59 : decode cX5_readBooking 59 = .ok (.aload_n 0, 1) := by decide +kernel
theorem dX5_readBooking_60 : decode cX5_readBooking 60 = .ok (.bipush 99, 2) := by decide +kernel
theorem dX5_readBooking_62 : decode cX5_readBooking 62 = .ok (.invokevirtual 43, 3) := by decide +kernel
theorem dX5_readBooking_65 : decode cX5_readBooking 65 = .ok (.putfield 47, 3) := by decide +kernel
theorem dX5_readBooking_68 : decode cX5_readBooking 68 = .ok (.aload_n 0, 1) := by decide +kernel
theorem dX5_readBooking_69 : decode cX5_readBooking 69 = .ok (.getfield 47, 3) := by decide +kernel
theorem dX5_readBooking_72 : decode cX5_readBooking 72 = .ok (.iconst (-1), 1) := by decide +kernel
theorem dX5_readBooking_73 : decode cX5_readBooking 73 = .ok (.if_icmp .eq 12, 3) := by decide +kernel
theorem dX5_readBooking_76 : decode cX5_readBooking 76 = .ok (.aload_n 0, 1) := by decide +kernel
theorem dX5_readBooking_77 : decode cX5_readBooking 77 = .ok (.bipush 104, 2) := by decide +kernel
theorem dX5_readBooking_79 : decode cX5_readBooking 79 = .ok (.invokevirtual 29, 3) := by decide +kernel
theorem dX5_readBooking_82 : decode cX5_readBooking 82 = .ok (.ifCond .ne 5, 3) := by decide +kernel
theorem dX5_readBooking_85 : decode cX5_readBooking 85 = .ok (.iconst 0, 1) := by decide +kernel
theorem dX5_readBooking_86 : decode cX5_readBooking 86 = .ok (.ireturn, 1) := by decide +kernel
theorem dX5_readBooking_87 : decode cX5_readBooking 87 = .ok (.aload_n 0, 1) := by decide +kernel
theorem dX5_readBooking_88 : decode cX5_readBooking 88 = .ok (.aload_n 0, 1) := by decide +kernel
theorem dX5_readBooking_89 : decode cX5_readBooking 89 = .ok (.bipush 12, 2) := by decide +kernel
theorem dX5_readBooking_91 : decode cX5_readBooking 91 = .ok (.invokevirtual 43, 3) := by decide +kernel
theorem dX5_readBooking_94 : decode cX5_readBooking 94 = .ok (.putfield 50, 3) := by decide +kernel
theorem dX5_readBooking_97 : decode cX5_readBooking 97 = .ok (.aload_n 0, 1) := by decide +kernel
theorem dX5_readBooking_98 : decode cX5_readBooking 98 = .ok (.getfield 50, 3) := by decide +kernel
theorem dX5_readBooking_101 : decode cX5_readBooking 101 = .ok (.iconst (-1), 1) := by decide +kernel
theorem dX5_readBooking_102 : decode cX5_readBooking 102 = .ok (.if_icmp .eq 7, 3) := by decide +kernel
theorem dX5_readBooking_105 : decode cX5_readBooking 105 = .ok (.iconst 1, 1) := by decide +kernel
theorem dX5_readBooking_106 : decode cX5_readBooking 106 = .ok (.goto 4, 3) := by decide +kernel
theorem dX5_readBooking_109 : decode cX5_readBooking 109 = .ok (.iconst 0, 1) := by decide +kernel
theorem dX5_readBooking_110 : decode cX5_readBooking 110 = .ok (.ireturn, 1) := by decide +kernel
theorem dX5_nextSign_0 : decode cX5_nextSign 0 = .ok (.aload_n 0, 1) := by decide +kernel
theorem dX5_nextSign_1 : decode cX5_nextSign 1 = .ok (.getfield 19, 3) := by decide +kernel
theorem dX5_nextSign_4 : decode cX5_nextSign 4 = .ok (.ifCond .lt 38, 3) := by decide +kernel
theorem dX5_nextSign_7 : decode cX5_nextSign 7 = .ok (.aload_n 0, 1) := by decide +kernel
theorem dX5_nextSign_8 : decode cX5_nextSign 8 = .ok (.getfield 19, 3) := by decide +kernel
theorem dX5_nextSign_11 : decode cX5_nextSign 11 = .ok (.aload_n 0, 1) := by decide +kernel
theorem dX5_nextSign_12 : decode cX5_nextSign 12 = .ok (.getfield 15, 3) := by decide +kernel
theorem dX5_nextSign_15 : decode cX5_nextSign 15 = .ok (.if_icmp .ge 27, 3) := by decide +kernel
theorem dX5_nextSign_18 : decode cX5_nextSign 18 = .ok (.aload_n 0, 1) := by decide +kernel
theorem dX5_nextSign_19 : decode cX5_nextSign 19 = .ok (.getfield 19, 3) := by decide +kernel
theorem dX5_nextSign_22 : decode cX5_nextSign 22 = .ok (.aload_n 0, 1) := by decide +kernel
theorem dX5_nextSign_23 : decode cX5_nextSign 23 = .ok (.getfield 9, 3) := by decide +kernel
theorem dX5_nextSign_26 : decode cX5_nextSign 26 = .ok (.arraylength, 1) := by decide +kernel
theorem dX5_nextSign_27 : decode cX5_nextSign 27 = .ok (.if_icmp .ge 15, 3) := by decide +kernel
theorem dX5_nextSign_30 : decode cX5_nextSign 30 = .ok (.aload_n 0, 1) := by decide +kernel
theorem dX5_nextSign_31 : decode cX5_nextSign 31 = .ok (.getfield 9, 3) := by decide +kernel
theorem dX5_nextSign_34 : decode cX5_nextSign 34 = .ok (.aload_n 0, 1) := by decide +kernel
theorem dX5_nextSign_35 : decode cX5_nextSign 35 = .ok (.getfield 19, 3) := by decide +kernel
theorem dX5_nextSign_38 : decode cX5_nextSign 38 = .ok (.caload, 1) := by decide +kernel
theorem dX5_nextSign_39 : decode cX5_nextSign 39 = .ok (.goto 4, 3) := by decide +kernel
theorem dX5_nextSign_42 : decode cX5_nextSign 42 = .ok (.iconst (-1), 1) := by decide +kernel
theorem dX5_nextSign_43 : decode cX5_nextSign 43 = .ok (.ireturn, 1) := by decide +kernel
set_option maxRecDepth 20000 in
theorem ggX5_takeSign_X5_nextSign : GoodIn wsX5_takeSign wsX5_nextSign := goodIn_r _ [6, 1, 7, 8, 9, 10, 11, 12, 13, 14, 15] (by decide +kernel) (by decide +kernel)
set_option maxRecDepth 20000 in
theorem gX5_takeSign_X5_nextSign : GoodIn wsX5_takeSign (wsV RX5 53 RX5 yX5_nextSign wsX5_nextSign) := goodIn_app (goodIn_of _ (by decide +kernel)) ggX5_takeSign_X5_nextSign
theorem dX5_takeSign_0 : decode cX5_takeSign 0 = .ok (.aload_n 0, 1) := by decide +kernel
theorem dX5_takeSign_1 : decode cX5_takeSign 1 = .ok (.invokevirtual 53, 3) := by decide +kernel
theorem dX5_takeSign_4 : decode cX5_takeSign 4 = .ok (.iload_n 1, 1) := by decide +kernel
theorem dX5_takeSign_5 : decode cX5_takeSign 5 = .ok (.if_icmp .eq 5, 3) := by decide +kernel
theorem dX5_takeSign_8 : decode cX5_takeSign 8 = .ok (.iconst 0, 1) := by decide +kernel
theorem dX5_takeSign_9 : decode cX5_takeSign 9 = .ok (.ireturn, 1) := by decide +kernel
theorem dX5_takeSign_10 : decode cX5_takeSign 10 = .ok (.aload_n 0, 1) := by decide +kernel
theorem dX5_takeSign_11 : decode cX5_takeSign 11 = .ok (.dup, 1) := by decide +kernel
theorem dX5_takeSign_12 : decode cX5_takeSign 12 = .ok (.getfield 19, 3) := by decide +kernel
theorem dX5_takeSign_15 : decode cX5_takeSign 15 = .ok (.iconst 1, 1) := by decide +kernel
theorem dX5_takeSign_16 : decode cX5_takeSign 16 = .ok (.iadd, 1) := by decide +kernel
theorem dX5_takeSign_17 : decode cX5_takeSign 17 = .ok (.putfield 19, 3) := by decide +kernel
theorem dX5_takeSign_20 : decode cX5_takeSign 20 = .ok (.iconst 1, 1) := by decide +kernel
theorem dX5_takeSign_21 : decode cX5_takeSign 21 = .ok (.ireturn, 1) := by decide +kernel
set_option maxRecDepth 20000 in
theorem ggX5_takeDigit_X5_nextSign : GoodIn wsX5_takeDigit wsX5_nextSign := goodIn_r _ [6, 1, 7, 8, 12, 13, 14, 15, 16, 17, 18] (by decide +kernel) (by decide +kernel)
set_option maxRecDepth 20000 in
theorem gX5_takeDigit_X5_nextSign : GoodIn wsX5_takeDigit (wsV RX5 53 RX5 yX5_nextSign wsX5_nextSign) := goodIn_app (goodIn_of _ (by decide +kernel)) ggX5_takeDigit_X5_nextSign
set_option maxRecDepth 20000 in
theorem ggX5_takeDigit_X6_outside : GoodIn wsX5_takeDigit wsX6_outside := goodIn_r _ [11] (by decide +kernel) (by decide +kernel)
set_option maxRecDepth 20000 in
theorem gX5_takeDigit_X6_outside_n57 : GoodIn wsX5_takeDigit (wsX6_outside) := ggX5_takeDigit_X6_outside
theorem dX5_takeDigit_0 : decode cX5_takeDigit 0 = .ok (.aload_n 0, 1) := by decide +kernel
theorem dX5_takeDigit_1 : decode cX5_takeDigit 1 = .ok (.invokevirtual 53, 3) := by decide +kernel
theorem dX5_takeDigit_4 : decode cX5_takeDigit 4 = .ok (.bipush 48, 2) := by decide +kernel
theorem dX5_takeDigit_6 : decode cX5_takeDigit 6 = .ok (.isub, 1) := by decide +kernel
theorem dX5_takeDigit_7 : decode cX5_takeDigit 7 = .ok (.istore_n 3, 1) := by decide +kernel
theorem dX5_takeDigit_8 : decode cX5_takeDigit 8 = .ok (.iload_n 3, 1) := by decide +kernel
theorem dX5_takeDigit_9 : decode cX5_takeDigit 9 = .ok (.iload_n 1, 1) := by decide +kernel
theorem dX5_takeDigit_10 : decode cX5_takeDigit 10 = .ok (.iload_n 2, 1) := by decide +kernel
theorem dX5_takeDigit_11 : decode cX5_takeDigit 11 = .ok (.invokestatic 57, 3) := by decide +kernel
theorem dX5_takeDigit_14 : decode cX5_takeDigit 14 = .ok (.ifCond .eq 5, 3) := by decide +kernel
theorem dX5_takeDigit_17 : decode cX5_takeDigit 17 = .ok (.iconst (-1), 1) := by decide +kernel
theorem dX5_takeDigit_18 : decode cX5_takeDigit 18 = .ok (.ireturn, 1) := by decide +kernel
theorem dX5_takeDigit_19 : decode cX5_takeDigit 19 = .ok (.aload_n 0, 1) := by decide +kernel
theorem dX5_takeDigit_20 : decode cX5_takeDigit 20 = .ok (.dup, 1) := by decide +kernel
theorem dX5_takeDigit_21 : decode cX5_takeDigit 21 = .ok (.getfield 19, 3) := by decide +kernel
theorem dX5_takeDigit_24 : decode cX5_takeDigit 24 = .ok (.iconst 1, 1) := by decide +kernel
theorem dX5_takeDigit_25 : decode cX5_takeDigit 25 = .ok (.iadd, 1) := by decide +kernel
theorem dX5_takeDigit_26 : decode cX5_takeDigit 26 = .ok (.putfield 19, 3) := by decide +kernel
theorem dX5_takeDigit_29 : decode cX5_takeDigit 29 = .ok (.iload_n 3, 1) := by decide +kernel
theorem dX5_takeDigit_30 : decode cX5_takeDigit 30 = .ok (.ireturn, 1) := by decide +kernel
set_option maxRecDepth 20000 in
theorem ggX5_takeNumber_X5_takeDigit : GoodIn wsX5_takeNumber wsX5_takeDigit := goodIn_r _ [9, 10, 11, 12, 13, 8, 14, 15, 16, 17, 18, 19, 20, 21, 22, 23, 24, 25, 26] (by decide +kernel) (by decide +kernel)
set_option maxRecDepth 20000 in
theorem gX5_takeNumber_X5_takeDigit : GoodIn wsX5_takeNumber (wsV RX5 33 RX5 yX5_takeDigit wsX5_takeDigit) := goodIn_app (goodIn_of _ (by decide +kernel)) ggX5_takeNumber_X5_takeDigit
theorem dX5_takeNumber_0 : decode cX5_takeNumber 0 = .ok (.aload_n 0, 1) := by decide +kernel
theorem dX5_takeNumber_1 : decode cX5_takeNumber 1 = .ok (.iconst 1, 1) := by decide +kernel
theorem dX5_takeNumber_2 : decode cX5_takeNumber 2 = .ok (.bipush 9, 2) := by decide +kernel
theorem dX5_takeNumber_4 : decode cX5_takeNumber 4 = .ok (.invokevirtual 33, 3) := by decide +kernel
theorem dX5_takeNumber_7 : decode cX5_takeNumber 7 = .ok (.istore_n 2, 1) := by decide +kernel
theorem dX5_takeNumber_8 : decode cX5_takeNumber 8 = .ok (.iload_n 2, 1) := by decide +kernel
theorem dX5_takeNumber_9 : decode cX5_takeNumber 9 = .ok (.iconst (-1), 1) := by decide +kernel
theorem dX5_takeNumber_10 : decode cX5_takeNumber 10 = .ok (.if_icmp .ne 5, 3) := by decide +kernel
theorem dX5_takeNumber_13 : decode cX5_takeNumber 13 = .ok (.iconst (-1), 1) := by decide +kernel
theorem dX5_takeNumber_14 : decode cX5_takeNumber 14 = .ok (.ireturn, 1) := by decide +kernel
theorem dX5_takeNumber_15 : decode cX5_takeNumber 15 = .ok (.aload_n 0, 1) := by decide +kernel
theorem dX5_takeNumber_16 : decode cX5_takeNumber 16 = .ok (.iconst 0, 1) := by decide +kernel
theorem dX5_takeNumber_17 : decode cX5_takeNumber 17 = .ok (.bipush 9, 2) := by decide +kernel
theorem dX5_takeNumber_19 : decode cX5_takeNumber 19 = .ok (.iload_n 1, 1) := by decide +kernel
theorem dX5_takeNumber_20 : decode cX5_takeNumber 20 = .ok (.bipush 10, 2) := by decide +kernel
theorem dX5_takeNumber_22 : decode cX5_takeNumber 22 = .ok (.iload_n 2, 1) := by decide +kernel
theorem dX5_takeNumber_23 : decode cX5_takeNumber 23 = .ok (.imul, 1) := by decide +kernel
theorem dX5_takeNumber_24 : decode cX5_takeNumber 24 = .ok (.isub, 1) := by decide +kernel
theorem dX5_takeNumber_25 : decode cX5_takeNumber 25 = .ok (.invokestatic 61, 3) := by decide +kernel
theorem dX5_takeNumber_28 : decode cX5_takeNumber 28 = .ok (.invokevirtual 33, 3) := by decide +kernel
theorem dX5_takeNumber_31 : decode cX5_takeNumber 31 = .ok (.istore_n 3, 1) := by decide +kernel
theorem dX5_takeNumber_32 : decode cX5_takeNumber 32 = .ok (.iload_n 3, 1) := by decide +kernel
theorem dX5_takeNumber_33 : decode cX5_takeNumber 33 = .ok (.iconst (-1), 1) := by decide +kernel
theorem dX5_takeNumber_34 : decode cX5_takeNumber 34 = .ok (.if_icmp .ne 7, 3) := by decide +kernel
theorem dX5_takeNumber_37 : decode cX5_takeNumber 37 = .ok (.iload_n 2, 1) := by decide +kernel
theorem dX5_takeNumber_38 : decode cX5_takeNumber 38 = .ok (.goto 9, 3) := by decide +kernel
theorem dX5_takeNumber_41 : decode cX5_takeNumber 41 = .ok (.bipush 10, 2) := by decide +kernel
theorem dX5_takeNumber_43 : decode cX5_takeNumber 43 = .ok (.iload_n 2, 1) := by decide +kernel
theorem dX5_takeNumber_44 : decode cX5_takeNumber 44 = .ok (.imul, 1) := by decide +kernel
theorem dX5_takeNumber_45 : decode cX5_takeNumber 45 = .ok (.iload_n 3, 1) := by decide +kernel
theorem dX5_takeNumber_46 : decode cX5_takeNumber 46 = .ok (.iadd, 1) := by decide +kernel
theorem dX5_takeNumber_47 : decode cX5_takeNumber 47 = .ok (.ireturn, 1) := by decide +kernel
set_option maxRecDepth 20000 in
theorem ggX6_init_X4_init : GoodIn wsX6_init wsX4_init := goodIn_r _ [20, 21, 2, 3, 22, 23, 24, 25, 26, 27, 28, 29, 30, 31, 32, 33, 34, 35, 36, 37, 38, 39, 40, 41, 42, 43, 44, 45, 46, 47, 48, 49, 63, 64, 65, 66, 67, 68, 69, 70, 71, 72, 73, 74, 75, 76, 77, 78, 94, 95, 96, 97, 98, 99, 100, 101, 102, 103, 104, 105, 106, 107, 108, 109, 110, 111, 112, 113] (by decide +kernel) (by decide +kernel)
set_option maxRecDepth 20000 in
theorem gX6_init_X4_init : GoodIn wsX6_init (wsX4_init) := ggX6_init_X4_init
set_option maxRecDepth 20000 in
theorem ggX6_init_X2_init : GoodIn wsX6_init wsX2_init := goodIn_r _ [52, 53, 2, 3, 54, 55, 5, 6, 56, 19, 20, 21, 22, 23, 24, 25, 26, 27, 28, 29, 30, 31, 32, 33, 34, 35, 36, 37, 38, 39, 40, 41, 42, 43, 44, 45, 46, 47, 48, 49, 85, 86, 63, 64, 65, 66, 67, 68, 69, 70, 71, 72, 73, 74, 75, 76, 77, 78, 94, 95, 96, 97, 98, 99, 100, 101, 102, 103, 104, 105, 106, 107, 108, 109, 110, 111, 112, 113] (by decide +kernel) (by decide +kernel)
set_option maxRecDepth 20000 in
theorem gX6_init_X2_init : GoodIn wsX6_init (wsX2_init) := ggX6_init_X2_init
set_option maxRecDepth 20000 in
theorem ggX6_init_X5_init : GoodIn wsX6_init wsX5_init := goodIn_r _ [59, 60, 2, 3, 61, 62, 87, 88, 89, 90, 91, 92, 93] (by decide +kernel) (by decide +kernel)
set_option maxRecDepth 20000 in
theorem gX6_init_X5_init : GoodIn wsX6_init (wsX5_init) := ggX6_init_X5_init
theorem dX6_init_0 : decode cX6_init 0 = .ok (.aload_n 0, 1) := by decide +kernel
theorem dX6_init_1 : decode cX6_init 1 = .ok (.invokespecial 1, 3) := by decide +kernel
theorem dX6_init_4 : decode cX6_init 4 = .ok (.aload_n 0, 1) := by decide +kernel
theorem dX6_init_5 : decode cX6_init 5 = .ok (.new 7, 3) := by decide +kernel
theorem dX6_init_8 : decode cX6_init 8 = .ok (.dup, 1) := by decide +kernel
theorem dX6_init_9 : decode cX6_init 9 = .ok (.invokespecial 9, 3) := by decide +kernel
theorem dX6_init_12 : decode cX6_init 12 = .ok (.putfield 10, 3) := by decide +kernel
theorem dX6_init_15 : decode cX6_init 15 = .ok (.aload_n 0, 1) := by decide +kernel
theorem dX6_init_16 : decode cX6_init 16 = .ok (.new 7, 3) := by decide +kernel
theorem dX6_init_19 : decode cX6_init 19 = .ok (.dup, 1) := by decide +kernel
theorem dX6_init_20 : decode cX6_init 20 = .ok (.invokespecial 9, 3) := by decide +kernel
theorem dX6_init_23 : decode cX6_init 23 = .ok (.putfield 16, 3) := by decide +kernel
theorem dX6_init_26 : decode cX6_init 26 = .ok (.aload_n 0, 1) := by decide +kernel
theorem dX6_init_27 : decode cX6_init 27 = .ok (.new 7, 3) := by decide +kernel
theorem dX6_init_30 : decode cX6_init 30 = .ok (.dup, 1) := by decide +kernel
theorem dX6_init_31 : decode cX6_init 31 = .ok (.invokespecial 9, 3) := by decide +kernel
theorem dX6_init_34 : decode cX6_init 34 = .ok (.putfield 19, 3) := by decide +kernel
theorem dX6_init_37 : decode cX6_init 37 = .ok (.aload_n 0, 1) := by decide +kernel
theorem dX6_init_38 : decode cX6_init 38 = .ok (.new 22, 3) := by decide +kernel
theorem dX6_init_41 : decode cX6_init 41 = .ok (.dup, 1) := by decide +kernel
theorem dX6_init_42 : decode cX6_init 42 = .ok (.invokespecial 24, 3) := by decide +kernel
theorem dX6_init_45 : decode cX6_init 45 = .ok (.putfield 25, 3) := by decide +kernel
theorem dX6_init_48 : decode cX6_init 48 = .ok (.aload_n 0, 1) := by decide +kernel
theorem dX6_init_49 : decode cX6_init 49 = .ok (.new 29, 3) := by decide +kernel
theorem dX6_init_52 : decode cX6_init 52 = .ok (.dup, 1) := by decide +kernel
theorem dX6_init_53 : decode cX6_init 53 = .ok (.invokespecial 31, 3) := by decide +kernel
theorem dX6_init_56 : decode cX6_init 56 = .ok (.putfield 32, 3) := by decide +kernel
theorem dX6_init_59 : decode cX6_init 59 = .ok (.return_, 1) := by decide +kernel
