set_option maxRecDepth 20000 in
theorem ggX7_booked_X7_isMachine : GoodIn wsX7_booked wsX7_isMachine := goodIn_r _ [9, 3, 10, 11, 8, 12, 21, 22, 23, 24, 25, 26, 27, 28, 29, 30, 31, 32, 33] (by decide +kernel) (by decide +kernel)
set_option maxRecDepth 20000 in
theorem gX7_booked_X7_isMachine : GoodIn wsX7_booked (wsV RX7 128 RX7 yX7_isMachine wsX7_isMachine) := goodIn_app (goodIn_of _ (by decide +kernel)) ggX7_booked_X7_isMachine
set_option maxRecDepth 20000 in
theorem ggX7_booked_X7_in : GoodIn wsX7_booked wsX7_in := goodIn_r _ [12] (by decide +kernel) (by decide +kernel)
set_option maxRecDepth 20000 in
theorem gX7_booked_X7_in : GoodIn wsX7_booked (va_wsS RX7 32 yX7_in wsX7_in) := goodIn_app (goodIn_of _ (by decide +kernel)) ggX7_booked_X7_in
set_option maxRecDepth 20000 in
theorem ggX7_booked_X7_bookedOn : GoodIn wsX7_booked wsX7_bookedOn := goodIn_r _ [16, 3, 17, 18, 19, 8, 20, 21, 22, 23, 24, 25, 26, 27, 28, 29, 30, 31, 32, 33] (by decide +kernel) (by decide +kernel)
set_option maxRecDepth 20000 in
theorem gX7_booked_X7_bookedOn : GoodIn wsX7_booked (wsV RX7 84 RX7 yX7_bookedOn wsX7_bookedOn) := goodIn_app (goodIn_of _ (by decide +kernel)) ggX7_booked_X7_bookedOn
theorem dX7_booked_0 : decode cX7_booked 0 = .ok (.aload_n 0, 1) := by decide +kernel
theorem dX7_booked_1 : decode cX7_booked 1 = .ok (.iconst 0, 1) := by decide +kernel
theorem dX7_booked_2 : decode cX7_booked 2 = .ok (.putfield 28, 3) := by decide +kernel
theorem dX7_booked_5 : decode cX7_booked 5 = .ok (.aload_n 0, 1) := by decide +kernel
theorem dX7_booked_6 : decode cX7_booked 6 = .ok (.iload_n 1, 1) := by decide +kernel
theorem dX7_booked_7 : decode cX7_booked 7 = .ok (.invokevirtual 128, 3) := by decide +kernel
theorem dX7_booked_10 : decode cX7_booked 10 = .ok (.ifCond .ne 6, 3) := by decide +kernel
theorem dX7_booked_13 : decode cX7_booked 13 = .ok (.ldc 115, 2) := by decide +kernel
theorem dX7_booked_15 : decode cX7_booked 15 = .ok (.ireturn, 1) := by decide +kernel
theorem dX7_booked_16 : decode cX7_booked 16 = .ok (.iload_n 2, 1) := by decide +kernel
theorem dX7_booked_17 : decode cX7_booked 17 = .ok (.iconst 1, 1) := by decide +kernel
theorem dX7_booked_18 : decode cX7_booked 18 = .ok (.bipush 99, 2) := by decide +kernel
theorem dX7_booked_20 : decode cX7_booked 20 = .ok (.invokestatic 32, 3) := by decide +kernel
theorem dX7_booked_23 : decode cX7_booked 23 = .ok (.ifCond .eq 19, 3) := by decide +kernel
theorem dX7_booked_26 : decode cX7_booked 26 = .ok (.aload_n 0, 1) := by decide +kernel
theorem dX7_booked_27 : decode cX7_booked 27 = .ok (.iload_n 1, 1) := by decide +kernel
theorem dX7_booked_28 : decode cX7_booked 28 = .ok (.aload_n 0, 1) := by decide +kernel
theorem dX7_booked_29 : decode cX7_booked 29 = .ok (.getfield 7, 3) := by decide +kernel
theorem dX7_booked_32 : decode cX7_booked 32 = .ok (.iconst 3, 1) := by decide +kernel
theorem dX7_booked_33 : decode cX7_booked 33 = .ok (.iaload, 1) := by decide +kernel
theorem dX7_booked_34 : decode cX7_booked 34 = .ok (.iload_n 2, 1) := by decide +kernel
theorem dX7_booked_35 : decode cX7_booked 35 = .ok (.iadd, 1) := by decide +kernel
theorem dX7_booked_36 : decode cX7_booked 36 = .ok (.invokevirtual 84, 3) := by decide +kernel
theorem dX7_booked_39 : decode cX7_booked 39 = .ok (.goto 5, 3) := by decide +kernel
theorem dX7_booked_42 : decode cX7_booked 42 = .ok (.ldc 116, 2) := by decide +kernel
theorem dX7_booked_44 : decode cX7_booked 44 = .ok (.ireturn, 1) := by decide +kernel
set_option maxRecDepth 20000 in
theorem ggX7_wet_X7_in : GoodIn wsX7_wet wsX7_in := goodIn_r _ [7] (by decide +kernel) (by decide +kernel)
set_option maxRecDepth 20000 in
theorem gX7_wet_X7_in : GoodIn wsX7_wet (va_wsS RX7 32 yX7_in wsX7_in) := goodIn_app (goodIn_of _ (by decide +kernel)) ggX7_wet_X7_in
set_option maxRecDepth 20000 in
theorem ggX7_wet_X7_isWet : GoodIn wsX7_wet wsX7_isWet := goodIn_r _ [11, 3, 12, 13, 14, 15, 16, 17, 18, 19, 20, 21, 22, 23, 24] (by decide +kernel) (by decide +kernel)
set_option maxRecDepth 20000 in
theorem gX7_wet_X7_isWet : GoodIn wsX7_wet (wsV RX7 73 RX7 yX7_isWet wsX7_isWet) := goodIn_app (goodIn_of _ (by decide +kernel)) ggX7_wet_X7_isWet
theorem dX7_wet_0 : decode cX7_wet 0 = .ok (.aload_n 0, 1) := by decide +kernel
theorem dX7_wet_1 : decode cX7_wet 1 = .ok (.iconst 0, 1) := by decide +kernel
theorem dX7_wet_2 : decode cX7_wet 2 = .ok (.putfield 28, 3) := by decide +kernel
theorem dX7_wet_5 : decode cX7_wet 5 = .ok (.iload_n 1, 1) := by decide +kernel
theorem dX7_wet_6 : decode cX7_wet 6 = .ok (.iconst 0, 1) := by decide +kernel
theorem dX7_wet_7 : decode cX7_wet 7 = .ok (.bipush 99, 2) := by decide +kernel
theorem dX7_wet_9 : decode cX7_wet 9 = .ok (.invokestatic 32, 3) := by decide +kernel
theorem dX7_wet_12 : decode cX7_wet 12 = .ok (.ifCond .ne 6, 3) := by decide +kernel
theorem dX7_wet_15 : decode cX7_wet 15 = .ok (.ldc 116, 2) := by decide +kernel
theorem dX7_wet_17 : decode cX7_wet 17 = .ok (.ireturn, 1) := by decide +kernel
theorem dX7_wet_18 : decode cX7_wet 18 = .ok (.aload_n 0, 1) := by decide +kernel
theorem dX7_wet_19 : decode cX7_wet 19 = .ok (.aload_n 0, 1) := by decide +kernel
theorem dX7_wet_20 : decode cX7_wet 20 = .ok (.getfield 7, 3) := by decide +kernel
theorem dX7_wet_23 : decode cX7_wet 23 = .ok (.iconst 3, 1) := by decide +kernel
theorem dX7_wet_24 : decode cX7_wet 24 = .ok (.iaload, 1) := by decide +kernel
theorem dX7_wet_25 : decode cX7_wet 25 = .ok (.iload_n 1, 1) := by decide +kernel
theorem dX7_wet_26 : decode cX7_wet 26 = .ok (.iadd, 1) := by decide +kernel
theorem dX7_wet_27 : decode cX7_wet 27 = .ok (.invokevirtual 73, 3) := by decide +kernel
theorem dX7_wet_30 : decode cX7_wet 30 = .ok (.ifCond .eq 7, 3) := by decide +kernel
theorem dX7_wet_33 : decode cX7_wet 33 = .ok (.iconst 1, 1) := by decide +kernel
theorem dX7_wet_34 : decode cX7_wet 34 = .ok (.goto 4, 3) := by decide +kernel
theorem dX7_wet_37 : decode cX7_wet 37 = .ok (.iconst 0, 1) := by decide +kernel
theorem dX7_wet_38 : decode cX7_wet 38 = .ok (.ireturn, 1) := by decide +kernel
set_option maxRecDepth 20000 in
theorem ggX7_most_X7_isMachine : GoodIn wsX7_most wsX7_isMachine := goodIn_r _ [8, 9, 10, 11, 7, 12, 17, 18, 19, 20, 21, 22, 23, 24, 25, 26, 27, 28, 29] (by decide +kernel) (by decide +kernel)
set_option maxRecDepth 20000 in
theorem gX7_most_X7_isMachine : GoodIn wsX7_most (wsV RX7 128 RX7 yX7_isMachine wsX7_isMachine) := goodIn_app (goodIn_of _ (by decide +kernel)) ggX7_most_X7_isMachine
set_option maxRecDepth 20000 in
theorem ggX7_most_X7_ofMachine : GoodIn wsX7_most wsX7_ofMachine := goodIn_r _ [16, 9, 17, 18, 19, 20, 21, 22, 23, 24, 25, 26, 27, 28, 29] (by decide +kernel) (by decide +kernel)
set_option maxRecDepth 20000 in
theorem gX7_most_X7_ofMachine : GoodIn wsX7_most (wsV RX7 51 RX7 yX7_ofMachine wsX7_ofMachine) := goodIn_app (goodIn_of _ (by decide +kernel)) ggX7_most_X7_ofMachine
theorem dX7_most_0 : decode cX7_most 0 = .ok (.aload_n 0, 1) := by decide +kernel
theorem dX7_most_1 : decode cX7_most 1 = .ok (.iconst 0, 1) := by decide +kernel
theorem dX7_most_2 : decode cX7_most 2 = .ok (.putfield 28, 3) := by decide +kernel
theorem dX7_most_5 : decode cX7_most 5 = .ok (.aload_n 0, 1) := by decide +kernel
theorem dX7_most_6 : decode cX7_most 6 = .ok (.iload_n 1, 1) := by decide +kernel
theorem dX7_most_7 : decode cX7_most 7 = .ok (.invokevirtual 128, 3) := by decide +kernel
theorem dX7_most_10 : decode cX7_most 10 = .ok (.ifCond .ne 6, 3) := by decide +kernel
theorem dX7_most_13 : decode cX7_most 13 = .ok (.ldc 115, 2) := by decide +kernel
theorem dX7_most_15 : decode cX7_most 15 = .ok (.ireturn, 1) := by decide +kernel
theorem dX7_most_16 : decode cX7_most 16 = .ok (.ldc 40, 2) := by decide +kernel
theorem dX7_most_18 : decode cX7_most 18 = .ok (.istore_n 2, 1) := by decide +kernel
theorem dX7_most_19 : decode cX7_most 19 = .ok (.iconst 0, 1) := by decide +kernel
theorem dX7_most_20 : decode cX7_most 20 = .ok (.istore_n 3, 1) := by decide +kernel
theorem dX7_most_21 : decode cX7_most 21 = .ok (.iconst 0, 1) := by decide +kernel
theorem dX7_most_22 : decode cX7_most 22 = .ok (.istore 4, 2) := by decide +kernel
theorem dX7_most_24 : decode cX7_most 24 = .ok (.iload 4, 2) := by decide +kernel
theorem dX7_most_26 : decode cX7_most 26 = .ok (.bipush 6, 2) := by decide +kernel
theorem dX7_most_28 : decode cX7_most 28 = .ok (.if_icmp .ge 47, 3) := by decide +kernel
theorem dX7_most_31 : decode cX7_most 31 = .ok (.aload_n 0, 1) := by decide +kernel
theorem dX7_most_32 : decode cX7_most 32 = .ok (.iload_n 1, 1) := by decide +kernel
theorem dX7_most_33 : decode cX7_most 33 = .ok (.bipush 8, 2) := by decide +kernel
theorem dX7_most_35 : decode cX7_most 35 = .ok (.iload 4, 2) := by decide +kernel
theorem dX7_most_37 : decode cX7_most 37 = .ok (.iadd, 1) := by decide +kernel
theorem dX7_most_38 : decode cX7_most 38 = .ok (.invokevirtual 51, 3) := by decide +kernel
theorem dX7_most_41 : decode cX7_most 41 = .ok (.istore 5, 2) := by decide +kernel
theorem dX7_most_43 : decode cX7_most 43 = .ok (.iload 5, 2) := by decide +kernel
theorem dX7_most_45 : decode cX7_most 45 = .ok (.iload_n 3, 1) := by decide +kernel
theorem dX7_most_46 : decode cX7_most 46 = .ok (.if_icmp .le 8, 3) := by decide +kernel
theorem dX7_most_49 : decode cX7_most 49 = .ok (.iload 4, 2) := by decide +kernel
theorem dX7_most_51 : decode cX7_most 51 = .ok (.goto 4, 3) := by decide +kernel
theorem dX7_most_54 : decode cX7_most 54 = .ok (.iload_n 2, 1) := by decide +kernel
theorem dX7_most_55 : decode cX7_most 55 = .ok (.istore_n 2, 1) := by decide +kernel
theorem dX7_most_56 : decode cX7_most 56 = .ok (.iload 5, 2) := by decide +kernel
theorem dX7_most_58 : decode cX7_most 58 = .ok (.iload_n 3, 1) := by decide +kernel
theorem dX7_most_59 : decode cX7_most 59 = .ok (.if_icmp .le 8, 3) := by decide +kernel
theorem dX7_most_62 : decode cX7_most 62 = .ok (.iload 5, 2) := by decide +kernel
theorem dX7_most_64 : decode cX7_most 64 = .ok (.goto 4, 3) := by decide +kernel
theorem dX7_most_67 : decode cX7_most 67 = .ok (.iload_n 3, 1) := by decide +kernel
theorem dX7_most_68 : decode cX7_most 68 = .ok (.istore_n 3, 1) := by decide +kernel
theorem dX7_most_69 : decode cX7_most 69 = .ok (.iinc 4 1, 3) := by decide +kernel
theorem dX7_most_72 : decode cX7_most 72 = .ok (.goto (-48), 3) := by decide +kernel
theorem dX7_most_75 : decode cX7_most 75 = .ok (.iload_n 2, 1) := by decide +kernel
theorem dX7_most_76 : decode cX7_most 76 = .ok (.ireturn, 1) := by decide +kernel
set_option maxRecDepth 20000 in
theorem ggX7_nextOf_X7_ofBooking : GoodIn wsX7_nextOf wsX7_ofBooking := goodIn_r _ [7, 2, 8, 9, 10, 11, 12, 13, 14, 15, 16, 17, 18, 19, 20] (by decide +kernel) (by decide +kernel)
set_option maxRecDepth 20000 in
theorem gX7_nextOf_X7_ofBooking : GoodIn wsX7_nextOf (wsV RX7 36 RX7 yX7_ofBooking wsX7_ofBooking) := goodIn_app (goodIn_of _ (by decide +kernel)) ggX7_nextOf_X7_ofBooking
theorem dX7_nextOf_0 : decode cX7_nextOf 0 = .ok (.ldc 40, 2) := by decide +kernel
theorem dX7_nextOf_2 : decode cX7_nextOf 2 = .ok (.istore 4, 2) := by decide +kernel
theorem dX7_nextOf_4 : decode cX7_nextOf 4 = .ok (.iconst 0, 1) := by decide +kernel
theorem dX7_nextOf_5 : decode cX7_nextOf 5 = .ok (.istore 5, 2) := by decide +kernel
theorem dX7_nextOf_7 : decode cX7_nextOf 7 = .ok (.iload 5, 2) := by decide +kernel
theorem dX7_nextOf_9 : decode cX7_nextOf 9 = .ok (.aload_n 0, 1) := by decide +kernel
theorem dX7_nextOf_10 : decode cX7_nextOf 10 = .ok (.getfield 7, 3) := by decide +kernel
theorem dX7_nextOf_13 : decode cX7_nextOf 13 = .ok (.bipush 6, 2) := by decide +kernel
theorem dX7_nextOf_15 : decode cX7_nextOf 15 = .ok (.iaload, 1) := by decide +kernel
theorem dX7_nextOf_16 : decode cX7_nextOf 16 = .ok (.if_icmp .ge 87, 3) := by decide +kernel
theorem dX7_nextOf_19 : decode cX7_nextOf 19 = .ok (.aload_n 0, 1) := by decide +kernel
theorem dX7_nextOf_20 : decode cX7_nextOf 20 = .ok (.iload 5, 2) := by decide +kernel
theorem dX7_nextOf_22 : decode cX7_nextOf 22 = .ok (.iconst 3, 1) := by decide +kernel
theorem dX7_nextOf_23 : decode cX7_nextOf 23 = .ok (.invokevirtual 36, 3) := by decide +kernel
theorem dX7_nextOf_26 : decode cX7_nextOf 26 = .ok (.istore 6, 2) := by decide +kernel
theorem dX7_nextOf_28 : decode cX7_nextOf 28 = .ok (.aload_n 0, 1) := by decide +kernel
theorem dX7_nextOf_29 : decode cX7_nextOf 29 = .ok (.iload 5, 2) := by decide +kernel
theorem dX7_nextOf_31 : decode cX7_nextOf 31 = .ok (.iconst 2, 1) := by decide +kernel
theorem dX7_nextOf_32 : decode cX7_nextOf 32 = .ok (.invokevirtual 36, 3) := by decide +kernel
theorem dX7_nextOf_35 : decode cX7_nextOf 35 = .ok (.iload_n 1, 1) := by decide +kernel
theorem dX7_nextOf_36 : decode cX7_nextOf 36 = .ok (.if_icmp .ne 25, 3) := by decide +kernel
theorem dX7_nextOf_39 : decode cX7_nextOf 39 = .ok (.iload 6, 2) := by decide +kernel
theorem dX7_nextOf_41 : decode cX7_nextOf 41 = .ok (.iload_n 2, 1) := by decide +kernel
theorem dX7_nextOf_42 : decode cX7_nextOf 42 = .ok (.if_icmp .gt 15, 3) := by decide +kernel
theorem dX7_nextOf_45 : decode cX7_nextOf 45 = .ok (.iload 6, 2) := by decide +kernel
theorem dX7_nextOf_47 : decode cX7_nextOf 47 = .ok (.iload_n 2, 1) := by decide +kernel
theorem dX7_nextOf_48 : decode cX7_nextOf 48 = .ok (.if_icmp .ne 13, 3) := by decide +kernel
theorem dX7_nextOf_51 : decode cX7_nextOf 51 = .ok (.iload 5, 2) := by decide +kernel
theorem dX7_nextOf_53 : decode cX7_nextOf 53 = .ok (.iload_n 3, 1) := by decide +kernel
theorem dX7_nextOf_54 : decode cX7_nextOf 54 = .ok (.if_icmp .le 7, 3) := by decide +kernel
theorem dX7_nextOf_57 : decode cX7_nextOf 57 = .ok (.iconst 1, 1) := by decide +kernel
theorem dX7_nextOf_58 : decode cX7_nextOf 58 = .ok (.goto 4, 3) := by decide +kernel
theorem dX7_nextOf_61 : decode cX7_nextOf 61 = .ok (.iconst 0, 1) := by decide +kernel
theorem dX7_nextOf_62 : decode cX7_nextOf 62 = .ok (.istore 7, 2) := by decide +kernel
theorem dX7_nextOf_64 : decode cX7_nextOf 64 = .ok (.iload 7, 2) := by decide +kernel
theorem dX7_nextOf_66 : decode cX7_nextOf 66 = .ok (.ifCond .eq 27, 3) := by decide +kernel
theorem dX7_nextOf_69 : decode cX7_nextOf 69 = .ok (.iload 4, 2) := by decide +kernel
theorem dX7_nextOf_71 : decode cX7_nextOf 71 = .ok (.ldc 40, 2) := by decide +kernel
theorem dX7_nextOf_73 : decode cX7_nextOf 73 = .ok (.if_icmp .eq 15, 3) := by decide +kernel
theorem dX7_nextOf_76 : decode cX7_nextOf 76 = .ok (.iload 6, 2) := by decide +kernel
theorem dX7_nextOf_78 : decode cX7_nextOf 78 = .ok (.aload_n 0, 1) := by decide +kernel
theorem dX7_nextOf_79 : decode cX7_nextOf 79 = .ok (.iload 4, 2) := by decide +kernel
theorem dX7_nextOf_81 : decode cX7_nextOf 81 = .ok (.iconst 3, 1) := by decide +kernel
theorem dX7_nextOf_82 : decode cX7_nextOf 82 = .ok (.invokevirtual 36, 3) := by decide +kernel
theorem dX7_nextOf_85 : decode cX7_nextOf 85 = .ok (.if_icmp .ge 8, 3) := by decide +kernel
theorem dX7_nextOf_88 : decode cX7_nextOf 88 = .ok (.iload 5, 2) := by decide +kernel
theorem dX7_nextOf_90 : decode cX7_nextOf 90 = .ok (.goto 5, 3) := by decide +kernel
theorem dX7_nextOf_93 : decode cX7_nextOf 93 = .ok (.iload 4, 2) := by decide +kernel
theorem dX7_nextOf_95 : decode cX7_nextOf 95 = .ok (.istore 4, 2) := by decide +kernel
theorem dX7_nextOf_97 : decode cX7_nextOf 97 = .ok (.iinc 5 1, 3) := by decide +kernel
theorem dX7_nextOf_100 : decode cX7_nextOf 100 = .ok (.goto (-93), 3) := by decide +kernel
theorem dX7_nextOf_103 : decode cX7_nextOf 103 = .ok (.iload 4, 2) := by decide +kernel
theorem dX7_nextOf_105 : decode cX7_nextOf 105 = .ok (.ireturn, 1) := by decide +kernel
set_option maxRecDepth 20000 in
theorem ggX7_lasts_X7_isMachine : GoodIn wsX7_lasts wsX7_isMachine := goodIn_r _ [9, 3, 10, 11, 8, 12, 40, 41, 42, 43, 44, 45, 46, 47, 48, 49, 50, 51, 52] (by decide +kernel) (by decide +kernel)
set_option maxRecDepth 20000 in
theorem gX7_lasts_X7_isMachine : GoodIn wsX7_lasts (wsV RX7 128 RX7 yX7_isMachine wsX7_isMachine) := goodIn_app (goodIn_of _ (by decide +kernel)) ggX7_lasts_X7_isMachine
set_option maxRecDepth 20000 in
theorem ggX7_lasts_X7_fuelOf : GoodIn wsX7_lasts wsX7_fuelOf := goodIn_r _ [16, 17, 18, 19, 20, 21, 22, 23, 8, 24, 3, 40, 41, 42, 43, 44, 45, 46, 47, 48, 49, 50, 51, 52] (by decide +kernel) (by decide +kernel)
set_option maxRecDepth 20000 in
theorem gX7_lasts_X7_fuelOf : GoodIn wsX7_lasts (wsV RX7 77 RX7 yX7_fuelOf wsX7_fuelOf) := goodIn_app (goodIn_of _ (by decide +kernel)) ggX7_lasts_X7_fuelOf
set_option maxRecDepth 20000 in
theorem ggX7_lasts_X7_nextOf : GoodIn wsX7_lasts wsX7_nextOf := goodIn_r _ [28, 4, 3, 29, 30, 31, 8, 32, 40, 41, 42, 43, 44, 45, 46, 47, 48, 49, 50, 51, 52] (by decide +kernel) (by decide +kernel)
set_option maxRecDepth 20000 in
theorem gX7_lasts_X7_nextOf : GoodIn wsX7_lasts (wsV RX7 187 RX7 yX7_nextOf wsX7_nextOf) := goodIn_app (goodIn_of _ (by decide +kernel)) ggX7_lasts_X7_nextOf
set_option maxRecDepth 20000 in
theorem ggX7_lasts_X7_ofBooking : GoodIn wsX7_lasts wsX7_ofBooking := goodIn_r _ [32, 3, 40, 41, 42, 43, 44, 45, 46, 47, 48, 49, 50, 51, 52] (by decide +kernel) (by decide +kernel)
set_option maxRecDepth 20000 in
theorem gX7_lasts_X7_ofBooking : GoodIn wsX7_lasts (wsV RX7 36 RX7 yX7_ofBooking wsX7_ofBooking) := goodIn_app (goodIn_of _ (by decide +kernel)) ggX7_lasts_X7_ofBooking
set_option maxRecDepth 20000 in
theorem ggX7_lasts_X7_wants : GoodIn wsX7_lasts wsX7_wants := goodIn_r _ [36, 37, 38, 39, 21, 22, 23, 8, 24, 3, 40, 41, 42, 43, 44, 45, 46, 47, 48, 49, 50, 51, 52] (by decide +kernel) (by decide +kernel)
set_option maxRecDepth 20000 in
theorem gX7_lasts_X7_wants : GoodIn wsX7_lasts (wsV RX7 80 RX7 yX7_wants wsX7_wants) := goodIn_app (goodIn_of _ (by decide +kernel)) ggX7_lasts_X7_wants
theorem dX7_lasts_0 : decode cX7_lasts 0 = .ok (.aload_n 0, 1) := by decide +kernel
theorem dX7_lasts_1 : decode cX7_lasts 1 = .ok (.iconst 0, 1) := by decide +kernel
theorem dX7_lasts_2 : decode cX7_lasts 2 = .ok (.putfield 28, 3) := by decide +kernel
theorem dX7_lasts_5 : decode cX7_lasts 5 = .ok (.aload_n 0, 1) := by decide +kernel
theorem dX7_lasts_6 : decode cX7_lasts 6 = .ok (.iload_n 1, 1) := by decide +kernel
theorem dX7_lasts_7 : decode cX7_lasts 7 = .ok (.invokevirtual 128, 3) := by decide +kernel
theorem dX7_lasts_10 : decode cX7_lasts 10 = .ok (.ifCond .ne 6, 3) := by decide +kernel
theorem dX7_lasts_13 : decode cX7_lasts 13 = .ok (.ldc 115, 2) := by decide +kernel
theorem dX7_lasts_15 : decode cX7_lasts 15 = .ok (.ireturn, 1) := by decide +kernel
theorem dX7_lasts_16 : decode cX7_lasts 16 = .ok (.aload_n 0, 1) := by decide +kernel
theorem dX7_lasts_17 : decode cX7_lasts 17 = .ok (.iload_n 1, 1) := by decide +kernel
theorem dX7_lasts_18 : decode cX7_lasts 18 = .ok (.invokevirtual 77, 3) := by decide +kernel
theorem dX7_lasts_21 : decode cX7_lasts 21 = .ok (.fstore_n 2, 1) := by decide +kernel
theorem dX7_lasts_22 : decode cX7_lasts 22 = .ok (.aload_n 0, 1) := by decide +kernel
theorem dX7_lasts_23 : decode cX7_lasts 23 = .ok (.iload_n 1, 1) := by decide +kernel
theorem dX7_lasts_24 : decode cX7_lasts 24 = .ok (.aload_n 0, 1) := by decide +kernel
theorem dX7_lasts_25 : decode cX7_lasts 25 = .ok (.getfield 7, 3) := by decide +kernel
theorem dX7_lasts_28 : decode cX7_lasts 28 = .ok (.iconst 3, 1) := by decide +kernel
theorem dX7_lasts_29 : decode cX7_lasts 29 = .ok (.iaload, 1) := by decide +kernel
theorem dX7_lasts_30 : decode cX7_lasts 30 = .ok (.bipush 30, 2) := by decide +kernel
theorem dX7_lasts_32 : decode cX7_lasts 32 = .ok (.invokevirtual 187, 3) := by decide +kernel
theorem dX7_lasts_35 : decode cX7_lasts 35 = .ok (.istore_n 3, 1) := by decide +kernel
theorem dX7_lasts_36 : decode cX7_lasts 36 = .ok (.iload_n 3, 1) := by decide +kernel
theorem dX7_lasts_37 : decode cX7_lasts 37 = .ok (.ldc 40, 2) := by decide +kernel
theorem dX7_lasts_39 : decode cX7_lasts 39 = .ok (.if_icmp .eq 58, 3) := by decide +kernel
theorem dX7_lasts_42 : decode cX7_lasts 42 = .ok (.aload_n 0, 1) := by decide +kernel
theorem dX7_lasts_43 : decode cX7_lasts 43 = .ok (.iload_n 1, 1) := by decide +kernel
theorem dX7_lasts_44 : decode cX7_lasts 44 = .ok (.aload_n 0, 1) := by decide +kernel
theorem dX7_lasts_45 : decode cX7_lasts 45 = .ok (.iload_n 3, 1) := by decide +kernel
theorem dX7_lasts_46 : decode cX7_lasts 46 = .ok (.iconst 4, 1) := by decide +kernel
theorem dX7_lasts_47 : decode cX7_lasts 47 = .ok (.invokevirtual 36, 3) := by decide +kernel
theorem dX7_lasts_50 : decode cX7_lasts 50 = .ok (.invokevirtual 80, 3) := by decide +kernel
theorem dX7_lasts_53 : decode cX7_lasts 53 = .ok (.fstore 4, 2) := by decide +kernel
theorem dX7_lasts_55 : decode cX7_lasts 55 = .ok (.fload_n 2, 1) := by decide +kernel
theorem dX7_lasts_56 : decode cX7_lasts 56 = .ok (.fload 4, 2) := by decide +kernel
theorem dX7_lasts_58 : decode cX7_lasts 58 = .ok (.fcmp .g, 1) := by decide +kernel
theorem dX7_lasts_59 : decode cX7_lasts 59 = .ok (.ifCond .ge 17, 3) := by decide +kernel
theorem dX7_lasts_62 : decode cX7_lasts 62 = .ok (.aload_n 0, 1) := by decide +kernel
theorem dX7_lasts_63 : decode cX7_lasts 63 = .ok (.iload_n 3, 1) := by decide +kernel
theorem dX7_lasts_64 : decode cX7_lasts 64 = .ok (.iconst 3, 1) := by decide +kernel
theorem dX7_lasts_65 : decode cX7_lasts 65 = .ok (.invokevirtual 36, 3) := by decide +kernel
theorem dX7_lasts_68 : decode cX7_lasts 68 = .ok (.aload_n 0, 1) := by decide +kernel
theorem dX7_lasts_69 : decode cX7_lasts 69 = .ok (.getfield 7, 3) := by decide +kernel
theorem dX7_lasts_72 : decode cX7_lasts 72 = .ok (.iconst 3, 1) := by decide +kernel
theorem dX7_lasts_73 : decode cX7_lasts 73 = .ok (.iaload, 1) := by decide +kernel
theorem dX7_lasts_74 : decode cX7_lasts 74 = .ok (.isub, 1) := by decide +kernel
theorem dX7_lasts_75 : decode cX7_lasts 75 = .ok (.ireturn, 1) := by decide +kernel
theorem dX7_lasts_76 : decode cX7_lasts 76 = .ok (.fload_n 2, 1) := by decide +kernel
theorem dX7_lasts_77 : decode cX7_lasts 77 = .ok (.fload 4, 2) := by decide +kernel
theorem dX7_lasts_79 : decode cX7_lasts 79 = .ok (.fsub, 1) := by decide +kernel
theorem dX7_lasts_80 : decode cX7_lasts 80 = .ok (.fstore_n 2, 1) := by decide +kernel
theorem dX7_lasts_81 : decode cX7_lasts 81 = .ok (.aload_n 0, 1) := by decide +kernel
theorem dX7_lasts_82 : decode cX7_lasts 82 = .ok (.iload_n 1, 1) := by decide +kernel
theorem dX7_lasts_83 : decode cX7_lasts 83 = .ok (.aload_n 0, 1) := by decide +kernel
theorem dX7_lasts_84 : decode cX7_lasts 84 = .ok (.iload_n 3, 1) := by decide +kernel
theorem dX7_lasts_85 : decode cX7_lasts 85 = .ok (.iconst 3, 1) := by decide +kernel
theorem dX7_lasts_86 : decode cX7_lasts 86 = .ok (.invokevirtual 36, 3) := by decide +kernel
theorem dX7_lasts_89 : decode cX7_lasts 89 = .ok (.iload_n 3, 1) := by decide +kernel
theorem dX7_lasts_90 : decode cX7_lasts 90 = .ok (.invokevirtual 187, 3) := by decide +kernel
theorem dX7_lasts_93 : decode cX7_lasts 93 = .ok (.istore_n 3, 1) := by decide +kernel
theorem dX7_lasts_94 : decode cX7_lasts 94 = .ok (.goto (-58), 3) := by decide +kernel
theorem dX7_lasts_97 : decode cX7_lasts 97 = .ok (.ldc 40, 2) := by decide +kernel
theorem dX7_lasts_99 : decode cX7_lasts 99 = .ok (.ireturn, 1) := by decide +kernel
set_option maxRecDepth 20000 in
theorem ggX7_accounts_X7_ofFarmer : GoodIn wsX7_accounts wsX7_ofFarmer := goodIn_r _ [5, 6, 7, 8, 9, 10, 11, 12, 13, 14, 15, 16, 17, 18, 19] (by decide +kernel) (by decide +kernel)
set_option maxRecDepth 20000 in
theorem gX7_accounts_X7_ofFarmer : GoodIn wsX7_accounts (wsV RX7 66 RX7 yX7_ofFarmer wsX7_ofFarmer) := goodIn_app (goodIn_of _ (by decide +kernel)) ggX7_accounts_X7_ofFarmer
theorem dX7_accounts_0 : decode cX7_accounts 0 = .ok (.iconst 0, 1) := by decide +kernel
theorem dX7_accounts_1 : decode cX7_accounts 1 = .ok (.istore_n 1, 1) := by decide +kernel
theorem dX7_accounts_2 : decode cX7_accounts 2 = .ok (.iconst 0, 1) := by decide +kernel
theorem dX7_accounts_3 : decode cX7_accounts 3 = .ok (.istore_n 2, 1) := by decide +kernel
theorem dX7_accounts_4 : decode cX7_accounts 4 = .ok (.iload_n 2, 1) := by decide +kernel
theorem dX7_accounts_5 : decode cX7_accounts 5 = .ok (.bipush 6, 2) := by decide +kernel
theorem dX7_accounts_7 : decode cX7_accounts 7 = .ok (.if_icmp .ge 18, 3) := by decide +kernel
theorem dX7_accounts_10 : decode cX7_accounts 10 = .ok (.iload_n 1, 1) := by decide +kernel
theorem dX7_accounts_11 : decode cX7_accounts 11 = .ok (.aload_n 0, 1) := by decide +kernel
theorem dX7_accounts_12 : decode cX7_accounts 12 = .ok (.iload_n 2, 1) := by decide +kernel
theorem dX7_accounts_13 : decode cX7_accounts 13 = .ok (.iconst 0, 1) := by decide +kernel
theorem dX7_accounts_14 : decode cX7_accounts 14 = .ok (.invokevirtual 66, 3) := by decide +kernel
theorem dX7_accounts_17 : decode cX7_accounts 17 = .ok (.iadd, 1) := by decide +kernel
theorem dX7_accounts_18 : decode cX7_accounts 18 = .ok (.istore_n 1, 1) := by decide +kernel
theorem dX7_accounts_19 : decode cX7_accounts 19 = .ok (.iinc 2 1, 3) := by decide +kernel
theorem dX7_accounts_22 : decode cX7_accounts 22 = .ok (.goto (-18), 3) := by decide +kernel
theorem dX7_accounts_25 : decode cX7_accounts 25 = .ok (.iload_n 1, 1) := by decide +kernel
theorem dX7_accounts_26 : decode cX7_accounts 26 = .ok (.ireturn, 1) := by decide +kernel
set_option maxRecDepth 20000 in
theorem ggX7_brokenOnes_X7_ofMachine : GoodIn wsX7_brokenOnes wsX7_ofMachine := goodIn_r _ [6, 1, 7, 8, 9, 10, 11, 12, 13, 14, 15, 16, 17, 18, 19] (by decide +kernel) (by decide +kernel)
set_option maxRecDepth 20000 in
theorem gX7_brokenOnes_X7_ofMachine : GoodIn wsX7_brokenOnes (wsV RX7 51 RX7 yX7_ofMachine wsX7_ofMachine) := goodIn_app (goodIn_of _ (by decide +kernel)) ggX7_brokenOnes_X7_ofMachine
theorem dX7_brokenOnes_0 : decode cX7_brokenOnes 0 = .ok (.iconst 0, 1) := by decide +kernel
theorem dX7_brokenOnes_1 : decode cX7_brokenOnes 1 = .ok (.istore_n 1, 1) := by decide +kernel
theorem dX7_brokenOnes_2 : decode cX7_brokenOnes 2 = .ok (.iconst 0, 1) := by decide +kernel
theorem dX7_brokenOnes_3 : decode cX7_brokenOnes 3 = .ok (.istore_n 2, 1) := by decide +kernel
theorem dX7_brokenOnes_4 : decode cX7_brokenOnes 4 = .ok (.iload_n 2, 1) := by decide +kernel
theorem dX7_brokenOnes_5 : decode cX7_brokenOnes 5 = .ok (.aload_n 0, 1) := by decide +kernel
theorem dX7_brokenOnes_6 : decode cX7_brokenOnes 6 = .ok (.getfield 7, 3) := by decide +kernel
theorem dX7_brokenOnes_9 : decode cX7_brokenOnes 9 = .ok (.bipush 12, 2) := by decide +kernel
theorem dX7_brokenOnes_11 : decode cX7_brokenOnes 11 = .ok (.iaload, 1) := by decide +kernel
theorem dX7_brokenOnes_12 : decode cX7_brokenOnes 12 = .ok (.if_icmp .ge 18, 3) := by decide +kernel
theorem dX7_brokenOnes_15 : decode cX7_brokenOnes 15 = .ok (.iload_n 1, 1) := by decide +kernel
theorem dX7_brokenOnes_16 : decode cX7_brokenOnes 16 = .ok (.aload_n 0, 1) := by decide +kernel
theorem dX7_brokenOnes_17 : decode cX7_brokenOnes 17 = .ok (.iload_n 2, 1) := by decide +kernel
theorem dX7_brokenOnes_18 : decode cX7_brokenOnes 18 = .ok (.iconst 2, 1) := by decide +kernel
theorem dX7_brokenOnes_19 : decode cX7_brokenOnes 19 = .ok (.invokevirtual 51, 3) := by decide +kernel
theorem dX7_brokenOnes_22 : decode cX7_brokenOnes 22 = .ok (.iadd, 1) := by decide +kernel
theorem dX7_brokenOnes_23 : decode cX7_brokenOnes 23 = .ok (.istore_n 1, 1) := by decide +kernel
theorem dX7_brokenOnes_24 : decode cX7_brokenOnes 24 = .ok (.iinc 2 1, 3) := by decide +kernel
theorem dX7_brokenOnes_27 : decode cX7_brokenOnes 27 = .ok (.goto (-23), 3) := by decide +kernel
theorem dX7_brokenOnes_30 : decode cX7_brokenOnes 30 = .ok (.iload_n 1, 1) := by decide +kernel
theorem dX7_brokenOnes_31 : decode cX7_brokenOnes 31 = .ok (.ireturn, 1) := by decide +kernel
set_option maxRecDepth 20000 in
theorem ggX7_count_X7_season : GoodIn wsX7_count wsX7_season := goodIn_r _ [9] (by decide +kernel) (by decide +kernel)
set_option maxRecDepth 20000 in
theorem gX7_count_X7_season : GoodIn wsX7_count (va_wsS RX7 44 yX7_season wsX7_season) := goodIn_app (goodIn_of _ (by decide +kernel)) ggX7_count_X7_season
set_option maxRecDepth 20000 in
theorem ggX7_count_X7_accounts : GoodIn wsX7_count wsX7_accounts := goodIn_r _ [13, 14, 15, 16, 8, 17, 2, 29, 30, 31, 32, 33, 34, 35, 36, 37, 38, 39, 40, 41] (by decide +kernel) (by decide +kernel)
set_option maxRecDepth 20000 in
theorem gX7_count_X7_accounts : GoodIn wsX7_count (wsV RX7 191 RX7 yX7_accounts wsX7_accounts) := goodIn_app (goodIn_of _ (by decide +kernel)) ggX7_count_X7_accounts
set_option maxRecDepth 20000 in
theorem ggX7_count_X7_brokenOnes : GoodIn wsX7_count wsX7_brokenOnes := goodIn_r _ [21, 2, 22, 23, 24, 8, 25, 29, 30, 31, 32, 33, 34, 35, 36, 37, 38, 39, 40, 41] (by decide +kernel) (by decide +kernel)
set_option maxRecDepth 20000 in
theorem gX7_count_X7_brokenOnes : GoodIn wsX7_count (wsV RX7 194 RX7 yX7_brokenOnes wsX7_brokenOnes) := goodIn_app (goodIn_of _ (by decide +kernel)) ggX7_count_X7_brokenOnes
set_option maxRecDepth 20000 in
theorem ggX7_count_X7_in : GoodIn wsX7_count wsX7_in := goodIn_r _ [28] (by decide +kernel) (by decide +kernel)
set_option maxRecDepth 20000 in
theorem gX7_count_X7_in : GoodIn wsX7_count (va_wsS RX7 32 yX7_in wsX7_in) := goodIn_app (goodIn_of _ (by decide +kernel)) ggX7_count_X7_in
theorem dX7_count_0 : decode cX7_count 0 = .ok (.aload_n 0, 1) := by decide +kernel
theorem dX7_count_1 : decode cX7_count 1 = .ok (.iconst 0, 1) := by decide +kernel
theorem dX7_count_2 : decode cX7_count 2 = .ok (.putfield 28, 3) := by decide +kernel
theorem dX7_count_5 : decode cX7_count 5 = .ok (.iload_n 1, 1) := by decide +kernel
theorem dX7_count_6 : decode cX7_count 6 = .ok (.tableswitch 163 0 14 #[74, 81, 91, 99, 107, 114, 114, 126, 133, 138, 138, 138, 148, 153, 158], 74) := by decide +kernel
theorem dX7_count_80 : decode cX7_count 80 = .ok (.aload_n 0, 1) := by decide +kernel
theorem dX7_count_81 : decode cX7_count 81 = .ok (.getfield 7, 3) := by decide +kernel
theorem dX7_count_84 : decode cX7_count 84 = .ok (.iconst 3, 1) := by decide +kernel
theorem dX7_count_85 : decode cX7_count 85 = .ok (.iaload, 1) := by decide +kernel
theorem dX7_count_86 : decode cX7_count 86 = .ok (.ireturn, 1) := by decide +kernel
theorem dX7_count_87 : decode cX7_count 87 = .ok (.aload_n 0, 1) := by decide +kernel
theorem dX7_count_88 : decode cX7_count 88 = .ok (.getfield 7, 3) := by decide +kernel
theorem dX7_count_91 : decode cX7_count 91 = .ok (.iconst 3, 1) := by decide +kernel
theorem dX7_count_92 : decode cX7_count 92 = .ok (.iaload, 1) := by decide +kernel
theorem dX7_count_93 : decode cX7_count 93 = .ok (.invokestatic 44, 3) := by decide +kernel
theorem dX7_count_96 : decode cX7_count 96 = .ok (.ireturn, 1) := by decide +kernel
theorem dX7_count_97 : decode cX7_count 97 = .ok (.aload_n 0, 1) := by decide +kernel
theorem dX7_count_98 : decode cX7_count 98 = .ok (.getfield 7, 3) := by decide +kernel
theorem dX7_count_101 : decode cX7_count 101 = .ok (.bipush 12, 2) := by decide +kernel
theorem dX7_count_103 : decode cX7_count 103 = .ok (.iaload, 1) := by decide +kernel
theorem dX7_count_104 : decode cX7_count 104 = .ok (.ireturn, 1) := by decide +kernel
theorem dX7_count_105 : decode cX7_count 105 = .ok (.aload_n 0, 1) := by decide +kernel
theorem dX7_count_106 : decode cX7_count 106 = .ok (.getfield 7, 3) := by decide +kernel
theorem dX7_count_109 : decode cX7_count 109 = .ok (.bipush 6, 2) := by decide +kernel
theorem dX7_count_111 : decode cX7_count 111 = .ok (.iaload, 1) := by decide +kernel
theorem dX7_count_112 : decode cX7_count 112 = .ok (.ireturn, 1) := by decide +kernel
theorem dX7_count_113 : decode cX7_count 113 = .ok (.aload_n 0, 1) := by decide +kernel
theorem dX7_count_114 : decode cX7_count 114 = .ok (.getfield 7, 3) := by decide +kernel
theorem dX7_count_117 : decode cX7_count 117 = .ok (.iconst 5, 1) := by decide +kernel
theorem dX7_count_118 : decode cX7_count 118 = .ok (.iaload, 1) := by decide +kernel
theorem dX7_count_119 : decode cX7_count 119 = .ok (.ireturn, 1) := by decide +kernel
theorem dX7_count_120 : decode cX7_count 120 = .ok (.aload_n 0, 1) := by decide +kernel
theorem dX7_count_121 : decode cX7_count 121 = .ok (.getfield 7, 3) := by decide +kernel
theorem dX7_count_124 : decode cX7_count 124 = .ok (.bipush 7, 2) := by decide +kernel
theorem dX7_count_126 : decode cX7_count 126 = .ok (.iload_n 1, 1) := by decide +kernel
theorem dX7_count_127 : decode cX7_count 127 = .ok (.iadd, 1) := by decide +kernel
theorem dX7_count_128 : decode cX7_count 128 = .ok (.iconst 5, 1) := by decide +kernel
theorem dX7_count_129 : decode cX7_count 129 = .ok (.isub, 1) := by decide +kernel
theorem dX7_count_130 : decode cX7_count 130 = .ok (.iaload, 1) := by decide +kernel
theorem dX7_count_131 : decode cX7_count 131 = .ok (.ireturn, 1) := by decide +kernel
theorem dX7_count_132 : decode cX7_count 132 = .ok (.aload_n 0, 1) := by decide +kernel
theorem dX7_count_133 : decode cX7_count 133 = .ok (.getfield 7, 3) := by decide +kernel
theorem dX7_count_136 : decode cX7_count 136 = .ok (.iconst 4, 1) := by decide +kernel
theorem dX7_count_137 : decode cX7_count 137 = .ok (.iaload, 1) := by decide +kernel
theorem dX7_count_138 : decode cX7_count 138 = .ok (.ireturn, 1) := by decide +kernel
theorem dX7_count_139 : decode cX7_count 139 = .ok (.aload_n 0, 1) := by decide +kernel
theorem dX7_count_140 : decode cX7_count 140 = .ok (.invokevirtual 191, 3) := by decide +kernel
theorem dX7_count_143 : decode cX7_count 143 = .ok (.ireturn, 1) := by decide +kernel
theorem dX7_count_144 : decode cX7_count 144 = .ok (.aload_n 0, 1) := by decide +kernel
theorem dX7_count_145 : decode cX7_count 145 = .ok (.getfield 7, 3) := by decide +kernel
theorem dX7_count_148 : decode cX7_count 148 = .ok (.iload_n 1, 1) := by decide +kernel
theorem dX7_count_149 : decode cX7_count 149 = .ok (.bipush 9, 2) := by decide +kernel
theorem dX7_count_151 : decode cX7_count 151 = .ok (.isub, 1) := by decide +kernel
theorem dX7_count_152 : decode cX7_count 152 = .ok (.iaload, 1) := by decide +kernel
theorem dX7_count_153 : decode cX7_count 153 = .ok (.ireturn, 1) := by decide +kernel
theorem dX7_count_154 : decode cX7_count 154 = .ok (.aload_n 0, 1) := by decide +kernel
theorem dX7_count_155 : decode cX7_count 155 = .ok (.invokevirtual 194, 3) := by decide +kernel
theorem dX7_count_158 : decode cX7_count 158 = .ok (.ireturn, 1) := by decide +kernel
theorem dX7_count_159 : decode cX7_count 159 = .ok (.aload_n 0, 1) := by decide +kernel
theorem dX7_count_160 : decode cX7_count 160 = .ok (.getfield 41, 3) := by decide +kernel
theorem dX7_count_163 : decode cX7_count 163 = .ok (.ireturn, 1) := by decide +kernel
theorem dX7_count_164 : decode cX7_count 164 = .ok (.aload_n 0, 1) := by decide +kernel
theorem dX7_count_165 : decode cX7_count 165 = .ok (.getfield 155, 3) := by decide +kernel
theorem dX7_count_168 : decode cX7_count 168 = .ok (.ireturn, 1) := by decide +kernel
theorem dX7_count_169 : decode cX7_count 169 = .ok (.iload_n 1, 1) := by decide +kernel
theorem dX7_count_170 : decode cX7_count 170 = .ok (.bipush 15, 2) := by decide +kernel
theorem dX7_count_172 : decode cX7_count 172 = .ok (.bipush 17, 2) := by decide +kernel
theorem dX7_count_174 : decode cX7_count 174 = .ok (.invokestatic 32, 3) := by decide +kernel
theorem dX7_count_177 : decode cX7_count 177 = .ok (.ifCond .eq 18, 3) := by decide +kernel
theorem dX7_count_180 : decode cX7_count 180 = .ok (.aload_n 0, 1) := by decide +kernel
theorem dX7_count_181 : decode cX7_count 181 = .ok (.getfield 7, 3) := by decide +kernel
theorem dX7_count_184 : decode cX7_count 184 = .ok (.bipush 9, 2) := by decide +kernel
theorem dX7_count_186 : decode cX7_count 186 = .ok (.iload_n 1, 1) := by decide +kernel
theorem dX7_count_187 : decode cX7_count 187 = .ok (.iadd, 1) := by decide +kernel
theorem dX7_count_188 : decode cX7_count 188 = .ok (.bipush 15, 2) := by decide +kernel
theorem dX7_count_190 : decode cX7_count 190 = .ok (.isub, 1) := by decide +kernel
theorem dX7_count_191 : decode cX7_count 191 = .ok (.iaload, 1) := by decide +kernel
theorem dX7_count_192 : decode cX7_count 192 = .ok (.goto 5, 3) := by decide +kernel
theorem dX7_count_195 : decode cX7_count 195 = .ok (.ldc 116, 2) := by decide +kernel
theorem dX7_count_197 : decode cX7_count 197 = .ok (.ireturn, 1) := by decide +kernel
theorem dJxf58ca_isNaN_12338_0 : decode cJxf58ca_isNaN_12338 0 = .ok (.fload_n 0, 1) := by decide +kernel
theorem dJxf58ca_isNaN_12338_1 : decode cJxf58ca_isNaN_12338 1 = .ok (.fload_n 0, 1) := by decide +kernel
theorem dJxf58ca_isNaN_12338_2 : decode cJxf58ca_isNaN_12338 2 = .ok (.fcmp .l, 1) := by decide +kernel
theorem dJxf58ca_isNaN_12338_3 : decode cJxf58ca_isNaN_12338 3 = .ok (.ifCond .eq 7, 3) := by decide +kernel
theorem dJxf58ca_isNaN_12338_6 : decode cJxf58ca_isNaN_12338 6 = .ok (.iconst 1, 1) := by decide +kernel
theorem dJxf58ca_isNaN_12338_7 : decode cJxf58ca_isNaN_12338 7 = .ok (.goto 4, 3) := by decide +kernel
theorem dJxf58ca_isNaN_12338_10 : decode cJxf58ca_isNaN_12338 10 = .ok (.iconst 0, 1) := by decide +kernel
theorem dJxf58ca_isNaN_12338_11 : decode cJxf58ca_isNaN_12338 11 = .ok (.ireturn, 1) := by decide +kernel
set_option maxRecDepth 20000 in
theorem ggJxf58ca_floatToIntBits_5c35a_Jxf58ca_isNaN_12338 : GoodIn wsJxf58ca_floatToIntBits_5c35a wsJxf58ca_isNaN_12338 := goodIn_r _ [9] (by decide +kernel) (by decide +kernel)
set_option maxRecDepth 20000 in
theorem gJxf58ca_floatToIntBits_5c35a_Jxf58ca_isNaN_12338 : GoodIn wsJxf58ca_floatToIntBits_5c35a (va_wsS RJxf58ca 59 yJxf58ca_isNaN_12338 wsJxf58ca_isNaN_12338) := goodIn_app (goodIn_of _ (by decide +kernel)) ggJxf58ca_floatToIntBits_5c35a_Jxf58ca_isNaN_12338
theorem dJxf58ca_floatToIntBits_5c35a_0 : decode cJxf58ca_floatToIntBits_5c35a 0 = .ok (.fload_n 0, 1) := by decide +kernel
theorem dJxf58ca_floatToIntBits_5c35a_1 : decode cJxf58ca_floatToIntBits_5c35a 1 = .ok (.invokestatic 59, 3) := by decide +kernel
theorem dJxf58ca_floatToIntBits_5c35a_4 : decode cJxf58ca_floatToIntBits_5c35a 4 = .ok (.ifCond .ne 8, 3) := by decide +kernel
theorem dJxf58ca_floatToIntBits_5c35a_7 : decode cJxf58ca_floatToIntBits_5c35a 7 = .ok (.fload_n 0, 1) := by decide +kernel
theorem dJxf58ca_floatToIntBits_5c35a_8 : decode cJxf58ca_floatToIntBits_5c35a 8 = .ok (.invokestatic 74, 3) := by decide +kernel
theorem dJxf58ca_floatToIntBits_5c35a_11 : decode cJxf58ca_floatToIntBits_5c35a 11 = .ok (.ireturn, 1) := by decide +kernel
theorem dJxf58ca_floatToIntBits_5c35a_12 : decode cJxf58ca_floatToIntBits_5c35a 12 = .ok (.ldc 77, 2) := by decide +kernel
theorem dJxf58ca_floatToIntBits_5c35a_14 : decode cJxf58ca_floatToIntBits_5c35a 14 = .ok (.ireturn, 1) := by decide +kernel
theorem dJ9_min_7cf53_0 : decode cJ9_min_7cf53 0 = .ok (.iload_n 0, 1) := by decide +kernel
theorem dJ9_min_7cf53_1 : decode cJ9_min_7cf53 1 = .ok (.iload_n 1, 1) := by decide +kernel
theorem dJ9_min_7cf53_2 : decode cJ9_min_7cf53 2 = .ok (.if_icmp .gt 7, 3) := by decide +kernel
theorem dJ9_min_7cf53_5 : decode cJ9_min_7cf53 5 = .ok (.iload_n 0, 1) := by decide +kernel
theorem dJ9_min_7cf53_6 : decode cJ9_min_7cf53 6 = .ok (.goto 4, 3) := by decide +kernel
theorem dJ9_min_7cf53_9 : decode cJ9_min_7cf53 9 = .ok (.iload_n 1, 1) := by decide +kernel
theorem dJ9_min_7cf53_10 : decode cJ9_min_7cf53 10 = .ok (.ireturn, 1) := by decide +kernel
set_option maxRecDepth 20000 in
theorem ggL_law_X6_init : GoodIn wsL_law wsX6_init := goodIn_r _ [8, 9, 10, 11, 12, 13, 14, 15, 16, 17, 18, 19, 20, 21, 22, 23, 24, 25, 26, 27, 28, 29, 30, 31, 32, 33, 34, 35, 36, 37, 38, 39, 40, 41, 42, 43, 44, 45, 46, 47, 48, 49, 50, 51, 52, 53, 54, 55, 56, 57, 58, 59, 60, 61, 62, 63, 64, 65, 66, 67, 68, 69, 70, 835, 836, 837, 838, 839, 840, 841, 842, 843, 844, 845, 846, 847, 848, 849, 850, 816, 817, 818, 819, 820, 821, 851, 852, 853, 854, 855, 856, 857, 858, 859, 860, 861, 862, 863, 864, 865, 866, 867, 868, 869, 870, 871, 872, 873, 874, 875, 876, 877, 878, 879] (by decide +kernel) (by decide +kernel)
set_option maxRecDepth 20000 in
theorem gL_law_X6_init : GoodIn wsL_law (wsX6_init) := ggL_law_X6_init
set_option maxRecDepth 20000 in
theorem ggL_law_X7_init : GoodIn wsL_law wsX7_init := goodIn_r _ [73, 74, 10, 11, 53, 75, 76, 77, 78, 79, 80, 81, 822, 823, 824, 825, 826, 827, 828, 829, 830, 831, 832, 833, 834] (by decide +kernel) (by decide +kernel)
set_option maxRecDepth 20000 in
theorem gL_law_X7_init : GoodIn wsL_law (wsX7_init) := ggL_law_X7_init
set_option maxRecDepth 20000 in
theorem ggL_law_X6_buy : GoodIn wsL_law wsX6_buy := goodIn_r _ [85, 86, 87, 15, 88, 89, 21, 90, 91, 2, 92, 93, 94, 95, 14, 96, 97, 98, 99, 100, 101, 102, 35, 103, 104, 105, 20, 106, 107, 63, 108, 109, 110, 111, 112, 113, 114, 115, 116, 117, 118, 119, 120, 121, 122, 123, 124, 125, 126, 127, 128, 129, 42, 43, 130, 131, 132, 133, 134, 135, 136, 137, 31, 138, 139, 140, 33, 141, 142, 48, 143, 144, 145, 146, 147, 148, 149, 37, 150, 151, 152, 153, 154, 155, 156, 157, 54, 158, 159, 160, 161, 162, 163, 164, 165, 39, 166, 167, 168, 41, 169, 170, 171, 172, 173, 174, 175, 176, 177, 178, 179, 180, 181, 182, 183, 184, 185, 186, 187, 188, 189, 816, 817, 818, 819, 820, 821, 835, 836, 837, 838, 839, 840, 841, 842, 843, 844, 845, 846, 847, 848, 849, 850, 866, 867, 868, 869, 870, 871, 872, 873, 851, 852, 860, 861, 862, 863, 864, 865, 874, 875, 876, 877, 878, 879] (by decide +kernel) (by decide +kernel)
set_option maxRecDepth 20000 in
theorem gL_law_X6_buy : GoodIn wsL_law (wsV RL 13 RX6 yX6_buy wsX6_buy) := goodIn_app (goodIn_of _ (by decide +kernel)) ggL_law_X6_buy
set_option maxRecDepth 20000 in
theorem ggL_law_X7_buy : GoodIn wsL_law wsX7_buy := goodIn_r _ [193, 81, 194, 195, 196, 197, 75, 198, 199, 5, 200, 201, 202, 203, 204, 205, 206, 207, 208, 209, 210, 211, 212, 213, 77, 214, 215, 216, 217, 822, 823, 824, 825, 826, 827, 828, 829, 830, 831, 832, 833, 834] (by decide +kernel) (by decide +kernel)
set_option maxRecDepth 20000 in
theorem gL_law_X7_buy : GoodIn wsL_law (wsV RL 17 RX7 yX7_buy wsX7_buy) := goodIn_app (goodIn_of _ (by decide +kernel)) ggL_law_X7_buy
set_option maxRecDepth 20000 in
theorem ggL_law_X6_license : GoodIn wsL_law wsX6_license := goodIn_r _ [221, 15, 86, 87, 222, 223, 21, 224, 135, 136, 14, 137, 31, 90, 91, 2, 92, 103, 104, 105, 20, 106, 107, 63, 108, 109, 110, 111, 112, 113, 114, 115, 116, 117, 118, 119, 97, 120, 121, 122, 123, 124, 125, 126, 127, 128, 129, 42, 43, 130, 131, 132, 133, 134, 138, 139, 140, 33, 141, 142, 48, 143, 144, 145, 146, 99, 100, 101, 102, 35, 147, 148, 149, 37, 150, 151, 152, 153, 154, 155, 156, 157, 54, 158, 159, 160, 161, 162, 163, 164, 165, 39, 166, 167, 168, 41, 169, 170, 171, 172, 173, 174, 175, 816, 817, 818, 819, 820, 821, 860, 861, 862, 863, 864, 865, 835, 836, 837, 838, 839, 840, 841, 842, 843, 844, 845, 846, 847, 848, 849, 850, 851, 852, 866, 867, 868, 869, 870, 871, 872, 873, 874, 875, 876, 877, 878, 879] (by decide +kernel) (by decide +kernel)
set_option maxRecDepth 20000 in
theorem gL_law_X6_license : GoodIn wsL_law (wsV RL 18 RX6 yX6_license wsX6_license) := goodIn_app (goodIn_of _ (by decide +kernel)) ggL_law_X6_license
set_option maxRecDepth 20000 in
theorem ggL_law_X7_license : GoodIn wsL_law wsX7_license := goodIn_r _ [228, 81, 194, 195, 229, 230, 231, 5, 232, 198, 199, 200, 233, 234, 235, 236, 75, 209, 210, 211, 212, 213, 77, 237, 238, 239, 240, 822, 823, 824, 825, 826, 827, 828, 829, 830, 831, 832, 833, 834] (by decide +kernel) (by decide +kernel)
set_option maxRecDepth 20000 in
theorem gL_law_X7_license : GoodIn wsL_law (wsV RL 22 RX7 yX7_license wsX7_license) := goodIn_app (goodIn_of _ (by decide +kernel)) ggL_law_X7_license
set_option maxRecDepth 20000 in
theorem ggL_law_X6_setRate : GoodIn wsL_law wsX6_setRate := goodIn_r _ [244, 15, 86, 87, 245, 223, 21, 246, 100, 101, 14, 102, 97, 35, 90, 91, 2, 92, 103, 104, 105, 20, 106, 107, 63, 108, 109, 110, 111, 112, 113, 114, 115, 116, 117, 118, 119, 120, 121, 122, 123, 124, 125, 126, 127, 128, 129, 42, 43, 130, 131, 132, 133, 134, 135, 136, 137, 31, 138, 139, 140, 33, 141, 142, 48, 143, 144, 145, 146, 99, 147, 148, 149, 37, 150, 151, 152, 153, 154, 155, 156, 157, 54, 158, 159, 160, 161, 162, 163, 164, 165, 39, 166, 167, 168, 41, 169, 170, 171, 172, 173, 174, 175, 816, 817, 818, 819, 820, 821, 866, 867, 868, 869, 870, 871, 872, 873, 835, 836, 837, 838, 839, 840, 841, 842, 843, 844, 845, 846, 847, 848, 849, 850, 851, 852, 860, 861, 862, 863, 864, 865, 874, 875, 876, 877, 878, 879] (by decide +kernel) (by decide +kernel)
set_option maxRecDepth 20000 in
theorem gL_law_X6_setRate : GoodIn wsL_law (wsV RL 23 RX6 yX6_setRate wsX6_setRate) := goodIn_app (goodIn_of _ (by decide +kernel)) ggL_law_X6_setRate
set_option maxRecDepth 20000 in
theorem ggL_law_X7_setRate : GoodIn wsL_law wsX7_setRate := goodIn_r _ [250, 81, 194, 195, 229, 251, 252, 253, 5, 254, 75, 198, 199, 200, 205, 206, 207, 208, 209, 210, 211, 212, 213, 77, 214, 215, 216, 217, 822, 823, 824, 825, 826, 827, 828, 829, 830, 831, 832, 833, 834] (by decide +kernel) (by decide +kernel)
set_option maxRecDepth 20000 in
theorem gL_law_X7_setRate : GoodIn wsL_law (wsV RL 26 RX7 yX7_setRate wsX7_setRate) := goodIn_app (goodIn_of _ (by decide +kernel)) ggL_law_X7_setRate
set_option maxRecDepth 20000 in
theorem ggL_law_X6_fill : GoodIn wsL_law wsX6_fill := goodIn_r _ [258, 15, 86, 87, 259, 260, 88, 21, 261, 262, 263, 224, 135, 136, 14, 137, 31, 246, 100, 101, 102, 97, 35, 90, 91, 2, 92, 103, 104, 105, 20, 106, 107, 63, 108, 109, 110, 111, 112, 113, 114, 115, 116, 117, 118, 119, 120, 121, 122, 123, 124, 125, 126, 127, 128, 129, 42, 43, 130, 131, 132, 133, 134, 138, 139, 140, 33, 141, 142, 48, 143, 144, 145, 146, 99, 147, 148, 149, 37, 150, 151, 152, 153, 154, 155, 156, 157, 54, 158, 159, 160, 161, 162, 163, 164, 165, 39, 166, 167, 168, 41, 169, 170, 171, 172, 173, 174, 175, 816, 817, 818, 819, 820, 821, 866, 867, 868, 869, 870, 871, 872, 873, 860, 861, 862, 863, 864, 865, 835, 836, 837, 838, 839, 840, 841, 842, 843, 844, 845, 846, 847, 848, 849, 850, 851, 852, 874, 875, 876, 877, 878, 879] (by decide +kernel) (by decide +kernel)
set_option maxRecDepth 20000 in
theorem gL_law_X6_fill : GoodIn wsL_law (wsV RL 27 RX6 yX6_fill wsX6_fill) := goodIn_app (goodIn_of _ (by decide +kernel)) ggL_law_X6_fill
set_option maxRecDepth 20000 in
theorem ggL_law_X7_fill : GoodIn wsL_law wsX7_fill := goodIn_r _ [267, 81, 194, 195, 268, 196, 75, 230, 231, 5, 232, 198, 199, 200, 251, 252, 253, 254, 269, 270, 271, 272, 273, 274, 275, 276, 205, 206, 207, 208, 209, 210, 211, 212, 213, 77, 277, 278, 279, 280, 281, 282, 283, 284, 285, 286, 287, 214, 215, 216, 217, 237, 238, 239, 240, 822, 823, 824, 825, 826, 827, 828, 829, 830, 831, 832, 833, 834] (by decide +kernel) (by decide +kernel)
set_option maxRecDepth 20000 in
theorem gL_law_X7_fill : GoodIn wsL_law (wsV RL 30 RX7 yX7_fill wsX7_fill) := goodIn_app (goodIn_of _ (by decide +kernel)) ggL_law_X7_fill
set_option maxRecDepth 20000 in
theorem ggL_law_X6_mend : GoodIn wsL_law wsX6_mend := goodIn_r _ [291, 15, 86, 292, 223, 21, 246, 100, 101, 14, 102, 97, 35, 103, 104, 105, 20, 106, 107, 63, 108, 109, 110, 111, 112, 113, 114, 115, 116, 117, 118, 119, 120, 121, 122, 123, 124, 125, 126, 127, 128, 129, 42, 43, 130, 131, 132, 133, 134, 135, 136, 137, 31, 138, 139, 140, 33, 141, 142, 48, 143, 144, 145, 146, 99, 147, 148, 149, 37, 150, 151, 152, 153, 154, 155, 156, 157, 54, 158, 159, 160, 161, 162, 163, 164, 165, 39, 166, 167, 168, 41, 169, 170, 171, 172, 173, 174, 175, 293, 294, 295, 296, 297, 298, 299, 300, 301, 302, 303, 304, 305, 306, 307, 308, 187, 188, 189, 816, 817, 818, 819, 820, 821, 866, 867, 868, 869, 870, 871, 872, 873, 835, 836, 837, 838, 839, 840, 841, 842, 843, 844, 845, 846, 847, 848, 849, 850, 851, 852, 860, 861, 862, 863, 864, 865, 874, 875, 876, 877, 878, 879] (by decide +kernel) (by decide +kernel)
set_option maxRecDepth 20000 in
theorem gL_law_X6_mend : GoodIn wsL_law (wsV RL 31 RX6 yX6_mend wsX6_mend) := goodIn_app (goodIn_of _ (by decide +kernel)) ggL_law_X6_mend
set_option maxRecDepth 20000 in
theorem ggL_law_X7_mend : GoodIn wsL_law wsX7_mend := goodIn_r _ [312, 81, 194, 229, 75, 251, 252, 253, 5, 254, 198, 199, 200, 205, 206, 207, 208, 209, 210, 211, 212, 213, 77, 237, 238, 239, 240, 214, 215, 216, 217, 822, 823, 824, 825, 826, 827, 828, 829, 830, 831, 832, 833, 834] (by decide +kernel) (by decide +kernel)
set_option maxRecDepth 20000 in
theorem gL_law_X7_mend : GoodIn wsL_law (wsV RL 35 RX7 yX7_mend wsX7_mend) := goodIn_app (goodIn_of _ (by decide +kernel)) ggL_law_X7_mend
set_option maxRecDepth 20000 in
theorem ggL_law_X6_pay : GoodIn wsL_law wsX6_pay := goodIn_r _ [316, 15, 86, 87, 21, 317, 262, 318, 224, 135, 136, 14, 137, 31, 90, 91, 2, 92, 103, 104, 105, 20, 106, 107, 63, 108, 109, 110, 111, 112, 113, 114, 115, 116, 117, 118, 119, 97, 120, 121, 122, 123, 124, 125, 126, 127, 128, 129, 42, 43, 130, 131, 132, 133, 134, 138, 139, 140, 33, 141, 142, 48, 143, 144, 145, 146, 99, 100, 101, 102, 35, 147, 148, 149, 37, 150, 151, 152, 153, 154, 155, 156, 157, 54, 158, 159, 160, 161, 162, 163, 164, 165, 39, 166, 167, 168, 41, 169, 170, 171, 172, 173, 174, 175, 816, 817, 818, 819, 820, 821, 860, 861, 862, 863, 864, 865, 835, 836, 837, 838, 839, 840, 841, 842, 843, 844, 845, 846, 847, 848, 849, 850, 851, 852, 866, 867, 868, 869, 870, 871, 872, 873, 874, 875, 876, 877, 878, 879] (by decide +kernel) (by decide +kernel)
set_option maxRecDepth 20000 in
theorem gL_law_X6_pay : GoodIn wsL_law (wsV RL 36 RX6 yX6_pay wsX6_pay) := goodIn_app (goodIn_of _ (by decide +kernel)) ggL_law_X6_pay
set_option maxRecDepth 20000 in
theorem ggL_law_X7_pay : GoodIn wsL_law wsX7_pay := goodIn_r _ [322, 81, 194, 195, 75, 230, 231, 5, 232, 198, 199, 200, 209, 210, 211, 212, 213, 77, 237, 238, 239, 240, 233, 234, 235, 236, 822, 823, 824, 825, 826, 827, 828, 829, 830, 831, 832, 833, 834] (by decide +kernel) (by decide +kernel)
set_option maxRecDepth 20000 in
theorem gL_law_X7_pay : GoodIn wsL_law (wsV RL 39 RX7 yX7_pay wsX7_pay) := goodIn_app (goodIn_of _ (by decide +kernel)) ggL_law_X7_pay
set_option maxRecDepth 20000 in
theorem ggL_law_X6_book : GoodIn wsL_law wsX6_book := goodIn_r _ [326, 15, 21, 327, 328, 329, 14, 330, 331, 332, 120, 180, 125, 333, 134, 135, 136, 137, 31, 99, 100, 101, 102, 97, 35, 91, 2, 92, 334, 335, 336, 337, 338, 162, 163, 164, 165, 39, 339, 340, 341, 41, 342, 172, 173, 103, 104, 105, 20, 106, 107, 63, 108, 109, 110, 111, 112, 113, 114, 115, 116, 117, 118, 119, 121, 122, 123, 124, 126, 127, 128, 129, 42, 43, 130, 131, 132, 133, 138, 139, 140, 33, 141, 142, 48, 143, 144, 145, 146, 147, 148, 149, 37, 150, 151, 152, 153, 154, 155, 156, 157, 54, 158, 159, 160, 161, 166, 167, 168, 169, 170, 171, 174, 175, 343, 344, 345, 346, 347, 348, 349, 350, 351, 816, 817, 818, 819, 820, 821, 835, 836, 837, 838, 839, 840, 841, 842, 843, 844, 845, 846, 847, 848, 849, 850, 874, 875, 876, 877, 878, 879, 851, 852, 860, 861, 862, 863, 864, 865, 866, 867, 868, 869, 870, 871, 872, 873] (by decide +kernel) (by decide +kernel)
set_option maxRecDepth 20000 in
theorem gL_law_X6_book : GoodIn wsL_law (wsV RL 40 RX6 yX6_book wsX6_book) := goodIn_app (goodIn_of _ (by decide +kernel)) ggL_law_X6_book
set_option maxRecDepth 20000 in
theorem ggL_law_X7_book : GoodIn wsL_law wsX7_book := goodIn_r _ [355, 81, 356, 357, 358, 5, 359, 194, 195, 75, 196, 197, 230, 231, 232, 198, 199, 200, 251, 252, 253, 254, 360, 361, 362, 363, 364, 365, 366, 367, 209, 210, 211, 212, 213, 77, 368, 369, 370, 371, 372, 373, 374, 375, 822, 823, 824, 825, 826, 827, 828, 829, 830, 831, 832, 833, 834] (by decide +kernel) (by decide +kernel)
set_option maxRecDepth 20000 in
theorem gL_law_X7_book : GoodIn wsL_law (wsV RL 44 RX7 yX7_book wsX7_book) := goodIn_app (goodIn_of _ (by decide +kernel)) ggL_law_X7_book
set_option maxRecDepth 20000 in
theorem ggL_law_X6_bookAll : GoodIn wsL_law wsX6_bookAll := goodIn_r _ [379, 25, 380, 16, 15, 381, 382, 383, 384, 21, 385, 386, 387, 24, 388, 389, 390, 391, 392, 393, 394, 395, 396, 397, 398, 399, 400, 401, 402, 403, 404, 405, 406, 407, 408, 409, 410, 70, 91, 2, 92, 411, 412, 413, 414, 415, 416, 417, 418, 419, 420, 421, 422, 423, 117, 118, 14, 119, 97, 120, 121, 122, 123, 124, 125, 126, 127, 128, 129, 42, 43, 130, 131, 132, 133, 134, 135, 136, 137, 31, 138, 139, 140, 33, 141, 142, 48, 143, 144, 145, 146, 99, 100, 101, 102, 35, 147, 148, 149, 37, 150, 151, 152, 153, 154, 155, 156, 157, 54, 158, 159, 160, 161, 162, 163, 164, 165, 39, 166, 167, 168, 41, 169, 170, 171, 172, 173, 174, 175, 424, 425, 327, 328, 329, 330, 331, 332, 180, 333, 334, 335, 336, 337, 338, 339, 340, 341, 342, 343, 344, 345, 346, 347, 348, 349, 350, 351, 426, 103, 104, 105, 20, 106, 107, 63, 108, 109, 110, 111, 112, 113, 114, 115, 116, 816, 817, 818, 819, 820, 821, 853, 854, 855, 856, 857, 858, 859, 835, 836, 837, 838, 839, 840, 841, 842, 843, 844, 845, 846, 847, 848, 849, 850, 860, 861, 862, 863, 864, 865, 866, 867, 868, 869, 870, 871, 872, 873, 874, 875, 876, 877, 878, 879, 851, 852] (by decide +kernel) (by decide +kernel)
set_option maxRecDepth 20000 in
theorem gL_law_X6_bookAll : GoodIn wsL_law (wsV RL 45 RX6 yX6_bookAll wsX6_bookAll) := goodIn_app (goodIn_of _ (by decide +kernel)) ggL_law_X6_bookAll
set_option maxRecDepth 20000 in
theorem ggL_law_X7_bookAll : GoodIn wsL_law wsX7_bookAll := goodIn_r _ [430, 81, 229, 431, 76, 75, 432, 80, 433, 434, 435, 5, 436, 437, 438, 439, 440, 441, 442, 443, 444, 445, 446, 447, 448, 449, 450, 451, 79, 198, 199, 200, 452, 453, 454, 455, 456, 457, 458, 459, 356, 357, 358, 359, 194, 195, 196, 197, 230, 231, 232, 251, 252, 253, 254, 360, 361, 362, 363, 364, 365, 366, 367, 460, 461, 462, 463, 368, 369, 370, 371, 372, 373, 374, 375, 209, 210, 211, 212, 213, 77, 822, 823, 824, 825, 826, 827, 828, 829, 830, 831, 832, 833, 834] (by decide +kernel) (by decide +kernel)
set_option maxRecDepth 20000 in
theorem gL_law_X7_bookAll : GoodIn wsL_law (wsV RL 49 RX7 yX7_bookAll wsX7_bookAll) := goodIn_app (goodIn_of _ (by decide +kernel)) ggL_law_X7_bookAll
set_option maxRecDepth 20000 in
theorem ggL_law_X6_takeBack : GoodIn wsL_law wsX6_takeBack := goodIn_r _ [467, 15, 86, 21, 468, 469, 470, 471, 14, 472, 120, 347, 162, 163, 164, 165, 39, 103, 104, 105, 20, 106, 107, 63, 108, 109, 110, 111, 112, 113, 114, 115, 116, 117, 118, 119, 97, 121, 122, 123, 124, 125, 126, 127, 128, 129, 42, 43, 130, 131, 132, 133, 134, 135, 136, 137, 31, 138, 139, 140, 33, 141, 142, 48, 143, 144, 145, 146, 99, 100, 101, 102, 35, 147, 148, 149, 37, 150, 151, 152, 153, 154, 155, 156, 157, 54, 158, 159, 160, 161, 166, 167, 168, 41, 169, 170, 171, 172, 173, 174, 175, 473, 474, 475, 476, 816, 817, 818, 819, 820, 821, 835, 836, 837, 838, 839, 840, 841, 842, 843, 844, 845, 846, 847, 848, 849, 850, 874, 875, 876, 877, 878, 879, 851, 852, 860, 861, 862, 863, 864, 865, 866, 867, 868, 869, 870, 871, 872, 873] (by decide +kernel) (by decide +kernel)
set_option maxRecDepth 20000 in
theorem gL_law_X6_takeBack : GoodIn wsL_law (wsV RL 50 RX6 yX6_takeBack wsX6_takeBack) := goodIn_app (goodIn_of _ (by decide +kernel)) ggL_law_X6_takeBack
set_option maxRecDepth 20000 in
theorem ggL_law_X7_takeBack : GoodIn wsL_law wsX7_takeBack := goodIn_r _ [480, 81, 229, 194, 75, 481, 482, 483, 5, 484, 364, 365, 366, 367, 209, 210, 211, 212, 213, 77, 485, 486, 487, 488, 372, 373, 374, 375, 822, 823, 824, 825, 826, 827, 828, 829, 830, 831, 832, 833, 834] (by decide +kernel) (by decide +kernel)
set_option maxRecDepth 20000 in
theorem gL_law_X7_takeBack : GoodIn wsL_law (wsV RL 53 RX7 yX7_takeBack wsX7_takeBack) := goodIn_app (goodIn_of _ (by decide +kernel)) ggL_law_X7_takeBack
set_option maxRecDepth 20000 in
theorem ggL_law_X6_pass : GoodIn wsL_law wsX6_pass := goodIn_r _ [492, 87, 21, 15, 493, 90, 91, 2, 92, 103, 104, 105, 20, 106, 107, 63, 108, 109, 110, 111, 112, 113, 114, 115, 116, 117, 118, 14, 119, 97, 120, 121, 122, 123, 124, 125, 126, 127, 128, 129, 42, 43, 130, 131, 132, 133, 134, 135, 136, 137, 31, 138, 139, 140, 33, 141, 142, 48, 143, 144, 145, 146, 99, 100, 101, 102, 35, 147, 148, 149, 37, 150, 151, 152, 153, 154, 155, 156, 157, 54, 158, 159, 160, 161, 162, 163, 164, 165, 39, 166, 167, 168, 41, 169, 170, 171, 172, 173, 174, 175, 494, 495, 496, 497, 498, 499, 500, 501, 350, 349, 348, 338, 502, 503, 504, 505, 506, 98, 297, 507, 508, 509, 510, 511, 512, 513, 514, 515, 516, 517, 518, 519, 520, 521, 522, 523, 524, 351, 334, 335, 336, 337, 339, 340, 341, 342, 525, 526, 527, 528, 529, 530, 531, 532, 533, 534, 535, 536, 537, 538, 539, 540, 541, 542, 543, 544, 545, 546, 547, 548, 549, 550, 300, 301, 302, 551, 474, 475, 476, 816, 817, 818, 819, 820, 821, 835, 836, 837, 838, 839, 840, 841, 842, 843, 844, 845, 846, 847, 848, 849, 850, 851, 852, 860, 861, 862, 863, 864, 865, 866, 867, 868, 869, 870, 871, 872, 873, 874, 875, 876, 877, 878, 879] (by decide +kernel) (by decide +kernel)
set_option maxRecDepth 20000 in
theorem gL_law_X6_pass : GoodIn wsL_law (wsV RL 54 RX6 yX6_pass wsX6_pass) := goodIn_app (goodIn_of _ (by decide +kernel)) ggL_law_X6_pass
set_option maxRecDepth 20000 in
theorem ggL_law_X7_pass : GoodIn wsL_law wsX7_pass := goodIn_r _ [555, 81, 195, 75, 198, 199, 5, 200, 209, 210, 211, 212, 213, 77, 556, 557, 558, 559, 364, 365, 366, 367, 560, 561, 562, 563, 205, 206, 207, 208, 564, 565, 566, 567, 269, 270, 271, 272, 273, 274, 275, 276, 568, 569, 570, 571, 572, 573, 574, 575, 576, 577, 578, 579, 580, 581, 582, 583, 584, 585, 586, 587, 588, 589, 590, 591, 233, 234, 235, 236, 277, 278, 279, 280, 281, 282, 283, 284, 285, 286, 287, 214, 215, 216, 217, 237, 238, 239, 240, 485, 486, 487, 488, 372, 373, 374, 375, 592, 593, 594, 595, 360, 361, 362, 363, 822, 823, 824, 825, 826, 827, 828, 829, 830, 831, 832, 833, 834] (by decide +kernel) (by decide +kernel)
set_option maxRecDepth 20000 in
theorem gL_law_X7_pass : GoodIn wsL_law (wsV RL 57 RX7 yX7_pass wsX7_pass) := goodIn_app (goodIn_of _ (by decide +kernel)) ggL_law_X7_pass
set_option maxRecDepth 20000 in
theorem ggL_law_X6_set : GoodIn wsL_law wsX6_set := goodIn_r _ [599, 87, 15, 600, 601, 223, 21, 90, 91, 2, 92, 103, 104, 105, 20, 106, 107, 63, 108, 109, 110, 111, 112, 113, 114, 115, 116, 117, 118, 14, 119, 97, 120, 121, 122, 123, 124, 125, 126, 127, 128, 129, 42, 43, 130, 131, 132, 133, 134, 135, 136, 137, 31, 138, 139, 140, 33, 141, 142, 48, 143, 144, 145, 146, 99, 100, 101, 102, 35, 147, 148, 149, 37, 150, 151, 152, 153, 154, 155, 156, 157, 54, 158, 159, 160, 161, 162, 163, 164, 165, 39, 166, 167, 168, 41, 169, 170, 171, 172, 173, 174, 175, 816, 817, 818, 819, 820, 821, 835, 836, 837, 838, 839, 840, 841, 842, 843, 844, 845, 846, 847, 848, 849, 850, 851, 852, 860, 861, 862, 863, 864, 865, 866, 867, 868, 869, 870, 871, 872, 873, 874, 875, 876, 877, 878, 879] (by decide +kernel) (by decide +kernel)
set_option maxRecDepth 20000 in
theorem gL_law_X6_set : GoodIn wsL_law (wsV RL 58 RX6 yX6_set wsX6_set) := goodIn_app (goodIn_of _ (by decide +kernel)) ggL_law_X6_set
set_option maxRecDepth 20000 in
theorem ggL_law_X7_set : GoodIn wsL_law wsX7_set := goodIn_r _ [605, 81, 195, 75, 229, 198, 199, 5, 200, 209, 210, 211, 212, 213, 77, 822, 823, 824, 825, 826, 827, 828, 829, 830, 831, 832, 833, 834] (by decide +kernel) (by decide +kernel)
set_option maxRecDepth 20000 in
theorem gL_law_X7_set : GoodIn wsL_law (wsV RL 61 RX7 yX7_set wsX7_set) := goodIn_app (goodIn_of _ (by decide +kernel)) ggL_law_X7_set
set_option maxRecDepth 20000 in
theorem ggL_law_X6_setSeed : GoodIn wsL_law wsX6_setSeed := goodIn_r _ [609, 87, 15, 610, 223, 21, 90, 91, 2, 92, 103, 104, 105, 20, 106, 107, 63, 108, 109, 110, 111, 112, 113, 114, 115, 116, 117, 118, 14, 119, 97, 120, 121, 122, 123, 124, 125, 126, 127, 128, 129, 42, 43, 130, 131, 132, 133, 134, 135, 136, 137, 31, 138, 139, 140, 33, 141, 142, 48, 143, 144, 145, 146, 99, 100, 101, 102, 35, 147, 148, 149, 37, 150, 151, 152, 153, 154, 155, 156, 157, 54, 158, 159, 160, 161, 162, 163, 164, 165, 39, 166, 167, 168, 41, 169, 170, 171, 172, 173, 174, 175, 816, 817, 818, 819, 820, 821, 835, 836, 837, 838, 839, 840, 841, 842, 843, 844, 845, 846, 847, 848, 849, 850, 851, 852, 860, 861, 862, 863, 864, 865, 866, 867, 868, 869, 870, 871, 872, 873, 874, 875, 876, 877, 878, 879] (by decide +kernel) (by decide +kernel)
set_option maxRecDepth 20000 in
theorem gL_law_X6_setSeed : GoodIn wsL_law (wsV RL 62 RX6 yX6_setSeed wsX6_setSeed) := goodIn_app (goodIn_of _ (by decide +kernel)) ggL_law_X6_setSeed
set_option maxRecDepth 20000 in
theorem ggL_law_X7_setSeed : GoodIn wsL_law wsX7_setSeed := goodIn_r _ [614, 81, 195, 75, 229, 198, 199, 5, 200, 209, 210, 211, 212, 213, 77, 822, 823, 824, 825, 826, 827, 828, 829, 830, 831, 832, 833, 834] (by decide +kernel) (by decide +kernel)
set_option maxRecDepth 20000 in
theorem gL_law_X7_setSeed : GoodIn wsL_law (wsV RL 65 RX7 yX7_setSeed wsX7_setSeed) := goodIn_app (goodIn_of _ (by decide +kernel)) ggL_law_X7_setSeed
set_option maxRecDepth 20000 in
theorem ggL_law_X6_type : GoodIn wsL_law wsX6_type := goodIn_r _ [618, 25, 619, 88, 620, 621, 622, 24, 623, 390, 70, 816, 817, 818, 819, 820, 821, 853, 854, 855, 856, 857, 858, 859] (by decide +kernel) (by decide +kernel)
set_option maxRecDepth 20000 in
theorem gL_law_X6_type : GoodIn wsL_law (wsV RL 66 RX6 yX6_type wsX6_type) := goodIn_app (goodIn_of _ (by decide +kernel)) ggL_law_X6_type
set_option maxRecDepth 20000 in
theorem ggL_law_X7_type : GoodIn wsL_law wsX7_type := goodIn_r _ [627, 81, 439, 196, 79, 822, 823, 824, 825, 826, 827, 828, 829, 830, 831, 832, 833, 834] (by decide +kernel) (by decide +kernel)
set_option maxRecDepth 20000 in
theorem gL_law_X7_type : GoodIn wsL_law (wsV RL 70 RX7 yX7_type wsX7_type) := goodIn_app (goodIn_of _ (by decide +kernel)) ggL_law_X7_type
set_option maxRecDepth 20000 in
theorem ggL_law_X6_clearText : GoodIn wsL_law wsX6_clearText := goodIn_r _ [631, 25, 619, 816, 817, 818, 819, 820, 821, 853, 854, 855, 856, 857, 858, 859] (by decide +kernel) (by decide +kernel)
set_option maxRecDepth 20000 in
theorem gL_law_X6_clearText : GoodIn wsL_law (wsV RL 71 RX6 yX6_clearText wsX6_clearText) := goodIn_app (goodIn_of _ (by decide +kernel)) ggL_law_X6_clearText
set_option maxRecDepth 20000 in
theorem ggL_law_X7_clearText : GoodIn wsL_law wsX7_clearText := goodIn_r _ [635, 81, 439, 822, 823, 824, 825, 826, 827, 828, 829, 830, 831, 832, 833, 834] (by decide +kernel) (by decide +kernel)
set_option maxRecDepth 20000 in
theorem gL_law_X7_clearText : GoodIn wsL_law (wsV RL 74 RX7 yX7_clearText wsX7_clearText) := goodIn_app (goodIn_of _ (by decide +kernel)) ggL_law_X7_clearText
set_option maxRecDepth 20000 in
theorem ggL_law_X6_undo : GoodIn wsL_law wsX6_undo := goodIn_r _ [639, 21, 223, 15, 640, 641, 642, 643, 20, 644, 107, 112, 113, 114, 115, 63, 423, 117, 118, 14, 119, 97, 120, 121, 122, 123, 124, 125, 126, 127, 128, 129, 42, 43, 130, 131, 132, 133, 134, 135, 136, 137, 31, 138, 139, 140, 33, 141, 142, 48, 143, 144, 145, 146, 99, 100, 101, 102, 35, 147, 148, 149, 37, 150, 151, 152, 153, 154, 155, 156, 157, 54, 158, 159, 160, 161, 162, 163, 164, 165, 39, 166, 167, 168, 41, 169, 170, 171, 172, 173, 174, 175, 816, 817, 818, 819, 820, 821, 851, 852, 835, 836, 837, 838, 839, 840, 841, 842, 843, 844, 845, 846, 847, 848, 849, 850, 860, 861, 862, 863, 864, 865, 866, 867, 868, 869, 870, 871, 872, 873, 874, 875, 876, 877, 878, 879] (by decide +kernel) (by decide +kernel)
set_option maxRecDepth 20000 in
theorem gL_law_X6_undo : GoodIn wsL_law (wsV RL 75 RX6 yX6_undo wsX6_undo) := goodIn_app (goodIn_of _ (by decide +kernel)) ggL_law_X6_undo
set_option maxRecDepth 20000 in
theorem ggL_law_X7_undo : GoodIn wsL_law wsX7_undo := goodIn_r _ [648, 81, 213, 229, 75, 77, 822, 823, 824, 825, 826, 827, 828, 829, 830, 831, 832, 833, 834] (by decide +kernel) (by decide +kernel)
set_option maxRecDepth 20000 in
theorem gL_law_X7_undo : GoodIn wsL_law (wsV RL 78 RX7 yX7_undo wsX7_undo) := goodIn_app (goodIn_of _ (by decide +kernel)) ggL_law_X7_undo
set_option maxRecDepth 20000 in
theorem ggL_law_X6_keep : GoodIn wsL_law wsX6_keep := goodIn_r _ [652, 17, 15, 653, 654, 423, 117, 118, 14, 119, 97, 120, 121, 122, 123, 124, 125, 126, 127, 128, 129, 42, 43, 130, 131, 132, 133, 134, 135, 136, 137, 31, 138, 139, 140, 33, 141, 142, 48, 143, 144, 145, 146, 99, 100, 101, 102, 35, 147, 148, 149, 37, 150, 151, 152, 153, 154, 155, 156, 157, 54, 158, 159, 160, 161, 162, 163, 164, 165, 39, 166, 167, 168, 41, 169, 170, 171, 172, 173, 174, 175, 816, 817, 818, 819, 820, 821, 835, 836, 837, 838, 839, 840, 841, 842, 843, 844, 845, 846, 847, 848, 849, 850, 860, 861, 862, 863, 864, 865, 866, 867, 868, 869, 870, 871, 872, 873, 874, 875, 876, 877, 878, 879] (by decide +kernel) (by decide +kernel)
set_option maxRecDepth 20000 in
theorem gL_law_X6_keep : GoodIn wsL_law (wsV RL 79 RX6 yX6_keep wsX6_keep) := goodIn_app (goodIn_of _ (by decide +kernel)) ggL_law_X6_keep
set_option maxRecDepth 20000 in
theorem ggL_law_X7_keep : GoodIn wsL_law wsX7_keep := goodIn_r _ [658, 81, 78, 75, 659, 822, 823, 824, 825, 826, 827, 828, 829, 830, 831, 832, 833, 834] (by decide +kernel) (by decide +kernel)
set_option maxRecDepth 20000 in
theorem gL_law_X7_keep : GoodIn wsL_law (wsV RL 82 RX7 yX7_keep wsX7_keep) := goodIn_app (goodIn_of _ (by decide +kernel)) ggL_law_X7_keep
set_option maxRecDepth 20000 in
theorem ggL_law_X6_restore : GoodIn wsL_law wsX6_restore := goodIn_r _ [663, 653, 223, 21, 15, 17, 654, 103, 104, 105, 20, 106, 107, 63, 108, 109, 110, 111, 112, 113, 114, 115, 116, 117, 118, 14, 119, 97, 120, 121, 122, 123, 124, 125, 126, 127, 128, 129, 42, 43, 130, 131, 132, 133, 134, 135, 136, 137, 31, 138, 139, 140, 33, 141, 142, 48, 143, 144, 145, 146, 99, 100, 101, 102, 35, 147, 148, 149, 37, 150, 151, 152, 153, 154, 155, 156, 157, 54, 158, 159, 160, 161, 162, 163, 164, 165, 39, 166, 167, 168, 41, 169, 170, 171, 172, 173, 174, 175, 423, 816, 817, 818, 819, 820, 821, 835, 836, 837, 838, 839, 840, 841, 842, 843, 844, 845, 846, 847, 848, 849, 850, 851, 852, 860, 861, 862, 863, 864, 865, 866, 867, 868, 869, 870, 871, 872, 873, 874, 875, 876, 877, 878, 879] (by decide +kernel) (by decide +kernel)
set_option maxRecDepth 20000 in
theorem gL_law_X6_restore : GoodIn wsL_law (wsV RL 83 RX6 yX6_restore wsX6_restore) := goodIn_app (goodIn_of _ (by decide +kernel)) ggL_law_X6_restore
set_option maxRecDepth 20000 in
theorem ggL_law_X7_restore : GoodIn wsL_law wsX7_restore := goodIn_r _ [667, 81, 659, 229, 75, 78, 209, 210, 211, 5, 212, 213, 77, 822, 823, 824, 825, 826, 827, 828, 829, 830, 831, 832, 833, 834] (by decide +kernel) (by decide +kernel)
set_option maxRecDepth 20000 in
theorem gL_law_X7_restore : GoodIn wsL_law (wsV RL 86 RX7 yX7_restore wsX7_restore) := goodIn_app (goodIn_of _ (by decide +kernel)) ggL_law_X7_restore
set_option maxRecDepth 20000 in
theorem ggL_law_X6_farmer : GoodIn wsL_law wsX6_farmer := goodIn_r _ [671, 15, 86, 317, 222, 672, 261, 673, 674, 87, 224, 135, 136, 14, 137, 31, 675, 676, 677, 678, 120, 348, 162, 163, 164, 165, 39, 816, 817, 818, 819, 820, 821, 860, 861, 862, 863, 864, 865, 835, 836, 837, 838, 839, 840, 841, 842, 843, 844, 845, 846, 847, 848, 849, 850, 874, 875, 876, 877, 878, 879] (by decide +kernel) (by decide +kernel)
set_option maxRecDepth 20000 in
theorem gL_law_X6_farmer : GoodIn wsL_law (wsV RL 87 RX6 yX6_farmer wsX6_farmer) := goodIn_app (goodIn_of _ (by decide +kernel)) ggL_law_X6_farmer
set_option maxRecDepth 20000 in
theorem ggL_law_X7_farmer : GoodIn wsL_law wsX7_farmer := goodIn_r _ [682, 81, 194, 195, 230, 231, 5, 232, 198, 199, 200, 233, 234, 235, 236, 75, 683, 684, 685, 686, 364, 365, 366, 367, 822, 823, 824, 825, 826, 827, 828, 829, 830, 831, 832, 833, 834] (by decide +kernel) (by decide +kernel)
set_option maxRecDepth 20000 in
theorem gL_law_X7_farmer : GoodIn wsL_law (wsV RL 90 RX7 yX7_farmer wsX7_farmer) := goodIn_app (goodIn_of _ (by decide +kernel)) ggL_law_X7_farmer
set_option maxRecDepth 20000 in
theorem ggL_law_X6_machine : GoodIn wsL_law wsX6_machine := goodIn_r _ [690, 15, 86, 691, 245, 292, 692, 693, 259, 694, 87, 246, 100, 101, 14, 102, 97, 35, 695, 300, 301, 37, 302, 54, 696, 697, 2, 698, 536, 699, 816, 817, 818, 819, 820, 821, 866, 867, 868, 869, 870, 871, 872, 873, 835, 836, 837, 838, 839, 840, 841, 842, 843, 844, 845, 846, 847, 848, 849, 850] (by decide +kernel) (by decide +kernel)
set_option maxRecDepth 20000 in
theorem gL_law_X6_machine : GoodIn wsL_law (wsV RL 91 RX6 yX6_machine wsX6_machine) := goodIn_app (goodIn_of _ (by decide +kernel)) ggL_law_X6_machine
set_option maxRecDepth 20000 in
theorem ggL_law_X7_machine : GoodIn wsL_law wsX7_machine := goodIn_r _ [703, 81, 194, 195, 251, 252, 253, 5, 254, 75, 198, 199, 200, 205, 206, 207, 208, 822, 823, 824, 825, 826, 827, 828, 829, 830, 831, 832, 833, 834] (by decide +kernel) (by decide +kernel)
set_option maxRecDepth 20000 in
theorem gL_law_X7_machine : GoodIn wsL_law (wsV RL 94 RX7 yX7_machine wsX7_machine) := goodIn_app (goodIn_of _ (by decide +kernel)) ggL_law_X7_machine
set_option maxRecDepth 20000 in
theorem ggL_law_X6_fuel : GoodIn wsL_law wsX6_fuel := goodIn_r _ [707, 15, 708, 259, 246, 100, 101, 14, 102, 97, 35, 816, 817, 818, 819, 820, 821, 866, 867, 868, 869, 870, 871, 872, 873, 835, 836, 837, 838, 839, 840, 841, 842, 843, 844, 845, 846, 847, 848, 849, 850] (by decide +kernel) (by decide +kernel)
set_option maxRecDepth 20000 in
theorem gL_law_X6_fuel : GoodIn wsL_law (wsV RL 95 RX6 yX6_fuel wsX6_fuel) := goodIn_app (goodIn_of _ (by decide +kernel)) ggL_law_X6_fuel
set_option maxRecDepth 20000 in
theorem ggL_law_X7_fuel : GoodIn wsL_law wsX7_fuel := goodIn_r _ [712, 81, 713, 251, 252, 253, 5, 254, 75, 198, 199, 200, 269, 270, 271, 272, 273, 274, 275, 276, 205, 206, 207, 208, 822, 823, 824, 825, 826, 827, 828, 829, 830, 831, 832, 833, 834] (by decide +kernel) (by decide +kernel)
set_option maxRecDepth 20000 in
theorem gL_law_X7_fuel : GoodIn wsL_law (wsV RL 99 RX7 yX7_fuel wsX7_fuel) := goodIn_app (goodIn_of _ (by decide +kernel)) ggL_law_X7_fuel
set_option maxRecDepth 20000 in
theorem ggL_law_X6_hours : GoodIn wsL_law wsX6_hours := goodIn_r _ [717, 15, 86, 246, 100, 101, 14, 102, 97, 35, 90, 91, 2, 92, 718, 159, 160, 37, 161, 54, 816, 817, 818, 819, 820, 821, 835, 836, 837, 838, 839, 840, 841, 842, 843, 844, 845, 846, 847, 848, 849, 850, 866, 867, 868, 869, 870, 871, 872, 873] (by decide +kernel) (by decide +kernel)
set_option maxRecDepth 20000 in
theorem gL_law_X6_hours : GoodIn wsL_law (wsV RL 100 RX6 yX6_hours wsX6_hours) := goodIn_app (goodIn_of _ (by decide +kernel)) ggL_law_X6_hours
set_option maxRecDepth 20000 in
theorem ggL_law_X7_hours : GoodIn wsL_law wsX7_hours := goodIn_r _ [722, 81, 194, 251, 252, 253, 5, 254, 75, 198, 199, 200, 230, 231, 232, 205, 206, 207, 208, 822, 823, 824, 825, 826, 827, 828, 829, 830, 831, 832, 833, 834] (by decide +kernel) (by decide +kernel)
set_option maxRecDepth 20000 in
theorem gL_law_X7_hours : GoodIn wsL_law (wsV RL 103 RX7 yX7_hours wsX7_hours) := goodIn_app (goodIn_of _ (by decide +kernel)) ggL_law_X7_hours
set_option maxRecDepth 20000 in
theorem ggL_law_X6_booking : GoodIn wsL_law wsX6_booking := goodIn_r _ [726, 15, 86, 727, 728, 729, 730, 731, 87, 469, 470, 471, 14, 472, 120, 347, 162, 163, 164, 165, 39, 732, 733, 526, 527, 528, 349, 348, 338, 529, 350, 98, 99, 100, 101, 102, 97, 35, 134, 135, 136, 137, 31, 530, 2, 531, 532, 533, 534, 535, 536, 537, 538, 539, 33, 540, 48, 816, 817, 818, 819, 820, 821, 874, 875, 876, 877, 878, 879, 835, 836, 837, 838, 839, 840, 841, 842, 843, 844, 845, 846, 847, 848, 849, 850, 866, 867, 868, 869, 870, 871, 872, 873, 860, 861, 862, 863, 864, 865] (by decide +kernel) (by decide +kernel)
set_option maxRecDepth 20000 in
theorem gL_law_X6_booking : GoodIn wsL_law (wsV RL 104 RX6 yX6_booking wsX6_booking) := goodIn_app (goodIn_of _ (by decide +kernel)) ggL_law_X6_booking
set_option maxRecDepth 20000 in
theorem ggL_law_X7_booking : GoodIn wsL_law wsX7_booking := goodIn_r _ [737, 81, 229, 194, 195, 481, 482, 483, 5, 484, 75, 364, 365, 366, 367, 579, 580, 581, 582, 205, 206, 207, 208, 583, 584, 585, 586, 587, 588, 589, 590, 591, 233, 234, 235, 236, 198, 199, 200, 822, 823, 824, 825, 826, 827, 828, 829, 830, 831, 832, 833, 834] (by decide +kernel) (by decide +kernel)
set_option maxRecDepth 20000 in
theorem gL_law_X7_booking : GoodIn wsL_law (wsV RL 107 RX7 yX7_booking wsX7_booking) := goodIn_app (goodIn_of _ (by decide +kernel)) ggL_law_X7_booking
set_option maxRecDepth 20000 in
theorem ggL_law_X6_booked : GoodIn wsL_law wsX6_booked := goodIn_r _ [741, 15, 86, 87, 654, 246, 100, 101, 14, 102, 97, 35, 90, 91, 2, 92, 742, 335, 336, 337, 120, 338, 162, 163, 164, 165, 39, 339, 340, 341, 41, 342, 172, 173, 816, 817, 818, 819, 820, 821, 835, 836, 837, 838, 839, 840, 841, 842, 843, 844, 845, 846, 847, 848, 849, 850, 874, 875, 876, 877, 878, 879] (by decide +kernel) (by decide +kernel)
set_option maxRecDepth 20000 in
theorem gL_law_X6_booked : GoodIn wsL_law (wsV RL 108 RX6 yX6_booked wsX6_booked) := goodIn_app (goodIn_of _ (by decide +kernel)) ggL_law_X6_booked
set_option maxRecDepth 20000 in
theorem ggL_law_X7_booked : GoodIn wsL_law wsX7_booked := goodIn_r _ [746, 81, 194, 75, 195, 251, 252, 253, 5, 254, 198, 199, 200, 360, 361, 362, 363, 364, 365, 366, 367, 822, 823, 824, 825, 826, 827, 828, 829, 830, 831, 832, 833, 834] (by decide +kernel) (by decide +kernel)
set_option maxRecDepth 20000 in
theorem gL_law_X7_booked : GoodIn wsL_law (wsV RL 111 RX7 yX7_booked wsX7_booked) := goodIn_app (goodIn_of _ (by decide +kernel)) ggL_law_X7_booked
set_option maxRecDepth 20000 in
theorem ggL_law_X6_wet : GoodIn wsL_law wsX6_wet := goodIn_r _ [750, 87, 15, 654, 90, 91, 2, 92, 751, 509, 510, 14, 511, 130, 816, 817, 818, 819, 820, 821, 835, 836, 837, 838, 839, 840, 841, 842, 843, 844, 845, 846, 847, 848, 849, 850] (by decide +kernel) (by decide +kernel)
set_option maxRecDepth 20000 in
theorem gL_law_X6_wet : GoodIn wsL_law (wsV RL 112 RX6 yX6_wet wsX6_wet) := goodIn_app (goodIn_of _ (by decide +kernel)) ggL_law_X6_wet
set_option maxRecDepth 20000 in
theorem ggL_law_X7_wet : GoodIn wsL_law wsX7_wet := goodIn_r _ [755, 81, 195, 75, 198, 199, 5, 200, 564, 565, 566, 567, 822, 823, 824, 825, 826, 827, 828, 829, 830, 831, 832, 833, 834] (by decide +kernel) (by decide +kernel)
set_option maxRecDepth 20000 in
theorem gL_law_X7_wet : GoodIn wsL_law (wsV RL 115 RX7 yX7_wet wsX7_wet) := goodIn_app (goodIn_of _ (by decide +kernel)) ggL_law_X7_wet
set_option maxRecDepth 20000 in
theorem ggL_law_X6_most : GoodIn wsL_law wsX6_most := goodIn_r _ [759, 15, 86, 246, 100, 101, 14, 102, 97, 35, 760, 761, 762, 37, 763, 764, 54, 816, 817, 818, 819, 820, 821, 835, 836, 837, 838, 839, 840, 841, 842, 843, 844, 845, 846, 847, 848, 849, 850, 866, 867, 868, 869, 870, 871, 872, 873] (by decide +kernel) (by decide +kernel)
set_option maxRecDepth 20000 in
theorem gL_law_X6_most : GoodIn wsL_law (wsV RL 116 RX6 yX6_most wsX6_most) := goodIn_app (goodIn_of _ (by decide +kernel)) ggL_law_X6_most
set_option maxRecDepth 20000 in
theorem ggL_law_X7_most : GoodIn wsL_law wsX7_most := goodIn_r _ [768, 81, 194, 229, 251, 252, 253, 5, 254, 75, 198, 199, 200, 205, 206, 207, 208, 822, 823, 824, 825, 826, 827, 828, 829, 830, 831, 832, 833, 834] (by decide +kernel) (by decide +kernel)
set_option maxRecDepth 20000 in
theorem gL_law_X7_most : GoodIn wsL_law (wsV RL 119 RX7 yX7_most wsX7_most) := goodIn_app (goodIn_of _ (by decide +kernel)) ggL_law_X7_most
set_option maxRecDepth 20000 in
theorem ggL_law_X6_lasts : GoodIn wsL_law wsX6_lasts := goodIn_r _ [772, 15, 86, 246, 100, 101, 14, 102, 97, 35, 773, 774, 775, 776, 507, 120, 125, 338, 777, 162, 163, 164, 165, 39, 339, 340, 341, 41, 342, 172, 173, 512, 513, 514, 37, 515, 151, 516, 2, 517, 518, 519, 520, 816, 817, 818, 819, 820, 821, 835, 836, 837, 838, 839, 840, 841, 842, 843, 844, 845, 846, 847, 848, 849, 850, 866, 867, 868, 869, 870, 871, 872, 873, 874, 875, 876, 877, 878, 879] (by decide +kernel) (by decide +kernel)
set_option maxRecDepth 20000 in
theorem gL_law_X6_lasts : GoodIn wsL_law (wsV RL 120 RX6 yX6_lasts wsX6_lasts) := goodIn_app (goodIn_of _ (by decide +kernel)) ggL_law_X6_lasts
set_option maxRecDepth 20000 in
theorem ggL_law_X7_lasts : GoodIn wsL_law wsX7_lasts := goodIn_r _ [781, 81, 194, 75, 229, 251, 252, 253, 5, 254, 198, 199, 200, 269, 270, 271, 272, 273, 274, 275, 276, 205, 206, 207, 208, 782, 783, 784, 785, 364, 365, 366, 367, 568, 569, 570, 571, 572, 573, 574, 822, 823, 824, 825, 826, 827, 828, 829, 830, 831, 832, 833, 834] (by decide +kernel) (by decide +kernel)
set_option maxRecDepth 20000 in
theorem gL_law_X7_lasts : GoodIn wsL_law (wsV RL 123 RX7 yX7_lasts wsX7_lasts) := goodIn_app (goodIn_of _ (by decide +kernel)) ggL_law_X7_lasts
set_option maxRecDepth 20000 in
theorem ggL_law_X6_count : GoodIn wsL_law wsX6_count := goodIn_r _ [789, 15, 654, 790, 468, 791, 493, 792, 262, 600, 601, 610, 21, 640, 25, 619, 793, 263, 318, 87, 794, 530, 2, 531, 795, 796, 797, 14, 798, 799, 134, 135, 136, 137, 31, 800, 801, 802, 803, 97, 297, 99, 100, 101, 102, 35, 816, 817, 818, 819, 820, 821, 835, 836, 837, 838, 839, 840, 841, 842, 843, 844, 845, 846, 847, 848, 849, 850, 851, 852, 853, 854, 855, 856, 857, 858, 859, 860, 861, 862, 863, 864, 865, 866, 867, 868, 869, 870, 871, 872, 873] (by decide +kernel) (by decide +kernel)
set_option maxRecDepth 20000 in
theorem gL_law_X6_count : GoodIn wsL_law (wsV RL 124 RX6 yX6_count wsX6_count) := goodIn_app (goodIn_of _ (by decide +kernel)) ggL_law_X6_count
set_option maxRecDepth 20000 in
theorem ggL_law_X7_count : GoodIn wsL_law wsX7_count := goodIn_r _ [807, 81, 75, 213, 439, 195, 589, 590, 5, 591, 808, 809, 810, 811, 233, 234, 235, 236, 812, 813, 814, 815, 205, 206, 207, 208, 198, 199, 200, 822, 823, 824, 825, 826, 827, 828, 829, 830, 831, 832, 833, 834] (by decide +kernel) (by decide +kernel)
set_option maxRecDepth 20000 in
theorem gL_law_X7_count : GoodIn wsL_law (wsV RL 127 RX7 yX7_count wsX7_count) := goodIn_app (goodIn_of _ (by decide +kernel)) ggL_law_X7_count
theorem dL_law_0 : decode cL_law 0 = .ok (.new 7, 3) := by decide +kernel
