set_option maxRecDepth 20000 in
theorem ggX6_buy_X6_outside : GoodIn wsX6_buy wsX6_outside := goodIn_r _ [10] (by decide +kernel) (by decide +kernel)
set_option maxRecDepth 20000 in
theorem gX6_buy_X6_outside : GoodIn wsX6_buy (va_wsS RX6 36 yX6_outside wsX6_outside) := goodIn_app (goodIn_of _ (by decide +kernel)) ggX6_buy_X6_outside
set_option maxRecDepth 20000 in
theorem ggX6_buy_X4_machinesIn : GoodIn wsX6_buy wsX4_machinesIn := goodIn_r _ [15, 16, 17, 18, 19, 20, 14, 21, 22, 127, 128, 129, 130, 131, 132, 133, 134, 135, 136, 137, 138, 139, 140, 141, 142, 143, 144, 145, 146, 147, 148, 149, 150] (by decide +kernel) (by decide +kernel)
set_option maxRecDepth 20000 in
theorem gX6_buy_X4_machinesIn : GoodIn wsX6_buy (wsV RX6 42 RX4 yX4_machinesIn wsX4_machinesIn) := goodIn_app (goodIn_of _ (by decide +kernel)) ggX6_buy_X4_machinesIn
set_option maxRecDepth 20000 in
theorem ggX6_buy_X2_push : GoodIn wsX6_buy wsX2_push := goodIn_r _ [27, 28, 29, 30, 31, 32, 26, 33, 34, 35, 36, 37, 38, 39, 40, 14, 41, 16, 42, 43, 44, 45, 46, 47, 48, 49, 50, 51, 52, 53, 54, 55, 56, 57, 58, 59, 60, 61, 62, 63, 64, 65, 66, 67, 68, 69, 70, 71, 72, 73, 18, 19, 20, 21, 22, 74, 75, 76, 77, 78, 79, 80, 81, 82, 83, 84, 85, 86, 87, 88, 89, 90, 91, 92, 93, 94, 95, 96, 97, 98, 99, 100, 101, 102, 103, 104, 105, 106, 151, 152, 127, 128, 129, 130, 131, 132, 133, 134, 135, 136, 137, 138, 139, 140, 141, 142, 153, 154, 155, 156, 157, 158, 143, 144, 145, 146, 147, 148, 149, 150, 159, 160, 161, 162, 163, 164] (by decide +kernel) (by decide +kernel)
set_option maxRecDepth 20000 in
theorem gX6_buy_X2_push : GoodIn wsX6_buy (wsV RX6 48 RX2 yX2_push wsX2_push) := goodIn_app (goodIn_of _ (by decide +kernel)) ggX6_buy_X2_push
set_option maxRecDepth 20000 in
theorem ggX6_buy_X4_addMachine : GoodIn wsX6_buy wsX4_addMachine := goodIn_r _ [110, 16, 111, 112, 12, 13, 14, 15, 17, 18, 19, 20, 21, 22, 113, 114, 115, 77, 116, 79, 80, 81, 82, 83, 84, 85, 117, 118, 119, 120, 86, 127, 128, 129, 130, 131, 132, 133, 134, 135, 136, 137, 138, 139, 140, 141, 142, 143, 144, 145, 146, 147, 148, 149, 150] (by decide +kernel) (by decide +kernel)
set_option maxRecDepth 20000 in
theorem gX6_buy_X4_addMachine : GoodIn wsX6_buy (wsV RX6 52 RX4 yX4_addMachine wsX4_addMachine) := goodIn_app (goodIn_of _ (by decide +kernel)) ggX6_buy_X4_addMachine
theorem dX6_buy_0 : decode cX6_buy 0 = .ok (.iload_n 2, 1) := by decide +kernel
theorem dX6_buy_1 : decode cX6_buy 1 = .ok (.iconst 0, 1) := by decide +kernel
theorem dX6_buy_2 : decode cX6_buy 2 = .ok (.iconst 2, 1) := by decide +kernel
theorem dX6_buy_3 : decode cX6_buy 3 = .ok (.invokestatic 36, 3) := by decide +kernel
theorem dX6_buy_6 : decode cX6_buy 6 = .ok (.ifCond .eq 6, 3) := by decide +kernel
theorem dX6_buy_9 : decode cX6_buy 9 = .ok (.ldc 40, 2) := by decide +kernel
theorem dX6_buy_11 : decode cX6_buy 11 = .ok (.ireturn, 1) := by decide +kernel
theorem dX6_buy_12 : decode cX6_buy 12 = .ok (.iload_n 1, 1) := by decide +kernel
theorem dX6_buy_13 : decode cX6_buy 13 = .ok (.iconst 0, 1) := by decide +kernel
theorem dX6_buy_14 : decode cX6_buy 14 = .ok (.iconst 2, 1) := by decide +kernel
theorem dX6_buy_15 : decode cX6_buy 15 = .ok (.invokestatic 36, 3) := by decide +kernel
theorem dX6_buy_18 : decode cX6_buy 18 = .ok (.ifCond .ne 13, 3) := by decide +kernel
theorem dX6_buy_21 : decode cX6_buy 21 = .ok (.iload_n 3, 1) := by decide +kernel
theorem dX6_buy_22 : decode cX6_buy 22 = .ok (.iconst 1, 1) := by decide +kernel
theorem dX6_buy_23 : decode cX6_buy 23 = .ok (.bipush 99, 2) := by decide +kernel
theorem dX6_buy_25 : decode cX6_buy 25 = .ok (.invokestatic 36, 3) := by decide +kernel
theorem dX6_buy_28 : decode cX6_buy 28 = .ok (.ifCond .eq 6, 3) := by decide +kernel
theorem dX6_buy_31 : decode cX6_buy 31 = .ok (.ldc 41, 2) := by decide +kernel
theorem dX6_buy_33 : decode cX6_buy 33 = .ok (.ireturn, 1) := by decide +kernel
theorem dX6_buy_34 : decode cX6_buy 34 = .ok (.aload_n 0, 1) := by decide +kernel
theorem dX6_buy_35 : decode cX6_buy 35 = .ok (.getfield 10, 3) := by decide +kernel
theorem dX6_buy_38 : decode cX6_buy 38 = .ok (.iload_n 2, 1) := by decide +kernel
theorem dX6_buy_39 : decode cX6_buy 39 = .ok (.invokevirtual 42, 3) := by decide +kernel
theorem dX6_buy_42 : decode cX6_buy 42 = .ok (.iconst 2, 1) := by decide +kernel
theorem dX6_buy_43 : decode cX6_buy 43 = .ok (.if_icmp .lt 6, 3) := by decide +kernel
theorem dX6_buy_46 : decode cX6_buy 46 = .ok (.ldc 46, 2) := by decide +kernel
theorem dX6_buy_48 : decode cX6_buy 48 = .ok (.ireturn, 1) := by decide +kernel
theorem dX6_buy_49 : decode cX6_buy 49 = .ok (.iload_n 1, 1) := by decide +kernel
theorem dX6_buy_50 : decode cX6_buy 50 = .ok (.iload_n 2, 1) := by decide +kernel
theorem dX6_buy_51 : decode cX6_buy 51 = .ok (.if_icmp .eq 6, 3) := by decide +kernel
theorem dX6_buy_54 : decode cX6_buy 54 = .ok (.ldc 47, 2) := by decide +kernel
theorem dX6_buy_56 : decode cX6_buy 56 = .ok (.ireturn, 1) := by decide +kernel
theorem dX6_buy_57 : decode cX6_buy 57 = .ok (.aload_n 0, 1) := by decide +kernel
theorem dX6_buy_58 : decode cX6_buy 58 = .ok (.getfield 25, 3) := by decide +kernel
theorem dX6_buy_61 : decode cX6_buy 61 = .ok (.aload_n 0, 1) := by decide +kernel
theorem dX6_buy_62 : decode cX6_buy 62 = .ok (.getfield 10, 3) := by decide +kernel
theorem dX6_buy_65 : decode cX6_buy 65 = .ok (.invokevirtual 48, 3) := by decide +kernel
theorem dX6_buy_68 : decode cX6_buy 68 = .ok (.aload_n 0, 1) := by decide +kernel
theorem dX6_buy_69 : decode cX6_buy 69 = .ok (.getfield 10, 3) := by decide +kernel
theorem dX6_buy_72 : decode cX6_buy 72 = .ok (.iload_n 1, 1) := by decide +kernel
theorem dX6_buy_73 : decode cX6_buy 73 = .ok (.iload_n 3, 1) := by decide +kernel
theorem dX6_buy_74 : decode cX6_buy 74 = .ok (.invokevirtual 52, 3) := by decide +kernel
theorem dX6_buy_77 : decode cX6_buy 77 = .ok (.ireturn, 1) := by decide +kernel
set_option maxRecDepth 20000 in
theorem ggX6_license_X4_farmerAt : GoodIn wsX6_license wsX4_farmerAt := goodIn_r _ [11, 12, 115, 116, 117, 118, 119, 120, 121, 122, 123, 124, 125, 126, 127, 128, 129, 130] (by decide +kernel) (by decide +kernel)
set_option maxRecDepth 20000 in
theorem gX6_license_X4_farmerAt : GoodIn wsX6_license (wsV RX6 56 RX4 yX4_farmerAt wsX4_farmerAt) := goodIn_app (goodIn_of _ (by decide +kernel)) ggX6_license_X4_farmerAt
set_option maxRecDepth 20000 in
theorem ggX6_license_X6_outside : GoodIn wsX6_license wsX6_outside := goodIn_r _ [16] (by decide +kernel) (by decide +kernel)
set_option maxRecDepth 20000 in
theorem gX6_license_X6_outside : GoodIn wsX6_license (va_wsS RX6 36 yX6_outside wsX6_outside) := goodIn_app (goodIn_of _ (by decide +kernel)) ggX6_license_X6_outside
set_option maxRecDepth 20000 in
theorem ggX6_license_X2_push : GoodIn wsX6_license wsX2_push := goodIn_r _ [21, 22, 23, 24, 25, 26, 20, 27, 28, 29, 30, 31, 32, 33, 34, 10, 35, 36, 37, 38, 39, 40, 41, 42, 43, 44, 45, 46, 47, 48, 49, 50, 51, 52, 53, 8, 9, 11, 12, 54, 55, 56, 57, 58, 59, 60, 61, 62, 63, 64, 65, 66, 67, 68, 69, 70, 71, 72, 73, 74, 75, 76, 77, 78, 79, 80, 81, 82, 83, 84, 85, 86, 87, 88, 89, 90, 91, 92, 93, 94, 95, 96, 97, 98, 99, 100, 101, 102, 131, 132, 115, 116, 117, 118, 119, 120, 121, 122, 123, 124, 125, 126, 127, 128, 129, 130, 109, 110, 111, 112, 113, 114, 133, 134, 135, 136, 137, 138, 139, 140, 141, 142, 143, 144, 145, 146] (by decide +kernel) (by decide +kernel)
set_option maxRecDepth 20000 in
theorem gX6_license_X2_push : GoodIn wsX6_license (wsV RX6 48 RX2 yX2_push wsX2_push) := goodIn_app (goodIn_of _ (by decide +kernel)) ggX6_license_X2_push
theorem dX6_license_0 : decode cX6_license 0 = .ok (.aload_n 0, 1) := by decide +kernel
theorem dX6_license_1 : decode cX6_license 1 = .ok (.getfield 10, 3) := by decide +kernel
theorem dX6_license_4 : decode cX6_license 4 = .ok (.iload_n 1, 1) := by decide +kernel
theorem dX6_license_5 : decode cX6_license 5 = .ok (.invokevirtual 56, 3) := by decide +kernel
theorem dX6_license_8 : decode cX6_license 8 = .ok (.astore_n 3, 1) := by decide +kernel
theorem dX6_license_9 : decode cX6_license 9 = .ok (.aload_n 3, 1) := by decide +kernel
theorem dX6_license_10 : decode cX6_license 10 = .ok (.ifnonnull 6, 3) := by decide +kernel
theorem dX6_license_13 : decode cX6_license 13 = .ok (.ldc 40, 2) := by decide +kernel
theorem dX6_license_15 : decode cX6_license 15 = .ok (.ireturn, 1) := by decide +kernel
theorem dX6_license_16 : decode cX6_license 16 = .ok (.iload_n 2, 1) := by decide +kernel
theorem dX6_license_17 : decode cX6_license 17 = .ok (.iconst 0, 1) := by decide +kernel
theorem dX6_license_18 : decode cX6_license 18 = .ok (.bipush 7, 2) := by decide +kernel
theorem dX6_license_20 : decode cX6_license 20 = .ok (.invokestatic 36, 3) := by decide +kernel
theorem dX6_license_23 : decode cX6_license 23 = .ok (.ifCond .eq 6, 3) := by decide +kernel
theorem dX6_license_26 : decode cX6_license 26 = .ok (.ldc 41, 2) := by decide +kernel
theorem dX6_license_28 : decode cX6_license 28 = .ok (.ireturn, 1) := by decide +kernel
theorem dX6_license_29 : decode cX6_license 29 = .ok (.aload_n 3, 1) := by decide +kernel
theorem dX6_license_30 : decode cX6_license 30 = .ok (.getfield 60, 3) := by decide +kernel
theorem dX6_license_33 : decode cX6_license 33 = .ok (.istore 4, 2) := by decide +kernel
theorem dX6_license_35 : decode cX6_license 35 = .ok (.iload_n 2, 1) := by decide +kernel
theorem dX6_license_36 : decode cX6_license 36 = .ok (.iload 4, 2) := by decide +kernel
theorem dX6_license_38 : decode cX6_license 38 = .ok (.if_icmp .ne 6, 3) := by decide +kernel
theorem dX6_license_41 : decode cX6_license 41 = .ok (.ldc 66, 2) := by decide +kernel
theorem dX6_license_43 : decode cX6_license 43 = .ok (.ireturn, 1) := by decide +kernel
theorem dX6_license_44 : decode cX6_license 44 = .ok (.aload_n 0, 1) := by decide +kernel
theorem dX6_license_45 : decode cX6_license 45 = .ok (.getfield 25, 3) := by decide +kernel
theorem dX6_license_48 : decode cX6_license 48 = .ok (.aload_n 0, 1) := by decide +kernel
theorem dX6_license_49 : decode cX6_license 49 = .ok (.getfield 10, 3) := by decide +kernel
theorem dX6_license_52 : decode cX6_license 52 = .ok (.invokevirtual 48, 3) := by decide +kernel
theorem dX6_license_55 : decode cX6_license 55 = .ok (.aload_n 3, 1) := by decide +kernel
theorem dX6_license_56 : decode cX6_license 56 = .ok (.iload_n 2, 1) := by decide +kernel
theorem dX6_license_57 : decode cX6_license 57 = .ok (.putfield 60, 3) := by decide +kernel
theorem dX6_license_60 : decode cX6_license 60 = .ok (.iload 4, 2) := by decide +kernel
theorem dX6_license_62 : decode cX6_license 62 = .ok (.ireturn, 1) := by decide +kernel
set_option maxRecDepth 20000 in
theorem ggX6_setRate_X4_machineAt : GoodIn wsX6_setRate wsX4_machineAt := goodIn_r _ [11, 12, 13, 117, 118, 119, 120, 121, 122, 123, 124, 125, 126, 127, 128, 129, 130, 131, 132] (by decide +kernel) (by decide +kernel)
set_option maxRecDepth 20000 in
theorem gX6_setRate_X4_machineAt : GoodIn wsX6_setRate (wsV RX6 67 RX4 yX4_machineAt wsX4_machineAt) := goodIn_app (goodIn_of _ (by decide +kernel)) ggX6_setRate_X4_machineAt
set_option maxRecDepth 20000 in
theorem ggX6_setRate_X6_outside : GoodIn wsX6_setRate wsX6_outside := goodIn_r _ [17] (by decide +kernel) (by decide +kernel)
set_option maxRecDepth 20000 in
theorem gX6_setRate_X6_outside : GoodIn wsX6_setRate (va_wsS RX6 36 yX6_outside wsX6_outside) := goodIn_app (goodIn_of _ (by decide +kernel)) ggX6_setRate_X6_outside
set_option maxRecDepth 20000 in
theorem ggX6_setRate_X2_push : GoodIn wsX6_setRate wsX2_push := goodIn_r _ [22, 23, 24, 25, 26, 27, 21, 28, 29, 30, 31, 32, 33, 34, 35, 10, 36, 12, 37, 38, 39, 40, 41, 42, 43, 44, 45, 46, 47, 48, 49, 50, 51, 52, 53, 54, 55, 56, 57, 58, 59, 60, 61, 62, 63, 64, 65, 66, 67, 68, 69, 8, 9, 11, 13, 70, 71, 72, 73, 74, 75, 76, 77, 78, 79, 80, 81, 82, 83, 84, 85, 86, 87, 88, 89, 90, 91, 92, 93, 94, 95, 96, 97, 98, 99, 100, 101, 102, 133, 134, 117, 118, 119, 120, 121, 122, 123, 124, 125, 126, 127, 128, 129, 130, 131, 132, 135, 136, 137, 138, 139, 140, 109, 110, 111, 112, 113, 114, 115, 116, 141, 142, 143, 144, 145, 146] (by decide +kernel) (by decide +kernel)
set_option maxRecDepth 20000 in
theorem gX6_setRate_X2_push : GoodIn wsX6_setRate (wsV RX6 48 RX2 yX2_push wsX2_push) := goodIn_app (goodIn_of _ (by decide +kernel)) ggX6_setRate_X2_push
theorem dX6_setRate_0 : decode cX6_setRate 0 = .ok (.aload_n 0, 1) := by decide +kernel
theorem dX6_setRate_1 : decode cX6_setRate 1 = .ok (.getfield 10, 3) := by decide +kernel
theorem dX6_setRate_4 : decode cX6_setRate 4 = .ok (.iload_n 1, 1) := by decide +kernel
theorem dX6_setRate_5 : decode cX6_setRate 5 = .ok (.invokevirtual 67, 3) := by decide +kernel
theorem dX6_setRate_8 : decode cX6_setRate 8 = .ok (.astore_n 3, 1) := by decide +kernel
theorem dX6_setRate_9 : decode cX6_setRate 9 = .ok (.aload_n 3, 1) := by decide +kernel
theorem dX6_setRate_10 : decode cX6_setRate 10 = .ok (.ifnonnull 6, 3) := by decide +kernel
theorem dX6_setRate_13 : decode cX6_setRate 13 = .ok (.ldc 40, 2) := by decide +kernel
theorem dX6_setRate_15 : decode cX6_setRate 15 = .ok (.ireturn, 1) := by decide +kernel
theorem dX6_setRate_16 : decode cX6_setRate 16 = .ok (.iload_n 2, 1) := by decide +kernel
theorem dX6_setRate_17 : decode cX6_setRate 17 = .ok (.iconst 1, 1) := by decide +kernel
theorem dX6_setRate_18 : decode cX6_setRate 18 = .ok (.bipush 99, 2) := by decide +kernel
theorem dX6_setRate_20 : decode cX6_setRate 20 = .ok (.invokestatic 36, 3) := by decide +kernel
theorem dX6_setRate_23 : decode cX6_setRate 23 = .ok (.ifCond .eq 6, 3) := by decide +kernel
theorem dX6_setRate_26 : decode cX6_setRate 26 = .ok (.ldc 41, 2) := by decide +kernel
theorem dX6_setRate_28 : decode cX6_setRate 28 = .ok (.ireturn, 1) := by decide +kernel
theorem dX6_setRate_29 : decode cX6_setRate 29 = .ok (.aload_n 3, 1) := by decide +kernel
theorem dX6_setRate_30 : decode cX6_setRate 30 = .ok (.getfield 71, 3) := by decide +kernel
theorem dX6_setRate_33 : decode cX6_setRate 33 = .ok (.istore 4, 2) := by decide +kernel
theorem dX6_setRate_35 : decode cX6_setRate 35 = .ok (.iload_n 2, 1) := by decide +kernel
theorem dX6_setRate_36 : decode cX6_setRate 36 = .ok (.iload 4, 2) := by decide +kernel
theorem dX6_setRate_38 : decode cX6_setRate 38 = .ok (.if_icmp .ne 6, 3) := by decide +kernel
theorem dX6_setRate_41 : decode cX6_setRate 41 = .ok (.ldc 66, 2) := by decide +kernel
theorem dX6_setRate_43 : decode cX6_setRate 43 = .ok (.ireturn, 1) := by decide +kernel
theorem dX6_setRate_44 : decode cX6_setRate 44 = .ok (.aload_n 0, 1) := by decide +kernel
theorem dX6_setRate_45 : decode cX6_setRate 45 = .ok (.getfield 25, 3) := by decide +kernel
theorem dX6_setRate_48 : decode cX6_setRate 48 = .ok (.aload_n 0, 1) := by decide +kernel
theorem dX6_setRate_49 : decode cX6_setRate 49 = .ok (.getfield 10, 3) := by decide +kernel
theorem dX6_setRate_52 : decode cX6_setRate 52 = .ok (.invokevirtual 48, 3) := by decide +kernel
theorem dX6_setRate_55 : decode cX6_setRate 55 = .ok (.aload_n 3, 1) := by decide +kernel
theorem dX6_setRate_56 : decode cX6_setRate 56 = .ok (.iload_n 2, 1) := by decide +kernel
theorem dX6_setRate_57 : decode cX6_setRate 57 = .ok (.putfield 71, 3) := by decide +kernel
theorem dX6_setRate_60 : decode cX6_setRate 60 = .ok (.iload 4, 2) := by decide +kernel
theorem dX6_setRate_62 : decode cX6_setRate 62 = .ok (.ireturn, 1) := by decide +kernel
set_option maxRecDepth 20000 in
theorem ggX6_fill_X4_farmerAt : GoodIn wsX6_fill wsX4_farmerAt := goodIn_r _ [15, 16, 128, 129, 130, 131, 132, 133, 134, 135, 136, 137, 138, 139, 140, 141, 142, 143] (by decide +kernel) (by decide +kernel)
set_option maxRecDepth 20000 in
theorem gX6_fill_X4_farmerAt : GoodIn wsX6_fill (wsV RX6 56 RX4 yX4_farmerAt wsX4_farmerAt) := goodIn_app (goodIn_of _ (by decide +kernel)) ggX6_fill_X4_farmerAt
set_option maxRecDepth 20000 in
theorem ggX6_fill_X4_machineAt : GoodIn wsX6_fill wsX4_machineAt := goodIn_r _ [20, 21, 22, 128, 129, 130, 131, 132, 133, 134, 135, 136, 137, 138, 139, 140, 141, 142, 143] (by decide +kernel) (by decide +kernel)
set_option maxRecDepth 20000 in
theorem gX6_fill_X4_machineAt : GoodIn wsX6_fill (wsV RX6 67 RX4 yX4_machineAt wsX4_machineAt) := goodIn_app (goodIn_of _ (by decide +kernel)) ggX6_fill_X4_machineAt
set_option maxRecDepth 20000 in
theorem ggX6_fill_X6_outside : GoodIn wsX6_fill wsX6_outside := goodIn_r _ [26] (by decide +kernel) (by decide +kernel)
set_option maxRecDepth 20000 in
theorem gX6_fill_X6_outside : GoodIn wsX6_fill (va_wsS RX6 36 yX6_outside wsX6_outside) := goodIn_app (goodIn_of _ (by decide +kernel)) ggX6_fill_X6_outside
set_option maxRecDepth 20000 in
theorem ggX6_fill_X2_push : GoodIn wsX6_fill wsX2_push := goodIn_r _ [31, 32, 33, 34, 35, 36, 30, 37, 38, 39, 40, 41, 42, 43, 44, 14, 45, 21, 46, 47, 48, 49, 50, 51, 52, 53, 54, 55, 56, 57, 58, 59, 60, 61, 62, 12, 13, 15, 16, 63, 64, 65, 66, 67, 68, 69, 70, 71, 72, 73, 74, 18, 19, 20, 22, 75, 76, 77, 78, 79, 80, 81, 82, 83, 84, 85, 86, 87, 88, 89, 90, 91, 92, 93, 94, 95, 96, 97, 98, 99, 100, 101, 102, 103, 104, 105, 106, 107, 144, 145, 128, 129, 130, 131, 132, 133, 134, 135, 136, 137, 138, 139, 140, 141, 142, 143, 122, 123, 124, 125, 126, 127, 114, 115, 116, 117, 118, 119, 120, 121, 146, 147, 148, 149, 150, 151] (by decide +kernel) (by decide +kernel)
set_option maxRecDepth 20000 in
theorem gX6_fill_X2_push : GoodIn wsX6_fill (wsV RX6 48 RX2 yX2_push wsX2_push) := goodIn_app (goodIn_of _ (by decide +kernel)) ggX6_fill_X2_push
theorem dX6_fill_0 : decode cX6_fill 0 = .ok (.aload_n 0, 1) := by decide +kernel
theorem dX6_fill_1 : decode cX6_fill 1 = .ok (.getfield 10, 3) := by decide +kernel
theorem dX6_fill_4 : decode cX6_fill 4 = .ok (.iload_n 1, 1) := by decide +kernel
theorem dX6_fill_5 : decode cX6_fill 5 = .ok (.invokevirtual 56, 3) := by decide +kernel
theorem dX6_fill_8 : decode cX6_fill 8 = .ok (.astore 4, 2) := by decide +kernel
theorem dX6_fill_10 : decode cX6_fill 10 = .ok (.aload_n 0, 1) := by decide +kernel
theorem dX6_fill_11 : decode cX6_fill 11 = .ok (.getfield 10, 3) := by decide +kernel
theorem dX6_fill_14 : decode cX6_fill 14 = .ok (.iload_n 2, 1) := by decide +kernel
theorem dX6_fill_15 : decode cX6_fill 15 = .ok (.invokevirtual 67, 3) := by decide +kernel
theorem dX6_fill_18 : decode cX6_fill 18 = .ok (.astore 5, 2) := by decide +kernel
theorem dX6_fill_20 : decode cX6_fill 20 = .ok (.aload 4, 2) := by decide +kernel
theorem dX6_fill_22 : decode cX6_fill 22 = .ok (.ifnull 8, 3) := by decide +kernel
theorem dX6_fill_25 : decode cX6_fill 25 = .ok (.aload 5, 2) := by decide +kernel
theorem dX6_fill_27 : decode cX6_fill 27 = .ok (.ifnonnull 6, 3) := by decide +kernel
theorem dX6_fill_30 : decode cX6_fill 30 = .ok (.ldc 40, 2) := by decide +kernel
theorem dX6_fill_32 : decode cX6_fill 32 = .ok (.ireturn, 1) := by decide +kernel
theorem dX6_fill_33 : decode cX6_fill 33 = .ok (.iload_n 3, 1) := by decide +kernel
theorem dX6_fill_34 : decode cX6_fill 34 = .ok (.iconst 1, 1) := by decide +kernel
theorem dX6_fill_35 : decode cX6_fill 35 = .ok (.sipush 500, 3) := by decide +kernel
theorem dX6_fill_38 : decode cX6_fill 38 = .ok (.invokestatic 36, 3) := by decide +kernel
theorem dX6_fill_41 : decode cX6_fill 41 = .ok (.ifCond .eq 6, 3) := by decide +kernel
theorem dX6_fill_44 : decode cX6_fill 44 = .ok (.ldc 41, 2) := by decide +kernel
theorem dX6_fill_46 : decode cX6_fill 46 = .ok (.ireturn, 1) := by decide +kernel
theorem dX6_fill_47 : decode cX6_fill 47 = .ok (.aload 5, 2) := by decide +kernel
theorem dX6_fill_49 : decode cX6_fill 49 = .ok (.getfield 76, 3) := by decide +kernel
theorem dX6_fill_52 : decode cX6_fill 52 = .ok (.iload_n 3, 1) := by decide +kernel
theorem dX6_fill_53 : decode cX6_fill 53 = .ok (.i2f, 1) := by decide +kernel
theorem dX6_fill_54 : decode cX6_fill 54 = .ok (.fadd, 1) := by decide +kernel
theorem dX6_fill_55 : decode cX6_fill 55 = .ok (.fstore 6, 2) := by decide +kernel
theorem dX6_fill_57 : decode cX6_fill 57 = .ok (.fload 6, 2) := by decide +kernel
theorem dX6_fill_59 : decode cX6_fill 59 = .ok (.ldc 80, 2) := by decide +kernel
theorem dX6_fill_61 : decode cX6_fill 61 = .ok (.fcmp .l, 1) := by decide +kernel
theorem dX6_fill_62 : decode cX6_fill 62 = .ok (.ifCond .le 6, 3) := by decide +kernel
theorem dX6_fill_65 : decode cX6_fill 65 = .ok (.ldc 46, 2) := by decide +kernel
theorem dX6_fill_67 : decode cX6_fill 67 = .ok (.ireturn, 1) := by decide +kernel
theorem dX6_fill_68 : decode cX6_fill 68 = .ok (.aload_n 0, 1) := by decide +kernel
theorem dX6_fill_69 : decode cX6_fill 69 = .ok (.getfield 25, 3) := by decide +kernel
theorem dX6_fill_72 : decode cX6_fill 72 = .ok (.aload_n 0, 1) := by decide +kernel
theorem dX6_fill_73 : decode cX6_fill 73 = .ok (.getfield 10, 3) := by decide +kernel
theorem dX6_fill_76 : decode cX6_fill 76 = .ok (.invokevirtual 48, 3) := by decide +kernel
theorem dX6_fill_79 : decode cX6_fill 79 = .ok (.iconst 2, 1) := by decide +kernel
theorem dX6_fill_80 : decode cX6_fill 80 = .ok (.iload_n 3, 1) := by decide +kernel
theorem dX6_fill_81 : decode cX6_fill 81 = .ok (.imul, 1) := by decide +kernel
theorem dX6_fill_82 : decode cX6_fill 82 = .ok (.istore 7, 2) := by decide +kernel
theorem dX6_fill_84 : decode cX6_fill 84 = .ok (.aload 5, 2) := by decide +kernel
theorem dX6_fill_86 : decode cX6_fill 86 = .ok (.fload 6, 2) := by decide +kernel
theorem dX6_fill_88 : decode cX6_fill 88 = .ok (.putfield 76, 3) := by decide +kernel
theorem dX6_fill_91 : decode cX6_fill 91 = .ok (.aload 4, 2) := by decide +kernel
theorem dX6_fill_93 : decode cX6_fill 93 = .ok (.dup, 1) := by decide +kernel
theorem dX6_fill_94 : decode cX6_fill 94 = .ok (.getfield 81, 3) := by decide +kernel
theorem dX6_fill_97 : decode cX6_fill 97 = .ok (.iload_n 3, 1) := by decide +kernel
theorem dX6_fill_98 : decode cX6_fill 98 = .ok (.iadd, 1) := by decide +kernel
theorem dX6_fill_99 : decode cX6_fill 99 = .ok (.putfield 81, 3) := by decide +kernel
theorem dX6_fill_102 : decode cX6_fill 102 = .ok (.aload_n 0, 1) := by decide +kernel
theorem dX6_fill_103 : decode cX6_fill 103 = .ok (.getfield 10, 3) := by decide +kernel
theorem dX6_fill_106 : decode cX6_fill 106 = .ok (.dup, 1) := by decide +kernel
theorem dX6_fill_107 : decode cX6_fill 107 = .ok (.getfield 84, 3) := by decide +kernel
theorem dX6_fill_110 : decode cX6_fill 110 = .ok (.iload 7, 2) := by decide +kernel
theorem dX6_fill_112 : decode cX6_fill 112 = .ok (.isub, 1) := by decide +kernel
theorem dX6_fill_113 : decode cX6_fill 113 = .ok (.putfield 84, 3) := by decide +kernel
theorem dX6_fill_116 : decode cX6_fill 116 = .ok (.aload_n 0, 1) := by decide +kernel
theorem dX6_fill_117 : decode cX6_fill 117 = .ok (.getfield 10, 3) := by decide +kernel
theorem dX6_fill_120 : decode cX6_fill 120 = .ok (.dup, 1) := by decide +kernel
theorem dX6_fill_121 : decode cX6_fill 121 = .ok (.getfield 87, 3) := by decide +kernel
theorem dX6_fill_124 : decode cX6_fill 124 = .ok (.iload 7, 2) := by decide +kernel
theorem dX6_fill_126 : decode cX6_fill 126 = .ok (.iadd, 1) := by decide +kernel
theorem dX6_fill_127 : decode cX6_fill 127 = .ok (.putfield 87, 3) := by decide +kernel
theorem dX6_fill_130 : decode cX6_fill 130 = .ok (.iload 7, 2) := by decide +kernel
theorem dX6_fill_132 : decode cX6_fill 132 = .ok (.ireturn, 1) := by decide +kernel
set_option maxRecDepth 20000 in
theorem ggX6_mend_X4_machineAt : GoodIn wsX6_mend wsX4_machineAt := goodIn_r _ [10, 11, 12, 131, 132, 133, 134, 135, 136, 137, 138, 139, 140, 141, 142, 143, 144, 145, 146] (by decide +kernel) (by decide +kernel)
set_option maxRecDepth 20000 in
theorem gX6_mend_X4_machineAt : GoodIn wsX6_mend (wsV RX6 67 RX4 yX4_machineAt wsX4_machineAt) := goodIn_app (goodIn_of _ (by decide +kernel)) ggX6_mend_X4_machineAt
set_option maxRecDepth 20000 in
theorem ggX6_mend_X2_push : GoodIn wsX6_mend wsX2_push := goodIn_r _ [17, 18, 19, 20, 21, 22, 16, 23, 24, 25, 26, 27, 28, 29, 30, 9, 31, 11, 32, 33, 34, 35, 36, 37, 38, 39, 40, 41, 42, 43, 44, 45, 46, 47, 48, 49, 50, 51, 52, 53, 54, 55, 56, 57, 58, 59, 60, 61, 62, 63, 64, 7, 8, 10, 12, 65, 66, 67, 68, 69, 70, 71, 72, 73, 74, 75, 76, 77, 78, 79, 80, 81, 82, 83, 84, 85, 86, 87, 88, 89, 90, 91, 92, 93, 94, 95, 96, 97, 147, 148, 131, 132, 133, 134, 135, 136, 137, 138, 139, 140, 141, 142, 143, 144, 145, 146, 149, 150, 151, 152, 153, 154, 123, 124, 125, 126, 127, 128, 129, 130, 155, 156, 157, 158, 159, 160] (by decide +kernel) (by decide +kernel)
set_option maxRecDepth 20000 in
theorem gX6_mend_X2_push : GoodIn wsX6_mend (wsV RX6 48 RX2 yX2_push wsX2_push) := goodIn_app (goodIn_of _ (by decide +kernel)) ggX6_mend_X2_push
set_option maxRecDepth 20000 in
theorem ggX6_mend_X4_mendAndShare : GoodIn wsX6_mend wsX4_mendAndShare := goodIn_r _ [101, 43, 41, 45, 102, 103, 104, 105, 106, 68, 107, 77, 48, 49, 50, 9, 51, 52, 108, 79, 80, 81, 109, 110, 111, 56, 112, 58, 63, 113, 114, 115, 116, 131, 132, 133, 134, 135, 136, 137, 138, 139, 140, 141, 142, 143, 144, 145, 146, 123, 124, 125, 126, 127, 128, 129, 130, 149, 150, 151, 152, 153, 154] (by decide +kernel) (by decide +kernel)
set_option maxRecDepth 20000 in
theorem gX6_mend_X4_mendAndShare : GoodIn wsX6_mend (wsV RX6 94 RX4 yX4_mendAndShare wsX4_mendAndShare) := goodIn_app (goodIn_of _ (by decide +kernel)) ggX6_mend_X4_mendAndShare
theorem dX6_mend_0 : decode cX6_mend 0 = .ok (.aload_n 0, 1) := by decide +kernel
theorem dX6_mend_1 : decode cX6_mend 1 = .ok (.getfield 10, 3) := by decide +kernel
theorem dX6_mend_4 : decode cX6_mend 4 = .ok (.iload_n 1, 1) := by decide +kernel
theorem dX6_mend_5 : decode cX6_mend 5 = .ok (.invokevirtual 67, 3) := by decide +kernel
theorem dX6_mend_8 : decode cX6_mend 8 = .ok (.astore_n 2, 1) := by decide +kernel
theorem dX6_mend_9 : decode cX6_mend 9 = .ok (.aload_n 2, 1) := by decide +kernel
theorem dX6_mend_10 : decode cX6_mend 10 = .ok (.ifnonnull 6, 3) := by decide +kernel
theorem dX6_mend_13 : decode cX6_mend 13 = .ok (.ldc 40, 2) := by decide +kernel
theorem dX6_mend_15 : decode cX6_mend 15 = .ok (.ireturn, 1) := by decide +kernel
theorem dX6_mend_16 : decode cX6_mend 16 = .ok (.aload_n 2, 1) := by decide +kernel
theorem dX6_mend_17 : decode cX6_mend 17 = .ok (.getfield 90, 3) := by decide +kernel
theorem dX6_mend_20 : decode cX6_mend 20 = .ok (.ifCond .ne 6, 3) := by decide +kernel
theorem dX6_mend_23 : decode cX6_mend 23 = .ok (.ldc 66, 2) := by decide +kernel
theorem dX6_mend_25 : decode cX6_mend 25 = .ok (.ireturn, 1) := by decide +kernel
theorem dX6_mend_26 : decode cX6_mend 26 = .ok (.aload_n 0, 1) := by decide +kernel
theorem dX6_mend_27 : decode cX6_mend 27 = .ok (.getfield 25, 3) := by decide +kernel
theorem dX6_mend_30 : decode cX6_mend 30 = .ok (.aload_n 0, 1) := by decide +kernel
theorem dX6_mend_31 : decode cX6_mend 31 = .ok (.getfield 10, 3) := by decide +kernel
theorem dX6_mend_34 : decode cX6_mend 34 = .ok (.invokevirtual 48, 3) := by decide +kernel
theorem dX6_mend_37 : decode cX6_mend 37 = .ok (.aload_n 0, 1) := by decide +kernel
theorem dX6_mend_38 : decode cX6_mend 38 = .ok (.getfield 10, 3) := by decide +kernel
theorem dX6_mend_41 : decode cX6_mend 41 = .ok (.aload_n 2, 1) := by decide +kernel
theorem dX6_mend_42 : decode cX6_mend 42 = .ok (.invokevirtual 94, 3) := by decide +kernel
theorem dX6_mend_45 : decode cX6_mend 45 = .ok (.ireturn, 1) := by decide +kernel
set_option maxRecDepth 20000 in
theorem ggX6_pay_X4_farmerAt : GoodIn wsX6_pay wsX4_farmerAt := goodIn_r _ [12, 13, 116, 117, 118, 119, 120, 121, 122, 123, 124, 125, 126, 127, 128, 129, 130, 131] (by decide +kernel) (by decide +kernel)
set_option maxRecDepth 20000 in
theorem gX6_pay_X4_farmerAt : GoodIn wsX6_pay (wsV RX6 56 RX4 yX4_farmerAt wsX4_farmerAt) := goodIn_app (goodIn_of _ (by decide +kernel)) ggX6_pay_X4_farmerAt
set_option maxRecDepth 20000 in
theorem ggX6_pay_X6_outside : GoodIn wsX6_pay wsX6_outside := goodIn_r _ [17] (by decide +kernel) (by decide +kernel)
set_option maxRecDepth 20000 in
theorem gX6_pay_X6_outside : GoodIn wsX6_pay (va_wsS RX6 36 yX6_outside wsX6_outside) := goodIn_app (goodIn_of _ (by decide +kernel)) ggX6_pay_X6_outside
set_option maxRecDepth 20000 in
theorem ggX6_pay_X2_push : GoodIn wsX6_pay wsX2_push := goodIn_r _ [22, 23, 24, 25, 26, 27, 21, 28, 29, 30, 31, 32, 33, 34, 35, 11, 36, 37, 38, 39, 40, 41, 42, 43, 44, 45, 46, 47, 48, 49, 50, 51, 52, 53, 54, 9, 10, 12, 13, 55, 56, 57, 58, 59, 60, 61, 62, 63, 64, 65, 66, 67, 68, 69, 70, 71, 72, 73, 74, 75, 76, 77, 78, 79, 80, 81, 82, 83, 84, 85, 86, 87, 88, 89, 90, 91, 92, 93, 94, 95, 96, 97, 98, 99, 100, 101, 102, 103, 132, 133, 116, 117, 118, 119, 120, 121, 122, 123, 124, 125, 126, 127, 128, 129, 130, 131, 110, 111, 112, 113, 114, 115, 134, 135, 136, 137, 138, 139, 140, 141, 142, 143, 144, 145, 146, 147] (by decide +kernel) (by decide +kernel)
set_option maxRecDepth 20000 in
theorem gX6_pay_X2_push : GoodIn wsX6_pay (wsV RX6 48 RX2 yX2_push wsX2_push) := goodIn_app (goodIn_of _ (by decide +kernel)) ggX6_pay_X2_push
theorem dX6_pay_0 : decode cX6_pay 0 = .ok (.aload_n 0, 1) := by decide +kernel
theorem dX6_pay_1 : decode cX6_pay 1 = .ok (.getfield 10, 3) := by decide +kernel
theorem dX6_pay_4 : decode cX6_pay 4 = .ok (.iload_n 1, 1) := by decide +kernel
theorem dX6_pay_5 : decode cX6_pay 5 = .ok (.invokevirtual 56, 3) := by decide +kernel
theorem dX6_pay_8 : decode cX6_pay 8 = .ok (.astore_n 3, 1) := by decide +kernel
theorem dX6_pay_9 : decode cX6_pay 9 = .ok (.aload_n 3, 1) := by decide +kernel
theorem dX6_pay_10 : decode cX6_pay 10 = .ok (.ifnonnull 6, 3) := by decide +kernel
theorem dX6_pay_13 : decode cX6_pay 13 = .ok (.ldc 40, 2) := by decide +kernel
theorem dX6_pay_15 : decode cX6_pay 15 = .ok (.ireturn, 1) := by decide +kernel
theorem dX6_pay_16 : decode cX6_pay 16 = .ok (.iload_n 2, 1) := by decide +kernel
theorem dX6_pay_17 : decode cX6_pay 17 = .ok (.iconst 1, 1) := by decide +kernel
theorem dX6_pay_18 : decode cX6_pay 18 = .ok (.sipush 9999, 3) := by decide +kernel
theorem dX6_pay_21 : decode cX6_pay 21 = .ok (.invokestatic 36, 3) := by decide +kernel
theorem dX6_pay_24 : decode cX6_pay 24 = .ok (.ifCond .eq 6, 3) := by decide +kernel
theorem dX6_pay_27 : decode cX6_pay 27 = .ok (.ldc 41, 2) := by decide +kernel
theorem dX6_pay_29 : decode cX6_pay 29 = .ok (.ireturn, 1) := by decide +kernel
theorem dX6_pay_30 : decode cX6_pay 30 = .ok (.aload_n 0, 1) := by decide +kernel
theorem dX6_pay_31 : decode cX6_pay 31 = .ok (.getfield 25, 3) := by decide +kernel
theorem dX6_pay_34 : decode cX6_pay 34 = .ok (.aload_n 0, 1) := by decide +kernel
theorem dX6_pay_35 : decode cX6_pay 35 = .ok (.getfield 10, 3) := by decide +kernel
theorem dX6_pay_38 : decode cX6_pay 38 = .ok (.invokevirtual 48, 3) := by decide +kernel
theorem dX6_pay_41 : decode cX6_pay 41 = .ok (.aload_n 3, 1) := by decide +kernel
theorem dX6_pay_42 : decode cX6_pay 42 = .ok (.dup, 1) := by decide +kernel
theorem dX6_pay_43 : decode cX6_pay 43 = .ok (.getfield 98, 3) := by decide +kernel
theorem dX6_pay_46 : decode cX6_pay 46 = .ok (.iload_n 2, 1) := by decide +kernel
theorem dX6_pay_47 : decode cX6_pay 47 = .ok (.iadd, 1) := by decide +kernel
theorem dX6_pay_48 : decode cX6_pay 48 = .ok (.putfield 98, 3) := by decide +kernel
theorem dX6_pay_51 : decode cX6_pay 51 = .ok (.aload_n 0, 1) := by decide +kernel
theorem dX6_pay_52 : decode cX6_pay 52 = .ok (.getfield 10, 3) := by decide +kernel
theorem dX6_pay_55 : decode cX6_pay 55 = .ok (.dup, 1) := by decide +kernel
theorem dX6_pay_56 : decode cX6_pay 56 = .ok (.getfield 84, 3) := by decide +kernel
theorem dX6_pay_59 : decode cX6_pay 59 = .ok (.iload_n 2, 1) := by decide +kernel
theorem dX6_pay_60 : decode cX6_pay 60 = .ok (.iadd, 1) := by decide +kernel
theorem dX6_pay_61 : decode cX6_pay 61 = .ok (.putfield 84, 3) := by decide +kernel
theorem dX6_pay_64 : decode cX6_pay 64 = .ok (.aload_n 0, 1) := by decide +kernel
theorem dX6_pay_65 : decode cX6_pay 65 = .ok (.getfield 10, 3) := by decide +kernel
theorem dX6_pay_68 : decode cX6_pay 68 = .ok (.dup, 1) := by decide +kernel
theorem dX6_pay_69 : decode cX6_pay 69 = .ok (.getfield 101, 3) := by decide +kernel
theorem dX6_pay_72 : decode cX6_pay 72 = .ok (.iload_n 2, 1) := by decide +kernel
theorem dX6_pay_73 : decode cX6_pay 73 = .ok (.iadd, 1) := by decide +kernel
theorem dX6_pay_74 : decode cX6_pay 74 = .ok (.putfield 101, 3) := by decide +kernel
theorem dX6_pay_77 : decode cX6_pay 77 = .ok (.aload_n 3, 1) := by decide +kernel
theorem dX6_pay_78 : decode cX6_pay 78 = .ok (.getfield 98, 3) := by decide +kernel
theorem dX6_pay_81 : decode cX6_pay 81 = .ok (.ireturn, 1) := by decide +kernel
set_option maxRecDepth 20000 in
theorem ggX6_book_X4_whyNotBook : GoodIn wsX6_book wsX4_whyNotBook := goodIn_r _ [7, 8, 9, 10, 11, 12, 13, 14, 15, 16, 6, 17, 18, 19, 20, 21, 22, 23, 24, 25, 26, 27, 28, 29, 30, 31, 32, 33, 34, 35, 36, 37, 38, 39, 40, 41, 42, 43, 44, 129, 130, 131, 132, 133, 134, 135, 136, 137, 138, 139, 140, 141, 142, 143, 144, 145, 146, 147, 148, 149, 150] (by decide +kernel) (by decide +kernel)
set_option maxRecDepth 20000 in
theorem gX6_book_X4_whyNotBook : GoodIn wsX6_book (wsV RX6 104 RX4 yX4_whyNotBook wsX4_whyNotBook) := goodIn_app (goodIn_of _ (by decide +kernel)) ggX6_book_X4_whyNotBook
set_option maxRecDepth 20000 in
theorem ggX6_book_X2_push : GoodIn wsX6_book wsX2_push := goodIn_r _ [49, 50, 51, 52, 53, 54, 48, 55, 56, 57, 58, 59, 60, 61, 62, 6, 63, 23, 10, 64, 65, 66, 67, 12, 68, 69, 70, 71, 72, 73, 74, 75, 76, 77, 14, 15, 16, 17, 18, 78, 79, 80, 81, 82, 83, 84, 85, 86, 87, 88, 19, 20, 21, 22, 24, 89, 90, 91, 92, 93, 94, 95, 96, 97, 98, 99, 100, 101, 102, 103, 104, 105, 33, 34, 35, 36, 37, 106, 107, 108, 41, 109, 110, 111, 43, 44, 112, 113, 151, 152, 129, 130, 131, 132, 133, 134, 135, 136, 137, 138, 139, 140, 141, 142, 143, 144, 153, 154, 155, 156, 157, 158, 159, 160, 161, 162, 163, 164, 165, 166, 145, 146, 147, 148, 149, 150] (by decide +kernel) (by decide +kernel)
set_option maxRecDepth 20000 in
theorem gX6_book_X2_push : GoodIn wsX6_book (wsV RX6 48 RX2 yX2_push wsX2_push) := goodIn_app (goodIn_of _ (by decide +kernel)) ggX6_book_X2_push
set_option maxRecDepth 20000 in
theorem ggX6_book_X4_addBooking : GoodIn wsX6_book wsX4_addBooking := goodIn_r _ [117, 10, 11, 68, 118, 119, 120, 12, 121, 32, 122, 33, 34, 35, 6, 36, 37, 129, 130, 131, 132, 133, 134, 135, 136, 137, 138, 139, 140, 141, 142, 143, 144, 145, 146, 147, 148, 149, 150] (by decide +kernel) (by decide +kernel)
set_option maxRecDepth 20000 in
theorem gX6_book_X4_addBooking : GoodIn wsX6_book (wsV RX6 108 RX4 yX4_addBooking wsX4_addBooking) := goodIn_app (goodIn_of _ (by decide +kernel)) ggX6_book_X4_addBooking
theorem dX6_book_0 : decode cX6_book 0 = .ok (.aload_n 0, 1) := by decide +kernel
theorem dX6_book_1 : decode cX6_book 1 = .ok (.getfield 10, 3) := by decide +kernel
theorem dX6_book_4 : decode cX6_book 4 = .ok (.iload_n 1, 1) := by decide +kernel
theorem dX6_book_5 : decode cX6_book 5 = .ok (.iload_n 2, 1) := by decide +kernel
theorem dX6_book_6 : decode cX6_book 6 = .ok (.iload_n 3, 1) := by decide +kernel
theorem dX6_book_7 : decode cX6_book 7 = .ok (.iload 4, 2) := by decide +kernel
theorem dX6_book_9 : decode cX6_book 9 = .ok (.invokevirtual 104, 3) := by decide +kernel
theorem dX6_book_12 : decode cX6_book 12 = .ok (.istore 5, 2) := by decide +kernel
theorem dX6_book_14 : decode cX6_book 14 = .ok (.iload 5, 2) := by decide +kernel
theorem dX6_book_16 : decode cX6_book 16 = .ok (.ifCond .eq 6, 3) := by decide +kernel
theorem dX6_book_19 : decode cX6_book 19 = .ok (.iload 5, 2) := by decide +kernel
theorem dX6_book_21 : decode cX6_book 21 = .ok (.ireturn, 1) := by decide +kernel
theorem dX6_book_22 : decode cX6_book 22 = .ok (.aload_n 0, 1) := by decide +kernel
theorem dX6_book_23 : decode cX6_book 23 = .ok (.getfield 25, 3) := by decide +kernel
theorem dX6_book_26 : decode cX6_book 26 = .ok (.aload_n 0, 1) := by decide +kernel
theorem dX6_book_27 : decode cX6_book 27 = .ok (.getfield 10, 3) := by decide +kernel
theorem dX6_book_30 : decode cX6_book 30 = .ok (.invokevirtual 48, 3) := by decide +kernel
theorem dX6_book_33 : decode cX6_book 33 = .ok (.aload_n 0, 1) := by decide +kernel
theorem dX6_book_34 : decode cX6_book 34 = .ok (.getfield 10, 3) := by decide +kernel
theorem dX6_book_37 : decode cX6_book 37 = .ok (.iload_n 1, 1) := by decide +kernel
theorem dX6_book_38 : decode cX6_book 38 = .ok (.iload_n 2, 1) := by decide +kernel
theorem dX6_book_39 : decode cX6_book 39 = .ok (.iload_n 3, 1) := by decide +kernel
theorem dX6_book_40 : decode cX6_book 40 = .ok (.iload 4, 2) := by decide +kernel
theorem dX6_book_42 : decode cX6_book 42 = .ok (.invokevirtual 108, 3) := by decide +kernel
theorem dX6_book_45 : decode cX6_book 45 = .ok (.ireturn, 1) := by decide +kernel
set_option maxRecDepth 20000 in
theorem ggX6_bookAll_X5_findFault : GoodIn wsX6_bookAll wsX5_findFault := goodIn_r _ [14, 15, 16, 17, 18, 19, 13, 20, 21, 22, 23, 24, 25, 26, 27, 28, 29, 30, 31, 32, 33, 34, 35, 36, 37, 38, 39, 40, 41, 42, 43, 44, 45, 46, 47, 48, 49, 50, 51, 52, 180, 181, 182, 183, 184, 185, 186] (by decide +kernel) (by decide +kernel)
set_option maxRecDepth 20000 in
theorem gX6_bookAll_X5_findFault : GoodIn wsX6_bookAll (wsV RX6 111 RX5 yX5_findFault wsX5_findFault) := goodIn_app (goodIn_of _ (by decide +kernel)) ggX6_bookAll_X5_findFault
set_option maxRecDepth 20000 in
theorem ggX6_bookAll_X4_copyFrom : GoodIn wsX6_bookAll wsX4_copyFrom := goodIn_r _ [57, 58, 59, 60, 61, 62, 56, 63, 64, 65, 66, 67, 68, 69, 70, 71, 72, 73, 74, 75, 76, 77, 78, 79, 80, 81, 82, 83, 84, 85, 86, 87, 88, 89, 90, 91, 92, 93, 94, 95, 96, 97, 98, 99, 100, 101, 102, 103, 104, 105, 106, 107, 108, 109, 110, 111, 112, 113, 114, 115, 116, 117, 118, 119, 120, 121, 122, 123, 124, 125, 126, 127, 128, 187, 188, 189, 190, 191, 192, 193, 194, 195, 196, 197, 198, 199, 200, 201, 202, 203, 204, 205, 206, 207, 208, 209, 210, 211, 212, 213, 214, 215, 216, 217, 218, 219, 220, 221, 222] (by decide +kernel) (by decide +kernel)
set_option maxRecDepth 20000 in
theorem gX6_bookAll_X4_copyFrom : GoodIn wsX6_bookAll (wsV RX6 116 RX4 yX4_copyFrom wsX4_copyFrom) := goodIn_app (goodIn_of _ (by decide +kernel)) ggX6_bookAll_X4_copyFrom
set_option maxRecDepth 20000 in
theorem ggX6_bookAll_X5_startReading : GoodIn wsX6_bookAll wsX5_startReading := goodIn_r _ [20, 15, 180, 181, 182, 183, 184, 185, 186] (by decide +kernel) (by decide +kernel)
set_option maxRecDepth 20000 in
theorem gX6_bookAll_X5_startReading : GoodIn wsX6_bookAll (wsV RX6 119 RX5 yX5_startReading wsX5_startReading) := goodIn_app (goodIn_of _ (by decide +kernel)) ggX6_bookAll_X5_startReading
set_option maxRecDepth 20000 in
theorem ggX6_bookAll_X5_readBooking : GoodIn wsX6_bookAll wsX5_readBooking := goodIn_r _ [24, 25, 26, 27, 28, 29, 30, 31, 13, 32, 15, 33, 34, 35, 36, 16, 37, 38, 39, 40, 41, 42, 43, 44, 45, 46, 47, 48, 49, 50, 51, 52, 180, 181, 182, 183, 184, 185, 186] (by decide +kernel) (by decide +kernel)
set_option maxRecDepth 20000 in
theorem gX6_bookAll_X5_readBooking : GoodIn wsX6_bookAll (wsV RX6 122 RX5 yX5_readBooking wsX5_readBooking) := goodIn_app (goodIn_of _ (by decide +kernel)) ggX6_bookAll_X5_readBooking
set_option maxRecDepth 20000 in
theorem ggX6_bookAll_X4_whyNotBook : GoodIn wsX6_bookAll wsX4_whyNotBook := goodIn_r _ [134, 135, 136, 59, 137, 64, 138, 75, 76, 77, 56, 78, 79, 91, 92, 93, 94, 58, 95, 38, 39, 40, 139, 140, 141, 142, 143, 113, 114, 115, 116, 117, 144, 145, 146, 121, 147, 125, 126, 187, 188, 189, 190, 191, 192, 193, 194, 195, 196, 197, 198, 199, 200, 201, 202, 217, 218, 219, 220, 221, 222] (by decide +kernel) (by decide +kernel)
set_option maxRecDepth 20000 in
theorem gX6_bookAll_X4_whyNotBook : GoodIn wsX6_bookAll (wsV RX6 104 RX4 yX4_whyNotBook wsX4_whyNotBook) := goodIn_app (goodIn_of _ (by decide +kernel)) ggX6_bookAll_X4_whyNotBook
set_option maxRecDepth 20000 in
theorem ggX6_bookAll_X4_addBooking : GoodIn wsX6_bookAll wsX4_addBooking := goodIn_r _ [151, 59, 137, 65, 152, 153, 154, 64, 155, 143, 156, 113, 114, 115, 56, 116, 117, 187, 188, 189, 190, 191, 192, 193, 194, 195, 196, 197, 198, 199, 200, 201, 202, 217, 218, 219, 220, 221, 222] (by decide +kernel) (by decide +kernel)
set_option maxRecDepth 20000 in
theorem gX6_bookAll_X4_addBooking : GoodIn wsX6_bookAll (wsV RX6 108 RX4 yX4_addBooking wsX4_addBooking) := goodIn_app (goodIn_of _ (by decide +kernel)) ggX6_bookAll_X4_addBooking
set_option maxRecDepth 20000 in
theorem ggX6_bookAll_X5_takeSign : GoodIn wsX6_bookAll wsX5_takeSign := goodIn_r _ [44, 15, 33, 34, 35, 13, 36, 16, 37, 180, 181, 182, 183, 184, 185, 186] (by decide +kernel) (by decide +kernel)
set_option maxRecDepth 20000 in
theorem gX6_bookAll_X5_takeSign : GoodIn wsX6_bookAll (wsV RX6 138 RX5 yX5_takeSign wsX5_takeSign) := goodIn_app (goodIn_of _ (by decide +kernel)) ggX6_bookAll_X5_takeSign
set_option maxRecDepth 20000 in
theorem ggX6_bookAll_X2_push : GoodIn wsX6_bookAll wsX2_push := goodIn_r _ [162, 163, 164, 165, 166, 167, 161, 168, 169, 170, 171, 172, 173, 54, 55, 56, 57, 58, 59, 60, 61, 62, 63, 64, 65, 66, 67, 68, 69, 70, 71, 72, 73, 74, 75, 76, 77, 78, 79, 80, 81, 82, 83, 84, 85, 86, 87, 88, 89, 90, 91, 92, 93, 94, 95, 96, 97, 98, 99, 100, 101, 102, 103, 104, 105, 106, 107, 108, 109, 110, 111, 112, 113, 114, 115, 116, 117, 118, 119, 120, 121, 122, 123, 124, 125, 126, 127, 128, 223, 224, 187, 188, 189, 190, 191, 192, 193, 194, 195, 196, 197, 198, 199, 200, 201, 202, 203, 204, 205, 206, 207, 208, 209, 210, 211, 212, 213, 214, 215, 216, 217, 218, 219, 220, 221, 222] (by decide +kernel) (by decide +kernel)
set_option maxRecDepth 20000 in
theorem gX6_bookAll_X2_push : GoodIn wsX6_bookAll (wsV RX6 48 RX2 yX2_push wsX2_push) := goodIn_app (goodIn_of _ (by decide +kernel)) ggX6_bookAll_X2_push
theorem dX6_bookAll_0 : decode cX6_bookAll 0 = .ok (.aload_n 0, 1) := by decide +kernel
theorem dX6_bookAll_1 : decode cX6_bookAll 1 = .ok (.getfield 32, 3) := by decide +kernel
theorem dX6_bookAll_4 : decode cX6_bookAll 4 = .ok (.invokevirtual 111, 3) := by decide +kernel
theorem dX6_bookAll_7 : decode cX6_bookAll 7 = .ok (.istore_n 1, 1) := by decide +kernel
theorem dX6_bookAll_8 : decode cX6_bookAll 8 = .ok (.iload_n 1, 1) := by decide +kernel
theorem dX6_bookAll_9 : decode cX6_bookAll 9 = .ok (.iconst (-1), 1) := by decide +kernel
theorem dX6_bookAll_10 : decode cX6_bookAll 10 = .ok (.if_icmp .eq 8, 3) := by decide +kernel
theorem dX6_bookAll_13 : decode cX6_bookAll 13 = .ok (.ldc 115, 2) := by decide +kernel
theorem dX6_bookAll_15 : decode cX6_bookAll 15 = .ok (.iload_n 1, 1) := by decide +kernel
theorem dX6_bookAll_16 : decode cX6_bookAll 16 = .ok (.isub, 1) := by decide +kernel
theorem dX6_bookAll_17 : decode cX6_bookAll 17 = .ok (.ireturn, 1) := by decide +kernel
theorem dX6_bookAll_18 : decode cX6_bookAll 18 = .ok (.aload_n 0, 1) := by decide +kernel
theorem dX6_bookAll_19 : decode cX6_bookAll 19 = .ok (.getfield 16, 3) := by decide +kernel
theorem dX6_bookAll_22 : decode cX6_bookAll 22 = .ok (.aload_n 0, 1) := by decide +kernel
theorem dX6_bookAll_23 : decode cX6_bookAll 23 = .ok (.getfield 10, 3) := by decide +kernel
theorem dX6_bookAll_26 : decode cX6_bookAll 26 = .ok (.invokevirtual 116, 3) := by decide +kernel
theorem dX6_bookAll_29 : decode cX6_bookAll 29 = .ok (.iconst 0, 1) := by decide +kernel
theorem dX6_bookAll_30 : decode cX6_bookAll 30 = .ok (.istore_n 2, 1) := by decide +kernel
theorem dX6_bookAll_31 : decode cX6_bookAll 31 = .ok (.aload_n 0, 1) := by decide +kernel
theorem dX6_bookAll_32 : decode cX6_bookAll 32 = .ok (.getfield 32, 3) := by decide +kernel
theorem dX6_bookAll_35 : decode cX6_bookAll 35 = .ok (.invokevirtual 119, 3) := by decide +kernel
theorem dX6_bookAll_38 : decode cX6_bookAll 38 = .ok (.iconst 0, 1) := by decide +kernel
theorem dX6_bookAll_39 : decode cX6_bookAll 39 = .ok (.istore_n 3, 1) := by decide +kernel
theorem dX6_bookAll_40 : decode cX6_bookAll 40 = .ok (.iload_n 3, 1) := by decide +kernel
theorem dX6_bookAll_41 : decode cX6_bookAll 41 = .ok (.bipush 8, 2) := by decide +kernel
theorem dX6_bookAll_43 : decode cX6_bookAll 43 = .ok (.if_icmp .ge 124, 3) := by decide +kernel
theorem dX6_bookAll_46 : decode cX6_bookAll 46 = .ok (.aload_n 0, 1) := by decide +kernel
theorem dX6_bookAll_47 : decode cX6_bookAll 47 = .ok (.getfield 32, 3) := by decide +kernel
theorem dX6_bookAll_50 : decode cX6_bookAll 50 = .ok (.invokevirtual 122, 3) := by decide +kernel
theorem dX6_bookAll_53 : decode cX6_bookAll 53 = .ok (.ifCond .eq 114, 3) := by decide +kernel
theorem dX6_bookAll_56 : decode cX6_bookAll 56 = .ok (.aload_n 0, 1) := by decide +kernel
theorem dX6_bookAll_57 : decode cX6_bookAll 57 = .ok (.getfield 10, 3) := by decide +kernel
theorem dX6_bookAll_60 : decode cX6_bookAll 60 = .ok (.aload_n 0, 1) := by decide +kernel
theorem dX6_bookAll_61 : decode cX6_bookAll 61 = .ok (.getfield 32, 3) := by decide +kernel
theorem dX6_bookAll_64 : decode cX6_bookAll 64 = .ok (.getfield 126, 3) := by decide +kernel
theorem dX6_bookAll_67 : decode cX6_bookAll 67 = .ok (.aload_n 0, 1) := by decide +kernel
theorem dX6_bookAll_68 : decode cX6_bookAll 68 = .ok (.getfield 32, 3) := by decide +kernel
theorem dX6_bookAll_71 : decode cX6_bookAll 71 = .ok (.getfield 129, 3) := by decide +kernel
theorem dX6_bookAll_74 : decode cX6_bookAll 74 = .ok (.aload_n 0, 1) := by decide +kernel
theorem dX6_bookAll_75 : decode cX6_bookAll 75 = .ok (.getfield 32, 3) := by decide +kernel
theorem dX6_bookAll_78 : decode cX6_bookAll 78 = .ok (.getfield 132, 3) := by decide +kernel
theorem dX6_bookAll_81 : decode cX6_bookAll 81 = .ok (.aload_n 0, 1) := by decide +kernel
theorem dX6_bookAll_82 : decode cX6_bookAll 82 = .ok (.getfield 32, 3) := by decide +kernel
theorem dX6_bookAll_85 : decode cX6_bookAll 85 = .ok (.getfield 135, 3) := by decide +kernel
theorem dX6_bookAll_88 : decode cX6_bookAll 88 = .ok (.invokevirtual 104, 3) := by decide +kernel
theorem dX6_bookAll_91 : decode cX6_bookAll 91 = .ok (.istore 4, 2) := by decide +kernel
theorem dX6_bookAll_93 : decode cX6_bookAll 93 = .ok (.iload 4, 2) := by decide +kernel
theorem dX6_bookAll_95 : decode cX6_bookAll 95 = .ok (.ifCond .eq 17, 3) := by decide +kernel
theorem dX6_bookAll_98 : decode cX6_bookAll 98 = .ok (.aload_n 0, 1) := by decide +kernel
theorem dX6_bookAll_99 : decode cX6_bookAll 99 = .ok (.getfield 10, 3) := by decide +kernel
theorem dX6_bookAll_102 : decode cX6_bookAll 102 = .ok (.aload_n 0, 1) := by decide +kernel
theorem dX6_bookAll_103 : decode cX6_bookAll 103 = .ok (.getfield 16, 3) := by decide +kernel
theorem dX6_bookAll_106 : decode cX6_bookAll 106 = .ok (.invokevirtual 116, 3) := by decide +kernel
theorem dX6_bookAll_109 : decode cX6_bookAll 109 = .ok (.iload 4, 2) := by decide +kernel
theorem dX6_bookAll_111 : decode cX6_bookAll 111 = .ok (.ireturn, 1) := by decide +kernel
theorem dX6_bookAll_112 : decode cX6_bookAll 112 = .ok (.aload_n 0, 1) := by decide +kernel
theorem dX6_bookAll_113 : decode cX6_bookAll 113 = .ok (.getfield 10, 3) := by decide +kernel
theorem dX6_bookAll_116 : decode cX6_bookAll 116 = .ok (.aload_n 0, 1) := by decide +kernel
theorem dX6_bookAll_117 : decode cX6_bookAll 117 = .ok (.getfield 32, 3) := by decide +kernel
theorem dX6_bookAll_120 : decode cX6_bookAll 120 = .ok (.getfield 126, 3) := by decide +kernel
theorem dX6_bookAll_123 : decode cX6_bookAll 123 = .ok (.aload_n 0, 1) := by decide +kernel
theorem dX6_bookAll_124 : decode cX6_bookAll 124 = .ok (.getfield 32, 3) := by decide +kernel
theorem dX6_bookAll_127 : decode cX6_bookAll 127 = .ok (.getfield 129, 3) := by decide +kernel
theorem dX6_bookAll_130 : decode cX6_bookAll 130 = .ok (.aload_n 0, 1) := by decide +kernel
theorem dX6_bookAll_131 : decode cX6_bookAll 131 = .ok (.getfield 32, 3) := by decide +kernel
theorem dX6_bookAll_134 : decode cX6_bookAll 134 = .ok (.getfield 132, 3) := by decide +kernel
theorem dX6_bookAll_137 : decode cX6_bookAll 137 = .ok (.aload_n 0, 1) := by decide +kernel
theorem dX6_bookAll_138 : decode cX6_bookAll 138 = .ok (.getfield 32, 3) := by decide +kernel
theorem dX6_bookAll_141 : decode cX6_bookAll 141 = .ok (.getfield 135, 3) := by decide +kernel
theorem dX6_bookAll_144 : decode cX6_bookAll 144 = .ok (.invokevirtual 108, 3) := by decide +kernel
theorem dX6_bookAll_147 : decode cX6_bookAll 147 = .ok (.pop, 1) := by decide +kernel
theorem dX6_bookAll_148 : decode cX6_bookAll 148 = .ok (.iinc 2 1, 3) := by decide +kernel
theorem dX6_bookAll_151 : decode cX6_bookAll 151 = .ok (.aload_n 0, 1) := by decide +kernel
theorem dX6_bookAll_152 : decode cX6_bookAll 152 = .ok (.getfield 32, 3) := by decide +kernel
theorem dX6_bookAll_155 : decode cX6_bookAll 155 = .ok (.bipush 44, 2) := by decide +kernel
theorem dX6_bookAll_157 : decode cX6_bookAll 157 = .ok (.invokevirtual 138, 3) := by decide +kernel
theorem dX6_bookAll_160 : decode cX6_bookAll 160 = .ok (.pop, 1) := by decide +kernel
theorem dX6_bookAll_161 : decode cX6_bookAll 161 = .ok (.iinc 3 1, 3) := by decide +kernel
theorem dX6_bookAll_164 : decode cX6_bookAll 164 = .ok (.goto (-124), 3) := by decide +kernel
theorem dX6_bookAll_167 : decode cX6_bookAll 167 = .ok (.aload_n 0, 1) := by decide +kernel
theorem dX6_bookAll_168 : decode cX6_bookAll 168 = .ok (.getfield 25, 3) := by decide +kernel
theorem dX6_bookAll_171 : decode cX6_bookAll 171 = .ok (.aload_n 0, 1) := by decide +kernel
theorem dX6_bookAll_172 : decode cX6_bookAll 172 = .ok (.getfield 16, 3) := by decide +kernel
theorem dX6_bookAll_175 : decode cX6_bookAll 175 = .ok (.invokevirtual 48, 3) := by decide +kernel
theorem dX6_bookAll_178 : decode cX6_bookAll 178 = .ok (.iload_n 2, 1) := by decide +kernel
theorem dX6_bookAll_179 : decode cX6_bookAll 179 = .ok (.ireturn, 1) := by decide +kernel
set_option maxRecDepth 20000 in
theorem ggX6_takeBack_X4_placeOf : GoodIn wsX6_takeBack wsX4_placeOf := goodIn_r _ [9, 10, 11, 12, 13, 14, 8, 15, 16, 111, 112, 113, 114, 115, 116, 117, 118, 119, 120, 121, 122, 123, 124, 125, 126, 127, 128, 129, 130, 131, 132] (by decide +kernel) (by decide +kernel)
set_option maxRecDepth 20000 in
theorem gX6_takeBack_X4_placeOf : GoodIn wsX6_takeBack (wsV RX6 142 RX4 yX4_placeOf wsX4_placeOf) := goodIn_app (goodIn_of _ (by decide +kernel)) ggX6_takeBack_X4_placeOf
set_option maxRecDepth 20000 in
theorem ggX6_takeBack_X2_push : GoodIn wsX6_takeBack wsX2_push := goodIn_r _ [21, 22, 23, 24, 25, 26, 20, 27, 28, 29, 30, 31, 32, 33, 34, 8, 35, 36, 10, 37, 38, 39, 40, 41, 42, 43, 44, 45, 46, 47, 48, 49, 50, 51, 52, 53, 54, 55, 56, 57, 58, 59, 60, 61, 62, 63, 64, 65, 66, 67, 68, 69, 70, 71, 72, 73, 74, 75, 76, 77, 78, 79, 80, 81, 82, 83, 84, 85, 86, 87, 88, 89, 12, 13, 14, 15, 16, 90, 91, 92, 93, 94, 95, 96, 97, 98, 99, 100, 133, 134, 111, 112, 113, 114, 115, 116, 117, 118, 119, 120, 121, 122, 123, 124, 125, 126, 135, 136, 137, 138, 139, 140, 141, 142, 143, 144, 145, 146, 147, 148, 127, 128, 129, 130, 131, 132] (by decide +kernel) (by decide +kernel)
set_option maxRecDepth 20000 in
theorem gX6_takeBack_X2_push : GoodIn wsX6_takeBack (wsV RX6 48 RX2 yX2_push wsX2_push) := goodIn_app (goodIn_of _ (by decide +kernel)) ggX6_takeBack_X2_push
set_option maxRecDepth 20000 in
theorem ggX6_takeBack_X4_removeBookingAt : GoodIn wsX6_takeBack wsX4_removeBookingAt := goodIn_r _ [104, 10, 16, 111, 112, 113, 114, 115, 116, 117, 118, 119, 120, 121, 122, 123, 124, 125, 126] (by decide +kernel) (by decide +kernel)
set_option maxRecDepth 20000 in
theorem gX6_takeBack_X4_removeBookingAt : GoodIn wsX6_takeBack (wsV RX6 145 RX4 yX4_removeBookingAt wsX4_removeBookingAt) := goodIn_app (goodIn_of _ (by decide +kernel)) ggX6_takeBack_X4_removeBookingAt
theorem dX6_takeBack_0 : decode cX6_takeBack 0 = .ok (.aload_n 0, 1) := by decide +kernel
theorem dX6_takeBack_1 : decode cX6_takeBack 1 = .ok (.getfield 10, 3) := by decide +kernel
theorem dX6_takeBack_4 : decode cX6_takeBack 4 = .ok (.iload_n 1, 1) := by decide +kernel
theorem dX6_takeBack_5 : decode cX6_takeBack 5 = .ok (.invokevirtual 142, 3) := by decide +kernel
theorem dX6_takeBack_8 : decode cX6_takeBack 8 = .ok (.istore_n 2, 1) := by decide +kernel
theorem dX6_takeBack_9 : decode cX6_takeBack 9 = .ok (.iload_n 2, 1) := by decide +kernel
theorem dX6_takeBack_10 : decode cX6_takeBack 10 = .ok (.ifCond .ge 6, 3) := by decide +kernel
theorem dX6_takeBack_13 : decode cX6_takeBack 13 = .ok (.ldc 40, 2) := by decide +kernel
theorem dX6_takeBack_15 : decode cX6_takeBack 15 = .ok (.ireturn, 1) := by decide +kernel
theorem dX6_takeBack_16 : decode cX6_takeBack 16 = .ok (.aload_n 0, 1) := by decide +kernel
theorem dX6_takeBack_17 : decode cX6_takeBack 17 = .ok (.getfield 25, 3) := by decide +kernel
theorem dX6_takeBack_20 : decode cX6_takeBack 20 = .ok (.aload_n 0, 1) := by decide +kernel
theorem dX6_takeBack_21 : decode cX6_takeBack 21 = .ok (.getfield 10, 3) := by decide +kernel
theorem dX6_takeBack_24 : decode cX6_takeBack 24 = .ok (.invokevirtual 48, 3) := by decide +kernel
theorem dX6_takeBack_27 : decode cX6_takeBack 27 = .ok (.aload_n 0, 1) := by decide +kernel
theorem dX6_takeBack_28 : decode cX6_takeBack 28 = .ok (.getfield 10, 3) := by decide +kernel
theorem dX6_takeBack_31 : decode cX6_takeBack 31 = .ok (.iload_n 2, 1) := by decide +kernel
theorem dX6_takeBack_32 : decode cX6_takeBack 32 = .ok (.invokevirtual 145, 3) := by decide +kernel
theorem dX6_takeBack_35 : decode cX6_takeBack 35 = .ok (.aload_n 0, 1) := by decide +kernel
theorem dX6_takeBack_36 : decode cX6_takeBack 36 = .ok (.getfield 10, 3) := by decide +kernel
theorem dX6_takeBack_39 : decode cX6_takeBack 39 = .ok (.getfield 149, 3) := by decide +kernel
theorem dX6_takeBack_42 : decode cX6_takeBack 42 = .ok (.ireturn, 1) := by decide +kernel
set_option maxRecDepth 20000 in
theorem ggX6_pass_X6_outside : GoodIn wsX6_pass wsX6_outside := goodIn_r _ [8] (by decide +kernel) (by decide +kernel)
set_option maxRecDepth 20000 in
theorem gX6_pass_X6_outside : GoodIn wsX6_pass (va_wsS RX6 36 yX6_outside wsX6_outside) := goodIn_app (goodIn_of _ (by decide +kernel)) ggX6_pass_X6_outside
set_option maxRecDepth 20000 in
theorem ggX6_pass_X2_push : GoodIn wsX6_pass wsX2_push := goodIn_r _ [13, 14, 15, 16, 17, 18, 12, 19, 20, 21, 22, 23, 24, 25, 26, 27, 28, 29, 30, 31, 32, 33, 34, 35, 36, 37, 38, 39, 40, 41, 42, 43, 44, 45, 46, 47, 48, 49, 50, 51, 52, 53, 54, 55, 56, 57, 58, 59, 60, 61, 62, 63, 64, 65, 66, 67, 68, 69, 70, 71, 72, 73, 74, 75, 76, 77, 78, 79, 80, 81, 82, 83, 84, 85, 86, 87, 88, 89, 90, 91, 92, 93, 94, 95, 96, 97, 98, 99, 201, 202, 185, 186, 187, 188, 189, 190, 191, 192, 193, 194, 195, 196, 197, 198, 199, 200, 203, 204, 205, 206, 207, 208, 209, 210, 211, 212, 213, 214, 215, 216, 217, 218, 219, 220, 221, 222] (by decide +kernel) (by decide +kernel)
set_option maxRecDepth 20000 in
theorem gX6_pass_X2_push : GoodIn wsX6_pass (wsV RX6 48 RX2 yX2_push wsX2_push) := goodIn_app (goodIn_of _ (by decide +kernel)) ggX6_pass_X2_push
set_option maxRecDepth 20000 in
theorem ggX6_pass_X4_passDay : GoodIn wsX6_pass wsX4_passDay := goodIn_r _ [103, 35, 30, 104, 105, 106, 27, 107, 108, 109, 110, 111, 112, 40, 37, 84, 85, 86, 87, 88, 62, 63, 64, 65, 29, 66, 46, 47, 48, 49, 50, 113, 114, 115, 116, 117, 118, 119, 120, 121, 122, 123, 42, 124, 125, 126, 70, 127, 72, 128, 7, 129, 130, 131, 132, 133, 134, 135, 136, 137, 38, 138, 139, 140, 141, 142, 143, 144, 92, 145, 96, 97, 146, 147, 148, 149, 150, 151, 152, 153, 154, 155, 156, 157, 158, 159, 160, 54, 161, 57, 162, 163, 164, 165, 56, 60, 166, 167, 168, 169, 75, 77, 79, 76, 170, 171, 172, 173, 174, 175, 176, 177, 178, 185, 186, 187, 188, 189, 190, 191, 192, 193, 194, 195, 196, 197, 198, 199, 200, 217, 218, 219, 220, 221, 222, 203, 204, 205, 206, 207, 208, 209, 210, 211, 212, 213, 214, 215, 216] (by decide +kernel) (by decide +kernel)
set_option maxRecDepth 20000 in
theorem gX6_pass_X4_passDay : GoodIn wsX6_pass (wsV RX6 155 RX4 yX4_passDay wsX4_passDay) := goodIn_app (goodIn_of _ (by decide +kernel)) ggX6_pass_X4_passDay
theorem dX6_pass_0 : decode cX6_pass 0 = .ok (.iload_n 1, 1) := by decide +kernel
theorem dX6_pass_1 : decode cX6_pass 1 = .ok (.iconst 1, 1) := by decide +kernel
theorem dX6_pass_2 : decode cX6_pass 2 = .ok (.bipush 60, 2) := by decide +kernel
theorem dX6_pass_4 : decode cX6_pass 4 = .ok (.invokestatic 36, 3) := by decide +kernel
theorem dX6_pass_7 : decode cX6_pass 7 = .ok (.ifCond .eq 6, 3) := by decide +kernel
theorem dX6_pass_10 : decode cX6_pass 10 = .ok (.ldc 41, 2) := by decide +kernel
theorem dX6_pass_12 : decode cX6_pass 12 = .ok (.ireturn, 1) := by decide +kernel
theorem dX6_pass_13 : decode cX6_pass 13 = .ok (.aload_n 0, 1) := by decide +kernel
theorem dX6_pass_14 : decode cX6_pass 14 = .ok (.getfield 25, 3) := by decide +kernel
theorem dX6_pass_17 : decode cX6_pass 17 = .ok (.aload_n 0, 1) := by decide +kernel
theorem dX6_pass_18 : decode cX6_pass 18 = .ok (.getfield 10, 3) := by decide +kernel
theorem dX6_pass_21 : decode cX6_pass 21 = .ok (.invokevirtual 48, 3) := by decide +kernel
theorem dX6_pass_24 : decode cX6_pass 24 = .ok (.aload_n 0, 1) := by decide +kernel
theorem dX6_pass_25 : decode cX6_pass 25 = .ok (.getfield 10, 3) := by decide +kernel
theorem dX6_pass_28 : decode cX6_pass 28 = .ok (.getfield 152, 3) := by decide +kernel
theorem dX6_pass_31 : decode cX6_pass 31 = .ok (.istore_n 2, 1) := by decide +kernel
theorem dX6_pass_32 : decode cX6_pass 32 = .ok (.iconst 0, 1) := by decide +kernel
theorem dX6_pass_33 : decode cX6_pass 33 = .ok (.istore_n 3, 1) := by decide +kernel
theorem dX6_pass_34 : decode cX6_pass 34 = .ok (.iload_n 3, 1) := by decide +kernel
theorem dX6_pass_35 : decode cX6_pass 35 = .ok (.iload_n 1, 1) := by decide +kernel
theorem dX6_pass_36 : decode cX6_pass 36 = .ok (.if_icmp .ge 16, 3) := by decide +kernel
theorem dX6_pass_39 : decode cX6_pass 39 = .ok (.aload_n 0, 1) := by decide +kernel
theorem dX6_pass_40 : decode cX6_pass 40 = .ok (.getfield 10, 3) := by decide +kernel
theorem dX6_pass_43 : decode cX6_pass 43 = .ok (.invokevirtual 155, 3) := by decide +kernel
theorem dX6_pass_46 : decode cX6_pass 46 = .ok (.iinc 3 1, 3) := by decide +kernel
theorem dX6_pass_49 : decode cX6_pass 49 = .ok (.goto (-15), 3) := by decide +kernel
theorem dX6_pass_52 : decode cX6_pass 52 = .ok (.aload_n 0, 1) := by decide +kernel
theorem dX6_pass_53 : decode cX6_pass 53 = .ok (.getfield 10, 3) := by decide +kernel
theorem dX6_pass_56 : decode cX6_pass 56 = .ok (.getfield 152, 3) := by decide +kernel
theorem dX6_pass_59 : decode cX6_pass 59 = .ok (.iload_n 2, 1) := by decide +kernel
theorem dX6_pass_60 : decode cX6_pass 60 = .ok (.isub, 1) := by decide +kernel
theorem dX6_pass_61 : decode cX6_pass 61 = .ok (.ireturn, 1) := by decide +kernel
set_option maxRecDepth 20000 in
theorem ggX6_set_X6_outside : GoodIn wsX6_set wsX6_outside := goodIn_r _ [10] (by decide +kernel) (by decide +kernel)
set_option maxRecDepth 20000 in
theorem gX6_set_X6_outside : GoodIn wsX6_set (va_wsS RX6 36 yX6_outside wsX6_outside) := goodIn_app (goodIn_of _ (by decide +kernel)) ggX6_set_X6_outside
set_option maxRecDepth 20000 in
theorem ggX6_set_X2_push : GoodIn wsX6_set wsX2_push := goodIn_r _ [15, 16, 17, 18, 19, 20, 14, 21, 22, 23, 24, 25, 26, 27, 28, 29, 30, 31, 32, 33, 34, 35, 36, 37, 38, 39, 40, 41, 42, 43, 44, 45, 46, 47, 48, 49, 50, 51, 52, 53, 54, 55, 56, 57, 58, 59, 60, 61, 62, 63, 64, 65, 66, 67, 68, 69, 70, 71, 72, 73, 74, 75, 76, 77, 78, 79, 80, 81, 82, 83, 84, 85, 86, 87, 88, 89, 90, 91, 92, 93, 94, 95, 96, 97, 98, 99, 100, 101, 124, 125, 108, 109, 110, 111, 112, 113, 114, 115, 116, 117, 118, 119, 120, 121, 122, 123, 126, 127, 128, 129, 130, 131, 132, 133, 134, 135, 136, 137, 138, 139, 140, 141, 142, 143, 144, 145] (by decide +kernel) (by decide +kernel)
set_option maxRecDepth 20000 in
theorem gX6_set_X2_push : GoodIn wsX6_set (wsV RX6 48 RX2 yX2_push wsX2_push) := goodIn_app (goodIn_of _ (by decide +kernel)) ggX6_set_X2_push
theorem dX6_set_0 : decode cX6_set 0 = .ok (.iload_n 1, 1) := by decide +kernel
theorem dX6_set_1 : decode cX6_set 1 = .ok (.ifCond .ne 23, 3) := by decide +kernel
theorem dX6_set_4 : decode cX6_set 4 = .ok (.iload_n 2, 1) := by decide +kernel
theorem dX6_set_5 : decode cX6_set 5 = .ok (.bipush 10, 2) := by decide +kernel
theorem dX6_set_7 : decode cX6_set 7 = .ok (.sipush 200, 3) := by decide +kernel
theorem dX6_set_10 : decode cX6_set 10 = .ok (.invokestatic 36, 3) := by decide +kernel
theorem dX6_set_13 : decode cX6_set 13 = .ok (.ifCond .ne 7, 3) := by decide +kernel
theorem dX6_set_16 : decode cX6_set 16 = .ok (.iconst 1, 1) := by decide +kernel
theorem dX6_set_17 : decode cX6_set 17 = .ok (.goto 28, 3) := by decide +kernel
theorem dX6_set_20 : decode cX6_set 20 = .ok (.iconst 0, 1) := by decide +kernel
theorem dX6_set_21 : decode cX6_set 21 = .ok (.goto 24, 3) := by decide +kernel
theorem dX6_set_24 : decode cX6_set 24 = .ok (.iload_n 1, 1) := by decide +kernel
theorem dX6_set_25 : decode cX6_set 25 = .ok (.iconst 1, 1) := by decide +kernel
theorem dX6_set_26 : decode cX6_set 26 = .ok (.if_icmp .ne 18, 3) := by decide +kernel
theorem dX6_set_29 : decode cX6_set 29 = .ok (.iload_n 2, 1) := by decide +kernel
theorem dX6_set_30 : decode cX6_set 30 = .ok (.iconst 0, 1) := by decide +kernel
theorem dX6_set_31 : decode cX6_set 31 = .ok (.sipush 9999, 3) := by decide +kernel
theorem dX6_set_34 : decode cX6_set 34 = .ok (.invokestatic 36, 3) := by decide +kernel
theorem dX6_set_37 : decode cX6_set 37 = .ok (.ifCond .ne 7, 3) := by decide +kernel
theorem dX6_set_40 : decode cX6_set 40 = .ok (.iconst 1, 1) := by decide +kernel
theorem dX6_set_41 : decode cX6_set 41 = .ok (.goto 4, 3) := by decide +kernel
theorem dX6_set_44 : decode cX6_set 44 = .ok (.iconst 0, 1) := by decide +kernel
theorem dX6_set_45 : decode cX6_set 45 = .ok (.istore_n 3, 1) := by decide +kernel
theorem dX6_set_46 : decode cX6_set 46 = .ok (.iload_n 3, 1) := by decide +kernel
theorem dX6_set_47 : decode cX6_set 47 = .ok (.ifCond .ne 6, 3) := by decide +kernel
theorem dX6_set_50 : decode cX6_set 50 = .ok (.ldc 41, 2) := by decide +kernel
theorem dX6_set_52 : decode cX6_set 52 = .ok (.ireturn, 1) := by decide +kernel
theorem dX6_set_53 : decode cX6_set 53 = .ok (.iload_n 1, 1) := by decide +kernel
theorem dX6_set_54 : decode cX6_set 54 = .ok (.ifCond .ne 13, 3) := by decide +kernel
theorem dX6_set_57 : decode cX6_set 57 = .ok (.aload_n 0, 1) := by decide +kernel
theorem dX6_set_58 : decode cX6_set 58 = .ok (.getfield 10, 3) := by decide +kernel
theorem dX6_set_61 : decode cX6_set 61 = .ok (.getfield 158, 3) := by decide +kernel
theorem dX6_set_64 : decode cX6_set 64 = .ok (.goto 10, 3) := by decide +kernel
theorem dX6_set_67 : decode cX6_set 67 = .ok (.aload_n 0, 1) := by decide +kernel
theorem dX6_set_68 : decode cX6_set 68 = .ok (.getfield 10, 3) := by decide +kernel
theorem dX6_set_71 : decode cX6_set 71 = .ok (.getfield 161, 3) := by decide +kernel
theorem dX6_set_74 : decode cX6_set 74 = .ok (.istore 4, 2) := by decide +kernel
theorem dX6_set_76 : decode cX6_set 76 = .ok (.iload_n 2, 1) := by decide +kernel
theorem dX6_set_77 : decode cX6_set 77 = .ok (.iload 4, 2) := by decide +kernel
theorem dX6_set_79 : decode cX6_set 79 = .ok (.if_icmp .ne 6, 3) := by decide +kernel
theorem dX6_set_82 : decode cX6_set 82 = .ok (.ldc 66, 2) := by decide +kernel
theorem dX6_set_84 : decode cX6_set 84 = .ok (.ireturn, 1) := by decide +kernel
theorem dX6_set_85 : decode cX6_set 85 = .ok (.aload_n 0, 1) := by decide +kernel
theorem dX6_set_86 : decode cX6_set 86 = .ok (.getfield 25, 3) := by decide +kernel
theorem dX6_set_89 : decode cX6_set 89 = .ok (.aload_n 0, 1) := by decide +kernel
theorem dX6_set_90 : decode cX6_set 90 = .ok (.getfield 10, 3) := by decide +kernel
theorem dX6_set_93 : decode cX6_set 93 = .ok (.invokevirtual 48, 3) := by decide +kernel
theorem dX6_set_96 : decode cX6_set 96 = .ok (.iload_n 1, 1) := by decide +kernel
theorem dX6_set_97 : decode cX6_set 97 = .ok (.ifCond .ne 14, 3) := by decide +kernel
theorem dX6_set_100 : decode cX6_set 100 = .ok (.aload_n 0, 1) := by decide +kernel
theorem dX6_set_101 : decode cX6_set 101 = .ok (.getfield 10, 3) := by decide +kernel
theorem dX6_set_104 : decode cX6_set 104 = .ok (.iload_n 2, 1) := by decide +kernel
theorem dX6_set_105 : decode cX6_set 105 = .ok (.putfield 158, 3) := by decide +kernel
theorem dX6_set_108 : decode cX6_set 108 = .ok (.goto 11, 3) := by decide +kernel
theorem dX6_set_111 : decode cX6_set 111 = .ok (.aload_n 0, 1) := by decide +kernel
theorem dX6_set_112 : decode cX6_set 112 = .ok (.getfield 10, 3) := by decide +kernel
theorem dX6_set_115 : decode cX6_set 115 = .ok (.iload_n 2, 1) := by decide +kernel
theorem dX6_set_116 : decode cX6_set 116 = .ok (.putfield 161, 3) := by decide +kernel
theorem dX6_set_119 : decode cX6_set 119 = .ok (.iload 4, 2) := by decide +kernel
theorem dX6_set_121 : decode cX6_set 121 = .ok (.ireturn, 1) := by decide +kernel
set_option maxRecDepth 20000 in
theorem ggX6_setSeed_X6_outside : GoodIn wsX6_setSeed wsX6_outside := goodIn_r _ [9] (by decide +kernel) (by decide +kernel)
set_option maxRecDepth 20000 in
theorem gX6_setSeed_X6_outside : GoodIn wsX6_setSeed (va_wsS RX6 36 yX6_outside wsX6_outside) := goodIn_app (goodIn_of _ (by decide +kernel)) ggX6_setSeed_X6_outside
set_option maxRecDepth 20000 in
theorem ggX6_setSeed_X2_push : GoodIn wsX6_setSeed wsX2_push := goodIn_r _ [14, 15, 16, 17, 18, 19, 13, 20, 21, 22, 23, 24, 25, 26, 27, 28, 29, 30, 31, 32, 33, 34, 35, 36, 37, 38, 39, 40, 41, 42, 43, 44, 45, 46, 47, 48, 49, 50, 51, 52, 53, 54, 55, 56, 57, 58, 59, 60, 61, 62, 63, 64, 65, 66, 67, 68, 69, 70, 71, 72, 73, 74, 75, 76, 77, 78, 79, 80, 81, 82, 83, 84, 85, 86, 87, 88, 89, 90, 91, 92, 93, 94, 95, 96, 97, 98, 99, 100, 123, 124, 107, 108, 109, 110, 111, 112, 113, 114, 115, 116, 117, 118, 119, 120, 121, 122, 125, 126, 127, 128, 129, 130, 131, 132, 133, 134, 135, 136, 137, 138, 139, 140, 141, 142, 143, 144] (by decide +kernel) (by decide +kernel)
set_option maxRecDepth 20000 in
theorem gX6_setSeed_X2_push : GoodIn wsX6_setSeed (wsV RX6 48 RX2 yX2_push wsX2_push) := goodIn_app (goodIn_of _ (by decide +kernel)) ggX6_setSeed_X2_push
theorem dX6_setSeed_0 : decode cX6_setSeed 0 = .ok (.iload_n 1, 1) := by decide +kernel
theorem dX6_setSeed_1 : decode cX6_setSeed 1 = .ok (.iconst 0, 1) := by decide +kernel
theorem dX6_setSeed_2 : decode cX6_setSeed 2 = .ok (.sipush 9999, 3) := by decide +kernel
theorem dX6_setSeed_5 : decode cX6_setSeed 5 = .ok (.invokestatic 36, 3) := by decide +kernel
theorem dX6_setSeed_8 : decode cX6_setSeed 8 = .ok (.ifCond .eq 6, 3) := by decide +kernel
theorem dX6_setSeed_11 : decode cX6_setSeed 11 = .ok (.ldc 41, 2) := by decide +kernel
theorem dX6_setSeed_13 : decode cX6_setSeed 13 = .ok (.ireturn, 1) := by decide +kernel
theorem dX6_setSeed_14 : decode cX6_setSeed 14 = .ok (.aload_n 0, 1) := by decide +kernel
theorem dX6_setSeed_15 : decode cX6_setSeed 15 = .ok (.getfield 10, 3) := by decide +kernel
theorem dX6_setSeed_18 : decode cX6_setSeed 18 = .ok (.getfield 164, 3) := by decide +kernel
theorem dX6_setSeed_21 : decode cX6_setSeed 21 = .ok (.istore_n 2, 1) := by decide +kernel
theorem dX6_setSeed_22 : decode cX6_setSeed 22 = .ok (.iload_n 1, 1) := by decide +kernel
theorem dX6_setSeed_23 : decode cX6_setSeed 23 = .ok (.iload_n 2, 1) := by decide +kernel
theorem dX6_setSeed_24 : decode cX6_setSeed 24 = .ok (.if_icmp .ne 6, 3) := by decide +kernel
theorem dX6_setSeed_27 : decode cX6_setSeed 27 = .ok (.ldc 66, 2) := by decide +kernel
theorem dX6_setSeed_29 : decode cX6_setSeed 29 = .ok (.ireturn, 1) := by decide +kernel
theorem dX6_setSeed_30 : decode cX6_setSeed 30 = .ok (.aload_n 0, 1) := by decide +kernel
theorem dX6_setSeed_31 : decode cX6_setSeed 31 = .ok (.getfield 25, 3) := by decide +kernel
theorem dX6_setSeed_34 : decode cX6_setSeed 34 = .ok (.aload_n 0, 1) := by decide +kernel
theorem dX6_setSeed_35 : decode cX6_setSeed 35 = .ok (.getfield 10, 3) := by decide +kernel
theorem dX6_setSeed_38 : decode cX6_setSeed 38 = .ok (.invokevirtual 48, 3) := by decide +kernel
theorem dX6_setSeed_41 : decode cX6_setSeed 41 = .ok (.aload_n 0, 1) := by decide +kernel
theorem dX6_setSeed_42 : decode cX6_setSeed 42 = .ok (.getfield 10, 3) := by decide +kernel
theorem dX6_setSeed_45 : decode cX6_setSeed 45 = .ok (.iload_n 1, 1) := by decide +kernel
theorem dX6_setSeed_46 : decode cX6_setSeed 46 = .ok (.putfield 164, 3) := by decide +kernel
theorem dX6_setSeed_49 : decode cX6_setSeed 49 = .ok (.iload_n 2, 1) := by decide +kernel
theorem dX6_setSeed_50 : decode cX6_setSeed 50 = .ok (.ireturn, 1) := by decide +kernel
set_option maxRecDepth 20000 in
theorem ggX6_type_X5_add : GoodIn wsX6_type wsX5_add := goodIn_r _ [8, 9, 10, 17, 18, 19, 20, 21, 22, 23] (by decide +kernel) (by decide +kernel)
set_option maxRecDepth 20000 in
theorem gX6_type_X5_add : GoodIn wsX6_type (wsV RX6 167 RX5 yX5_add wsX5_add) := goodIn_app (goodIn_of _ (by decide +kernel)) ggX6_type_X5_add
theorem dX6_type_0 : decode cX6_type 0 = .ok (.aload_n 0, 1) := by decide +kernel
theorem dX6_type_1 : decode cX6_type 1 = .ok (.getfield 32, 3) := by decide +kernel
theorem dX6_type_4 : decode cX6_type 4 = .ok (.iload_n 1, 1) := by decide +kernel
theorem dX6_type_5 : decode cX6_type 5 = .ok (.invokevirtual 167, 3) := by decide +kernel
theorem dX6_type_8 : decode cX6_type 8 = .ok (.ifCond .eq 13, 3) := by decide +kernel
theorem dX6_type_11 : decode cX6_type 11 = .ok (.aload_n 0, 1) := by decide +kernel
theorem dX6_type_12 : decode cX6_type 12 = .ok (.getfield 32, 3) := by decide +kernel
theorem dX6_type_15 : decode cX6_type 15 = .ok (.getfield 170, 3) := by decide +kernel
theorem dX6_type_18 : decode cX6_type 18 = .ok (.goto 5, 3) := by decide +kernel
theorem dX6_type_21 : decode cX6_type 21 = .ok (.ldc 46, 2) := by decide +kernel
theorem dX6_type_23 : decode cX6_type 23 = .ok (.ireturn, 1) := by decide +kernel
theorem dX6_clearText_0 : decode cX6_clearText 0 = .ok (.aload_n 0, 1) := by decide +kernel
theorem dX6_clearText_1 : decode cX6_clearText 1 = .ok (.getfield 32, 3) := by decide +kernel
theorem dX6_clearText_4 : decode cX6_clearText 4 = .ok (.getfield 170, 3) := by decide +kernel
theorem dX6_clearText_7 : decode cX6_clearText 7 = .ok (.istore_n 1, 1) := by decide +kernel
theorem dX6_clearText_8 : decode cX6_clearText 8 = .ok (.aload_n 0, 1) := by decide +kernel
theorem dX6_clearText_9 : decode cX6_clearText 9 = .ok (.getfield 32, 3) := by decide +kernel
theorem dX6_clearText_12 : decode cX6_clearText 12 = .ok (.iconst 0, 1) := by decide +kernel
theorem dX6_clearText_13 : decode cX6_clearText 13 = .ok (.putfield 170, 3) := by decide +kernel
theorem dX6_clearText_16 : decode cX6_clearText 16 = .ok (.iload_n 1, 1) := by decide +kernel
theorem dX6_clearText_17 : decode cX6_clearText 17 = .ok (.ireturn, 1) := by decide +kernel
set_option maxRecDepth 20000 in
theorem ggX6_undo_X2_takeLatest : GoodIn wsX6_undo wsX2_takeLatest := goodIn_r _ [9, 10, 11, 12, 13, 8, 14, 15, 98, 99] (by decide +kernel) (by decide +kernel)
set_option maxRecDepth 20000 in
theorem gX6_undo_X2_takeLatest : GoodIn wsX6_undo (wsV RX6 173 RX2 yX2_takeLatest wsX2_takeLatest) := goodIn_app (goodIn_of _ (by decide +kernel)) ggX6_undo_X2_takeLatest
set_option maxRecDepth 20000 in
theorem ggX6_undo_X4_copyFrom : GoodIn wsX6_undo wsX4_copyFrom := goodIn_r _ [20, 21, 22, 23, 24, 25, 19, 26, 27, 28, 29, 30, 31, 32, 33, 34, 35, 36, 37, 38, 39, 40, 41, 42, 43, 44, 45, 46, 47, 48, 49, 50, 51, 52, 53, 54, 55, 56, 57, 58, 59, 60, 61, 62, 63, 64, 65, 66, 67, 68, 69, 70, 71, 72, 73, 74, 75, 76, 77, 78, 79, 80, 81, 82, 83, 84, 85, 86, 87, 88, 89, 90, 91, 100, 101, 102, 103, 104, 105, 106, 107, 108, 109, 110, 111, 112, 113, 114, 115, 116, 117, 118, 119, 120, 121, 122, 123, 124, 125, 126, 127, 128, 129, 130, 131, 132, 133, 134, 135] (by decide +kernel) (by decide +kernel)
set_option maxRecDepth 20000 in
theorem gX6_undo_X4_copyFrom : GoodIn wsX6_undo (wsV RX6 116 RX4 yX4_copyFrom wsX4_copyFrom) := goodIn_app (goodIn_of _ (by decide +kernel)) ggX6_undo_X4_copyFrom
theorem dX6_undo_0 : decode cX6_undo 0 = .ok (.aload_n 0, 1) := by decide +kernel
theorem dX6_undo_1 : decode cX6_undo 1 = .ok (.getfield 25, 3) := by decide +kernel
theorem dX6_undo_4 : decode cX6_undo 4 = .ok (.invokevirtual 173, 3) := by decide +kernel
theorem dX6_undo_7 : decode cX6_undo 7 = .ok (.astore_n 1, 1) := by decide +kernel
theorem dX6_undo_8 : decode cX6_undo 8 = .ok (.aload_n 1, 1) := by decide +kernel
theorem dX6_undo_9 : decode cX6_undo 9 = .ok (.ifnonnull 6, 3) := by decide +kernel
theorem dX6_undo_12 : decode cX6_undo 12 = .ok (.ldc 66, 2) := by decide +kernel
theorem dX6_undo_14 : decode cX6_undo 14 = .ok (.ireturn, 1) := by decide +kernel
theorem dX6_undo_15 : decode cX6_undo 15 = .ok (.aload_n 0, 1) := by decide +kernel
theorem dX6_undo_16 : decode cX6_undo 16 = .ok (.getfield 10, 3) := by decide +kernel
theorem dX6_undo_19 : decode cX6_undo 19 = .ok (.aload_n 1, 1) := by decide +kernel
theorem dX6_undo_20 : decode cX6_undo 20 = .ok (.invokevirtual 116, 3) := by decide +kernel
theorem dX6_undo_23 : decode cX6_undo 23 = .ok (.aload_n 0, 1) := by decide +kernel
theorem dX6_undo_24 : decode cX6_undo 24 = .ok (.getfield 25, 3) := by decide +kernel
theorem dX6_undo_27 : decode cX6_undo 27 = .ok (.getfield 177, 3) := by decide +kernel
theorem dX6_undo_30 : decode cX6_undo 30 = .ok (.ireturn, 1) := by decide +kernel
set_option maxRecDepth 20000 in
theorem ggX6_keep_X4_copyFrom : GoodIn wsX6_keep wsX4_copyFrom := goodIn_r _ [9, 10, 11, 12, 13, 14, 8, 15, 16, 17, 18, 19, 20, 21, 22, 23, 24, 25, 26, 27, 28, 29, 30, 31, 32, 33, 34, 35, 36, 37, 38, 39, 40, 41, 42, 43, 44, 45, 46, 47, 48, 49, 50, 51, 52, 53, 54, 55, 56, 57, 58, 59, 60, 61, 62, 63, 64, 65, 66, 67, 68, 69, 70, 71, 72, 73, 74, 75, 76, 77, 78, 79, 80, 87, 88, 89, 90, 91, 92, 93, 94, 95, 96, 97, 98, 99, 100, 101, 102, 103, 104, 105, 106, 107, 108, 109, 110, 111, 112, 113, 114, 115, 116, 117, 118, 119, 120, 121, 122] (by decide +kernel) (by decide +kernel)
set_option maxRecDepth 20000 in
theorem gX6_keep_X4_copyFrom : GoodIn wsX6_keep (wsV RX6 116 RX4 yX4_copyFrom wsX4_copyFrom) := goodIn_app (goodIn_of _ (by decide +kernel)) ggX6_keep_X4_copyFrom
theorem dX6_keep_0 : decode cX6_keep 0 = .ok (.aload_n 0, 1) := by decide +kernel
theorem dX6_keep_1 : decode cX6_keep 1 = .ok (.getfield 19, 3) := by decide +kernel
theorem dX6_keep_4 : decode cX6_keep 4 = .ok (.aload_n 0, 1) := by decide +kernel
theorem dX6_keep_5 : decode cX6_keep 5 = .ok (.getfield 10, 3) := by decide +kernel
theorem dX6_keep_8 : decode cX6_keep 8 = .ok (.invokevirtual 116, 3) := by decide +kernel
theorem dX6_keep_11 : decode cX6_keep 11 = .ok (.aload_n 0, 1) := by decide +kernel
theorem dX6_keep_12 : decode cX6_keep 12 = .ok (.iconst 1, 1) := by decide +kernel
theorem dX6_keep_13 : decode cX6_keep 13 = .ok (.putfield 180, 3) := by decide +kernel
theorem dX6_keep_16 : decode cX6_keep 16 = .ok (.aload_n 0, 1) := by decide +kernel
theorem dX6_keep_17 : decode cX6_keep 17 = .ok (.getfield 10, 3) := by decide +kernel
theorem dX6_keep_20 : decode cX6_keep 20 = .ok (.getfield 183, 3) := by decide +kernel
theorem dX6_keep_23 : decode cX6_keep 23 = .ok (.ireturn, 1) := by decide +kernel
set_option maxRecDepth 20000 in
theorem ggX6_restore_X2_push : GoodIn wsX6_restore wsX2_push := goodIn_r _ [11, 12, 13, 14, 15, 16, 10, 17, 18, 19, 20, 21, 22, 23, 24, 25, 26, 27, 28, 29, 30, 31, 32, 33, 34, 35, 36, 37, 38, 39, 40, 41, 42, 43, 44, 45, 46, 47, 48, 49, 50, 51, 52, 53, 54, 55, 56, 57, 58, 59, 60, 61, 62, 63, 64, 65, 66, 67, 68, 69, 70, 71, 72, 73, 74, 75, 76, 77, 78, 79, 80, 81, 82, 83, 84, 85, 86, 87, 88, 89, 90, 91, 92, 93, 94, 95, 96, 97, 121, 122, 105, 106, 107, 108, 109, 110, 111, 112, 113, 114, 115, 116, 117, 118, 119, 120, 123, 124, 125, 126, 127, 128, 129, 130, 131, 132, 133, 134, 135, 136, 137, 138, 139, 140, 141, 142] (by decide +kernel) (by decide +kernel)
set_option maxRecDepth 20000 in
theorem gX6_restore_X2_push : GoodIn wsX6_restore (wsV RX6 48 RX2 yX2_push wsX2_push) := goodIn_app (goodIn_of _ (by decide +kernel)) ggX6_restore_X2_push
set_option maxRecDepth 20000 in
theorem ggX6_restore_X4_copyFrom : GoodIn wsX6_restore wsX4_copyFrom := goodIn_r _ [26, 27, 28, 29, 30, 31, 25, 32, 33, 34, 35, 36, 37, 38, 39, 40, 41, 42, 43, 44, 45, 46, 47, 48, 49, 50, 51, 52, 53, 54, 55, 56, 57, 58, 59, 60, 61, 62, 63, 64, 65, 66, 67, 68, 69, 70, 71, 72, 73, 74, 75, 76, 77, 78, 79, 80, 81, 82, 83, 84, 85, 86, 87, 88, 89, 90, 91, 92, 93, 94, 95, 96, 97, 105, 106, 107, 108, 109, 110, 111, 112, 113, 114, 115, 116, 117, 118, 119, 120, 123, 124, 125, 126, 127, 128, 129, 130, 131, 132, 133, 134, 135, 136, 137, 138, 139, 140, 141, 142] (by decide +kernel) (by decide +kernel)
set_option maxRecDepth 20000 in
theorem gX6_restore_X4_copyFrom : GoodIn wsX6_restore (wsV RX6 116 RX4 yX4_copyFrom wsX4_copyFrom) := goodIn_app (goodIn_of _ (by decide +kernel)) ggX6_restore_X4_copyFrom
theorem dX6_restore_0 : decode cX6_restore 0 = .ok (.aload_n 0, 1) := by decide +kernel
theorem dX6_restore_1 : decode cX6_restore 1 = .ok (.getfield 180, 3) := by decide +kernel
theorem dX6_restore_4 : decode cX6_restore 4 = .ok (.ifCond .ne 6, 3) := by decide +kernel
theorem dX6_restore_7 : decode cX6_restore 7 = .ok (.ldc 66, 2) := by decide +kernel
theorem dX6_restore_9 : decode cX6_restore 9 = .ok (.ireturn, 1) := by decide +kernel
theorem dX6_restore_10 : decode cX6_restore 10 = .ok (.aload_n 0, 1) := by decide +kernel
theorem dX6_restore_11 : decode cX6_restore 11 = .ok (.getfield 25, 3) := by decide +kernel
theorem dX6_restore_14 : decode cX6_restore 14 = .ok (.aload_n 0, 1) := by decide +kernel
theorem dX6_restore_15 : decode cX6_restore 15 = .ok (.getfield 10, 3) := by decide +kernel
theorem dX6_restore_18 : decode cX6_restore 18 = .ok (.invokevirtual 48, 3) := by decide +kernel
theorem dX6_restore_21 : decode cX6_restore 21 = .ok (.aload_n 0, 1) := by decide +kernel
theorem dX6_restore_22 : decode cX6_restore 22 = .ok (.getfield 10, 3) := by decide +kernel
theorem dX6_restore_25 : decode cX6_restore 25 = .ok (.aload_n 0, 1) := by decide +kernel
theorem dX6_restore_26 : decode cX6_restore 26 = .ok (.getfield 19, 3) := by decide +kernel
theorem dX6_restore_29 : decode cX6_restore 29 = .ok (.invokevirtual 116, 3) := by decide +kernel
theorem dX6_restore_32 : decode cX6_restore 32 = .ok (.aload_n 0, 1) := by decide +kernel
theorem dX6_restore_33 : decode cX6_restore 33 = .ok (.getfield 10, 3) := by decide +kernel
theorem dX6_restore_36 : decode cX6_restore 36 = .ok (.getfield 183, 3) := by decide +kernel
theorem dX6_restore_39 : decode cX6_restore 39 = .ok (.ireturn, 1) := by decide +kernel
set_option maxRecDepth 20000 in
theorem ggX6_farmer_X4_farmerAt : GoodIn wsX6_farmer wsX4_farmerAt := goodIn_r _ [14, 15, 39, 40, 41, 42, 43, 44, 45, 46, 47, 48, 49, 50, 51, 52, 53, 54] (by decide +kernel) (by decide +kernel)
set_option maxRecDepth 20000 in
theorem gX6_farmer_X4_farmerAt : GoodIn wsX6_farmer (wsV RX6 56 RX4 yX4_farmerAt wsX4_farmerAt) := goodIn_app (goodIn_of _ (by decide +kernel)) ggX6_farmer_X4_farmerAt
set_option maxRecDepth 20000 in
theorem ggX6_farmer_X4_standingOf : GoodIn wsX6_farmer wsX4_standingOf := goodIn_r _ [19, 20, 21, 22, 23, 24, 13, 25, 26, 39, 40, 41, 42, 43, 44, 45, 46, 47, 48, 49, 50, 51, 52, 53, 54, 55, 56, 57, 58, 59, 60] (by decide +kernel) (by decide +kernel)
set_option maxRecDepth 20000 in
theorem gX6_farmer_X4_standingOf : GoodIn wsX6_farmer (wsV RX6 187 RX4 yX4_standingOf wsX4_standingOf) := goodIn_app (goodIn_of _ (by decide +kernel)) ggX6_farmer_X4_standingOf
theorem dX6_farmer_0 : decode cX6_farmer 0 = .ok (.aload_n 0, 1) := by decide +kernel
theorem dX6_farmer_1 : decode cX6_farmer 1 = .ok (.getfield 10, 3) := by decide +kernel
theorem dX6_farmer_4 : decode cX6_farmer 4 = .ok (.iload_n 1, 1) := by decide +kernel
theorem dX6_farmer_5 : decode cX6_farmer 5 = .ok (.invokevirtual 56, 3) := by decide +kernel
theorem dX6_farmer_8 : decode cX6_farmer 8 = .ok (.astore_n 3, 1) := by decide +kernel
theorem dX6_farmer_9 : decode cX6_farmer 9 = .ok (.aload_n 3, 1) := by decide +kernel
theorem dX6_farmer_10 : decode cX6_farmer 10 = .ok (.ifnonnull 6, 3) := by decide +kernel
theorem dX6_farmer_13 : decode cX6_farmer 13 = .ok (.ldc 40, 2) := by decide +kernel
theorem dX6_farmer_15 : decode cX6_farmer 15 = .ok (.ireturn, 1) := by decide +kernel
theorem dX6_farmer_16 : decode cX6_farmer 16 = .ok (.iload_n 2, 1) := by decide +kernel
theorem dX6_farmer_17 : decode cX6_farmer 17 = .ok (.tableswitch 82 0 6 #[43, 48, 53, 58, 63, 72, 77], 43) := by decide +kernel
theorem dX6_farmer_60 : decode cX6_farmer 60 = .ok (.aload_n 3, 1) := by decide +kernel
theorem dX6_farmer_61 : decode cX6_farmer 61 = .ok (.getfield 98, 3) := by decide +kernel
theorem dX6_farmer_64 : decode cX6_farmer 64 = .ok (.ireturn, 1) := by decide +kernel
theorem dX6_farmer_65 : decode cX6_farmer 65 = .ok (.aload_n 3, 1) := by decide +kernel
theorem dX6_farmer_66 : decode cX6_farmer 66 = .ok (.getfield 60, 3) := by decide +kernel
theorem dX6_farmer_69 : decode cX6_farmer 69 = .ok (.ireturn, 1) := by decide +kernel
theorem dX6_farmer_70 : decode cX6_farmer 70 = .ok (.aload_n 3, 1) := by decide +kernel
theorem dX6_farmer_71 : decode cX6_farmer 71 = .ok (.getfield 186, 3) := by decide +kernel
theorem dX6_farmer_74 : decode cX6_farmer 74 = .ok (.ireturn, 1) := by decide +kernel
theorem dX6_farmer_75 : decode cX6_farmer 75 = .ok (.aload_n 3, 1) := by decide +kernel
theorem dX6_farmer_76 : decode cX6_farmer 76 = .ok (.getfield 81, 3) := by decide +kernel
theorem dX6_farmer_79 : decode cX6_farmer 79 = .ok (.ireturn, 1) := by decide +kernel
theorem dX6_farmer_80 : decode cX6_farmer 80 = .ok (.aload_n 0, 1) := by decide +kernel
theorem dX6_farmer_81 : decode cX6_farmer 81 = .ok (.getfield 10, 3) := by decide +kernel
theorem dX6_farmer_84 : decode cX6_farmer 84 = .ok (.iload_n 1, 1) := by decide +kernel
theorem dX6_farmer_85 : decode cX6_farmer 85 = .ok (.invokevirtual 187, 3) := by decide +kernel
theorem dX6_farmer_88 : decode cX6_farmer 88 = .ok (.ireturn, 1) := by decide +kernel
theorem dX6_farmer_89 : decode cX6_farmer 89 = .ok (.aload_n 3, 1) := by decide +kernel
theorem dX6_farmer_90 : decode cX6_farmer 90 = .ok (.getfield 190, 3) := by decide +kernel
theorem dX6_farmer_93 : decode cX6_farmer 93 = .ok (.ireturn, 1) := by decide +kernel
theorem dX6_farmer_94 : decode cX6_farmer 94 = .ok (.aload_n 3, 1) := by decide +kernel
theorem dX6_farmer_95 : decode cX6_farmer 95 = .ok (.getfield 193, 3) := by decide +kernel
theorem dX6_farmer_98 : decode cX6_farmer 98 = .ok (.ireturn, 1) := by decide +kernel
theorem dX6_farmer_99 : decode cX6_farmer 99 = .ok (.ldc 41, 2) := by decide +kernel
theorem dX6_farmer_101 : decode cX6_farmer 101 = .ok (.ireturn, 1) := by decide +kernel
set_option maxRecDepth 20000 in
theorem ggX6_machine_X4_machineAt : GoodIn wsX6_machine wsX4_machineAt := goodIn_r _ [15, 16, 17, 44, 45, 46, 47, 48, 49, 50, 51, 52, 53, 54, 55, 56, 57, 58, 59] (by decide +kernel) (by decide +kernel)
set_option maxRecDepth 20000 in
theorem gX6_machine_X4_machineAt : GoodIn wsX6_machine (wsV RX6 67 RX4 yX4_machineAt wsX4_machineAt) := goodIn_app (goodIn_of _ (by decide +kernel)) ggX6_machine_X4_machineAt
set_option maxRecDepth 20000 in
theorem ggX6_machine_X3_hoursSinceMended : GoodIn wsX6_machine wsX3_hoursSinceMended := goodIn_r _ [22, 23, 36, 37, 38, 39, 40, 41, 42, 43] (by decide +kernel) (by decide +kernel)
set_option maxRecDepth 20000 in
theorem gX6_machine_X3_hoursSinceMended : GoodIn wsX6_machine (wsV RX6 199 RX3 yX3_hoursSinceMended wsX3_hoursSinceMended) := goodIn_app (goodIn_of _ (by decide +kernel)) ggX6_machine_X3_hoursSinceMended
set_option maxRecDepth 20000 in
theorem ggX6_machine_X6_bitsOf : GoodIn wsX6_machine wsX6_bitsOf := goodIn_r _ [27, 28, 29] (by decide +kernel) (by decide +kernel)
set_option maxRecDepth 20000 in
theorem gX6_machine_X6_bitsOf : GoodIn wsX6_machine (va_wsS RX6 208 yX6_bitsOf wsX6_bitsOf) := goodIn_app (goodIn_of _ (by decide +kernel)) ggX6_machine_X6_bitsOf
theorem dX6_machine_0 : decode cX6_machine 0 = .ok (.aload_n 0, 1) := by decide +kernel
theorem dX6_machine_1 : decode cX6_machine 1 = .ok (.getfield 10, 3) := by decide +kernel
theorem dX6_machine_4 : decode cX6_machine 4 = .ok (.iload_n 1, 1) := by decide +kernel
theorem dX6_machine_5 : decode cX6_machine 5 = .ok (.invokevirtual 67, 3) := by decide +kernel
theorem dX6_machine_8 : decode cX6_machine 8 = .ok (.astore_n 3, 1) := by decide +kernel
theorem dX6_machine_9 : decode cX6_machine 9 = .ok (.aload_n 3, 1) := by decide +kernel
theorem dX6_machine_10 : decode cX6_machine 10 = .ok (.ifnonnull 6, 3) := by decide +kernel
theorem dX6_machine_13 : decode cX6_machine 13 = .ok (.ldc 40, 2) := by decide +kernel
theorem dX6_machine_15 : decode cX6_machine 15 = .ok (.ireturn, 1) := by decide +kernel
theorem dX6_machine_16 : decode cX6_machine 16 = .ok (.iload_n 2, 1) := by decide +kernel
theorem dX6_machine_17 : decode cX6_machine 17 = .ok (.tableswitch 98 0 7 #[47, 52, 57, 70, 75, 80, 85, 93], 47) := by decide +kernel
theorem dX6_machine_64 : decode cX6_machine 64 = .ok (.aload_n 3, 1) := by decide +kernel
theorem dX6_machine_65 : decode cX6_machine 65 = .ok (.getfield 196, 3) := by decide +kernel
theorem dX6_machine_68 : decode cX6_machine 68 = .ok (.ireturn, 1) := by decide +kernel
theorem dX6_machine_69 : decode cX6_machine 69 = .ok (.aload_n 3, 1) := by decide +kernel
theorem dX6_machine_70 : decode cX6_machine 70 = .ok (.getfield 71, 3) := by decide +kernel
theorem dX6_machine_73 : decode cX6_machine 73 = .ok (.ireturn, 1) := by decide +kernel
theorem dX6_machine_74 : decode cX6_machine 74 = .ok (.aload_n 3, 1) := by decide +kernel
theorem dX6_machine_75 : decode cX6_machine 75 = .ok (.getfield 90, 3) := by decide +kernel
theorem dX6_machine_78 : decode cX6_machine 78 = .ok (.ifCond .eq 7, 3) := by decide +kernel
theorem dX6_machine_81 : decode cX6_machine 81 = .ok (.iconst 1, 1) := by decide +kernel
theorem dX6_machine_82 : decode cX6_machine 82 = .ok (.goto 4, 3) := by decide +kernel
theorem dX6_machine_85 : decode cX6_machine 85 = .ok (.iconst 0, 1) := by decide +kernel
theorem dX6_machine_86 : decode cX6_machine 86 = .ok (.ireturn, 1) := by decide +kernel
theorem dX6_machine_87 : decode cX6_machine 87 = .ok (.aload_n 3, 1) := by decide +kernel
theorem dX6_machine_88 : decode cX6_machine 88 = .ok (.invokevirtual 199, 3) := by decide +kernel
theorem dX6_machine_91 : decode cX6_machine 91 = .ok (.ireturn, 1) := by decide +kernel
theorem dX6_machine_92 : decode cX6_machine 92 = .ok (.aload_n 3, 1) := by decide +kernel
theorem dX6_machine_93 : decode cX6_machine 93 = .ok (.getfield 202, 3) := by decide +kernel
theorem dX6_machine_96 : decode cX6_machine 96 = .ok (.ireturn, 1) := by decide +kernel
theorem dX6_machine_97 : decode cX6_machine 97 = .ok (.aload_n 3, 1) := by decide +kernel
theorem dX6_machine_98 : decode cX6_machine 98 = .ok (.getfield 205, 3) := by decide +kernel
theorem dX6_machine_101 : decode cX6_machine 101 = .ok (.ireturn, 1) := by decide +kernel
theorem dX6_machine_102 : decode cX6_machine 102 = .ok (.aload_n 3, 1) := by decide +kernel
theorem dX6_machine_103 : decode cX6_machine 103 = .ok (.getfield 76, 3) := by decide +kernel
theorem dX6_machine_106 : decode cX6_machine 106 = .ok (.invokestatic 208, 3) := by decide +kernel
theorem dX6_machine_109 : decode cX6_machine 109 = .ok (.ireturn, 1) := by decide +kernel
theorem dX6_machine_110 : decode cX6_machine 110 = .ok (.aload_n 3, 1) := by decide +kernel
theorem dX6_machine_111 : decode cX6_machine 111 = .ok (.getfield 212, 3) := by decide +kernel
theorem dX6_machine_114 : decode cX6_machine 114 = .ok (.ireturn, 1) := by decide +kernel
theorem dX6_machine_115 : decode cX6_machine 115 = .ok (.ldc 41, 2) := by decide +kernel
theorem dX6_machine_117 : decode cX6_machine 117 = .ok (.ireturn, 1) := by decide +kernel
set_option maxRecDepth 20000 in
theorem ggX6_fuel_X4_machineAt : GoodIn wsX6_fuel wsX4_machineAt := goodIn_r _ [8, 9, 10, 25, 26, 27, 28, 29, 30, 31, 32, 33, 34, 35, 36, 37, 38, 39, 40] (by decide +kernel) (by decide +kernel)
set_option maxRecDepth 20000 in
theorem gX6_fuel_X4_machineAt : GoodIn wsX6_fuel (wsV RX6 67 RX4 yX4_machineAt wsX4_machineAt) := goodIn_app (goodIn_of _ (by decide +kernel)) ggX6_fuel_X4_machineAt
theorem dX6_fuel_0 : decode cX6_fuel 0 = .ok (.aload_n 0, 1) := by decide +kernel
theorem dX6_fuel_1 : decode cX6_fuel 1 = .ok (.getfield 10, 3) := by decide +kernel
theorem dX6_fuel_4 : decode cX6_fuel 4 = .ok (.iload_n 1, 1) := by decide +kernel
theorem dX6_fuel_5 : decode cX6_fuel 5 = .ok (.invokevirtual 67, 3) := by decide +kernel
theorem dX6_fuel_8 : decode cX6_fuel 8 = .ok (.astore_n 2, 1) := by decide +kernel
theorem dX6_fuel_9 : decode cX6_fuel 9 = .ok (.aload_n 2, 1) := by decide +kernel
theorem dX6_fuel_10 : decode cX6_fuel 10 = .ok (.ifnonnull 8, 3) := by decide +kernel
theorem dX6_fuel_13 : decode cX6_fuel 13 = .ok (.ldc 215, 2) := by decide +kernel
theorem dX6_fuel_15 : decode cX6_fuel 15 = .ok (.goto 7, 3) := by decide +kernel
theorem dX6_fuel_18 : decode cX6_fuel 18 = .ok (.aload_n 2, 1) := by decide +kernel
theorem dX6_fuel_19 : decode cX6_fuel 19 = .ok (.getfield 76, 3) := by decide +kernel
theorem dX6_fuel_22 : decode cX6_fuel 22 = .ok (.freturn, 1) := by decide +kernel
set_option maxRecDepth 20000 in
theorem ggX6_hours_X4_machineAt : GoodIn wsX6_hours wsX4_machineAt := goodIn_r _ [7, 8, 9, 26, 27, 28, 29, 30, 31, 32, 33, 34, 35, 36, 37, 38, 39, 40, 41] (by decide +kernel) (by decide +kernel)
set_option maxRecDepth 20000 in
theorem gX6_hours_X4_machineAt : GoodIn wsX6_hours (wsV RX6 67 RX4 yX4_machineAt wsX4_machineAt) := goodIn_app (goodIn_of _ (by decide +kernel)) ggX6_hours_X4_machineAt
set_option maxRecDepth 20000 in
theorem ggX6_hours_X6_outside : GoodIn wsX6_hours wsX6_outside := goodIn_r _ [13] (by decide +kernel) (by decide +kernel)
set_option maxRecDepth 20000 in
theorem gX6_hours_X6_outside : GoodIn wsX6_hours (va_wsS RX6 36 yX6_outside wsX6_outside) := goodIn_app (goodIn_of _ (by decide +kernel)) ggX6_hours_X6_outside
set_option maxRecDepth 20000 in
theorem ggX6_hours_X3_hoursOf : GoodIn wsX6_hours wsX3_hoursOf := goodIn_r _ [18, 19, 42, 43, 44, 45, 46, 47, 48, 49] (by decide +kernel) (by decide +kernel)
set_option maxRecDepth 20000 in
theorem gX6_hours_X3_hoursOf : GoodIn wsX6_hours (wsV RX6 216 RX3 yX3_hoursOf wsX3_hoursOf) := goodIn_app (goodIn_of _ (by decide +kernel)) ggX6_hours_X3_hoursOf
theorem dX6_hours_0 : decode cX6_hours 0 = .ok (.aload_n 0, 1) := by decide +kernel
theorem dX6_hours_1 : decode cX6_hours 1 = .ok (.getfield 10, 3) := by decide +kernel
theorem dX6_hours_4 : decode cX6_hours 4 = .ok (.iload_n 1, 1) := by decide +kernel
theorem dX6_hours_5 : decode cX6_hours 5 = .ok (.invokevirtual 67, 3) := by decide +kernel
theorem dX6_hours_8 : decode cX6_hours 8 = .ok (.astore_n 3, 1) := by decide +kernel
theorem dX6_hours_9 : decode cX6_hours 9 = .ok (.aload_n 3, 1) := by decide +kernel
theorem dX6_hours_10 : decode cX6_hours 10 = .ok (.ifnull 12, 3) := by decide +kernel
theorem dX6_hours_13 : decode cX6_hours 13 = .ok (.iload_n 2, 1) := by decide +kernel
theorem dX6_hours_14 : decode cX6_hours 14 = .ok (.iconst 0, 1) := by decide +kernel
theorem dX6_hours_15 : decode cX6_hours 15 = .ok (.iconst 5, 1) := by decide +kernel
theorem dX6_hours_16 : decode cX6_hours 16 = .ok (.invokestatic 36, 3) := by decide +kernel
theorem dX6_hours_19 : decode cX6_hours 19 = .ok (.ifCond .eq 6, 3) := by decide +kernel
theorem dX6_hours_22 : decode cX6_hours 22 = .ok (.ldc 40, 2) := by decide +kernel
theorem dX6_hours_24 : decode cX6_hours 24 = .ok (.ireturn, 1) := by decide +kernel
theorem dX6_hours_25 : decode cX6_hours 25 = .ok (.aload_n 3, 1) := by decide +kernel
theorem dX6_hours_26 : decode cX6_hours 26 = .ok (.iload_n 2, 1) := by decide +kernel
theorem dX6_hours_27 : decode cX6_hours 27 = .ok (.invokevirtual 216, 3) := by decide +kernel
theorem dX6_hours_30 : decode cX6_hours 30 = .ok (.ireturn, 1) := by decide +kernel
