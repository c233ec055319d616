set_option maxRecDepth 20000 in
theorem ggX7_does_X7_ofBooking : GoodIn wsX7_does wsX7_ofBooking := goodIn_r _ [6, 1, 70, 71, 72, 73, 74, 75, 76, 77, 78, 79, 80, 81, 82] (by decide +kernel) (by decide +kernel)
set_option maxRecDepth 20000 in
theorem gX7_does_X7_ofBooking : GoodIn wsX7_does (wsV RX7 36 RX7 yX7_ofBooking wsX7_ofBooking) := goodIn_app (goodIn_of _ (by decide +kernel)) ggX7_does_X7_ofBooking
set_option maxRecDepth 20000 in
theorem ggX7_does_X7_charge : GoodIn wsX7_does wsX7_charge := goodIn_r _ [10, 11, 12, 13, 5, 14, 1, 15, 16, 17, 18, 19, 20, 21, 22, 23, 24, 25, 26, 27, 70, 71, 72, 73, 74, 75, 76, 77, 78, 79, 80, 81, 82] (by decide +kernel) (by decide +kernel)
set_option maxRecDepth 20000 in
theorem gX7_does_X7_charge : GoodIn wsX7_does (wsV RX7 87 RX7 yX7_charge wsX7_charge) := goodIn_app (goodIn_of _ (by decide +kernel)) ggX7_does_X7_charge
set_option maxRecDepth 20000 in
theorem ggX7_does_X7_fuelOf : GoodIn wsX7_does wsX7_fuelOf := goodIn_r _ [31, 32, 33, 34, 35, 11, 12, 13, 5, 14, 1, 70, 71, 72, 73, 74, 75, 76, 77, 78, 79, 80, 81, 82] (by decide +kernel) (by decide +kernel)
set_option maxRecDepth 20000 in
theorem gX7_does_X7_fuelOf : GoodIn wsX7_does (wsV RX7 77 RX7 yX7_fuelOf wsX7_fuelOf) := goodIn_app (goodIn_of _ (by decide +kernel)) ggX7_does_X7_fuelOf
set_option maxRecDepth 20000 in
theorem ggX7_does_X7_wants : GoodIn wsX7_does wsX7_wants := goodIn_r _ [39, 40, 41, 42, 11, 12, 13, 5, 14, 1, 70, 71, 72, 73, 74, 75, 76, 77, 78, 79, 80, 81, 82] (by decide +kernel) (by decide +kernel)
set_option maxRecDepth 20000 in
theorem gX7_does_X7_wants : GoodIn wsX7_does (wsV RX7 80 RX7 yX7_wants wsX7_wants) := goodIn_app (goodIn_of _ (by decide +kernel)) ggX7_does_X7_wants
set_option maxRecDepth 20000 in
theorem ggX7_does_Jxf58ca_floatToIntBits_5c35a : GoodIn wsX7_does wsJxf58ca_floatToIntBits_5c35a := goodIn_r _ [46, 47, 48, 49, 35, 50, 51, 52, 45, 53] (by decide +kernel) (by decide +kernel)
set_option maxRecDepth 20000 in
theorem gX7_does_Jxf58ca_floatToIntBits_5c35a : GoodIn wsX7_does (va_wsS RX7 91 yJxf58ca_floatToIntBits_5c35a wsJxf58ca_floatToIntBits_5c35a) := goodIn_app (goodIn_of _ (by decide +kernel)) ggX7_does_Jxf58ca_floatToIntBits_5c35a
set_option maxRecDepth 20000 in
theorem ggX7_does_X7_layMachine : GoodIn wsX7_does wsX7_layMachine := goodIn_r _ [57, 1, 70, 71, 72, 73, 74, 75, 76, 77, 78, 79, 80, 81, 82] (by decide +kernel) (by decide +kernel)
set_option maxRecDepth 20000 in
theorem gX7_does_X7_layMachine : GoodIn wsX7_does (wsV RX7 95 RX7 yX7_layMachine wsX7_layMachine) := goodIn_app (goodIn_of _ (by decide +kernel)) ggX7_does_X7_layMachine
set_option maxRecDepth 20000 in
theorem ggX7_does_X7_addFarmer : GoodIn wsX7_does wsX7_addFarmer := goodIn_r _ [61, 1, 70, 71, 72, 73, 74, 75, 76, 77, 78, 79, 80, 81, 82] (by decide +kernel) (by decide +kernel)
set_option maxRecDepth 20000 in
theorem gX7_does_X7_addFarmer : GoodIn wsX7_does (wsV RX7 98 RX7 yX7_addFarmer wsX7_addFarmer) := goodIn_app (goodIn_of _ (by decide +kernel)) ggX7_does_X7_addFarmer
set_option maxRecDepth 20000 in
theorem ggX7_does_X7_ofMachine : GoodIn wsX7_does wsX7_ofMachine := goodIn_r _ [14, 1, 70, 71, 72, 73, 74, 75, 76, 77, 78, 79, 80, 81, 82] (by decide +kernel) (by decide +kernel)
set_option maxRecDepth 20000 in
theorem gX7_does_X7_ofMachine : GoodIn wsX7_does (wsV RX7 51 RX7 yX7_ofMachine wsX7_ofMachine) := goodIn_app (goodIn_of _ (by decide +kernel)) ggX7_does_X7_ofMachine
set_option maxRecDepth 20000 in
theorem ggX7_does_X7_dropsBooking : GoodIn wsX7_does wsX7_dropsBooking := goodIn_r _ [65, 1, 66, 67, 68, 5, 69, 70, 71, 72, 73, 74, 75, 76, 77, 78, 79, 80, 81, 82] (by decide +kernel) (by decide +kernel)
set_option maxRecDepth 20000 in
theorem gX7_does_X7_dropsBooking : GoodIn wsX7_does (wsV RX7 101 RX7 yX7_dropsBooking wsX7_dropsBooking) := goodIn_app (goodIn_of _ (by decide +kernel)) ggX7_does_X7_dropsBooking
theorem dX7_does_0 : decode cX7_does 0 = .ok (.aload_n 0, 1) := by decide +kernel
theorem dX7_does_1 : decode cX7_does 1 = .ok (.iload_n 1, 1) := by decide +kernel
theorem dX7_does_2 : decode cX7_does 2 = .ok (.iconst 1, 1) := by decide +kernel
theorem dX7_does_3 : decode cX7_does 3 = .ok (.invokevirtual 36, 3) := by decide +kernel
theorem dX7_does_6 : decode cX7_does 6 = .ok (.istore_n 2, 1) := by decide +kernel
theorem dX7_does_7 : decode cX7_does 7 = .ok (.aload_n 0, 1) := by decide +kernel
theorem dX7_does_8 : decode cX7_does 8 = .ok (.iload_n 1, 1) := by decide +kernel
theorem dX7_does_9 : decode cX7_does 9 = .ok (.iconst 2, 1) := by decide +kernel
theorem dX7_does_10 : decode cX7_does 10 = .ok (.invokevirtual 36, 3) := by decide +kernel
theorem dX7_does_13 : decode cX7_does 13 = .ok (.istore_n 3, 1) := by decide +kernel
theorem dX7_does_14 : decode cX7_does 14 = .ok (.aload_n 0, 1) := by decide +kernel
theorem dX7_does_15 : decode cX7_does 15 = .ok (.iload_n 1, 1) := by decide +kernel
theorem dX7_does_16 : decode cX7_does 16 = .ok (.iconst 4, 1) := by decide +kernel
theorem dX7_does_17 : decode cX7_does 17 = .ok (.invokevirtual 36, 3) := by decide +kernel
theorem dX7_does_20 : decode cX7_does 20 = .ok (.istore 4, 2) := by decide +kernel
theorem dX7_does_22 : decode cX7_does 22 = .ok (.aload_n 0, 1) := by decide +kernel
theorem dX7_does_23 : decode cX7_does 23 = .ok (.iload_n 2, 1) := by decide +kernel
theorem dX7_does_24 : decode cX7_does 24 = .ok (.iload_n 3, 1) := by decide +kernel
theorem dX7_does_25 : decode cX7_does 25 = .ok (.aload_n 0, 1) := by decide +kernel
theorem dX7_does_26 : decode cX7_does 26 = .ok (.getfield 7, 3) := by decide +kernel
theorem dX7_does_29 : decode cX7_does 29 = .ok (.iconst 3, 1) := by decide +kernel
theorem dX7_does_30 : decode cX7_does 30 = .ok (.iaload, 1) := by decide +kernel
theorem dX7_does_31 : decode cX7_does 31 = .ok (.iload 4, 2) := by decide +kernel
theorem dX7_does_33 : decode cX7_does 33 = .ok (.invokevirtual 87, 3) := by decide +kernel
theorem dX7_does_36 : decode cX7_does 36 = .ok (.istore 5, 2) := by decide +kernel
theorem dX7_does_38 : decode cX7_does 38 = .ok (.aload_n 0, 1) := by decide +kernel
theorem dX7_does_39 : decode cX7_does 39 = .ok (.iload_n 3, 1) := by decide +kernel
theorem dX7_does_40 : decode cX7_does 40 = .ok (.bipush 6, 2) := by decide +kernel
theorem dX7_does_42 : decode cX7_does 42 = .ok (.aload_n 0, 1) := by decide +kernel
theorem dX7_does_43 : decode cX7_does 43 = .ok (.iload_n 3, 1) := by decide +kernel
theorem dX7_does_44 : decode cX7_does 44 = .ok (.invokevirtual 77, 3) := by decide +kernel
theorem dX7_does_47 : decode cX7_does 47 = .ok (.aload_n 0, 1) := by decide +kernel
theorem dX7_does_48 : decode cX7_does 48 = .ok (.iload_n 3, 1) := by decide +kernel
theorem dX7_does_49 : decode cX7_does 49 = .ok (.iload 4, 2) := by decide +kernel
theorem dX7_does_51 : decode cX7_does 51 = .ok (.invokevirtual 80, 3) := by decide +kernel
theorem dX7_does_54 : decode cX7_does 54 = .ok (.fsub, 1) := by decide +kernel
theorem dX7_does_55 : decode cX7_does 55 = .ok (.invokestatic 91, 3) := by decide +kernel
theorem dX7_does_58 : decode cX7_does 58 = .ok (.invokevirtual 95, 3) := by decide +kernel
theorem dX7_does_61 : decode cX7_does 61 = .ok (.aload_n 0, 1) := by decide +kernel
theorem dX7_does_62 : decode cX7_does 62 = .ok (.iload_n 2, 1) := by decide +kernel
theorem dX7_does_63 : decode cX7_does 63 = .ok (.iconst 0, 1) := by decide +kernel
theorem dX7_does_64 : decode cX7_does 64 = .ok (.iload 5, 2) := by decide +kernel
theorem dX7_does_66 : decode cX7_does 66 = .ok (.ineg, 1) := by decide +kernel
theorem dX7_does_67 : decode cX7_does 67 = .ok (.invokevirtual 98, 3) := by decide +kernel
theorem dX7_does_70 : decode cX7_does 70 = .ok (.aload_n 0, 1) := by decide +kernel
theorem dX7_does_71 : decode cX7_does 71 = .ok (.iload_n 2, 1) := by decide +kernel
theorem dX7_does_72 : decode cX7_does 72 = .ok (.iconst 4, 1) := by decide +kernel
theorem dX7_does_73 : decode cX7_does 73 = .ok (.iload 5, 2) := by decide +kernel
theorem dX7_does_75 : decode cX7_does 75 = .ok (.invokevirtual 98, 3) := by decide +kernel
theorem dX7_does_78 : decode cX7_does 78 = .ok (.aload_n 0, 1) := by decide +kernel
theorem dX7_does_79 : decode cX7_does 79 = .ok (.iload_n 2, 1) := by decide +kernel
theorem dX7_does_80 : decode cX7_does 80 = .ok (.iconst 2, 1) := by decide +kernel
theorem dX7_does_81 : decode cX7_does 81 = .ok (.iload 4, 2) := by decide +kernel
theorem dX7_does_83 : decode cX7_does 83 = .ok (.invokevirtual 98, 3) := by decide +kernel
theorem dX7_does_86 : decode cX7_does 86 = .ok (.aload_n 0, 1) := by decide +kernel
theorem dX7_does_87 : decode cX7_does 87 = .ok (.iload_n 3, 1) := by decide +kernel
theorem dX7_does_88 : decode cX7_does 88 = .ok (.iconst 3, 1) := by decide +kernel
theorem dX7_does_89 : decode cX7_does 89 = .ok (.aload_n 0, 1) := by decide +kernel
theorem dX7_does_90 : decode cX7_does 90 = .ok (.iload_n 3, 1) := by decide +kernel
theorem dX7_does_91 : decode cX7_does 91 = .ok (.iconst 3, 1) := by decide +kernel
theorem dX7_does_92 : decode cX7_does 92 = .ok (.invokevirtual 51, 3) := by decide +kernel
theorem dX7_does_95 : decode cX7_does 95 = .ok (.iload 4, 2) := by decide +kernel
theorem dX7_does_97 : decode cX7_does 97 = .ok (.iadd, 1) := by decide +kernel
theorem dX7_does_98 : decode cX7_does 98 = .ok (.invokevirtual 95, 3) := by decide +kernel
theorem dX7_does_101 : decode cX7_does 101 = .ok (.aload_n 0, 1) := by decide +kernel
theorem dX7_does_102 : decode cX7_does 102 = .ok (.iload_n 3, 1) := by decide +kernel
theorem dX7_does_103 : decode cX7_does 103 = .ok (.iconst 4, 1) := by decide +kernel
theorem dX7_does_104 : decode cX7_does 104 = .ok (.aload_n 0, 1) := by decide +kernel
theorem dX7_does_105 : decode cX7_does 105 = .ok (.iload_n 3, 1) := by decide +kernel
theorem dX7_does_106 : decode cX7_does 106 = .ok (.iconst 4, 1) := by decide +kernel
theorem dX7_does_107 : decode cX7_does 107 = .ok (.invokevirtual 51, 3) := by decide +kernel
theorem dX7_does_110 : decode cX7_does 110 = .ok (.iload 4, 2) := by decide +kernel
theorem dX7_does_112 : decode cX7_does 112 = .ok (.iadd, 1) := by decide +kernel
theorem dX7_does_113 : decode cX7_does 113 = .ok (.invokevirtual 95, 3) := by decide +kernel
theorem dX7_does_116 : decode cX7_does 116 = .ok (.aload_n 0, 1) := by decide +kernel
theorem dX7_does_117 : decode cX7_does 117 = .ok (.iload_n 3, 1) := by decide +kernel
theorem dX7_does_118 : decode cX7_does 118 = .ok (.bipush 8, 2) := by decide +kernel
theorem dX7_does_120 : decode cX7_does 120 = .ok (.iload_n 2, 1) := by decide +kernel
theorem dX7_does_121 : decode cX7_does 121 = .ok (.iadd, 1) := by decide +kernel
theorem dX7_does_122 : decode cX7_does 122 = .ok (.aload_n 0, 1) := by decide +kernel
theorem dX7_does_123 : decode cX7_does 123 = .ok (.iload_n 3, 1) := by decide +kernel
theorem dX7_does_124 : decode cX7_does 124 = .ok (.bipush 8, 2) := by decide +kernel
theorem dX7_does_126 : decode cX7_does 126 = .ok (.iload_n 2, 1) := by decide +kernel
theorem dX7_does_127 : decode cX7_does 127 = .ok (.iadd, 1) := by decide +kernel
theorem dX7_does_128 : decode cX7_does 128 = .ok (.invokevirtual 51, 3) := by decide +kernel
theorem dX7_does_131 : decode cX7_does 131 = .ok (.iload 4, 2) := by decide +kernel
theorem dX7_does_133 : decode cX7_does 133 = .ok (.iadd, 1) := by decide +kernel
theorem dX7_does_134 : decode cX7_does 134 = .ok (.invokevirtual 95, 3) := by decide +kernel
theorem dX7_does_137 : decode cX7_does 137 = .ok (.aload_n 0, 1) := by decide +kernel
theorem dX7_does_138 : decode cX7_does 138 = .ok (.iload_n 3, 1) := by decide +kernel
theorem dX7_does_139 : decode cX7_does 139 = .ok (.iconst 3, 1) := by decide +kernel
theorem dX7_does_140 : decode cX7_does 140 = .ok (.invokevirtual 51, 3) := by decide +kernel
theorem dX7_does_143 : decode cX7_does 143 = .ok (.aload_n 0, 1) := by decide +kernel
theorem dX7_does_144 : decode cX7_does 144 = .ok (.getfield 7, 3) := by decide +kernel
theorem dX7_does_147 : decode cX7_does 147 = .ok (.iconst 0, 1) := by decide +kernel
theorem dX7_does_148 : decode cX7_does 148 = .ok (.iaload, 1) := by decide +kernel
theorem dX7_does_149 : decode cX7_does 149 = .ok (.if_icmp .lt 10, 3) := by decide +kernel
theorem dX7_does_152 : decode cX7_does 152 = .ok (.aload_n 0, 1) := by decide +kernel
theorem dX7_does_153 : decode cX7_does 153 = .ok (.iload_n 3, 1) := by decide +kernel
theorem dX7_does_154 : decode cX7_does 154 = .ok (.iconst 2, 1) := by decide +kernel
theorem dX7_does_155 : decode cX7_does 155 = .ok (.iconst 1, 1) := by decide +kernel
theorem dX7_does_156 : decode cX7_does 156 = .ok (.invokevirtual 95, 3) := by decide +kernel
theorem dX7_does_159 : decode cX7_does 159 = .ok (.aload_n 0, 1) := by decide +kernel
theorem dX7_does_160 : decode cX7_does 160 = .ok (.getfield 7, 3) := by decide +kernel
theorem dX7_does_163 : decode cX7_does 163 = .ok (.bipush 7, 2) := by decide +kernel
theorem dX7_does_165 : decode cX7_does 165 = .ok (.dup2, 1) := by decide +kernel
theorem dX7_does_166 : decode cX7_does 166 = .ok (.iaload, 1) := by decide +kernel
theorem dX7_does_167 : decode cX7_does 167 = .ok (.iconst 1, 1) := by decide +kernel
theorem dX7_does_168 : decode cX7_does 168 = .ok (.iadd, 1) := by decide +kernel
theorem dX7_does_169 : decode cX7_does 169 = .ok (.iastore, 1) := by decide +kernel
theorem dX7_does_170 : decode cX7_does 170 = .ok (.aload_n 0, 1) := by decide +kernel
theorem dX7_does_171 : decode cX7_does 171 = .ok (.iload_n 1, 1) := by decide +kernel
theorem dX7_does_172 : decode cX7_does 172 = .ok (.invokevirtual 101, 3) := by decide +kernel
theorem dX7_does_175 : decode cX7_does 175 = .ok (.return_, 1) := by decide +kernel
set_option maxRecDepth 20000 in
theorem ggX7_passesDay_X7_ofBooking : GoodIn wsX7_passesDay wsX7_ofBooking := goodIn_r _ [6, 1, 90, 91, 92, 93, 94, 95, 96, 97, 98, 99, 100, 101, 102] (by decide +kernel) (by decide +kernel)
set_option maxRecDepth 20000 in
theorem gX7_passesDay_X7_ofBooking : GoodIn wsX7_passesDay (wsV RX7 36 RX7 yX7_ofBooking wsX7_ofBooking) := goodIn_app (goodIn_of _ (by decide +kernel)) ggX7_passesDay_X7_ofBooking
set_option maxRecDepth 20000 in
theorem ggX7_passesDay_X7_works : GoodIn wsX7_passesDay wsX7_works := goodIn_r _ [10, 1, 11, 12, 13, 5, 14, 15, 16, 17, 18, 19, 20, 21, 22, 23, 24, 25, 26, 27, 28, 29, 30, 31, 32, 33, 90, 91, 92, 93, 94, 95, 96, 97, 98, 99, 100, 101, 102] (by decide +kernel) (by decide +kernel)
set_option maxRecDepth 20000 in
theorem gX7_passesDay_X7_works : GoodIn wsX7_passesDay (wsV RX7 105 RX7 yX7_works wsX7_works) := goodIn_app (goodIn_of _ (by decide +kernel)) ggX7_passesDay_X7_works
set_option maxRecDepth 20000 in
theorem ggX7_passesDay_X7_does : GoodIn wsX7_passesDay wsX7_does := goodIn_r _ [37, 1, 2, 3, 4, 5, 6, 38, 39, 40, 41, 11, 12, 13, 14, 42, 43, 44, 45, 46, 47, 48, 49, 50, 51, 52, 53, 54, 19, 20, 21, 22, 23, 24, 25, 26, 27, 28, 29, 30, 31, 32, 33, 55, 56, 57, 58, 59, 60, 61, 62, 63, 64, 65, 66, 67, 68, 69, 70, 71, 72, 73, 74, 75, 76, 77, 78, 79, 80, 81, 90, 91, 92, 93, 94, 95, 96, 97, 98, 99, 100, 101, 102] (by decide +kernel) (by decide +kernel)
set_option maxRecDepth 20000 in
theorem gX7_passesDay_X7_does : GoodIn wsX7_passesDay (wsV RX7 109 RX7 yX7_does wsX7_does) := goodIn_app (goodIn_of _ (by decide +kernel)) ggX7_passesDay_X7_does
set_option maxRecDepth 20000 in
theorem ggX7_passesDay_X7_putsOff : GoodIn wsX7_passesDay wsX7_putsOff := goodIn_r _ [85, 1, 2, 3, 4, 5, 6, 86, 87, 88, 89, 78, 79, 80, 81, 90, 91, 92, 93, 94, 95, 96, 97, 98, 99, 100, 101, 102] (by decide +kernel) (by decide +kernel)
set_option maxRecDepth 20000 in
theorem gX7_passesDay_X7_putsOff : GoodIn wsX7_passesDay (wsV RX7 112 RX7 yX7_putsOff wsX7_putsOff) := goodIn_app (goodIn_of _ (by decide +kernel)) ggX7_passesDay_X7_putsOff
theorem dX7_passesDay_0 : decode cX7_passesDay 0 = .ok (.aload_n 0, 1) := by decide +kernel
theorem dX7_passesDay_1 : decode cX7_passesDay 1 = .ok (.getfield 7, 3) := by decide +kernel
theorem dX7_passesDay_4 : decode cX7_passesDay 4 = .ok (.iconst 3, 1) := by decide +kernel
theorem dX7_passesDay_5 : decode cX7_passesDay 5 = .ok (.dup2, 1) := by decide +kernel
theorem dX7_passesDay_6 : decode cX7_passesDay 6 = .ok (.iaload, 1) := by decide +kernel
theorem dX7_passesDay_7 : decode cX7_passesDay 7 = .ok (.iconst 1, 1) := by decide +kernel
theorem dX7_passesDay_8 : decode cX7_passesDay 8 = .ok (.iadd, 1) := by decide +kernel
theorem dX7_passesDay_9 : decode cX7_passesDay 9 = .ok (.iastore, 1) := by decide +kernel
theorem dX7_passesDay_10 : decode cX7_passesDay 10 = .ok (.iconst 0, 1) := by decide +kernel
theorem dX7_passesDay_11 : decode cX7_passesDay 11 = .ok (.istore_n 1, 1) := by decide +kernel
theorem dX7_passesDay_12 : decode cX7_passesDay 12 = .ok (.iload_n 1, 1) := by decide +kernel
theorem dX7_passesDay_13 : decode cX7_passesDay 13 = .ok (.aload_n 0, 1) := by decide +kernel
theorem dX7_passesDay_14 : decode cX7_passesDay 14 = .ok (.getfield 7, 3) := by decide +kernel
theorem dX7_passesDay_17 : decode cX7_passesDay 17 = .ok (.bipush 6, 2) := by decide +kernel
theorem dX7_passesDay_19 : decode cX7_passesDay 19 = .ok (.iaload, 1) := by decide +kernel
theorem dX7_passesDay_20 : decode cX7_passesDay 20 = .ok (.if_icmp .ge 70, 3) := by decide +kernel
theorem dX7_passesDay_23 : decode cX7_passesDay 23 = .ok (.aload_n 0, 1) := by decide +kernel
theorem dX7_passesDay_24 : decode cX7_passesDay 24 = .ok (.iload_n 1, 1) := by decide +kernel
theorem dX7_passesDay_25 : decode cX7_passesDay 25 = .ok (.iconst 3, 1) := by decide +kernel
theorem dX7_passesDay_26 : decode cX7_passesDay 26 = .ok (.invokevirtual 36, 3) := by decide +kernel
theorem dX7_passesDay_29 : decode cX7_passesDay 29 = .ok (.aload_n 0, 1) := by decide +kernel
theorem dX7_passesDay_30 : decode cX7_passesDay 30 = .ok (.getfield 7, 3) := by decide +kernel
theorem dX7_passesDay_33 : decode cX7_passesDay 33 = .ok (.iconst 3, 1) := by decide +kernel
theorem dX7_passesDay_34 : decode cX7_passesDay 34 = .ok (.iaload, 1) := by decide +kernel
theorem dX7_passesDay_35 : decode cX7_passesDay 35 = .ok (.if_icmp .ne 7, 3) := by decide +kernel
theorem dX7_passesDay_38 : decode cX7_passesDay 38 = .ok (.iconst 1, 1) := by decide +kernel
theorem dX7_passesDay_39 : decode cX7_passesDay 39 = .ok (.goto 4, 3) := by decide +kernel
theorem dX7_passesDay_42 : decode cX7_passesDay 42 = .ok (.iconst 0, 1) := by decide +kernel
theorem dX7_passesDay_43 : decode cX7_passesDay 43 = .ok (.istore_n 2, 1) := by decide +kernel
theorem dX7_passesDay_44 : decode cX7_passesDay 44 = .ok (.iload_n 2, 1) := by decide +kernel
theorem dX7_passesDay_45 : decode cX7_passesDay 45 = .ok (.ifCond .eq 30, 3) := by decide +kernel
theorem dX7_passesDay_48 : decode cX7_passesDay 48 = .ok (.aload_n 0, 1) := by decide +kernel
theorem dX7_passesDay_49 : decode cX7_passesDay 49 = .ok (.aload_n 0, 1) := by decide +kernel
theorem dX7_passesDay_50 : decode cX7_passesDay 50 = .ok (.iload_n 1, 1) := by decide +kernel
theorem dX7_passesDay_51 : decode cX7_passesDay 51 = .ok (.iconst 2, 1) := by decide +kernel
theorem dX7_passesDay_52 : decode cX7_passesDay 52 = .ok (.invokevirtual 36, 3) := by decide +kernel
theorem dX7_passesDay_55 : decode cX7_passesDay 55 = .ok (.aload_n 0, 1) := by decide +kernel
theorem dX7_passesDay_56 : decode cX7_passesDay 56 = .ok (.iload_n 1, 1) := by decide +kernel
theorem dX7_passesDay_57 : decode cX7_passesDay 57 = .ok (.iconst 4, 1) := by decide +kernel
theorem dX7_passesDay_58 : decode cX7_passesDay 58 = .ok (.invokevirtual 36, 3) := by decide +kernel
theorem dX7_passesDay_61 : decode cX7_passesDay 61 = .ok (.invokevirtual 105, 3) := by decide +kernel
theorem dX7_passesDay_64 : decode cX7_passesDay 64 = .ok (.ifCond .eq 11, 3) := by decide +kernel
theorem dX7_passesDay_67 : decode cX7_passesDay 67 = .ok (.aload_n 0, 1) := by decide +kernel
theorem dX7_passesDay_68 : decode cX7_passesDay 68 = .ok (.iload_n 1, 1) := by decide +kernel
theorem dX7_passesDay_69 : decode cX7_passesDay 69 = .ok (.invokevirtual 109, 3) := by decide +kernel
theorem dX7_passesDay_72 : decode cX7_passesDay 72 = .ok (.goto 15, 3) := by decide +kernel
theorem dX7_passesDay_75 : decode cX7_passesDay 75 = .ok (.iload_n 2, 1) := by decide +kernel
theorem dX7_passesDay_76 : decode cX7_passesDay 76 = .ok (.ifCond .eq 8, 3) := by decide +kernel
theorem dX7_passesDay_79 : decode cX7_passesDay 79 = .ok (.aload_n 0, 1) := by decide +kernel
theorem dX7_passesDay_80 : decode cX7_passesDay 80 = .ok (.iload_n 1, 1) := by decide +kernel
theorem dX7_passesDay_81 : decode cX7_passesDay 81 = .ok (.invokevirtual 112, 3) := by decide +kernel
theorem dX7_passesDay_84 : decode cX7_passesDay 84 = .ok (.iinc 1 1, 3) := by decide +kernel
theorem dX7_passesDay_87 : decode cX7_passesDay 87 = .ok (.goto (-75), 3) := by decide +kernel
theorem dX7_passesDay_90 : decode cX7_passesDay 90 = .ok (.return_, 1) := by decide +kernel
set_option maxRecDepth 20000 in
theorem ggX7_machinesOf_X7_ofMachine : GoodIn wsX7_machinesOf wsX7_ofMachine := goodIn_r _ [6, 1, 7, 8, 9, 10, 11, 12, 13, 14, 15, 16, 17, 18, 19] (by decide +kernel) (by decide +kernel)
set_option maxRecDepth 20000 in
theorem gX7_machinesOf_X7_ofMachine : GoodIn wsX7_machinesOf (wsV RX7 51 RX7 yX7_ofMachine wsX7_ofMachine) := goodIn_app (goodIn_of _ (by decide +kernel)) ggX7_machinesOf_X7_ofMachine
theorem dX7_machinesOf_0 : decode cX7_machinesOf 0 = .ok (.iconst 0, 1) := by decide +kernel
theorem dX7_machinesOf_1 : decode cX7_machinesOf 1 = .ok (.istore_n 2, 1) := by decide +kernel
theorem dX7_machinesOf_2 : decode cX7_machinesOf 2 = .ok (.iconst 0, 1) := by decide +kernel
theorem dX7_machinesOf_3 : decode cX7_machinesOf 3 = .ok (.istore_n 3, 1) := by decide +kernel
theorem dX7_machinesOf_4 : decode cX7_machinesOf 4 = .ok (.iload_n 3, 1) := by decide +kernel
theorem dX7_machinesOf_5 : decode cX7_machinesOf 5 = .ok (.aload_n 0, 1) := by decide +kernel
theorem dX7_machinesOf_6 : decode cX7_machinesOf 6 = .ok (.getfield 7, 3) := by decide +kernel
theorem dX7_machinesOf_9 : decode cX7_machinesOf 9 = .ok (.bipush 12, 2) := by decide +kernel
theorem dX7_machinesOf_11 : decode cX7_machinesOf 11 = .ok (.iaload, 1) := by decide +kernel
theorem dX7_machinesOf_12 : decode cX7_machinesOf 12 = .ok (.if_icmp .ge 27, 3) := by decide +kernel
theorem dX7_machinesOf_15 : decode cX7_machinesOf 15 = .ok (.iload_n 2, 1) := by decide +kernel
theorem dX7_machinesOf_16 : decode cX7_machinesOf 16 = .ok (.aload_n 0, 1) := by decide +kernel
theorem dX7_machinesOf_17 : decode cX7_machinesOf 17 = .ok (.iload_n 3, 1) := by decide +kernel
theorem dX7_machinesOf_18 : decode cX7_machinesOf 18 = .ok (.iconst 0, 1) := by decide +kernel
theorem dX7_machinesOf_19 : decode cX7_machinesOf 19 = .ok (.invokevirtual 51, 3) := by decide +kernel
theorem dX7_machinesOf_22 : decode cX7_machinesOf 22 = .ok (.iload_n 1, 1) := by decide +kernel
theorem dX7_machinesOf_23 : decode cX7_machinesOf 23 = .ok (.if_icmp .ne 7, 3) := by decide +kernel
theorem dX7_machinesOf_26 : decode cX7_machinesOf 26 = .ok (.iconst 1, 1) := by decide +kernel
theorem dX7_machinesOf_27 : decode cX7_machinesOf 27 = .ok (.goto 4, 3) := by decide +kernel
theorem dX7_machinesOf_30 : decode cX7_machinesOf 30 = .ok (.iconst 0, 1) := by decide +kernel
theorem dX7_machinesOf_31 : decode cX7_machinesOf 31 = .ok (.iadd, 1) := by decide +kernel
theorem dX7_machinesOf_32 : decode cX7_machinesOf 32 = .ok (.istore_n 2, 1) := by decide +kernel
theorem dX7_machinesOf_33 : decode cX7_machinesOf 33 = .ok (.iinc 3 1, 3) := by decide +kernel
theorem dX7_machinesOf_36 : decode cX7_machinesOf 36 = .ok (.goto (-32), 3) := by decide +kernel
theorem dX7_machinesOf_39 : decode cX7_machinesOf 39 = .ok (.iload_n 2, 1) := by decide +kernel
theorem dX7_machinesOf_40 : decode cX7_machinesOf 40 = .ok (.ireturn, 1) := by decide +kernel
set_option maxRecDepth 20000 in
theorem ggX7_buy_X7_in : GoodIn wsX7_buy wsX7_in := goodIn_r _ [10] (by decide +kernel) (by decide +kernel)
set_option maxRecDepth 20000 in
theorem gX7_buy_X7_in : GoodIn wsX7_buy (va_wsS RX7 32 yX7_in wsX7_in) := goodIn_app (goodIn_of _ (by decide +kernel)) ggX7_buy_X7_in
set_option maxRecDepth 20000 in
theorem ggX7_buy_X7_machinesOf : GoodIn wsX7_buy wsX7_machinesOf := goodIn_r _ [14, 6, 15, 16, 17, 9, 18, 29, 30, 31, 32, 33, 34, 35, 36, 37, 38, 39, 40, 41] (by decide +kernel) (by decide +kernel)
set_option maxRecDepth 20000 in
theorem gX7_buy_X7_machinesOf : GoodIn wsX7_buy (wsV RX7 117 RX7 yX7_machinesOf wsX7_machinesOf) := goodIn_app (goodIn_of _ (by decide +kernel)) ggX7_buy_X7_machinesOf
set_option maxRecDepth 20000 in
theorem ggX7_buy_X7_records : GoodIn wsX7_buy wsX7_records := goodIn_r _ [22, 23, 24, 6, 29, 30, 31, 32, 33, 34, 35, 36, 37, 38, 39, 40, 41] (by decide +kernel) (by decide +kernel)
set_option maxRecDepth 20000 in
theorem gX7_buy_X7_records : GoodIn wsX7_buy (wsV RX7 122 RX7 yX7_records wsX7_records) := goodIn_app (goodIn_of _ (by decide +kernel)) ggX7_buy_X7_records
set_option maxRecDepth 20000 in
theorem ggX7_buy_X7_layMachine : GoodIn wsX7_buy wsX7_layMachine := goodIn_r _ [28, 6, 29, 30, 31, 32, 33, 34, 35, 36, 37, 38, 39, 40, 41] (by decide +kernel) (by decide +kernel)
set_option maxRecDepth 20000 in
theorem gX7_buy_X7_layMachine : GoodIn wsX7_buy (wsV RX7 95 RX7 yX7_layMachine wsX7_layMachine) := goodIn_app (goodIn_of _ (by decide +kernel)) ggX7_buy_X7_layMachine
theorem dX7_buy_0 : decode cX7_buy 0 = .ok (.aload_n 0, 1) := by decide +kernel
theorem dX7_buy_1 : decode cX7_buy 1 = .ok (.iconst 0, 1) := by decide +kernel
theorem dX7_buy_2 : decode cX7_buy 2 = .ok (.putfield 28, 3) := by decide +kernel
theorem dX7_buy_5 : decode cX7_buy 5 = .ok (.iload_n 2, 1) := by decide +kernel
theorem dX7_buy_6 : decode cX7_buy 6 = .ok (.iconst 0, 1) := by decide +kernel
theorem dX7_buy_7 : decode cX7_buy 7 = .ok (.iconst 2, 1) := by decide +kernel
theorem dX7_buy_8 : decode cX7_buy 8 = .ok (.invokestatic 32, 3) := by decide +kernel
theorem dX7_buy_11 : decode cX7_buy 11 = .ok (.ifCond .ne 6, 3) := by decide +kernel
theorem dX7_buy_14 : decode cX7_buy 14 = .ok (.ldc 115, 2) := by decide +kernel
theorem dX7_buy_16 : decode cX7_buy 16 = .ok (.ireturn, 1) := by decide +kernel
theorem dX7_buy_17 : decode cX7_buy 17 = .ok (.iload_n 1, 1) := by decide +kernel
theorem dX7_buy_18 : decode cX7_buy 18 = .ok (.iconst 0, 1) := by decide +kernel
theorem dX7_buy_19 : decode cX7_buy 19 = .ok (.iconst 2, 1) := by decide +kernel
theorem dX7_buy_20 : decode cX7_buy 20 = .ok (.invokestatic 32, 3) := by decide +kernel
theorem dX7_buy_23 : decode cX7_buy 23 = .ok (.ifCond .eq 13, 3) := by decide +kernel
theorem dX7_buy_26 : decode cX7_buy 26 = .ok (.iload_n 3, 1) := by decide +kernel
theorem dX7_buy_27 : decode cX7_buy 27 = .ok (.iconst 1, 1) := by decide +kernel
theorem dX7_buy_28 : decode cX7_buy 28 = .ok (.bipush 99, 2) := by decide +kernel
theorem dX7_buy_30 : decode cX7_buy 30 = .ok (.invokestatic 32, 3) := by decide +kernel
theorem dX7_buy_33 : decode cX7_buy 33 = .ok (.ifCond .ne 6, 3) := by decide +kernel
theorem dX7_buy_36 : decode cX7_buy 36 = .ok (.ldc 116, 2) := by decide +kernel
theorem dX7_buy_38 : decode cX7_buy 38 = .ok (.ireturn, 1) := by decide +kernel
theorem dX7_buy_39 : decode cX7_buy 39 = .ok (.aload_n 0, 1) := by decide +kernel
theorem dX7_buy_40 : decode cX7_buy 40 = .ok (.iload_n 2, 1) := by decide +kernel
theorem dX7_buy_41 : decode cX7_buy 41 = .ok (.invokevirtual 117, 3) := by decide +kernel
theorem dX7_buy_44 : decode cX7_buy 44 = .ok (.iconst 2, 1) := by decide +kernel
theorem dX7_buy_45 : decode cX7_buy 45 = .ok (.if_icmp .ne 6, 3) := by decide +kernel
theorem dX7_buy_48 : decode cX7_buy 48 = .ok (.ldc 120, 2) := by decide +kernel
theorem dX7_buy_50 : decode cX7_buy 50 = .ok (.ireturn, 1) := by decide +kernel
theorem dX7_buy_51 : decode cX7_buy 51 = .ok (.iload_n 1, 1) := by decide +kernel
theorem dX7_buy_52 : decode cX7_buy 52 = .ok (.iload_n 2, 1) := by decide +kernel
theorem dX7_buy_53 : decode cX7_buy 53 = .ok (.if_icmp .eq 6, 3) := by decide +kernel
theorem dX7_buy_56 : decode cX7_buy 56 = .ok (.ldc 121, 2) := by decide +kernel
theorem dX7_buy_58 : decode cX7_buy 58 = .ok (.ireturn, 1) := by decide +kernel
theorem dX7_buy_59 : decode cX7_buy 59 = .ok (.aload_n 0, 1) := by decide +kernel
theorem dX7_buy_60 : decode cX7_buy 60 = .ok (.invokevirtual 122, 3) := by decide +kernel
theorem dX7_buy_63 : decode cX7_buy 63 = .ok (.aload_n 0, 1) := by decide +kernel
theorem dX7_buy_64 : decode cX7_buy 64 = .ok (.getfield 7, 3) := by decide +kernel
theorem dX7_buy_67 : decode cX7_buy 67 = .ok (.bipush 12, 2) := by decide +kernel
theorem dX7_buy_69 : decode cX7_buy 69 = .ok (.iaload, 1) := by decide +kernel
theorem dX7_buy_70 : decode cX7_buy 70 = .ok (.istore 4, 2) := by decide +kernel
theorem dX7_buy_72 : decode cX7_buy 72 = .ok (.aload_n 0, 1) := by decide +kernel
theorem dX7_buy_73 : decode cX7_buy 73 = .ok (.iload 4, 2) := by decide +kernel
theorem dX7_buy_75 : decode cX7_buy 75 = .ok (.iconst 0, 1) := by decide +kernel
theorem dX7_buy_76 : decode cX7_buy 76 = .ok (.iload_n 1, 1) := by decide +kernel
theorem dX7_buy_77 : decode cX7_buy 77 = .ok (.invokevirtual 95, 3) := by decide +kernel
theorem dX7_buy_80 : decode cX7_buy 80 = .ok (.aload_n 0, 1) := by decide +kernel
theorem dX7_buy_81 : decode cX7_buy 81 = .ok (.iload 4, 2) := by decide +kernel
theorem dX7_buy_83 : decode cX7_buy 83 = .ok (.iconst 1, 1) := by decide +kernel
theorem dX7_buy_84 : decode cX7_buy 84 = .ok (.iload_n 3, 1) := by decide +kernel
theorem dX7_buy_85 : decode cX7_buy 85 = .ok (.invokevirtual 95, 3) := by decide +kernel
theorem dX7_buy_88 : decode cX7_buy 88 = .ok (.aload_n 0, 1) := by decide +kernel
theorem dX7_buy_89 : decode cX7_buy 89 = .ok (.iload 4, 2) := by decide +kernel
theorem dX7_buy_91 : decode cX7_buy 91 = .ok (.iconst 5, 1) := by decide +kernel
theorem dX7_buy_92 : decode cX7_buy 92 = .ok (.aload_n 0, 1) := by decide +kernel
theorem dX7_buy_93 : decode cX7_buy 93 = .ok (.iload_n 1, 1) := by decide +kernel
theorem dX7_buy_94 : decode cX7_buy 94 = .ok (.invokevirtual 117, 3) := by decide +kernel
theorem dX7_buy_97 : decode cX7_buy 97 = .ok (.invokevirtual 95, 3) := by decide +kernel
theorem dX7_buy_100 : decode cX7_buy 100 = .ok (.aload_n 0, 1) := by decide +kernel
theorem dX7_buy_101 : decode cX7_buy 101 = .ok (.getfield 7, 3) := by decide +kernel
theorem dX7_buy_104 : decode cX7_buy 104 = .ok (.bipush 12, 2) := by decide +kernel
theorem dX7_buy_106 : decode cX7_buy 106 = .ok (.dup2, 1) := by decide +kernel
theorem dX7_buy_107 : decode cX7_buy 107 = .ok (.iaload, 1) := by decide +kernel
theorem dX7_buy_108 : decode cX7_buy 108 = .ok (.iconst 1, 1) := by decide +kernel
theorem dX7_buy_109 : decode cX7_buy 109 = .ok (.iadd, 1) := by decide +kernel
theorem dX7_buy_110 : decode cX7_buy 110 = .ok (.iastore, 1) := by decide +kernel
theorem dX7_buy_111 : decode cX7_buy 111 = .ok (.iload 4, 2) := by decide +kernel
theorem dX7_buy_113 : decode cX7_buy 113 = .ok (.ireturn, 1) := by decide +kernel
set_option maxRecDepth 20000 in
theorem ggX7_license_X7_isFarmer : GoodIn wsX7_license wsX7_isFarmer := goodIn_r _ [8, 9, 10, 7, 11] (by decide +kernel) (by decide +kernel)
set_option maxRecDepth 20000 in
theorem gX7_license_X7_isFarmer : GoodIn wsX7_license (va_wsS RX7 125 yX7_isFarmer wsX7_isFarmer) := goodIn_app (goodIn_of _ (by decide +kernel)) ggX7_license_X7_isFarmer
set_option maxRecDepth 20000 in
theorem ggX7_license_X7_in : GoodIn wsX7_license wsX7_in := goodIn_r _ [11] (by decide +kernel) (by decide +kernel)
set_option maxRecDepth 20000 in
theorem gX7_license_X7_in : GoodIn wsX7_license (va_wsS RX7 32 yX7_in wsX7_in) := goodIn_app (goodIn_of _ (by decide +kernel)) ggX7_license_X7_in
set_option maxRecDepth 20000 in
theorem ggX7_license_X7_ofFarmer : GoodIn wsX7_license wsX7_ofFarmer := goodIn_r _ [15, 16, 27, 28, 29, 30, 31, 32, 33, 34, 35, 36, 37, 38, 39] (by decide +kernel) (by decide +kernel)
set_option maxRecDepth 20000 in
theorem gX7_license_X7_ofFarmer : GoodIn wsX7_license (wsV RX7 66 RX7 yX7_ofFarmer wsX7_ofFarmer) := goodIn_app (goodIn_of _ (by decide +kernel)) ggX7_license_X7_ofFarmer
set_option maxRecDepth 20000 in
theorem ggX7_license_X7_records : GoodIn wsX7_license wsX7_records := goodIn_r _ [20, 21, 22, 16, 27, 28, 29, 30, 31, 32, 33, 34, 35, 36, 37, 38, 39] (by decide +kernel) (by decide +kernel)
set_option maxRecDepth 20000 in
theorem gX7_license_X7_records : GoodIn wsX7_license (wsV RX7 122 RX7 yX7_records wsX7_records) := goodIn_app (goodIn_of _ (by decide +kernel)) ggX7_license_X7_records
set_option maxRecDepth 20000 in
theorem ggX7_license_X7_addFarmer : GoodIn wsX7_license wsX7_addFarmer := goodIn_r _ [26, 16, 27, 28, 29, 30, 31, 32, 33, 34, 35, 36, 37, 38, 39] (by decide +kernel) (by decide +kernel)
set_option maxRecDepth 20000 in
theorem gX7_license_X7_addFarmer : GoodIn wsX7_license (wsV RX7 98 RX7 yX7_addFarmer wsX7_addFarmer) := goodIn_app (goodIn_of _ (by decide +kernel)) ggX7_license_X7_addFarmer
theorem dX7_license_0 : decode cX7_license 0 = .ok (.aload_n 0, 1) := by decide +kernel
theorem dX7_license_1 : decode cX7_license 1 = .ok (.iconst 0, 1) := by decide +kernel
theorem dX7_license_2 : decode cX7_license 2 = .ok (.putfield 28, 3) := by decide +kernel
theorem dX7_license_5 : decode cX7_license 5 = .ok (.iload_n 1, 1) := by decide +kernel
theorem dX7_license_6 : decode cX7_license 6 = .ok (.invokestatic 125, 3) := by decide +kernel
theorem dX7_license_9 : decode cX7_license 9 = .ok (.ifCond .ne 6, 3) := by decide +kernel
theorem dX7_license_12 : decode cX7_license 12 = .ok (.ldc 115, 2) := by decide +kernel
theorem dX7_license_14 : decode cX7_license 14 = .ok (.ireturn, 1) := by decide +kernel
theorem dX7_license_15 : decode cX7_license 15 = .ok (.iload_n 2, 1) := by decide +kernel
theorem dX7_license_16 : decode cX7_license 16 = .ok (.iconst 0, 1) := by decide +kernel
theorem dX7_license_17 : decode cX7_license 17 = .ok (.bipush 7, 2) := by decide +kernel
theorem dX7_license_19 : decode cX7_license 19 = .ok (.invokestatic 32, 3) := by decide +kernel
theorem dX7_license_22 : decode cX7_license 22 = .ok (.ifCond .ne 6, 3) := by decide +kernel
theorem dX7_license_25 : decode cX7_license 25 = .ok (.ldc 116, 2) := by decide +kernel
theorem dX7_license_27 : decode cX7_license 27 = .ok (.ireturn, 1) := by decide +kernel
theorem dX7_license_28 : decode cX7_license 28 = .ok (.aload_n 0, 1) := by decide +kernel
theorem dX7_license_29 : decode cX7_license 29 = .ok (.iload_n 1, 1) := by decide +kernel
theorem dX7_license_30 : decode cX7_license 30 = .ok (.iconst 1, 1) := by decide +kernel
theorem dX7_license_31 : decode cX7_license 31 = .ok (.invokevirtual 66, 3) := by decide +kernel
theorem dX7_license_34 : decode cX7_license 34 = .ok (.istore_n 3, 1) := by decide +kernel
theorem dX7_license_35 : decode cX7_license 35 = .ok (.iload_n 3, 1) := by decide +kernel
theorem dX7_license_36 : decode cX7_license 36 = .ok (.iload_n 2, 1) := by decide +kernel
theorem dX7_license_37 : decode cX7_license 37 = .ok (.if_icmp .ne 6, 3) := by decide +kernel
theorem dX7_license_40 : decode cX7_license 40 = .ok (.ldc 40, 2) := by decide +kernel
theorem dX7_license_42 : decode cX7_license 42 = .ok (.ireturn, 1) := by decide +kernel
theorem dX7_license_43 : decode cX7_license 43 = .ok (.aload_n 0, 1) := by decide +kernel
theorem dX7_license_44 : decode cX7_license 44 = .ok (.invokevirtual 122, 3) := by decide +kernel
theorem dX7_license_47 : decode cX7_license 47 = .ok (.aload_n 0, 1) := by decide +kernel
theorem dX7_license_48 : decode cX7_license 48 = .ok (.iload_n 1, 1) := by decide +kernel
theorem dX7_license_49 : decode cX7_license 49 = .ok (.iconst 1, 1) := by decide +kernel
theorem dX7_license_50 : decode cX7_license 50 = .ok (.iload_n 2, 1) := by decide +kernel
theorem dX7_license_51 : decode cX7_license 51 = .ok (.iload_n 3, 1) := by decide +kernel
theorem dX7_license_52 : decode cX7_license 52 = .ok (.isub, 1) := by decide +kernel
theorem dX7_license_53 : decode cX7_license 53 = .ok (.invokevirtual 98, 3) := by decide +kernel
theorem dX7_license_56 : decode cX7_license 56 = .ok (.iload_n 3, 1) := by decide +kernel
theorem dX7_license_57 : decode cX7_license 57 = .ok (.ireturn, 1) := by decide +kernel
set_option maxRecDepth 20000 in
theorem ggX7_setRate_X7_isMachine : GoodIn wsX7_setRate wsX7_isMachine := goodIn_r _ [9, 10, 11, 12, 8, 13, 28, 29, 30, 31, 32, 33, 34, 35, 36, 37, 38, 39, 40] (by decide +kernel) (by decide +kernel)
set_option maxRecDepth 20000 in
theorem gX7_setRate_X7_isMachine : GoodIn wsX7_setRate (wsV RX7 128 RX7 yX7_isMachine wsX7_isMachine) := goodIn_app (goodIn_of _ (by decide +kernel)) ggX7_setRate_X7_isMachine
set_option maxRecDepth 20000 in
theorem ggX7_setRate_X7_in : GoodIn wsX7_setRate wsX7_in := goodIn_r _ [13] (by decide +kernel) (by decide +kernel)
set_option maxRecDepth 20000 in
theorem gX7_setRate_X7_in : GoodIn wsX7_setRate (va_wsS RX7 32 yX7_in wsX7_in) := goodIn_app (goodIn_of _ (by decide +kernel)) ggX7_setRate_X7_in
set_option maxRecDepth 20000 in
theorem ggX7_setRate_X7_ofMachine : GoodIn wsX7_setRate wsX7_ofMachine := goodIn_r _ [17, 10, 28, 29, 30, 31, 32, 33, 34, 35, 36, 37, 38, 39, 40] (by decide +kernel) (by decide +kernel)
set_option maxRecDepth 20000 in
theorem gX7_setRate_X7_ofMachine : GoodIn wsX7_setRate (wsV RX7 51 RX7 yX7_ofMachine wsX7_ofMachine) := goodIn_app (goodIn_of _ (by decide +kernel)) ggX7_setRate_X7_ofMachine
set_option maxRecDepth 20000 in
theorem ggX7_setRate_X7_records : GoodIn wsX7_setRate wsX7_records := goodIn_r _ [21, 22, 23, 10, 28, 29, 30, 31, 32, 33, 34, 35, 36, 37, 38, 39, 40] (by decide +kernel) (by decide +kernel)
set_option maxRecDepth 20000 in
theorem gX7_setRate_X7_records : GoodIn wsX7_setRate (wsV RX7 122 RX7 yX7_records wsX7_records) := goodIn_app (goodIn_of _ (by decide +kernel)) ggX7_setRate_X7_records
set_option maxRecDepth 20000 in
theorem ggX7_setRate_X7_layMachine : GoodIn wsX7_setRate wsX7_layMachine := goodIn_r _ [27, 10, 28, 29, 30, 31, 32, 33, 34, 35, 36, 37, 38, 39, 40] (by decide +kernel) (by decide +kernel)
set_option maxRecDepth 20000 in
theorem gX7_setRate_X7_layMachine : GoodIn wsX7_setRate (wsV RX7 95 RX7 yX7_layMachine wsX7_layMachine) := goodIn_app (goodIn_of _ (by decide +kernel)) ggX7_setRate_X7_layMachine
theorem dX7_setRate_0 : decode cX7_setRate 0 = .ok (.aload_n 0, 1) := by decide +kernel
theorem dX7_setRate_1 : decode cX7_setRate 1 = .ok (.iconst 0, 1) := by decide +kernel
theorem dX7_setRate_2 : decode cX7_setRate 2 = .ok (.putfield 28, 3) := by decide +kernel
theorem dX7_setRate_5 : decode cX7_setRate 5 = .ok (.aload_n 0, 1) := by decide +kernel
theorem dX7_setRate_6 : decode cX7_setRate 6 = .ok (.iload_n 1, 1) := by decide +kernel
theorem dX7_setRate_7 : decode cX7_setRate 7 = .ok (.invokevirtual 128, 3) := by decide +kernel
theorem dX7_setRate_10 : decode cX7_setRate 10 = .ok (.ifCond .ne 6, 3) := by decide +kernel
theorem dX7_setRate_13 : decode cX7_setRate 13 = .ok (.ldc 115, 2) := by decide +kernel
theorem dX7_setRate_15 : decode cX7_setRate 15 = .ok (.ireturn, 1) := by decide +kernel
theorem dX7_setRate_16 : decode cX7_setRate 16 = .ok (.iload_n 2, 1) := by decide +kernel
theorem dX7_setRate_17 : decode cX7_setRate 17 = .ok (.iconst 1, 1) := by decide +kernel
theorem dX7_setRate_18 : decode cX7_setRate 18 = .ok (.bipush 99, 2) := by decide +kernel
theorem dX7_setRate_20 : decode cX7_setRate 20 = .ok (.invokestatic 32, 3) := by decide +kernel
theorem dX7_setRate_23 : decode cX7_setRate 23 = .ok (.ifCond .ne 6, 3) := by decide +kernel
theorem dX7_setRate_26 : decode cX7_setRate 26 = .ok (.ldc 116, 2) := by decide +kernel
theorem dX7_setRate_28 : decode cX7_setRate 28 = .ok (.ireturn, 1) := by decide +kernel
theorem dX7_setRate_29 : decode cX7_setRate 29 = .ok (.aload_n 0, 1) := by decide +kernel
theorem dX7_setRate_30 : decode cX7_setRate 30 = .ok (.iload_n 1, 1) := by decide +kernel
theorem dX7_setRate_31 : decode cX7_setRate 31 = .ok (.iconst 1, 1) := by decide +kernel
theorem dX7_setRate_32 : decode cX7_setRate 32 = .ok (.invokevirtual 51, 3) := by decide +kernel
theorem dX7_setRate_35 : decode cX7_setRate 35 = .ok (.istore_n 3, 1) := by decide +kernel
theorem dX7_setRate_36 : decode cX7_setRate 36 = .ok (.iload_n 3, 1) := by decide +kernel
theorem dX7_setRate_37 : decode cX7_setRate 37 = .ok (.iload_n 2, 1) := by decide +kernel
theorem dX7_setRate_38 : decode cX7_setRate 38 = .ok (.if_icmp .ne 6, 3) := by decide +kernel
theorem dX7_setRate_41 : decode cX7_setRate 41 = .ok (.ldc 40, 2) := by decide +kernel
theorem dX7_setRate_43 : decode cX7_setRate 43 = .ok (.ireturn, 1) := by decide +kernel
theorem dX7_setRate_44 : decode cX7_setRate 44 = .ok (.aload_n 0, 1) := by decide +kernel
theorem dX7_setRate_45 : decode cX7_setRate 45 = .ok (.invokevirtual 122, 3) := by decide +kernel
theorem dX7_setRate_48 : decode cX7_setRate 48 = .ok (.aload_n 0, 1) := by decide +kernel
theorem dX7_setRate_49 : decode cX7_setRate 49 = .ok (.iload_n 1, 1) := by decide +kernel
theorem dX7_setRate_50 : decode cX7_setRate 50 = .ok (.iconst 1, 1) := by decide +kernel
theorem dX7_setRate_51 : decode cX7_setRate 51 = .ok (.iload_n 2, 1) := by decide +kernel
theorem dX7_setRate_52 : decode cX7_setRate 52 = .ok (.invokevirtual 95, 3) := by decide +kernel
theorem dX7_setRate_55 : decode cX7_setRate 55 = .ok (.iload_n 3, 1) := by decide +kernel
theorem dX7_setRate_56 : decode cX7_setRate 56 = .ok (.ireturn, 1) := by decide +kernel
set_option maxRecDepth 20000 in
theorem ggX7_fill_X7_isFarmer : GoodIn wsX7_fill wsX7_isFarmer := goodIn_r _ [10, 11, 12, 9, 13] (by decide +kernel) (by decide +kernel)
set_option maxRecDepth 20000 in
theorem gX7_fill_X7_isFarmer : GoodIn wsX7_fill (va_wsS RX7 125 yX7_isFarmer wsX7_isFarmer) := goodIn_app (goodIn_of _ (by decide +kernel)) ggX7_fill_X7_isFarmer
set_option maxRecDepth 20000 in
theorem ggX7_fill_X7_isMachine : GoodIn wsX7_fill wsX7_isMachine := goodIn_r _ [17, 6, 11, 12, 9, 13, 55, 56, 57, 58, 59, 60, 61, 62, 63, 64, 65, 66, 67] (by decide +kernel) (by decide +kernel)
set_option maxRecDepth 20000 in
theorem gX7_fill_X7_isMachine : GoodIn wsX7_fill (wsV RX7 128 RX7 yX7_isMachine wsX7_isMachine) := goodIn_app (goodIn_of _ (by decide +kernel)) ggX7_fill_X7_isMachine
set_option maxRecDepth 20000 in
theorem ggX7_fill_X7_in : GoodIn wsX7_fill wsX7_in := goodIn_r _ [13] (by decide +kernel) (by decide +kernel)
set_option maxRecDepth 20000 in
theorem gX7_fill_X7_in : GoodIn wsX7_fill (va_wsS RX7 32 yX7_in wsX7_in) := goodIn_app (goodIn_of _ (by decide +kernel)) ggX7_fill_X7_in
set_option maxRecDepth 20000 in
theorem ggX7_fill_X7_fuelOf : GoodIn wsX7_fill wsX7_fuelOf := goodIn_r _ [21, 22, 23, 24, 25, 26, 27, 28, 9, 29, 6, 55, 56, 57, 58, 59, 60, 61, 62, 63, 64, 65, 66, 67] (by decide +kernel) (by decide +kernel)
set_option maxRecDepth 20000 in
theorem gX7_fill_X7_fuelOf : GoodIn wsX7_fill (wsV RX7 77 RX7 yX7_fuelOf wsX7_fuelOf) := goodIn_app (goodIn_of _ (by decide +kernel)) ggX7_fill_X7_fuelOf
set_option maxRecDepth 20000 in
theorem ggX7_fill_X7_records : GoodIn wsX7_fill wsX7_records := goodIn_r _ [33, 34, 35, 6, 55, 56, 57, 58, 59, 60, 61, 62, 63, 64, 65, 66, 67] (by decide +kernel) (by decide +kernel)
set_option maxRecDepth 20000 in
theorem gX7_fill_X7_records : GoodIn wsX7_fill (wsV RX7 122 RX7 yX7_records wsX7_records) := goodIn_app (goodIn_of _ (by decide +kernel)) ggX7_fill_X7_records
set_option maxRecDepth 20000 in
theorem ggX7_fill_Jxf58ca_floatToIntBits_5c35a : GoodIn wsX7_fill wsJxf58ca_floatToIntBits_5c35a := goodIn_r _ [39, 40, 41, 42, 25, 43, 44, 45, 38, 46] (by decide +kernel) (by decide +kernel)
set_option maxRecDepth 20000 in
theorem gX7_fill_Jxf58ca_floatToIntBits_5c35a : GoodIn wsX7_fill (va_wsS RX7 91 yJxf58ca_floatToIntBits_5c35a wsJxf58ca_floatToIntBits_5c35a) := goodIn_app (goodIn_of _ (by decide +kernel)) ggX7_fill_Jxf58ca_floatToIntBits_5c35a
set_option maxRecDepth 20000 in
theorem ggX7_fill_X7_layMachine : GoodIn wsX7_fill wsX7_layMachine := goodIn_r _ [50, 6, 55, 56, 57, 58, 59, 60, 61, 62, 63, 64, 65, 66, 67] (by decide +kernel) (by decide +kernel)
set_option maxRecDepth 20000 in
theorem gX7_fill_X7_layMachine : GoodIn wsX7_fill (wsV RX7 95 RX7 yX7_layMachine wsX7_layMachine) := goodIn_app (goodIn_of _ (by decide +kernel)) ggX7_fill_X7_layMachine
set_option maxRecDepth 20000 in
theorem ggX7_fill_X7_addFarmer : GoodIn wsX7_fill wsX7_addFarmer := goodIn_r _ [54, 6, 55, 56, 57, 58, 59, 60, 61, 62, 63, 64, 65, 66, 67] (by decide +kernel) (by decide +kernel)
set_option maxRecDepth 20000 in
theorem gX7_fill_X7_addFarmer : GoodIn wsX7_fill (wsV RX7 98 RX7 yX7_addFarmer wsX7_addFarmer) := goodIn_app (goodIn_of _ (by decide +kernel)) ggX7_fill_X7_addFarmer
theorem dX7_fill_0 : decode cX7_fill 0 = .ok (.aload_n 0, 1) := by decide +kernel
theorem dX7_fill_1 : decode cX7_fill 1 = .ok (.iconst 0, 1) := by decide +kernel
theorem dX7_fill_2 : decode cX7_fill 2 = .ok (.putfield 28, 3) := by decide +kernel
theorem dX7_fill_5 : decode cX7_fill 5 = .ok (.iload_n 1, 1) := by decide +kernel
theorem dX7_fill_6 : decode cX7_fill 6 = .ok (.invokestatic 125, 3) := by decide +kernel
theorem dX7_fill_9 : decode cX7_fill 9 = .ok (.ifCond .eq 11, 3) := by decide +kernel
theorem dX7_fill_12 : decode cX7_fill 12 = .ok (.aload_n 0, 1) := by decide +kernel
theorem dX7_fill_13 : decode cX7_fill 13 = .ok (.iload_n 2, 1) := by decide +kernel
theorem dX7_fill_14 : decode cX7_fill 14 = .ok (.invokevirtual 128, 3) := by decide +kernel
theorem dX7_fill_17 : decode cX7_fill 17 = .ok (.ifCond .ne 6, 3) := by decide +kernel
theorem dX7_fill_20 : decode cX7_fill 20 = .ok (.ldc 115, 2) := by decide +kernel
theorem dX7_fill_22 : decode cX7_fill 22 = .ok (.ireturn, 1) := by decide +kernel
theorem dX7_fill_23 : decode cX7_fill 23 = .ok (.iload_n 3, 1) := by decide +kernel
theorem dX7_fill_24 : decode cX7_fill 24 = .ok (.iconst 1, 1) := by decide +kernel
theorem dX7_fill_25 : decode cX7_fill 25 = .ok (.sipush 500, 3) := by decide +kernel
theorem dX7_fill_28 : decode cX7_fill 28 = .ok (.invokestatic 32, 3) := by decide +kernel
theorem dX7_fill_31 : decode cX7_fill 31 = .ok (.ifCond .ne 6, 3) := by decide +kernel
theorem dX7_fill_34 : decode cX7_fill 34 = .ok (.ldc 116, 2) := by decide +kernel
theorem dX7_fill_36 : decode cX7_fill 36 = .ok (.ireturn, 1) := by decide +kernel
theorem dX7_fill_37 : decode cX7_fill 37 = .ok (.aload_n 0, 1) := by decide +kernel
theorem dX7_fill_38 : decode cX7_fill 38 = .ok (.iload_n 2, 1) := by decide +kernel
theorem dX7_fill_39 : decode cX7_fill 39 = .ok (.invokevirtual 77, 3) := by decide +kernel
theorem dX7_fill_42 : decode cX7_fill 42 = .ok (.iload_n 3, 1) := by decide +kernel
theorem dX7_fill_43 : decode cX7_fill 43 = .ok (.i2f, 1) := by decide +kernel
theorem dX7_fill_44 : decode cX7_fill 44 = .ok (.fadd, 1) := by decide +kernel
theorem dX7_fill_45 : decode cX7_fill 45 = .ok (.fstore 4, 2) := by decide +kernel
theorem dX7_fill_47 : decode cX7_fill 47 = .ok (.fload 4, 2) := by decide +kernel
theorem dX7_fill_49 : decode cX7_fill 49 = .ok (.ldc 131, 2) := by decide +kernel
theorem dX7_fill_51 : decode cX7_fill 51 = .ok (.fcmp .l, 1) := by decide +kernel
theorem dX7_fill_52 : decode cX7_fill 52 = .ok (.ifCond .le 6, 3) := by decide +kernel
theorem dX7_fill_55 : decode cX7_fill 55 = .ok (.ldc 120, 2) := by decide +kernel
theorem dX7_fill_57 : decode cX7_fill 57 = .ok (.ireturn, 1) := by decide +kernel
theorem dX7_fill_58 : decode cX7_fill 58 = .ok (.aload_n 0, 1) := by decide +kernel
theorem dX7_fill_59 : decode cX7_fill 59 = .ok (.invokevirtual 122, 3) := by decide +kernel
theorem dX7_fill_62 : decode cX7_fill 62 = .ok (.aload_n 0, 1) := by decide +kernel
theorem dX7_fill_63 : decode cX7_fill 63 = .ok (.iload_n 2, 1) := by decide +kernel
theorem dX7_fill_64 : decode cX7_fill 64 = .ok (.bipush 6, 2) := by decide +kernel
theorem dX7_fill_66 : decode cX7_fill 66 = .ok (.fload 4, 2) := by decide +kernel
theorem dX7_fill_68 : decode cX7_fill 68 = .ok (.invokestatic 91, 3) := by decide +kernel
theorem dX7_fill_71 : decode cX7_fill 71 = .ok (.invokevirtual 95, 3) := by decide +kernel
theorem dX7_fill_74 : decode cX7_fill 74 = .ok (.aload_n 0, 1) := by decide +kernel
theorem dX7_fill_75 : decode cX7_fill 75 = .ok (.iload_n 1, 1) := by decide +kernel
theorem dX7_fill_76 : decode cX7_fill 76 = .ok (.iconst 3, 1) := by decide +kernel
theorem dX7_fill_77 : decode cX7_fill 77 = .ok (.iload_n 3, 1) := by decide +kernel
theorem dX7_fill_78 : decode cX7_fill 78 = .ok (.invokevirtual 98, 3) := by decide +kernel
theorem dX7_fill_81 : decode cX7_fill 81 = .ok (.aload_n 0, 1) := by decide +kernel
theorem dX7_fill_82 : decode cX7_fill 82 = .ok (.getfield 7, 3) := by decide +kernel
theorem dX7_fill_85 : decode cX7_fill 85 = .ok (.iconst 4, 1) := by decide +kernel
theorem dX7_fill_86 : decode cX7_fill 86 = .ok (.dup2, 1) := by decide +kernel
theorem dX7_fill_87 : decode cX7_fill 87 = .ok (.iaload, 1) := by decide +kernel
theorem dX7_fill_88 : decode cX7_fill 88 = .ok (.iconst 2, 1) := by decide +kernel
theorem dX7_fill_89 : decode cX7_fill 89 = .ok (.iload_n 3, 1) := by decide +kernel
theorem dX7_fill_90 : decode cX7_fill 90 = .ok (.imul, 1) := by decide +kernel
theorem dX7_fill_91 : decode cX7_fill 91 = .ok (.isub, 1) := by decide +kernel
theorem dX7_fill_92 : decode cX7_fill 92 = .ok (.iastore, 1) := by decide +kernel
theorem dX7_fill_93 : decode cX7_fill 93 = .ok (.aload_n 0, 1) := by decide +kernel
theorem dX7_fill_94 : decode cX7_fill 94 = .ok (.getfield 7, 3) := by decide +kernel
theorem dX7_fill_97 : decode cX7_fill 97 = .ok (.bipush 10, 2) := by decide +kernel
theorem dX7_fill_99 : decode cX7_fill 99 = .ok (.dup2, 1) := by decide +kernel
theorem dX7_fill_100 : decode cX7_fill 100 = .ok (.iaload, 1) := by decide +kernel
theorem dX7_fill_101 : decode cX7_fill 101 = .ok (.iconst 2, 1) := by decide +kernel
theorem dX7_fill_102 : decode cX7_fill 102 = .ok (.iload_n 3, 1) := by decide +kernel
theorem dX7_fill_103 : decode cX7_fill 103 = .ok (.imul, 1) := by decide +kernel
theorem dX7_fill_104 : decode cX7_fill 104 = .ok (.iadd, 1) := by decide +kernel
theorem dX7_fill_105 : decode cX7_fill 105 = .ok (.iastore, 1) := by decide +kernel
theorem dX7_fill_106 : decode cX7_fill 106 = .ok (.iconst 2, 1) := by decide +kernel
theorem dX7_fill_107 : decode cX7_fill 107 = .ok (.iload_n 3, 1) := by decide +kernel
theorem dX7_fill_108 : decode cX7_fill 108 = .ok (.imul, 1) := by decide +kernel
theorem dX7_fill_109 : decode cX7_fill 109 = .ok (.ireturn, 1) := by decide +kernel
set_option maxRecDepth 20000 in
theorem ggX7_mend_X7_isMachine : GoodIn wsX7_mend wsX7_isMachine := goodIn_r _ [9, 4, 10, 11, 8, 12, 31, 32, 33, 34, 35, 36, 37, 38, 39, 40, 41, 42, 43] (by decide +kernel) (by decide +kernel)
set_option maxRecDepth 20000 in
theorem gX7_mend_X7_isMachine : GoodIn wsX7_mend (wsV RX7 128 RX7 yX7_isMachine wsX7_isMachine) := goodIn_app (goodIn_of _ (by decide +kernel)) ggX7_mend_X7_isMachine
set_option maxRecDepth 20000 in
theorem ggX7_mend_X7_ofMachine : GoodIn wsX7_mend wsX7_ofMachine := goodIn_r _ [16, 4, 31, 32, 33, 34, 35, 36, 37, 38, 39, 40, 41, 42, 43] (by decide +kernel) (by decide +kernel)
set_option maxRecDepth 20000 in
theorem gX7_mend_X7_ofMachine : GoodIn wsX7_mend (wsV RX7 51 RX7 yX7_ofMachine wsX7_ofMachine) := goodIn_app (goodIn_of _ (by decide +kernel)) ggX7_mend_X7_ofMachine
set_option maxRecDepth 20000 in
theorem ggX7_mend_X7_records : GoodIn wsX7_mend wsX7_records := goodIn_r _ [20, 21, 22, 4, 31, 32, 33, 34, 35, 36, 37, 38, 39, 40, 41, 42, 43] (by decide +kernel) (by decide +kernel)
set_option maxRecDepth 20000 in
theorem gX7_mend_X7_records : GoodIn wsX7_mend (wsV RX7 122 RX7 yX7_records wsX7_records) := goodIn_app (goodIn_of _ (by decide +kernel)) ggX7_mend_X7_records
set_option maxRecDepth 20000 in
theorem ggX7_mend_X7_addFarmer : GoodIn wsX7_mend wsX7_addFarmer := goodIn_r _ [26, 4, 31, 32, 33, 34, 35, 36, 37, 38, 39, 40, 41, 42, 43] (by decide +kernel) (by decide +kernel)
set_option maxRecDepth 20000 in
theorem gX7_mend_X7_addFarmer : GoodIn wsX7_mend (wsV RX7 98 RX7 yX7_addFarmer wsX7_addFarmer) := goodIn_app (goodIn_of _ (by decide +kernel)) ggX7_mend_X7_addFarmer
set_option maxRecDepth 20000 in
theorem ggX7_mend_X7_layMachine : GoodIn wsX7_mend wsX7_layMachine := goodIn_r _ [30, 4, 31, 32, 33, 34, 35, 36, 37, 38, 39, 40, 41, 42, 43] (by decide +kernel) (by decide +kernel)
set_option maxRecDepth 20000 in
theorem gX7_mend_X7_layMachine : GoodIn wsX7_mend (wsV RX7 95 RX7 yX7_layMachine wsX7_layMachine) := goodIn_app (goodIn_of _ (by decide +kernel)) ggX7_mend_X7_layMachine
theorem dX7_mend_0 : decode cX7_mend 0 = .ok (.aload_n 0, 1) := by decide +kernel
theorem dX7_mend_1 : decode cX7_mend 1 = .ok (.iconst 0, 1) := by decide +kernel
theorem dX7_mend_2 : decode cX7_mend 2 = .ok (.putfield 28, 3) := by decide +kernel
theorem dX7_mend_5 : decode cX7_mend 5 = .ok (.aload_n 0, 1) := by decide +kernel
theorem dX7_mend_6 : decode cX7_mend 6 = .ok (.iload_n 1, 1) := by decide +kernel
theorem dX7_mend_7 : decode cX7_mend 7 = .ok (.invokevirtual 128, 3) := by decide +kernel
theorem dX7_mend_10 : decode cX7_mend 10 = .ok (.ifCond .ne 6, 3) := by decide +kernel
theorem dX7_mend_13 : decode cX7_mend 13 = .ok (.ldc 115, 2) := by decide +kernel
theorem dX7_mend_15 : decode cX7_mend 15 = .ok (.ireturn, 1) := by decide +kernel
theorem dX7_mend_16 : decode cX7_mend 16 = .ok (.aload_n 0, 1) := by decide +kernel
theorem dX7_mend_17 : decode cX7_mend 17 = .ok (.iload_n 1, 1) := by decide +kernel
theorem dX7_mend_18 : decode cX7_mend 18 = .ok (.iconst 2, 1) := by decide +kernel
theorem dX7_mend_19 : decode cX7_mend 19 = .ok (.invokevirtual 51, 3) := by decide +kernel
theorem dX7_mend_22 : decode cX7_mend 22 = .ok (.ifCond .ne 6, 3) := by decide +kernel
theorem dX7_mend_25 : decode cX7_mend 25 = .ok (.ldc 40, 2) := by decide +kernel
theorem dX7_mend_27 : decode cX7_mend 27 = .ok (.ireturn, 1) := by decide +kernel
theorem dX7_mend_28 : decode cX7_mend 28 = .ok (.aload_n 0, 1) := by decide +kernel
theorem dX7_mend_29 : decode cX7_mend 29 = .ok (.invokevirtual 122, 3) := by decide +kernel
theorem dX7_mend_32 : decode cX7_mend 32 = .ok (.aload_n 0, 1) := by decide +kernel
theorem dX7_mend_33 : decode cX7_mend 33 = .ok (.getfield 7, 3) := by decide +kernel
theorem dX7_mend_36 : decode cX7_mend 36 = .ok (.iconst 1, 1) := by decide +kernel
theorem dX7_mend_37 : decode cX7_mend 37 = .ok (.iaload, 1) := by decide +kernel
theorem dX7_mend_38 : decode cX7_mend 38 = .ok (.istore_n 2, 1) := by decide +kernel
theorem dX7_mend_39 : decode cX7_mend 39 = .ok (.iconst 0, 1) := by decide +kernel
theorem dX7_mend_40 : decode cX7_mend 40 = .ok (.istore_n 3, 1) := by decide +kernel
theorem dX7_mend_41 : decode cX7_mend 41 = .ok (.iload_n 3, 1) := by decide +kernel
theorem dX7_mend_42 : decode cX7_mend 42 = .ok (.bipush 6, 2) := by decide +kernel
theorem dX7_mend_44 : decode cX7_mend 44 = .ok (.if_icmp .ge 56, 3) := by decide +kernel
theorem dX7_mend_47 : decode cX7_mend 47 = .ok (.aload_n 0, 1) := by decide +kernel
theorem dX7_mend_48 : decode cX7_mend 48 = .ok (.getfield 7, 3) := by decide +kernel
theorem dX7_mend_51 : decode cX7_mend 51 = .ok (.iconst 1, 1) := by decide +kernel
theorem dX7_mend_52 : decode cX7_mend 52 = .ok (.iaload, 1) := by decide +kernel
theorem dX7_mend_53 : decode cX7_mend 53 = .ok (.aload_n 0, 1) := by decide +kernel
theorem dX7_mend_54 : decode cX7_mend 54 = .ok (.iload_n 1, 1) := by decide +kernel
theorem dX7_mend_55 : decode cX7_mend 55 = .ok (.bipush 8, 2) := by decide +kernel
theorem dX7_mend_57 : decode cX7_mend 57 = .ok (.iload_n 3, 1) := by decide +kernel
theorem dX7_mend_58 : decode cX7_mend 58 = .ok (.iadd, 1) := by decide +kernel
theorem dX7_mend_59 : decode cX7_mend 59 = .ok (.invokevirtual 51, 3) := by decide +kernel
theorem dX7_mend_62 : decode cX7_mend 62 = .ok (.imul, 1) := by decide +kernel
theorem dX7_mend_63 : decode cX7_mend 63 = .ok (.aload_n 0, 1) := by decide +kernel
theorem dX7_mend_64 : decode cX7_mend 64 = .ok (.iload_n 1, 1) := by decide +kernel
theorem dX7_mend_65 : decode cX7_mend 65 = .ok (.iconst 3, 1) := by decide +kernel
theorem dX7_mend_66 : decode cX7_mend 66 = .ok (.invokevirtual 51, 3) := by decide +kernel
theorem dX7_mend_69 : decode cX7_mend 69 = .ok (.idiv, 1) := by decide +kernel
theorem dX7_mend_70 : decode cX7_mend 70 = .ok (.istore 4, 2) := by decide +kernel
theorem dX7_mend_72 : decode cX7_mend 72 = .ok (.aload_n 0, 1) := by decide +kernel
theorem dX7_mend_73 : decode cX7_mend 73 = .ok (.iload_n 3, 1) := by decide +kernel
theorem dX7_mend_74 : decode cX7_mend 74 = .ok (.iconst 0, 1) := by decide +kernel
theorem dX7_mend_75 : decode cX7_mend 75 = .ok (.iload 4, 2) := by decide +kernel
theorem dX7_mend_77 : decode cX7_mend 77 = .ok (.ineg, 1) := by decide +kernel
theorem dX7_mend_78 : decode cX7_mend 78 = .ok (.invokevirtual 98, 3) := by decide +kernel
theorem dX7_mend_81 : decode cX7_mend 81 = .ok (.aload_n 0, 1) := by decide +kernel
theorem dX7_mend_82 : decode cX7_mend 82 = .ok (.iload_n 3, 1) := by decide +kernel
theorem dX7_mend_83 : decode cX7_mend 83 = .ok (.iconst 5, 1) := by decide +kernel
theorem dX7_mend_84 : decode cX7_mend 84 = .ok (.iload 4, 2) := by decide +kernel
theorem dX7_mend_86 : decode cX7_mend 86 = .ok (.invokevirtual 98, 3) := by decide +kernel
theorem dX7_mend_89 : decode cX7_mend 89 = .ok (.iload_n 2, 1) := by decide +kernel
theorem dX7_mend_90 : decode cX7_mend 90 = .ok (.iload 4, 2) := by decide +kernel
theorem dX7_mend_92 : decode cX7_mend 92 = .ok (.isub, 1) := by decide +kernel
theorem dX7_mend_93 : decode cX7_mend 93 = .ok (.istore_n 2, 1) := by decide +kernel
theorem dX7_mend_94 : decode cX7_mend 94 = .ok (.iinc 3 1, 3) := by decide +kernel
theorem dX7_mend_97 : decode cX7_mend 97 = .ok (.goto (-56), 3) := by decide +kernel
theorem dX7_mend_100 : decode cX7_mend 100 = .ok (.iconst 0, 1) := by decide +kernel
theorem dX7_mend_101 : decode cX7_mend 101 = .ok (.istore_n 3, 1) := by decide +kernel
theorem dX7_mend_102 : decode cX7_mend 102 = .ok (.iload_n 3, 1) := by decide +kernel
theorem dX7_mend_103 : decode cX7_mend 103 = .ok (.bipush 6, 2) := by decide +kernel
theorem dX7_mend_105 : decode cX7_mend 105 = .ok (.if_icmp .ge 19, 3) := by decide +kernel
theorem dX7_mend_108 : decode cX7_mend 108 = .ok (.aload_n 0, 1) := by decide +kernel
theorem dX7_mend_109 : decode cX7_mend 109 = .ok (.iload_n 1, 1) := by decide +kernel
theorem dX7_mend_110 : decode cX7_mend 110 = .ok (.bipush 8, 2) := by decide +kernel
theorem dX7_mend_112 : decode cX7_mend 112 = .ok (.iload_n 3, 1) := by decide +kernel
theorem dX7_mend_113 : decode cX7_mend 113 = .ok (.iadd, 1) := by decide +kernel
theorem dX7_mend_114 : decode cX7_mend 114 = .ok (.iconst 0, 1) := by decide +kernel
theorem dX7_mend_115 : decode cX7_mend 115 = .ok (.invokevirtual 95, 3) := by decide +kernel
theorem dX7_mend_118 : decode cX7_mend 118 = .ok (.iinc 3 1, 3) := by decide +kernel
theorem dX7_mend_121 : decode cX7_mend 121 = .ok (.goto (-19), 3) := by decide +kernel
theorem dX7_mend_124 : decode cX7_mend 124 = .ok (.aload_n 0, 1) := by decide +kernel
theorem dX7_mend_125 : decode cX7_mend 125 = .ok (.iload_n 1, 1) := by decide +kernel
theorem dX7_mend_126 : decode cX7_mend 126 = .ok (.iconst 3, 1) := by decide +kernel
theorem dX7_mend_127 : decode cX7_mend 127 = .ok (.iconst 0, 1) := by decide +kernel
theorem dX7_mend_128 : decode cX7_mend 128 = .ok (.invokevirtual 95, 3) := by decide +kernel
theorem dX7_mend_131 : decode cX7_mend 131 = .ok (.aload_n 0, 1) := by decide +kernel
theorem dX7_mend_132 : decode cX7_mend 132 = .ok (.iload_n 1, 1) := by decide +kernel
theorem dX7_mend_133 : decode cX7_mend 133 = .ok (.iconst 2, 1) := by decide +kernel
theorem dX7_mend_134 : decode cX7_mend 134 = .ok (.iconst 0, 1) := by decide +kernel
theorem dX7_mend_135 : decode cX7_mend 135 = .ok (.invokevirtual 95, 3) := by decide +kernel
theorem dX7_mend_138 : decode cX7_mend 138 = .ok (.aload_n 0, 1) := by decide +kernel
theorem dX7_mend_139 : decode cX7_mend 139 = .ok (.iload_n 1, 1) := by decide +kernel
theorem dX7_mend_140 : decode cX7_mend 140 = .ok (.bipush 7, 2) := by decide +kernel
theorem dX7_mend_142 : decode cX7_mend 142 = .ok (.aload_n 0, 1) := by decide +kernel
theorem dX7_mend_143 : decode cX7_mend 143 = .ok (.iload_n 1, 1) := by decide +kernel
theorem dX7_mend_144 : decode cX7_mend 144 = .ok (.bipush 7, 2) := by decide +kernel
theorem dX7_mend_146 : decode cX7_mend 146 = .ok (.invokevirtual 51, 3) := by decide +kernel
theorem dX7_mend_149 : decode cX7_mend 149 = .ok (.iconst 1, 1) := by decide +kernel
theorem dX7_mend_150 : decode cX7_mend 150 = .ok (.iadd, 1) := by decide +kernel
theorem dX7_mend_151 : decode cX7_mend 151 = .ok (.invokevirtual 95, 3) := by decide +kernel
theorem dX7_mend_154 : decode cX7_mend 154 = .ok (.aload_n 0, 1) := by decide +kernel
theorem dX7_mend_155 : decode cX7_mend 155 = .ok (.getfield 7, 3) := by decide +kernel
theorem dX7_mend_158 : decode cX7_mend 158 = .ok (.iconst 4, 1) := by decide +kernel
theorem dX7_mend_159 : decode cX7_mend 159 = .ok (.dup2, 1) := by decide +kernel
theorem dX7_mend_160 : decode cX7_mend 160 = .ok (.iaload, 1) := by decide +kernel
theorem dX7_mend_161 : decode cX7_mend 161 = .ok (.aload_n 0, 1) := by decide +kernel
theorem dX7_mend_162 : decode cX7_mend 162 = .ok (.getfield 7, 3) := by decide +kernel
theorem dX7_mend_165 : decode cX7_mend 165 = .ok (.iconst 1, 1) := by decide +kernel
theorem dX7_mend_166 : decode cX7_mend 166 = .ok (.iaload, 1) := by decide +kernel
theorem dX7_mend_167 : decode cX7_mend 167 = .ok (.isub, 1) := by decide +kernel
theorem dX7_mend_168 : decode cX7_mend 168 = .ok (.iastore, 1) := by decide +kernel
theorem dX7_mend_169 : decode cX7_mend 169 = .ok (.aload_n 0, 1) := by decide +kernel
theorem dX7_mend_170 : decode cX7_mend 170 = .ok (.getfield 7, 3) := by decide +kernel
theorem dX7_mend_173 : decode cX7_mend 173 = .ok (.bipush 9, 2) := by decide +kernel
theorem dX7_mend_175 : decode cX7_mend 175 = .ok (.dup2, 1) := by decide +kernel
theorem dX7_mend_176 : decode cX7_mend 176 = .ok (.iaload, 1) := by decide +kernel
theorem dX7_mend_177 : decode cX7_mend 177 = .ok (.aload_n 0, 1) := by decide +kernel
theorem dX7_mend_178 : decode cX7_mend 178 = .ok (.getfield 7, 3) := by decide +kernel
theorem dX7_mend_181 : decode cX7_mend 181 = .ok (.iconst 1, 1) := by decide +kernel
theorem dX7_mend_182 : decode cX7_mend 182 = .ok (.iaload, 1) := by decide +kernel
theorem dX7_mend_183 : decode cX7_mend 183 = .ok (.iadd, 1) := by decide +kernel
theorem dX7_mend_184 : decode cX7_mend 184 = .ok (.iastore, 1) := by decide +kernel
theorem dX7_mend_185 : decode cX7_mend 185 = .ok (.iload_n 2, 1) := by decide +kernel
theorem dX7_mend_186 : decode cX7_mend 186 = .ok (.ireturn, 1) := by decide +kernel
set_option maxRecDepth 20000 in
theorem ggX7_pay_X7_isFarmer : GoodIn wsX7_pay wsX7_isFarmer := goodIn_r _ [8, 9, 10, 7, 11] (by decide +kernel) (by decide +kernel)
set_option maxRecDepth 20000 in
theorem gX7_pay_X7_isFarmer : GoodIn wsX7_pay (va_wsS RX7 125 yX7_isFarmer wsX7_isFarmer) := goodIn_app (goodIn_of _ (by decide +kernel)) ggX7_pay_X7_isFarmer
set_option maxRecDepth 20000 in
theorem ggX7_pay_X7_in : GoodIn wsX7_pay wsX7_in := goodIn_r _ [11] (by decide +kernel) (by decide +kernel)
set_option maxRecDepth 20000 in
theorem gX7_pay_X7_in : GoodIn wsX7_pay (va_wsS RX7 32 yX7_in wsX7_in) := goodIn_app (goodIn_of _ (by decide +kernel)) ggX7_pay_X7_in
set_option maxRecDepth 20000 in
theorem ggX7_pay_X7_records : GoodIn wsX7_pay wsX7_records := goodIn_r _ [15, 16, 17, 4, 26, 27, 28, 29, 30, 31, 32, 33, 34, 35, 36, 37, 38] (by decide +kernel) (by decide +kernel)
set_option maxRecDepth 20000 in
theorem gX7_pay_X7_records : GoodIn wsX7_pay (wsV RX7 122 RX7 yX7_records wsX7_records) := goodIn_app (goodIn_of _ (by decide +kernel)) ggX7_pay_X7_records
set_option maxRecDepth 20000 in
theorem ggX7_pay_X7_addFarmer : GoodIn wsX7_pay wsX7_addFarmer := goodIn_r _ [21, 4, 26, 27, 28, 29, 30, 31, 32, 33, 34, 35, 36, 37, 38] (by decide +kernel) (by decide +kernel)
set_option maxRecDepth 20000 in
theorem gX7_pay_X7_addFarmer : GoodIn wsX7_pay (wsV RX7 98 RX7 yX7_addFarmer wsX7_addFarmer) := goodIn_app (goodIn_of _ (by decide +kernel)) ggX7_pay_X7_addFarmer
set_option maxRecDepth 20000 in
theorem ggX7_pay_X7_ofFarmer : GoodIn wsX7_pay wsX7_ofFarmer := goodIn_r _ [25, 4, 26, 27, 28, 29, 30, 31, 32, 33, 34, 35, 36, 37, 38] (by decide +kernel) (by decide +kernel)
set_option maxRecDepth 20000 in
theorem gX7_pay_X7_ofFarmer : GoodIn wsX7_pay (wsV RX7 66 RX7 yX7_ofFarmer wsX7_ofFarmer) := goodIn_app (goodIn_of _ (by decide +kernel)) ggX7_pay_X7_ofFarmer
theorem dX7_pay_0 : decode cX7_pay 0 = .ok (.aload_n 0, 1) := by decide +kernel
theorem dX7_pay_1 : decode cX7_pay 1 = .ok (.iconst 0, 1) := by decide +kernel
theorem dX7_pay_2 : decode cX7_pay 2 = .ok (.putfield 28, 3) := by decide +kernel
theorem dX7_pay_5 : decode cX7_pay 5 = .ok (.iload_n 1, 1) := by decide +kernel
theorem dX7_pay_6 : decode cX7_pay 6 = .ok (.invokestatic 125, 3) := by decide +kernel
theorem dX7_pay_9 : decode cX7_pay 9 = .ok (.ifCond .ne 6, 3) := by decide +kernel
theorem dX7_pay_12 : decode cX7_pay 12 = .ok (.ldc 115, 2) := by decide +kernel
theorem dX7_pay_14 : decode cX7_pay 14 = .ok (.ireturn, 1) := by decide +kernel
theorem dX7_pay_15 : decode cX7_pay 15 = .ok (.iload_n 2, 1) := by decide +kernel
theorem dX7_pay_16 : decode cX7_pay 16 = .ok (.iconst 1, 1) := by decide +kernel
theorem dX7_pay_17 : decode cX7_pay 17 = .ok (.sipush 9999, 3) := by decide +kernel
theorem dX7_pay_20 : decode cX7_pay 20 = .ok (.invokestatic 32, 3) := by decide +kernel
theorem dX7_pay_23 : decode cX7_pay 23 = .ok (.ifCond .ne 6, 3) := by decide +kernel
theorem dX7_pay_26 : decode cX7_pay 26 = .ok (.ldc 116, 2) := by decide +kernel
theorem dX7_pay_28 : decode cX7_pay 28 = .ok (.ireturn, 1) := by decide +kernel
theorem dX7_pay_29 : decode cX7_pay 29 = .ok (.aload_n 0, 1) := by decide +kernel
theorem dX7_pay_30 : decode cX7_pay 30 = .ok (.invokevirtual 122, 3) := by decide +kernel
theorem dX7_pay_33 : decode cX7_pay 33 = .ok (.aload_n 0, 1) := by decide +kernel
theorem dX7_pay_34 : decode cX7_pay 34 = .ok (.iload_n 1, 1) := by decide +kernel
theorem dX7_pay_35 : decode cX7_pay 35 = .ok (.iconst 0, 1) := by decide +kernel
theorem dX7_pay_36 : decode cX7_pay 36 = .ok (.iload_n 2, 1) := by decide +kernel
theorem dX7_pay_37 : decode cX7_pay 37 = .ok (.invokevirtual 98, 3) := by decide +kernel
theorem dX7_pay_40 : decode cX7_pay 40 = .ok (.aload_n 0, 1) := by decide +kernel
theorem dX7_pay_41 : decode cX7_pay 41 = .ok (.getfield 7, 3) := by decide +kernel
theorem dX7_pay_44 : decode cX7_pay 44 = .ok (.iconst 4, 1) := by decide +kernel
theorem dX7_pay_45 : decode cX7_pay 45 = .ok (.dup2, 1) := by decide +kernel
theorem dX7_pay_46 : decode cX7_pay 46 = .ok (.iaload, 1) := by decide +kernel
theorem dX7_pay_47 : decode cX7_pay 47 = .ok (.iload_n 2, 1) := by decide +kernel
theorem dX7_pay_48 : decode cX7_pay 48 = .ok (.iadd, 1) := by decide +kernel
theorem dX7_pay_49 : decode cX7_pay 49 = .ok (.iastore, 1) := by decide +kernel
theorem dX7_pay_50 : decode cX7_pay 50 = .ok (.aload_n 0, 1) := by decide +kernel
theorem dX7_pay_51 : decode cX7_pay 51 = .ok (.getfield 7, 3) := by decide +kernel
theorem dX7_pay_54 : decode cX7_pay 54 = .ok (.bipush 11, 2) := by decide +kernel
theorem dX7_pay_56 : decode cX7_pay 56 = .ok (.dup2, 1) := by decide +kernel
theorem dX7_pay_57 : decode cX7_pay 57 = .ok (.iaload, 1) := by decide +kernel
theorem dX7_pay_58 : decode cX7_pay 58 = .ok (.iload_n 2, 1) := by decide +kernel
theorem dX7_pay_59 : decode cX7_pay 59 = .ok (.iadd, 1) := by decide +kernel
theorem dX7_pay_60 : decode cX7_pay 60 = .ok (.iastore, 1) := by decide +kernel
theorem dX7_pay_61 : decode cX7_pay 61 = .ok (.aload_n 0, 1) := by decide +kernel
theorem dX7_pay_62 : decode cX7_pay 62 = .ok (.iload_n 1, 1) := by decide +kernel
theorem dX7_pay_63 : decode cX7_pay 63 = .ok (.iconst 0, 1) := by decide +kernel
theorem dX7_pay_64 : decode cX7_pay 64 = .ok (.invokevirtual 66, 3) := by decide +kernel
theorem dX7_pay_67 : decode cX7_pay 67 = .ok (.ireturn, 1) := by decide +kernel
set_option maxRecDepth 20000 in
theorem ggX7_refuses_X7_isFarmer : GoodIn wsX7_refuses wsX7_isFarmer := goodIn_r _ [9, 10, 11, 8, 12] (by decide +kernel) (by decide +kernel)
set_option maxRecDepth 20000 in
theorem gX7_refuses_X7_isFarmer : GoodIn wsX7_refuses (va_wsS RX7 125 yX7_isFarmer wsX7_isFarmer) := goodIn_app (goodIn_of _ (by decide +kernel)) ggX7_refuses_X7_isFarmer
set_option maxRecDepth 20000 in
theorem ggX7_refuses_X7_isMachine : GoodIn wsX7_refuses wsX7_isMachine := goodIn_r _ [16, 3, 10, 11, 8, 12, 25, 26, 27, 28, 29, 30, 31, 32, 33, 34, 35, 36, 37] (by decide +kernel) (by decide +kernel)
set_option maxRecDepth 20000 in
theorem gX7_refuses_X7_isMachine : GoodIn wsX7_refuses (wsV RX7 128 RX7 yX7_isMachine wsX7_isMachine) := goodIn_app (goodIn_of _ (by decide +kernel)) ggX7_refuses_X7_isMachine
set_option maxRecDepth 20000 in
theorem ggX7_refuses_X7_in : GoodIn wsX7_refuses wsX7_in := goodIn_r _ [12] (by decide +kernel) (by decide +kernel)
set_option maxRecDepth 20000 in
theorem gX7_refuses_X7_in : GoodIn wsX7_refuses (va_wsS RX7 32 yX7_in wsX7_in) := goodIn_app (goodIn_of _ (by decide +kernel)) ggX7_refuses_X7_in
set_option maxRecDepth 20000 in
theorem ggX7_refuses_X7_bookedOn : GoodIn wsX7_refuses wsX7_bookedOn := goodIn_r _ [20, 3, 21, 22, 23, 8, 24, 25, 26, 27, 28, 29, 30, 31, 32, 33, 34, 35, 36, 37] (by decide +kernel) (by decide +kernel)
set_option maxRecDepth 20000 in
theorem gX7_refuses_X7_bookedOn : GoodIn wsX7_refuses (wsV RX7 84 RX7 yX7_bookedOn wsX7_bookedOn) := goodIn_app (goodIn_of _ (by decide +kernel)) ggX7_refuses_X7_bookedOn
theorem dX7_refuses_0 : decode cX7_refuses 0 = .ok (.iload_n 1, 1) := by decide +kernel
theorem dX7_refuses_1 : decode cX7_refuses 1 = .ok (.invokestatic 125, 3) := by decide +kernel
theorem dX7_refuses_4 : decode cX7_refuses 4 = .ok (.ifCond .eq 11, 3) := by decide +kernel
theorem dX7_refuses_7 : decode cX7_refuses 7 = .ok (.aload_n 0, 1) := by decide +kernel
theorem dX7_refuses_8 : decode cX7_refuses 8 = .ok (.iload_n 2, 1) := by decide +kernel
theorem dX7_refuses_9 : decode cX7_refuses 9 = .ok (.invokevirtual 128, 3) := by decide +kernel
theorem dX7_refuses_12 : decode cX7_refuses 12 = .ok (.ifCond .ne 6, 3) := by decide +kernel
theorem dX7_refuses_15 : decode cX7_refuses 15 = .ok (.ldc 115, 2) := by decide +kernel
theorem dX7_refuses_17 : decode cX7_refuses 17 = .ok (.ireturn, 1) := by decide +kernel
theorem dX7_refuses_18 : decode cX7_refuses 18 = .ok (.iload_n 3, 1) := by decide +kernel
theorem dX7_refuses_19 : decode cX7_refuses 19 = .ok (.iconst 1, 1) := by decide +kernel
theorem dX7_refuses_20 : decode cX7_refuses 20 = .ok (.bipush 99, 2) := by decide +kernel
theorem dX7_refuses_22 : decode cX7_refuses 22 = .ok (.invokestatic 32, 3) := by decide +kernel
theorem dX7_refuses_25 : decode cX7_refuses 25 = .ok (.ifCond .eq 14, 3) := by decide +kernel
theorem dX7_refuses_28 : decode cX7_refuses 28 = .ok (.iload 4, 2) := by decide +kernel
theorem dX7_refuses_30 : decode cX7_refuses 30 = .ok (.iconst 1, 1) := by decide +kernel
theorem dX7_refuses_31 : decode cX7_refuses 31 = .ok (.bipush 12, 2) := by decide +kernel
theorem dX7_refuses_33 : decode cX7_refuses 33 = .ok (.invokestatic 32, 3) := by decide +kernel
theorem dX7_refuses_36 : decode cX7_refuses 36 = .ok (.ifCond .ne 6, 3) := by decide +kernel
theorem dX7_refuses_39 : decode cX7_refuses 39 = .ok (.ldc 116, 2) := by decide +kernel
theorem dX7_refuses_41 : decode cX7_refuses 41 = .ok (.ireturn, 1) := by decide +kernel
theorem dX7_refuses_42 : decode cX7_refuses 42 = .ok (.aload_n 0, 1) := by decide +kernel
theorem dX7_refuses_43 : decode cX7_refuses 43 = .ok (.getfield 7, 3) := by decide +kernel
theorem dX7_refuses_46 : decode cX7_refuses 46 = .ok (.bipush 6, 2) := by decide +kernel
theorem dX7_refuses_48 : decode cX7_refuses 48 = .ok (.iaload, 1) := by decide +kernel
theorem dX7_refuses_49 : decode cX7_refuses 49 = .ok (.bipush 30, 2) := by decide +kernel
theorem dX7_refuses_51 : decode cX7_refuses 51 = .ok (.if_icmp .ne 8, 3) := by decide +kernel
theorem dX7_refuses_54 : decode cX7_refuses 54 = .ok (.ldc 120, 2) := by decide +kernel
theorem dX7_refuses_56 : decode cX7_refuses 56 = .ok (.goto 30, 3) := by decide +kernel
theorem dX7_refuses_59 : decode cX7_refuses 59 = .ok (.aload_n 0, 1) := by decide +kernel
theorem dX7_refuses_60 : decode cX7_refuses 60 = .ok (.iload_n 2, 1) := by decide +kernel
theorem dX7_refuses_61 : decode cX7_refuses 61 = .ok (.aload_n 0, 1) := by decide +kernel
theorem dX7_refuses_62 : decode cX7_refuses 62 = .ok (.getfield 7, 3) := by decide +kernel
theorem dX7_refuses_65 : decode cX7_refuses 65 = .ok (.iconst 3, 1) := by decide +kernel
theorem dX7_refuses_66 : decode cX7_refuses 66 = .ok (.iaload, 1) := by decide +kernel
theorem dX7_refuses_67 : decode cX7_refuses 67 = .ok (.iload_n 3, 1) := by decide +kernel
theorem dX7_refuses_68 : decode cX7_refuses 68 = .ok (.iadd, 1) := by decide +kernel
theorem dX7_refuses_69 : decode cX7_refuses 69 = .ok (.invokevirtual 84, 3) := by decide +kernel
theorem dX7_refuses_72 : decode cX7_refuses 72 = .ok (.iload 4, 2) := by decide +kernel
theorem dX7_refuses_74 : decode cX7_refuses 74 = .ok (.iadd, 1) := by decide +kernel
theorem dX7_refuses_75 : decode cX7_refuses 75 = .ok (.bipush 12, 2) := by decide +kernel
theorem dX7_refuses_77 : decode cX7_refuses 77 = .ok (.if_icmp .le 8, 3) := by decide +kernel
theorem dX7_refuses_80 : decode cX7_refuses 80 = .ok (.ldc 121, 2) := by decide +kernel
theorem dX7_refuses_82 : decode cX7_refuses 82 = .ok (.goto 4, 3) := by decide +kernel
theorem dX7_refuses_85 : decode cX7_refuses 85 = .ok (.iconst 0, 1) := by decide +kernel
theorem dX7_refuses_86 : decode cX7_refuses 86 = .ok (.ireturn, 1) := by decide +kernel
set_option maxRecDepth 20000 in
theorem ggX7_books_X7_layBooking : GoodIn wsX7_books wsX7_layBooking := goodIn_r _ [6, 1, 7, 8, 9, 10, 11, 12, 13, 14, 15, 16, 17, 18, 19] (by decide +kernel) (by decide +kernel)
set_option maxRecDepth 20000 in
theorem gX7_books_X7_layBooking : GoodIn wsX7_books (wsV RX7 69 RX7 yX7_layBooking wsX7_layBooking) := goodIn_app (goodIn_of _ (by decide +kernel)) ggX7_books_X7_layBooking
theorem dX7_books_0 : decode cX7_books 0 = .ok (.aload_n 0, 1) := by decide +kernel
theorem dX7_books_1 : decode cX7_books 1 = .ok (.getfield 7, 3) := by decide +kernel
theorem dX7_books_4 : decode cX7_books 4 = .ok (.bipush 6, 2) := by decide +kernel
theorem dX7_books_6 : decode cX7_books 6 = .ok (.iaload, 1) := by decide +kernel
theorem dX7_books_7 : decode cX7_books 7 = .ok (.istore 5, 2) := by decide +kernel
theorem dX7_books_9 : decode cX7_books 9 = .ok (.aload_n 0, 1) := by decide +kernel
theorem dX7_books_10 : decode cX7_books 10 = .ok (.iload 5, 2) := by decide +kernel
theorem dX7_books_12 : decode cX7_books 12 = .ok (.iconst 0, 1) := by decide +kernel
theorem dX7_books_13 : decode cX7_books 13 = .ok (.aload_n 0, 1) := by decide +kernel
theorem dX7_books_14 : decode cX7_books 14 = .ok (.getfield 7, 3) := by decide +kernel
theorem dX7_books_17 : decode cX7_books 17 = .ok (.iconst 5, 1) := by decide +kernel
theorem dX7_books_18 : decode cX7_books 18 = .ok (.iaload, 1) := by decide +kernel
theorem dX7_books_19 : decode cX7_books 19 = .ok (.invokevirtual 69, 3) := by decide +kernel
theorem dX7_books_22 : decode cX7_books 22 = .ok (.aload_n 0, 1) := by decide +kernel
theorem dX7_books_23 : decode cX7_books 23 = .ok (.iload 5, 2) := by decide +kernel
theorem dX7_books_25 : decode cX7_books 25 = .ok (.iconst 1, 1) := by decide +kernel
theorem dX7_books_26 : decode cX7_books 26 = .ok (.iload_n 1, 1) := by decide +kernel
theorem dX7_books_27 : decode cX7_books 27 = .ok (.invokevirtual 69, 3) := by decide +kernel
theorem dX7_books_30 : decode cX7_books 30 = .ok (.aload_n 0, 1) := by decide +kernel
theorem dX7_books_31 : decode cX7_books 31 = .ok (.iload 5, 2) := by decide +kernel
theorem dX7_books_33 : decode cX7_books 33 = .ok (.iconst 2, 1) := by decide +kernel
theorem dX7_books_34 : decode cX7_books 34 = .ok (.iload_n 2, 1) := by decide +kernel
theorem dX7_books_35 : decode cX7_books 35 = .ok (.invokevirtual 69, 3) := by decide +kernel
theorem dX7_books_38 : decode cX7_books 38 = .ok (.aload_n 0, 1) := by decide +kernel
theorem dX7_books_39 : decode cX7_books 39 = .ok (.iload 5, 2) := by decide +kernel
theorem dX7_books_41 : decode cX7_books 41 = .ok (.iconst 3, 1) := by decide +kernel
theorem dX7_books_42 : decode cX7_books 42 = .ok (.aload_n 0, 1) := by decide +kernel
theorem dX7_books_43 : decode cX7_books 43 = .ok (.getfield 7, 3) := by decide +kernel
theorem dX7_books_46 : decode cX7_books 46 = .ok (.iconst 3, 1) := by decide +kernel
theorem dX7_books_47 : decode cX7_books 47 = .ok (.iaload, 1) := by decide +kernel
theorem dX7_books_48 : decode cX7_books 48 = .ok (.iload_n 3, 1) := by decide +kernel
theorem dX7_books_49 : decode cX7_books 49 = .ok (.iadd, 1) := by decide +kernel
theorem dX7_books_50 : decode cX7_books 50 = .ok (.invokevirtual 69, 3) := by decide +kernel
theorem dX7_books_53 : decode cX7_books 53 = .ok (.aload_n 0, 1) := by decide +kernel
theorem dX7_books_54 : decode cX7_books 54 = .ok (.iload 5, 2) := by decide +kernel
theorem dX7_books_56 : decode cX7_books 56 = .ok (.iconst 4, 1) := by decide +kernel
theorem dX7_books_57 : decode cX7_books 57 = .ok (.iload 4, 2) := by decide +kernel
theorem dX7_books_59 : decode cX7_books 59 = .ok (.invokevirtual 69, 3) := by decide +kernel
theorem dX7_books_62 : decode cX7_books 62 = .ok (.aload_n 0, 1) := by decide +kernel
theorem dX7_books_63 : decode cX7_books 63 = .ok (.iload 5, 2) := by decide +kernel
theorem dX7_books_65 : decode cX7_books 65 = .ok (.iconst 5, 1) := by decide +kernel
theorem dX7_books_66 : decode cX7_books 66 = .ok (.iconst 0, 1) := by decide +kernel
theorem dX7_books_67 : decode cX7_books 67 = .ok (.invokevirtual 69, 3) := by decide +kernel
theorem dX7_books_70 : decode cX7_books 70 = .ok (.aload_n 0, 1) := by decide +kernel
theorem dX7_books_71 : decode cX7_books 71 = .ok (.getfield 7, 3) := by decide +kernel
theorem dX7_books_74 : decode cX7_books 74 = .ok (.bipush 6, 2) := by decide +kernel
theorem dX7_books_76 : decode cX7_books 76 = .ok (.dup2, 1) := by decide +kernel
theorem dX7_books_77 : decode cX7_books 77 = .ok (.iaload, 1) := by decide +kernel
theorem dX7_books_78 : decode cX7_books 78 = .ok (.iconst 1, 1) := by decide +kernel
theorem dX7_books_79 : decode cX7_books 79 = .ok (.iadd, 1) := by decide +kernel
theorem dX7_books_80 : decode cX7_books 80 = .ok (.iastore, 1) := by decide +kernel
theorem dX7_books_81 : decode cX7_books 81 = .ok (.aload_n 0, 1) := by decide +kernel
theorem dX7_books_82 : decode cX7_books 82 = .ok (.getfield 7, 3) := by decide +kernel
theorem dX7_books_85 : decode cX7_books 85 = .ok (.iconst 5, 1) := by decide +kernel
theorem dX7_books_86 : decode cX7_books 86 = .ok (.dup2, 1) := by decide +kernel
theorem dX7_books_87 : decode cX7_books 87 = .ok (.iaload, 1) := by decide +kernel
theorem dX7_books_88 : decode cX7_books 88 = .ok (.iconst 1, 1) := by decide +kernel
theorem dX7_books_89 : decode cX7_books 89 = .ok (.iadd, 1) := by decide +kernel
theorem dX7_books_90 : decode cX7_books 90 = .ok (.iastore, 1) := by decide +kernel
theorem dX7_books_91 : decode cX7_books 91 = .ok (.aload_n 0, 1) := by decide +kernel
theorem dX7_books_92 : decode cX7_books 92 = .ok (.getfield 7, 3) := by decide +kernel
theorem dX7_books_95 : decode cX7_books 95 = .ok (.iconst 5, 1) := by decide +kernel
theorem dX7_books_96 : decode cX7_books 96 = .ok (.iaload, 1) := by decide +kernel
theorem dX7_books_97 : decode cX7_books 97 = .ok (.iconst 1, 1) := by decide +kernel
theorem dX7_books_98 : decode cX7_books 98 = .ok (.isub, 1) := by decide +kernel
theorem dX7_books_99 : decode cX7_books 99 = .ok (.ireturn, 1) := by decide +kernel
set_option maxRecDepth 20000 in
theorem ggX7_book_X7_refuses : GoodIn wsX7_book wsX7_refuses := goodIn_r _ [6, 7, 8, 9, 10, 11, 12, 13, 5, 14, 15, 16, 17, 18, 19, 20, 21, 22, 23, 24, 25, 26, 27, 28, 29, 44, 45, 46, 47, 48, 49, 50, 51, 52, 53, 54, 55, 56] (by decide +kernel) (by decide +kernel)
set_option maxRecDepth 20000 in
theorem gX7_book_X7_refuses : GoodIn wsX7_book (wsV RX7 132 RX7 yX7_refuses wsX7_refuses) := goodIn_app (goodIn_of _ (by decide +kernel)) ggX7_book_X7_refuses
set_option maxRecDepth 20000 in
theorem ggX7_book_X7_records : GoodIn wsX7_book wsX7_records := goodIn_r _ [33, 34, 35, 9, 44, 45, 46, 47, 48, 49, 50, 51, 52, 53, 54, 55, 56] (by decide +kernel) (by decide +kernel)
set_option maxRecDepth 20000 in
theorem gX7_book_X7_records : GoodIn wsX7_book (wsV RX7 122 RX7 yX7_records wsX7_records) := goodIn_app (goodIn_of _ (by decide +kernel)) ggX7_book_X7_records
set_option maxRecDepth 20000 in
theorem ggX7_book_X7_books : GoodIn wsX7_book wsX7_books := goodIn_r _ [39, 9, 40, 41, 42, 5, 43, 44, 45, 46, 47, 48, 49, 50, 51, 52, 53, 54, 55, 56] (by decide +kernel) (by decide +kernel)
set_option maxRecDepth 20000 in
theorem gX7_book_X7_books : GoodIn wsX7_book (wsV RX7 135 RX7 yX7_books wsX7_books) := goodIn_app (goodIn_of _ (by decide +kernel)) ggX7_book_X7_books
theorem dX7_book_0 : decode cX7_book 0 = .ok (.aload_n 0, 1) := by decide +kernel
theorem dX7_book_1 : decode cX7_book 1 = .ok (.iconst 0, 1) := by decide +kernel
theorem dX7_book_2 : decode cX7_book 2 = .ok (.putfield 28, 3) := by decide +kernel
theorem dX7_book_5 : decode cX7_book 5 = .ok (.aload_n 0, 1) := by decide +kernel
theorem dX7_book_6 : decode cX7_book 6 = .ok (.iload_n 1, 1) := by decide +kernel
theorem dX7_book_7 : decode cX7_book 7 = .ok (.iload_n 2, 1) := by decide +kernel
theorem dX7_book_8 : decode cX7_book 8 = .ok (.iload_n 3, 1) := by decide +kernel
theorem dX7_book_9 : decode cX7_book 9 = .ok (.iload 4, 2) := by decide +kernel
theorem dX7_book_11 : decode cX7_book 11 = .ok (.invokevirtual 132, 3) := by decide +kernel
theorem dX7_book_14 : decode cX7_book 14 = .ok (.istore 5, 2) := by decide +kernel
theorem dX7_book_16 : decode cX7_book 16 = .ok (.iload 5, 2) := by decide +kernel
theorem dX7_book_18 : decode cX7_book 18 = .ok (.ifCond .eq 6, 3) := by decide +kernel
theorem dX7_book_21 : decode cX7_book 21 = .ok (.iload 5, 2) := by decide +kernel
theorem dX7_book_23 : decode cX7_book 23 = .ok (.ireturn, 1) := by decide +kernel
theorem dX7_book_24 : decode cX7_book 24 = .ok (.aload_n 0, 1) := by decide +kernel
theorem dX7_book_25 : decode cX7_book 25 = .ok (.invokevirtual 122, 3) := by decide +kernel
theorem dX7_book_28 : decode cX7_book 28 = .ok (.aload_n 0, 1) := by decide +kernel
theorem dX7_book_29 : decode cX7_book 29 = .ok (.iload_n 1, 1) := by decide +kernel
theorem dX7_book_30 : decode cX7_book 30 = .ok (.iload_n 2, 1) := by decide +kernel
theorem dX7_book_31 : decode cX7_book 31 = .ok (.iload_n 3, 1) := by decide +kernel
theorem dX7_book_32 : decode cX7_book 32 = .ok (.iload 4, 2) := by decide +kernel
theorem dX7_book_34 : decode cX7_book 34 = .ok (.invokevirtual 135, 3) := by decide +kernel
theorem dX7_book_37 : decode cX7_book 37 = .ok (.ireturn, 1) := by decide +kernel
theorem dX7_swapsAside_0 : decode cX7_swapsAside 0 = .ok (.iconst 0, 1) := by decide +kernel
theorem dX7_swapsAside_1 : decode cX7_swapsAside 1 = .ok (.istore_n 1, 1) := by decide +kernel
theorem dX7_swapsAside_2 : decode cX7_swapsAside 2 = .ok (.iload_n 1, 1) := by decide +kernel
theorem dX7_swapsAside_3 : decode cX7_swapsAside 3 = .ok (.sipush 313, 3) := by decide +kernel
theorem dX7_swapsAside_6 : decode cX7_swapsAside 6 = .ok (.if_icmp .ge 35, 3) := by decide +kernel
theorem dX7_swapsAside_9 : decode cX7_swapsAside 9 = .ok (.aload_n 0, 1) := by decide +kernel
theorem dX7_swapsAside_10 : decode cX7_swapsAside 10 = .ok (.getfield 7, 3) := by decide +kernel
theorem dX7_swapsAside_13 : decode cX7_swapsAside 13 = .ok (.iload_n 1, 1) := by decide +kernel
theorem dX7_swapsAside_14 : decode cX7_swapsAside 14 = .ok (.iaload, 1) := by decide +kernel
theorem dX7_swapsAside_15 : decode cX7_swapsAside 15 = .ok (.istore_n 2, 1) := by decide +kernel
theorem dX7_swapsAside_16 : decode cX7_swapsAside 16 = .ok (.aload_n 0, 1) := by decide +kernel
theorem dX7_swapsAside_17 : decode cX7_swapsAside 17 = .ok (.getfield 7, 3) := by decide +kernel
theorem dX7_swapsAside_20 : decode cX7_swapsAside 20 = .ok (.iload_n 1, 1) := by decide +kernel
theorem dX7_swapsAside_21 : decode cX7_swapsAside 21 = .ok (.aload_n 0, 1) := by decide +kernel
theorem dX7_swapsAside_22 : decode cX7_swapsAside 22 = .ok (.getfield 13, 3) := by decide +kernel
theorem dX7_swapsAside_25 : decode cX7_swapsAside 25 = .ok (.iload_n 1, 1) := by decide +kernel
theorem dX7_swapsAside_26 : decode cX7_swapsAside 26 = .ok (.iaload, 1) := by decide +kernel
theorem dX7_swapsAside_27 : decode cX7_swapsAside 27 = .ok (.iastore, 1) := by decide +kernel
theorem dX7_swapsAside_28 : decode cX7_swapsAside 28 = .ok (.aload_n 0, 1) := by decide +kernel
theorem dX7_swapsAside_29 : decode cX7_swapsAside 29 = .ok (.getfield 13, 3) := by decide +kernel
theorem dX7_swapsAside_32 : decode cX7_swapsAside 32 = .ok (.iload_n 1, 1) := by decide +kernel
theorem dX7_swapsAside_33 : decode cX7_swapsAside 33 = .ok (.iload_n 2, 1) := by decide +kernel
theorem dX7_swapsAside_34 : decode cX7_swapsAside 34 = .ok (.iastore, 1) := by decide +kernel
theorem dX7_swapsAside_35 : decode cX7_swapsAside 35 = .ok (.iinc 1 1, 3) := by decide +kernel
theorem dX7_swapsAside_38 : decode cX7_swapsAside 38 = .ok (.goto (-36), 3) := by decide +kernel
theorem dX7_swapsAside_41 : decode cX7_swapsAside 41 = .ok (.return_, 1) := by decide +kernel
