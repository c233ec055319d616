set_option maxRecDepth 20000 in
theorem ggX7_bookAll_X7_reads : GoodIn wsX7_bookAll wsX7_reads := goodIn_r _ [12, 13, 14, 6, 15, 2, 16, 17, 18, 11, 19, 7, 20, 21, 22, 23, 24, 25, 26, 27, 28, 29, 30, 31, 32, 33, 34, 35, 36, 37, 38, 39, 81, 82, 83, 84, 85, 86, 87, 88, 89, 90, 91, 92, 93] (by decide +kernel) (by decide +kernel)
set_option maxRecDepth 20000 in
theorem gX7_bookAll_X7_reads : GoodIn wsX7_bookAll (wsV RX7 138 RX7 yX7_reads wsX7_reads) := goodIn_app (goodIn_of _ (by decide +kernel)) ggX7_bookAll_X7_reads
set_option maxRecDepth 20000 in
theorem ggX7_bookAll_X7_refuses : GoodIn wsX7_bookAll wsX7_refuses := goodIn_r _ [43, 44, 45, 5, 46, 47, 48, 49, 11, 50, 29, 30, 31, 51, 52, 53, 54, 55, 56, 57, 58, 59, 60, 61, 62, 81, 82, 83, 84, 85, 86, 87, 88, 89, 90, 91, 92, 93] (by decide +kernel) (by decide +kernel)
set_option maxRecDepth 20000 in
theorem gX7_bookAll_X7_refuses : GoodIn wsX7_bookAll (wsV RX7 132 RX7 yX7_refuses wsX7_refuses) := goodIn_app (goodIn_of _ (by decide +kernel)) ggX7_bookAll_X7_refuses
set_option maxRecDepth 20000 in
theorem ggX7_bookAll_X7_swapsAside : GoodIn wsX7_bookAll wsX7_swapsAside := goodIn_r _ [66, 5, 4, 81, 82, 83, 84, 85, 86, 87, 88, 89, 90, 91, 92, 93] (by decide +kernel) (by decide +kernel)
set_option maxRecDepth 20000 in
theorem gX7_bookAll_X7_swapsAside : GoodIn wsX7_bookAll (wsV RX7 146 RX7 yX7_swapsAside wsX7_swapsAside) := goodIn_app (goodIn_of _ (by decide +kernel)) ggX7_bookAll_X7_swapsAside
set_option maxRecDepth 20000 in
theorem ggX7_bookAll_X7_books : GoodIn wsX7_bookAll wsX7_books := goodIn_r _ [70, 5, 71, 72, 73, 11, 74, 81, 82, 83, 84, 85, 86, 87, 88, 89, 90, 91, 92, 93] (by decide +kernel) (by decide +kernel)
set_option maxRecDepth 20000 in
theorem gX7_bookAll_X7_books : GoodIn wsX7_bookAll (wsV RX7 135 RX7 yX7_books wsX7_books) := goodIn_app (goodIn_of _ (by decide +kernel)) ggX7_bookAll_X7_books
set_option maxRecDepth 20000 in
theorem ggX7_bookAll_X7_records : GoodIn wsX7_bookAll wsX7_records := goodIn_r _ [78, 79, 80, 5, 81, 82, 83, 84, 85, 86, 87, 88, 89, 90, 91, 92, 93] (by decide +kernel) (by decide +kernel)
set_option maxRecDepth 20000 in
theorem gX7_bookAll_X7_records : GoodIn wsX7_bookAll (wsV RX7 122 RX7 yX7_records wsX7_records) := goodIn_app (goodIn_of _ (by decide +kernel)) ggX7_bookAll_X7_records
theorem dX7_bookAll_0 : decode cX7_bookAll 0 = .ok (.aload_n 0, 1) := by decide +kernel
theorem dX7_bookAll_1 : decode cX7_bookAll 1 = .ok (.iconst 0, 1) := by decide +kernel
theorem dX7_bookAll_2 : decode cX7_bookAll 2 = .ok (.putfield 28, 3) := by decide +kernel
theorem dX7_bookAll_5 : decode cX7_bookAll 5 = .ok (.aload_n 0, 1) := by decide +kernel
theorem dX7_bookAll_6 : decode cX7_bookAll 6 = .ok (.invokevirtual 138, 3) := by decide +kernel
theorem dX7_bookAll_9 : decode cX7_bookAll 9 = .ok (.istore_n 1, 1) := by decide +kernel
theorem dX7_bookAll_10 : decode cX7_bookAll 10 = .ok (.iload_n 1, 1) := by decide +kernel
theorem dX7_bookAll_11 : decode cX7_bookAll 11 = .ok (.ldc 40, 2) := by decide +kernel
theorem dX7_bookAll_13 : decode cX7_bookAll 13 = .ok (.if_icmp .eq 8, 3) := by decide +kernel
theorem dX7_bookAll_16 : decode cX7_bookAll 16 = .ok (.ldc 142, 2) := by decide +kernel
theorem dX7_bookAll_18 : decode cX7_bookAll 18 = .ok (.iload_n 1, 1) := by decide +kernel
theorem dX7_bookAll_19 : decode cX7_bookAll 19 = .ok (.isub, 1) := by decide +kernel
theorem dX7_bookAll_20 : decode cX7_bookAll 20 = .ok (.ireturn, 1) := by decide +kernel
theorem dX7_bookAll_21 : decode cX7_bookAll 21 = .ok (.iconst 0, 1) := by decide +kernel
theorem dX7_bookAll_22 : decode cX7_bookAll 22 = .ok (.istore_n 2, 1) := by decide +kernel
theorem dX7_bookAll_23 : decode cX7_bookAll 23 = .ok (.iload_n 2, 1) := by decide +kernel
theorem dX7_bookAll_24 : decode cX7_bookAll 24 = .ok (.sipush 313, 3) := by decide +kernel
theorem dX7_bookAll_27 : decode cX7_bookAll 27 = .ok (.if_icmp .ge 21, 3) := by decide +kernel
theorem dX7_bookAll_30 : decode cX7_bookAll 30 = .ok (.aload_n 0, 1) := by decide +kernel
theorem dX7_bookAll_31 : decode cX7_bookAll 31 = .ok (.getfield 13, 3) := by decide +kernel
theorem dX7_bookAll_34 : decode cX7_bookAll 34 = .ok (.iload_n 2, 1) := by decide +kernel
theorem dX7_bookAll_35 : decode cX7_bookAll 35 = .ok (.aload_n 0, 1) := by decide +kernel
theorem dX7_bookAll_36 : decode cX7_bookAll 36 = .ok (.getfield 7, 3) := by decide +kernel
theorem dX7_bookAll_39 : decode cX7_bookAll 39 = .ok (.iload_n 2, 1) := by decide +kernel
theorem dX7_bookAll_40 : decode cX7_bookAll 40 = .ok (.iaload, 1) := by decide +kernel
theorem dX7_bookAll_41 : decode cX7_bookAll 41 = .ok (.iastore, 1) := by decide +kernel
theorem dX7_bookAll_42 : decode cX7_bookAll 42 = .ok (.iinc 2 1, 3) := by decide +kernel
theorem dX7_bookAll_45 : decode cX7_bookAll 45 = .ok (.goto (-22), 3) := by decide +kernel
theorem dX7_bookAll_48 : decode cX7_bookAll 48 = .ok (.iconst 0, 1) := by decide +kernel
theorem dX7_bookAll_49 : decode cX7_bookAll 49 = .ok (.istore_n 2, 1) := by decide +kernel
theorem dX7_bookAll_50 : decode cX7_bookAll 50 = .ok (.iload_n 2, 1) := by decide +kernel
theorem dX7_bookAll_51 : decode cX7_bookAll 51 = .ok (.aload_n 0, 1) := by decide +kernel
theorem dX7_bookAll_52 : decode cX7_bookAll 52 = .ok (.getfield 143, 3) := by decide +kernel
theorem dX7_bookAll_55 : decode cX7_bookAll 55 = .ok (.if_icmp .ge 105, 3) := by decide +kernel
theorem dX7_bookAll_58 : decode cX7_bookAll 58 = .ok (.aload_n 0, 1) := by decide +kernel
theorem dX7_bookAll_59 : decode cX7_bookAll 59 = .ok (.aload_n 0, 1) := by decide +kernel
theorem dX7_bookAll_60 : decode cX7_bookAll 60 = .ok (.getfield 25, 3) := by decide +kernel
theorem dX7_bookAll_63 : decode cX7_bookAll 63 = .ok (.iconst 4, 1) := by decide +kernel
theorem dX7_bookAll_64 : decode cX7_bookAll 64 = .ok (.iload_n 2, 1) := by decide +kernel
theorem dX7_bookAll_65 : decode cX7_bookAll 65 = .ok (.imul, 1) := by decide +kernel
theorem dX7_bookAll_66 : decode cX7_bookAll 66 = .ok (.iaload, 1) := by decide +kernel
theorem dX7_bookAll_67 : decode cX7_bookAll 67 = .ok (.aload_n 0, 1) := by decide +kernel
theorem dX7_bookAll_68 : decode cX7_bookAll 68 = .ok (.getfield 25, 3) := by decide +kernel
theorem dX7_bookAll_71 : decode cX7_bookAll 71 = .ok (.iconst 4, 1) := by decide +kernel
theorem dX7_bookAll_72 : decode cX7_bookAll 72 = .ok (.iload_n 2, 1) := by decide +kernel
theorem dX7_bookAll_73 : decode cX7_bookAll 73 = .ok (.imul, 1) := by decide +kernel
theorem dX7_bookAll_74 : decode cX7_bookAll 74 = .ok (.iconst 1, 1) := by decide +kernel
theorem dX7_bookAll_75 : decode cX7_bookAll 75 = .ok (.iadd, 1) := by decide +kernel
theorem dX7_bookAll_76 : decode cX7_bookAll 76 = .ok (.iaload, 1) := by decide +kernel
theorem dX7_bookAll_77 : decode cX7_bookAll 77 = .ok (.aload_n 0, 1) := by decide +kernel
theorem dX7_bookAll_78 : decode cX7_bookAll 78 = .ok (.getfield 25, 3) := by decide +kernel
theorem dX7_bookAll_81 : decode cX7_bookAll 81 = .ok (.iconst 4, 1) := by decide +kernel
theorem dX7_bookAll_82 : decode cX7_bookAll 82 = .ok (.iload_n 2, 1) := by decide +kernel
theorem dX7_bookAll_83 : decode cX7_bookAll 83 = .ok (.imul, 1) := by decide +kernel
theorem dX7_bookAll_84 : decode cX7_bookAll 84 = .ok (.iconst 2, 1) := by decide +kernel
theorem dX7_bookAll_85 : decode cX7_bookAll 85 = .ok (.iadd, 1) := by decide +kernel
theorem dX7_bookAll_86 : decode cX7_bookAll 86 = .ok (.iaload, 1) := by decide +kernel
theorem dX7_bookAll_87 : decode cX7_bookAll 87 = .ok (.aload_n 0, 1) := by decide +kernel
theorem dX7_bookAll_88 : decode cX7_bookAll 88 = .ok (.getfield 25, 3) := by decide +kernel
theorem dX7_bookAll_91 : decode cX7_bookAll 91 = .ok (.iconst 4, 1) := by decide +kernel
theorem dX7_bookAll_92 : decode cX7_bookAll 92 = .ok (.iload_n 2, 1) := by decide +kernel
theorem dX7_bookAll_93 : decode cX7_bookAll 93 = .ok (.imul, 1) := by decide +kernel
theorem dX7_bookAll_94 : decode cX7_bookAll 94 = .ok (.iconst 3, 1) := by decide +kernel
theorem dX7_bookAll_95 : decode cX7_bookAll 95 = .ok (.iadd, 1) := by decide +kernel
theorem dX7_bookAll_96 : decode cX7_bookAll 96 = .ok (.iaload, 1) := by decide +kernel
theorem dX7_bookAll_97 : decode cX7_bookAll 97 = .ok (.invokevirtual 132, 3) := by decide +kernel
theorem dX7_bookAll_100 : decode cX7_bookAll 100 = .ok (.istore_n 3, 1) := by decide +kernel
theorem dX7_bookAll_101 : decode cX7_bookAll 101 = .ok (.iload_n 3, 1) := by decide +kernel
theorem dX7_bookAll_102 : decode cX7_bookAll 102 = .ok (.ifCond .eq 9, 3) := by decide +kernel
theorem dX7_bookAll_105 : decode cX7_bookAll 105 = .ok (.aload_n 0, 1) := by decide +kernel
theorem dX7_bookAll_106 : decode cX7_bookAll 106 = .ok (.invokevirtual 146, 3) := by decide +kernel
theorem dX7_bookAll_109 : decode cX7_bookAll 109 = .ok (.iload_n 3, 1) := by decide +kernel
theorem dX7_bookAll_110 : decode cX7_bookAll 110 = .ok (.ireturn, 1) := by decide +kernel
theorem dX7_bookAll_111 : decode cX7_bookAll 111 = .ok (.aload_n 0, 1) := by decide +kernel
theorem dX7_bookAll_112 : decode cX7_bookAll 112 = .ok (.aload_n 0, 1) := by decide +kernel
theorem dX7_bookAll_113 : decode cX7_bookAll 113 = .ok (.getfield 25, 3) := by decide +kernel
theorem dX7_bookAll_116 : decode cX7_bookAll 116 = .ok (.iconst 4, 1) := by decide +kernel
theorem dX7_bookAll_117 : decode cX7_bookAll 117 = .ok (.iload_n 2, 1) := by decide +kernel
theorem dX7_bookAll_118 : decode cX7_bookAll 118 = .ok (.imul, 1) := by decide +kernel
theorem dX7_bookAll_119 : decode cX7_bookAll 119 = .ok (.iaload, 1) := by decide +kernel
theorem dX7_bookAll_120 : decode cX7_bookAll 120 = .ok (.aload_n 0, 1) := by decide +kernel
theorem dX7_bookAll_121 : decode cX7_bookAll 121 = .ok (.getfield 25, 3) := by decide +kernel
theorem dX7_bookAll_124 : decode cX7_bookAll 124 = .ok (.iconst 4, 1) := by decide +kernel
theorem dX7_bookAll_125 : decode cX7_bookAll 125 = .ok (.iload_n 2, 1) := by decide +kernel
theorem dX7_bookAll_126 : decode cX7_bookAll 126 = .ok (.imul, 1) := by decide +kernel
theorem dX7_bookAll_127 : decode cX7_bookAll 127 = .ok (.iconst 1, 1) := by decide +kernel
theorem dX7_bookAll_128 : decode cX7_bookAll 128 = .ok (.iadd, 1) := by decide +kernel
theorem dX7_bookAll_129 : decode cX7_bookAll 129 = .ok (.iaload, 1) := by decide +kernel
theorem dX7_bookAll_130 : decode cX7_bookAll 130 = .ok (.aload_n 0, 1) := by decide +kernel
theorem dX7_bookAll_131 : decode cX7_bookAll 131 = .ok (.getfield 25, 3) := by decide +kernel
theorem dX7_bookAll_134 : decode cX7_bookAll 134 = .ok (.iconst 4, 1) := by decide +kernel
theorem dX7_bookAll_135 : decode cX7_bookAll 135 = .ok (.iload_n 2, 1) := by decide +kernel
theorem dX7_bookAll_136 : decode cX7_bookAll 136 = .ok (.imul, 1) := by decide +kernel
theorem dX7_bookAll_137 : decode cX7_bookAll 137 = .ok (.iconst 2, 1) := by decide +kernel
theorem dX7_bookAll_138 : decode cX7_bookAll 138 = .ok (.iadd, 1) := by decide +kernel
theorem dX7_bookAll_139 : decode cX7_bookAll 139 = .ok (.iaload, 1) := by decide +kernel
theorem dX7_bookAll_140 : decode cX7_bookAll 140 = .ok (.aload_n 0, 1) := by decide +kernel
theorem dX7_bookAll_141 : decode cX7_bookAll 141 = .ok (.getfield 25, 3) := by decide +kernel
theorem dX7_bookAll_144 : decode cX7_bookAll 144 = .ok (.iconst 4, 1) := by decide +kernel
theorem dX7_bookAll_145 : decode cX7_bookAll 145 = .ok (.iload_n 2, 1) := by decide +kernel
theorem dX7_bookAll_146 : decode cX7_bookAll 146 = .ok (.imul, 1) := by decide +kernel
theorem dX7_bookAll_147 : decode cX7_bookAll 147 = .ok (.iconst 3, 1) := by decide +kernel
theorem dX7_bookAll_148 : decode cX7_bookAll 148 = .ok (.iadd, 1) := by decide +kernel
theorem dX7_bookAll_149 : decode cX7_bookAll 149 = .ok (.iaload, 1) := by decide +kernel
theorem dX7_bookAll_150 : decode cX7_bookAll 150 = .ok (.invokevirtual 135, 3) := by decide +kernel
theorem dX7_bookAll_153 : decode cX7_bookAll 153 = .ok (.pop, 1) := by decide +kernel
theorem dX7_bookAll_154 : decode cX7_bookAll 154 = .ok (.iinc 2 1, 3) := by decide +kernel
theorem dX7_bookAll_157 : decode cX7_bookAll 157 = .ok (.goto (-107), 3) := by decide +kernel
theorem dX7_bookAll_160 : decode cX7_bookAll 160 = .ok (.aload_n 0, 1) := by decide +kernel
theorem dX7_bookAll_161 : decode cX7_bookAll 161 = .ok (.invokevirtual 146, 3) := by decide +kernel
theorem dX7_bookAll_164 : decode cX7_bookAll 164 = .ok (.aload_n 0, 1) := by decide +kernel
theorem dX7_bookAll_165 : decode cX7_bookAll 165 = .ok (.invokevirtual 122, 3) := by decide +kernel
theorem dX7_bookAll_168 : decode cX7_bookAll 168 = .ok (.aload_n 0, 1) := by decide +kernel
theorem dX7_bookAll_169 : decode cX7_bookAll 169 = .ok (.invokevirtual 146, 3) := by decide +kernel
theorem dX7_bookAll_172 : decode cX7_bookAll 172 = .ok (.aload_n 0, 1) := by decide +kernel
theorem dX7_bookAll_173 : decode cX7_bookAll 173 = .ok (.getfield 143, 3) := by decide +kernel
theorem dX7_bookAll_176 : decode cX7_bookAll 176 = .ok (.ireturn, 1) := by decide +kernel
set_option maxRecDepth 20000 in
theorem ggX7_takeBack_X7_placeOf : GoodIn wsX7_takeBack wsX7_placeOf := goodIn_r _ [9, 4, 2, 10, 11, 12, 8, 13, 28, 29, 30, 31, 32, 33, 34, 35, 36, 37, 38, 39, 40] (by decide +kernel) (by decide +kernel)
set_option maxRecDepth 20000 in
theorem gX7_takeBack_X7_placeOf : GoodIn wsX7_takeBack (wsV RX7 149 RX7 yX7_placeOf wsX7_placeOf) := goodIn_app (goodIn_of _ (by decide +kernel)) ggX7_takeBack_X7_placeOf
set_option maxRecDepth 20000 in
theorem ggX7_takeBack_X7_records : GoodIn wsX7_takeBack wsX7_records := goodIn_r _ [17, 18, 19, 4, 28, 29, 30, 31, 32, 33, 34, 35, 36, 37, 38, 39, 40] (by decide +kernel) (by decide +kernel)
set_option maxRecDepth 20000 in
theorem gX7_takeBack_X7_records : GoodIn wsX7_takeBack (wsV RX7 122 RX7 yX7_records wsX7_records) := goodIn_app (goodIn_of _ (by decide +kernel)) ggX7_takeBack_X7_records
set_option maxRecDepth 20000 in
theorem ggX7_takeBack_X7_dropsBooking : GoodIn wsX7_takeBack wsX7_dropsBooking := goodIn_r _ [23, 4, 24, 25, 26, 8, 27, 28, 29, 30, 31, 32, 33, 34, 35, 36, 37, 38, 39, 40] (by decide +kernel) (by decide +kernel)
set_option maxRecDepth 20000 in
theorem gX7_takeBack_X7_dropsBooking : GoodIn wsX7_takeBack (wsV RX7 101 RX7 yX7_dropsBooking wsX7_dropsBooking) := goodIn_app (goodIn_of _ (by decide +kernel)) ggX7_takeBack_X7_dropsBooking
theorem dX7_takeBack_0 : decode cX7_takeBack 0 = .ok (.aload_n 0, 1) := by decide +kernel
theorem dX7_takeBack_1 : decode cX7_takeBack 1 = .ok (.iconst 0, 1) := by decide +kernel
theorem dX7_takeBack_2 : decode cX7_takeBack 2 = .ok (.putfield 28, 3) := by decide +kernel
theorem dX7_takeBack_5 : decode cX7_takeBack 5 = .ok (.aload_n 0, 1) := by decide +kernel
theorem dX7_takeBack_6 : decode cX7_takeBack 6 = .ok (.iload_n 1, 1) := by decide +kernel
theorem dX7_takeBack_7 : decode cX7_takeBack 7 = .ok (.invokevirtual 149, 3) := by decide +kernel
theorem dX7_takeBack_10 : decode cX7_takeBack 10 = .ok (.istore_n 2, 1) := by decide +kernel
theorem dX7_takeBack_11 : decode cX7_takeBack 11 = .ok (.iload_n 2, 1) := by decide +kernel
theorem dX7_takeBack_12 : decode cX7_takeBack 12 = .ok (.ldc 40, 2) := by decide +kernel
theorem dX7_takeBack_14 : decode cX7_takeBack 14 = .ok (.if_icmp .ne 6, 3) := by decide +kernel
theorem dX7_takeBack_17 : decode cX7_takeBack 17 = .ok (.ldc 115, 2) := by decide +kernel
theorem dX7_takeBack_19 : decode cX7_takeBack 19 = .ok (.ireturn, 1) := by decide +kernel
theorem dX7_takeBack_20 : decode cX7_takeBack 20 = .ok (.aload_n 0, 1) := by decide +kernel
theorem dX7_takeBack_21 : decode cX7_takeBack 21 = .ok (.invokevirtual 122, 3) := by decide +kernel
theorem dX7_takeBack_24 : decode cX7_takeBack 24 = .ok (.aload_n 0, 1) := by decide +kernel
theorem dX7_takeBack_25 : decode cX7_takeBack 25 = .ok (.iload_n 2, 1) := by decide +kernel
theorem dX7_takeBack_26 : decode cX7_takeBack 26 = .ok (.invokevirtual 101, 3) := by decide +kernel
theorem dX7_takeBack_29 : decode cX7_takeBack 29 = .ok (.aload_n 0, 1) := by decide +kernel
theorem dX7_takeBack_30 : decode cX7_takeBack 30 = .ok (.getfield 7, 3) := by decide +kernel
theorem dX7_takeBack_33 : decode cX7_takeBack 33 = .ok (.bipush 6, 2) := by decide +kernel
theorem dX7_takeBack_35 : decode cX7_takeBack 35 = .ok (.iaload, 1) := by decide +kernel
theorem dX7_takeBack_36 : decode cX7_takeBack 36 = .ok (.ireturn, 1) := by decide +kernel
set_option maxRecDepth 20000 in
theorem ggX7_pass_X7_in : GoodIn wsX7_pass wsX7_in := goodIn_r _ [7] (by decide +kernel) (by decide +kernel)
set_option maxRecDepth 20000 in
theorem gX7_pass_X7_in : GoodIn wsX7_pass (va_wsS RX7 32 yX7_in wsX7_in) := goodIn_app (goodIn_of _ (by decide +kernel)) ggX7_pass_X7_in
set_option maxRecDepth 20000 in
theorem ggX7_pass_X7_records : GoodIn wsX7_pass wsX7_records := goodIn_r _ [11, 12, 13, 3, 105, 106, 107, 108, 109, 110, 111, 112, 113, 114, 115, 116, 117] (by decide +kernel) (by decide +kernel)
set_option maxRecDepth 20000 in
theorem gX7_pass_X7_records : GoodIn wsX7_pass (wsV RX7 122 RX7 yX7_records wsX7_records) := goodIn_app (goodIn_of _ (by decide +kernel)) ggX7_pass_X7_records
set_option maxRecDepth 20000 in
theorem ggX7_pass_X7_passesDay : GoodIn wsX7_pass wsX7_passesDay := goodIn_r _ [17, 3, 18, 19, 20, 6, 21, 22, 23, 24, 25, 26, 27, 28, 29, 30, 31, 32, 33, 34, 35, 36, 37, 38, 39, 40, 41, 42, 43, 44, 45, 46, 47, 48, 49, 50, 51, 52, 53, 54, 55, 56, 57, 58, 59, 60, 61, 62, 63, 64, 65, 66, 67, 68, 69, 70, 71, 72, 73, 74, 75, 76, 77, 78, 79, 80, 81, 82, 83, 84, 85, 86, 87, 88, 89, 90, 91, 92, 93, 94, 95, 96, 97, 98, 99, 100, 101, 102, 103, 104, 105, 106, 107, 108, 109, 110, 111, 112, 113, 114, 115, 116, 117] (by decide +kernel) (by decide +kernel)
set_option maxRecDepth 20000 in
theorem gX7_pass_X7_passesDay : GoodIn wsX7_pass (wsV RX7 152 RX7 yX7_passesDay wsX7_passesDay) := goodIn_app (goodIn_of _ (by decide +kernel)) ggX7_pass_X7_passesDay
theorem dX7_pass_0 : decode cX7_pass 0 = .ok (.aload_n 0, 1) := by decide +kernel
theorem dX7_pass_1 : decode cX7_pass 1 = .ok (.iconst 0, 1) := by decide +kernel
theorem dX7_pass_2 : decode cX7_pass 2 = .ok (.putfield 28, 3) := by decide +kernel
theorem dX7_pass_5 : decode cX7_pass 5 = .ok (.iload_n 1, 1) := by decide +kernel
theorem dX7_pass_6 : decode cX7_pass 6 = .ok (.iconst 1, 1) := by decide +kernel
theorem dX7_pass_7 : decode cX7_pass 7 = .ok (.bipush 60, 2) := by decide +kernel
theorem dX7_pass_9 : decode cX7_pass 9 = .ok (.invokestatic 32, 3) := by decide +kernel
theorem dX7_pass_12 : decode cX7_pass 12 = .ok (.ifCond .ne 6, 3) := by decide +kernel
theorem dX7_pass_15 : decode cX7_pass 15 = .ok (.ldc 116, 2) := by decide +kernel
theorem dX7_pass_17 : decode cX7_pass 17 = .ok (.ireturn, 1) := by decide +kernel
theorem dX7_pass_18 : decode cX7_pass 18 = .ok (.aload_n 0, 1) := by decide +kernel
theorem dX7_pass_19 : decode cX7_pass 19 = .ok (.invokevirtual 122, 3) := by decide +kernel
theorem dX7_pass_22 : decode cX7_pass 22 = .ok (.aload_n 0, 1) := by decide +kernel
theorem dX7_pass_23 : decode cX7_pass 23 = .ok (.getfield 7, 3) := by decide +kernel
theorem dX7_pass_26 : decode cX7_pass 26 = .ok (.bipush 7, 2) := by decide +kernel
theorem dX7_pass_28 : decode cX7_pass 28 = .ok (.iaload, 1) := by decide +kernel
theorem dX7_pass_29 : decode cX7_pass 29 = .ok (.istore_n 2, 1) := by decide +kernel
theorem dX7_pass_30 : decode cX7_pass 30 = .ok (.iconst 0, 1) := by decide +kernel
theorem dX7_pass_31 : decode cX7_pass 31 = .ok (.istore_n 3, 1) := by decide +kernel
theorem dX7_pass_32 : decode cX7_pass 32 = .ok (.iload_n 3, 1) := by decide +kernel
theorem dX7_pass_33 : decode cX7_pass 33 = .ok (.iload_n 1, 1) := by decide +kernel
theorem dX7_pass_34 : decode cX7_pass 34 = .ok (.if_icmp .ge 13, 3) := by decide +kernel
theorem dX7_pass_37 : decode cX7_pass 37 = .ok (.aload_n 0, 1) := by decide +kernel
theorem dX7_pass_38 : decode cX7_pass 38 = .ok (.invokevirtual 152, 3) := by decide +kernel
theorem dX7_pass_41 : decode cX7_pass 41 = .ok (.iinc 3 1, 3) := by decide +kernel
theorem dX7_pass_44 : decode cX7_pass 44 = .ok (.goto (-12), 3) := by decide +kernel
theorem dX7_pass_47 : decode cX7_pass 47 = .ok (.aload_n 0, 1) := by decide +kernel
theorem dX7_pass_48 : decode cX7_pass 48 = .ok (.getfield 7, 3) := by decide +kernel
theorem dX7_pass_51 : decode cX7_pass 51 = .ok (.bipush 7, 2) := by decide +kernel
theorem dX7_pass_53 : decode cX7_pass 53 = .ok (.iaload, 1) := by decide +kernel
theorem dX7_pass_54 : decode cX7_pass 54 = .ok (.iload_n 2, 1) := by decide +kernel
theorem dX7_pass_55 : decode cX7_pass 55 = .ok (.isub, 1) := by decide +kernel
theorem dX7_pass_56 : decode cX7_pass 56 = .ok (.ireturn, 1) := by decide +kernel
set_option maxRecDepth 20000 in
theorem ggX7_set_X7_in : GoodIn wsX7_set wsX7_in := goodIn_r _ [8] (by decide +kernel) (by decide +kernel)
set_option maxRecDepth 20000 in
theorem gX7_set_X7_in : GoodIn wsX7_set (va_wsS RX7 32 yX7_in wsX7_in) := goodIn_app (goodIn_of _ (by decide +kernel)) ggX7_set_X7_in
set_option maxRecDepth 20000 in
theorem ggX7_set_X7_records : GoodIn wsX7_set wsX7_records := goodIn_r _ [12, 13, 14, 3, 15, 16, 17, 18, 19, 20, 21, 22, 23, 24, 25, 26, 27] (by decide +kernel) (by decide +kernel)
set_option maxRecDepth 20000 in
theorem gX7_set_X7_records : GoodIn wsX7_set (wsV RX7 122 RX7 yX7_records wsX7_records) := goodIn_app (goodIn_of _ (by decide +kernel)) ggX7_set_X7_records
theorem dX7_set_0 : decode cX7_set 0 = .ok (.aload_n 0, 1) := by decide +kernel
theorem dX7_set_1 : decode cX7_set 1 = .ok (.iconst 0, 1) := by decide +kernel
theorem dX7_set_2 : decode cX7_set 2 = .ok (.putfield 28, 3) := by decide +kernel
theorem dX7_set_5 : decode cX7_set 5 = .ok (.iload_n 1, 1) := by decide +kernel
theorem dX7_set_6 : decode cX7_set 6 = .ok (.ifCond .ne 15, 3) := by decide +kernel
theorem dX7_set_9 : decode cX7_set 9 = .ok (.iload_n 2, 1) := by decide +kernel
theorem dX7_set_10 : decode cX7_set 10 = .ok (.bipush 10, 2) := by decide +kernel
theorem dX7_set_12 : decode cX7_set 12 = .ok (.sipush 200, 3) := by decide +kernel
theorem dX7_set_15 : decode cX7_set 15 = .ok (.invokestatic 32, 3) := by decide +kernel
theorem dX7_set_18 : decode cX7_set 18 = .ok (.goto 24, 3) := by decide +kernel
theorem dX7_set_21 : decode cX7_set 21 = .ok (.iload_n 1, 1) := by decide +kernel
theorem dX7_set_22 : decode cX7_set 22 = .ok (.iconst 1, 1) := by decide +kernel
theorem dX7_set_23 : decode cX7_set 23 = .ok (.if_icmp .ne 18, 3) := by decide +kernel
theorem dX7_set_26 : decode cX7_set 26 = .ok (.iload_n 2, 1) := by decide +kernel
theorem dX7_set_27 : decode cX7_set 27 = .ok (.iconst 0, 1) := by decide +kernel
theorem dX7_set_28 : decode cX7_set 28 = .ok (.sipush 9999, 3) := by decide +kernel
theorem dX7_set_31 : decode cX7_set 31 = .ok (.invokestatic 32, 3) := by decide +kernel
theorem dX7_set_34 : decode cX7_set 34 = .ok (.ifCond .eq 7, 3) := by decide +kernel
theorem dX7_set_37 : decode cX7_set 37 = .ok (.iconst 1, 1) := by decide +kernel
theorem dX7_set_38 : decode cX7_set 38 = .ok (.goto 4, 3) := by decide +kernel
theorem dX7_set_41 : decode cX7_set 41 = .ok (.iconst 0, 1) := by decide +kernel
theorem dX7_set_42 : decode cX7_set 42 = .ok (.istore_n 3, 1) := by decide +kernel
theorem dX7_set_43 : decode cX7_set 43 = .ok (.iload_n 3, 1) := by decide +kernel
theorem dX7_set_44 : decode cX7_set 44 = .ok (.ifCond .ne 6, 3) := by decide +kernel
theorem dX7_set_47 : decode cX7_set 47 = .ok (.ldc 116, 2) := by decide +kernel
theorem dX7_set_49 : decode cX7_set 49 = .ok (.ireturn, 1) := by decide +kernel
theorem dX7_set_50 : decode cX7_set 50 = .ok (.aload_n 0, 1) := by decide +kernel
theorem dX7_set_51 : decode cX7_set 51 = .ok (.getfield 7, 3) := by decide +kernel
theorem dX7_set_54 : decode cX7_set 54 = .ok (.iload_n 1, 1) := by decide +kernel
theorem dX7_set_55 : decode cX7_set 55 = .ok (.iaload, 1) := by decide +kernel
theorem dX7_set_56 : decode cX7_set 56 = .ok (.istore 4, 2) := by decide +kernel
theorem dX7_set_58 : decode cX7_set 58 = .ok (.iload 4, 2) := by decide +kernel
theorem dX7_set_60 : decode cX7_set 60 = .ok (.iload_n 2, 1) := by decide +kernel
theorem dX7_set_61 : decode cX7_set 61 = .ok (.if_icmp .ne 6, 3) := by decide +kernel
theorem dX7_set_64 : decode cX7_set 64 = .ok (.ldc 40, 2) := by decide +kernel
theorem dX7_set_66 : decode cX7_set 66 = .ok (.ireturn, 1) := by decide +kernel
theorem dX7_set_67 : decode cX7_set 67 = .ok (.aload_n 0, 1) := by decide +kernel
theorem dX7_set_68 : decode cX7_set 68 = .ok (.invokevirtual 122, 3) := by decide +kernel
theorem dX7_set_71 : decode cX7_set 71 = .ok (.aload_n 0, 1) := by decide +kernel
theorem dX7_set_72 : decode cX7_set 72 = .ok (.getfield 7, 3) := by decide +kernel
theorem dX7_set_75 : decode cX7_set 75 = .ok (.iload_n 1, 1) := by decide +kernel
theorem dX7_set_76 : decode cX7_set 76 = .ok (.iload_n 2, 1) := by decide +kernel
theorem dX7_set_77 : decode cX7_set 77 = .ok (.iastore, 1) := by decide +kernel
theorem dX7_set_78 : decode cX7_set 78 = .ok (.iload 4, 2) := by decide +kernel
theorem dX7_set_80 : decode cX7_set 80 = .ok (.ireturn, 1) := by decide +kernel
set_option maxRecDepth 20000 in
theorem ggX7_setSeed_X7_in : GoodIn wsX7_setSeed wsX7_in := goodIn_r _ [8] (by decide +kernel) (by decide +kernel)
set_option maxRecDepth 20000 in
theorem gX7_setSeed_X7_in : GoodIn wsX7_setSeed (va_wsS RX7 32 yX7_in wsX7_in) := goodIn_app (goodIn_of _ (by decide +kernel)) ggX7_setSeed_X7_in
set_option maxRecDepth 20000 in
theorem ggX7_setSeed_X7_records : GoodIn wsX7_setSeed wsX7_records := goodIn_r _ [12, 13, 14, 3, 15, 16, 17, 18, 19, 20, 21, 22, 23, 24, 25, 26, 27] (by decide +kernel) (by decide +kernel)
set_option maxRecDepth 20000 in
theorem gX7_setSeed_X7_records : GoodIn wsX7_setSeed (wsV RX7 122 RX7 yX7_records wsX7_records) := goodIn_app (goodIn_of _ (by decide +kernel)) ggX7_setSeed_X7_records
theorem dX7_setSeed_0 : decode cX7_setSeed 0 = .ok (.aload_n 0, 1) := by decide +kernel
theorem dX7_setSeed_1 : decode cX7_setSeed 1 = .ok (.iconst 0, 1) := by decide +kernel
theorem dX7_setSeed_2 : decode cX7_setSeed 2 = .ok (.putfield 28, 3) := by decide +kernel
theorem dX7_setSeed_5 : decode cX7_setSeed 5 = .ok (.iload_n 1, 1) := by decide +kernel
theorem dX7_setSeed_6 : decode cX7_setSeed 6 = .ok (.iconst 0, 1) := by decide +kernel
theorem dX7_setSeed_7 : decode cX7_setSeed 7 = .ok (.sipush 9999, 3) := by decide +kernel
theorem dX7_setSeed_10 : decode cX7_setSeed 10 = .ok (.invokestatic 32, 3) := by decide +kernel
theorem dX7_setSeed_13 : decode cX7_setSeed 13 = .ok (.ifCond .ne 6, 3) := by decide +kernel
theorem dX7_setSeed_16 : decode cX7_setSeed 16 = .ok (.ldc 116, 2) := by decide +kernel
theorem dX7_setSeed_18 : decode cX7_setSeed 18 = .ok (.ireturn, 1) := by decide +kernel
theorem dX7_setSeed_19 : decode cX7_setSeed 19 = .ok (.aload_n 0, 1) := by decide +kernel
theorem dX7_setSeed_20 : decode cX7_setSeed 20 = .ok (.getfield 7, 3) := by decide +kernel
theorem dX7_setSeed_23 : decode cX7_setSeed 23 = .ok (.iconst 2, 1) := by decide +kernel
theorem dX7_setSeed_24 : decode cX7_setSeed 24 = .ok (.iaload, 1) := by decide +kernel
theorem dX7_setSeed_25 : decode cX7_setSeed 25 = .ok (.istore_n 2, 1) := by decide +kernel
theorem dX7_setSeed_26 : decode cX7_setSeed 26 = .ok (.iload_n 2, 1) := by decide +kernel
theorem dX7_setSeed_27 : decode cX7_setSeed 27 = .ok (.iload_n 1, 1) := by decide +kernel
theorem dX7_setSeed_28 : decode cX7_setSeed 28 = .ok (.if_icmp .ne 6, 3) := by decide +kernel
theorem dX7_setSeed_31 : decode cX7_setSeed 31 = .ok (.ldc 40, 2) := by decide +kernel
theorem dX7_setSeed_33 : decode cX7_setSeed 33 = .ok (.ireturn, 1) := by decide +kernel
theorem dX7_setSeed_34 : decode cX7_setSeed 34 = .ok (.aload_n 0, 1) := by decide +kernel
theorem dX7_setSeed_35 : decode cX7_setSeed 35 = .ok (.invokevirtual 122, 3) := by decide +kernel
theorem dX7_setSeed_38 : decode cX7_setSeed 38 = .ok (.aload_n 0, 1) := by decide +kernel
theorem dX7_setSeed_39 : decode cX7_setSeed 39 = .ok (.getfield 7, 3) := by decide +kernel
theorem dX7_setSeed_42 : decode cX7_setSeed 42 = .ok (.iconst 2, 1) := by decide +kernel
theorem dX7_setSeed_43 : decode cX7_setSeed 43 = .ok (.iload_n 1, 1) := by decide +kernel
theorem dX7_setSeed_44 : decode cX7_setSeed 44 = .ok (.iastore, 1) := by decide +kernel
theorem dX7_setSeed_45 : decode cX7_setSeed 45 = .ok (.iload_n 2, 1) := by decide +kernel
theorem dX7_setSeed_46 : decode cX7_setSeed 46 = .ok (.ireturn, 1) := by decide +kernel
theorem dX7_type_0 : decode cX7_type 0 = .ok (.aload_n 0, 1) := by decide +kernel
theorem dX7_type_1 : decode cX7_type 1 = .ok (.iconst 0, 1) := by decide +kernel
theorem dX7_type_2 : decode cX7_type 2 = .ok (.putfield 28, 3) := by decide +kernel
theorem dX7_type_5 : decode cX7_type 5 = .ok (.aload_n 0, 1) := by decide +kernel
theorem dX7_type_6 : decode cX7_type 6 = .ok (.getfield 155, 3) := by decide +kernel
theorem dX7_type_9 : decode cX7_type 9 = .ok (.bipush 60, 2) := by decide +kernel
theorem dX7_type_11 : decode cX7_type 11 = .ok (.if_icmp .ne 6, 3) := by decide +kernel
theorem dX7_type_14 : decode cX7_type 14 = .ok (.ldc 120, 2) := by decide +kernel
theorem dX7_type_16 : decode cX7_type 16 = .ok (.ireturn, 1) := by decide +kernel
theorem dX7_type_17 : decode cX7_type 17 = .ok (.aload_n 0, 1) := by decide +kernel
theorem dX7_type_18 : decode cX7_type 18 = .ok (.getfield 22, 3) := by decide +kernel
theorem dX7_type_21 : decode cX7_type 21 = .ok (.aload_n 0, 1) := by decide +kernel
theorem dX7_type_22 : decode cX7_type 22 = .ok (.getfield 155, 3) := by decide +kernel
theorem dX7_type_25 : decode cX7_type 25 = .ok (.iload_n 1, 1) := by decide +kernel
theorem dX7_type_26 : decode cX7_type 26 = .ok (.iastore, 1) := by decide +kernel
theorem dX7_type_27 : decode cX7_type 27 = .ok (.aload_n 0, 1) := by decide +kernel
theorem dX7_type_28 : decode cX7_type 28 = .ok (.dup, 1) := by decide +kernel
theorem dX7_type_29 : decode cX7_type 29 = .ok (.getfield 155, 3) := by decide +kernel
theorem dX7_type_32 : decode cX7_type 32 = .ok (.iconst 1, 1) := by decide +kernel
theorem dX7_type_33 : decode cX7_type 33 = .ok (.iadd, 1) := by decide +kernel
theorem dX7_type_34 : decode cX7_type 34 = .ok (.putfield 155, 3) := by decide +kernel
theorem dX7_type_37 : decode cX7_type 37 = .ok (.aload_n 0, 1) := by decide +kernel
theorem dX7_type_38 : decode cX7_type 38 = .ok (.getfield 155, 3) := by decide +kernel
theorem dX7_type_41 : decode cX7_type 41 = .ok (.ireturn, 1) := by decide +kernel
theorem dX7_clearText_0 : decode cX7_clearText 0 = .ok (.aload_n 0, 1) := by decide +kernel
theorem dX7_clearText_1 : decode cX7_clearText 1 = .ok (.iconst 0, 1) := by decide +kernel
theorem dX7_clearText_2 : decode cX7_clearText 2 = .ok (.putfield 28, 3) := by decide +kernel
theorem dX7_clearText_5 : decode cX7_clearText 5 = .ok (.aload_n 0, 1) := by decide +kernel
theorem dX7_clearText_6 : decode cX7_clearText 6 = .ok (.getfield 155, 3) := by decide +kernel
theorem dX7_clearText_9 : decode cX7_clearText 9 = .ok (.istore_n 1, 1) := by decide +kernel
theorem dX7_clearText_10 : decode cX7_clearText 10 = .ok (.aload_n 0, 1) := by decide +kernel
theorem dX7_clearText_11 : decode cX7_clearText 11 = .ok (.iconst 0, 1) := by decide +kernel
theorem dX7_clearText_12 : decode cX7_clearText 12 = .ok (.putfield 155, 3) := by decide +kernel
theorem dX7_clearText_15 : decode cX7_clearText 15 = .ok (.iload_n 1, 1) := by decide +kernel
theorem dX7_clearText_16 : decode cX7_clearText 16 = .ok (.ireturn, 1) := by decide +kernel
theorem dX7_sign_0 : decode cX7_sign 0 = .ok (.aload_n 0, 1) := by decide +kernel
theorem dX7_sign_1 : decode cX7_sign 1 = .ok (.getfield 158, 3) := by decide +kernel
theorem dX7_sign_4 : decode cX7_sign 4 = .ok (.aload_n 0, 1) := by decide +kernel
theorem dX7_sign_5 : decode cX7_sign 5 = .ok (.getfield 155, 3) := by decide +kernel
theorem dX7_sign_8 : decode cX7_sign 8 = .ok (.if_icmp .ge 15, 3) := by decide +kernel
theorem dX7_sign_11 : decode cX7_sign 11 = .ok (.aload_n 0, 1) := by decide +kernel
theorem dX7_sign_12 : decode cX7_sign 12 = .ok (.getfield 22, 3) := by decide +kernel
theorem dX7_sign_15 : decode cX7_sign 15 = .ok (.aload_n 0, 1) := by decide +kernel
theorem dX7_sign_16 : decode cX7_sign 16 = .ok (.getfield 158, 3) := by decide +kernel
theorem dX7_sign_19 : decode cX7_sign 19 = .ok (.iaload, 1) := by decide +kernel
theorem dX7_sign_20 : decode cX7_sign 20 = .ok (.goto 4, 3) := by decide +kernel
theorem dX7_sign_23 : decode cX7_sign 23 = .ok (.iconst 0, 1) := by decide +kernel
theorem dX7_sign_24 : decode cX7_sign 24 = .ok (.ireturn, 1) := by decide +kernel
set_option maxRecDepth 20000 in
theorem ggX7_asks_X7_sign : GoodIn wsX7_asks wsX7_sign := goodIn_r _ [7, 2, 8, 9, 10, 11, 12, 13, 14, 15, 16, 17, 18, 19, 20, 21, 22] (by decide +kernel) (by decide +kernel)
set_option maxRecDepth 20000 in
theorem gX7_asks_X7_sign : GoodIn wsX7_asks (wsV RX7 165 RX7 yX7_sign wsX7_sign) := goodIn_app (goodIn_of _ (by decide +kernel)) ggX7_asks_X7_sign
theorem dX7_asks_0 : decode cX7_asks 0 = .ok (.aload_n 0, 1) := by decide +kernel
theorem dX7_asks_1 : decode cX7_asks 1 = .ok (.aload_n 0, 1) := by decide +kernel
theorem dX7_asks_2 : decode cX7_asks 2 = .ok (.getfield 161, 3) := by decide +kernel
theorem dX7_asks_5 : decode cX7_asks 5 = .ok (.ifCond .eq 15, 3) := by decide +kernel
theorem dX7_asks_8 : decode cX7_asks 8 = .ok (.aload_n 0, 1) := by decide +kernel
theorem dX7_asks_9 : decode cX7_asks 9 = .ok (.invokevirtual 165, 3) := by decide +kernel
theorem dX7_asks_12 : decode cX7_asks 12 = .ok (.iload_n 1, 1) := by decide +kernel
theorem dX7_asks_13 : decode cX7_asks 13 = .ok (.if_icmp .ne 7, 3) := by decide +kernel
theorem dX7_asks_16 : decode cX7_asks 16 = .ok (.iconst 1, 1) := by decide +kernel
theorem dX7_asks_17 : decode cX7_asks 17 = .ok (.goto 4, 3) := by decide +kernel
theorem dX7_asks_20 : decode cX7_asks 20 = .ok (.iconst 0, 1) := by decide +kernel
theorem dX7_asks_21 : decode cX7_asks 21 = .ok (.putfield 161, 3) := by decide +kernel
theorem dX7_asks_24 : decode cX7_asks 24 = .ok (.aload_n 0, 1) := by decide +kernel
theorem dX7_asks_25 : decode cX7_asks 25 = .ok (.dup, 1) := by decide +kernel
theorem dX7_asks_26 : decode cX7_asks 26 = .ok (.getfield 158, 3) := by decide +kernel
theorem dX7_asks_29 : decode cX7_asks 29 = .ok (.aload_n 0, 1) := by decide +kernel
theorem dX7_asks_30 : decode cX7_asks 30 = .ok (.getfield 161, 3) := by decide +kernel
theorem dX7_asks_33 : decode cX7_asks 33 = .ok (.ifCond .eq 7, 3) := by decide +kernel
theorem dX7_asks_36 : decode cX7_asks 36 = .ok (.iconst 1, 1) := by decide +kernel
theorem dX7_asks_37 : decode cX7_asks 37 = .ok (.goto 4, 3) := by decide +kernel
theorem dX7_asks_40 : decode cX7_asks 40 = .ok (.iconst 0, 1) := by decide +kernel
theorem dX7_asks_41 : decode cX7_asks 41 = .ok (.iadd, 1) := by decide +kernel
theorem dX7_asks_42 : decode cX7_asks 42 = .ok (.putfield 158, 3) := by decide +kernel
theorem dX7_asks_45 : decode cX7_asks 45 = .ok (.return_, 1) := by decide +kernel
set_option maxRecDepth 20000 in
theorem ggX7_digit_X7_sign : GoodIn wsX7_digit wsX7_sign := goodIn_r _ [7, 2, 8, 9, 13, 14, 15, 16, 17, 18, 19, 20, 21, 22, 23, 24, 25] (by decide +kernel) (by decide +kernel)
set_option maxRecDepth 20000 in
theorem gX7_digit_X7_sign : GoodIn wsX7_digit (wsV RX7 165 RX7 yX7_sign wsX7_sign) := goodIn_app (goodIn_of _ (by decide +kernel)) ggX7_digit_X7_sign
set_option maxRecDepth 20000 in
theorem ggX7_digit_X7_in : GoodIn wsX7_digit wsX7_in := goodIn_r _ [12] (by decide +kernel) (by decide +kernel)
set_option maxRecDepth 20000 in
theorem gX7_digit_X7_in : GoodIn wsX7_digit (va_wsS RX7 32 yX7_in wsX7_in) := goodIn_app (goodIn_of _ (by decide +kernel)) ggX7_digit_X7_in
theorem dX7_digit_0 : decode cX7_digit 0 = .ok (.aload_n 0, 1) := by decide +kernel
theorem dX7_digit_1 : decode cX7_digit 1 = .ok (.aload_n 0, 1) := by decide +kernel
theorem dX7_digit_2 : decode cX7_digit 2 = .ok (.getfield 161, 3) := by decide +kernel
theorem dX7_digit_5 : decode cX7_digit 5 = .ok (.ifCond .eq 21, 3) := by decide +kernel
theorem dX7_digit_8 : decode cX7_digit 8 = .ok (.aload_n 0, 1) := by decide +kernel
theorem dX7_digit_9 : decode cX7_digit 9 = .ok (.invokevirtual 165, 3) := by decide +kernel
theorem dX7_digit_12 : decode cX7_digit 12 = .ok (.bipush 48, 2) := by decide +kernel
theorem dX7_digit_14 : decode cX7_digit 14 = .ok (.bipush 53, 2) := by decide +kernel
theorem dX7_digit_16 : decode cX7_digit 16 = .ok (.invokestatic 32, 3) := by decide +kernel
theorem dX7_digit_19 : decode cX7_digit 19 = .ok (.ifCond .eq 7, 3) := by decide +kernel
theorem dX7_digit_22 : decode cX7_digit 22 = .ok (.iconst 1, 1) := by decide +kernel
theorem dX7_digit_23 : decode cX7_digit 23 = .ok (.goto 4, 3) := by decide +kernel
theorem dX7_digit_26 : decode cX7_digit 26 = .ok (.iconst 0, 1) := by decide +kernel
theorem dX7_digit_27 : decode cX7_digit 27 = .ok (.putfield 161, 3) := by decide +kernel
theorem dX7_digit_30 : decode cX7_digit 30 = .ok (.aload_n 0, 1) := by decide +kernel
theorem dX7_digit_31 : decode cX7_digit 31 = .ok (.invokevirtual 165, 3) := by decide +kernel
theorem dX7_digit_34 : decode cX7_digit 34 = .ok (.bipush 48, 2) := by decide +kernel
theorem dX7_digit_36 : decode cX7_digit 36 = .ok (.isub, 1) := by decide +kernel
theorem dX7_digit_37 : decode cX7_digit 37 = .ok (.istore_n 1, 1) := by decide +kernel
theorem dX7_digit_38 : decode cX7_digit 38 = .ok (.aload_n 0, 1) := by decide +kernel
theorem dX7_digit_39 : decode cX7_digit 39 = .ok (.dup, 1) := by decide +kernel
theorem dX7_digit_40 : decode cX7_digit 40 = .ok (.getfield 158, 3) := by decide +kernel
theorem dX7_digit_43 : decode cX7_digit 43 = .ok (.aload_n 0, 1) := by decide +kernel
theorem dX7_digit_44 : decode cX7_digit 44 = .ok (.getfield 161, 3) := by decide +kernel
theorem dX7_digit_47 : decode cX7_digit 47 = .ok (.ifCond .eq 7, 3) := by decide +kernel
theorem dX7_digit_50 : decode cX7_digit 50 = .ok (.iconst 1, 1) := by decide +kernel
theorem dX7_digit_51 : decode cX7_digit 51 = .ok (.goto 4, 3) := by decide +kernel
theorem dX7_digit_54 : decode cX7_digit 54 = .ok (.iconst 0, 1) := by decide +kernel
theorem dX7_digit_55 : decode cX7_digit 55 = .ok (.iadd, 1) := by decide +kernel
theorem dX7_digit_56 : decode cX7_digit 56 = .ok (.putfield 158, 3) := by decide +kernel
theorem dX7_digit_59 : decode cX7_digit 59 = .ok (.iload_n 1, 1) := by decide +kernel
theorem dX7_digit_60 : decode cX7_digit 60 = .ok (.ireturn, 1) := by decide +kernel
set_option maxRecDepth 20000 in
theorem ggX7_number_X7_sign : GoodIn wsX7_number wsX7_sign := goodIn_r _ [7, 2, 8, 9, 13, 14, 15, 16, 17, 18, 19, 20, 21, 22, 23, 24, 25] (by decide +kernel) (by decide +kernel)
set_option maxRecDepth 20000 in
theorem gX7_number_X7_sign : GoodIn wsX7_number (wsV RX7 165 RX7 yX7_sign wsX7_sign) := goodIn_app (goodIn_of _ (by decide +kernel)) ggX7_number_X7_sign
set_option maxRecDepth 20000 in
theorem ggX7_number_X7_in : GoodIn wsX7_number wsX7_in := goodIn_r _ [12] (by decide +kernel) (by decide +kernel)
set_option maxRecDepth 20000 in
theorem gX7_number_X7_in : GoodIn wsX7_number (va_wsS RX7 32 yX7_in wsX7_in) := goodIn_app (goodIn_of _ (by decide +kernel)) ggX7_number_X7_in
theorem dX7_number_0 : decode cX7_number 0 = .ok (.aload_n 0, 1) := by decide +kernel
theorem dX7_number_1 : decode cX7_number 1 = .ok (.aload_n 0, 1) := by decide +kernel
theorem dX7_number_2 : decode cX7_number 2 = .ok (.getfield 161, 3) := by decide +kernel
theorem dX7_number_5 : decode cX7_number 5 = .ok (.ifCond .eq 21, 3) := by decide +kernel
theorem dX7_number_8 : decode cX7_number 8 = .ok (.aload_n 0, 1) := by decide +kernel
theorem dX7_number_9 : decode cX7_number 9 = .ok (.invokevirtual 165, 3) := by decide +kernel
theorem dX7_number_12 : decode cX7_number 12 = .ok (.bipush 49, 2) := by decide +kernel
theorem dX7_number_14 : decode cX7_number 14 = .ok (.bipush 57, 2) := by decide +kernel
theorem dX7_number_16 : decode cX7_number 16 = .ok (.invokestatic 32, 3) := by decide +kernel
theorem dX7_number_19 : decode cX7_number 19 = .ok (.ifCond .eq 7, 3) := by decide +kernel
theorem dX7_number_22 : decode cX7_number 22 = .ok (.iconst 1, 1) := by decide +kernel
theorem dX7_number_23 : decode cX7_number 23 = .ok (.goto 4, 3) := by decide +kernel
theorem dX7_number_26 : decode cX7_number 26 = .ok (.iconst 0, 1) := by decide +kernel
theorem dX7_number_27 : decode cX7_number 27 = .ok (.putfield 161, 3) := by decide +kernel
theorem dX7_number_30 : decode cX7_number 30 = .ok (.aload_n 0, 1) := by decide +kernel
theorem dX7_number_31 : decode cX7_number 31 = .ok (.invokevirtual 165, 3) := by decide +kernel
theorem dX7_number_34 : decode cX7_number 34 = .ok (.bipush 48, 2) := by decide +kernel
theorem dX7_number_36 : decode cX7_number 36 = .ok (.isub, 1) := by decide +kernel
theorem dX7_number_37 : decode cX7_number 37 = .ok (.istore_n 2, 1) := by decide +kernel
theorem dX7_number_38 : decode cX7_number 38 = .ok (.aload_n 0, 1) := by decide +kernel
theorem dX7_number_39 : decode cX7_number 39 = .ok (.dup, 1) := by decide +kernel
theorem dX7_number_40 : decode cX7_number 40 = .ok (.getfield 158, 3) := by decide +kernel
theorem dX7_number_43 : decode cX7_number 43 = .ok (.aload_n 0, 1) := by decide +kernel
theorem dX7_number_44 : decode cX7_number 44 = .ok (.getfield 161, 3) := by decide +kernel
theorem dX7_number_47 : decode cX7_number 47 = .ok (.ifCond .eq 7, 3) := by decide +kernel
theorem dX7_number_50 : decode cX7_number 50 = .ok (.iconst 1, 1) := by decide +kernel
theorem dX7_number_51 : decode cX7_number 51 = .ok (.goto 4, 3) := by decide +kernel
theorem dX7_number_54 : decode cX7_number 54 = .ok (.iconst 0, 1) := by decide +kernel
theorem dX7_number_55 : decode cX7_number 55 = .ok (.iadd, 1) := by decide +kernel
theorem dX7_number_56 : decode cX7_number 56 = .ok (.putfield 158, 3) := by decide +kernel
theorem dX7_number_59 : decode cX7_number 59 = .ok (.aload_n 0, 1) := by decide +kernel
theorem dX7_number_60 : decode cX7_number 60 = .ok (.getfield 161, 3) := by decide +kernel
theorem dX7_number_63 : decode cX7_number 63 = .ok (.ifCond .eq 56, 3) := by decide +kernel
theorem dX7_number_66 : decode cX7_number 66 = .ok (.aload_n 0, 1) := by decide +kernel
theorem dX7_number_67 : decode cX7_number 67 = .ok (.invokevirtual 165, 3) := by decide +kernel
theorem dX7_number_70 : decode cX7_number 70 = .ok (.bipush 48, 2) := by decide +kernel
theorem dX7_number_72 : decode cX7_number 72 = .ok (.bipush 57, 2) := by decide +kernel
theorem dX7_number_74 : decode cX7_number 74 = .ok (.invokestatic 32, 3) := by decide +kernel
theorem dX7_number_77 : decode cX7_number 77 = .ok (.ifCond .eq 42, 3) := by decide +kernel
theorem dX7_number_80 : decode cX7_number 80 = .ok (.bipush 10, 2) := by decide +kernel
theorem dX7_number_82 : decode cX7_number 82 = .ok (.iload_n 2, 1) := by decide +kernel
theorem dX7_number_83 : decode cX7_number 83 = .ok (.imul, 1) := by decide +kernel
theorem dX7_number_84 : decode cX7_number 84 = .ok (.aload_n 0, 1) := by decide +kernel
theorem dX7_number_85 : decode cX7_number 85 = .ok (.invokevirtual 165, 3) := by decide +kernel
theorem dX7_number_88 : decode cX7_number 88 = .ok (.iadd, 1) := by decide +kernel
theorem dX7_number_89 : decode cX7_number 89 = .ok (.bipush 48, 2) := by decide +kernel
theorem dX7_number_91 : decode cX7_number 91 = .ok (.isub, 1) := by decide +kernel
theorem dX7_number_92 : decode cX7_number 92 = .ok (.iload_n 1, 1) := by decide +kernel
theorem dX7_number_93 : decode cX7_number 93 = .ok (.if_icmp .gt 26, 3) := by decide +kernel
theorem dX7_number_96 : decode cX7_number 96 = .ok (.bipush 10, 2) := by decide +kernel
theorem dX7_number_98 : decode cX7_number 98 = .ok (.iload_n 2, 1) := by decide +kernel
theorem dX7_number_99 : decode cX7_number 99 = .ok (.imul, 1) := by decide +kernel
theorem dX7_number_100 : decode cX7_number 100 = .ok (.aload_n 0, 1) := by decide +kernel
theorem dX7_number_101 : decode cX7_number 101 = .ok (.invokevirtual 165, 3) := by decide +kernel
theorem dX7_number_104 : decode cX7_number 104 = .ok (.iadd, 1) := by decide +kernel
theorem dX7_number_105 : decode cX7_number 105 = .ok (.bipush 48, 2) := by decide +kernel
theorem dX7_number_107 : decode cX7_number 107 = .ok (.isub, 1) := by decide +kernel
theorem dX7_number_108 : decode cX7_number 108 = .ok (.istore_n 2, 1) := by decide +kernel
theorem dX7_number_109 : decode cX7_number 109 = .ok (.aload_n 0, 1) := by decide +kernel
theorem dX7_number_110 : decode cX7_number 110 = .ok (.dup, 1) := by decide +kernel
theorem dX7_number_111 : decode cX7_number 111 = .ok (.getfield 158, 3) := by decide +kernel
theorem dX7_number_114 : decode cX7_number 114 = .ok (.iconst 1, 1) := by decide +kernel
theorem dX7_number_115 : decode cX7_number 115 = .ok (.iadd, 1) := by decide +kernel
theorem dX7_number_116 : decode cX7_number 116 = .ok (.putfield 158, 3) := by decide +kernel
theorem dX7_number_119 : decode cX7_number 119 = .ok (.iload_n 2, 1) := by decide +kernel
theorem dX7_number_120 : decode cX7_number 120 = .ok (.ireturn, 1) := by decide +kernel
set_option maxRecDepth 20000 in
theorem ggX7_readsBooking_X7_digit : GoodIn wsX7_readsBooking wsX7_digit := goodIn_r _ [8, 3, 9, 10, 11, 12, 7, 13, 14, 15, 16, 17, 18, 27, 28, 29, 30, 31, 32, 33, 34, 35, 36, 37, 38, 39] (by decide +kernel) (by decide +kernel)
set_option maxRecDepth 20000 in
theorem gX7_readsBooking_X7_digit : GoodIn wsX7_readsBooking (wsV RX7 168 RX7 yX7_digit wsX7_digit) := goodIn_app (goodIn_of _ (by decide +kernel)) ggX7_readsBooking_X7_digit
set_option maxRecDepth 20000 in
theorem ggX7_readsBooking_X7_asks : GoodIn wsX7_readsBooking wsX7_asks := goodIn_r _ [22, 3, 9, 10, 11, 12, 7, 13, 14, 15, 27, 28, 29, 30, 31, 32, 33, 34, 35, 36, 37, 38, 39] (by decide +kernel) (by decide +kernel)
set_option maxRecDepth 20000 in
theorem gX7_readsBooking_X7_asks : GoodIn wsX7_readsBooking (wsV RX7 171 RX7 yX7_asks wsX7_asks) := goodIn_app (goodIn_of _ (by decide +kernel)) ggX7_readsBooking_X7_asks
set_option maxRecDepth 20000 in
theorem ggX7_readsBooking_X7_number : GoodIn wsX7_readsBooking wsX7_number := goodIn_r _ [26, 3, 9, 10, 11, 12, 7, 13, 14, 15, 16, 17, 18, 27, 28, 29, 30, 31, 32, 33, 34, 35, 36, 37, 38, 39] (by decide +kernel) (by decide +kernel)
set_option maxRecDepth 20000 in
theorem gX7_readsBooking_X7_number : GoodIn wsX7_readsBooking (wsV RX7 174 RX7 yX7_number wsX7_number) := goodIn_app (goodIn_of _ (by decide +kernel)) ggX7_readsBooking_X7_number
theorem dX7_readsBooking_0 : decode cX7_readsBooking 0 = .ok (.iconst 4, 1) := by decide +kernel
theorem dX7_readsBooking_1 : decode cX7_readsBooking 1 = .ok (.aload_n 0, 1) := by decide +kernel
theorem dX7_readsBooking_2 : decode cX7_readsBooking 2 = .ok (.getfield 143, 3) := by decide +kernel
theorem dX7_readsBooking_5 : decode cX7_readsBooking 5 = .ok (.imul, 1) := by decide +kernel
theorem dX7_readsBooking_6 : decode cX7_readsBooking 6 = .ok (.istore_n 1, 1) := by decide +kernel
theorem dX7_readsBooking_7 : decode cX7_readsBooking 7 = .ok (.aload_n 0, 1) := by decide +kernel
theorem dX7_readsBooking_8 : decode cX7_readsBooking 8 = .ok (.getfield 25, 3) := by decide +kernel
theorem dX7_readsBooking_11 : decode cX7_readsBooking 11 = .ok (.iload_n 1, 1) := by decide +kernel
theorem dX7_readsBooking_12 : decode cX7_readsBooking 12 = .ok (.aload_n 0, 1) := by decide +kernel
theorem dX7_readsBooking_13 : decode cX7_readsBooking 13 = .ok (.invokevirtual 168, 3) := by decide +kernel
theorem dX7_readsBooking_16 : decode cX7_readsBooking 16 = .ok (.iastore, 1) := by decide +kernel
theorem dX7_readsBooking_17 : decode cX7_readsBooking 17 = .ok (.aload_n 0, 1) := by decide +kernel
theorem dX7_readsBooking_18 : decode cX7_readsBooking 18 = .ok (.bipush 109, 2) := by decide +kernel
theorem dX7_readsBooking_20 : decode cX7_readsBooking 20 = .ok (.invokevirtual 171, 3) := by decide +kernel
theorem dX7_readsBooking_23 : decode cX7_readsBooking 23 = .ok (.aload_n 0, 1) := by decide +kernel
theorem dX7_readsBooking_24 : decode cX7_readsBooking 24 = .ok (.getfield 25, 3) := by decide +kernel
theorem dX7_readsBooking_27 : decode cX7_readsBooking 27 = .ok (.iload_n 1, 1) := by decide +kernel
theorem dX7_readsBooking_28 : decode cX7_readsBooking 28 = .ok (.iconst 1, 1) := by decide +kernel
theorem dX7_readsBooking_29 : decode cX7_readsBooking 29 = .ok (.iadd, 1) := by decide +kernel
theorem dX7_readsBooking_30 : decode cX7_readsBooking 30 = .ok (.aload_n 0, 1) := by decide +kernel
theorem dX7_readsBooking_31 : decode cX7_readsBooking 31 = .ok (.invokevirtual 168, 3) := by decide +kernel
theorem dX7_readsBooking_34 : decode cX7_readsBooking 34 = .ok (.iastore, 1) := by decide +kernel
theorem dX7_readsBooking_35 : decode cX7_readsBooking 35 = .ok (.aload_n 0, 1) := by decide +kernel
theorem dX7_readsBooking_36 : decode cX7_readsBooking 36 = .ok (.bipush 43, 2) := by decide +kernel
theorem dX7_readsBooking_38 : decode cX7_readsBooking 38 = .ok (.invokevirtual 171, 3) := by decide +kernel
theorem dX7_readsBooking_41 : decode cX7_readsBooking 41 = .ok (.aload_n 0, 1) := by decide +kernel
theorem dX7_readsBooking_42 : decode cX7_readsBooking 42 = .ok (.getfield 25, 3) := by decide +kernel
theorem dX7_readsBooking_45 : decode cX7_readsBooking 45 = .ok (.iload_n 1, 1) := by decide +kernel
theorem dX7_readsBooking_46 : decode cX7_readsBooking 46 = .ok (.iconst 2, 1) := by decide +kernel
theorem dX7_readsBooking_47 : decode cX7_readsBooking 47 = .ok (.iadd, 1) := by decide +kernel
theorem dX7_readsBooking_48 : decode cX7_readsBooking 48 = .ok (.aload_n 0, 1) := by decide +kernel
theorem dX7_readsBooking_49 : decode cX7_readsBooking 49 = .ok (.bipush 99, 2) := by decide +kernel
theorem dX7_readsBooking_51 : decode cX7_readsBooking 51 = .ok (.invokevirtual 174, 3) := by decide +kernel
theorem dX7_readsBooking_54 : decode cX7_readsBooking 54 = .ok (.iastore, 1) := by decide +kernel
theorem dX7_readsBooking_55 : decode cX7_readsBooking 55 = .ok (.aload_n 0, 1) := by decide +kernel
theorem dX7_readsBooking_56 : decode cX7_readsBooking 56 = .ok (.bipush 104, 2) := by decide +kernel
theorem dX7_readsBooking_58 : decode cX7_readsBooking 58 = .ok (.invokevirtual 171, 3) := by decide +kernel
theorem dX7_readsBooking_61 : decode cX7_readsBooking 61 = .ok (.aload_n 0, 1) := by decide +kernel
theorem dX7_readsBooking_62 : decode cX7_readsBooking 62 = .ok (.getfield 25, 3) := by decide +kernel
theorem dX7_readsBooking_65 : decode cX7_readsBooking 65 = .ok (.iload_n 1, 1) := by decide +kernel
theorem dX7_readsBooking_66 : decode cX7_readsBooking 66 = .ok (.iconst 3, 1) := by decide +kernel
theorem dX7_readsBooking_67 : decode cX7_readsBooking 67 = .ok (.iadd, 1) := by decide +kernel
theorem dX7_readsBooking_68 : decode cX7_readsBooking 68 = .ok (.aload_n 0, 1) := by decide +kernel
theorem dX7_readsBooking_69 : decode cX7_readsBooking 69 = .ok (.bipush 12, 2) := by decide +kernel
theorem dX7_readsBooking_71 : decode cX7_readsBooking 71 = .ok (.invokevirtual 174, 3) := by decide +kernel
theorem dX7_readsBooking_74 : decode cX7_readsBooking 74 = .ok (.iastore, 1) := by decide +kernel
theorem dX7_readsBooking_75 : decode cX7_readsBooking 75 = .ok (.aload_n 0, 1) := by decide +kernel
theorem dX7_readsBooking_76 : decode cX7_readsBooking 76 = .ok (.dup, 1) := by decide +kernel
theorem dX7_readsBooking_77 : decode cX7_readsBooking 77 = .ok (.getfield 143, 3) := by decide +kernel
theorem dX7_readsBooking_80 : decode cX7_readsBooking 80 = .ok (.aload_n 0, 1) := by decide +kernel
theorem dX7_readsBooking_81 : decode cX7_readsBooking 81 = .ok (.getfield 161, 3) := by decide +kernel
theorem dX7_readsBooking_84 : decode cX7_readsBooking 84 = .ok (.ifCond .eq 7, 3) := by decide +kernel
theorem dX7_readsBooking_87 : decode cX7_readsBooking 87 = .ok (.iconst 1, 1) := by decide +kernel
theorem dX7_readsBooking_88 : decode cX7_readsBooking 88 = .ok (.goto 4, 3) := by decide +kernel
theorem dX7_readsBooking_91 : decode cX7_readsBooking 91 = .ok (.iconst 0, 1) := by decide +kernel
theorem dX7_readsBooking_92 : decode cX7_readsBooking 92 = .ok (.iadd, 1) := by decide +kernel
theorem dX7_readsBooking_93 : decode cX7_readsBooking 93 = .ok (.putfield 143, 3) := by decide +kernel
theorem dX7_readsBooking_96 : decode cX7_readsBooking 96 = .ok (.return_, 1) := by decide +kernel
set_option maxRecDepth 20000 in
theorem ggX7_reads_X7_readsBooking : GoodIn wsX7_reads wsX7_readsBooking := goodIn_r _ [10, 3, 11, 2, 12, 13, 14, 9, 15, 1, 16, 17, 18, 19, 4, 20, 21, 22, 23, 24, 25, 26, 27, 28, 29, 30, 31, 32, 33, 34, 35, 36, 37, 38, 39, 40, 41, 42, 43, 44] (by decide +kernel) (by decide +kernel)
set_option maxRecDepth 20000 in
theorem gX7_reads_X7_readsBooking : GoodIn wsX7_reads (wsV RX7 177 RX7 yX7_readsBooking wsX7_readsBooking) := goodIn_app (goodIn_of _ (by decide +kernel)) ggX7_reads_X7_readsBooking
set_option maxRecDepth 20000 in
theorem ggX7_reads_X7_asks : GoodIn wsX7_reads wsX7_asks := goodIn_r _ [27, 2, 1, 16, 17, 18, 9, 19, 4, 20, 32, 33, 34, 35, 36, 37, 38, 39, 40, 41, 42, 43, 44] (by decide +kernel) (by decide +kernel)
set_option maxRecDepth 20000 in
theorem gX7_reads_X7_asks : GoodIn wsX7_reads (wsV RX7 171 RX7 yX7_asks wsX7_asks) := goodIn_app (goodIn_of _ (by decide +kernel)) ggX7_reads_X7_asks
theorem dX7_reads_0 : decode cX7_reads 0 = .ok (.aload_n 0, 1) := by decide +kernel
theorem dX7_reads_1 : decode cX7_reads 1 = .ok (.iconst 0, 1) := by decide +kernel
theorem dX7_reads_2 : decode cX7_reads 2 = .ok (.putfield 158, 3) := by decide +kernel
theorem dX7_reads_5 : decode cX7_reads 5 = .ok (.aload_n 0, 1) := by decide +kernel
theorem dX7_reads_6 : decode cX7_reads 6 = .ok (.iconst 1, 1) := by decide +kernel
theorem dX7_reads_7 : decode cX7_reads 7 = .ok (.putfield 161, 3) := by decide +kernel
theorem dX7_reads_10 : decode cX7_reads 10 = .ok (.aload_n 0, 1) := by decide +kernel
theorem dX7_reads_11 : decode cX7_reads 11 = .ok (.iconst 0, 1) := by decide +kernel
theorem dX7_reads_12 : decode cX7_reads 12 = .ok (.putfield 143, 3) := by decide +kernel
theorem dX7_reads_15 : decode cX7_reads 15 = .ok (.aload_n 0, 1) := by decide +kernel
theorem dX7_reads_16 : decode cX7_reads 16 = .ok (.invokevirtual 177, 3) := by decide +kernel
theorem dX7_reads_19 : decode cX7_reads 19 = .ok (.aload_n 0, 1) := by decide +kernel
theorem dX7_reads_20 : decode cX7_reads 20 = .ok (.getfield 161, 3) := by decide +kernel
theorem dX7_reads_23 : decode cX7_reads 23 = .ok (.ifCond .eq 34, 3) := by decide +kernel
theorem dX7_reads_26 : decode cX7_reads 26 = .ok (.aload_n 0, 1) := by decide +kernel
theorem dX7_reads_27 : decode cX7_reads 27 = .ok (.getfield 158, 3) := by decide +kernel
theorem dX7_reads_30 : decode cX7_reads 30 = .ok (.aload_n 0, 1) := by decide +kernel
theorem dX7_reads_31 : decode cX7_reads 31 = .ok (.getfield 155, 3) := by decide +kernel
theorem dX7_reads_34 : decode cX7_reads 34 = .ok (.if_icmp .ge 23, 3) := by decide +kernel
theorem dX7_reads_37 : decode cX7_reads 37 = .ok (.aload_n 0, 1) := by decide +kernel
theorem dX7_reads_38 : decode cX7_reads 38 = .ok (.bipush 44, 2) := by decide +kernel
theorem dX7_reads_40 : decode cX7_reads 40 = .ok (.invokevirtual 171, 3) := by decide +kernel
theorem dX7_reads_43 : decode cX7_reads 43 = .ok (.aload_n 0, 1) := by decide +kernel
theorem dX7_reads_44 : decode cX7_reads 44 = .ok (.getfield 161, 3) := by decide +kernel
theorem dX7_reads_47 : decode cX7_reads 47 = .ok (.ifCond .eq (-28), 3) := by decide +kernel
theorem dX7_reads_50 : decode cX7_reads 50 = .ok (.aload_n 0, 1) := by decide +kernel
theorem dX7_reads_51 : decode cX7_reads 51 = .ok (.invokevirtual 177, 3) := by decide +kernel
theorem dX7_reads_54 : decode cX7_reads 54 = .ok (.goto (-35), 3) := by decide +kernel
theorem dX7_reads_57 : decode cX7_reads 57 = .ok (.aload_n 0, 1) := by decide +kernel
theorem dX7_reads_58 : decode cX7_reads 58 = .ok (.getfield 161, 3) := by decide +kernel
theorem dX7_reads_61 : decode cX7_reads 61 = .ok (.ifCond .eq 8, 3) := by decide +kernel
theorem dX7_reads_64 : decode cX7_reads 64 = .ok (.ldc 40, 2) := by decide +kernel
theorem dX7_reads_66 : decode cX7_reads 66 = .ok (.goto 7, 3) := by decide +kernel
theorem dX7_reads_69 : decode cX7_reads 69 = .ok (.aload_n 0, 1) := by decide +kernel
theorem dX7_reads_70 : decode cX7_reads 70 = .ok (.getfield 158, 3) := by decide +kernel
theorem dX7_reads_73 : decode cX7_reads 73 = .ok (.ireturn, 1) := by decide +kernel
theorem dX7_undo_0 : decode cX7_undo 0 = .ok (.aload_n 0, 1) := by decide +kernel
theorem dX7_undo_1 : decode cX7_undo 1 = .ok (.iconst 0, 1) := by decide +kernel
theorem dX7_undo_2 : decode cX7_undo 2 = .ok (.putfield 28, 3) := by decide +kernel
theorem dX7_undo_5 : decode cX7_undo 5 = .ok (.aload_n 0, 1) := by decide +kernel
theorem dX7_undo_6 : decode cX7_undo 6 = .ok (.getfield 41, 3) := by decide +kernel
theorem dX7_undo_9 : decode cX7_undo 9 = .ok (.ifCond .ne 6, 3) := by decide +kernel
theorem dX7_undo_12 : decode cX7_undo 12 = .ok (.ldc 40, 2) := by decide +kernel
theorem dX7_undo_14 : decode cX7_undo 14 = .ok (.ireturn, 1) := by decide +kernel
theorem dX7_undo_15 : decode cX7_undo 15 = .ok (.aload_n 0, 1) := by decide +kernel
theorem dX7_undo_16 : decode cX7_undo 16 = .ok (.dup, 1) := by decide +kernel
theorem dX7_undo_17 : decode cX7_undo 17 = .ok (.getfield 41, 3) := by decide +kernel
theorem dX7_undo_20 : decode cX7_undo 20 = .ok (.iconst 1, 1) := by decide +kernel
theorem dX7_undo_21 : decode cX7_undo 21 = .ok (.isub, 1) := by decide +kernel
theorem dX7_undo_22 : decode cX7_undo 22 = .ok (.putfield 41, 3) := by decide +kernel
theorem dX7_undo_25 : decode cX7_undo 25 = .ok (.iconst 0, 1) := by decide +kernel
theorem dX7_undo_26 : decode cX7_undo 26 = .ok (.istore_n 1, 1) := by decide +kernel
theorem dX7_undo_27 : decode cX7_undo 27 = .ok (.iload_n 1, 1) := by decide +kernel
theorem dX7_undo_28 : decode cX7_undo 28 = .ok (.sipush 313, 3) := by decide +kernel
theorem dX7_undo_31 : decode cX7_undo 31 = .ok (.if_icmp .ge 30, 3) := by decide +kernel
theorem dX7_undo_34 : decode cX7_undo 34 = .ok (.aload_n 0, 1) := by decide +kernel
theorem dX7_undo_35 : decode cX7_undo 35 = .ok (.getfield 7, 3) := by decide +kernel
theorem dX7_undo_38 : decode cX7_undo 38 = .ok (.iload_n 1, 1) := by decide +kernel
theorem dX7_undo_39 : decode cX7_undo 39 = .ok (.aload_n 0, 1) := by decide +kernel
theorem dX7_undo_40 : decode cX7_undo 40 = .ok (.getfield 16, 3) := by decide +kernel
theorem dX7_undo_43 : decode cX7_undo 43 = .ok (.sipush 313, 3) := by decide +kernel
theorem dX7_undo_46 : decode cX7_undo 46 = .ok (.aload_n 0, 1) := by decide +kernel
theorem dX7_undo_47 : decode cX7_undo 47 = .ok (.getfield 41, 3) := by decide +kernel
theorem dX7_undo_50 : decode cX7_undo 50 = .ok (.imul, 1) := by decide +kernel
theorem dX7_undo_51 : decode cX7_undo 51 = .ok (.iload_n 1, 1) := by decide +kernel
theorem dX7_undo_52 : decode cX7_undo 52 = .ok (.iadd, 1) := by decide +kernel
theorem dX7_undo_53 : decode cX7_undo 53 = .ok (.iaload, 1) := by decide +kernel
theorem dX7_undo_54 : decode cX7_undo 54 = .ok (.iastore, 1) := by decide +kernel
theorem dX7_undo_55 : decode cX7_undo 55 = .ok (.iinc 1 1, 3) := by decide +kernel
theorem dX7_undo_58 : decode cX7_undo 58 = .ok (.goto (-31), 3) := by decide +kernel
theorem dX7_undo_61 : decode cX7_undo 61 = .ok (.aload_n 0, 1) := by decide +kernel
theorem dX7_undo_62 : decode cX7_undo 62 = .ok (.getfield 41, 3) := by decide +kernel
theorem dX7_undo_65 : decode cX7_undo 65 = .ok (.ireturn, 1) := by decide +kernel
theorem dX7_keep_0 : decode cX7_keep 0 = .ok (.aload_n 0, 1) := by decide +kernel
theorem dX7_keep_1 : decode cX7_keep 1 = .ok (.iconst 0, 1) := by decide +kernel
theorem dX7_keep_2 : decode cX7_keep 2 = .ok (.putfield 28, 3) := by decide +kernel
theorem dX7_keep_5 : decode cX7_keep 5 = .ok (.iconst 0, 1) := by decide +kernel
theorem dX7_keep_6 : decode cX7_keep 6 = .ok (.istore_n 1, 1) := by decide +kernel
theorem dX7_keep_7 : decode cX7_keep 7 = .ok (.iload_n 1, 1) := by decide +kernel
theorem dX7_keep_8 : decode cX7_keep 8 = .ok (.sipush 313, 3) := by decide +kernel
theorem dX7_keep_11 : decode cX7_keep 11 = .ok (.if_icmp .ge 21, 3) := by decide +kernel
theorem dX7_keep_14 : decode cX7_keep 14 = .ok (.aload_n 0, 1) := by decide +kernel
theorem dX7_keep_15 : decode cX7_keep 15 = .ok (.getfield 19, 3) := by decide +kernel
theorem dX7_keep_18 : decode cX7_keep 18 = .ok (.iload_n 1, 1) := by decide +kernel
theorem dX7_keep_19 : decode cX7_keep 19 = .ok (.aload_n 0, 1) := by decide +kernel
theorem dX7_keep_20 : decode cX7_keep 20 = .ok (.getfield 7, 3) := by decide +kernel
theorem dX7_keep_23 : decode cX7_keep 23 = .ok (.iload_n 1, 1) := by decide +kernel
theorem dX7_keep_24 : decode cX7_keep 24 = .ok (.iaload, 1) := by decide +kernel
theorem dX7_keep_25 : decode cX7_keep 25 = .ok (.iastore, 1) := by decide +kernel
theorem dX7_keep_26 : decode cX7_keep 26 = .ok (.iinc 1 1, 3) := by decide +kernel
theorem dX7_keep_29 : decode cX7_keep 29 = .ok (.goto (-22), 3) := by decide +kernel
theorem dX7_keep_32 : decode cX7_keep 32 = .ok (.aload_n 0, 1) := by decide +kernel
theorem dX7_keep_33 : decode cX7_keep 33 = .ok (.iconst 1, 1) := by decide +kernel
theorem dX7_keep_34 : decode cX7_keep 34 = .ok (.putfield 180, 3) := by decide +kernel
theorem dX7_keep_37 : decode cX7_keep 37 = .ok (.aload_n 0, 1) := by decide +kernel
theorem dX7_keep_38 : decode cX7_keep 38 = .ok (.getfield 7, 3) := by decide +kernel
theorem dX7_keep_41 : decode cX7_keep 41 = .ok (.iconst 3, 1) := by decide +kernel
theorem dX7_keep_42 : decode cX7_keep 42 = .ok (.iaload, 1) := by decide +kernel
theorem dX7_keep_43 : decode cX7_keep 43 = .ok (.ireturn, 1) := by decide +kernel
set_option maxRecDepth 20000 in
theorem ggX7_restore_X7_records : GoodIn wsX7_restore wsX7_records := goodIn_r _ [10, 11, 12, 4, 13, 14, 15, 16, 17, 18, 19, 20, 21, 22, 23, 24, 25] (by decide +kernel) (by decide +kernel)
set_option maxRecDepth 20000 in
theorem gX7_restore_X7_records : GoodIn wsX7_restore (wsV RX7 122 RX7 yX7_records wsX7_records) := goodIn_app (goodIn_of _ (by decide +kernel)) ggX7_restore_X7_records
theorem dX7_restore_0 : decode cX7_restore 0 = .ok (.aload_n 0, 1) := by decide +kernel
theorem dX7_restore_1 : decode cX7_restore 1 = .ok (.iconst 0, 1) := by decide +kernel
theorem dX7_restore_2 : decode cX7_restore 2 = .ok (.putfield 28, 3) := by decide +kernel
theorem dX7_restore_5 : decode cX7_restore 5 = .ok (.aload_n 0, 1) := by decide +kernel
theorem dX7_restore_6 : decode cX7_restore 6 = .ok (.getfield 180, 3) := by decide +kernel
theorem dX7_restore_9 : decode cX7_restore 9 = .ok (.ifCond .ne 6, 3) := by decide +kernel
theorem dX7_restore_12 : decode cX7_restore 12 = .ok (.ldc 40, 2) := by decide +kernel
theorem dX7_restore_14 : decode cX7_restore 14 = .ok (.ireturn, 1) := by decide +kernel
theorem dX7_restore_15 : decode cX7_restore 15 = .ok (.aload_n 0, 1) := by decide +kernel
theorem dX7_restore_16 : decode cX7_restore 16 = .ok (.invokevirtual 122, 3) := by decide +kernel
theorem dX7_restore_19 : decode cX7_restore 19 = .ok (.iconst 0, 1) := by decide +kernel
theorem dX7_restore_20 : decode cX7_restore 20 = .ok (.istore_n 1, 1) := by decide +kernel
theorem dX7_restore_21 : decode cX7_restore 21 = .ok (.iload_n 1, 1) := by decide +kernel
theorem dX7_restore_22 : decode cX7_restore 22 = .ok (.sipush 313, 3) := by decide +kernel
theorem dX7_restore_25 : decode cX7_restore 25 = .ok (.if_icmp .ge 21, 3) := by decide +kernel
theorem dX7_restore_28 : decode cX7_restore 28 = .ok (.aload_n 0, 1) := by decide +kernel
theorem dX7_restore_29 : decode cX7_restore 29 = .ok (.getfield 7, 3) := by decide +kernel
theorem dX7_restore_32 : decode cX7_restore 32 = .ok (.iload_n 1, 1) := by decide +kernel
theorem dX7_restore_33 : decode cX7_restore 33 = .ok (.aload_n 0, 1) := by decide +kernel
theorem dX7_restore_34 : decode cX7_restore 34 = .ok (.getfield 19, 3) := by decide +kernel
theorem dX7_restore_37 : decode cX7_restore 37 = .ok (.iload_n 1, 1) := by decide +kernel
theorem dX7_restore_38 : decode cX7_restore 38 = .ok (.iaload, 1) := by decide +kernel
theorem dX7_restore_39 : decode cX7_restore 39 = .ok (.iastore, 1) := by decide +kernel
theorem dX7_restore_40 : decode cX7_restore 40 = .ok (.iinc 1 1, 3) := by decide +kernel
theorem dX7_restore_43 : decode cX7_restore 43 = .ok (.goto (-22), 3) := by decide +kernel
theorem dX7_restore_46 : decode cX7_restore 46 = .ok (.aload_n 0, 1) := by decide +kernel
theorem dX7_restore_47 : decode cX7_restore 47 = .ok (.getfield 7, 3) := by decide +kernel
theorem dX7_restore_50 : decode cX7_restore 50 = .ok (.iconst 3, 1) := by decide +kernel
theorem dX7_restore_51 : decode cX7_restore 51 = .ok (.iaload, 1) := by decide +kernel
theorem dX7_restore_52 : decode cX7_restore 52 = .ok (.ireturn, 1) := by decide +kernel
set_option maxRecDepth 20000 in
theorem ggX7_standingOf_X7_ofBooking : GoodIn wsX7_standingOf wsX7_ofBooking := goodIn_r _ [6, 1, 7, 8, 9, 10, 11, 12, 13, 14, 15, 16, 17, 18, 19] (by decide +kernel) (by decide +kernel)
set_option maxRecDepth 20000 in
theorem gX7_standingOf_X7_ofBooking : GoodIn wsX7_standingOf (wsV RX7 36 RX7 yX7_ofBooking wsX7_ofBooking) := goodIn_app (goodIn_of _ (by decide +kernel)) ggX7_standingOf_X7_ofBooking
theorem dX7_standingOf_0 : decode cX7_standingOf 0 = .ok (.iconst 0, 1) := by decide +kernel
theorem dX7_standingOf_1 : decode cX7_standingOf 1 = .ok (.istore_n 2, 1) := by decide +kernel
theorem dX7_standingOf_2 : decode cX7_standingOf 2 = .ok (.iconst 0, 1) := by decide +kernel
theorem dX7_standingOf_3 : decode cX7_standingOf 3 = .ok (.istore_n 3, 1) := by decide +kernel
theorem dX7_standingOf_4 : decode cX7_standingOf 4 = .ok (.iload_n 3, 1) := by decide +kernel
theorem dX7_standingOf_5 : decode cX7_standingOf 5 = .ok (.aload_n 0, 1) := by decide +kernel
theorem dX7_standingOf_6 : decode cX7_standingOf 6 = .ok (.getfield 7, 3) := by decide +kernel
theorem dX7_standingOf_9 : decode cX7_standingOf 9 = .ok (.bipush 6, 2) := by decide +kernel
theorem dX7_standingOf_11 : decode cX7_standingOf 11 = .ok (.iaload, 1) := by decide +kernel
theorem dX7_standingOf_12 : decode cX7_standingOf 12 = .ok (.if_icmp .ge 27, 3) := by decide +kernel
theorem dX7_standingOf_15 : decode cX7_standingOf 15 = .ok (.iload_n 2, 1) := by decide +kernel
theorem dX7_standingOf_16 : decode cX7_standingOf 16 = .ok (.aload_n 0, 1) := by decide +kernel
theorem dX7_standingOf_17 : decode cX7_standingOf 17 = .ok (.iload_n 3, 1) := by decide +kernel
theorem dX7_standingOf_18 : decode cX7_standingOf 18 = .ok (.iconst 1, 1) := by decide +kernel
theorem dX7_standingOf_19 : decode cX7_standingOf 19 = .ok (.invokevirtual 36, 3) := by decide +kernel
theorem dX7_standingOf_22 : decode cX7_standingOf 22 = .ok (.iload_n 1, 1) := by decide +kernel
theorem dX7_standingOf_23 : decode cX7_standingOf 23 = .ok (.if_icmp .ne 7, 3) := by decide +kernel
theorem dX7_standingOf_26 : decode cX7_standingOf 26 = .ok (.iconst 1, 1) := by decide +kernel
theorem dX7_standingOf_27 : decode cX7_standingOf 27 = .ok (.goto 4, 3) := by decide +kernel
theorem dX7_standingOf_30 : decode cX7_standingOf 30 = .ok (.iconst 0, 1) := by decide +kernel
theorem dX7_standingOf_31 : decode cX7_standingOf 31 = .ok (.iadd, 1) := by decide +kernel
theorem dX7_standingOf_32 : decode cX7_standingOf 32 = .ok (.istore_n 2, 1) := by decide +kernel
theorem dX7_standingOf_33 : decode cX7_standingOf 33 = .ok (.iinc 3 1, 3) := by decide +kernel
theorem dX7_standingOf_36 : decode cX7_standingOf 36 = .ok (.goto (-32), 3) := by decide +kernel
theorem dX7_standingOf_39 : decode cX7_standingOf 39 = .ok (.iload_n 2, 1) := by decide +kernel
theorem dX7_standingOf_40 : decode cX7_standingOf 40 = .ok (.ireturn, 1) := by decide +kernel
set_option maxRecDepth 20000 in
theorem ggX7_farmer_X7_isFarmer : GoodIn wsX7_farmer wsX7_isFarmer := goodIn_r _ [7, 8, 9, 6, 10] (by decide +kernel) (by decide +kernel)
set_option maxRecDepth 20000 in
theorem gX7_farmer_X7_isFarmer : GoodIn wsX7_farmer (va_wsS RX7 125 yX7_isFarmer wsX7_isFarmer) := goodIn_app (goodIn_of _ (by decide +kernel)) ggX7_farmer_X7_isFarmer
set_option maxRecDepth 20000 in
theorem ggX7_farmer_X7_ofFarmer : GoodIn wsX7_farmer wsX7_ofFarmer := goodIn_r _ [14, 15, 24, 25, 26, 27, 28, 29, 30, 31, 32, 33, 34, 35, 36] (by decide +kernel) (by decide +kernel)
set_option maxRecDepth 20000 in
theorem gX7_farmer_X7_ofFarmer : GoodIn wsX7_farmer (wsV RX7 66 RX7 yX7_ofFarmer wsX7_ofFarmer) := goodIn_app (goodIn_of _ (by decide +kernel)) ggX7_farmer_X7_ofFarmer
set_option maxRecDepth 20000 in
theorem ggX7_farmer_X7_standingOf : GoodIn wsX7_farmer wsX7_standingOf := goodIn_r _ [19, 15, 20, 21, 22, 6, 23, 24, 25, 26, 27, 28, 29, 30, 31, 32, 33, 34, 35, 36] (by decide +kernel) (by decide +kernel)
set_option maxRecDepth 20000 in
theorem gX7_farmer_X7_standingOf : GoodIn wsX7_farmer (wsV RX7 183 RX7 yX7_standingOf wsX7_standingOf) := goodIn_app (goodIn_of _ (by decide +kernel)) ggX7_farmer_X7_standingOf
theorem dX7_farmer_0 : decode cX7_farmer 0 = .ok (.aload_n 0, 1) := by decide +kernel
theorem dX7_farmer_1 : decode cX7_farmer 1 = .ok (.iconst 0, 1) := by decide +kernel
theorem dX7_farmer_2 : decode cX7_farmer 2 = .ok (.putfield 28, 3) := by decide +kernel
theorem dX7_farmer_5 : decode cX7_farmer 5 = .ok (.iload_n 1, 1) := by decide +kernel
theorem dX7_farmer_6 : decode cX7_farmer 6 = .ok (.invokestatic 125, 3) := by decide +kernel
theorem dX7_farmer_9 : decode cX7_farmer 9 = .ok (.ifCond .ne 6, 3) := by decide +kernel
theorem dX7_farmer_12 : decode cX7_farmer 12 = .ok (.ldc 115, 2) := by decide +kernel
theorem dX7_farmer_14 : decode cX7_farmer 14 = .ok (.ireturn, 1) := by decide +kernel
theorem dX7_farmer_15 : decode cX7_farmer 15 = .ok (.iload_n 2, 1) := by decide +kernel
theorem dX7_farmer_16 : decode cX7_farmer 16 = .ok (.tableswitch 66 0 6 #[44, 44, 44, 44, 51, 57, 57], 44) := by decide +kernel
theorem dX7_farmer_60 : decode cX7_farmer 60 = .ok (.aload_n 0, 1) := by decide +kernel
theorem dX7_farmer_61 : decode cX7_farmer 61 = .ok (.iload_n 1, 1) := by decide +kernel
theorem dX7_farmer_62 : decode cX7_farmer 62 = .ok (.iload_n 2, 1) := by decide +kernel
theorem dX7_farmer_63 : decode cX7_farmer 63 = .ok (.invokevirtual 66, 3) := by decide +kernel
theorem dX7_farmer_66 : decode cX7_farmer 66 = .ok (.ireturn, 1) := by decide +kernel
theorem dX7_farmer_67 : decode cX7_farmer 67 = .ok (.aload_n 0, 1) := by decide +kernel
theorem dX7_farmer_68 : decode cX7_farmer 68 = .ok (.iload_n 1, 1) := by decide +kernel
theorem dX7_farmer_69 : decode cX7_farmer 69 = .ok (.invokevirtual 183, 3) := by decide +kernel
theorem dX7_farmer_72 : decode cX7_farmer 72 = .ok (.ireturn, 1) := by decide +kernel
theorem dX7_farmer_73 : decode cX7_farmer 73 = .ok (.aload_n 0, 1) := by decide +kernel
theorem dX7_farmer_74 : decode cX7_farmer 74 = .ok (.iload_n 1, 1) := by decide +kernel
theorem dX7_farmer_75 : decode cX7_farmer 75 = .ok (.iload_n 2, 1) := by decide +kernel
theorem dX7_farmer_76 : decode cX7_farmer 76 = .ok (.iconst 1, 1) := by decide +kernel
theorem dX7_farmer_77 : decode cX7_farmer 77 = .ok (.isub, 1) := by decide +kernel
theorem dX7_farmer_78 : decode cX7_farmer 78 = .ok (.invokevirtual 66, 3) := by decide +kernel
theorem dX7_farmer_81 : decode cX7_farmer 81 = .ok (.ireturn, 1) := by decide +kernel
theorem dX7_farmer_82 : decode cX7_farmer 82 = .ok (.ldc 116, 2) := by decide +kernel
theorem dX7_farmer_84 : decode cX7_farmer 84 = .ok (.ireturn, 1) := by decide +kernel
set_option maxRecDepth 20000 in
theorem ggX7_machine_X7_isMachine : GoodIn wsX7_machine wsX7_isMachine := goodIn_r _ [8, 9, 10, 11, 7, 12, 17, 18, 19, 20, 21, 22, 23, 24, 25, 26, 27, 28, 29] (by decide +kernel) (by decide +kernel)
set_option maxRecDepth 20000 in
theorem gX7_machine_X7_isMachine : GoodIn wsX7_machine (wsV RX7 128 RX7 yX7_isMachine wsX7_isMachine) := goodIn_app (goodIn_of _ (by decide +kernel)) ggX7_machine_X7_isMachine
set_option maxRecDepth 20000 in
theorem ggX7_machine_X7_in : GoodIn wsX7_machine wsX7_in := goodIn_r _ [12] (by decide +kernel) (by decide +kernel)
set_option maxRecDepth 20000 in
theorem gX7_machine_X7_in : GoodIn wsX7_machine (va_wsS RX7 32 yX7_in wsX7_in) := goodIn_app (goodIn_of _ (by decide +kernel)) ggX7_machine_X7_in
set_option maxRecDepth 20000 in
theorem ggX7_machine_X7_ofMachine : GoodIn wsX7_machine wsX7_ofMachine := goodIn_r _ [16, 9, 17, 18, 19, 20, 21, 22, 23, 24, 25, 26, 27, 28, 29] (by decide +kernel) (by decide +kernel)
set_option maxRecDepth 20000 in
theorem gX7_machine_X7_ofMachine : GoodIn wsX7_machine (wsV RX7 51 RX7 yX7_ofMachine wsX7_ofMachine) := goodIn_app (goodIn_of _ (by decide +kernel)) ggX7_machine_X7_ofMachine
theorem dX7_machine_0 : decode cX7_machine 0 = .ok (.aload_n 0, 1) := by decide +kernel
theorem dX7_machine_1 : decode cX7_machine 1 = .ok (.iconst 0, 1) := by decide +kernel
theorem dX7_machine_2 : decode cX7_machine 2 = .ok (.putfield 28, 3) := by decide +kernel
theorem dX7_machine_5 : decode cX7_machine 5 = .ok (.aload_n 0, 1) := by decide +kernel
theorem dX7_machine_6 : decode cX7_machine 6 = .ok (.iload_n 1, 1) := by decide +kernel
theorem dX7_machine_7 : decode cX7_machine 7 = .ok (.invokevirtual 128, 3) := by decide +kernel
theorem dX7_machine_10 : decode cX7_machine 10 = .ok (.ifCond .ne 6, 3) := by decide +kernel
theorem dX7_machine_13 : decode cX7_machine 13 = .ok (.ldc 115, 2) := by decide +kernel
theorem dX7_machine_15 : decode cX7_machine 15 = .ok (.ireturn, 1) := by decide +kernel
theorem dX7_machine_16 : decode cX7_machine 16 = .ok (.iload_n 2, 1) := by decide +kernel
theorem dX7_machine_17 : decode cX7_machine 17 = .ok (.iconst 0, 1) := by decide +kernel
theorem dX7_machine_18 : decode cX7_machine 18 = .ok (.bipush 7, 2) := by decide +kernel
theorem dX7_machine_20 : decode cX7_machine 20 = .ok (.invokestatic 32, 3) := by decide +kernel
theorem dX7_machine_23 : decode cX7_machine 23 = .ok (.ifCond .eq 12, 3) := by decide +kernel
theorem dX7_machine_26 : decode cX7_machine 26 = .ok (.aload_n 0, 1) := by decide +kernel
theorem dX7_machine_27 : decode cX7_machine 27 = .ok (.iload_n 1, 1) := by decide +kernel
theorem dX7_machine_28 : decode cX7_machine 28 = .ok (.iload_n 2, 1) := by decide +kernel
theorem dX7_machine_29 : decode cX7_machine 29 = .ok (.invokevirtual 51, 3) := by decide +kernel
theorem dX7_machine_32 : decode cX7_machine 32 = .ok (.goto 5, 3) := by decide +kernel
theorem dX7_machine_35 : decode cX7_machine 35 = .ok (.ldc 116, 2) := by decide +kernel
theorem dX7_machine_37 : decode cX7_machine 37 = .ok (.ireturn, 1) := by decide +kernel
set_option maxRecDepth 20000 in
theorem ggX7_fuel_X7_isMachine : GoodIn wsX7_fuel wsX7_isMachine := goodIn_r _ [7, 8, 9, 10, 6, 11, 24, 25, 26, 27, 28, 29, 30, 31, 32, 33, 34, 35, 36] (by decide +kernel) (by decide +kernel)
set_option maxRecDepth 20000 in
theorem gX7_fuel_X7_isMachine : GoodIn wsX7_fuel (wsV RX7 128 RX7 yX7_isMachine wsX7_isMachine) := goodIn_app (goodIn_of _ (by decide +kernel)) ggX7_fuel_X7_isMachine
set_option maxRecDepth 20000 in
theorem ggX7_fuel_X7_fuelOf : GoodIn wsX7_fuel wsX7_fuelOf := goodIn_r _ [15, 16, 17, 18, 19, 20, 21, 22, 6, 23, 8, 24, 25, 26, 27, 28, 29, 30, 31, 32, 33, 34, 35, 36] (by decide +kernel) (by decide +kernel)
set_option maxRecDepth 20000 in
theorem gX7_fuel_X7_fuelOf : GoodIn wsX7_fuel (wsV RX7 77 RX7 yX7_fuelOf wsX7_fuelOf) := goodIn_app (goodIn_of _ (by decide +kernel)) ggX7_fuel_X7_fuelOf
theorem dX7_fuel_0 : decode cX7_fuel 0 = .ok (.aload_n 0, 1) := by decide +kernel
theorem dX7_fuel_1 : decode cX7_fuel 1 = .ok (.iconst 0, 1) := by decide +kernel
theorem dX7_fuel_2 : decode cX7_fuel 2 = .ok (.putfield 28, 3) := by decide +kernel
theorem dX7_fuel_5 : decode cX7_fuel 5 = .ok (.aload_n 0, 1) := by decide +kernel
theorem dX7_fuel_6 : decode cX7_fuel 6 = .ok (.iload_n 1, 1) := by decide +kernel
theorem dX7_fuel_7 : decode cX7_fuel 7 = .ok (.invokevirtual 128, 3) := by decide +kernel
theorem dX7_fuel_10 : decode cX7_fuel 10 = .ok (.ifCond .eq 11, 3) := by decide +kernel
theorem dX7_fuel_13 : decode cX7_fuel 13 = .ok (.aload_n 0, 1) := by decide +kernel
theorem dX7_fuel_14 : decode cX7_fuel 14 = .ok (.iload_n 1, 1) := by decide +kernel
theorem dX7_fuel_15 : decode cX7_fuel 15 = .ok (.invokevirtual 77, 3) := by decide +kernel
theorem dX7_fuel_18 : decode cX7_fuel 18 = .ok (.goto 5, 3) := by decide +kernel
theorem dX7_fuel_21 : decode cX7_fuel 21 = .ok (.ldc 186, 2) := by decide +kernel
theorem dX7_fuel_23 : decode cX7_fuel 23 = .ok (.freturn, 1) := by decide +kernel
set_option maxRecDepth 20000 in
theorem ggX7_hours_X7_isMachine : GoodIn wsX7_hours wsX7_isMachine := goodIn_r _ [7, 8, 9, 10, 6, 11, 19, 20, 21, 22, 23, 24, 25, 26, 27, 28, 29, 30, 31] (by decide +kernel) (by decide +kernel)
set_option maxRecDepth 20000 in
theorem gX7_hours_X7_isMachine : GoodIn wsX7_hours (wsV RX7 128 RX7 yX7_isMachine wsX7_isMachine) := goodIn_app (goodIn_of _ (by decide +kernel)) ggX7_hours_X7_isMachine
set_option maxRecDepth 20000 in
theorem ggX7_hours_X7_isFarmer : GoodIn wsX7_hours wsX7_isFarmer := goodIn_r _ [14, 9, 10, 6, 11] (by decide +kernel) (by decide +kernel)
set_option maxRecDepth 20000 in
theorem gX7_hours_X7_isFarmer : GoodIn wsX7_hours (va_wsS RX7 125 yX7_isFarmer wsX7_isFarmer) := goodIn_app (goodIn_of _ (by decide +kernel)) ggX7_hours_X7_isFarmer
set_option maxRecDepth 20000 in
theorem ggX7_hours_X7_ofMachine : GoodIn wsX7_hours wsX7_ofMachine := goodIn_r _ [18, 8, 19, 20, 21, 22, 23, 24, 25, 26, 27, 28, 29, 30, 31] (by decide +kernel) (by decide +kernel)
set_option maxRecDepth 20000 in
theorem gX7_hours_X7_ofMachine : GoodIn wsX7_hours (wsV RX7 51 RX7 yX7_ofMachine wsX7_ofMachine) := goodIn_app (goodIn_of _ (by decide +kernel)) ggX7_hours_X7_ofMachine
theorem dX7_hours_0 : decode cX7_hours 0 = .ok (.aload_n 0, 1) := by decide +kernel
theorem dX7_hours_1 : decode cX7_hours 1 = .ok (.iconst 0, 1) := by decide +kernel
theorem dX7_hours_2 : decode cX7_hours 2 = .ok (.putfield 28, 3) := by decide +kernel
theorem dX7_hours_5 : decode cX7_hours 5 = .ok (.aload_n 0, 1) := by decide +kernel
theorem dX7_hours_6 : decode cX7_hours 6 = .ok (.iload_n 1, 1) := by decide +kernel
theorem dX7_hours_7 : decode cX7_hours 7 = .ok (.invokevirtual 128, 3) := by decide +kernel
theorem dX7_hours_10 : decode cX7_hours 10 = .ok (.ifCond .eq 22, 3) := by decide +kernel
theorem dX7_hours_13 : decode cX7_hours 13 = .ok (.iload_n 2, 1) := by decide +kernel
theorem dX7_hours_14 : decode cX7_hours 14 = .ok (.invokestatic 125, 3) := by decide +kernel
theorem dX7_hours_17 : decode cX7_hours 17 = .ok (.ifCond .eq 15, 3) := by decide +kernel
theorem dX7_hours_20 : decode cX7_hours 20 = .ok (.aload_n 0, 1) := by decide +kernel
theorem dX7_hours_21 : decode cX7_hours 21 = .ok (.iload_n 1, 1) := by decide +kernel
theorem dX7_hours_22 : decode cX7_hours 22 = .ok (.bipush 8, 2) := by decide +kernel
theorem dX7_hours_24 : decode cX7_hours 24 = .ok (.iload_n 2, 1) := by decide +kernel
theorem dX7_hours_25 : decode cX7_hours 25 = .ok (.iadd, 1) := by decide +kernel
theorem dX7_hours_26 : decode cX7_hours 26 = .ok (.invokevirtual 51, 3) := by decide +kernel
theorem dX7_hours_29 : decode cX7_hours 29 = .ok (.goto 5, 3) := by decide +kernel
theorem dX7_hours_32 : decode cX7_hours 32 = .ok (.ldc 115, 2) := by decide +kernel
theorem dX7_hours_34 : decode cX7_hours 34 = .ok (.ireturn, 1) := by decide +kernel
set_option maxRecDepth 20000 in
theorem ggX7_booking_X7_placeOf : GoodIn wsX7_booking wsX7_placeOf := goodIn_r _ [9, 10, 2, 11, 12, 13, 8, 14, 39, 40, 41, 42, 43, 44, 45, 46, 47, 48, 49, 50, 51] (by decide +kernel) (by decide +kernel)
set_option maxRecDepth 20000 in
theorem gX7_booking_X7_placeOf : GoodIn wsX7_booking (wsV RX7 149 RX7 yX7_placeOf wsX7_placeOf) := goodIn_app (goodIn_of _ (by decide +kernel)) ggX7_booking_X7_placeOf
set_option maxRecDepth 20000 in
theorem ggX7_booking_X7_ofBooking : GoodIn wsX7_booking wsX7_ofBooking := goodIn_r _ [14, 10, 39, 40, 41, 42, 43, 44, 45, 46, 47, 48, 49, 50, 51] (by decide +kernel) (by decide +kernel)
set_option maxRecDepth 20000 in
theorem gX7_booking_X7_ofBooking : GoodIn wsX7_booking (wsV RX7 36 RX7 yX7_ofBooking wsX7_ofBooking) := goodIn_app (goodIn_of _ (by decide +kernel)) ggX7_booking_X7_ofBooking
set_option maxRecDepth 20000 in
theorem ggX7_booking_X7_charge : GoodIn wsX7_booking wsX7_charge := goodIn_r _ [18, 19, 20, 21, 8, 22, 10, 23, 24, 25, 26, 27, 28, 29, 30, 31, 32, 33, 34, 35, 39, 40, 41, 42, 43, 44, 45, 46, 47, 48, 49, 50, 51] (by decide +kernel) (by decide +kernel)
set_option maxRecDepth 20000 in
theorem gX7_booking_X7_charge : GoodIn wsX7_booking (wsV RX7 87 RX7 yX7_charge wsX7_charge) := goodIn_app (goodIn_of _ (by decide +kernel)) ggX7_booking_X7_charge
set_option maxRecDepth 20000 in
theorem ggX7_booking_X7_in : GoodIn wsX7_booking wsX7_in := goodIn_r _ [38] (by decide +kernel) (by decide +kernel)
set_option maxRecDepth 20000 in
theorem gX7_booking_X7_in : GoodIn wsX7_booking (va_wsS RX7 32 yX7_in wsX7_in) := goodIn_app (goodIn_of _ (by decide +kernel)) ggX7_booking_X7_in
theorem dX7_booking_0 : decode cX7_booking 0 = .ok (.aload_n 0, 1) := by decide +kernel
theorem dX7_booking_1 : decode cX7_booking 1 = .ok (.iconst 0, 1) := by decide +kernel
theorem dX7_booking_2 : decode cX7_booking 2 = .ok (.putfield 28, 3) := by decide +kernel
theorem dX7_booking_5 : decode cX7_booking 5 = .ok (.aload_n 0, 1) := by decide +kernel
theorem dX7_booking_6 : decode cX7_booking 6 = .ok (.iload_n 1, 1) := by decide +kernel
theorem dX7_booking_7 : decode cX7_booking 7 = .ok (.invokevirtual 149, 3) := by decide +kernel
theorem dX7_booking_10 : decode cX7_booking 10 = .ok (.istore_n 3, 1) := by decide +kernel
theorem dX7_booking_11 : decode cX7_booking 11 = .ok (.iload_n 3, 1) := by decide +kernel
theorem dX7_booking_12 : decode cX7_booking 12 = .ok (.ldc 40, 2) := by decide +kernel
theorem dX7_booking_14 : decode cX7_booking 14 = .ok (.if_icmp .ne 6, 3) := by decide +kernel
theorem dX7_booking_17 : decode cX7_booking 17 = .ok (.ldc 115, 2) := by decide +kernel
theorem dX7_booking_19 : decode cX7_booking 19 = .ok (.ireturn, 1) := by decide +kernel
theorem dX7_booking_20 : decode cX7_booking 20 = .ok (.iload_n 2, 1) := by decide +kernel
theorem dX7_booking_21 : decode cX7_booking 21 = .ok (.iconst 5, 1) := by decide +kernel
theorem dX7_booking_22 : decode cX7_booking 22 = .ok (.if_icmp .ne 32, 3) := by decide +kernel
theorem dX7_booking_25 : decode cX7_booking 25 = .ok (.aload_n 0, 1) := by decide +kernel
theorem dX7_booking_26 : decode cX7_booking 26 = .ok (.aload_n 0, 1) := by decide +kernel
theorem dX7_booking_27 : decode cX7_booking 27 = .ok (.iload_n 3, 1) := by decide +kernel
theorem dX7_booking_28 : decode cX7_booking 28 = .ok (.iconst 1, 1) := by decide +kernel
theorem dX7_booking_29 : decode cX7_booking 29 = .ok (.invokevirtual 36, 3) := by decide +kernel
theorem dX7_booking_32 : decode cX7_booking 32 = .ok (.aload_n 0, 1) := by decide +kernel
theorem dX7_booking_33 : decode cX7_booking 33 = .ok (.iload_n 3, 1) := by decide +kernel
theorem dX7_booking_34 : decode cX7_booking 34 = .ok (.iconst 2, 1) := by decide +kernel
theorem dX7_booking_35 : decode cX7_booking 35 = .ok (.invokevirtual 36, 3) := by decide +kernel
theorem dX7_booking_38 : decode cX7_booking 38 = .ok (.aload_n 0, 1) := by decide +kernel
theorem dX7_booking_39 : decode cX7_booking 39 = .ok (.iload_n 3, 1) := by decide +kernel
theorem dX7_booking_40 : decode cX7_booking 40 = .ok (.iconst 3, 1) := by decide +kernel
theorem dX7_booking_41 : decode cX7_booking 41 = .ok (.invokevirtual 36, 3) := by decide +kernel
theorem dX7_booking_44 : decode cX7_booking 44 = .ok (.aload_n 0, 1) := by decide +kernel
theorem dX7_booking_45 : decode cX7_booking 45 = .ok (.iload_n 3, 1) := by decide +kernel
theorem dX7_booking_46 : decode cX7_booking 46 = .ok (.iconst 4, 1) := by decide +kernel
theorem dX7_booking_47 : decode cX7_booking 47 = .ok (.invokevirtual 36, 3) := by decide +kernel
theorem dX7_booking_50 : decode cX7_booking 50 = .ok (.invokevirtual 87, 3) := by decide +kernel
theorem dX7_booking_53 : decode cX7_booking 53 = .ok (.ireturn, 1) := by decide +kernel
theorem dX7_booking_54 : decode cX7_booking 54 = .ok (.iload_n 2, 1) := by decide +kernel
theorem dX7_booking_55 : decode cX7_booking 55 = .ok (.iconst 0, 1) := by decide +kernel
theorem dX7_booking_56 : decode cX7_booking 56 = .ok (.iconst 4, 1) := by decide +kernel
theorem dX7_booking_57 : decode cX7_booking 57 = .ok (.invokestatic 32, 3) := by decide +kernel
theorem dX7_booking_60 : decode cX7_booking 60 = .ok (.ifCond .eq 14, 3) := by decide +kernel
theorem dX7_booking_63 : decode cX7_booking 63 = .ok (.aload_n 0, 1) := by decide +kernel
theorem dX7_booking_64 : decode cX7_booking 64 = .ok (.iload_n 3, 1) := by decide +kernel
theorem dX7_booking_65 : decode cX7_booking 65 = .ok (.iconst 1, 1) := by decide +kernel
theorem dX7_booking_66 : decode cX7_booking 66 = .ok (.iload_n 2, 1) := by decide +kernel
theorem dX7_booking_67 : decode cX7_booking 67 = .ok (.iadd, 1) := by decide +kernel
theorem dX7_booking_68 : decode cX7_booking 68 = .ok (.invokevirtual 36, 3) := by decide +kernel
theorem dX7_booking_71 : decode cX7_booking 71 = .ok (.goto 5, 3) := by decide +kernel
theorem dX7_booking_74 : decode cX7_booking 74 = .ok (.ldc 116, 2) := by decide +kernel
theorem dX7_booking_76 : decode cX7_booking 76 = .ok (.ireturn, 1) := by decide +kernel
