set_option maxRecDepth 20000 in
theorem ggX6_book_X4_whyNotBook : GoodIn wsX6_book wsX4_whyNotBook := goodIn_r _ [7, 8, 9, 10, 11, 12, 13, 14, 15, 16, 6, 17, 18, 19, 20, 21, 22, 23, 24, 25, 26, 27, 28, 29, 30, 31, 32, 33, 34, 35, 36, 37, 38, 39, 40, 41, 42, 43, 44, 129, 130, 131, 132, 133, 134, 135, 136, 137, 138, 139, 140, 141, 142, 143, 144, 145, 146, 147, 148, 149, 150] (by decide +kernel) (by decide +kernel)
set_option maxRecDepth 20000 in
theorem gX6_book_X4_whyNotBook : GoodIn wsX6_book (wsV RX6 104 RX4 yX4_whyNotBook wsX4_whyNotBook) := goodIn_app (goodIn_of _ (by decide +kernel)) ggX6_book_X4_whyNotBook
set_option maxRecDepth 20000 in
theorem ggX6_book_X2_push : GoodIn wsX6_book wsX2_push := goodIn_r _ [49, 50, 51, 52, 53, 54, 48, 55, 56, 57, 58, 59, 60, 61, 62, 6, 63, 23, 10, 64, 65, 66, 67, 12, 68, 69, 70, 71, 72, 73, 74, 75, 76, 77, 14, 15, 16, 17, 18, 78, 79, 80, 81, 82, 83, 84, 85, 86, 87, 88, 19, 20, 21, 22, 24, 89, 90, 91, 92, 93, 94, 95, 96, 97, 98, 99, 100, 101, 102, 103, 104, 105, 33, 34, 35, 36, 37, 106, 107, 108, 41, 109, 110, 111, 43, 44, 112, 113, 151, 152, 129, 130, 131, 132, 133, 134, 135, 136, 137, 138, 139, 140, 141, 142, 143, 144, 153, 154, 155, 156, 157, 158, 159, 160, 161, 162, 163, 164, 165, 166, 145, 146, 147, 148, 149, 150] (by decide +kernel) (by decide +kernel)
set_option maxRecDepth 20000 in
theorem gX6_book_X2_push : GoodIn wsX6_book (wsV RX6 48 RX2 yX2_push wsX2_push) := goodIn_app (goodIn_of _ (by decide +kernel)) ggX6_book_X2_push
set_option maxRecDepth 20000 in
theorem ggX6_book_X4_addBooking : GoodIn wsX6_book wsX4_addBooking := goodIn_r _ [117, 10, 11, 68, 118, 119, 120, 12, 121, 32, 122, 33, 34, 35, 6, 36, 37, 129, 130, 131, 132, 133, 134, 135, 136, 137, 138, 139, 140, 141, 142, 143, 144, 145, 146, 147, 148, 149, 150] (by decide +kernel) (by decide +kernel)
set_option maxRecDepth 20000 in
theorem gX6_book_X4_addBooking : GoodIn wsX6_book (wsV RX6 108 RX4 yX4_addBooking wsX4_addBooking) := goodIn_app (goodIn_of _ (by decide +kernel)) ggX6_book_X4_addBooking
theorem dX6_book_0 : decode cX6_book 0 = .ok (.aload_n 0, 1) := by decide +kernel
theorem dX6_book_1 : decode cX6_book 1 = .ok (.getfield 10, 3) := by decide +kernel
theorem dX6_book_4 : decode cX6_book 4 = .ok (.iload_n 1, 1) := by decide +kernel
theorem dX6_book_5 : decode cX6_book 5 = .ok (.iload_n 2, 1) := by decide +kernel
theorem dX6_book_6 : decode cX6_book 6 = .ok (.iload_n 3, 1) := by decide +kernel
theorem dX6_book_7 : decode cX6_book 7 = .ok (.iload 4, 2) := by decide +kernel
theorem dX6_book_9 : decode cX6_book 9 = .ok (.invokevirtual 104, 3) := by decide +kernel
theorem dX6_book_12 : decode cX6_book 12 = .ok (.istore 5, 2) := by decide +kernel
theorem dX6_book_14 : decode cX6_book 14 = .ok (.iload 5, 2) := by decide +kernel
theorem dX6_book_16 : decode cX6_book 16 = .ok (.ifCond .eq 6, 3) := by decide +kernel
theorem dX6_book_19 : decode cX6_book 19 = .ok (.iload 5, 2) := by decide +kernel
theorem dX6_book_21 : decode cX6_book 21 = .ok (.ireturn, 1) := by decide +kernel
theorem dX6_book_22 : decode cX6_book 22 = .ok (.aload_n 0, 1) := by decide +kernel
theorem dX6_book_23 : decode cX6_book 23 = .ok (.getfield 25, 3) := by decide +kernel
theorem dX6_book_26 : decode cX6_book 26 = .ok (.aload_n 0, 1) := by decide +kernel
theorem dX6_book_27 : decode cX6_book 27 = .ok (.getfield 10, 3) := by decide +kernel
theorem dX6_book_30 : decode cX6_book 30 = .ok (.invokevirtual 48, 3) := by decide +kernel
theorem dX6_book_33 : decode cX6_book 33 = .ok (.aload_n 0, 1) := by decide +kernel
theorem dX6_book_34 : decode cX6_book 34 = .ok (.getfield 10, 3) := by decide +kernel
theorem dX6_book_37 : decode cX6_book 37 = .ok (.iload_n 1, 1) := by decide +kernel
theorem dX6_book_38 : decode cX6_book 38 = .ok (.iload_n 2, 1) := by decide +kernel
theorem dX6_book_39 : decode cX6_book 39 = .ok (.iload_n 3, 1) := by decide +kernel
theorem dX6_book_40 : decode cX6_book 40 = .ok (.iload 4, 2) := by decide +kernel
theorem dX6_book_42 : decode cX6_book 42 = .ok (.invokevirtual 108, 3) := by decide +kernel
theorem dX6_book_45 : decode cX6_book 45 = .ok (.ireturn, 1) := by decide +kernel
set_option maxRecDepth 20000 in
theorem ggX6_takeBack_X4_placeOf : GoodIn wsX6_takeBack wsX4_placeOf := goodIn_r _ [9, 10, 11, 12, 13, 14, 8, 15, 16, 111, 112, 113, 114, 115, 116, 117, 118, 119, 120, 121, 122, 123, 124, 125, 126, 127, 128, 129, 130, 131, 132] (by decide +kernel) (by decide +kernel)
set_option maxRecDepth 20000 in
theorem gX6_takeBack_X4_placeOf : GoodIn wsX6_takeBack (wsV RX6 142 RX4 yX4_placeOf wsX4_placeOf) := goodIn_app (goodIn_of _ (by decide +kernel)) ggX6_takeBack_X4_placeOf
set_option maxRecDepth 20000 in
theorem ggX6_takeBack_X2_push : GoodIn wsX6_takeBack wsX2_push := goodIn_r _ [21, 22, 23, 24, 25, 26, 20, 27, 28, 29, 30, 31, 32, 33, 34, 8, 35, 36, 10, 37, 38, 39, 40, 41, 42, 43, 44, 45, 46, 47, 48, 49, 50, 51, 52, 53, 54, 55, 56, 57, 58, 59, 60, 61, 62, 63, 64, 65, 66, 67, 68, 69, 70, 71, 72, 73, 74, 75, 76, 77, 78, 79, 80, 81, 82, 83, 84, 85, 86, 87, 88, 89, 12, 13, 14, 15, 16, 90, 91, 92, 93, 94, 95, 96, 97, 98, 99, 100, 133, 134, 111, 112, 113, 114, 115, 116, 117, 118, 119, 120, 121, 122, 123, 124, 125, 126, 135, 136, 137, 138, 139, 140, 141, 142, 143, 144, 145, 146, 147, 148, 127, 128, 129, 130, 131, 132] (by decide +kernel) (by decide +kernel)
set_option maxRecDepth 20000 in
theorem gX6_takeBack_X2_push : GoodIn wsX6_takeBack (wsV RX6 48 RX2 yX2_push wsX2_push) := goodIn_app (goodIn_of _ (by decide +kernel)) ggX6_takeBack_X2_push
set_option maxRecDepth 20000 in
theorem ggX6_takeBack_X4_removeBookingAt : GoodIn wsX6_takeBack wsX4_removeBookingAt := goodIn_r _ [104, 10, 16, 111, 112, 113, 114, 115, 116, 117, 118, 119, 120, 121, 122, 123, 124, 125, 126] (by decide +kernel) (by decide +kernel)
set_option maxRecDepth 20000 in
theorem gX6_takeBack_X4_removeBookingAt : GoodIn wsX6_takeBack (wsV RX6 145 RX4 yX4_removeBookingAt wsX4_removeBookingAt) := goodIn_app (goodIn_of _ (by decide +kernel)) ggX6_takeBack_X4_removeBookingAt
theorem dX6_takeBack_0 : decode cX6_takeBack 0 = .ok (.aload_n 0, 1) := by decide +kernel
theorem dX6_takeBack_1 : decode cX6_takeBack 1 = .ok (.getfield 10, 3) := by decide +kernel
theorem dX6_takeBack_4 : decode cX6_takeBack 4 = .ok (.iload_n 1, 1) := by decide +kernel
theorem dX6_takeBack_5 : decode cX6_takeBack 5 = .ok (.invokevirtual 142, 3) := by decide +kernel
theorem dX6_takeBack_8 : decode cX6_takeBack 8 = .ok (.istore_n 2, 1) := by decide +kernel
theorem dX6_takeBack_9 : decode cX6_takeBack 9 = .ok (.iload_n 2, 1) := by decide +kernel
theorem dX6_takeBack_10 : decode cX6_takeBack 10 = .ok (.ifCond .ge 6, 3) := by decide +kernel
theorem dX6_takeBack_13 : decode cX6_takeBack 13 = .ok (.ldc 40, 2) := by decide +kernel
theorem dX6_takeBack_15 : decode cX6_takeBack 15 = .ok (.ireturn, 1) := by decide +kernel
theorem dX6_takeBack_16 : decode cX6_takeBack 16 = .ok (.aload_n 0, 1) := by decide +kernel
theorem dX6_takeBack_17 : decode cX6_takeBack 17 = .ok (.getfield 25, 3) := by decide +kernel
theorem dX6_takeBack_20 : decode cX6_takeBack 20 = .ok (.aload_n 0, 1) := by decide +kernel
theorem dX6_takeBack_21 : decode cX6_takeBack 21 = .ok (.getfield 10, 3) := by decide +kernel
theorem dX6_takeBack_24 : decode cX6_takeBack 24 = .ok (.invokevirtual 48, 3) := by decide +kernel
theorem dX6_takeBack_27 : decode cX6_takeBack 27 = .ok (.aload_n 0, 1) := by decide +kernel
theorem dX6_takeBack_28 : decode cX6_takeBack 28 = .ok (.getfield 10, 3) := by decide +kernel
theorem dX6_takeBack_31 : decode cX6_takeBack 31 = .ok (.iload_n 2, 1) := by decide +kernel
theorem dX6_takeBack_32 : decode cX6_takeBack 32 = .ok (.invokevirtual 145, 3) := by decide +kernel
theorem dX6_takeBack_35 : decode cX6_takeBack 35 = .ok (.aload_n 0, 1) := by decide +kernel
theorem dX6_takeBack_36 : decode cX6_takeBack 36 = .ok (.getfield 10, 3) := by decide +kernel
theorem dX6_takeBack_39 : decode cX6_takeBack 39 = .ok (.getfield 149, 3) := by decide +kernel
theorem dX6_takeBack_42 : decode cX6_takeBack 42 = .ok (.ireturn, 1) := by decide +kernel
set_option maxRecDepth 20000 in
theorem ggX6_pass_X6_outside : GoodIn wsX6_pass wsX6_outside := goodIn_r _ [8] (by decide +kernel) (by decide +kernel)
set_option maxRecDepth 20000 in
theorem gX6_pass_X6_outside : GoodIn wsX6_pass (va_wsS RX6 36 yX6_outside wsX6_outside) := goodIn_app (goodIn_of _ (by decide +kernel)) ggX6_pass_X6_outside
set_option maxRecDepth 20000 in
theorem ggX6_pass_X2_push : GoodIn wsX6_pass wsX2_push := goodIn_r _ [13, 14, 15, 16, 17, 18, 12, 19, 20, 21, 22, 23, 24, 25, 26, 27, 28, 29, 30, 31, 32, 33, 34, 35, 36, 37, 38, 39, 40, 41, 42, 43, 44, 45, 46, 47, 48, 49, 50, 51, 52, 53, 54, 55, 56, 57, 58, 59, 60, 61, 62, 63, 64, 65, 66, 67, 68, 69, 70, 71, 72, 73, 74, 75, 76, 77, 78, 79, 80, 81, 82, 83, 84, 85, 86, 87, 88, 89, 90, 91, 92, 93, 94, 95, 96, 97, 98, 99, 201, 202, 185, 186, 187, 188, 189, 190, 191, 192, 193, 194, 195, 196, 197, 198, 199, 200, 203, 204, 205, 206, 207, 208, 209, 210, 211, 212, 213, 214, 215, 216, 217, 218, 219, 220, 221, 222] (by decide +kernel) (by decide +kernel)
set_option maxRecDepth 20000 in
theorem gX6_pass_X2_push : GoodIn wsX6_pass (wsV RX6 48 RX2 yX2_push wsX2_push) := goodIn_app (goodIn_of _ (by decide +kernel)) ggX6_pass_X2_push
set_option maxRecDepth 20000 in
theorem ggX6_pass_X4_passDay : GoodIn wsX6_pass wsX4_passDay := goodIn_r _ [103, 35, 30, 104, 105, 106, 27, 107, 108, 109, 110, 111, 112, 40, 37, 84, 85, 86, 87, 88, 62, 63, 64, 65, 29, 66, 46, 47, 48, 49, 50, 113, 114, 115, 116, 117, 118, 119, 120, 121, 122, 123, 42, 124, 125, 126, 70, 127, 72, 128, 7, 129, 130, 131, 132, 133, 134, 135, 136, 137, 38, 138, 139, 140, 141, 142, 143, 144, 92, 145, 96, 97, 146, 147, 148, 149, 150, 151, 152, 153, 154, 155, 156, 157, 158, 159, 160, 54, 161, 57, 162, 163, 164, 165, 56, 60, 166, 167, 168, 169, 75, 77, 79, 76, 170, 171, 172, 173, 174, 175, 176, 177, 178, 185, 186, 187, 188, 189, 190, 191, 192, 193, 194, 195, 196, 197, 198, 199, 200, 217, 218, 219, 220, 221, 222, 203, 204, 205, 206, 207, 208, 209, 210, 211, 212, 213, 214, 215, 216] (by decide +kernel) (by decide +kernel)
set_option maxRecDepth 20000 in
theorem gX6_pass_X4_passDay : GoodIn wsX6_pass (wsV RX6 155 RX4 yX4_passDay wsX4_passDay) := goodIn_app (goodIn_of _ (by decide +kernel)) ggX6_pass_X4_passDay
theorem dX6_pass_0 : decode cX6_pass 0 = .ok (.iload_n 1, 1) := by decide +kernel
theorem dX6_pass_1 : decode cX6_pass 1 = .ok (.iconst 1, 1) := by decide +kernel
theorem dX6_pass_2 : decode cX6_pass 2 = .ok (.bipush 60, 2) := by decide +kernel
theorem dX6_pass_4 : decode cX6_pass 4 = .ok (.invokestatic 36, 3) := by decide +kernel
theorem dX6_pass_7 : decode cX6_pass 7 = .ok (.ifCond .eq 6, 3) := by decide +kernel
theorem dX6_pass_10 : decode cX6_pass 10 = .ok (.ldc 41, 2) := by decide +kernel
theorem dX6_pass_12 : decode cX6_pass 12 = .ok (.ireturn, 1) := by decide +kernel
theorem dX6_pass_13 : decode cX6_pass 13 = .ok (.aload_n 0, 1) := by decide +kernel
theorem dX6_pass_14 : decode cX6_pass 14 = .ok (.getfield 25, 3) := by decide +kernel
theorem dX6_pass_17 : decode cX6_pass 17 = .ok (.aload_n 0, 1) := by decide +kernel
theorem dX6_pass_18 : decode cX6_pass 18 = .ok (.getfield 10, 3) := by decide +kernel
theorem dX6_pass_21 : decode cX6_pass 21 = .ok (.invokevirtual 48, 3) := by decide +kernel
theorem dX6_pass_24 : decode cX6_pass 24 = .ok (.aload_n 0, 1) := by decide +kernel
theorem dX6_pass_25 : decode cX6_pass 25 = .ok (.getfield 10, 3) := by decide +kernel
theorem dX6_pass_28 : decode cX6_pass 28 = .ok (.getfield 152, 3) := by decide +kernel
theorem dX6_pass_31 : decode cX6_pass 31 = .ok (.istore_n 2, 1) := by decide +kernel
theorem dX6_pass_32 : decode cX6_pass 32 = .ok (.iconst 0, 1) := by decide +kernel
theorem dX6_pass_33 : decode cX6_pass 33 = .ok (.istore_n 3, 1) := by decide +kernel
theorem dX6_pass_34 : decode cX6_pass 34 = .ok (.iload_n 3, 1) := by decide +kernel
theorem dX6_pass_35 : decode cX6_pass 35 = .ok (.iload_n 1, 1) := by decide +kernel
theorem dX6_pass_36 : decode cX6_pass 36 = .ok (.if_icmp .ge 16, 3) := by decide +kernel
theorem dX6_pass_39 : decode cX6_pass 39 = .ok (.aload_n 0, 1) := by decide +kernel
theorem dX6_pass_40 : decode cX6_pass 40 = .ok (.getfield 10, 3) := by decide +kernel
theorem dX6_pass_43 : decode cX6_pass 43 = .ok (.invokevirtual 155, 3) := by decide +kernel
theorem dX6_pass_46 : decode cX6_pass 46 = .ok (.iinc 3 1, 3) := by decide +kernel
theorem dX6_pass_49 : decode cX6_pass 49 = .ok (.goto (-15), 3) := by decide +kernel
theorem dX6_pass_52 : decode cX6_pass 52 = .ok (.aload_n 0, 1) := by decide +kernel
theorem dX6_pass_53 : decode cX6_pass 53 = .ok (.getfield 10, 3) := by decide +kernel
theorem dX6_pass_56 : decode cX6_pass 56 = .ok (.getfield 152, 3) := by decide +kernel
theorem dX6_pass_59 : decode cX6_pass 59 = .ok (.iload_n 2, 1) := by decide +kernel
theorem dX6_pass_60 : decode cX6_pass 60 = .ok (.isub, 1) := by decide +kernel
theorem dX6_pass_61 : decode cX6_pass 61 = .ok (.ireturn, 1) := by decide +kernel
set_option maxRecDepth 20000 in
theorem ggX6_set_X6_outside : GoodIn wsX6_set wsX6_outside := goodIn_r _ [10] (by decide +kernel) (by decide +kernel)
set_option maxRecDepth 20000 in
theorem gX6_set_X6_outside : GoodIn wsX6_set (va_wsS RX6 36 yX6_outside wsX6_outside) := goodIn_app (goodIn_of _ (by decide +kernel)) ggX6_set_X6_outside
set_option maxRecDepth 20000 in
theorem ggX6_set_X2_push : GoodIn wsX6_set wsX2_push := goodIn_r _ [15, 16, 17, 18, 19, 20, 14, 21, 22, 23, 24, 25, 26, 27, 28, 29, 30, 31, 32, 33, 34, 35, 36, 37, 38, 39, 40, 41, 42, 43, 44, 45, 46, 47, 48, 49, 50, 51, 52, 53, 54, 55, 56, 57, 58, 59, 60, 61, 62, 63, 64, 65, 66, 67, 68, 69, 70, 71, 72, 73, 74, 75, 76, 77, 78, 79, 80, 81, 82, 83, 84, 85, 86, 87, 88, 89, 90, 91, 92, 93, 94, 95, 96, 97, 98, 99, 100, 101, 124, 125, 108, 109, 110, 111, 112, 113, 114, 115, 116, 117, 118, 119, 120, 121, 122, 123, 126, 127, 128, 129, 130, 131, 132, 133, 134, 135, 136, 137, 138, 139, 140, 141, 142, 143, 144, 145] (by decide +kernel) (by decide +kernel)
set_option maxRecDepth 20000 in
theorem gX6_set_X2_push : GoodIn wsX6_set (wsV RX6 48 RX2 yX2_push wsX2_push) := goodIn_app (goodIn_of _ (by decide +kernel)) ggX6_set_X2_push
theorem dX6_set_0 : decode cX6_set 0 = .ok (.iload_n 1, 1) := by decide +kernel
theorem dX6_set_1 : decode cX6_set 1 = .ok (.ifCond .ne 23, 3) := by decide +kernel
theorem dX6_set_4 : decode cX6_set 4 = .ok (.iload_n 2, 1) := by decide +kernel
theorem dX6_set_5 : decode cX6_set 5 = .ok (.bipush 10, 2) := by decide +kernel
theorem dX6_set_7 : decode cX6_set 7 = .ok (.sipush 200, 3) := by decide +kernel
theorem dX6_set_10 : decode cX6_set 10 = .ok (.invokestatic 36, 3) := by decide +kernel
theorem dX6_set_13 : decode cX6_set 13 = .ok (.ifCond .ne 7, 3) := by decide +kernel
theorem dX6_set_16 : decode cX6_set 16 = .ok (.iconst 1, 1) := by decide +kernel
theorem dX6_set_17 : decode cX6_set 17 = .ok (.goto 28, 3) := by decide +kernel
theorem dX6_set_20 : decode cX6_set 20 = .ok (.iconst 0, 1) := by decide +kernel
theorem dX6_set_21 : decode cX6_set 21 = .ok (.goto 24, 3) := by decide +kernel
theorem dX6_set_24 : decode cX6_set 24 = .ok (.iload_n 1, 1) := by decide +kernel
theorem dX6_set_25 : decode cX6_set 25 = .ok (.iconst 1, 1) := by decide +kernel
theorem dX6_set_26 : decode cX6_set 26 = .ok (.if_icmp .ne 18, 3) := by decide +kernel
theorem dX6_set_29 : decode cX6_set 29 = .ok (.iload_n 2, 1) := by decide +kernel
theorem dX6_set_30 : decode cX6_set 30 = .ok (.iconst 0, 1) := by decide +kernel
theorem dX6_set_31 : decode cX6_set 31 = .ok (.sipush 9999, 3) := by decide +kernel
theorem dX6_set_34 : decode cX6_set 34 = .ok (.invokestatic 36, 3) := by decide +kernel
theorem dX6_set_37 : decode cX6_set 37 = .ok (.ifCond .ne 7, 3) := by decide +kernel
theorem dX6_set_40 : decode cX6_set 40 = .ok (.iconst 1, 1) := by decide +kernel
theorem dX6_set_41 : decode cX6_set 41 = .ok (.goto 4, 3) := by decide +kernel
theorem dX6_set_44 : decode cX6_set 44 = .ok (.iconst 0, 1) := by decide +kernel
theorem dX6_set_45 : decode cX6_set 45 = .ok (.istore_n 3, 1) := by decide +kernel
theorem dX6_set_46 : decode cX6_set 46 = .ok (.iload_n 3, 1) := by decide +kernel
theorem dX6_set_47 : decode cX6_set 47 = .ok (.ifCond .ne 6, 3) := by decide +kernel
theorem dX6_set_50 : decode cX6_set 50 = .ok (.ldc 41, 2) := by decide +kernel
theorem dX6_set_52 : decode cX6_set 52 = .ok (.ireturn, 1) := by decide +kernel
theorem dX6_set_53 : decode cX6_set 53 = .ok (.iload_n 1, 1) := by decide +kernel
theorem dX6_set_54 : decode cX6_set 54 = .ok (.ifCond .ne 13, 3) := by decide +kernel
theorem dX6_set_57 : decode cX6_set 57 = .ok (.aload_n 0, 1) := by decide +kernel
theorem dX6_set_58 : decode cX6_set 58 = .ok (.getfield 10, 3) := by decide +kernel
theorem dX6_set_61 : decode cX6_set 61 = .ok (.getfield 158, 3) := by decide +kernel
theorem dX6_set_64 : decode cX6_set 64 = .ok (.goto 10, 3) := by decide +kernel
theorem dX6_set_67 : decode cX6_set 67 = .ok (.aload_n 0, 1) := by decide +kernel
theorem dX6_set_68 : decode cX6_set 68 = .ok (.getfield 10, 3) := by decide +kernel
theorem dX6_set_71 : decode cX6_set 71 = .ok (.getfield 161, 3) := by decide +kernel
theorem dX6_set_74 : decode cX6_set 74 = .ok (.istore 4, 2) := by decide +kernel
theorem dX6_set_76 : decode cX6_set 76 = .ok (.iload_n 2, 1) := by decide +kernel
theorem dX6_set_77 : decode cX6_set 77 = .ok (.iload 4, 2) := by decide +kernel
theorem dX6_set_79 : decode cX6_set 79 = .ok (.if_icmp .ne 6, 3) := by decide +kernel
theorem dX6_set_82 : decode cX6_set 82 = .ok (.ldc 66, 2) := by decide +kernel
theorem dX6_set_84 : decode cX6_set 84 = .ok (.ireturn, 1) := by decide +kernel
theorem dX6_set_85 : decode cX6_set 85 = .ok (.aload_n 0, 1) := by decide +kernel
theorem dX6_set_86 : decode cX6_set 86 = .ok (.getfield 25, 3) := by decide +kernel
theorem dX6_set_89 : decode cX6_set 89 = .ok (.aload_n 0, 1) := by decide +kernel
theorem dX6_set_90 : decode cX6_set 90 = .ok (.getfield 10, 3) := by decide +kernel
theorem dX6_set_93 : decode cX6_set 93 = .ok (.invokevirtual 48, 3) := by decide +kernel
theorem dX6_set_96 : decode cX6_set 96 = .ok (.iload_n 1, 1) := by decide +kernel
theorem dX6_set_97 : decode cX6_set 97 = .ok (.ifCond .ne 14, 3) := by decide +kernel
theorem dX6_set_100 : decode cX6_set 100 = .ok (.aload_n 0, 1) := by decide +kernel
theorem dX6_set_101 : decode cX6_set 101 = .ok (.getfield 10, 3) := by decide +kernel
theorem dX6_set_104 : decode cX6_set 104 = .ok (.iload_n 2, 1) := by decide +kernel
theorem dX6_set_105 : decode cX6_set 105 = .ok (.putfield 158, 3) := by decide +kernel
theorem dX6_set_108 : decode cX6_set 108 = .ok (.goto 11, 3) := by decide +kernel
theorem dX6_set_111 : decode cX6_set 111 = .ok (.aload_n 0, 1) := by decide +kernel
theorem dX6_set_112 : decode cX6_set 112 = .ok (.getfield 10, 3) := by decide +kernel
theorem dX6_set_115 : decode cX6_set 115 = .ok (.iload_n 2, 1) := by decide +kernel
theorem dX6_set_116 : decode cX6_set 116 = .ok (.putfield 161, 3) := by decide +kernel
theorem dX6_set_119 : decode cX6_set 119 = .ok (.iload 4, 2) := by decide +kernel
theorem dX6_set_121 : decode cX6_set 121 = .ok (.ireturn, 1) := by decide +kernel
set_option maxRecDepth 20000 in
theorem ggX6_setSeed_X6_outside : GoodIn wsX6_setSeed wsX6_outside := goodIn_r _ [9] (by decide +kernel) (by decide +kernel)
set_option maxRecDepth 20000 in
theorem gX6_setSeed_X6_outside : GoodIn wsX6_setSeed (va_wsS RX6 36 yX6_outside wsX6_outside) := goodIn_app (goodIn_of _ (by decide +kernel)) ggX6_setSeed_X6_outside
set_option maxRecDepth 20000 in
theorem ggX6_setSeed_X2_push : GoodIn wsX6_setSeed wsX2_push := goodIn_r _ [14, 15, 16, 17, 18, 19, 13, 20, 21, 22, 23, 24, 25, 26, 27, 28, 29, 30, 31, 32, 33, 34, 35, 36, 37, 38, 39, 40, 41, 42, 43, 44, 45, 46, 47, 48, 49, 50, 51, 52, 53, 54, 55, 56, 57, 58, 59, 60, 61, 62, 63, 64, 65, 66, 67, 68, 69, 70, 71, 72, 73, 74, 75, 76, 77, 78, 79, 80, 81, 82, 83, 84, 85, 86, 87, 88, 89, 90, 91, 92, 93, 94, 95, 96, 97, 98, 99, 100, 123, 124, 107, 108, 109, 110, 111, 112, 113, 114, 115, 116, 117, 118, 119, 120, 121, 122, 125, 126, 127, 128, 129, 130, 131, 132, 133, 134, 135, 136, 137, 138, 139, 140, 141, 142, 143, 144] (by decide +kernel) (by decide +kernel)
set_option maxRecDepth 20000 in
theorem gX6_setSeed_X2_push : GoodIn wsX6_setSeed (wsV RX6 48 RX2 yX2_push wsX2_push) := goodIn_app (goodIn_of _ (by decide +kernel)) ggX6_setSeed_X2_push
theorem dX6_setSeed_0 : decode cX6_setSeed 0 = .ok (.iload_n 1, 1) := by decide +kernel
theorem dX6_setSeed_1 : decode cX6_setSeed 1 = .ok (.iconst 0, 1) := by decide +kernel
theorem dX6_setSeed_2 : decode cX6_setSeed 2 = .ok (.sipush 9999, 3) := by decide +kernel
theorem dX6_setSeed_5 : decode cX6_setSeed 5 = .ok (.invokestatic 36, 3) := by decide +kernel
theorem dX6_setSeed_8 : decode cX6_setSeed 8 = .ok (.ifCond .eq 6, 3) := by decide +kernel
theorem dX6_setSeed_11 : decode cX6_setSeed 11 = .ok (.ldc 41, 2) := by decide +kernel
theorem dX6_setSeed_13 : decode cX6_setSeed 13 = .ok (.ireturn, 1) := by decide +kernel
theorem dX6_setSeed_14 : decode cX6_setSeed 14 = .ok (.aload_n 0, 1) := by decide +kernel
theorem dX6_setSeed_15 : decode cX6_setSeed 15 = .ok (.getfield 10, 3) := by decide +kernel
theorem dX6_setSeed_18 : decode cX6_setSeed 18 = .ok (.getfield 164, 3) := by decide +kernel
theorem dX6_setSeed_21 : decode cX6_setSeed 21 = .ok (.istore_n 2, 1) := by decide +kernel
theorem dX6_setSeed_22 : decode cX6_setSeed 22 = .ok (.iload_n 1, 1) := by decide +kernel
theorem dX6_setSeed_23 : decode cX6_setSeed 23 = .ok (.iload_n 2, 1) := by decide +kernel
theorem dX6_setSeed_24 : decode cX6_setSeed 24 = .ok (.if_icmp .ne 6, 3) := by decide +kernel
theorem dX6_setSeed_27 : decode cX6_setSeed 27 = .ok (.ldc 66, 2) := by decide +kernel
theorem dX6_setSeed_29 : decode cX6_setSeed 29 = .ok (.ireturn, 1) := by decide +kernel
theorem dX6_setSeed_30 : decode cX6_setSeed 30 = .ok (.aload_n 0, 1) := by decide +kernel
theorem dX6_setSeed_31 : decode cX6_setSeed 31 = .ok (.getfield 25, 3) := by decide +kernel
theorem dX6_setSeed_34 : decode cX6_setSeed 34 = .ok (.aload_n 0, 1) := by decide +kernel
theorem dX6_setSeed_35 : decode cX6_setSeed 35 = .ok (.getfield 10, 3) := by decide +kernel
theorem dX6_setSeed_38 : decode cX6_setSeed 38 = .ok (.invokevirtual 48, 3) := by decide +kernel
theorem dX6_setSeed_41 : decode cX6_setSeed 41 = .ok (.aload_n 0, 1) := by decide +kernel
theorem dX6_setSeed_42 : decode cX6_setSeed 42 = .ok (.getfield 10, 3) := by decide +kernel
theorem dX6_setSeed_45 : decode cX6_setSeed 45 = .ok (.iload_n 1, 1) := by decide +kernel
theorem dX6_setSeed_46 : decode cX6_setSeed 46 = .ok (.putfield 164, 3) := by decide +kernel
theorem dX6_setSeed_49 : decode cX6_setSeed 49 = .ok (.iload_n 2, 1) := by decide +kernel
theorem dX6_setSeed_50 : decode cX6_setSeed 50 = .ok (.ireturn, 1) := by decide +kernel
set_option maxRecDepth 20000 in
theorem ggX6_undo_X2_takeLatest : GoodIn wsX6_undo wsX2_takeLatest := goodIn_r _ [9, 10, 11, 12, 13, 8, 14, 15, 98, 99] (by decide +kernel) (by decide +kernel)
set_option maxRecDepth 20000 in
theorem gX6_undo_X2_takeLatest : GoodIn wsX6_undo (wsV RX6 173 RX2 yX2_takeLatest wsX2_takeLatest) := goodIn_app (goodIn_of _ (by decide +kernel)) ggX6_undo_X2_takeLatest
set_option maxRecDepth 20000 in
theorem ggX6_undo_X4_copyFrom : GoodIn wsX6_undo wsX4_copyFrom := goodIn_r _ [20, 21, 22, 23, 24, 25, 19, 26, 27, 28, 29, 30, 31, 32, 33, 34, 35, 36, 37, 38, 39, 40, 41, 42, 43, 44, 45, 46, 47, 48, 49, 50, 51, 52, 53, 54, 55, 56, 57, 58, 59, 60, 61, 62, 63, 64, 65, 66, 67, 68, 69, 70, 71, 72, 73, 74, 75, 76, 77, 78, 79, 80, 81, 82, 83, 84, 85, 86, 87, 88, 89, 90, 91, 100, 101, 102, 103, 104, 105, 106, 107, 108, 109, 110, 111, 112, 113, 114, 115, 116, 117, 118, 119, 120, 121, 122, 123, 124, 125, 126, 127, 128, 129, 130, 131, 132, 133, 134, 135] (by decide +kernel) (by decide +kernel)
set_option maxRecDepth 20000 in
theorem gX6_undo_X4_copyFrom : GoodIn wsX6_undo (wsV RX6 116 RX4 yX4_copyFrom wsX4_copyFrom) := goodIn_app (goodIn_of _ (by decide +kernel)) ggX6_undo_X4_copyFrom
theorem dX6_undo_0 : decode cX6_undo 0 = .ok (.aload_n 0, 1) := by decide +kernel
theorem dX6_undo_1 : decode cX6_undo 1 = .ok (.getfield 25, 3) := by decide +kernel
theorem dX6_undo_4 : decode cX6_undo 4 = .ok (.invokevirtual 173, 3) := by decide +kernel
theorem dX6_undo_7 : decode cX6_undo 7 = .ok (.astore_n 1, 1) := by decide +kernel
theorem dX6_undo_8 : decode cX6_undo 8 = .ok (.aload_n 1, 1) := by decide +kernel
theorem dX6_undo_9 : decode cX6_undo 9 = .ok (.ifnonnull 6, 3) := by decide +kernel
theorem dX6_undo_12 : decode cX6_undo 12 = .ok (.ldc 66, 2) := by decide +kernel
theorem dX6_undo_14 : decode cX6_undo 14 = .ok (.ireturn, 1) := by decide +kernel
theorem dX6_undo_15 : decode cX6_undo 15 = .ok (.aload_n 0, 1) := by decide +kernel
theorem dX6_undo_16 : decode cX6_undo 16 = .ok (.getfield 10, 3) := by decide +kernel
theorem dX6_undo_19 : decode cX6_undo 19 = .ok (.aload_n 1, 1) := by decide +kernel
theorem dX6_undo_20 : decode cX6_undo 20 = .ok (.invokevirtual 116, 3) := by decide +kernel
theorem dX6_undo_23 : decode cX6_undo 23 = .ok (.aload_n 0, 1) := by decide +kernel
theorem dX6_undo_24 : decode cX6_undo 24 = .ok (.getfield 25, 3) := by decide +kernel
theorem dX6_undo_27 : decode cX6_undo 27 = .ok (.getfield 177, 3) := by decide +kernel
theorem dX6_undo_30 : decode cX6_undo 30 = .ok (.ireturn, 1) := by decide +kernel
set_option maxRecDepth 20000 in
theorem ggX6_keep_X4_copyFrom : GoodIn wsX6_keep wsX4_copyFrom := goodIn_r _ [9, 10, 11, 12, 13, 14, 8, 15, 16, 17, 18, 19, 20, 21, 22, 23, 24, 25, 26, 27, 28, 29, 30, 31, 32, 33, 34, 35, 36, 37, 38, 39, 40, 41, 42, 43, 44, 45, 46, 47, 48, 49, 50, 51, 52, 53, 54, 55, 56, 57, 58, 59, 60, 61, 62, 63, 64, 65, 66, 67, 68, 69, 70, 71, 72, 73, 74, 75, 76, 77, 78, 79, 80, 87, 88, 89, 90, 91, 92, 93, 94, 95, 96, 97, 98, 99, 100, 101, 102, 103, 104, 105, 106, 107, 108, 109, 110, 111, 112, 113, 114, 115, 116, 117, 118, 119, 120, 121, 122] (by decide +kernel) (by decide +kernel)
set_option maxRecDepth 20000 in
theorem gX6_keep_X4_copyFrom : GoodIn wsX6_keep (wsV RX6 116 RX4 yX4_copyFrom wsX4_copyFrom) := goodIn_app (goodIn_of _ (by decide +kernel)) ggX6_keep_X4_copyFrom
theorem dX6_keep_0 : decode cX6_keep 0 = .ok (.aload_n 0, 1) := by decide +kernel
theorem dX6_keep_1 : decode cX6_keep 1 = .ok (.getfield 19, 3) := by decide +kernel
theorem dX6_keep_4 : decode cX6_keep 4 = .ok (.aload_n 0, 1) := by decide +kernel
theorem dX6_keep_5 : decode cX6_keep 5 = .ok (.getfield 10, 3) := by decide +kernel
theorem dX6_keep_8 : decode cX6_keep 8 = .ok (.invokevirtual 116, 3) := by decide +kernel
theorem dX6_keep_11 : decode cX6_keep 11 = .ok (.aload_n 0, 1) := by decide +kernel
theorem dX6_keep_12 : decode cX6_keep 12 = .ok (.iconst 1, 1) := by decide +kernel
theorem dX6_keep_13 : decode cX6_keep 13 = .ok (.putfield 180, 3) := by decide +kernel
theorem dX6_keep_16 : decode cX6_keep 16 = .ok (.aload_n 0, 1) := by decide +kernel
theorem dX6_keep_17 : decode cX6_keep 17 = .ok (.getfield 10, 3) := by decide +kernel
theorem dX6_keep_20 : decode cX6_keep 20 = .ok (.getfield 183, 3) := by decide +kernel
theorem dX6_keep_23 : decode cX6_keep 23 = .ok (.ireturn, 1) := by decide +kernel
set_option maxRecDepth 20000 in
theorem ggX6_restore_X2_push : GoodIn wsX6_restore wsX2_push := goodIn_r _ [11, 12, 13, 14, 15, 16, 10, 17, 18, 19, 20, 21, 22, 23, 24, 25, 26, 27, 28, 29, 30, 31, 32, 33, 34, 35, 36, 37, 38, 39, 40, 41, 42, 43, 44, 45, 46, 47, 48, 49, 50, 51, 52, 53, 54, 55, 56, 57, 58, 59, 60, 61, 62, 63, 64, 65, 66, 67, 68, 69, 70, 71, 72, 73, 74, 75, 76, 77, 78, 79, 80, 81, 82, 83, 84, 85, 86, 87, 88, 89, 90, 91, 92, 93, 94, 95, 96, 97, 121, 122, 105, 106, 107, 108, 109, 110, 111, 112, 113, 114, 115, 116, 117, 118, 119, 120, 123, 124, 125, 126, 127, 128, 129, 130, 131, 132, 133, 134, 135, 136, 137, 138, 139, 140, 141, 142] (by decide +kernel) (by decide +kernel)
set_option maxRecDepth 20000 in
theorem gX6_restore_X2_push : GoodIn wsX6_restore (wsV RX6 48 RX2 yX2_push wsX2_push) := goodIn_app (goodIn_of _ (by decide +kernel)) ggX6_restore_X2_push
set_option maxRecDepth 20000 in
theorem ggX6_restore_X4_copyFrom : GoodIn wsX6_restore wsX4_copyFrom := goodIn_r _ [26, 27, 28, 29, 30, 31, 25, 32, 33, 34, 35, 36, 37, 38, 39, 40, 41, 42, 43, 44, 45, 46, 47, 48, 49, 50, 51, 52, 53, 54, 55, 56, 57, 58, 59, 60, 61, 62, 63, 64, 65, 66, 67, 68, 69, 70, 71, 72, 73, 74, 75, 76, 77, 78, 79, 80, 81, 82, 83, 84, 85, 86, 87, 88, 89, 90, 91, 92, 93, 94, 95, 96, 97, 105, 106, 107, 108, 109, 110, 111, 112, 113, 114, 115, 116, 117, 118, 119, 120, 123, 124, 125, 126, 127, 128, 129, 130, 131, 132, 133, 134, 135, 136, 137, 138, 139, 140, 141, 142] (by decide +kernel) (by decide +kernel)
set_option maxRecDepth 20000 in
theorem gX6_restore_X4_copyFrom : GoodIn wsX6_restore (wsV RX6 116 RX4 yX4_copyFrom wsX4_copyFrom) := goodIn_app (goodIn_of _ (by decide +kernel)) ggX6_restore_X4_copyFrom
theorem dX6_restore_0 : decode cX6_restore 0 = .ok (.aload_n 0, 1) := by decide +kernel
theorem dX6_restore_1 : decode cX6_restore 1 = .ok (.getfield 180, 3) := by decide +kernel
theorem dX6_restore_4 : decode cX6_restore 4 = .ok (.ifCond .ne 6, 3) := by decide +kernel
theorem dX6_restore_7 : decode cX6_restore 7 = .ok (.ldc 66, 2) := by decide +kernel
theorem dX6_restore_9 : decode cX6_restore 9 = .ok (.ireturn, 1) := by decide +kernel
theorem dX6_restore_10 : decode cX6_restore 10 = .ok (.aload_n 0, 1) := by decide +kernel
theorem dX6_restore_11 : decode cX6_restore 11 = .ok (.getfield 25, 3) := by decide +kernel
theorem dX6_restore_14 : decode cX6_restore 14 = .ok (.aload_n 0, 1) := by decide +kernel
theorem dX6_restore_15 : decode cX6_restore 15 = .ok (.getfield 10, 3) := by decide +kernel
theorem dX6_restore_18 : decode cX6_restore 18 = .ok (.invokevirtual 48, 3) := by decide +kernel
theorem dX6_restore_21 : decode cX6_restore 21 = .ok (.aload_n 0, 1) := by decide +kernel
theorem dX6_restore_22 : decode cX6_restore 22 = .ok (.getfield 10, 3) := by decide +kernel
theorem dX6_restore_25 : decode cX6_restore 25 = .ok (.aload_n 0, 1) := by decide +kernel
theorem dX6_restore_26 : decode cX6_restore 26 = .ok (.getfield 19, 3) := by decide +kernel
theorem dX6_restore_29 : decode cX6_restore 29 = .ok (.invokevirtual 116, 3) := by decide +kernel
theorem dX6_restore_32 : decode cX6_restore 32 = .ok (.aload_n 0, 1) := by decide +kernel
theorem dX6_restore_33 : decode cX6_restore 33 = .ok (.getfield 10, 3) := by decide +kernel
theorem dX6_restore_36 : decode cX6_restore 36 = .ok (.getfield 183, 3) := by decide +kernel
theorem dX6_restore_39 : decode cX6_restore 39 = .ok (.ireturn, 1) := by decide +kernel
set_option maxRecDepth 20000 in
theorem ggX6_farmer_X4_farmerAt : GoodIn wsX6_farmer wsX4_farmerAt := goodIn_r _ [14, 15, 39, 40, 41, 42, 43, 44, 45, 46, 47, 48, 49, 50, 51, 52, 53, 54] (by decide +kernel) (by decide +kernel)
set_option maxRecDepth 20000 in
theorem gX6_farmer_X4_farmerAt : GoodIn wsX6_farmer (wsV RX6 56 RX4 yX4_farmerAt wsX4_farmerAt) := goodIn_app (goodIn_of _ (by decide +kernel)) ggX6_farmer_X4_farmerAt
set_option maxRecDepth 20000 in
theorem ggX6_farmer_X4_standingOf : GoodIn wsX6_farmer wsX4_standingOf := goodIn_r _ [19, 20, 21, 22, 23, 24, 13, 25, 26, 39, 40, 41, 42, 43, 44, 45, 46, 47, 48, 49, 50, 51, 52, 53, 54, 55, 56, 57, 58, 59, 60] (by decide +kernel) (by decide +kernel)
set_option maxRecDepth 20000 in
theorem gX6_farmer_X4_standingOf : GoodIn wsX6_farmer (wsV RX6 187 RX4 yX4_standingOf wsX4_standingOf) := goodIn_app (goodIn_of _ (by decide +kernel)) ggX6_farmer_X4_standingOf
theorem dX6_farmer_0 : decode cX6_farmer 0 = .ok (.aload_n 0, 1) := by decide +kernel
theorem dX6_farmer_1 : decode cX6_farmer 1 = .ok (.getfield 10, 3) := by decide +kernel
theorem dX6_farmer_4 : decode cX6_farmer 4 = .ok (.iload_n 1, 1) := by decide +kernel
theorem dX6_farmer_5 : decode cX6_farmer 5 = .ok (.invokevirtual 56, 3) := by decide +kernel
theorem dX6_farmer_8 : decode cX6_farmer 8 = .ok (.astore_n 3, 1) := by decide +kernel
theorem dX6_farmer_9 : decode cX6_farmer 9 = .ok (.aload_n 3, 1) := by decide +kernel
theorem dX6_farmer_10 : decode cX6_farmer 10 = .ok (.ifnonnull 6, 3) := by decide +kernel
theorem dX6_farmer_13 : decode cX6_farmer 13 = .ok (.ldc 40, 2) := by decide +kernel
theorem dX6_farmer_15 : decode cX6_farmer 15 = .ok (.ireturn, 1) := by decide +kernel
theorem dX6_farmer_16 : decode cX6_farmer 16 = .ok (.iload_n 2, 1) := by decide +kernel
theorem dX6_farmer_17 : decode cX6_farmer 17 = .ok (.tableswitch 82 0 6 #[43, 48, 53, 58, 63, 72, 77], 43) := by decide +kernel
theorem dX6_farmer_60 : decode cX6_farmer 60 = .ok (.aload_n 3, 1) := by decide +kernel
theorem dX6_farmer_61 : decode cX6_farmer 61 = .ok (.getfield 98, 3) := by decide +kernel
theorem dX6_farmer_64 : decode cX6_farmer 64 = .ok (.ireturn, 1) := by decide +kernel
theorem dX6_farmer_65 : decode cX6_farmer 65 = .ok (.aload_n 3, 1) := by decide +kernel
theorem dX6_farmer_66 : decode cX6_farmer 66 = .ok (.getfield 60, 3) := by decide +kernel
theorem dX6_farmer_69 : decode cX6_farmer 69 = .ok (.ireturn, 1) := by decide +kernel
theorem dX6_farmer_70 : decode cX6_farmer 70 = .ok (.aload_n 3, 1) := by decide +kernel
theorem dX6_farmer_71 : decode cX6_farmer 71 = .ok (.getfield 186, 3) := by decide +kernel
theorem dX6_farmer_74 : decode cX6_farmer 74 = .ok (.ireturn, 1) := by decide +kernel
theorem dX6_farmer_75 : decode cX6_farmer 75 = .ok (.aload_n 3, 1) := by decide +kernel
theorem dX6_farmer_76 : decode cX6_farmer 76 = .ok (.getfield 81, 3) := by decide +kernel
theorem dX6_farmer_79 : decode cX6_farmer 79 = .ok (.ireturn, 1) := by decide +kernel
theorem dX6_farmer_80 : decode cX6_farmer 80 = .ok (.aload_n 0, 1) := by decide +kernel
theorem dX6_farmer_81 : decode cX6_farmer 81 = .ok (.getfield 10, 3) := by decide +kernel
theorem dX6_farmer_84 : decode cX6_farmer 84 = .ok (.iload_n 1, 1) := by decide +kernel
theorem dX6_farmer_85 : decode cX6_farmer 85 = .ok (.invokevirtual 187, 3) := by decide +kernel
theorem dX6_farmer_88 : decode cX6_farmer 88 = .ok (.ireturn, 1) := by decide +kernel
theorem dX6_farmer_89 : decode cX6_farmer 89 = .ok (.aload_n 3, 1) := by decide +kernel
theorem dX6_farmer_90 : decode cX6_farmer 90 = .ok (.getfield 190, 3) := by decide +kernel
theorem dX6_farmer_93 : decode cX6_farmer 93 = .ok (.ireturn, 1) := by decide +kernel
theorem dX6_farmer_94 : decode cX6_farmer 94 = .ok (.aload_n 3, 1) := by decide +kernel
theorem dX6_farmer_95 : decode cX6_farmer 95 = .ok (.getfield 193, 3) := by decide +kernel
theorem dX6_farmer_98 : decode cX6_farmer 98 = .ok (.ireturn, 1) := by decide +kernel
theorem dX6_farmer_99 : decode cX6_farmer 99 = .ok (.ldc 41, 2) := by decide +kernel
theorem dX6_farmer_101 : decode cX6_farmer 101 = .ok (.ireturn, 1) := by decide +kernel
set_option maxRecDepth 20000 in
theorem ggX6_machine_X4_machineAt : GoodIn wsX6_machine wsX4_machineAt := goodIn_r _ [15, 16, 17, 44, 45, 46, 47, 48, 49, 50, 51, 52, 53, 54, 55, 56, 57, 58, 59] (by decide +kernel) (by decide +kernel)
set_option maxRecDepth 20000 in
theorem gX6_machine_X4_machineAt : GoodIn wsX6_machine (wsV RX6 67 RX4 yX4_machineAt wsX4_machineAt) := goodIn_app (goodIn_of _ (by decide +kernel)) ggX6_machine_X4_machineAt
set_option maxRecDepth 20000 in
theorem ggX6_machine_X3_hoursSinceMended : GoodIn wsX6_machine wsX3_hoursSinceMended := goodIn_r _ [22, 23, 36, 37, 38, 39, 40, 41, 42, 43] (by decide +kernel) (by decide +kernel)
set_option maxRecDepth 20000 in
theorem gX6_machine_X3_hoursSinceMended : GoodIn wsX6_machine (wsV RX6 199 RX3 yX3_hoursSinceMended wsX3_hoursSinceMended) := goodIn_app (goodIn_of _ (by decide +kernel)) ggX6_machine_X3_hoursSinceMended
set_option maxRecDepth 20000 in
theorem ggX6_machine_X6_bitsOf : GoodIn wsX6_machine wsX6_bitsOf := goodIn_r _ [27, 28, 29] (by decide +kernel) (by decide +kernel)
set_option maxRecDepth 20000 in
theorem gX6_machine_X6_bitsOf : GoodIn wsX6_machine (va_wsS RX6 208 yX6_bitsOf wsX6_bitsOf) := goodIn_app (goodIn_of _ (by decide +kernel)) ggX6_machine_X6_bitsOf
theorem dX6_machine_0 : decode cX6_machine 0 = .ok (.aload_n 0, 1) := by decide +kernel
theorem dX6_machine_1 : decode cX6_machine 1 = .ok (.getfield 10, 3) := by decide +kernel
theorem dX6_machine_4 : decode cX6_machine 4 = .ok (.iload_n 1, 1) := by decide +kernel
theorem dX6_machine_5 : decode cX6_machine 5 = .ok (.invokevirtual 67, 3) := by decide +kernel
theorem dX6_machine_8 : decode cX6_machine 8 = .ok (.astore_n 3, 1) := by decide +kernel
theorem dX6_machine_9 : decode cX6_machine 9 = .ok (.aload_n 3, 1) := by decide +kernel
theorem dX6_machine_10 : decode cX6_machine 10 = .ok (.ifnonnull 6, 3) := by decide +kernel
theorem dX6_machine_13 : decode cX6_machine 13 = .ok (.ldc 40, 2) := by decide +kernel
theorem dX6_machine_15 : decode cX6_machine 15 = .ok (.ireturn, 1) := by decide +kernel
theorem dX6_machine_16 : decode cX6_machine 16 = .ok (.iload_n 2, 1) := by decide +kernel
theorem dX6_machine_17 : decode cX6_machine 17 = .ok (.tableswitch 98 0 7 #[47, 52, 57, 70, 75, 80, 85, 93], 47) := by decide +kernel
theorem dX6_machine_64 : decode cX6_machine 64 = .ok (.aload_n 3, 1) := by decide +kernel
theorem dX6_machine_65 : decode cX6_machine 65 = .ok (.getfield 196, 3) := by decide +kernel
theorem dX6_machine_68 : decode cX6_machine 68 = .ok (.ireturn, 1) := by decide +kernel
theorem dX6_machine_69 : decode cX6_machine 69 = .ok (.aload_n 3, 1) := by decide +kernel
theorem dX6_machine_70 : decode cX6_machine 70 = .ok (.getfield 71, 3) := by decide +kernel
theorem dX6_machine_73 : decode cX6_machine 73 = .ok (.ireturn, 1) := by decide +kernel
theorem dX6_machine_74 : decode cX6_machine 74 = .ok (.aload_n 3, 1) := by decide +kernel
theorem dX6_machine_75 : decode cX6_machine 75 = .ok (.getfield 90, 3) := by decide +kernel
theorem dX6_machine_78 : decode cX6_machine 78 = .ok (.ifCond .eq 7, 3) := by decide +kernel
theorem dX6_machine_81 : decode cX6_machine 81 = .ok (.iconst 1, 1) := by decide +kernel
theorem dX6_machine_82 : decode cX6_machine 82 = .ok (.goto 4, 3) := by decide +kernel
theorem dX6_machine_85 : decode cX6_machine 85 = .ok (.iconst 0, 1) := by decide +kernel
theorem dX6_machine_86 : decode cX6_machine 86 = .ok (.ireturn, 1) := by decide +kernel
theorem dX6_machine_87 : decode cX6_machine 87 = .ok (.aload_n 3, 1) := by decide +kernel
theorem dX6_machine_88 : decode cX6_machine 88 = .ok (.invokevirtual 199, 3) := by decide +kernel
theorem dX6_machine_91 : decode cX6_machine 91 = .ok (.ireturn, 1) := by decide +kernel
theorem dX6_machine_92 : decode cX6_machine 92 = .ok (.aload_n 3, 1) := by decide +kernel
theorem dX6_machine_93 : decode cX6_machine 93 = .ok (.getfield 202, 3) := by decide +kernel
theorem dX6_machine_96 : decode cX6_machine 96 = .ok (.ireturn, 1) := by decide +kernel
theorem dX6_machine_97 : decode cX6_machine 97 = .ok (.aload_n 3, 1) := by decide +kernel
theorem dX6_machine_98 : decode cX6_machine 98 = .ok (.getfield 205, 3) := by decide +kernel
theorem dX6_machine_101 : decode cX6_machine 101 = .ok (.ireturn, 1) := by decide +kernel
theorem dX6_machine_102 : decode cX6_machine 102 = .ok (.aload_n 3, 1) := by decide +kernel
theorem dX6_machine_103 : decode cX6_machine 103 = .ok (.getfield 76, 3) := by decide +kernel
theorem dX6_machine_106 : decode cX6_machine 106 = .ok (.invokestatic 208, 3) := by decide +kernel
theorem dX6_machine_109 : decode cX6_machine 109 = .ok (.ireturn, 1) := by decide +kernel
theorem dX6_machine_110 : decode cX6_machine 110 = .ok (.aload_n 3, 1) := by decide +kernel
theorem dX6_machine_111 : decode cX6_machine 111 = .ok (.getfield 212, 3) := by decide +kernel
theorem dX6_machine_114 : decode cX6_machine 114 = .ok (.ireturn, 1) := by decide +kernel
theorem dX6_machine_115 : decode cX6_machine 115 = .ok (.ldc 41, 2) := by decide +kernel
theorem dX6_machine_117 : decode cX6_machine 117 = .ok (.ireturn, 1) := by decide +kernel
set_option maxRecDepth 20000 in
theorem ggX6_fuel_X4_machineAt : GoodIn wsX6_fuel wsX4_machineAt := goodIn_r _ [8, 9, 10, 25, 26, 27, 28, 29, 30, 31, 32, 33, 34, 35, 36, 37, 38, 39, 40] (by decide +kernel) (by decide +kernel)
set_option maxRecDepth 20000 in
theorem gX6_fuel_X4_machineAt : GoodIn wsX6_fuel (wsV RX6 67 RX4 yX4_machineAt wsX4_machineAt) := goodIn_app (goodIn_of _ (by decide +kernel)) ggX6_fuel_X4_machineAt
theorem dX6_fuel_0 : decode cX6_fuel 0 = .ok (.aload_n 0, 1) := by decide +kernel
theorem dX6_fuel_1 : decode cX6_fuel 1 = .ok (.getfield 10, 3) := by decide +kernel
theorem dX6_fuel_4 : decode cX6_fuel 4 = .ok (.iload_n 1, 1) := by decide +kernel
theorem dX6_fuel_5 : decode cX6_fuel 5 = .ok (.invokevirtual 67, 3) := by decide +kernel
theorem dX6_fuel_8 : decode cX6_fuel 8 = .ok (.astore_n 2, 1) := by decide +kernel
theorem dX6_fuel_9 : decode cX6_fuel 9 = .ok (.aload_n 2, 1) := by decide +kernel
theorem dX6_fuel_10 : decode cX6_fuel 10 = .ok (.ifnonnull 8, 3) := by decide +kernel
theorem dX6_fuel_13 : decode cX6_fuel 13 = .ok (.ldc 215, 2) := by decide +kernel
theorem dX6_fuel_15 : decode cX6_fuel 15 = .ok (.goto 7, 3) := by decide +kernel
theorem dX6_fuel_18 : decode cX6_fuel 18 = .ok (.aload_n 2, 1) := by decide +kernel
theorem dX6_fuel_19 : decode cX6_fuel 19 = .ok (.getfield 76, 3) := by decide +kernel
theorem dX6_fuel_22 : decode cX6_fuel 22 = .ok (.freturn, 1) := by decide +kernel
set_option maxRecDepth 20000 in
theorem ggX6_hours_X4_machineAt : GoodIn wsX6_hours wsX4_machineAt := goodIn_r _ [7, 8, 9, 26, 27, 28, 29, 30, 31, 32, 33, 34, 35, 36, 37, 38, 39, 40, 41] (by decide +kernel) (by decide +kernel)
set_option maxRecDepth 20000 in
theorem gX6_hours_X4_machineAt : GoodIn wsX6_hours (wsV RX6 67 RX4 yX4_machineAt wsX4_machineAt) := goodIn_app (goodIn_of _ (by decide +kernel)) ggX6_hours_X4_machineAt
set_option maxRecDepth 20000 in
theorem ggX6_hours_X6_outside : GoodIn wsX6_hours wsX6_outside := goodIn_r _ [13] (by decide +kernel) (by decide +kernel)
set_option maxRecDepth 20000 in
theorem gX6_hours_X6_outside : GoodIn wsX6_hours (va_wsS RX6 36 yX6_outside wsX6_outside) := goodIn_app (goodIn_of _ (by decide +kernel)) ggX6_hours_X6_outside
set_option maxRecDepth 20000 in
theorem ggX6_hours_X3_hoursOf : GoodIn wsX6_hours wsX3_hoursOf := goodIn_r _ [18, 19, 42, 43, 44, 45, 46, 47, 48, 49] (by decide +kernel) (by decide +kernel)
set_option maxRecDepth 20000 in
theorem gX6_hours_X3_hoursOf : GoodIn wsX6_hours (wsV RX6 216 RX3 yX3_hoursOf wsX3_hoursOf) := goodIn_app (goodIn_of _ (by decide +kernel)) ggX6_hours_X3_hoursOf
theorem dX6_hours_0 : decode cX6_hours 0 = .ok (.aload_n 0, 1) := by decide +kernel
theorem dX6_hours_1 : decode cX6_hours 1 = .ok (.getfield 10, 3) := by decide +kernel
theorem dX6_hours_4 : decode cX6_hours 4 = .ok (.iload_n 1, 1) := by decide +kernel
theorem dX6_hours_5 : decode cX6_hours 5 = .ok (.invokevirtual 67, 3) := by decide +kernel
theorem dX6_hours_8 : decode cX6_hours 8 = .ok (.astore_n 3, 1) := by decide +kernel
theorem dX6_hours_9 : decode cX6_hours 9 = .ok (.aload_n 3, 1) := by decide +kernel
theorem dX6_hours_10 : decode cX6_hours 10 = .ok (.ifnull 12, 3) := by decide +kernel
theorem dX6_hours_13 : decode cX6_hours 13 = .ok (.iload_n 2, 1) := by decide +kernel
theorem dX6_hours_14 : decode cX6_hours 14 = .ok (.iconst 0, 1) := by decide +kernel
theorem dX6_hours_15 : decode cX6_hours 15 = .ok (.iconst 5, 1) := by decide +kernel
theorem dX6_hours_16 : decode cX6_hours 16 = .ok (.invokestatic 36, 3) := by decide +kernel
theorem dX6_hours_19 : decode cX6_hours 19 = .ok (.ifCond .eq 6, 3) := by decide +kernel
theorem dX6_hours_22 : decode cX6_hours 22 = .ok (.ldc 40, 2) := by decide +kernel
theorem dX6_hours_24 : decode cX6_hours 24 = .ok (.ireturn, 1) := by decide +kernel
theorem dX6_hours_25 : decode cX6_hours 25 = .ok (.aload_n 3, 1) := by decide +kernel
theorem dX6_hours_26 : decode cX6_hours 26 = .ok (.iload_n 2, 1) := by decide +kernel
theorem dX6_hours_27 : decode cX6_hours 27 = .ok (.invokevirtual 216, 3) := by decide +kernel
theorem dX6_hours_30 : decode cX6_hours 30 = .ok (.ireturn, 1) := by decide +kernel
set_option maxRecDepth 20000 in
theorem ggX6_booking_X4_placeOf : GoodIn wsX6_booking wsX4_placeOf := goodIn_r _ [13, 14, 15, 16, 17, 18, 12, 19, 20, 69, 70, 71, 72, 73, 74, 75, 76, 77, 78, 79, 80, 81, 82, 83, 84, 63, 64, 65, 66, 67, 68] (by decide +kernel) (by decide +kernel)
set_option maxRecDepth 20000 in
theorem gX6_booking_X4_placeOf : GoodIn wsX6_booking (wsV RX6 142 RX4 yX4_placeOf wsX4_placeOf) := goodIn_app (goodIn_of _ (by decide +kernel)) ggX6_booking_X4_placeOf
set_option maxRecDepth 20000 in
theorem ggX6_booking_X4_bookingAt : GoodIn wsX6_booking wsX4_bookingAt := goodIn_r _ [19, 14, 20, 69, 70, 71, 72, 73, 74, 75, 76, 77, 78, 79, 80, 81, 82, 83, 84] (by decide +kernel) (by decide +kernel)
set_option maxRecDepth 20000 in
theorem gX6_booking_X4_bookingAt : GoodIn wsX6_booking (wsV RX6 219 RX4 yX4_bookingAt wsX4_bookingAt) := goodIn_app (goodIn_of _ (by decide +kernel)) ggX6_booking_X4_bookingAt
set_option maxRecDepth 20000 in
theorem ggX6_booking_X4_chargeOf : GoodIn wsX6_booking wsX4_chargeOf := goodIn_r _ [25, 26, 27, 28, 29, 30, 31, 32, 33, 34, 12, 35, 36, 37, 38, 39, 40, 41, 42, 43, 44, 45, 46, 47, 48, 49, 50, 51, 52, 53, 54, 55, 56, 63, 64, 65, 66, 67, 68, 85, 86, 87, 88, 89, 90, 91, 92, 69, 70, 71, 72, 73, 74, 75, 76, 77, 78, 79, 80, 81, 82, 83, 84, 93, 94, 95, 96, 97, 98] (by decide +kernel) (by decide +kernel)
set_option maxRecDepth 20000 in
theorem gX6_booking_X4_chargeOf : GoodIn wsX6_booking (wsV RX6 232 RX4 yX4_chargeOf wsX4_chargeOf) := goodIn_app (goodIn_of _ (by decide +kernel)) ggX6_booking_X4_chargeOf
theorem dX6_booking_0 : decode cX6_booking 0 = .ok (.aload_n 0, 1) := by decide +kernel
theorem dX6_booking_1 : decode cX6_booking 1 = .ok (.getfield 10, 3) := by decide +kernel
theorem dX6_booking_4 : decode cX6_booking 4 = .ok (.aload_n 0, 1) := by decide +kernel
theorem dX6_booking_5 : decode cX6_booking 5 = .ok (.getfield 10, 3) := by decide +kernel
theorem dX6_booking_8 : decode cX6_booking 8 = .ok (.iload_n 1, 1) := by decide +kernel
theorem dX6_booking_9 : decode cX6_booking 9 = .ok (.invokevirtual 142, 3) := by decide +kernel
theorem dX6_booking_12 : decode cX6_booking 12 = .ok (.invokevirtual 219, 3) := by decide +kernel
theorem dX6_booking_15 : decode cX6_booking 15 = .ok (.astore_n 3, 1) := by decide +kernel
theorem dX6_booking_16 : decode cX6_booking 16 = .ok (.aload_n 3, 1) := by decide +kernel
theorem dX6_booking_17 : decode cX6_booking 17 = .ok (.ifnonnull 6, 3) := by decide +kernel
theorem dX6_booking_20 : decode cX6_booking 20 = .ok (.ldc 40, 2) := by decide +kernel
theorem dX6_booking_22 : decode cX6_booking 22 = .ok (.ireturn, 1) := by decide +kernel
theorem dX6_booking_23 : decode cX6_booking 23 = .ok (.iload_n 2, 1) := by decide +kernel
theorem dX6_booking_24 : decode cX6_booking 24 = .ok (.tableswitch 74 0 5 #[40, 45, 50, 55, 60, 65], 40) := by decide +kernel
theorem dX6_booking_64 : decode cX6_booking 64 = .ok (.aload_n 3, 1) := by decide +kernel
theorem dX6_booking_65 : decode cX6_booking 65 = .ok (.getfield 223, 3) := by decide +kernel
theorem dX6_booking_68 : decode cX6_booking 68 = .ok (.ireturn, 1) := by decide +kernel
theorem dX6_booking_69 : decode cX6_booking 69 = .ok (.aload_n 3, 1) := by decide +kernel
theorem dX6_booking_70 : decode cX6_booking 70 = .ok (.getfield 226, 3) := by decide +kernel
theorem dX6_booking_73 : decode cX6_booking 73 = .ok (.ireturn, 1) := by decide +kernel
theorem dX6_booking_74 : decode cX6_booking 74 = .ok (.aload_n 3, 1) := by decide +kernel
theorem dX6_booking_75 : decode cX6_booking 75 = .ok (.getfield 227, 3) := by decide +kernel
theorem dX6_booking_78 : decode cX6_booking 78 = .ok (.ireturn, 1) := by decide +kernel
theorem dX6_booking_79 : decode cX6_booking 79 = .ok (.aload_n 3, 1) := by decide +kernel
theorem dX6_booking_80 : decode cX6_booking 80 = .ok (.getfield 228, 3) := by decide +kernel
theorem dX6_booking_83 : decode cX6_booking 83 = .ok (.ireturn, 1) := by decide +kernel
theorem dX6_booking_84 : decode cX6_booking 84 = .ok (.aload_n 3, 1) := by decide +kernel
theorem dX6_booking_85 : decode cX6_booking 85 = .ok (.getfield 229, 3) := by decide +kernel
theorem dX6_booking_88 : decode cX6_booking 88 = .ok (.ireturn, 1) := by decide +kernel
theorem dX6_booking_89 : decode cX6_booking 89 = .ok (.aload_n 0, 1) := by decide +kernel
theorem dX6_booking_90 : decode cX6_booking 90 = .ok (.getfield 10, 3) := by decide +kernel
theorem dX6_booking_93 : decode cX6_booking 93 = .ok (.aload_n 3, 1) := by decide +kernel
theorem dX6_booking_94 : decode cX6_booking 94 = .ok (.invokevirtual 232, 3) := by decide +kernel
theorem dX6_booking_97 : decode cX6_booking 97 = .ok (.ireturn, 1) := by decide +kernel
theorem dX6_booking_98 : decode cX6_booking 98 = .ok (.ldc 41, 2) := by decide +kernel
theorem dX6_booking_100 : decode cX6_booking 100 = .ok (.ireturn, 1) := by decide +kernel
set_option maxRecDepth 20000 in
theorem ggX6_booked_X4_machineAt : GoodIn wsX6_booked wsX4_machineAt := goodIn_r _ [9, 10, 11, 40, 41, 42, 43, 44, 45, 46, 47, 48, 49, 50, 51, 52, 53, 54, 55] (by decide +kernel) (by decide +kernel)
set_option maxRecDepth 20000 in
theorem gX6_booked_X4_machineAt : GoodIn wsX6_booked (wsV RX6 67 RX4 yX4_machineAt wsX4_machineAt) := goodIn_app (goodIn_of _ (by decide +kernel)) ggX6_booked_X4_machineAt
set_option maxRecDepth 20000 in
theorem ggX6_booked_X6_outside : GoodIn wsX6_booked wsX6_outside := goodIn_r _ [15] (by decide +kernel) (by decide +kernel)
set_option maxRecDepth 20000 in
theorem gX6_booked_X6_outside : GoodIn wsX6_booked (va_wsS RX6 36 yX6_outside wsX6_outside) := goodIn_app (goodIn_of _ (by decide +kernel)) ggX6_booked_X6_outside
set_option maxRecDepth 20000 in
theorem ggX6_booked_X4_hoursOn : GoodIn wsX6_booked wsX4_hoursOn := goodIn_r _ [19, 20, 21, 22, 23, 24, 8, 25, 26, 27, 28, 29, 30, 31, 32, 33, 40, 41, 42, 43, 44, 45, 46, 47, 48, 49, 50, 51, 52, 53, 54, 55, 56, 57, 58, 59, 60, 61] (by decide +kernel) (by decide +kernel)
set_option maxRecDepth 20000 in
theorem gX6_booked_X4_hoursOn : GoodIn wsX6_booked (wsV RX6 236 RX4 yX4_hoursOn wsX4_hoursOn) := goodIn_app (goodIn_of _ (by decide +kernel)) ggX6_booked_X4_hoursOn
theorem dX6_booked_0 : decode cX6_booked 0 = .ok (.aload_n 0, 1) := by decide +kernel
theorem dX6_booked_1 : decode cX6_booked 1 = .ok (.getfield 10, 3) := by decide +kernel
theorem dX6_booked_4 : decode cX6_booked 4 = .ok (.iload_n 1, 1) := by decide +kernel
theorem dX6_booked_5 : decode cX6_booked 5 = .ok (.invokevirtual 67, 3) := by decide +kernel
theorem dX6_booked_8 : decode cX6_booked 8 = .ok (.ifnonnull 6, 3) := by decide +kernel
theorem dX6_booked_11 : decode cX6_booked 11 = .ok (.ldc 40, 2) := by decide +kernel
theorem dX6_booked_13 : decode cX6_booked 13 = .ok (.ireturn, 1) := by decide +kernel
theorem dX6_booked_14 : decode cX6_booked 14 = .ok (.iload_n 2, 1) := by decide +kernel
theorem dX6_booked_15 : decode cX6_booked 15 = .ok (.iconst 1, 1) := by decide +kernel
theorem dX6_booked_16 : decode cX6_booked 16 = .ok (.bipush 99, 2) := by decide +kernel
theorem dX6_booked_18 : decode cX6_booked 18 = .ok (.invokestatic 36, 3) := by decide +kernel
theorem dX6_booked_21 : decode cX6_booked 21 = .ok (.ifCond .eq 6, 3) := by decide +kernel
theorem dX6_booked_24 : decode cX6_booked 24 = .ok (.ldc 41, 2) := by decide +kernel
theorem dX6_booked_26 : decode cX6_booked 26 = .ok (.ireturn, 1) := by decide +kernel
theorem dX6_booked_27 : decode cX6_booked 27 = .ok (.aload_n 0, 1) := by decide +kernel
theorem dX6_booked_28 : decode cX6_booked 28 = .ok (.getfield 10, 3) := by decide +kernel
theorem dX6_booked_31 : decode cX6_booked 31 = .ok (.iload_n 1, 1) := by decide +kernel
theorem dX6_booked_32 : decode cX6_booked 32 = .ok (.aload_n 0, 1) := by decide +kernel
theorem dX6_booked_33 : decode cX6_booked 33 = .ok (.getfield 10, 3) := by decide +kernel
theorem dX6_booked_36 : decode cX6_booked 36 = .ok (.getfield 183, 3) := by decide +kernel
theorem dX6_booked_39 : decode cX6_booked 39 = .ok (.iload_n 2, 1) := by decide +kernel
theorem dX6_booked_40 : decode cX6_booked 40 = .ok (.iadd, 1) := by decide +kernel
theorem dX6_booked_41 : decode cX6_booked 41 = .ok (.invokevirtual 236, 3) := by decide +kernel
theorem dX6_booked_44 : decode cX6_booked 44 = .ok (.ireturn, 1) := by decide +kernel
set_option maxRecDepth 20000 in
theorem ggX6_count_X6_seasonOf : GoodIn wsX6_count wsX6_seasonOf := goodIn_r _ [23] (by decide +kernel) (by decide +kernel)
set_option maxRecDepth 20000 in
theorem gX6_count_X6_seasonOf : GoodIn wsX6_count (va_wsS RX6 250 yX6_seasonOf wsX6_seasonOf) := goodIn_app (goodIn_of _ (by decide +kernel)) ggX6_count_X6_seasonOf
set_option maxRecDepth 20000 in
theorem ggX6_count_X4_sumOfAccounts : GoodIn wsX6_count wsX4_sumOfAccounts := goodIn_r _ [28, 29, 30, 31, 32, 27, 33, 34, 77, 78, 79, 80, 81, 82, 52, 53, 54, 55, 56, 57, 58, 59, 60, 61, 62, 63, 64, 65, 66, 67] (by decide +kernel) (by decide +kernel)
set_option maxRecDepth 20000 in
theorem gX6_count_X4_sumOfAccounts : GoodIn wsX6_count (wsV RX6 262 RX4 yX4_sumOfAccounts wsX4_sumOfAccounts) := goodIn_app (goodIn_of _ (by decide +kernel)) ggX6_count_X4_sumOfAccounts
set_option maxRecDepth 20000 in
theorem ggX6_count_X4_brokenMachines : GoodIn wsX6_count wsX4_brokenMachines := goodIn_r _ [38, 39, 40, 41, 42, 43, 27, 44, 45, 52, 53, 54, 55, 56, 57, 58, 59, 60, 61, 62, 63, 64, 65, 66, 67, 83, 84, 85, 86, 87, 88, 89, 90] (by decide +kernel) (by decide +kernel)
set_option maxRecDepth 20000 in
theorem gX6_count_X4_brokenMachines : GoodIn wsX6_count (wsV RX6 265 RX4 yX4_brokenMachines wsX4_brokenMachines) := goodIn_app (goodIn_of _ (by decide +kernel)) ggX6_count_X4_brokenMachines
theorem dX6_count_0 : decode cX6_count 0 = .ok (.iload_n 1, 1) := by decide +kernel
theorem dX6_count_1 : decode cX6_count 1 = .ok (.tableswitch 234 0 17 #[87, 95, 106, 114, 122, 130, 138, 146, 154, 162, 170, 178, 186, 194, 202, 210, 218, 226], 87) := by decide +kernel
theorem dX6_count_88 : decode cX6_count 88 = .ok (.aload_n 0, 1) := by decide +kernel
theorem dX6_count_89 : decode cX6_count 89 = .ok (.getfield 10, 3) := by decide +kernel
theorem dX6_count_92 : decode cX6_count 92 = .ok (.getfield 183, 3) := by decide +kernel
theorem dX6_count_95 : decode cX6_count 95 = .ok (.ireturn, 1) := by decide +kernel
theorem dX6_count_96 : decode cX6_count 96 = .ok (.aload_n 0, 1) := by decide +kernel
theorem dX6_count_97 : decode cX6_count 97 = .ok (.getfield 10, 3) := by decide +kernel
theorem dX6_count_100 : decode cX6_count 100 = .ok (.getfield 183, 3) := by decide +kernel
theorem dX6_count_103 : decode cX6_count 103 = .ok (.invokestatic 250, 3) := by decide +kernel
theorem dX6_count_106 : decode cX6_count 106 = .ok (.ireturn, 1) := by decide +kernel
theorem dX6_count_107 : decode cX6_count 107 = .ok (.aload_n 0, 1) := by decide +kernel
theorem dX6_count_108 : decode cX6_count 108 = .ok (.getfield 10, 3) := by decide +kernel
theorem dX6_count_111 : decode cX6_count 111 = .ok (.getfield 253, 3) := by decide +kernel
theorem dX6_count_114 : decode cX6_count 114 = .ok (.ireturn, 1) := by decide +kernel
theorem dX6_count_115 : decode cX6_count 115 = .ok (.aload_n 0, 1) := by decide +kernel
theorem dX6_count_116 : decode cX6_count 116 = .ok (.getfield 10, 3) := by decide +kernel
theorem dX6_count_119 : decode cX6_count 119 = .ok (.getfield 149, 3) := by decide +kernel
theorem dX6_count_122 : decode cX6_count 122 = .ok (.ireturn, 1) := by decide +kernel
theorem dX6_count_123 : decode cX6_count 123 = .ok (.aload_n 0, 1) := by decide +kernel
theorem dX6_count_124 : decode cX6_count 124 = .ok (.getfield 10, 3) := by decide +kernel
theorem dX6_count_127 : decode cX6_count 127 = .ok (.getfield 256, 3) := by decide +kernel
theorem dX6_count_130 : decode cX6_count 130 = .ok (.ireturn, 1) := by decide +kernel
theorem dX6_count_131 : decode cX6_count 131 = .ok (.aload_n 0, 1) := by decide +kernel
theorem dX6_count_132 : decode cX6_count 132 = .ok (.getfield 10, 3) := by decide +kernel
theorem dX6_count_135 : decode cX6_count 135 = .ok (.getfield 152, 3) := by decide +kernel
theorem dX6_count_138 : decode cX6_count 138 = .ok (.ireturn, 1) := by decide +kernel
theorem dX6_count_139 : decode cX6_count 139 = .ok (.aload_n 0, 1) := by decide +kernel
theorem dX6_count_140 : decode cX6_count 140 = .ok (.getfield 10, 3) := by decide +kernel
theorem dX6_count_143 : decode cX6_count 143 = .ok (.getfield 259, 3) := by decide +kernel
theorem dX6_count_146 : decode cX6_count 146 = .ok (.ireturn, 1) := by decide +kernel
theorem dX6_count_147 : decode cX6_count 147 = .ok (.aload_n 0, 1) := by decide +kernel
theorem dX6_count_148 : decode cX6_count 148 = .ok (.getfield 10, 3) := by decide +kernel
theorem dX6_count_151 : decode cX6_count 151 = .ok (.getfield 84, 3) := by decide +kernel
theorem dX6_count_154 : decode cX6_count 154 = .ok (.ireturn, 1) := by decide +kernel
theorem dX6_count_155 : decode cX6_count 155 = .ok (.aload_n 0, 1) := by decide +kernel
theorem dX6_count_156 : decode cX6_count 156 = .ok (.getfield 10, 3) := by decide +kernel
theorem dX6_count_159 : decode cX6_count 159 = .ok (.invokevirtual 262, 3) := by decide +kernel
theorem dX6_count_162 : decode cX6_count 162 = .ok (.ireturn, 1) := by decide +kernel
theorem dX6_count_163 : decode cX6_count 163 = .ok (.aload_n 0, 1) := by decide +kernel
theorem dX6_count_164 : decode cX6_count 164 = .ok (.getfield 10, 3) := by decide +kernel
theorem dX6_count_167 : decode cX6_count 167 = .ok (.getfield 158, 3) := by decide +kernel
theorem dX6_count_170 : decode cX6_count 170 = .ok (.ireturn, 1) := by decide +kernel
theorem dX6_count_171 : decode cX6_count 171 = .ok (.aload_n 0, 1) := by decide +kernel
theorem dX6_count_172 : decode cX6_count 172 = .ok (.getfield 10, 3) := by decide +kernel
theorem dX6_count_175 : decode cX6_count 175 = .ok (.getfield 161, 3) := by decide +kernel
theorem dX6_count_178 : decode cX6_count 178 = .ok (.ireturn, 1) := by decide +kernel
theorem dX6_count_179 : decode cX6_count 179 = .ok (.aload_n 0, 1) := by decide +kernel
theorem dX6_count_180 : decode cX6_count 180 = .ok (.getfield 10, 3) := by decide +kernel
theorem dX6_count_183 : decode cX6_count 183 = .ok (.getfield 164, 3) := by decide +kernel
theorem dX6_count_186 : decode cX6_count 186 = .ok (.ireturn, 1) := by decide +kernel
theorem dX6_count_187 : decode cX6_count 187 = .ok (.aload_n 0, 1) := by decide +kernel
theorem dX6_count_188 : decode cX6_count 188 = .ok (.getfield 10, 3) := by decide +kernel
theorem dX6_count_191 : decode cX6_count 191 = .ok (.invokevirtual 265, 3) := by decide +kernel
theorem dX6_count_194 : decode cX6_count 194 = .ok (.ireturn, 1) := by decide +kernel
theorem dX6_count_195 : decode cX6_count 195 = .ok (.aload_n 0, 1) := by decide +kernel
theorem dX6_count_196 : decode cX6_count 196 = .ok (.getfield 25, 3) := by decide +kernel
theorem dX6_count_199 : decode cX6_count 199 = .ok (.getfield 177, 3) := by decide +kernel
theorem dX6_count_202 : decode cX6_count 202 = .ok (.ireturn, 1) := by decide +kernel
theorem dX6_count_203 : decode cX6_count 203 = .ok (.aload_n 0, 1) := by decide +kernel
theorem dX6_count_204 : decode cX6_count 204 = .ok (.getfield 32, 3) := by decide +kernel
theorem dX6_count_207 : decode cX6_count 207 = .ok (.getfield 170, 3) := by decide +kernel
theorem dX6_count_210 : decode cX6_count 210 = .ok (.ireturn, 1) := by decide +kernel
theorem dX6_count_211 : decode cX6_count 211 = .ok (.aload_n 0, 1) := by decide +kernel
theorem dX6_count_212 : decode cX6_count 212 = .ok (.getfield 10, 3) := by decide +kernel
theorem dX6_count_215 : decode cX6_count 215 = .ok (.getfield 268, 3) := by decide +kernel
theorem dX6_count_218 : decode cX6_count 218 = .ok (.ireturn, 1) := by decide +kernel
theorem dX6_count_219 : decode cX6_count 219 = .ok (.aload_n 0, 1) := by decide +kernel
theorem dX6_count_220 : decode cX6_count 220 = .ok (.getfield 10, 3) := by decide +kernel
theorem dX6_count_223 : decode cX6_count 223 = .ok (.getfield 87, 3) := by decide +kernel
theorem dX6_count_226 : decode cX6_count 226 = .ok (.ireturn, 1) := by decide +kernel
theorem dX6_count_227 : decode cX6_count 227 = .ok (.aload_n 0, 1) := by decide +kernel
theorem dX6_count_228 : decode cX6_count 228 = .ok (.getfield 10, 3) := by decide +kernel
theorem dX6_count_231 : decode cX6_count 231 = .ok (.getfield 101, 3) := by decide +kernel
theorem dX6_count_234 : decode cX6_count 234 = .ok (.ireturn, 1) := by decide +kernel
theorem dX6_count_235 : decode cX6_count 235 = .ok (.ldc 41, 2) := by decide +kernel
theorem dX6_count_237 : decode cX6_count 237 = .ok (.ireturn, 1) := by decide +kernel
theorem dX6_outside_0 : decode cX6_outside 0 = .ok (.iload_n 0, 1) := by decide +kernel
theorem dX6_outside_1 : decode cX6_outside 1 = .ok (.iload_n 1, 1) := by decide +kernel
theorem dX6_outside_2 : decode cX6_outside 2 = .ok (.if_icmp .lt 8, 3) := by decide +kernel
theorem dX6_outside_5 : decode cX6_outside 5 = .ok (.iload_n 0, 1) := by decide +kernel
theorem dX6_outside_6 : decode cX6_outside 6 = .ok (.iload_n 2, 1) := by decide +kernel
theorem dX6_outside_7 : decode cX6_outside 7 = .ok (.if_icmp .le 7, 3) := by decide +kernel
theorem dX6_outside_10 : decode cX6_outside 10 = .ok (.iconst 1, 1) := by decide +kernel
theorem dX6_outside_11 : decode cX6_outside 11 = .ok (.goto 4, 3) := by decide +kernel
theorem dX6_outside_14 : decode cX6_outside 14 = .ok (.iconst 0, 1) := by decide +kernel
theorem dX6_outside_15 : decode cX6_outside 15 = .ok (.ireturn, 1) := by decide +kernel
theorem dX6_seasonOf_0 : decode cX6_seasonOf 0 = .ok (.iload_n 0, 1) := by decide +kernel
theorem dX6_seasonOf_1 : decode cX6_seasonOf 1 = .ok (.sipush 360, 3) := by decide +kernel
theorem dX6_seasonOf_4 : decode cX6_seasonOf 4 = .ok (.irem, 1) := by decide +kernel
theorem dX6_seasonOf_5 : decode cX6_seasonOf 5 = .ok (.bipush 90, 2) := by decide +kernel
theorem dX6_seasonOf_7 : decode cX6_seasonOf 7 = .ok (.idiv, 1) := by decide +kernel
theorem dX6_seasonOf_8 : decode cX6_seasonOf 8 = .ok (.ireturn, 1) := by decide +kernel
theorem dX6_factorOf_0 : decode cX6_factorOf 0 = .ok (.iload_n 0, 1) := by decide +kernel
theorem dX6_factorOf_1 : decode cX6_factorOf 1 = .ok (.tableswitch 37 0 2 #[27, 29, 33], 27) := by decide +kernel
theorem dX6_factorOf_28 : decode cX6_factorOf 28 = .ok (.fconst 1, 1) := by decide +kernel
theorem dX6_factorOf_29 : decode cX6_factorOf 29 = .ok (.freturn, 1) := by decide +kernel
theorem dX6_factorOf_30 : decode cX6_factorOf 30 = .ok (.ldc_w 271, 3) := by decide +kernel
theorem dX6_factorOf_33 : decode cX6_factorOf 33 = .ok (.freturn, 1) := by decide +kernel
theorem dX6_factorOf_34 : decode cX6_factorOf 34 = .ok (.ldc_w 272, 3) := by decide +kernel
theorem dX6_factorOf_37 : decode cX6_factorOf 37 = .ok (.freturn, 1) := by decide +kernel
theorem dX6_factorOf_38 : decode cX6_factorOf 38 = .ok (.ldc_w 273, 3) := by decide +kernel
theorem dX6_factorOf_41 : decode cX6_factorOf 41 = .ok (.freturn, 1) := by decide +kernel
theorem dX6_useOf_0 : decode cX6_useOf 0 = .ok (.iload_n 0, 1) := by decide +kernel
theorem dX6_useOf_1 : decode cX6_useOf 1 = .ok (.lookupswitch 35 #[(0, 27), (1, 31)], 27) := by decide +kernel
theorem dX6_useOf_28 : decode cX6_useOf 28 = .ok (.ldc_w 274, 3) := by decide +kernel
theorem dX6_useOf_31 : decode cX6_useOf 31 = .ok (.freturn, 1) := by decide +kernel
theorem dX6_useOf_32 : decode cX6_useOf 32 = .ok (.ldc_w 275, 3) := by decide +kernel
theorem dX6_useOf_35 : decode cX6_useOf 35 = .ok (.freturn, 1) := by decide +kernel
theorem dX6_useOf_36 : decode cX6_useOf 36 = .ok (.ldc_w 276, 3) := by decide +kernel
theorem dX6_useOf_39 : decode cX6_useOf 39 = .ok (.freturn, 1) := by decide +kernel
theorem dX6_bitsOf_0 : decode cX6_bitsOf 0 = .ok (.fload_n 0, 1) := by decide +kernel
theorem dX6_bitsOf_1 : decode cX6_bitsOf 1 = .ok (.fconst 0, 1) := by decide +kernel
theorem dX6_bitsOf_2 : decode cX6_bitsOf 2 = .ok (.fcmp .g, 1) := by decide +kernel
theorem dX6_bitsOf_3 : decode cX6_bitsOf 3 = .ok (.ifCond .gt 5, 3) := by decide +kernel
theorem dX6_bitsOf_6 : decode cX6_bitsOf 6 = .ok (.iconst 0, 1) := by decide +kernel
theorem dX6_bitsOf_7 : decode cX6_bitsOf 7 = .ok (.ireturn, 1) := by decide +kernel
theorem dX6_bitsOf_8 : decode cX6_bitsOf 8 = .ok (.bipush 127, 2) := by decide +kernel
theorem dX6_bitsOf_10 : decode cX6_bitsOf 10 = .ok (.istore_n 1, 1) := by decide +kernel
theorem dX6_bitsOf_11 : decode cX6_bitsOf 11 = .ok (.fload_n 0, 1) := by decide +kernel
theorem dX6_bitsOf_12 : decode cX6_bitsOf 12 = .ok (.fstore_n 2, 1) := by decide +kernel
theorem dX6_bitsOf_13 : decode cX6_bitsOf 13 = .ok (.iconst 0, 1) := by decide +kernel
theorem dX6_bitsOf_14 : decode cX6_bitsOf 14 = .ok (.istore_n 3, 1) := by decide +kernel
theorem dX6_bitsOf_15 : decode cX6_bitsOf 15 = .ok (.iload_n 3, 1) := by decide +kernel
theorem dX6_bitsOf_16 : decode cX6_bitsOf 16 = .ok (.bipush 126, 2) := by decide +kernel
theorem dX6_bitsOf_18 : decode cX6_bitsOf 18 = .ok (.if_icmp .ge 24, 3) := by decide +kernel
theorem dX6_bitsOf_21 : decode cX6_bitsOf 21 = .ok (.fload_n 2, 1) := by decide +kernel
theorem dX6_bitsOf_22 : decode cX6_bitsOf 22 = .ok (.fconst 2, 1) := by decide +kernel
theorem dX6_bitsOf_23 : decode cX6_bitsOf 23 = .ok (.fcmp .l, 1) := by decide +kernel
theorem dX6_bitsOf_24 : decode cX6_bitsOf 24 = .ok (.ifCond .lt 18, 3) := by decide +kernel
theorem dX6_bitsOf_27 : decode cX6_bitsOf 27 = .ok (.fload_n 2, 1) := by decide +kernel
theorem dX6_bitsOf_28 : decode cX6_bitsOf 28 = .ok (.ldc_w 273, 3) := by decide +kernel
theorem dX6_bitsOf_31 : decode cX6_bitsOf 31 = .ok (.fmul, 1) := by decide +kernel
theorem dX6_bitsOf_32 : decode cX6_bitsOf 32 = .ok (.fstore_n 2, 1) := by decide +kernel
theorem dX6_bitsOf_33 : decode cX6_bitsOf 33 = .ok (.iinc 1 1, 3) := by decide +kernel
theorem dX6_bitsOf_36 : decode cX6_bitsOf 36 = .ok (.iinc 3 1, 3) := by decide +kernel
theorem dX6_bitsOf_39 : decode cX6_bitsOf 39 = .ok (.goto (-24), 3) := by decide +kernel
theorem dX6_bitsOf_42 : decode cX6_bitsOf 42 = .ok (.iconst 0, 1) := by decide +kernel
theorem dX6_bitsOf_43 : decode cX6_bitsOf 43 = .ok (.istore_n 3, 1) := by decide +kernel
theorem dX6_bitsOf_44 : decode cX6_bitsOf 44 = .ok (.iload_n 3, 1) := by decide +kernel
theorem dX6_bitsOf_45 : decode cX6_bitsOf 45 = .ok (.bipush 126, 2) := by decide +kernel
theorem dX6_bitsOf_47 : decode cX6_bitsOf 47 = .ok (.if_icmp .ge 22, 3) := by decide +kernel
theorem dX6_bitsOf_50 : decode cX6_bitsOf 50 = .ok (.fload_n 2, 1) := by decide +kernel
theorem dX6_bitsOf_51 : decode cX6_bitsOf 51 = .ok (.fconst 1, 1) := by decide +kernel
theorem dX6_bitsOf_52 : decode cX6_bitsOf 52 = .ok (.fcmp .g, 1) := by decide +kernel
theorem dX6_bitsOf_53 : decode cX6_bitsOf 53 = .ok (.ifCond .ge 16, 3) := by decide +kernel
theorem dX6_bitsOf_56 : decode cX6_bitsOf 56 = .ok (.fload_n 2, 1) := by decide +kernel
theorem dX6_bitsOf_57 : decode cX6_bitsOf 57 = .ok (.fconst 2, 1) := by decide +kernel
theorem dX6_bitsOf_58 : decode cX6_bitsOf 58 = .ok (.fmul, 1) := by decide +kernel
theorem dX6_bitsOf_59 : decode cX6_bitsOf 59 = .ok (.fstore_n 2, 1) := by decide +kernel
theorem dX6_bitsOf_60 : decode cX6_bitsOf 60 = .ok (.iinc 1 (-1), 3) := by decide +kernel
theorem dX6_bitsOf_63 : decode cX6_bitsOf 63 = .ok (.iinc 3 1, 3) := by decide +kernel
theorem dX6_bitsOf_66 : decode cX6_bitsOf 66 = .ok (.goto (-22), 3) := by decide +kernel
theorem dX6_bitsOf_69 : decode cX6_bitsOf 69 = .ok (.iload_n 1, 1) := by decide +kernel
theorem dX6_bitsOf_70 : decode cX6_bitsOf 70 = .ok (.bipush 23, 2) := by decide +kernel
theorem dX6_bitsOf_72 : decode cX6_bitsOf 72 = .ok (.ishl, 1) := by decide +kernel
theorem dX6_bitsOf_73 : decode cX6_bitsOf 73 = .ok (.fload_n 2, 1) := by decide +kernel
theorem dX6_bitsOf_74 : decode cX6_bitsOf 74 = .ok (.fconst 1, 1) := by decide +kernel
theorem dX6_bitsOf_75 : decode cX6_bitsOf 75 = .ok (.fsub, 1) := by decide +kernel
theorem dX6_bitsOf_76 : decode cX6_bitsOf 76 = .ok (.ldc_w 277, 3) := by decide +kernel
theorem dX6_bitsOf_79 : decode cX6_bitsOf 79 = .ok (.fmul, 1) := by decide +kernel
theorem dX6_bitsOf_80 : decode cX6_bitsOf 80 = .ok (.f2i, 1) := by decide +kernel
theorem dX6_bitsOf_81 : decode cX6_bitsOf 81 = .ok (.ior, 1) := by decide +kernel
theorem dX6_bitsOf_82 : decode cX6_bitsOf 82 = .ok (.ireturn, 1) := by decide +kernel
theorem dL_cell_0 : decode cL_cell 0 = .ok (.iload_n 1, 1) := by decide +kernel
theorem dL_cell_1 : decode cL_cell 1 = .ok (.aload_n 0, 1) := by decide +kernel
theorem dL_cell_2 : decode cL_cell 2 = .ok (.arraylength, 1) := by decide +kernel
theorem dL_cell_3 : decode cL_cell 3 = .ok (.if_icmp .ge 9, 3) := by decide +kernel
theorem dL_cell_6 : decode cL_cell 6 = .ok (.aload_n 0, 1) := by decide +kernel
theorem dL_cell_7 : decode cL_cell 7 = .ok (.iload_n 1, 1) := by decide +kernel
theorem dL_cell_8 : decode cL_cell 8 = .ok (.iaload, 1) := by decide +kernel
theorem dL_cell_9 : decode cL_cell 9 = .ok (.goto 15, 3) := by decide +kernel
theorem dL_cell_12 : decode cL_cell 12 = .ok (.sipush 7919, 3) := by decide +kernel
theorem dL_cell_15 : decode cL_cell 15 = .ok (.iload_n 1, 1) := by decide +kernel
theorem dL_cell_16 : decode cL_cell 16 = .ok (.iconst 3, 1) := by decide +kernel
theorem dL_cell_17 : decode cL_cell 17 = .ok (.iadd, 1) := by decide +kernel
theorem dL_cell_18 : decode cL_cell 18 = .ok (.imul, 1) := by decide +kernel
theorem dL_cell_19 : decode cL_cell 19 = .ok (.iload_n 1, 1) := by decide +kernel
theorem dL_cell_20 : decode cL_cell 20 = .ok (.bipush 11, 2) := by decide +kernel
theorem dL_cell_22 : decode cL_cell 22 = .ok (.iadd, 1) := by decide +kernel
theorem dL_cell_23 : decode cL_cell 23 = .ok (.imul, 1) := by decide +kernel
theorem dL_cell_24 : decode cL_cell 24 = .ok (.ireturn, 1) := by decide +kernel
theorem dL_low_0 : decode cL_low 0 = .ok (.iload_n 0, 1) := by decide +kernel
theorem dL_low_1 : decode cL_low 1 = .ok (.ldc 7, 2) := by decide +kernel
theorem dL_low_3 : decode cL_low 3 = .ok (.iand, 1) := by decide +kernel
theorem dL_low_4 : decode cL_low 4 = .ok (.iload_n 1, 1) := by decide +kernel
theorem dL_low_5 : decode cL_low 5 = .ok (.irem, 1) := by decide +kernel
theorem dL_low_6 : decode cL_low 6 = .ok (.ireturn, 1) := by decide +kernel
set_option maxRecDepth 20000 in
theorem ggL_told_X6_count : GoodIn wsL_told wsX6_count := goodIn_r _ [7, 8, 9, 10, 11, 12, 13, 14, 15, 16, 17, 18, 19, 20, 21, 22, 23, 24, 25, 26, 27, 28, 6, 29, 30, 31, 32, 33, 34, 35, 36, 37, 38, 39, 40, 41, 42, 43, 44, 45, 46, 47, 48, 49, 50, 51, 132, 133, 134, 135, 136, 137, 138, 139, 140, 141, 142, 143, 144, 145, 146, 147, 148, 149, 150, 151, 152, 153, 154, 155, 156, 157, 158, 159, 160, 161, 162, 163, 164, 165, 166, 167, 168, 169, 170, 171, 172, 173, 174, 175, 176] (by decide +kernel) (by decide +kernel)
set_option maxRecDepth 20000 in
theorem gL_told_X6_count : GoodIn wsL_told (wsV RL 12 RX6 yX6_count wsX6_count) := goodIn_app (goodIn_of _ (by decide +kernel)) ggL_told_X6_count
set_option maxRecDepth 20000 in
theorem ggL_told_X6_farmer : GoodIn wsL_told wsX6_farmer := goodIn_r _ [55, 8, 56, 57, 58, 59, 60, 61, 62, 26, 63, 37, 38, 33, 39, 40, 64, 65, 66, 67, 68, 69, 70, 71, 72, 73, 74, 132, 133, 134, 135, 136, 137, 163, 164, 165, 166, 167, 168, 138, 139, 140, 141, 142, 143, 144, 145, 146, 147, 148, 149, 150, 151, 152, 153, 177, 178, 179, 180, 181, 182] (by decide +kernel) (by decide +kernel)
set_option maxRecDepth 20000 in
theorem gL_told_X6_farmer : GoodIn wsL_told (wsV RL 18 RX6 yX6_farmer wsX6_farmer) := goodIn_app (goodIn_of _ (by decide +kernel)) ggL_told_X6_farmer
set_option maxRecDepth 20000 in
theorem ggL_told_X6_machine : GoodIn wsL_told wsX6_machine := goodIn_r _ [78, 8, 56, 79, 80, 81, 82, 83, 84, 85, 26, 86, 48, 49, 33, 50, 45, 51, 87, 88, 89, 90, 91, 92, 93, 94, 6, 95, 96, 97, 132, 133, 134, 135, 136, 137, 169, 170, 171, 172, 173, 174, 175, 176, 138, 139, 140, 141, 142, 143, 144, 145, 146, 147, 148, 149, 150, 151, 152, 153] (by decide +kernel) (by decide +kernel)
set_option maxRecDepth 20000 in
theorem gL_told_X6_machine : GoodIn wsL_told (wsV RL 22 RX6 yX6_machine wsX6_machine) := goodIn_app (goodIn_of _ (by decide +kernel)) ggL_told_X6_machine
set_option maxRecDepth 20000 in
theorem ggL_told_X6_booking : GoodIn wsL_told wsX6_booking := goodIn_r _ [101, 8, 56, 102, 103, 104, 105, 106, 26, 107, 108, 109, 33, 110, 68, 111, 70, 71, 72, 73, 74, 112, 113, 114, 115, 116, 117, 69, 118, 119, 120, 121, 47, 48, 49, 50, 45, 51, 36, 37, 38, 39, 40, 28, 6, 29, 122, 123, 124, 125, 96, 126, 127, 128, 129, 130, 131, 132, 133, 134, 135, 136, 137, 177, 178, 179, 180, 181, 182, 138, 139, 140, 141, 142, 143, 144, 145, 146, 147, 148, 149, 150, 151, 152, 153, 169, 170, 171, 172, 173, 174, 175, 176, 163, 164, 165, 166, 167, 168] (by decide +kernel) (by decide +kernel)
set_option maxRecDepth 20000 in
theorem gL_told_X6_booking : GoodIn wsL_told (wsV RL 25 RX6 yX6_booking wsX6_booking) := goodIn_app (goodIn_of _ (by decide +kernel)) ggL_told_X6_booking
theorem dL_told_0 : decode cL_told 0 = .ok (.ldc2_w 8, 3) := by decide +kernel
theorem dL_told_3 : decode cL_told 3 = .ok (.lstore_n 1, 1) := by decide +kernel
theorem dL_told_4 : decode cL_told 4 = .ok (.iconst 0, 1) := by decide +kernel
theorem dL_told_5 : decode cL_told 5 = .ok (.istore_n 3, 1) := by decide +kernel
theorem dL_told_6 : decode cL_told 6 = .ok (.iload_n 3, 1) := by decide +kernel
theorem dL_told_7 : decode cL_told 7 = .ok (.bipush 13, 2) := by decide +kernel
theorem dL_told_9 : decode cL_told 9 = .ok (.if_icmp .ge 22, 3) := by decide +kernel
theorem dL_told_12 : decode cL_told 12 = .ok (.ldc2_w 10, 3) := by decide +kernel
theorem dL_told_15 : decode cL_told 15 = .ok (.lload_n 1, 1) := by decide +kernel
theorem dL_told_16 : decode cL_told 16 = .ok (.lmul, 1) := by decide +kernel
theorem dL_told_17 : decode cL_told 17 = .ok (.aload_n 0, 1) := by decide +kernel
theorem dL_told_18 : decode cL_told 18 = .ok (.iload_n 3, 1) := by decide +kernel
theorem dL_told_19 : decode cL_told 19 = .ok (.invokevirtual 12, 3) := by decide +kernel
theorem dL_told_22 : decode cL_told 22 = .ok (.i2l, 1) := by decide +kernel
theorem dL_told_23 : decode cL_told 23 = .ok (.ladd, 1) := by decide +kernel
theorem dL_told_24 : decode cL_told 24 = .ok (.lstore_n 1, 1) := by decide +kernel
theorem dL_told_25 : decode cL_told 25 = .ok (.iinc 3 1, 3) := by decide +kernel
theorem dL_told_28 : decode cL_told 28 = .ok (.goto (-22), 3) := by decide +kernel
theorem dL_told_31 : decode cL_told 31 = .ok (.bipush 15, 2) := by decide +kernel
theorem dL_told_33 : decode cL_told 33 = .ok (.istore_n 3, 1) := by decide +kernel
theorem dL_told_34 : decode cL_told 34 = .ok (.iload_n 3, 1) := by decide +kernel
theorem dL_told_35 : decode cL_told 35 = .ok (.bipush 18, 2) := by decide +kernel
theorem dL_told_37 : decode cL_told 37 = .ok (.if_icmp .ge 22, 3) := by decide +kernel
theorem dL_told_40 : decode cL_told 40 = .ok (.ldc2_w 10, 3) := by decide +kernel
theorem dL_told_43 : decode cL_told 43 = .ok (.lload_n 1, 1) := by decide +kernel
theorem dL_told_44 : decode cL_told 44 = .ok (.lmul, 1) := by decide +kernel
theorem dL_told_45 : decode cL_told 45 = .ok (.aload_n 0, 1) := by decide +kernel
theorem dL_told_46 : decode cL_told 46 = .ok (.iload_n 3, 1) := by decide +kernel
theorem dL_told_47 : decode cL_told 47 = .ok (.invokevirtual 12, 3) := by decide +kernel
theorem dL_told_50 : decode cL_told 50 = .ok (.i2l, 1) := by decide +kernel
theorem dL_told_51 : decode cL_told 51 = .ok (.ladd, 1) := by decide +kernel
theorem dL_told_52 : decode cL_told 52 = .ok (.lstore_n 1, 1) := by decide +kernel
theorem dL_told_53 : decode cL_told 53 = .ok (.iinc 3 1, 3) := by decide +kernel
theorem dL_told_56 : decode cL_told 56 = .ok (.goto (-22), 3) := by decide +kernel
theorem dL_told_59 : decode cL_told 59 = .ok (.iconst 0, 1) := by decide +kernel
theorem dL_told_60 : decode cL_told 60 = .ok (.istore_n 3, 1) := by decide +kernel
theorem dL_told_61 : decode cL_told 61 = .ok (.iload_n 3, 1) := by decide +kernel
theorem dL_told_62 : decode cL_told 62 = .ok (.bipush 6, 2) := by decide +kernel
theorem dL_told_64 : decode cL_told 64 = .ok (.if_icmp .ge 40, 3) := by decide +kernel
theorem dL_told_67 : decode cL_told 67 = .ok (.iconst 0, 1) := by decide +kernel
theorem dL_told_68 : decode cL_told 68 = .ok (.istore 4, 2) := by decide +kernel
theorem dL_told_70 : decode cL_told 70 = .ok (.iload 4, 2) := by decide +kernel
theorem dL_told_72 : decode cL_told 72 = .ok (.bipush 7, 2) := by decide +kernel
theorem dL_told_74 : decode cL_told 74 = .ok (.if_icmp .ge 24, 3) := by decide +kernel
theorem dL_told_77 : decode cL_told 77 = .ok (.ldc2_w 10, 3) := by decide +kernel
theorem dL_told_80 : decode cL_told 80 = .ok (.lload_n 1, 1) := by decide +kernel
theorem dL_told_81 : decode cL_told 81 = .ok (.lmul, 1) := by decide +kernel
theorem dL_told_82 : decode cL_told 82 = .ok (.aload_n 0, 1) := by decide +kernel
theorem dL_told_83 : decode cL_told 83 = .ok (.iload_n 3, 1) := by decide +kernel
theorem dL_told_84 : decode cL_told 84 = .ok (.iload 4, 2) := by decide +kernel
theorem dL_told_86 : decode cL_told 86 = .ok (.invokevirtual 18, 3) := by decide +kernel
theorem dL_told_89 : decode cL_told 89 = .ok (.i2l, 1) := by decide +kernel
theorem dL_told_90 : decode cL_told 90 = .ok (.ladd, 1) := by decide +kernel
theorem dL_told_91 : decode cL_told 91 = .ok (.lstore_n 1, 1) := by decide +kernel
theorem dL_told_92 : decode cL_told 92 = .ok (.iinc 4 1, 3) := by decide +kernel
theorem dL_told_95 : decode cL_told 95 = .ok (.goto (-25), 3) := by decide +kernel
theorem dL_told_98 : decode cL_told 98 = .ok (.iinc 3 1, 3) := by decide +kernel
theorem dL_told_101 : decode cL_told 101 = .ok (.goto (-40), 3) := by decide +kernel
theorem dL_told_104 : decode cL_told 104 = .ok (.iconst 0, 1) := by decide +kernel
theorem dL_told_105 : decode cL_told 105 = .ok (.istore_n 3, 1) := by decide +kernel
theorem dL_told_106 : decode cL_told 106 = .ok (.iload_n 3, 1) := by decide +kernel
theorem dL_told_107 : decode cL_told 107 = .ok (.aload_n 0, 1) := by decide +kernel
theorem dL_told_108 : decode cL_told 108 = .ok (.iconst 2, 1) := by decide +kernel
theorem dL_told_109 : decode cL_told 109 = .ok (.invokevirtual 12, 3) := by decide +kernel
theorem dL_told_112 : decode cL_told 112 = .ok (.if_icmp .ge 40, 3) := by decide +kernel
theorem dL_told_115 : decode cL_told 115 = .ok (.iconst 0, 1) := by decide +kernel
theorem dL_told_116 : decode cL_told 116 = .ok (.istore 4, 2) := by decide +kernel
theorem dL_told_118 : decode cL_told 118 = .ok (.iload 4, 2) := by decide +kernel
theorem dL_told_120 : decode cL_told 120 = .ok (.bipush 8, 2) := by decide +kernel
theorem dL_told_122 : decode cL_told 122 = .ok (.if_icmp .ge 24, 3) := by decide +kernel
theorem dL_told_125 : decode cL_told 125 = .ok (.ldc2_w 10, 3) := by decide +kernel
theorem dL_told_128 : decode cL_told 128 = .ok (.lload_n 1, 1) := by decide +kernel
theorem dL_told_129 : decode cL_told 129 = .ok (.lmul, 1) := by decide +kernel
theorem dL_told_130 : decode cL_told 130 = .ok (.aload_n 0, 1) := by decide +kernel
theorem dL_told_131 : decode cL_told 131 = .ok (.iload_n 3, 1) := by decide +kernel
theorem dL_told_132 : decode cL_told 132 = .ok (.iload 4, 2) := by decide +kernel
theorem dL_told_134 : decode cL_told 134 = .ok (.invokevirtual 22, 3) := by decide +kernel
theorem dL_told_137 : decode cL_told 137 = .ok (.i2l, 1) := by decide +kernel
theorem dL_told_138 : decode cL_told 138 = .ok (.ladd, 1) := by decide +kernel
theorem dL_told_139 : decode cL_told 139 = .ok (.lstore_n 1, 1) := by decide +kernel
theorem dL_told_140 : decode cL_told 140 = .ok (.iinc 4 1, 3) := by decide +kernel
theorem dL_told_143 : decode cL_told 143 = .ok (.goto (-25), 3) := by decide +kernel
theorem dL_told_146 : decode cL_told 146 = .ok (.iinc 3 1, 3) := by decide +kernel
theorem dL_told_149 : decode cL_told 149 = .ok (.goto (-43), 3) := by decide +kernel
theorem dL_told_152 : decode cL_told 152 = .ok (.iconst 0, 1) := by decide +kernel
theorem dL_told_153 : decode cL_told 153 = .ok (.istore_n 3, 1) := by decide +kernel
theorem dL_told_154 : decode cL_told 154 = .ok (.iload_n 3, 1) := by decide +kernel
theorem dL_told_155 : decode cL_told 155 = .ok (.aload_n 0, 1) := by decide +kernel
theorem dL_told_156 : decode cL_told 156 = .ok (.iconst 4, 1) := by decide +kernel
theorem dL_told_157 : decode cL_told 157 = .ok (.invokevirtual 12, 3) := by decide +kernel
theorem dL_told_160 : decode cL_told 160 = .ok (.if_icmp .ge 40, 3) := by decide +kernel
theorem dL_told_163 : decode cL_told 163 = .ok (.iconst 0, 1) := by decide +kernel
theorem dL_told_164 : decode cL_told 164 = .ok (.istore 4, 2) := by decide +kernel
theorem dL_told_166 : decode cL_told 166 = .ok (.iload 4, 2) := by decide +kernel
theorem dL_told_168 : decode cL_told 168 = .ok (.bipush 6, 2) := by decide +kernel
theorem dL_told_170 : decode cL_told 170 = .ok (.if_icmp .ge 24, 3) := by decide +kernel
theorem dL_told_173 : decode cL_told 173 = .ok (.ldc2_w 10, 3) := by decide +kernel
theorem dL_told_176 : decode cL_told 176 = .ok (.lload_n 1, 1) := by decide +kernel
theorem dL_told_177 : decode cL_told 177 = .ok (.lmul, 1) := by decide +kernel
theorem dL_told_178 : decode cL_told 178 = .ok (.aload_n 0, 1) := by decide +kernel
theorem dL_told_179 : decode cL_told 179 = .ok (.iload_n 3, 1) := by decide +kernel
theorem dL_told_180 : decode cL_told 180 = .ok (.iload 4, 2) := by decide +kernel
theorem dL_told_182 : decode cL_told 182 = .ok (.invokevirtual 25, 3) := by decide +kernel
theorem dL_told_185 : decode cL_told 185 = .ok (.i2l, 1) := by decide +kernel
theorem dL_told_186 : decode cL_told 186 = .ok (.ladd, 1) := by decide +kernel
theorem dL_told_187 : decode cL_told 187 = .ok (.lstore_n 1, 1) := by decide +kernel
theorem dL_told_188 : decode cL_told 188 = .ok (.iinc 4 1, 3) := by decide +kernel
theorem dL_told_191 : decode cL_told 191 = .ok (.goto (-25), 3) := by decide +kernel
theorem dL_told_194 : decode cL_told 194 = .ok (.iinc 3 1, 3) := by decide +kernel
theorem dL_told_197 : decode cL_told 197 = .ok (.goto (-43), 3) := by decide +kernel
theorem dL_told_200 : decode cL_told 200 = .ok (.lload_n 1, 1) := by decide +kernel
theorem dL_told_201 : decode cL_told 201 = .ok (.lreturn, 1) := by decide +kernel
theorem dL_isDone_0 : decode cL_isDone 0 = .ok (.iload_n 0, 1) := by decide +kernel
theorem dL_isDone_1 : decode cL_isDone 1 = .ok (.ldc 28, 2) := by decide +kernel
theorem dL_isDone_3 : decode cL_isDone 3 = .ok (.if_icmp .le 7, 3) := by decide +kernel
theorem dL_isDone_6 : decode cL_isDone 6 = .ok (.iconst 1, 1) := by decide +kernel
theorem dL_isDone_7 : decode cL_isDone 7 = .ok (.goto 4, 3) := by decide +kernel
theorem dL_isDone_10 : decode cL_isDone 10 = .ok (.iconst 0, 1) := by decide +kernel
theorem dL_isDone_11 : decode cL_isDone 11 = .ok (.ireturn, 1) := by decide +kernel
set_option maxRecDepth 20000 in
theorem ggL_act_L_low : GoodIn wsL_act wsL_low := goodIn_r _ [4, 5] (by decide +kernel) (by decide +kernel)
set_option maxRecDepth 20000 in
theorem gL_act_L_low : GoodIn wsL_act (va_wsS RL 29 yL_low wsL_low) := goodIn_app (goodIn_of _ (by decide +kernel)) ggL_act_L_low
set_option maxRecDepth 20000 in
theorem ggL_act_X6_count : GoodIn wsL_act wsX6_count := goodIn_r _ [10, 11, 12, 13, 14, 15, 16, 17, 18, 19, 20, 21, 22, 23, 24, 25, 26, 27, 28, 29, 30, 31, 9, 32, 33, 34, 35, 36, 37, 38, 39, 40, 41, 42, 43, 44, 45, 46, 47, 48, 49, 50, 51, 52, 53, 54, 324, 325, 326, 327, 328, 329, 330, 331, 332, 333, 334, 335, 336, 337, 338, 339, 340, 341, 342, 343, 344, 345, 346, 347, 348, 349, 350, 351, 352, 353, 354, 355, 356, 357, 358, 359, 360, 361, 362, 363, 364, 365, 366, 367, 368] (by decide +kernel) (by decide +kernel)
set_option maxRecDepth 20000 in
theorem gL_act_X6_count : GoodIn wsL_act (wsV RL 12 RX6 yX6_count wsX6_count) := goodIn_app (goodIn_of _ (by decide +kernel)) ggL_act_X6_count
set_option maxRecDepth 20000 in
theorem ggL_act_X6_buy : GoodIn wsL_act wsX6_buy := goodIn_r _ [58, 59, 29, 11, 60, 61, 22, 62, 63, 9, 64, 65, 66, 67, 36, 68, 48, 69, 50, 51, 52, 53, 54, 70, 71, 72, 73, 74, 75, 76, 77, 78, 79, 80, 81, 82, 83, 84, 85, 86, 87, 88, 89, 90, 91, 92, 93, 94, 95, 96, 97, 98, 99, 100, 101, 102, 103, 104, 39, 40, 41, 42, 43, 105, 106, 107, 108, 109, 110, 111, 112, 113, 114, 115, 116, 117, 118, 119, 120, 121, 122, 123, 124, 125, 126, 127, 128, 129, 130, 131, 132, 133, 134, 135, 136, 137, 138, 139, 140, 141, 142, 143, 144, 145, 146, 147, 148, 149, 150, 151, 152, 153, 154, 155, 156, 157, 158, 159, 160, 161, 162, 324, 325, 326, 327, 328, 329, 330, 331, 332, 333, 334, 335, 336, 337, 338, 339, 340, 341, 342, 343, 344, 345, 361, 362, 363, 364, 365, 366, 367, 368, 346, 347, 355, 356, 357, 358, 359, 360, 369, 370, 371, 372, 373, 374] (by decide +kernel) (by decide +kernel)
set_option maxRecDepth 20000 in
theorem gL_act_X6_buy : GoodIn wsL_act (wsV RL 34 RX6 yX6_buy wsX6_buy) := goodIn_app (goodIn_of _ (by decide +kernel)) ggL_act_X6_buy
set_option maxRecDepth 20000 in
theorem ggL_act_X6_license : GoodIn wsL_act wsX6_license := goodIn_r _ [166, 11, 59, 29, 167, 168, 22, 169, 40, 41, 36, 42, 43, 62, 63, 9, 64, 70, 71, 72, 73, 74, 75, 76, 77, 78, 79, 80, 81, 82, 83, 84, 85, 86, 87, 88, 48, 89, 90, 91, 92, 93, 94, 95, 96, 97, 98, 99, 100, 101, 102, 103, 104, 39, 105, 106, 107, 108, 109, 110, 111, 112, 113, 114, 115, 50, 51, 52, 53, 54, 116, 117, 118, 119, 120, 121, 122, 123, 124, 125, 126, 127, 128, 129, 130, 131, 132, 133, 134, 135, 136, 137, 138, 139, 140, 141, 142, 143, 144, 145, 146, 147, 148, 324, 325, 326, 327, 328, 329, 355, 356, 357, 358, 359, 360, 330, 331, 332, 333, 334, 335, 336, 337, 338, 339, 340, 341, 342, 343, 344, 345, 346, 347, 361, 362, 363, 364, 365, 366, 367, 368, 369, 370, 371, 372, 373, 374] (by decide +kernel) (by decide +kernel)
set_option maxRecDepth 20000 in
theorem gL_act_X6_license : GoodIn wsL_act (wsV RL 38 RX6 yX6_license wsX6_license) := goodIn_app (goodIn_of _ (by decide +kernel)) ggL_act_X6_license
set_option maxRecDepth 20000 in
theorem ggL_act_X6_setRate : GoodIn wsL_act wsX6_setRate := goodIn_r _ [173, 11, 59, 29, 174, 168, 22, 175, 51, 52, 36, 53, 48, 54, 62, 63, 9, 64, 70, 71, 72, 73, 74, 75, 76, 77, 78, 79, 80, 81, 82, 83, 84, 85, 86, 87, 88, 89, 90, 91, 92, 93, 94, 95, 96, 97, 98, 99, 100, 101, 102, 103, 104, 39, 40, 41, 42, 43, 105, 106, 107, 108, 109, 110, 111, 112, 113, 114, 115, 50, 116, 117, 118, 119, 120, 121, 122, 123, 124, 125, 126, 127, 128, 129, 130, 131, 132, 133, 134, 135, 136, 137, 138, 139, 140, 141, 142, 143, 144, 145, 146, 147, 148, 324, 325, 326, 327, 328, 329, 361, 362, 363, 364, 365, 366, 367, 368, 330, 331, 332, 333, 334, 335, 336, 337, 338, 339, 340, 341, 342, 343, 344, 345, 346, 347, 355, 356, 357, 358, 359, 360, 369, 370, 371, 372, 373, 374] (by decide +kernel) (by decide +kernel)
set_option maxRecDepth 20000 in
theorem gL_act_X6_setRate : GoodIn wsL_act (wsV RL 41 RX6 yX6_setRate wsX6_setRate) := goodIn_app (goodIn_of _ (by decide +kernel)) ggL_act_X6_setRate
set_option maxRecDepth 20000 in
theorem ggL_act_X6_set : GoodIn wsL_act wsX6_set := goodIn_r _ [179, 29, 11, 19, 20, 168, 22, 62, 63, 9, 64, 70, 71, 72, 73, 74, 75, 76, 77, 78, 79, 80, 81, 82, 83, 84, 85, 86, 87, 36, 88, 48, 89, 90, 91, 92, 93, 94, 95, 96, 97, 98, 99, 100, 101, 102, 103, 104, 39, 40, 41, 42, 43, 105, 106, 107, 108, 109, 110, 111, 112, 113, 114, 115, 50, 51, 52, 53, 54, 116, 117, 118, 119, 120, 121, 122, 123, 124, 125, 126, 127, 128, 129, 130, 131, 132, 133, 134, 135, 136, 137, 138, 139, 140, 141, 142, 143, 144, 145, 146, 147, 148, 324, 325, 326, 327, 328, 329, 330, 331, 332, 333, 334, 335, 336, 337, 338, 339, 340, 341, 342, 343, 344, 345, 346, 347, 355, 356, 357, 358, 359, 360, 361, 362, 363, 364, 365, 366, 367, 368, 369, 370, 371, 372, 373, 374] (by decide +kernel) (by decide +kernel)
set_option maxRecDepth 20000 in
theorem gL_act_X6_set : GoodIn wsL_act (wsV RL 44 RX6 yX6_set wsX6_set) := goodIn_app (goodIn_of _ (by decide +kernel)) ggL_act_X6_set
set_option maxRecDepth 20000 in
theorem ggL_act_X6_setSeed : GoodIn wsL_act wsX6_setSeed := goodIn_r _ [183, 29, 11, 21, 168, 22, 62, 63, 9, 64, 70, 71, 72, 73, 74, 75, 76, 77, 78, 79, 80, 81, 82, 83, 84, 85, 86, 87, 36, 88, 48, 89, 90, 91, 92, 93, 94, 95, 96, 97, 98, 99, 100, 101, 102, 103, 104, 39, 40, 41, 42, 43, 105, 106, 107, 108, 109, 110, 111, 112, 113, 114, 115, 50, 51, 52, 53, 54, 116, 117, 118, 119, 120, 121, 122, 123, 124, 125, 126, 127, 128, 129, 130, 131, 132, 133, 134, 135, 136, 137, 138, 139, 140, 141, 142, 143, 144, 145, 146, 147, 148, 324, 325, 326, 327, 328, 329, 330, 331, 332, 333, 334, 335, 336, 337, 338, 339, 340, 341, 342, 343, 344, 345, 346, 347, 355, 356, 357, 358, 359, 360, 361, 362, 363, 364, 365, 366, 367, 368, 369, 370, 371, 372, 373, 374] (by decide +kernel) (by decide +kernel)
set_option maxRecDepth 20000 in
theorem gL_act_X6_setSeed : GoodIn wsL_act (wsV RL 47 RX6 yX6_setSeed wsX6_setSeed) := goodIn_app (goodIn_of _ (by decide +kernel)) ggL_act_X6_setSeed
set_option maxRecDepth 20000 in
theorem ggL_act_X6_fill : GoodIn wsL_act wsX6_fill := goodIn_r _ [187, 11, 59, 29, 188, 189, 60, 22, 190, 18, 27, 169, 40, 41, 36, 42, 43, 175, 51, 52, 53, 48, 54, 62, 63, 9, 64, 70, 71, 72, 73, 74, 75, 76, 77, 78, 79, 80, 81, 82, 83, 84, 85, 86, 87, 88, 89, 90, 91, 92, 93, 94, 95, 96, 97, 98, 99, 100, 101, 102, 103, 104, 39, 105, 106, 107, 108, 109, 110, 111, 112, 113, 114, 115, 50, 116, 117, 118, 119, 120, 121, 122, 123, 124, 125, 126, 127, 128, 129, 130, 131, 132, 133, 134, 135, 136, 137, 138, 139, 140, 141, 142, 143, 144, 145, 146, 147, 148, 324, 325, 326, 327, 328, 329, 361, 362, 363, 364, 365, 366, 367, 368, 355, 356, 357, 358, 359, 360, 330, 331, 332, 333, 334, 335, 336, 337, 338, 339, 340, 341, 342, 343, 344, 345, 346, 347, 369, 370, 371, 372, 373, 374] (by decide +kernel) (by decide +kernel)
set_option maxRecDepth 20000 in
theorem gL_act_X6_fill : GoodIn wsL_act (wsV RL 50 RX6 yX6_fill wsX6_fill) := goodIn_app (goodIn_of _ (by decide +kernel)) ggL_act_X6_fill
set_option maxRecDepth 20000 in
theorem ggL_act_X6_mend : GoodIn wsL_act wsX6_mend := goodIn_r _ [194, 11, 59, 195, 168, 22, 175, 51, 52, 36, 53, 48, 54, 70, 71, 72, 73, 74, 75, 76, 77, 78, 79, 80, 81, 82, 83, 84, 85, 86, 87, 88, 89, 90, 91, 92, 93, 94, 95, 96, 97, 98, 99, 100, 101, 102, 103, 104, 39, 40, 41, 42, 43, 105, 106, 107, 108, 109, 110, 111, 112, 113, 114, 115, 50, 116, 117, 118, 119, 120, 121, 122, 123, 124, 125, 126, 127, 128, 129, 130, 131, 132, 133, 134, 135, 136, 137, 138, 139, 140, 141, 142, 143, 144, 145, 146, 147, 148, 196, 197, 198, 199, 49, 200, 201, 202, 203, 204, 205, 206, 207, 208, 209, 210, 160, 161, 162, 324, 325, 326, 327, 328, 329, 361, 362, 363, 364, 365, 366, 367, 368, 330, 331, 332, 333, 334, 335, 336, 337, 338, 339, 340, 341, 342, 343, 344, 345, 346, 347, 355, 356, 357, 358, 359, 360, 369, 370, 371, 372, 373, 374] (by decide +kernel) (by decide +kernel)
set_option maxRecDepth 20000 in
theorem gL_act_X6_mend : GoodIn wsL_act (wsV RL 53 RX6 yX6_mend wsX6_mend) := goodIn_app (goodIn_of _ (by decide +kernel)) ggL_act_X6_mend
set_option maxRecDepth 20000 in
theorem ggL_act_X6_pay : GoodIn wsL_act wsX6_pay := goodIn_r _ [214, 11, 59, 29, 22, 215, 18, 28, 169, 40, 41, 36, 42, 43, 62, 63, 9, 64, 70, 71, 72, 73, 74, 75, 76, 77, 78, 79, 80, 81, 82, 83, 84, 85, 86, 87, 88, 48, 89, 90, 91, 92, 93, 94, 95, 96, 97, 98, 99, 100, 101, 102, 103, 104, 39, 105, 106, 107, 108, 109, 110, 111, 112, 113, 114, 115, 50, 51, 52, 53, 54, 116, 117, 118, 119, 120, 121, 122, 123, 124, 125, 126, 127, 128, 129, 130, 131, 132, 133, 134, 135, 136, 137, 138, 139, 140, 141, 142, 143, 144, 145, 146, 147, 148, 324, 325, 326, 327, 328, 329, 355, 356, 357, 358, 359, 360, 330, 331, 332, 333, 334, 335, 336, 337, 338, 339, 340, 341, 342, 343, 344, 345, 346, 347, 361, 362, 363, 364, 365, 366, 367, 368, 369, 370, 371, 372, 373, 374] (by decide +kernel) (by decide +kernel)
set_option maxRecDepth 20000 in
theorem gL_act_X6_pay : GoodIn wsL_act (wsV RL 56 RX6 yX6_pay wsX6_pay) := goodIn_app (goodIn_of _ (by decide +kernel)) ggL_act_X6_pay
set_option maxRecDepth 20000 in
theorem ggL_act_X6_takeBack : GoodIn wsL_act wsX6_takeBack := goodIn_r _ [219, 11, 59, 22, 14, 220, 221, 222, 36, 223, 89, 224, 133, 134, 135, 136, 137, 70, 71, 72, 73, 74, 75, 76, 77, 78, 79, 80, 81, 82, 83, 84, 85, 86, 87, 88, 48, 90, 91, 92, 93, 94, 95, 96, 97, 98, 99, 100, 101, 102, 103, 104, 39, 40, 41, 42, 43, 105, 106, 107, 108, 109, 110, 111, 112, 113, 114, 115, 50, 51, 52, 53, 54, 116, 117, 118, 119, 120, 121, 122, 123, 124, 125, 126, 127, 128, 129, 130, 131, 132, 138, 139, 140, 141, 142, 143, 144, 145, 146, 147, 148, 225, 226, 227, 228, 324, 325, 326, 327, 328, 329, 330, 331, 332, 333, 334, 335, 336, 337, 338, 339, 340, 341, 342, 343, 344, 345, 369, 370, 371, 372, 373, 374, 346, 347, 355, 356, 357, 358, 359, 360, 361, 362, 363, 364, 365, 366, 367, 368] (by decide +kernel) (by decide +kernel)
set_option maxRecDepth 20000 in
theorem gL_act_X6_takeBack : GoodIn wsL_act (wsV RL 59 RX6 yX6_takeBack wsX6_takeBack) := goodIn_app (goodIn_of _ (by decide +kernel)) ggL_act_X6_takeBack
set_option maxRecDepth 20000 in
theorem ggL_act_X6_restore : GoodIn wsL_act wsX6_restore := goodIn_r _ [232, 233, 168, 22, 11, 234, 12, 70, 71, 72, 73, 74, 75, 76, 77, 78, 79, 80, 81, 82, 83, 84, 85, 86, 87, 36, 88, 48, 89, 90, 91, 92, 93, 94, 95, 96, 97, 98, 99, 100, 101, 102, 103, 104, 39, 40, 41, 42, 43, 105, 106, 107, 108, 109, 110, 111, 112, 113, 114, 115, 50, 51, 52, 53, 54, 116, 117, 118, 119, 120, 121, 122, 123, 124, 125, 126, 127, 128, 129, 130, 131, 132, 133, 134, 135, 136, 137, 138, 139, 140, 141, 142, 143, 144, 145, 146, 147, 148, 235, 324, 325, 326, 327, 328, 329, 330, 331, 332, 333, 334, 335, 336, 337, 338, 339, 340, 341, 342, 343, 344, 345, 346, 347, 355, 356, 357, 358, 359, 360, 361, 362, 363, 364, 365, 366, 367, 368, 369, 370, 371, 372, 373, 374] (by decide +kernel) (by decide +kernel)
set_option maxRecDepth 20000 in
theorem gL_act_X6_restore : GoodIn wsL_act (wsV RL 62 RX6 yX6_restore wsX6_restore) := goodIn_app (goodIn_of _ (by decide +kernel)) ggL_act_X6_restore
set_option maxRecDepth 20000 in
theorem ggL_act_X6_pass : GoodIn wsL_act wsX6_pass := goodIn_r _ [239, 29, 22, 11, 16, 62, 63, 9, 64, 70, 71, 72, 73, 74, 75, 76, 77, 78, 79, 80, 81, 82, 83, 84, 85, 86, 87, 36, 88, 48, 89, 90, 91, 92, 93, 94, 95, 96, 97, 98, 99, 100, 101, 102, 103, 104, 39, 40, 41, 42, 43, 105, 106, 107, 108, 109, 110, 111, 112, 113, 114, 115, 50, 51, 52, 53, 54, 116, 117, 118, 119, 120, 121, 122, 123, 124, 125, 126, 127, 128, 129, 130, 131, 132, 133, 134, 135, 136, 137, 138, 139, 140, 141, 142, 143, 144, 145, 146, 147, 148, 240, 241, 242, 243, 244, 245, 246, 247, 248, 249, 250, 251, 252, 253, 254, 255, 256, 69, 49, 257, 258, 259, 260, 261, 262, 263, 264, 265, 266, 267, 268, 269, 270, 271, 272, 273, 274, 275, 276, 277, 278, 279, 280, 281, 282, 283, 284, 285, 286, 287, 288, 31, 32, 289, 290, 291, 292, 293, 294, 295, 296, 297, 298, 299, 300, 301, 302, 303, 304, 305, 306, 307, 202, 203, 204, 308, 226, 227, 228, 324, 325, 326, 327, 328, 329, 330, 331, 332, 333, 334, 335, 336, 337, 338, 339, 340, 341, 342, 343, 344, 345, 346, 347, 355, 356, 357, 358, 359, 360, 361, 362, 363, 364, 365, 366, 367, 368, 369, 370, 371, 372, 373, 374] (by decide +kernel) (by decide +kernel)
set_option maxRecDepth 20000 in
theorem gL_act_X6_pass : GoodIn wsL_act (wsV RL 66 RX6 yX6_pass wsX6_pass) := goodIn_app (goodIn_of _ (by decide +kernel)) ggL_act_X6_pass
set_option maxRecDepth 20000 in
theorem ggL_act_X6_book : GoodIn wsL_act wsX6_book := goodIn_r _ [312, 11, 22, 313, 314, 315, 36, 316, 317, 318, 89, 153, 94, 319, 39, 40, 41, 42, 43, 50, 51, 52, 53, 48, 54, 63, 9, 64, 276, 277, 278, 279, 251, 133, 134, 135, 136, 137, 280, 281, 282, 141, 283, 145, 146, 70, 71, 72, 73, 74, 75, 76, 77, 78, 79, 80, 81, 82, 83, 84, 85, 86, 87, 88, 90, 91, 92, 93, 95, 96, 97, 98, 99, 100, 101, 102, 103, 104, 105, 106, 107, 108, 109, 110, 111, 112, 113, 114, 115, 116, 117, 118, 119, 120, 121, 122, 123, 124, 125, 126, 127, 128, 129, 130, 131, 132, 138, 139, 140, 142, 143, 144, 147, 148, 320, 321, 322, 323, 224, 250, 249, 248, 275, 324, 325, 326, 327, 328, 329, 330, 331, 332, 333, 334, 335, 336, 337, 338, 339, 340, 341, 342, 343, 344, 345, 369, 370, 371, 372, 373, 374, 346, 347, 355, 356, 357, 358, 359, 360, 361, 362, 363, 364, 365, 366, 367, 368] (by decide +kernel) (by decide +kernel)
set_option maxRecDepth 20000 in
theorem gL_act_X6_book : GoodIn wsL_act (wsV RL 69 RX6 yX6_book wsX6_book) := goodIn_app (goodIn_of _ (by decide +kernel)) ggL_act_X6_book
theorem dL_act_0 : decode cL_act 0 = .ok (.iload_n 1, 1) := by decide +kernel
theorem dL_act_1 : decode cL_act 1 = .ok (.iconst 4, 1) := by decide +kernel
theorem dL_act_2 : decode cL_act 2 = .ok (.ishr, 1) := by decide +kernel
theorem dL_act_3 : decode cL_act 3 = .ok (.iload_n 1, 1) := by decide +kernel
theorem dL_act_4 : decode cL_act 4 = .ok (.bipush 20, 2) := by decide +kernel
theorem dL_act_6 : decode cL_act 6 = .ok (.ishr, 1) := by decide +kernel
theorem dL_act_7 : decode cL_act 7 = .ok (.bipush 7, 2) := by decide +kernel
theorem dL_act_9 : decode cL_act 9 = .ok (.iand, 1) := by decide +kernel
theorem dL_act_10 : decode cL_act 10 = .ok (.ifCond .ne 8, 3) := by decide +kernel
theorem dL_act_13 : decode cL_act 13 = .ok (.bipush 7, 2) := by decide +kernel
theorem dL_act_15 : decode cL_act 15 = .ok (.goto 5, 3) := by decide +kernel
theorem dL_act_18 : decode cL_act 18 = .ok (.bipush 6, 2) := by decide +kernel
theorem dL_act_20 : decode cL_act 20 = .ok (.invokestatic 29, 3) := by decide +kernel
theorem dL_act_23 : decode cL_act 23 = .ok (.istore_n 3, 1) := by decide +kernel
theorem dL_act_24 : decode cL_act 24 = .ok (.iload_n 1, 1) := by decide +kernel
theorem dL_act_25 : decode cL_act 25 = .ok (.bipush 7, 2) := by decide +kernel
theorem dL_act_27 : decode cL_act 27 = .ok (.ishr, 1) := by decide +kernel
theorem dL_act_28 : decode cL_act 28 = .ok (.aload_n 0, 1) := by decide +kernel
theorem dL_act_29 : decode cL_act 29 = .ok (.iconst 2, 1) := by decide +kernel
theorem dL_act_30 : decode cL_act 30 = .ok (.invokevirtual 12, 3) := by decide +kernel
theorem dL_act_33 : decode cL_act 33 = .ok (.iload_n 1, 1) := by decide +kernel
theorem dL_act_34 : decode cL_act 34 = .ok (.bipush 20, 2) := by decide +kernel
theorem dL_act_36 : decode cL_act 36 = .ok (.ishr, 1) := by decide +kernel
theorem dL_act_37 : decode cL_act 37 = .ok (.bipush 7, 2) := by decide +kernel
theorem dL_act_39 : decode cL_act 39 = .ok (.iand, 1) := by decide +kernel
theorem dL_act_40 : decode cL_act 40 = .ok (.iconst 1, 1) := by decide +kernel
theorem dL_act_41 : decode cL_act 41 = .ok (.if_icmp .eq 11, 3) := by decide +kernel
theorem dL_act_44 : decode cL_act 44 = .ok (.aload_n 0, 1) := by decide +kernel
theorem dL_act_45 : decode cL_act 45 = .ok (.iconst 2, 1) := by decide +kernel
theorem dL_act_46 : decode cL_act 46 = .ok (.invokevirtual 12, 3) := by decide +kernel
theorem dL_act_49 : decode cL_act 49 = .ok (.ifCond .ne 7, 3) := by decide +kernel
theorem dL_act_52 : decode cL_act 52 = .ok (.iconst 1, 1) := by decide +kernel
theorem dL_act_53 : decode cL_act 53 = .ok (.goto 4, 3) := by decide +kernel
theorem dL_act_56 : decode cL_act 56 = .ok (.iconst 0, 1) := by decide +kernel
theorem dL_act_57 : decode cL_act 57 = .ok (.iadd, 1) := by decide +kernel
theorem dL_act_58 : decode cL_act 58 = .ok (.invokestatic 29, 3) := by decide +kernel
theorem dL_act_61 : decode cL_act 61 = .ok (.istore 4, 2) := by decide +kernel
theorem dL_act_63 : decode cL_act 63 = .ok (.iload_n 1, 1) := by decide +kernel
theorem dL_act_64 : decode cL_act 64 = .ok (.bipush 15, 2) := by decide +kernel
theorem dL_act_66 : decode cL_act 66 = .ok (.iand, 1) := by decide +kernel
theorem dL_act_67 : decode cL_act 67 = .ok (.tableswitch 288 0 10 #[57, 57, 100, 137, 181, 181, 196, 203, 244, 264, 264], 57) := by decide +kernel
theorem dL_act_124 : decode cL_act 124 = .ok (.iload_n 2, 1) := by decide +kernel
theorem dL_act_125 : decode cL_act 125 = .ok (.iconst 3, 1) := by decide +kernel
theorem dL_act_126 : decode cL_act 126 = .ok (.invokestatic 29, 3) := by decide +kernel
theorem dL_act_129 : decode cL_act 129 = .ok (.istore 5, 2) := by decide +kernel
theorem dL_act_131 : decode cL_act 131 = .ok (.aload_n 0, 1) := by decide +kernel
theorem dL_act_132 : decode cL_act 132 = .ok (.iload 5, 2) := by decide +kernel
theorem dL_act_134 : decode cL_act 134 = .ok (.iload_n 2, 1) := by decide +kernel
theorem dL_act_135 : decode cL_act 135 = .ok (.bipush 20, 2) := by decide +kernel
theorem dL_act_137 : decode cL_act 137 = .ok (.ishr, 1) := by decide +kernel
theorem dL_act_138 : decode cL_act 138 = .ok (.iconst 3, 1) := by decide +kernel
theorem dL_act_139 : decode cL_act 139 = .ok (.iand, 1) := by decide +kernel
theorem dL_act_140 : decode cL_act 140 = .ok (.ifCond .ne 13, 3) := by decide +kernel
theorem dL_act_143 : decode cL_act 143 = .ok (.iload_n 2, 1) := by decide +kernel
theorem dL_act_144 : decode cL_act 144 = .ok (.iconst 2, 1) := by decide +kernel
theorem dL_act_145 : decode cL_act 145 = .ok (.ishr, 1) := by decide +kernel
theorem dL_act_146 : decode cL_act 146 = .ok (.iconst 4, 1) := by decide +kernel
theorem dL_act_147 : decode cL_act 147 = .ok (.invokestatic 29, 3) := by decide +kernel
theorem dL_act_150 : decode cL_act 150 = .ok (.goto 5, 3) := by decide +kernel
theorem dL_act_153 : decode cL_act 153 = .ok (.iload 5, 2) := by decide +kernel
theorem dL_act_155 : decode cL_act 155 = .ok (.iload_n 2, 1) := by decide +kernel
theorem dL_act_156 : decode cL_act 156 = .ok (.iconst 4, 1) := by decide +kernel
theorem dL_act_157 : decode cL_act 157 = .ok (.ishr, 1) := by decide +kernel
theorem dL_act_158 : decode cL_act 158 = .ok (.bipush 101, 2) := by decide +kernel
theorem dL_act_160 : decode cL_act 160 = .ok (.invokestatic 29, 3) := by decide +kernel
theorem dL_act_163 : decode cL_act 163 = .ok (.invokevirtual 34, 3) := by decide +kernel
theorem dL_act_166 : decode cL_act 166 = .ok (.ireturn, 1) := by decide +kernel
theorem dL_act_167 : decode cL_act 167 = .ok (.iload_n 2, 1) := by decide +kernel
theorem dL_act_168 : decode cL_act 168 = .ok (.iconst 1, 1) := by decide +kernel
theorem dL_act_169 : decode cL_act 169 = .ok (.iand, 1) := by decide +kernel
theorem dL_act_170 : decode cL_act 170 = .ok (.ifCond .ne 19, 3) := by decide +kernel
theorem dL_act_173 : decode cL_act 173 = .ok (.aload_n 0, 1) := by decide +kernel
theorem dL_act_174 : decode cL_act 174 = .ok (.iload_n 3, 1) := by decide +kernel
theorem dL_act_175 : decode cL_act 175 = .ok (.iload_n 2, 1) := by decide +kernel
theorem dL_act_176 : decode cL_act 176 = .ok (.iconst 1, 1) := by decide +kernel
theorem dL_act_177 : decode cL_act 177 = .ok (.ishr, 1) := by decide +kernel
theorem dL_act_178 : decode cL_act 178 = .ok (.bipush 9, 2) := by decide +kernel
theorem dL_act_180 : decode cL_act 180 = .ok (.invokestatic 29, 3) := by decide +kernel
theorem dL_act_183 : decode cL_act 183 = .ok (.invokevirtual 38, 3) := by decide +kernel
theorem dL_act_186 : decode cL_act 186 = .ok (.goto 17, 3) := by decide +kernel
theorem dL_act_189 : decode cL_act 189 = .ok (.aload_n 0, 1) := by decide +kernel
theorem dL_act_190 : decode cL_act 190 = .ok (.iload 4, 2) := by decide +kernel
theorem dL_act_192 : decode cL_act 192 = .ok (.iload_n 2, 1) := by decide +kernel
theorem dL_act_193 : decode cL_act 193 = .ok (.iconst 1, 1) := by decide +kernel
theorem dL_act_194 : decode cL_act 194 = .ok (.ishr, 1) := by decide +kernel
theorem dL_act_195 : decode cL_act 195 = .ok (.bipush 101, 2) := by decide +kernel
theorem dL_act_197 : decode cL_act 197 = .ok (.invokestatic 29, 3) := by decide +kernel
theorem dL_act_200 : decode cL_act 200 = .ok (.invokevirtual 41, 3) := by decide +kernel
theorem dL_act_203 : decode cL_act 203 = .ok (.ireturn, 1) := by decide +kernel
theorem dL_act_204 : decode cL_act 204 = .ok (.iload_n 2, 1) := by decide +kernel
theorem dL_act_205 : decode cL_act 205 = .ok (.iconst 1, 1) := by decide +kernel
theorem dL_act_206 : decode cL_act 206 = .ok (.iand, 1) := by decide +kernel
theorem dL_act_207 : decode cL_act 207 = .ok (.ifCond .ne 27, 3) := by decide +kernel
theorem dL_act_210 : decode cL_act 210 = .ok (.aload_n 0, 1) := by decide +kernel
theorem dL_act_211 : decode cL_act 211 = .ok (.iload_n 2, 1) := by decide +kernel
theorem dL_act_212 : decode cL_act 212 = .ok (.iconst 1, 1) := by decide +kernel
theorem dL_act_213 : decode cL_act 213 = .ok (.ishr, 1) := by decide +kernel
theorem dL_act_214 : decode cL_act 214 = .ok (.iconst 3, 1) := by decide +kernel
theorem dL_act_215 : decode cL_act 215 = .ok (.invokestatic 29, 3) := by decide +kernel
theorem dL_act_218 : decode cL_act 218 = .ok (.iconst 5, 1) := by decide +kernel
theorem dL_act_219 : decode cL_act 219 = .ok (.iload_n 2, 1) := by decide +kernel
theorem dL_act_220 : decode cL_act 220 = .ok (.iconst 3, 1) := by decide +kernel
theorem dL_act_221 : decode cL_act 221 = .ok (.ishr, 1) := by decide +kernel
theorem dL_act_222 : decode cL_act 222 = .ok (.bipush 60, 2) := by decide +kernel
theorem dL_act_224 : decode cL_act 224 = .ok (.invokestatic 29, 3) := by decide +kernel
theorem dL_act_227 : decode cL_act 227 = .ok (.iadd, 1) := by decide +kernel
theorem dL_act_228 : decode cL_act 228 = .ok (.invokevirtual 44, 3) := by decide +kernel
theorem dL_act_231 : decode cL_act 231 = .ok (.goto 16, 3) := by decide +kernel
theorem dL_act_234 : decode cL_act 234 = .ok (.aload_n 0, 1) := by decide +kernel
theorem dL_act_235 : decode cL_act 235 = .ok (.iload_n 2, 1) := by decide +kernel
theorem dL_act_236 : decode cL_act 236 = .ok (.iconst 1, 1) := by decide +kernel
theorem dL_act_237 : decode cL_act 237 = .ok (.ishr, 1) := by decide +kernel
theorem dL_act_238 : decode cL_act 238 = .ok (.sipush 10001, 3) := by decide +kernel
theorem dL_act_241 : decode cL_act 241 = .ok (.invokestatic 29, 3) := by decide +kernel
theorem dL_act_244 : decode cL_act 244 = .ok (.invokevirtual 47, 3) := by decide +kernel
theorem dL_act_247 : decode cL_act 247 = .ok (.ireturn, 1) := by decide +kernel
theorem dL_act_248 : decode cL_act 248 = .ok (.aload_n 0, 1) := by decide +kernel
theorem dL_act_249 : decode cL_act 249 = .ok (.iload_n 3, 1) := by decide +kernel
theorem dL_act_250 : decode cL_act 250 = .ok (.iload 4, 2) := by decide +kernel
theorem dL_act_252 : decode cL_act 252 = .ok (.iload_n 2, 1) := by decide +kernel
theorem dL_act_253 : decode cL_act 253 = .ok (.sipush 302, 3) := by decide +kernel
theorem dL_act_256 : decode cL_act 256 = .ok (.invokestatic 29, 3) := by decide +kernel
theorem dL_act_259 : decode cL_act 259 = .ok (.invokevirtual 50, 3) := by decide +kernel
theorem dL_act_262 : decode cL_act 262 = .ok (.ireturn, 1) := by decide +kernel
theorem dL_act_263 : decode cL_act 263 = .ok (.aload_n 0, 1) := by decide +kernel
theorem dL_act_264 : decode cL_act 264 = .ok (.iload 4, 2) := by decide +kernel
theorem dL_act_266 : decode cL_act 266 = .ok (.invokevirtual 53, 3) := by decide +kernel
theorem dL_act_269 : decode cL_act 269 = .ok (.ireturn, 1) := by decide +kernel
theorem dL_act_270 : decode cL_act 270 = .ok (.iload_n 2, 1) := by decide +kernel
theorem dL_act_271 : decode cL_act 271 = .ok (.iconst 1, 1) := by decide +kernel
theorem dL_act_272 : decode cL_act 272 = .ok (.iand, 1) := by decide +kernel
theorem dL_act_273 : decode cL_act 273 = .ok (.ifCond .ne 20, 3) := by decide +kernel
theorem dL_act_276 : decode cL_act 276 = .ok (.aload_n 0, 1) := by decide +kernel
theorem dL_act_277 : decode cL_act 277 = .ok (.iload_n 3, 1) := by decide +kernel
theorem dL_act_278 : decode cL_act 278 = .ok (.iload_n 2, 1) := by decide +kernel
theorem dL_act_279 : decode cL_act 279 = .ok (.iconst 1, 1) := by decide +kernel
theorem dL_act_280 : decode cL_act 280 = .ok (.ishr, 1) := by decide +kernel
theorem dL_act_281 : decode cL_act 281 = .ok (.sipush 10001, 3) := by decide +kernel
theorem dL_act_284 : decode cL_act 284 = .ok (.invokestatic 29, 3) := by decide +kernel
theorem dL_act_287 : decode cL_act 287 = .ok (.invokevirtual 56, 3) := by decide +kernel
theorem dL_act_290 : decode cL_act 290 = .ok (.goto 20, 3) := by decide +kernel
theorem dL_act_293 : decode cL_act 293 = .ok (.aload_n 0, 1) := by decide +kernel
theorem dL_act_294 : decode cL_act 294 = .ok (.iload_n 2, 1) := by decide +kernel
theorem dL_act_295 : decode cL_act 295 = .ok (.iconst 1, 1) := by decide +kernel
theorem dL_act_296 : decode cL_act 296 = .ok (.ishr, 1) := by decide +kernel
theorem dL_act_297 : decode cL_act 297 = .ok (.aload_n 0, 1) := by decide +kernel
theorem dL_act_298 : decode cL_act 298 = .ok (.iconst 4, 1) := by decide +kernel
theorem dL_act_299 : decode cL_act 299 = .ok (.invokevirtual 12, 3) := by decide +kernel
theorem dL_act_302 : decode cL_act 302 = .ok (.iconst 1, 1) := by decide +kernel
theorem dL_act_303 : decode cL_act 303 = .ok (.iadd, 1) := by decide +kernel
theorem dL_act_304 : decode cL_act 304 = .ok (.invokestatic 29, 3) := by decide +kernel
theorem dL_act_307 : decode cL_act 307 = .ok (.invokevirtual 59, 3) := by decide +kernel
theorem dL_act_310 : decode cL_act 310 = .ok (.ireturn, 1) := by decide +kernel
theorem dL_act_311 : decode cL_act 311 = .ok (.iload_n 2, 1) := by decide +kernel
theorem dL_act_312 : decode cL_act 312 = .ok (.iconst 1, 1) := by decide +kernel
theorem dL_act_313 : decode cL_act 313 = .ok (.iand, 1) := by decide +kernel
theorem dL_act_314 : decode cL_act 314 = .ok (.ifCond .ne 10, 3) := by decide +kernel
theorem dL_act_317 : decode cL_act 317 = .ok (.aload_n 0, 1) := by decide +kernel
theorem dL_act_318 : decode cL_act 318 = .ok (.invokevirtual 62, 3) := by decide +kernel
theorem dL_act_321 : decode cL_act 321 = .ok (.goto 9, 3) := by decide +kernel
theorem dL_act_324 : decode cL_act 324 = .ok (.aload_n 0, 1) := by decide +kernel
theorem dL_act_325 : decode cL_act 325 = .ok (.bipush 61, 2) := by decide +kernel
theorem dL_act_327 : decode cL_act 327 = .ok (.invokevirtual 66, 3) := by decide +kernel
theorem dL_act_330 : decode cL_act 330 = .ok (.ireturn, 1) := by decide +kernel
theorem dL_act_331 : decode cL_act 331 = .ok (.aload_n 0, 1) := by decide +kernel
theorem dL_act_332 : decode cL_act 332 = .ok (.iload_n 2, 1) := by decide +kernel
theorem dL_act_333 : decode cL_act 333 = .ok (.iload_n 2, 1) := by decide +kernel
theorem dL_act_334 : decode cL_act 334 = .ok (.bipush 20, 2) := by decide +kernel
theorem dL_act_336 : decode cL_act 336 = .ok (.ishr, 1) := by decide +kernel
theorem dL_act_337 : decode cL_act 337 = .ok (.iconst 3, 1) := by decide +kernel
theorem dL_act_338 : decode cL_act 338 = .ok (.iand, 1) := by decide +kernel
theorem dL_act_339 : decode cL_act 339 = .ok (.ifCond .ne 8, 3) := by decide +kernel
theorem dL_act_342 : decode cL_act 342 = .ok (.bipush 61, 2) := by decide +kernel
theorem dL_act_344 : decode cL_act 344 = .ok (.goto 4, 3) := by decide +kernel
theorem dL_act_347 : decode cL_act 347 = .ok (.iconst 5, 1) := by decide +kernel
theorem dL_act_348 : decode cL_act 348 = .ok (.invokestatic 29, 3) := by decide +kernel
theorem dL_act_351 : decode cL_act 351 = .ok (.invokevirtual 66, 3) := by decide +kernel
theorem dL_act_354 : decode cL_act 354 = .ok (.ireturn, 1) := by decide +kernel
theorem dL_act_355 : decode cL_act 355 = .ok (.aload_n 0, 1) := by decide +kernel
theorem dL_act_356 : decode cL_act 356 = .ok (.iload_n 3, 1) := by decide +kernel
theorem dL_act_357 : decode cL_act 357 = .ok (.iload 4, 2) := by decide +kernel
theorem dL_act_359 : decode cL_act 359 = .ok (.iload_n 2, 1) := by decide +kernel
theorem dL_act_360 : decode cL_act 360 = .ok (.iconst 5, 1) := by decide +kernel
theorem dL_act_361 : decode cL_act 361 = .ok (.invokestatic 29, 3) := by decide +kernel
theorem dL_act_364 : decode cL_act 364 = .ok (.iload_n 2, 1) := by decide +kernel
theorem dL_act_365 : decode cL_act 365 = .ok (.iconst 3, 1) := by decide +kernel
theorem dL_act_366 : decode cL_act 366 = .ok (.ishr, 1) := by decide +kernel
theorem dL_act_367 : decode cL_act 367 = .ok (.bipush 14, 2) := by decide +kernel
theorem dL_act_369 : decode cL_act 369 = .ok (.invokestatic 29, 3) := by decide +kernel
theorem dL_act_372 : decode cL_act 372 = .ok (.invokevirtual 69, 3) := by decide +kernel
theorem dL_act_375 : decode cL_act 375 = .ok (.ireturn, 1) := by decide +kernel
