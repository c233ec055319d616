theorem dX0_init_0 : decode cX0_init 0 = .ok (.aload_n 0, 1) := by decide +kernel
theorem dX0_init_1 : decode cX0_init 1 = .ok (.invokespecial 1, 3) := by decide +kernel
theorem dX0_init_4 : decode cX0_init 4 = .ok (.return_, 1) := by decide +kernel
theorem dX0_copyFrom_0 : decode cX0_copyFrom 0 = .ok (.aload_n 0, 1) := by decide +kernel
theorem dX0_copyFrom_1 : decode cX0_copyFrom 1 = .ok (.aload_n 1, 1) := by decide +kernel
theorem dX0_copyFrom_2 : decode cX0_copyFrom 2 = .ok (.getfield 7, 3) := by decide +kernel
theorem dX0_copyFrom_5 : decode cX0_copyFrom 5 = .ok (.putfield 7, 3) := by decide +kernel
theorem dX0_copyFrom_8 : decode cX0_copyFrom 8 = .ok (.aload_n 0, 1) := by decide +kernel
theorem dX0_copyFrom_9 : decode cX0_copyFrom 9 = .ok (.aload_n 1, 1) := by decide +kernel
theorem dX0_copyFrom_10 : decode cX0_copyFrom 10 = .ok (.getfield 13, 3) := by decide +kernel
theorem dX0_copyFrom_13 : decode cX0_copyFrom 13 = .ok (.putfield 13, 3) := by decide +kernel
theorem dX0_copyFrom_16 : decode cX0_copyFrom 16 = .ok (.aload_n 0, 1) := by decide +kernel
theorem dX0_copyFrom_17 : decode cX0_copyFrom 17 = .ok (.aload_n 1, 1) := by decide +kernel
theorem dX0_copyFrom_18 : decode cX0_copyFrom 18 = .ok (.getfield 16, 3) := by decide +kernel
theorem dX0_copyFrom_21 : decode cX0_copyFrom 21 = .ok (.putfield 16, 3) := by decide +kernel
theorem dX0_copyFrom_24 : decode cX0_copyFrom 24 = .ok (.aload_n 0, 1) := by decide +kernel
theorem dX0_copyFrom_25 : decode cX0_copyFrom 25 = .ok (.aload_n 1, 1) := by decide +kernel
theorem dX0_copyFrom_26 : decode cX0_copyFrom 26 = .ok (.getfield 19, 3) := by decide +kernel
theorem dX0_copyFrom_29 : decode cX0_copyFrom 29 = .ok (.putfield 19, 3) := by decide +kernel
theorem dX0_copyFrom_32 : decode cX0_copyFrom 32 = .ok (.aload_n 0, 1) := by decide +kernel
theorem dX0_copyFrom_33 : decode cX0_copyFrom 33 = .ok (.aload_n 1, 1) := by decide +kernel
theorem dX0_copyFrom_34 : decode cX0_copyFrom 34 = .ok (.getfield 22, 3) := by decide +kernel
theorem dX0_copyFrom_37 : decode cX0_copyFrom 37 = .ok (.putfield 22, 3) := by decide +kernel
theorem dX0_copyFrom_40 : decode cX0_copyFrom 40 = .ok (.aload_n 0, 1) := by decide +kernel
theorem dX0_copyFrom_41 : decode cX0_copyFrom 41 = .ok (.aload_n 1, 1) := by decide +kernel
theorem dX0_copyFrom_42 : decode cX0_copyFrom 42 = .ok (.getfield 25, 3) := by decide +kernel
theorem dX0_copyFrom_45 : decode cX0_copyFrom 45 = .ok (.putfield 25, 3) := by decide +kernel
theorem dX0_copyFrom_48 : decode cX0_copyFrom 48 = .ok (.return_, 1) := by decide +kernel
theorem dX0_isFor_0 : decode cX0_isFor 0 = .ok (.aload_n 0, 1) := by decide +kernel
theorem dX0_isFor_1 : decode cX0_isFor 1 = .ok (.getfield 16, 3) := by decide +kernel
theorem dX0_isFor_4 : decode cX0_isFor 4 = .ok (.iload_n 1, 1) := by decide +kernel
theorem dX0_isFor_5 : decode cX0_isFor 5 = .ok (.if_icmp .ne 15, 3) := by decide +kernel
theorem dX0_isFor_8 : decode cX0_isFor 8 = .ok (.aload_n 0, 1) := by decide +kernel
theorem dX0_isFor_9 : decode cX0_isFor 9 = .ok (.getfield 19, 3) := by decide +kernel
theorem dX0_isFor_12 : decode cX0_isFor 12 = .ok (.iload_n 2, 1) := by decide +kernel
theorem dX0_isFor_13 : decode cX0_isFor 13 = .ok (.if_icmp .ne 7, 3) := by decide +kernel
theorem dX0_isFor_16 : decode cX0_isFor 16 = .ok (.iconst 1, 1) := by decide +kernel
theorem dX0_isFor_17 : decode cX0_isFor 17 = .ok (.goto 4, 3) := by decide +kernel
theorem dX0_isFor_20 : decode cX0_isFor 20 = .ok (.iconst 0, 1) := by decide +kernel
theorem dX0_isFor_21 : decode cX0_isFor 21 = .ok (.ireturn, 1) := by decide +kernel
theorem dX1_init_0 : decode cX1_init 0 = .ok (.aload_n 0, 1) := by decide +kernel
theorem dX1_init_1 : decode cX1_init 1 = .ok (.invokespecial 1, 3) := by decide +kernel
theorem dX1_init_4 : decode cX1_init 4 = .ok (.aload_n 0, 1) := by decide +kernel
theorem dX1_init_5 : decode cX1_init 5 = .ok (.iconst 1, 1) := by decide +kernel
theorem dX1_init_6 : decode cX1_init 6 = .ok (.putfield 7, 3) := by decide +kernel
theorem dX1_init_9 : decode cX1_init 9 = .ok (.return_, 1) := by decide +kernel
theorem dX1_copyFrom_0 : decode cX1_copyFrom 0 = .ok (.aload_n 0, 1) := by decide +kernel
theorem dX1_copyFrom_1 : decode cX1_copyFrom 1 = .ok (.aload_n 1, 1) := by decide +kernel
theorem dX1_copyFrom_2 : decode cX1_copyFrom 2 = .ok (.getfield 13, 3) := by decide +kernel
theorem dX1_copyFrom_5 : decode cX1_copyFrom 5 = .ok (.putfield 13, 3) := by decide +kernel
theorem dX1_copyFrom_8 : decode cX1_copyFrom 8 = .ok (.aload_n 0, 1) := by decide +kernel
theorem dX1_copyFrom_9 : decode cX1_copyFrom 9 = .ok (.aload_n 1, 1) := by decide +kernel
theorem dX1_copyFrom_10 : decode cX1_copyFrom 10 = .ok (.getfield 7, 3) := by decide +kernel
theorem dX1_copyFrom_13 : decode cX1_copyFrom 13 = .ok (.putfield 7, 3) := by decide +kernel
theorem dX1_copyFrom_16 : decode cX1_copyFrom 16 = .ok (.aload_n 0, 1) := by decide +kernel
theorem dX1_copyFrom_17 : decode cX1_copyFrom 17 = .ok (.aload_n 1, 1) := by decide +kernel
theorem dX1_copyFrom_18 : decode cX1_copyFrom 18 = .ok (.getfield 16, 3) := by decide +kernel
theorem dX1_copyFrom_21 : decode cX1_copyFrom 21 = .ok (.putfield 16, 3) := by decide +kernel
theorem dX1_copyFrom_24 : decode cX1_copyFrom 24 = .ok (.aload_n 0, 1) := by decide +kernel
theorem dX1_copyFrom_25 : decode cX1_copyFrom 25 = .ok (.aload_n 1, 1) := by decide +kernel
theorem dX1_copyFrom_26 : decode cX1_copyFrom 26 = .ok (.getfield 19, 3) := by decide +kernel
theorem dX1_copyFrom_29 : decode cX1_copyFrom 29 = .ok (.putfield 19, 3) := by decide +kernel
theorem dX1_copyFrom_32 : decode cX1_copyFrom 32 = .ok (.aload_n 0, 1) := by decide +kernel
theorem dX1_copyFrom_33 : decode cX1_copyFrom 33 = .ok (.aload_n 1, 1) := by decide +kernel
theorem dX1_copyFrom_34 : decode cX1_copyFrom 34 = .ok (.getfield 22, 3) := by decide +kernel
theorem dX1_copyFrom_37 : decode cX1_copyFrom 37 = .ok (.putfield 22, 3) := by decide +kernel
theorem dX1_copyFrom_40 : decode cX1_copyFrom 40 = .ok (.aload_n 0, 1) := by decide +kernel
theorem dX1_copyFrom_41 : decode cX1_copyFrom 41 = .ok (.aload_n 1, 1) := by decide +kernel
theorem dX1_copyFrom_42 : decode cX1_copyFrom 42 = .ok (.getfield 25, 3) := by decide +kernel
theorem dX1_copyFrom_45 : decode cX1_copyFrom 45 = .ok (.putfield 25, 3) := by decide +kernel
theorem dX1_copyFrom_48 : decode cX1_copyFrom 48 = .ok (.return_, 1) := by decide +kernel
theorem dX1_mayDrive_0 : decode cX1_mayDrive 0 = .ok (.aload_n 0, 1) := by decide +kernel
theorem dX1_mayDrive_1 : decode cX1_mayDrive 1 = .ok (.getfield 7, 3) := by decide +kernel
theorem dX1_mayDrive_4 : decode cX1_mayDrive 4 = .ok (.iload_n 1, 1) := by decide +kernel
theorem dX1_mayDrive_5 : decode cX1_mayDrive 5 = .ok (.ishr, 1) := by decide +kernel
theorem dX1_mayDrive_6 : decode cX1_mayDrive 6 = .ok (.iconst 1, 1) := by decide +kernel
theorem dX1_mayDrive_7 : decode cX1_mayDrive 7 = .ok (.iand, 1) := by decide +kernel
theorem dX1_mayDrive_8 : decode cX1_mayDrive 8 = .ok (.iconst 1, 1) := by decide +kernel
theorem dX1_mayDrive_9 : decode cX1_mayDrive 9 = .ok (.if_icmp .ne 7, 3) := by decide +kernel
theorem dX1_mayDrive_12 : decode cX1_mayDrive 12 = .ok (.iconst 1, 1) := by decide +kernel
theorem dX1_mayDrive_13 : decode cX1_mayDrive 13 = .ok (.goto 4, 3) := by decide +kernel
theorem dX1_mayDrive_16 : decode cX1_mayDrive 16 = .ok (.iconst 0, 1) := by decide +kernel
theorem dX1_mayDrive_17 : decode cX1_mayDrive 17 = .ok (.ireturn, 1) := by decide +kernel
theorem dX1_charge_0 : decode cX1_charge 0 = .ok (.aload_n 0, 1) := by decide +kernel
theorem dX1_charge_1 : decode cX1_charge 1 = .ok (.dup, 1) := by decide +kernel
theorem dX1_charge_2 : decode cX1_charge 2 = .ok (.getfield 13, 3) := by decide +kernel
theorem dX1_charge_5 : decode cX1_charge 5 = .ok (.iload_n 1, 1) := by decide +kernel
theorem dX1_charge_6 : decode cX1_charge 6 = .ok (.isub, 1) := by decide +kernel
theorem dX1_charge_7 : decode cX1_charge 7 = .ok (.putfield 13, 3) := by decide +kernel
theorem dX1_charge_10 : decode cX1_charge 10 = .ok (.aload_n 0, 1) := by decide +kernel
theorem dX1_charge_11 : decode cX1_charge 11 = .ok (.dup, 1) := by decide +kernel
theorem dX1_charge_12 : decode cX1_charge 12 = .ok (.getfield 22, 3) := by decide +kernel
theorem dX1_charge_15 : decode cX1_charge 15 = .ok (.iload_n 1, 1) := by decide +kernel
theorem dX1_charge_16 : decode cX1_charge 16 = .ok (.iadd, 1) := by decide +kernel
theorem dX1_charge_17 : decode cX1_charge 17 = .ok (.putfield 22, 3) := by decide +kernel
theorem dX1_charge_20 : decode cX1_charge 20 = .ok (.return_, 1) := by decide +kernel
theorem dX1_bearMending_0 : decode cX1_bearMending 0 = .ok (.aload_n 0, 1) := by decide +kernel
theorem dX1_bearMending_1 : decode cX1_bearMending 1 = .ok (.dup, 1) := by decide +kernel
theorem dX1_bearMending_2 : decode cX1_bearMending 2 = .ok (.getfield 13, 3) := by decide +kernel
theorem dX1_bearMending_5 : decode cX1_bearMending 5 = .ok (.iload_n 1, 1) := by decide +kernel
theorem dX1_bearMending_6 : decode cX1_bearMending 6 = .ok (.isub, 1) := by decide +kernel
theorem dX1_bearMending_7 : decode cX1_bearMending 7 = .ok (.putfield 13, 3) := by decide +kernel
theorem dX1_bearMending_10 : decode cX1_bearMending 10 = .ok (.aload_n 0, 1) := by decide +kernel
theorem dX1_bearMending_11 : decode cX1_bearMending 11 = .ok (.dup, 1) := by decide +kernel
theorem dX1_bearMending_12 : decode cX1_bearMending 12 = .ok (.getfield 25, 3) := by decide +kernel
theorem dX1_bearMending_15 : decode cX1_bearMending 15 = .ok (.iload_n 1, 1) := by decide +kernel
theorem dX1_bearMending_16 : decode cX1_bearMending 16 = .ok (.iadd, 1) := by decide +kernel
theorem dX1_bearMending_17 : decode cX1_bearMending 17 = .ok (.putfield 25, 3) := by decide +kernel
theorem dX1_bearMending_20 : decode cX1_bearMending 20 = .ok (.return_, 1) := by decide +kernel
set_option maxRecDepth 20000 in
theorem ggX2_init_X4_init : GoodIn wsX2_init wsX4_init := goodIn_r _ [10, 11, 2, 3, 12, 13, 14, 15, 16, 17, 18, 19, 20, 21, 22, 23, 24, 25, 26, 27, 28, 29, 30, 31, 32, 33, 34, 35, 36, 37, 38, 39, 42, 43, 44, 45, 46, 47, 48, 49, 50, 51, 52, 53, 54, 55, 56, 57, 58, 59, 60, 61, 62, 63, 64, 65, 66, 67, 68, 69, 70, 71, 72, 73, 74, 75, 76, 77] (by decide +kernel) (by decide +kernel)
set_option maxRecDepth 20000 in
theorem gX2_init_X4_init : GoodIn wsX2_init (wsX4_init) := ggX2_init_X4_init
theorem dX2_init_0 : decode cX2_init 0 = .ok (.aload_n 0, 1) := by decide +kernel
theorem dX2_init_1 : decode cX2_init 1 = .ok (.invokespecial 3, 3) := by decide +kernel
theorem dX2_init_4 : decode cX2_init 4 = .ok (.aload_n 0, 1) := by decide +kernel
theorem dX2_init_5 : decode cX2_init 5 = .ok (.iconst 4, 1) := by decide +kernel
theorem dX2_init_6 : decode cX2_init 6 = .ok (.anewarray 9, 3) := by decide +kernel
theorem dX2_init_9 : decode cX2_init 9 = .ok (.putfield 11, 3) := by decide +kernel
theorem dX2_init_12 : decode cX2_init 12 = .ok (.iconst 0, 1) := by decide +kernel
theorem dX2_init_13 : decode cX2_init 13 = .ok (.istore_n 1, 1) := by decide +kernel
theorem dX2_init_14 : decode cX2_init 14 = .ok (.iload_n 1, 1) := by decide +kernel
theorem dX2_init_15 : decode cX2_init 15 = .ok (.aload_n 0, 1) := by decide +kernel
theorem dX2_init_16 : decode cX2_init 16 = .ok (.getfield 11, 3) := by decide +kernel
theorem dX2_init_19 : decode cX2_init 19 = .ok (.arraylength, 1) := by decide +kernel
theorem dX2_init_20 : decode cX2_init 20 = .ok (.if_icmp .ge 22, 3) := by decide +kernel
theorem dX2_init_23 : decode cX2_init 23 = .ok (.aload_n 0, 1) := by decide +kernel
theorem dX2_init_24 : decode cX2_init 24 = .ok (.getfield 11, 3) := by decide +kernel
theorem dX2_init_27 : decode cX2_init 27 = .ok (.iload_n 1, 1) := by decide +kernel
theorem dX2_init_28 : decode cX2_init 28 = .ok (.new 9, 3) := by decide +kernel
theorem dX2_init_31 : decode cX2_init 31 = .ok (.dup, 1) := by decide +kernel
theorem dX2_init_32 : decode cX2_init 32 = .ok (.invokespecial 17, 3) := by decide +kernel
theorem dX2_init_35 : decode cX2_init 35 = .ok (.aastore, 1) := by decide +kernel
theorem dX2_init_36 : decode cX2_init 36 = .ok (.iinc 1 1, 3) := by decide +kernel
theorem dX2_init_39 : decode cX2_init 39 = .ok (.goto (-25), 3) := by decide +kernel
theorem dX2_init_42 : decode cX2_init 42 = .ok (.return_, 1) := by decide +kernel
theorem dX2_stateAt_0 : decode cX2_stateAt 0 = .ok (.iload_n 1, 1) := by decide +kernel
theorem dX2_stateAt_1 : decode cX2_stateAt 1 = .ok (.ifCond .lt 21, 3) := by decide +kernel
theorem dX2_stateAt_4 : decode cX2_stateAt 4 = .ok (.iload_n 1, 1) := by decide +kernel
theorem dX2_stateAt_5 : decode cX2_stateAt 5 = .ok (.aload_n 0, 1) := by decide +kernel
theorem dX2_stateAt_6 : decode cX2_stateAt 6 = .ok (.getfield 11, 3) := by decide +kernel
theorem dX2_stateAt_9 : decode cX2_stateAt 9 = .ok (.arraylength, 1) := by decide +kernel
theorem dX2_stateAt_10 : decode cX2_stateAt 10 = .ok (.if_icmp .ge 12, 3) := by decide +kernel
theorem dX2_stateAt_13 : decode cX2_stateAt 13 = .ok (.aload_n 0, 1) := by decide +kernel
theorem dX2_stateAt_14 : decode cX2_stateAt 14 = .ok (.getfield 11, 3) := by decide +kernel
theorem dX2_stateAt_17 : decode cX2_stateAt 17 = .ok (.iload_n 1, 1) := by decide +kernel
theorem dX2_stateAt_18 : decode cX2_stateAt 18 = .ok (.aaload, 1) := by decide +kernel
theorem dX2_stateAt_19 : decode cX2_stateAt 19 = .ok (.goto 4, 3) := by decide +kernel
theorem dX2_stateAt_22 : decode cX2_stateAt 22 = .ok (.aconst_null, 1) := by decide +kernel
theorem dX2_stateAt_23 : decode cX2_stateAt 23 = .ok (.areturn, 1) := by decide +kernel
set_option maxRecDepth 20000 in
theorem ggX2_push_X2_dropOldest : GoodIn wsX2_push wsX2_dropOldest := goodIn_r _ [7, 2, 1, 88, 89] (by decide +kernel) (by decide +kernel)
set_option maxRecDepth 20000 in
theorem gX2_push_X2_dropOldest : GoodIn wsX2_push (wsV RX2 22 RX2 yX2_dropOldest wsX2_dropOldest) := goodIn_app (goodIn_of _ (by decide +kernel)) ggX2_push_X2_dropOldest
set_option maxRecDepth 20000 in
theorem ggX2_push_X2_stateAt : GoodIn wsX2_push wsX2_stateAt := goodIn_r _ [11, 2, 88, 89] (by decide +kernel) (by decide +kernel)
set_option maxRecDepth 20000 in
theorem gX2_push_X2_stateAt : GoodIn wsX2_push (wsV RX2 25 RX2 yX2_stateAt wsX2_stateAt) := goodIn_app (goodIn_of _ (by decide +kernel)) ggX2_push_X2_stateAt
set_option maxRecDepth 20000 in
theorem ggX2_push_X4_copyFrom : GoodIn wsX2_push wsX4_copyFrom := goodIn_r _ [16, 17, 18, 19, 20, 21, 15, 22, 23, 24, 25, 26, 27, 28, 29, 30, 31, 32, 33, 34, 35, 36, 37, 38, 39, 40, 41, 42, 43, 44, 45, 46, 47, 48, 49, 50, 51, 52, 53, 54, 55, 56, 57, 58, 59, 60, 61, 62, 63, 64, 65, 66, 67, 68, 69, 70, 71, 72, 73, 74, 75, 76, 77, 78, 79, 80, 81, 82, 83, 84, 85, 86, 87, 90, 91, 92, 93, 94, 95, 96, 97, 98, 99, 100, 101, 102, 103, 104, 105, 106, 107, 108, 109, 110, 111, 112, 113, 114, 115, 116, 117, 118, 119, 120, 121, 122, 123, 124, 125] (by decide +kernel) (by decide +kernel)
set_option maxRecDepth 20000 in
theorem gX2_push_X4_copyFrom : GoodIn wsX2_push (wsV RX2 29 RX4 yX4_copyFrom wsX4_copyFrom) := goodIn_app (goodIn_of _ (by decide +kernel)) ggX2_push_X4_copyFrom
theorem dX2_push_0 : decode cX2_push 0 = .ok (.aload_n 0, 1) := by decide +kernel
theorem dX2_push_1 : decode cX2_push 1 = .ok (.getfield 18, 3) := by decide +kernel
theorem dX2_push_4 : decode cX2_push 4 = .ok (.aload_n 0, 1) := by decide +kernel
theorem dX2_push_5 : decode cX2_push 5 = .ok (.getfield 11, 3) := by decide +kernel
theorem dX2_push_8 : decode cX2_push 8 = .ok (.arraylength, 1) := by decide +kernel
theorem dX2_push_9 : decode cX2_push 9 = .ok (.if_icmp .lt 7, 3) := by decide +kernel
theorem dX2_push_12 : decode cX2_push 12 = .ok (.aload_n 0, 1) := by decide +kernel
theorem dX2_push_13 : decode cX2_push 13 = .ok (.invokevirtual 22, 3) := by decide +kernel
theorem dX2_push_16 : decode cX2_push 16 = .ok (.aload_n 0, 1) := by decide +kernel
theorem dX2_push_17 : decode cX2_push 17 = .ok (.aload_n 0, 1) := by decide +kernel
theorem dX2_push_18 : decode cX2_push 18 = .ok (.getfield 18, 3) := by decide +kernel
theorem dX2_push_21 : decode cX2_push 21 = .ok (.invokevirtual 25, 3) := by decide +kernel
theorem dX2_push_24 : decode cX2_push 24 = .ok (.astore_n 2, 1) := by decide +kernel
theorem dX2_push_25 : decode cX2_push 25 = .ok (.aload_n 2, 1) := by decide +kernel
theorem dX2_push_26 : decode cX2_push 26 = .ok (.ifnull 18, 3) := by decide +kernel
theorem dX2_push_29 : decode cX2_push 29 = .ok (.aload_n 2, 1) := by decide +kernel
theorem dX2_push_30 : decode cX2_push 30 = .ok (.aload_n 1, 1) := by decide +kernel
theorem dX2_push_31 : decode cX2_push 31 = .ok (.invokevirtual 29, 3) := by decide +kernel
theorem dX2_push_34 : decode cX2_push 34 = .ok (.aload_n 0, 1) := by decide +kernel
theorem dX2_push_35 : decode cX2_push 35 = .ok (.dup, 1) := by decide +kernel
theorem dX2_push_36 : decode cX2_push 36 = .ok (.getfield 18, 3) := by decide +kernel
theorem dX2_push_39 : decode cX2_push 39 = .ok (.iconst 1, 1) := by decide +kernel
theorem dX2_push_40 : decode cX2_push 40 = .ok (.iadd, 1) := by decide +kernel
theorem dX2_push_41 : decode cX2_push 41 = .ok (.putfield 18, 3) := by decide +kernel
theorem dX2_push_44 : decode cX2_push 44 = .ok (.return_, 1) := by decide +kernel
theorem dX2_dropOldest_0 : decode cX2_dropOldest 0 = .ok (.iconst 1, 1) := by decide +kernel
theorem dX2_dropOldest_1 : decode cX2_dropOldest 1 = .ok (.istore_n 1, 1) := by decide +kernel
theorem dX2_dropOldest_2 : decode cX2_dropOldest 2 = .ok (.iload_n 1, 1) := by decide +kernel
theorem dX2_dropOldest_3 : decode cX2_dropOldest 3 = .ok (.aload_n 0, 1) := by decide +kernel
theorem dX2_dropOldest_4 : decode cX2_dropOldest 4 = .ok (.getfield 11, 3) := by decide +kernel
theorem dX2_dropOldest_7 : decode cX2_dropOldest 7 = .ok (.arraylength, 1) := by decide +kernel
theorem dX2_dropOldest_8 : decode cX2_dropOldest 8 = .ok (.if_icmp .ge 39, 3) := by decide +kernel
theorem dX2_dropOldest_11 : decode cX2_dropOldest 11 = .ok (.aload_n 0, 1) := by decide +kernel
theorem dX2_dropOldest_12 : decode cX2_dropOldest 12 = .ok (.getfield 11, 3) := by decide +kernel
theorem dX2_dropOldest_15 : decode cX2_dropOldest 15 = .ok (.iload_n 1, 1) := by decide +kernel
theorem dX2_dropOldest_16 : decode cX2_dropOldest 16 = .ok (.iconst 1, 1) := by decide +kernel
theorem dX2_dropOldest_17 : decode cX2_dropOldest 17 = .ok (.isub, 1) := by decide +kernel
theorem dX2_dropOldest_18 : decode cX2_dropOldest 18 = .ok (.aaload, 1) := by decide +kernel
theorem dX2_dropOldest_19 : decode cX2_dropOldest 19 = .ok (.astore_n 2, 1) := by decide +kernel
theorem dX2_dropOldest_20 : decode cX2_dropOldest 20 = .ok (.aload_n 0, 1) := by decide +kernel
theorem dX2_dropOldest_21 : decode cX2_dropOldest 21 = .ok (.getfield 11, 3) := by decide +kernel
theorem dX2_dropOldest_24 : decode cX2_dropOldest 24 = .ok (.iload_n 1, 1) := by decide +kernel
theorem dX2_dropOldest_25 : decode cX2_dropOldest 25 = .ok (.iconst 1, 1) := by decide +kernel
theorem dX2_dropOldest_26 : decode cX2_dropOldest 26 = .ok (.isub, 1) := by decide +kernel
theorem dX2_dropOldest_27 : decode cX2_dropOldest 27 = .ok (.aload_n 0, 1) := by decide +kernel
theorem dX2_dropOldest_28 : decode cX2_dropOldest 28 = .ok (.getfield 11, 3) := by decide +kernel
theorem dX2_dropOldest_31 : decode cX2_dropOldest 31 = .ok (.iload_n 1, 1) := by decide +kernel
theorem dX2_dropOldest_32 : decode cX2_dropOldest 32 = .ok (.aaload, 1) := by decide +kernel
theorem dX2_dropOldest_33 : decode cX2_dropOldest 33 = .ok (.aastore, 1) := by decide +kernel
theorem dX2_dropOldest_34 : decode cX2_dropOldest 34 = .ok (.aload_n 0, 1) := by decide +kernel
theorem dX2_dropOldest_35 : decode cX2_dropOldest 35 = .ok (.getfield 11, 3) := by decide +kernel
theorem dX2_dropOldest_38 : decode cX2_dropOldest 38 = .ok (.iload_n 1, 1) := by decide +kernel
theorem dX2_dropOldest_39 : decode cX2_dropOldest 39 = .ok (.aload_n 2, 1) := by decide +kernel
theorem dX2_dropOldest_40 : decode cX2_dropOldest 40 = .ok (.aastore, 1) := by decide +kernel
theorem dX2_dropOldest_41 : decode cX2_dropOldest 41 = .ok (.iinc 1 1, 3) := by decide +kernel
theorem dX2_dropOldest_44 : decode cX2_dropOldest 44 = .ok (.goto (-42), 3) := by decide +kernel
theorem dX2_dropOldest_47 : decode cX2_dropOldest 47 = .ok (.aload_n 0, 1) := by decide +kernel
theorem dX2_dropOldest_48 : decode cX2_dropOldest 48 = .ok (.dup, 1) := by decide +kernel
theorem dX2_dropOldest_49 : decode cX2_dropOldest 49 = .ok (.getfield 18, 3) := by decide +kernel
theorem dX2_dropOldest_52 : decode cX2_dropOldest 52 = .ok (.iconst 1, 1) := by decide +kernel
theorem dX2_dropOldest_53 : decode cX2_dropOldest 53 = .ok (.isub, 1) := by decide +kernel
theorem dX2_dropOldest_54 : decode cX2_dropOldest 54 = .ok (.putfield 18, 3) := by decide +kernel
theorem dX2_dropOldest_57 : decode cX2_dropOldest 57 = .ok (.return_, 1) := by decide +kernel
set_option maxRecDepth 20000 in
theorem ggX2_takeLatest_X2_stateAt : GoodIn wsX2_takeLatest wsX2_stateAt := goodIn_r _ [6, 7, 8, 9] (by decide +kernel) (by decide +kernel)
set_option maxRecDepth 20000 in
theorem gX2_takeLatest_X2_stateAt : GoodIn wsX2_takeLatest (wsV RX2 25 RX2 yX2_stateAt wsX2_stateAt) := goodIn_app (goodIn_of _ (by decide +kernel)) ggX2_takeLatest_X2_stateAt
theorem dX2_takeLatest_0 : decode cX2_takeLatest 0 = .ok (.aload_n 0, 1) := by decide +kernel
theorem dX2_takeLatest_1 : decode cX2_takeLatest 1 = .ok (.aload_n 0, 1) := by decide +kernel
theorem dX2_takeLatest_2 : decode cX2_takeLatest 2 = .ok (.getfield 18, 3) := by decide +kernel
theorem dX2_takeLatest_5 : decode cX2_takeLatest 5 = .ok (.iconst 1, 1) := by decide +kernel
theorem dX2_takeLatest_6 : decode cX2_takeLatest 6 = .ok (.isub, 1) := by decide +kernel
theorem dX2_takeLatest_7 : decode cX2_takeLatest 7 = .ok (.invokevirtual 25, 3) := by decide +kernel
theorem dX2_takeLatest_10 : decode cX2_takeLatest 10 = .ok (.astore_n 1, 1) := by decide +kernel
theorem dX2_takeLatest_11 : decode cX2_takeLatest 11 = .ok (.aload_n 1, 1) := by decide +kernel
theorem dX2_takeLatest_12 : decode cX2_takeLatest 12 = .ok (.ifnull 13, 3) := by decide +kernel
theorem dX2_takeLatest_15 : decode cX2_takeLatest 15 = .ok (.aload_n 0, 1) := by decide +kernel
theorem dX2_takeLatest_16 : decode cX2_takeLatest 16 = .ok (.dup, 1) := by decide +kernel
theorem dX2_takeLatest_17 : decode cX2_takeLatest 17 = .ok (.getfield 18, 3) := by decide +kernel
theorem dX2_takeLatest_20 : decode cX2_takeLatest 20 = .ok (.iconst 1, 1) := by decide +kernel
theorem dX2_takeLatest_21 : decode cX2_takeLatest 21 = .ok (.isub, 1) := by decide +kernel
theorem dX2_takeLatest_22 : decode cX2_takeLatest 22 = .ok (.putfield 18, 3) := by decide +kernel
theorem dX2_takeLatest_25 : decode cX2_takeLatest 25 = .ok (.aload_n 1, 1) := by decide +kernel
theorem dX2_takeLatest_26 : decode cX2_takeLatest 26 = .ok (.areturn, 1) := by decide +kernel
theorem dX3_init_0 : decode cX3_init 0 = .ok (.aload_n 0, 1) := by decide +kernel
theorem dX3_init_1 : decode cX3_init 1 = .ok (.invokespecial 3, 3) := by decide +kernel
theorem dX3_init_4 : decode cX3_init 4 = .ok (.aload_n 0, 1) := by decide +kernel
theorem dX3_init_5 : decode cX3_init 5 = .ok (.bipush 6, 2) := by decide +kernel
theorem dX3_init_7 : decode cX3_init 7 = .ok (.newarray .int, 2) := by decide +kernel
theorem dX3_init_9 : decode cX3_init 9 = .ok (.putfield 9, 3) := by decide +kernel
theorem dX3_init_12 : decode cX3_init 12 = .ok (.return_, 1) := by decide +kernel
set_option maxRecDepth 20000 in
theorem ggX3_begin_X3_forgetHours : GoodIn wsX3_begin wsX3_forgetHours := goodIn_r _ [12, 13, 14, 15, 16, 17, 18, 19, 20, 21] (by decide +kernel) (by decide +kernel)
set_option maxRecDepth 20000 in
theorem gX3_begin_X3_forgetHours : GoodIn wsX3_begin (wsV RX3 39 RX3 yX3_forgetHours wsX3_forgetHours) := goodIn_app (goodIn_of _ (by decide +kernel)) ggX3_begin_X3_forgetHours
theorem dX3_begin_0 : decode cX3_begin 0 = .ok (.aload_n 0, 1) := by decide +kernel
theorem dX3_begin_1 : decode cX3_begin 1 = .ok (.iload_n 1, 1) := by decide +kernel
theorem dX3_begin_2 : decode cX3_begin 2 = .ok (.putfield 15, 3) := by decide +kernel
theorem dX3_begin_5 : decode cX3_begin 5 = .ok (.aload_n 0, 1) := by decide +kernel
theorem dX3_begin_6 : decode cX3_begin 6 = .ok (.iload_n 2, 1) := by decide +kernel
theorem dX3_begin_7 : decode cX3_begin 7 = .ok (.putfield 19, 3) := by decide +kernel
theorem dX3_begin_10 : decode cX3_begin 10 = .ok (.aload_n 0, 1) := by decide +kernel
theorem dX3_begin_11 : decode cX3_begin 11 = .ok (.iload_n 3, 1) := by decide +kernel
theorem dX3_begin_12 : decode cX3_begin 12 = .ok (.putfield 22, 3) := by decide +kernel
theorem dX3_begin_15 : decode cX3_begin 15 = .ok (.aload_n 0, 1) := by decide +kernel
theorem dX3_begin_16 : decode cX3_begin 16 = .ok (.fconst 0, 1) := by decide +kernel
theorem dX3_begin_17 : decode cX3_begin 17 = .ok (.putfield 25, 3) := by decide +kernel
theorem dX3_begin_20 : decode cX3_begin 20 = .ok (.aload_n 0, 1) := by decide +kernel
theorem dX3_begin_21 : decode cX3_begin 21 = .ok (.iconst 0, 1) := by decide +kernel
theorem dX3_begin_22 : decode cX3_begin 22 = .ok (.putfield 29, 3) := by decide +kernel
theorem dX3_begin_25 : decode cX3_begin 25 = .ok (.aload_n 0, 1) := by decide +kernel
theorem dX3_begin_26 : decode cX3_begin 26 = .ok (.iconst 0, 1) := by decide +kernel
theorem dX3_begin_27 : decode cX3_begin 27 = .ok (.putfield 33, 3) := by decide +kernel
theorem dX3_begin_30 : decode cX3_begin 30 = .ok (.aload_n 0, 1) := by decide +kernel
theorem dX3_begin_31 : decode cX3_begin 31 = .ok (.iconst 0, 1) := by decide +kernel
theorem dX3_begin_32 : decode cX3_begin 32 = .ok (.putfield 36, 3) := by decide +kernel
theorem dX3_begin_35 : decode cX3_begin 35 = .ok (.aload_n 0, 1) := by decide +kernel
theorem dX3_begin_36 : decode cX3_begin 36 = .ok (.invokevirtual 39, 3) := by decide +kernel
theorem dX3_begin_39 : decode cX3_begin 39 = .ok (.return_, 1) := by decide +kernel
set_option maxRecDepth 20000 in
theorem ggX3_copyFrom_X3_hoursOf : GoodIn wsX3_copyFrom wsX3_hoursOf := goodIn_r _ [13, 8, 14, 15, 16, 17, 18, 19, 20, 21] (by decide +kernel) (by decide +kernel)
set_option maxRecDepth 20000 in
theorem gX3_copyFrom_X3_hoursOf : GoodIn wsX3_copyFrom (wsV RX3 42 RX3 yX3_hoursOf wsX3_hoursOf) := goodIn_app (goodIn_of _ (by decide +kernel)) ggX3_copyFrom_X3_hoursOf
theorem dX3_copyFrom_0 : decode cX3_copyFrom 0 = .ok (.aload_n 0, 1) := by decide +kernel
theorem dX3_copyFrom_1 : decode cX3_copyFrom 1 = .ok (.aload_n 1, 1) := by decide +kernel
theorem dX3_copyFrom_2 : decode cX3_copyFrom 2 = .ok (.getfield 15, 3) := by decide +kernel
theorem dX3_copyFrom_5 : decode cX3_copyFrom 5 = .ok (.putfield 15, 3) := by decide +kernel
theorem dX3_copyFrom_8 : decode cX3_copyFrom 8 = .ok (.aload_n 0, 1) := by decide +kernel
theorem dX3_copyFrom_9 : decode cX3_copyFrom 9 = .ok (.aload_n 1, 1) := by decide +kernel
theorem dX3_copyFrom_10 : decode cX3_copyFrom 10 = .ok (.getfield 19, 3) := by decide +kernel
theorem dX3_copyFrom_13 : decode cX3_copyFrom 13 = .ok (.putfield 19, 3) := by decide +kernel
theorem dX3_copyFrom_16 : decode cX3_copyFrom 16 = .ok (.aload_n 0, 1) := by decide +kernel
theorem dX3_copyFrom_17 : decode cX3_copyFrom 17 = .ok (.aload_n 1, 1) := by decide +kernel
theorem dX3_copyFrom_18 : decode cX3_copyFrom 18 = .ok (.getfield 22, 3) := by decide +kernel
theorem dX3_copyFrom_21 : decode cX3_copyFrom 21 = .ok (.putfield 22, 3) := by decide +kernel
theorem dX3_copyFrom_24 : decode cX3_copyFrom 24 = .ok (.aload_n 0, 1) := by decide +kernel
theorem dX3_copyFrom_25 : decode cX3_copyFrom 25 = .ok (.aload_n 1, 1) := by decide +kernel
theorem dX3_copyFrom_26 : decode cX3_copyFrom 26 = .ok (.getfield 25, 3) := by decide +kernel
theorem dX3_copyFrom_29 : decode cX3_copyFrom 29 = .ok (.putfield 25, 3) := by decide +kernel
theorem dX3_copyFrom_32 : decode cX3_copyFrom 32 = .ok (.aload_n 0, 1) := by decide +kernel
theorem dX3_copyFrom_33 : decode cX3_copyFrom 33 = .ok (.aload_n 1, 1) := by decide +kernel
theorem dX3_copyFrom_34 : decode cX3_copyFrom 34 = .ok (.getfield 29, 3) := by decide +kernel
theorem dX3_copyFrom_37 : decode cX3_copyFrom 37 = .ok (.putfield 29, 3) := by decide +kernel
theorem dX3_copyFrom_40 : decode cX3_copyFrom 40 = .ok (.aload_n 0, 1) := by decide +kernel
theorem dX3_copyFrom_41 : decode cX3_copyFrom 41 = .ok (.aload_n 1, 1) := by decide +kernel
theorem dX3_copyFrom_42 : decode cX3_copyFrom 42 = .ok (.getfield 33, 3) := by decide +kernel
theorem dX3_copyFrom_45 : decode cX3_copyFrom 45 = .ok (.putfield 33, 3) := by decide +kernel
theorem dX3_copyFrom_48 : decode cX3_copyFrom 48 = .ok (.aload_n 0, 1) := by decide +kernel
theorem dX3_copyFrom_49 : decode cX3_copyFrom 49 = .ok (.aload_n 1, 1) := by decide +kernel
theorem dX3_copyFrom_50 : decode cX3_copyFrom 50 = .ok (.getfield 36, 3) := by decide +kernel
theorem dX3_copyFrom_53 : decode cX3_copyFrom 53 = .ok (.putfield 36, 3) := by decide +kernel
theorem dX3_copyFrom_56 : decode cX3_copyFrom 56 = .ok (.iconst 0, 1) := by decide +kernel
theorem dX3_copyFrom_57 : decode cX3_copyFrom 57 = .ok (.istore_n 2, 1) := by decide +kernel
theorem dX3_copyFrom_58 : decode cX3_copyFrom 58 = .ok (.iload_n 2, 1) := by decide +kernel
theorem dX3_copyFrom_59 : decode cX3_copyFrom 59 = .ok (.aload_n 0, 1) := by decide +kernel
theorem dX3_copyFrom_60 : decode cX3_copyFrom 60 = .ok (.getfield 9, 3) := by decide +kernel
theorem dX3_copyFrom_63 : decode cX3_copyFrom 63 = .ok (.arraylength, 1) := by decide +kernel
theorem dX3_copyFrom_64 : decode cX3_copyFrom 64 = .ok (.if_icmp .ge 20, 3) := by decide +kernel
theorem dX3_copyFrom_67 : decode cX3_copyFrom 67 = .ok (.aload_n 0, 1) := by decide +kernel
theorem dX3_copyFrom_68 : decode cX3_copyFrom 68 = .ok (.getfield 9, 3) := by decide +kernel
theorem dX3_copyFrom_71 : decode cX3_copyFrom 71 = .ok (.iload_n 2, 1) := by decide +kernel
theorem dX3_copyFrom_72 : decode cX3_copyFrom 72 = .ok (.aload_n 1, 1) := by decide +kernel
theorem dX3_copyFrom_73 : decode cX3_copyFrom 73 = .ok (.iload_n 2, 1) := by decide +kernel
theorem dX3_copyFrom_74 : decode cX3_copyFrom 74 = .ok (.invokevirtual 42, 3) := by decide +kernel
theorem dX3_copyFrom_77 : decode cX3_copyFrom 77 = .ok (.iastore, 1) := by decide +kernel
theorem dX3_copyFrom_78 : decode cX3_copyFrom 78 = .ok (.iinc 2 1, 3) := by decide +kernel
theorem dX3_copyFrom_81 : decode cX3_copyFrom 81 = .ok (.goto (-23), 3) := by decide +kernel
theorem dX3_copyFrom_84 : decode cX3_copyFrom 84 = .ok (.return_, 1) := by decide +kernel
theorem dX3_forgetHours_0 : decode cX3_forgetHours 0 = .ok (.iconst 0, 1) := by decide +kernel
theorem dX3_forgetHours_1 : decode cX3_forgetHours 1 = .ok (.istore_n 1, 1) := by decide +kernel
theorem dX3_forgetHours_2 : decode cX3_forgetHours 2 = .ok (.iload_n 1, 1) := by decide +kernel
theorem dX3_forgetHours_3 : decode cX3_forgetHours 3 = .ok (.aload_n 0, 1) := by decide +kernel
theorem dX3_forgetHours_4 : decode cX3_forgetHours 4 = .ok (.getfield 9, 3) := by decide +kernel
theorem dX3_forgetHours_7 : decode cX3_forgetHours 7 = .ok (.arraylength, 1) := by decide +kernel
theorem dX3_forgetHours_8 : decode cX3_forgetHours 8 = .ok (.if_icmp .ge 16, 3) := by decide +kernel
theorem dX3_forgetHours_11 : decode cX3_forgetHours 11 = .ok (.aload_n 0, 1) := by decide +kernel
theorem dX3_forgetHours_12 : decode cX3_forgetHours 12 = .ok (.getfield 9, 3) := by decide +kernel
theorem dX3_forgetHours_15 : decode cX3_forgetHours 15 = .ok (.iload_n 1, 1) := by decide +kernel
theorem dX3_forgetHours_16 : decode cX3_forgetHours 16 = .ok (.iconst 0, 1) := by decide +kernel
theorem dX3_forgetHours_17 : decode cX3_forgetHours 17 = .ok (.iastore, 1) := by decide +kernel
theorem dX3_forgetHours_18 : decode cX3_forgetHours 18 = .ok (.iinc 1 1, 3) := by decide +kernel
theorem dX3_forgetHours_21 : decode cX3_forgetHours 21 = .ok (.goto (-19), 3) := by decide +kernel
theorem dX3_forgetHours_24 : decode cX3_forgetHours 24 = .ok (.return_, 1) := by decide +kernel
theorem dX3_hoursOf_0 : decode cX3_hoursOf 0 = .ok (.iload_n 1, 1) := by decide +kernel
theorem dX3_hoursOf_1 : decode cX3_hoursOf 1 = .ok (.ifCond .lt 21, 3) := by decide +kernel
theorem dX3_hoursOf_4 : decode cX3_hoursOf 4 = .ok (.iload_n 1, 1) := by decide +kernel
theorem dX3_hoursOf_5 : decode cX3_hoursOf 5 = .ok (.aload_n 0, 1) := by decide +kernel
theorem dX3_hoursOf_6 : decode cX3_hoursOf 6 = .ok (.getfield 9, 3) := by decide +kernel
theorem dX3_hoursOf_9 : decode cX3_hoursOf 9 = .ok (.arraylength, 1) := by decide +kernel
theorem dX3_hoursOf_10 : decode cX3_hoursOf 10 = .ok (.if_icmp .ge 12, 3) := by decide +kernel
theorem dX3_hoursOf_13 : decode cX3_hoursOf 13 = .ok (.aload_n 0, 1) := by decide +kernel
theorem dX3_hoursOf_14 : decode cX3_hoursOf 14 = .ok (.getfield 9, 3) := by decide +kernel
theorem dX3_hoursOf_17 : decode cX3_hoursOf 17 = .ok (.iload_n 1, 1) := by decide +kernel
theorem dX3_hoursOf_18 : decode cX3_hoursOf 18 = .ok (.iaload, 1) := by decide +kernel
theorem dX3_hoursOf_19 : decode cX3_hoursOf 19 = .ok (.goto 4, 3) := by decide +kernel
theorem dX3_hoursOf_22 : decode cX3_hoursOf 22 = .ok (.iconst 0, 1) := by decide +kernel
theorem dX3_hoursOf_23 : decode cX3_hoursOf 23 = .ok (.ireturn, 1) := by decide +kernel
theorem dX3_hoursSinceMended_0 : decode cX3_hoursSinceMended 0 = .ok (.iconst 0, 1) := by decide +kernel
theorem dX3_hoursSinceMended_1 : decode cX3_hoursSinceMended 1 = .ok (.istore_n 1, 1) := by decide +kernel
theorem dX3_hoursSinceMended_2 : decode cX3_hoursSinceMended 2 = .ok (.iconst 0, 1) := by decide +kernel
theorem dX3_hoursSinceMended_3 : decode cX3_hoursSinceMended 3 = .ok (.istore_n 2, 1) := by decide +kernel
theorem dX3_hoursSinceMended_4 : decode cX3_hoursSinceMended 4 = .ok (.iload_n 2, 1) := by decide +kernel
theorem dX3_hoursSinceMended_5 : decode cX3_hoursSinceMended 5 = .ok (.aload_n 0, 1) := by decide +kernel
theorem dX3_hoursSinceMended_6 : decode cX3_hoursSinceMended 6 = .ok (.getfield 9, 3) := by decide +kernel
theorem dX3_hoursSinceMended_9 : decode cX3_hoursSinceMended 9 = .ok (.arraylength, 1) := by decide +kernel
theorem dX3_hoursSinceMended_10 : decode cX3_hoursSinceMended 10 = .ok (.if_icmp .ge 18, 3) := by decide +kernel
theorem dX3_hoursSinceMended_13 : decode cX3_hoursSinceMended 13 = .ok (.iload_n 1, 1) := by decide +kernel
theorem dX3_hoursSinceMended_14 : decode cX3_hoursSinceMended 14 = .ok (.aload_n 0, 1) := by decide +kernel
theorem dX3_hoursSinceMended_15 : decode cX3_hoursSinceMended 15 = .ok (.getfield 9, 3) := by decide +kernel
theorem dX3_hoursSinceMended_18 : decode cX3_hoursSinceMended 18 = .ok (.iload_n 2, 1) := by decide +kernel
theorem dX3_hoursSinceMended_19 : decode cX3_hoursSinceMended 19 = .ok (.iaload, 1) := by decide +kernel
theorem dX3_hoursSinceMended_20 : decode cX3_hoursSinceMended 20 = .ok (.iadd, 1) := by decide +kernel
theorem dX3_hoursSinceMended_21 : decode cX3_hoursSinceMended 21 = .ok (.istore_n 1, 1) := by decide +kernel
theorem dX3_hoursSinceMended_22 : decode cX3_hoursSinceMended 22 = .ok (.iinc 2 1, 3) := by decide +kernel
theorem dX3_hoursSinceMended_25 : decode cX3_hoursSinceMended 25 = .ok (.goto (-21), 3) := by decide +kernel
theorem dX3_hoursSinceMended_28 : decode cX3_hoursSinceMended 28 = .ok (.iload_n 1, 1) := by decide +kernel
theorem dX3_hoursSinceMended_29 : decode cX3_hoursSinceMended 29 = .ok (.ireturn, 1) := by decide +kernel
set_option maxRecDepth 20000 in
theorem ggX3_fuelFor_X6_useOf : GoodIn wsX3_fuelFor wsX6_useOf := goodIn_r _ [4, 5, 6, 7] (by decide +kernel) (by decide +kernel)
set_option maxRecDepth 20000 in
theorem gX3_fuelFor_X6_useOf_n47 : GoodIn wsX3_fuelFor (wsX6_useOf) := ggX3_fuelFor_X6_useOf
theorem dX3_fuelFor_0 : decode cX3_fuelFor 0 = .ok (.iload_n 1, 1) := by decide +kernel
theorem dX3_fuelFor_1 : decode cX3_fuelFor 1 = .ok (.i2f, 1) := by decide +kernel
theorem dX3_fuelFor_2 : decode cX3_fuelFor 2 = .ok (.aload_n 0, 1) := by decide +kernel
theorem dX3_fuelFor_3 : decode cX3_fuelFor 3 = .ok (.getfield 15, 3) := by decide +kernel
theorem dX3_fuelFor_6 : decode cX3_fuelFor 6 = .ok (.invokestatic 47, 3) := by decide +kernel
theorem dX3_fuelFor_9 : decode cX3_fuelFor 9 = .ok (.fmul, 1) := by decide +kernel
theorem dX3_fuelFor_10 : decode cX3_fuelFor 10 = .ok (.freturn, 1) := by decide +kernel
set_option maxRecDepth 20000 in
theorem ggX3_work_X3_fuelFor : GoodIn wsX3_work wsX3_fuelFor := goodIn_r _ [9, 10, 11, 12, 13, 14, 15, 16, 21, 22, 23, 24, 25, 26, 27, 28] (by decide +kernel) (by decide +kernel)
set_option maxRecDepth 20000 in
theorem gX3_work_X3_fuelFor : GoodIn wsX3_work (wsV RX3 51 RX3 yX3_fuelFor wsX3_fuelFor) := goodIn_app (goodIn_of _ (by decide +kernel)) ggX3_work_X3_fuelFor
set_option maxRecDepth 20000 in
theorem ggX3_work_X3_hoursSinceMended : GoodIn wsX3_work wsX3_hoursSinceMended := goodIn_r _ [20, 3, 21, 22, 23, 24, 25, 26, 27, 28] (by decide +kernel) (by decide +kernel)
set_option maxRecDepth 20000 in
theorem gX3_work_X3_hoursSinceMended : GoodIn wsX3_work (wsV RX3 54 RX3 yX3_hoursSinceMended wsX3_hoursSinceMended) := goodIn_app (goodIn_of _ (by decide +kernel)) ggX3_work_X3_hoursSinceMended
theorem dX3_work_0 : decode cX3_work 0 = .ok (.aload_n 0, 1) := by decide +kernel
theorem dX3_work_1 : decode cX3_work 1 = .ok (.aload_n 0, 1) := by decide +kernel
theorem dX3_work_2 : decode cX3_work 2 = .ok (.getfield 25, 3) := by decide +kernel
theorem dX3_work_5 : decode cX3_work 5 = .ok (.aload_n 0, 1) := by decide +kernel
theorem dX3_work_6 : decode cX3_work 6 = .ok (.iload_n 2, 1) := by decide +kernel
theorem dX3_work_7 : decode cX3_work 7 = .ok (.invokevirtual 51, 3) := by decide +kernel
theorem dX3_work_10 : decode cX3_work 10 = .ok (.fsub, 1) := by decide +kernel
theorem dX3_work_11 : decode cX3_work 11 = .ok (.putfield 25, 3) := by decide +kernel
theorem dX3_work_14 : decode cX3_work 14 = .ok (.aload_n 0, 1) := by decide +kernel
theorem dX3_work_15 : decode cX3_work 15 = .ok (.dup, 1) := by decide +kernel
theorem dX3_work_16 : decode cX3_work 16 = .ok (.getfield 33, 3) := by decide +kernel
theorem dX3_work_19 : decode cX3_work 19 = .ok (.iload_n 2, 1) := by decide +kernel
theorem dX3_work_20 : decode cX3_work 20 = .ok (.iadd, 1) := by decide +kernel
theorem dX3_work_21 : decode cX3_work 21 = .ok (.putfield 33, 3) := by decide +kernel
theorem dX3_work_24 : decode cX3_work 24 = .ok (.iload_n 1, 1) := by decide +kernel
theorem dX3_work_25 : decode cX3_work 25 = .ok (.ifCond .lt 22, 3) := by decide +kernel
theorem dX3_work_28 : decode cX3_work 28 = .ok (.iload_n 1, 1) := by decide +kernel
theorem dX3_work_29 : decode cX3_work 29 = .ok (.aload_n 0, 1) := by decide +kernel
theorem dX3_work_30 : decode cX3_work 30 = .ok (.getfield 9, 3) := by decide +kernel
theorem dX3_work_33 : decode cX3_work 33 = .ok (.arraylength, 1) := by decide +kernel
theorem dX3_work_34 : decode cX3_work 34 = .ok (.if_icmp .ge 13, 3) := by decide +kernel
theorem dX3_work_37 : decode cX3_work 37 = .ok (.aload_n 0, 1) := by decide +kernel
theorem dX3_work_38 : decode cX3_work 38 = .ok (.getfield 9, 3) := by decide +kernel
theorem dX3_work_41 : decode cX3_work 41 = .ok (.iload_n 1, 1) := by decide +kernel
theorem dX3_work_42 : decode cX3_work 42 = .ok (.dup2, 1) := by decide +kernel
theorem dX3_work_43 : decode cX3_work 43 = .ok (.iaload, 1) := by decide +kernel
theorem dX3_work_44 : decode cX3_work 44 = .ok (.iload_n 2, 1) := by decide +kernel
theorem dX3_work_45 : decode cX3_work 45 = .ok (.iadd, 1) := by decide +kernel
theorem dX3_work_46 : decode cX3_work 46 = .ok (.iastore, 1) := by decide +kernel
theorem dX3_work_47 : decode cX3_work 47 = .ok (.aload_n 0, 1) := by decide +kernel
theorem dX3_work_48 : decode cX3_work 48 = .ok (.invokevirtual 54, 3) := by decide +kernel
theorem dX3_work_51 : decode cX3_work 51 = .ok (.iload_n 3, 1) := by decide +kernel
theorem dX3_work_52 : decode cX3_work 52 = .ok (.if_icmp .lt 8, 3) := by decide +kernel
theorem dX3_work_55 : decode cX3_work 55 = .ok (.aload_n 0, 1) := by decide +kernel
theorem dX3_work_56 : decode cX3_work 56 = .ok (.iconst 1, 1) := by decide +kernel
theorem dX3_work_57 : decode cX3_work 57 = .ok (.putfield 29, 3) := by decide +kernel
theorem dX3_work_60 : decode cX3_work 60 = .ok (.return_, 1) := by decide +kernel
set_option maxRecDepth 20000 in
theorem ggX4_init_X1_init : GoodIn wsX4_init wsX1_init := goodIn_r _ [20, 21, 2, 3, 22, 48, 49, 50, 51, 52, 53] (by decide +kernel) (by decide +kernel)
set_option maxRecDepth 20000 in
theorem gX4_init_X1_init : GoodIn wsX4_init (wsX1_init) := ggX4_init_X1_init
set_option maxRecDepth 20000 in
theorem ggX4_init_X3_init : GoodIn wsX4_init wsX3_init := goodIn_r _ [25, 26, 2, 3, 27, 28, 54, 55, 56, 57, 58, 59, 60, 61] (by decide +kernel) (by decide +kernel)
set_option maxRecDepth 20000 in
theorem gX4_init_X3_init : GoodIn wsX4_init (wsX3_init) := ggX4_init_X3_init
set_option maxRecDepth 20000 in
theorem ggX4_init_X0_init : GoodIn wsX4_init wsX0_init := goodIn_r _ [30, 31, 2, 3] (by decide +kernel) (by decide +kernel)
set_option maxRecDepth 20000 in
theorem gX4_init_X0_init_n31 : GoodIn wsX4_init (wsX0_init) := ggX4_init_X0_init
theorem dX4_init_0 : decode cX4_init 0 = .ok (.aload_n 0, 1) := by decide +kernel
theorem dX4_init_1 : decode cX4_init 1 = .ok (.invokespecial 3, 3) := by decide +kernel
theorem dX4_init_4 : decode cX4_init 4 = .ok (.aload_n 0, 1) := by decide +kernel
theorem dX4_init_5 : decode cX4_init 5 = .ok (.bipush 6, 2) := by decide +kernel
theorem dX4_init_7 : decode cX4_init 7 = .ok (.anewarray 9, 3) := by decide +kernel
theorem dX4_init_10 : decode cX4_init 10 = .ok (.putfield 11, 3) := by decide +kernel
theorem dX4_init_13 : decode cX4_init 13 = .ok (.iconst 0, 1) := by decide +kernel
theorem dX4_init_14 : decode cX4_init 14 = .ok (.istore_n 1, 1) := by decide +kernel
theorem dX4_init_15 : decode cX4_init 15 = .ok (.iload_n 1, 1) := by decide +kernel
theorem dX4_init_16 : decode cX4_init 16 = .ok (.aload_n 0, 1) := by decide +kernel
theorem dX4_init_17 : decode cX4_init 17 = .ok (.getfield 11, 3) := by decide +kernel
theorem dX4_init_20 : decode cX4_init 20 = .ok (.arraylength, 1) := by decide +kernel
theorem dX4_init_21 : decode cX4_init 21 = .ok (.if_icmp .ge 22, 3) := by decide +kernel
theorem dX4_init_24 : decode cX4_init 24 = .ok (.aload_n 0, 1) := by decide +kernel
theorem dX4_init_25 : decode cX4_init 25 = .ok (.getfield 11, 3) := by decide +kernel
theorem dX4_init_28 : decode cX4_init 28 = .ok (.iload_n 1, 1) := by decide +kernel
theorem dX4_init_29 : decode cX4_init 29 = .ok (.new 9, 3) := by decide +kernel
theorem dX4_init_32 : decode cX4_init 32 = .ok (.dup, 1) := by decide +kernel
theorem dX4_init_33 : decode cX4_init 33 = .ok (.invokespecial 17, 3) := by decide +kernel
theorem dX4_init_36 : decode cX4_init 36 = .ok (.aastore, 1) := by decide +kernel
theorem dX4_init_37 : decode cX4_init 37 = .ok (.iinc 1 1, 3) := by decide +kernel
theorem dX4_init_40 : decode cX4_init 40 = .ok (.goto (-25), 3) := by decide +kernel
theorem dX4_init_43 : decode cX4_init 43 = .ok (.aload_n 0, 1) := by decide +kernel
theorem dX4_init_44 : decode cX4_init 44 = .ok (.bipush 6, 2) := by decide +kernel
theorem dX4_init_46 : decode cX4_init 46 = .ok (.anewarray 18, 3) := by decide +kernel
theorem dX4_init_49 : decode cX4_init 49 = .ok (.putfield 20, 3) := by decide +kernel
theorem dX4_init_52 : decode cX4_init 52 = .ok (.iconst 0, 1) := by decide +kernel
theorem dX4_init_53 : decode cX4_init 53 = .ok (.istore_n 1, 1) := by decide +kernel
theorem dX4_init_54 : decode cX4_init 54 = .ok (.iload_n 1, 1) := by decide +kernel
theorem dX4_init_55 : decode cX4_init 55 = .ok (.aload_n 0, 1) := by decide +kernel
theorem dX4_init_56 : decode cX4_init 56 = .ok (.getfield 20, 3) := by decide +kernel
theorem dX4_init_59 : decode cX4_init 59 = .ok (.arraylength, 1) := by decide +kernel
theorem dX4_init_60 : decode cX4_init 60 = .ok (.if_icmp .ge 22, 3) := by decide +kernel
theorem dX4_init_63 : decode cX4_init 63 = .ok (.aload_n 0, 1) := by decide +kernel
theorem dX4_init_64 : decode cX4_init 64 = .ok (.getfield 20, 3) := by decide +kernel
theorem dX4_init_67 : decode cX4_init 67 = .ok (.iload_n 1, 1) := by decide +kernel
theorem dX4_init_68 : decode cX4_init 68 = .ok (.new 18, 3) := by decide +kernel
theorem dX4_init_71 : decode cX4_init 71 = .ok (.dup, 1) := by decide +kernel
theorem dX4_init_72 : decode cX4_init 72 = .ok (.invokespecial 24, 3) := by decide +kernel
theorem dX4_init_75 : decode cX4_init 75 = .ok (.aastore, 1) := by decide +kernel
theorem dX4_init_76 : decode cX4_init 76 = .ok (.iinc 1 1, 3) := by decide +kernel
theorem dX4_init_79 : decode cX4_init 79 = .ok (.goto (-25), 3) := by decide +kernel
theorem dX4_init_82 : decode cX4_init 82 = .ok (.aload_n 0, 1) := by decide +kernel
theorem dX4_init_83 : decode cX4_init 83 = .ok (.bipush 30, 2) := by decide +kernel
theorem dX4_init_85 : decode cX4_init 85 = .ok (.anewarray 25, 3) := by decide +kernel
theorem dX4_init_88 : decode cX4_init 88 = .ok (.putfield 27, 3) := by decide +kernel
theorem dX4_init_91 : decode cX4_init 91 = .ok (.iconst 0, 1) := by decide +kernel
theorem dX4_init_92 : decode cX4_init 92 = .ok (.istore_n 1, 1) := by decide +kernel
theorem dX4_init_93 : decode cX4_init 93 = .ok (.iload_n 1, 1) := by decide +kernel
theorem dX4_init_94 : decode cX4_init 94 = .ok (.aload_n 0, 1) := by decide +kernel
theorem dX4_init_95 : decode cX4_init 95 = .ok (.getfield 27, 3) := by decide +kernel
theorem dX4_init_98 : decode cX4_init 98 = .ok (.arraylength, 1) := by decide +kernel
theorem dX4_init_99 : decode cX4_init 99 = .ok (.if_icmp .ge 22, 3) := by decide +kernel
theorem dX4_init_102 : decode cX4_init 102 = .ok (.aload_n 0, 1) := by decide +kernel
theorem dX4_init_103 : decode cX4_init 103 = .ok (.getfield 27, 3) := by decide +kernel
theorem dX4_init_106 : decode cX4_init 106 = .ok (.iload_n 1, 1) := by decide +kernel
theorem dX4_init_107 : decode cX4_init 107 = .ok (.new 25, 3) := by decide +kernel
theorem dX4_init_110 : decode cX4_init 110 = .ok (.dup, 1) := by decide +kernel
theorem dX4_init_111 : decode cX4_init 111 = .ok (.invokespecial 31, 3) := by decide +kernel
theorem dX4_init_114 : decode cX4_init 114 = .ok (.aastore, 1) := by decide +kernel
theorem dX4_init_115 : decode cX4_init 115 = .ok (.iinc 1 1, 3) := by decide +kernel
theorem dX4_init_118 : decode cX4_init 118 = .ok (.goto (-25), 3) := by decide +kernel
theorem dX4_init_121 : decode cX4_init 121 = .ok (.aload_n 0, 1) := by decide +kernel
theorem dX4_init_122 : decode cX4_init 122 = .ok (.bipush 40, 2) := by decide +kernel
theorem dX4_init_124 : decode cX4_init 124 = .ok (.putfield 32, 3) := by decide +kernel
theorem dX4_init_127 : decode cX4_init 127 = .ok (.aload_n 0, 1) := by decide +kernel
theorem dX4_init_128 : decode cX4_init 128 = .ok (.sipush 300, 3) := by decide +kernel
theorem dX4_init_131 : decode cX4_init 131 = .ok (.putfield 36, 3) := by decide +kernel
theorem dX4_init_134 : decode cX4_init 134 = .ok (.return_, 1) := by decide +kernel
set_option maxRecDepth 20000 in
theorem ggX4_copyFrom_X4_copyNumbers : GoodIn wsX4_copyFrom wsX4_copyNumbers := goodIn_r _ [7, 1, 2, 8, 9, 10, 11, 12, 13, 14, 15, 16, 17, 18, 73, 74, 75, 76, 77, 78, 79, 80, 81, 82, 83, 84, 85, 86, 87, 88] (by decide +kernel) (by decide +kernel)
set_option maxRecDepth 20000 in
theorem gX4_copyFrom_X4_copyNumbers : GoodIn wsX4_copyFrom (wsV RX4 39 RX4 yX4_copyNumbers wsX4_copyNumbers) := goodIn_app (goodIn_of _ (by decide +kernel)) ggX4_copyFrom_X4_copyNumbers
set_option maxRecDepth 20000 in
theorem ggX4_copyFrom_X4_farmerAt : GoodIn wsX4_copyFrom wsX4_farmerAt := goodIn_r _ [22, 23, 73, 74, 75, 76, 77, 78, 79, 80, 81, 82, 83, 84, 85, 86, 87, 88] (by decide +kernel) (by decide +kernel)
set_option maxRecDepth 20000 in
theorem gX4_copyFrom_X4_farmerAt : GoodIn wsX4_copyFrom (wsV RX4 43 RX4 yX4_farmerAt wsX4_farmerAt) := goodIn_app (goodIn_of _ (by decide +kernel)) ggX4_copyFrom_X4_farmerAt
set_option maxRecDepth 20000 in
theorem ggX4_copyFrom_X1_copyFrom : GoodIn wsX4_copyFrom wsX1_copyFrom := goodIn_r _ [28, 29, 30, 31, 32, 33, 34, 89, 90, 91, 92, 93, 94] (by decide +kernel) (by decide +kernel)
set_option maxRecDepth 20000 in
theorem gX4_copyFrom_X1_copyFrom : GoodIn wsX4_copyFrom (wsV RX4 47 RX1 yX1_copyFrom wsX1_copyFrom) := goodIn_app (goodIn_of _ (by decide +kernel)) ggX4_copyFrom_X1_copyFrom
set_option maxRecDepth 20000 in
theorem ggX4_copyFrom_X4_machineAt : GoodIn wsX4_copyFrom wsX4_machineAt := goodIn_r _ [38, 1, 39, 73, 74, 75, 76, 77, 78, 79, 80, 81, 82, 83, 84, 85, 86, 87, 88] (by decide +kernel) (by decide +kernel)
set_option maxRecDepth 20000 in
theorem gX4_copyFrom_X4_machineAt : GoodIn wsX4_copyFrom (wsV RX4 54 RX4 yX4_machineAt wsX4_machineAt) := goodIn_app (goodIn_of _ (by decide +kernel)) ggX4_copyFrom_X4_machineAt
set_option maxRecDepth 20000 in
theorem ggX4_copyFrom_X3_copyFrom : GoodIn wsX4_copyFrom wsX3_copyFrom := goodIn_r _ [44, 45, 46, 47, 48, 49, 50, 51, 52, 53, 54, 55, 43, 56, 95, 96, 97, 98, 99, 100, 101, 102] (by decide +kernel) (by decide +kernel)
set_option maxRecDepth 20000 in
theorem gX4_copyFrom_X3_copyFrom : GoodIn wsX4_copyFrom (wsV RX4 58 RX3 yX3_copyFrom wsX3_copyFrom) := goodIn_app (goodIn_of _ (by decide +kernel)) ggX4_copyFrom_X3_copyFrom
set_option maxRecDepth 20000 in
theorem ggX4_copyFrom_X4_bookingAt : GoodIn wsX4_copyFrom wsX4_bookingAt := goodIn_r _ [60, 2, 61, 73, 74, 75, 76, 77, 78, 79, 80, 81, 82, 83, 84, 85, 86, 87, 88] (by decide +kernel) (by decide +kernel)
set_option maxRecDepth 20000 in
theorem gX4_copyFrom_X4_bookingAt : GoodIn wsX4_copyFrom (wsV RX4 64 RX4 yX4_bookingAt wsX4_bookingAt) := goodIn_app (goodIn_of _ (by decide +kernel)) ggX4_copyFrom_X4_bookingAt
set_option maxRecDepth 20000 in
theorem ggX4_copyFrom_X0_copyFrom : GoodIn wsX4_copyFrom wsX0_copyFrom := goodIn_r _ [66, 67, 68, 69, 70, 71, 72, 103, 104, 105, 106, 107, 108] (by decide +kernel) (by decide +kernel)
set_option maxRecDepth 20000 in
theorem gX4_copyFrom_X0_copyFrom : GoodIn wsX4_copyFrom (wsV RX4 68 RX0 yX0_copyFrom wsX0_copyFrom) := goodIn_app (goodIn_of _ (by decide +kernel)) ggX4_copyFrom_X0_copyFrom
theorem dX4_copyFrom_0 : decode cX4_copyFrom 0 = .ok (.aload_n 0, 1) := by decide +kernel
theorem dX4_copyFrom_1 : decode cX4_copyFrom 1 = .ok (.aload_n 1, 1) := by decide +kernel
theorem dX4_copyFrom_2 : decode cX4_copyFrom 2 = .ok (.invokevirtual 39, 3) := by decide +kernel
theorem dX4_copyFrom_5 : decode cX4_copyFrom 5 = .ok (.iconst 0, 1) := by decide +kernel
theorem dX4_copyFrom_6 : decode cX4_copyFrom 6 = .ok (.istore_n 2, 1) := by decide +kernel
theorem dX4_copyFrom_7 : decode cX4_copyFrom 7 = .ok (.iload_n 2, 1) := by decide +kernel
theorem dX4_copyFrom_8 : decode cX4_copyFrom 8 = .ok (.bipush 6, 2) := by decide +kernel
theorem dX4_copyFrom_10 : decode cX4_copyFrom 10 = .ok (.if_icmp .ge 37, 3) := by decide +kernel
theorem dX4_copyFrom_13 : decode cX4_copyFrom 13 = .ok (.aload_n 0, 1) := by decide +kernel
theorem dX4_copyFrom_14 : decode cX4_copyFrom 14 = .ok (.iload_n 2, 1) := by decide +kernel
theorem dX4_copyFrom_15 : decode cX4_copyFrom 15 = .ok (.invokevirtual 43, 3) := by decide +kernel
theorem dX4_copyFrom_18 : decode cX4_copyFrom 18 = .ok (.astore_n 3, 1) := by decide +kernel
theorem dX4_copyFrom_19 : decode cX4_copyFrom 19 = .ok (.aload_n 1, 1) := by decide +kernel
theorem dX4_copyFrom_20 : decode cX4_copyFrom 20 = .ok (.iload_n 2, 1) := by decide +kernel
theorem dX4_copyFrom_21 : decode cX4_copyFrom 21 = .ok (.invokevirtual 43, 3) := by decide +kernel
theorem dX4_copyFrom_24 : decode cX4_copyFrom 24 = .ok (.astore 4, 2) := by decide +kernel
theorem dX4_copyFrom_26 : decode cX4_copyFrom 26 = .ok (.aload_n 3, 1) := by decide +kernel
theorem dX4_copyFrom_27 : decode cX4_copyFrom 27 = .ok (.ifnull 14, 3) := by decide +kernel
theorem dX4_copyFrom_30 : decode cX4_copyFrom 30 = .ok (.aload 4, 2) := by decide +kernel
theorem dX4_copyFrom_32 : decode cX4_copyFrom 32 = .ok (.ifnull 9, 3) := by decide +kernel
theorem dX4_copyFrom_35 : decode cX4_copyFrom 35 = .ok (.aload_n 3, 1) := by decide +kernel
theorem dX4_copyFrom_36 : decode cX4_copyFrom 36 = .ok (.aload 4, 2) := by decide +kernel
theorem dX4_copyFrom_38 : decode cX4_copyFrom 38 = .ok (.invokevirtual 47, 3) := by decide +kernel
theorem dX4_copyFrom_41 : decode cX4_copyFrom 41 = .ok (.iinc 2 1, 3) := by decide +kernel
theorem dX4_copyFrom_44 : decode cX4_copyFrom 44 = .ok (.goto (-37), 3) := by decide +kernel
theorem dX4_copyFrom_47 : decode cX4_copyFrom 47 = .ok (.iconst 0, 1) := by decide +kernel
theorem dX4_copyFrom_48 : decode cX4_copyFrom 48 = .ok (.istore_n 2, 1) := by decide +kernel
theorem dX4_copyFrom_49 : decode cX4_copyFrom 49 = .ok (.iload_n 2, 1) := by decide +kernel
theorem dX4_copyFrom_50 : decode cX4_copyFrom 50 = .ok (.aload_n 0, 1) := by decide +kernel
theorem dX4_copyFrom_51 : decode cX4_copyFrom 51 = .ok (.getfield 51, 3) := by decide +kernel
theorem dX4_copyFrom_54 : decode cX4_copyFrom 54 = .ok (.if_icmp .ge 37, 3) := by decide +kernel
theorem dX4_copyFrom_57 : decode cX4_copyFrom 57 = .ok (.aload_n 0, 1) := by decide +kernel
theorem dX4_copyFrom_58 : decode cX4_copyFrom 58 = .ok (.iload_n 2, 1) := by decide +kernel
theorem dX4_copyFrom_59 : decode cX4_copyFrom 59 = .ok (.invokevirtual 54, 3) := by decide +kernel
theorem dX4_copyFrom_62 : decode cX4_copyFrom 62 = .ok (.astore_n 3, 1) := by decide +kernel
theorem dX4_copyFrom_63 : decode cX4_copyFrom 63 = .ok (.aload_n 1, 1) := by decide +kernel
theorem dX4_copyFrom_64 : decode cX4_copyFrom 64 = .ok (.iload_n 2, 1) := by decide +kernel
theorem dX4_copyFrom_65 : decode cX4_copyFrom 65 = .ok (.invokevirtual 54, 3) := by decide +kernel
theorem dX4_copyFrom_68 : decode cX4_copyFrom 68 = .ok (.astore 4, 2) := by decide +kernel
theorem dX4_copyFrom_70 : decode cX4_copyFrom 70 = .ok (.aload_n 3, 1) := by decide +kernel
theorem dX4_copyFrom_71 : decode cX4_copyFrom 71 = .ok (.ifnull 14, 3) := by decide +kernel
theorem dX4_copyFrom_74 : decode cX4_copyFrom 74 = .ok (.aload 4, 2) := by decide +kernel
theorem dX4_copyFrom_76 : decode cX4_copyFrom 76 = .ok (.ifnull 9, 3) := by decide +kernel
theorem dX4_copyFrom_79 : decode cX4_copyFrom 79 = .ok (.aload_n 3, 1) := by decide +kernel
theorem dX4_copyFrom_80 : decode cX4_copyFrom 80 = .ok (.aload 4, 2) := by decide +kernel
theorem dX4_copyFrom_82 : decode cX4_copyFrom 82 = .ok (.invokevirtual 58, 3) := by decide +kernel
theorem dX4_copyFrom_85 : decode cX4_copyFrom 85 = .ok (.iinc 2 1, 3) := by decide +kernel
theorem dX4_copyFrom_88 : decode cX4_copyFrom 88 = .ok (.goto (-39), 3) := by decide +kernel
theorem dX4_copyFrom_91 : decode cX4_copyFrom 91 = .ok (.iconst 0, 1) := by decide +kernel
theorem dX4_copyFrom_92 : decode cX4_copyFrom 92 = .ok (.istore_n 2, 1) := by decide +kernel
theorem dX4_copyFrom_93 : decode cX4_copyFrom 93 = .ok (.iload_n 2, 1) := by decide +kernel
theorem dX4_copyFrom_94 : decode cX4_copyFrom 94 = .ok (.aload_n 0, 1) := by decide +kernel
theorem dX4_copyFrom_95 : decode cX4_copyFrom 95 = .ok (.getfield 61, 3) := by decide +kernel
theorem dX4_copyFrom_98 : decode cX4_copyFrom 98 = .ok (.if_icmp .ge 37, 3) := by decide +kernel
theorem dX4_copyFrom_101 : decode cX4_copyFrom 101 = .ok (.aload_n 0, 1) := by decide +kernel
theorem dX4_copyFrom_102 : decode cX4_copyFrom 102 = .ok (.iload_n 2, 1) := by decide +kernel
theorem dX4_copyFrom_103 : decode cX4_copyFrom 103 = .ok (.invokevirtual 64, 3) := by decide +kernel
theorem dX4_copyFrom_106 : decode cX4_copyFrom 106 = .ok (.astore_n 3, 1) := by decide +kernel
theorem dX4_copyFrom_107 : decode cX4_copyFrom 107 = .ok (.aload_n 1, 1) := by decide +kernel
theorem dX4_copyFrom_108 : decode cX4_copyFrom 108 = .ok (.iload_n 2, 1) := by decide +kernel
theorem dX4_copyFrom_109 : decode cX4_copyFrom 109 = .ok (.invokevirtual 64, 3) := by decide +kernel
theorem dX4_copyFrom_112 : decode cX4_copyFrom 112 = .ok (.astore 4, 2) := by decide +kernel
theorem dX4_copyFrom_114 : decode cX4_copyFrom 114 = .ok (.aload_n 3, 1) := by decide +kernel
theorem dX4_copyFrom_115 : decode cX4_copyFrom 115 = .ok (.ifnull 14, 3) := by decide +kernel
theorem dX4_copyFrom_118 : decode cX4_copyFrom 118 = .ok (.aload 4, 2) := by decide +kernel
theorem dX4_copyFrom_120 : decode cX4_copyFrom 120 = .ok (.ifnull 9, 3) := by decide +kernel
theorem dX4_copyFrom_123 : decode cX4_copyFrom 123 = .ok (.aload_n 3, 1) := by decide +kernel
theorem dX4_copyFrom_124 : decode cX4_copyFrom 124 = .ok (.aload 4, 2) := by decide +kernel
theorem dX4_copyFrom_126 : decode cX4_copyFrom 126 = .ok (.invokevirtual 68, 3) := by decide +kernel
theorem dX4_copyFrom_129 : decode cX4_copyFrom 129 = .ok (.iinc 2 1, 3) := by decide +kernel
theorem dX4_copyFrom_132 : decode cX4_copyFrom 132 = .ok (.goto (-39), 3) := by decide +kernel
theorem dX4_copyFrom_135 : decode cX4_copyFrom 135 = .ok (.return_, 1) := by decide +kernel
theorem dX4_copyNumbers_0 : decode cX4_copyNumbers 0 = .ok (.aload_n 0, 1) := by decide +kernel
theorem dX4_copyNumbers_1 : decode cX4_copyNumbers 1 = .ok (.aload_n 1, 1) := by decide +kernel
theorem dX4_copyNumbers_2 : decode cX4_copyNumbers 2 = .ok (.getfield 51, 3) := by decide +kernel
theorem dX4_copyNumbers_5 : decode cX4_copyNumbers 5 = .ok (.putfield 51, 3) := by decide +kernel
theorem dX4_copyNumbers_8 : decode cX4_copyNumbers 8 = .ok (.aload_n 0, 1) := by decide +kernel
theorem dX4_copyNumbers_9 : decode cX4_copyNumbers 9 = .ok (.aload_n 1, 1) := by decide +kernel
theorem dX4_copyNumbers_10 : decode cX4_copyNumbers 10 = .ok (.getfield 61, 3) := by decide +kernel
theorem dX4_copyNumbers_13 : decode cX4_copyNumbers 13 = .ok (.putfield 61, 3) := by decide +kernel
theorem dX4_copyNumbers_16 : decode cX4_copyNumbers 16 = .ok (.aload_n 0, 1) := by decide +kernel
theorem dX4_copyNumbers_17 : decode cX4_copyNumbers 17 = .ok (.aload_n 1, 1) := by decide +kernel
theorem dX4_copyNumbers_18 : decode cX4_copyNumbers 18 = .ok (.getfield 71, 3) := by decide +kernel
theorem dX4_copyNumbers_21 : decode cX4_copyNumbers 21 = .ok (.putfield 71, 3) := by decide +kernel
theorem dX4_copyNumbers_24 : decode cX4_copyNumbers 24 = .ok (.aload_n 0, 1) := by decide +kernel
theorem dX4_copyNumbers_25 : decode cX4_copyNumbers 25 = .ok (.aload_n 1, 1) := by decide +kernel
theorem dX4_copyNumbers_26 : decode cX4_copyNumbers 26 = .ok (.getfield 74, 3) := by decide +kernel
theorem dX4_copyNumbers_29 : decode cX4_copyNumbers 29 = .ok (.putfield 74, 3) := by decide +kernel
theorem dX4_copyNumbers_32 : decode cX4_copyNumbers 32 = .ok (.aload_n 0, 1) := by decide +kernel
theorem dX4_copyNumbers_33 : decode cX4_copyNumbers 33 = .ok (.aload_n 1, 1) := by decide +kernel
theorem dX4_copyNumbers_34 : decode cX4_copyNumbers 34 = .ok (.getfield 77, 3) := by decide +kernel
theorem dX4_copyNumbers_37 : decode cX4_copyNumbers 37 = .ok (.putfield 77, 3) := by decide +kernel
theorem dX4_copyNumbers_40 : decode cX4_copyNumbers 40 = .ok (.aload_n 0, 1) := by decide +kernel
theorem dX4_copyNumbers_41 : decode cX4_copyNumbers 41 = .ok (.aload_n 1, 1) := by decide +kernel
theorem dX4_copyNumbers_42 : decode cX4_copyNumbers 42 = .ok (.getfield 80, 3) := by decide +kernel
theorem dX4_copyNumbers_45 : decode cX4_copyNumbers 45 = .ok (.putfield 80, 3) := by decide +kernel
theorem dX4_copyNumbers_48 : decode cX4_copyNumbers 48 = .ok (.aload_n 0, 1) := by decide +kernel
theorem dX4_copyNumbers_49 : decode cX4_copyNumbers 49 = .ok (.aload_n 1, 1) := by decide +kernel
theorem dX4_copyNumbers_50 : decode cX4_copyNumbers 50 = .ok (.getfield 83, 3) := by decide +kernel
theorem dX4_copyNumbers_53 : decode cX4_copyNumbers 53 = .ok (.putfield 83, 3) := by decide +kernel
theorem dX4_copyNumbers_56 : decode cX4_copyNumbers 56 = .ok (.aload_n 0, 1) := by decide +kernel
theorem dX4_copyNumbers_57 : decode cX4_copyNumbers 57 = .ok (.aload_n 1, 1) := by decide +kernel
theorem dX4_copyNumbers_58 : decode cX4_copyNumbers 58 = .ok (.getfield 32, 3) := by decide +kernel
theorem dX4_copyNumbers_61 : decode cX4_copyNumbers 61 = .ok (.putfield 32, 3) := by decide +kernel
theorem dX4_copyNumbers_64 : decode cX4_copyNumbers 64 = .ok (.aload_n 0, 1) := by decide +kernel
theorem dX4_copyNumbers_65 : decode cX4_copyNumbers 65 = .ok (.aload_n 1, 1) := by decide +kernel
theorem dX4_copyNumbers_66 : decode cX4_copyNumbers 66 = .ok (.getfield 36, 3) := by decide +kernel
theorem dX4_copyNumbers_69 : decode cX4_copyNumbers 69 = .ok (.putfield 36, 3) := by decide +kernel
theorem dX4_copyNumbers_72 : decode cX4_copyNumbers 72 = .ok (.aload_n 0, 1) := by decide +kernel
theorem dX4_copyNumbers_73 : decode cX4_copyNumbers 73 = .ok (.aload_n 1, 1) := by decide +kernel
theorem dX4_copyNumbers_74 : decode cX4_copyNumbers 74 = .ok (.getfield 86, 3) := by decide +kernel
theorem dX4_copyNumbers_77 : decode cX4_copyNumbers 77 = .ok (.putfield 86, 3) := by decide +kernel
theorem dX4_copyNumbers_80 : decode cX4_copyNumbers 80 = .ok (.aload_n 0, 1) := by decide +kernel
theorem dX4_copyNumbers_81 : decode cX4_copyNumbers 81 = .ok (.aload_n 1, 1) := by decide +kernel
theorem dX4_copyNumbers_82 : decode cX4_copyNumbers 82 = .ok (.getfield 89, 3) := by decide +kernel
theorem dX4_copyNumbers_85 : decode cX4_copyNumbers 85 = .ok (.putfield 89, 3) := by decide +kernel
theorem dX4_copyNumbers_88 : decode cX4_copyNumbers 88 = .ok (.aload_n 0, 1) := by decide +kernel
theorem dX4_copyNumbers_89 : decode cX4_copyNumbers 89 = .ok (.aload_n 1, 1) := by decide +kernel
theorem dX4_copyNumbers_90 : decode cX4_copyNumbers 90 = .ok (.getfield 92, 3) := by decide +kernel
theorem dX4_copyNumbers_93 : decode cX4_copyNumbers 93 = .ok (.putfield 92, 3) := by decide +kernel
theorem dX4_copyNumbers_96 : decode cX4_copyNumbers 96 = .ok (.aload_n 0, 1) := by decide +kernel
theorem dX4_copyNumbers_97 : decode cX4_copyNumbers 97 = .ok (.aload_n 1, 1) := by decide +kernel
theorem dX4_copyNumbers_98 : decode cX4_copyNumbers 98 = .ok (.getfield 95, 3) := by decide +kernel
theorem dX4_copyNumbers_101 : decode cX4_copyNumbers 101 = .ok (.putfield 95, 3) := by decide +kernel
theorem dX4_copyNumbers_104 : decode cX4_copyNumbers 104 = .ok (.return_, 1) := by decide +kernel
theorem dX4_farmerAt_0 : decode cX4_farmerAt 0 = .ok (.iload_n 1, 1) := by decide +kernel
theorem dX4_farmerAt_1 : decode cX4_farmerAt 1 = .ok (.ifCond .lt 21, 3) := by decide +kernel
theorem dX4_farmerAt_4 : decode cX4_farmerAt 4 = .ok (.iload_n 1, 1) := by decide +kernel
theorem dX4_farmerAt_5 : decode cX4_farmerAt 5 = .ok (.aload_n 0, 1) := by decide +kernel
theorem dX4_farmerAt_6 : decode cX4_farmerAt 6 = .ok (.getfield 11, 3) := by decide +kernel
theorem dX4_farmerAt_9 : decode cX4_farmerAt 9 = .ok (.arraylength, 1) := by decide +kernel
theorem dX4_farmerAt_10 : decode cX4_farmerAt 10 = .ok (.if_icmp .ge 12, 3) := by decide +kernel
theorem dX4_farmerAt_13 : decode cX4_farmerAt 13 = .ok (.aload_n 0, 1) := by decide +kernel
theorem dX4_farmerAt_14 : decode cX4_farmerAt 14 = .ok (.getfield 11, 3) := by decide +kernel
theorem dX4_farmerAt_17 : decode cX4_farmerAt 17 = .ok (.iload_n 1, 1) := by decide +kernel
theorem dX4_farmerAt_18 : decode cX4_farmerAt 18 = .ok (.aaload, 1) := by decide +kernel
theorem dX4_farmerAt_19 : decode cX4_farmerAt 19 = .ok (.goto 4, 3) := by decide +kernel
theorem dX4_farmerAt_22 : decode cX4_farmerAt 22 = .ok (.aconst_null, 1) := by decide +kernel
theorem dX4_farmerAt_23 : decode cX4_farmerAt 23 = .ok (.areturn, 1) := by decide +kernel
theorem dX4_machineAt_0 : decode cX4_machineAt 0 = .ok (.iload_n 1, 1) := by decide +kernel
theorem dX4_machineAt_1 : decode cX4_machineAt 1 = .ok (.ifCond .lt 29, 3) := by decide +kernel
theorem dX4_machineAt_4 : decode cX4_machineAt 4 = .ok (.iload_n 1, 1) := by decide +kernel
theorem dX4_machineAt_5 : decode cX4_machineAt 5 = .ok (.aload_n 0, 1) := by decide +kernel
theorem dX4_machineAt_6 : decode cX4_machineAt 6 = .ok (.getfield 51, 3) := by decide +kernel
theorem dX4_machineAt_9 : decode cX4_machineAt 9 = .ok (.if_icmp .ge 21, 3) := by decide +kernel
theorem dX4_machineAt_12 : decode cX4_machineAt 12 = .ok (.iload_n 1, 1) := by decide +kernel
theorem dX4_machineAt_13 : decode cX4_machineAt 13 = .ok (.aload_n 0, 1) := by decide +kernel
theorem dX4_machineAt_14 : decode cX4_machineAt 14 = .ok (.getfield 20, 3) := by decide +kernel
theorem dX4_machineAt_17 : decode cX4_machineAt 17 = .ok (.arraylength, 1) := by decide +kernel
theorem dX4_machineAt_18 : decode cX4_machineAt 18 = .ok (.if_icmp .ge 12, 3) := by decide +kernel
theorem dX4_machineAt_21 : decode cX4_machineAt 21 = .ok (.aload_n 0, 1) := by decide +kernel
theorem dX4_machineAt_22 : decode cX4_machineAt 22 = .ok (.getfield 20, 3) := by decide +kernel
theorem dX4_machineAt_25 : decode cX4_machineAt 25 = .ok (.iload_n 1, 1) := by decide +kernel
theorem dX4_machineAt_26 : decode cX4_machineAt 26 = .ok (.aaload, 1) := by decide +kernel
theorem dX4_machineAt_27 : decode cX4_machineAt 27 = .ok (.goto 4, 3) := by decide +kernel
theorem dX4_machineAt_30 : decode cX4_machineAt 30 = .ok (.aconst_null, 1) := by decide +kernel
theorem dX4_machineAt_31 : decode cX4_machineAt 31 = .ok (.areturn, 1) := by decide +kernel
theorem dX4_bookingAt_0 : decode cX4_bookingAt 0 = .ok (.iload_n 1, 1) := by decide +kernel
theorem dX4_bookingAt_1 : decode cX4_bookingAt 1 = .ok (.ifCond .lt 29, 3) := by decide +kernel
theorem dX4_bookingAt_4 : decode cX4_bookingAt 4 = .ok (.iload_n 1, 1) := by decide +kernel
theorem dX4_bookingAt_5 : decode cX4_bookingAt 5 = .ok (.aload_n 0, 1) := by decide +kernel
theorem dX4_bookingAt_6 : decode cX4_bookingAt 6 = .ok (.getfield 61, 3) := by decide +kernel
theorem dX4_bookingAt_9 : decode cX4_bookingAt 9 = .ok (.if_icmp .ge 21, 3) := by decide +kernel
theorem dX4_bookingAt_12 : decode cX4_bookingAt 12 = .ok (.iload_n 1, 1) := by decide +kernel
theorem dX4_bookingAt_13 : decode cX4_bookingAt 13 = .ok (.aload_n 0, 1) := by decide +kernel
theorem dX4_bookingAt_14 : decode cX4_bookingAt 14 = .ok (.getfield 27, 3) := by decide +kernel
theorem dX4_bookingAt_17 : decode cX4_bookingAt 17 = .ok (.arraylength, 1) := by decide +kernel
theorem dX4_bookingAt_18 : decode cX4_bookingAt 18 = .ok (.if_icmp .ge 12, 3) := by decide +kernel
theorem dX4_bookingAt_21 : decode cX4_bookingAt 21 = .ok (.aload_n 0, 1) := by decide +kernel
theorem dX4_bookingAt_22 : decode cX4_bookingAt 22 = .ok (.getfield 27, 3) := by decide +kernel
theorem dX4_bookingAt_25 : decode cX4_bookingAt 25 = .ok (.iload_n 1, 1) := by decide +kernel
theorem dX4_bookingAt_26 : decode cX4_bookingAt 26 = .ok (.aaload, 1) := by decide +kernel
theorem dX4_bookingAt_27 : decode cX4_bookingAt 27 = .ok (.goto 4, 3) := by decide +kernel
theorem dX4_bookingAt_30 : decode cX4_bookingAt 30 = .ok (.aconst_null, 1) := by decide +kernel
theorem dX4_bookingAt_31 : decode cX4_bookingAt 31 = .ok (.areturn, 1) := by decide +kernel
set_option maxRecDepth 20000 in
theorem ggX4_placeOf_X4_bookingAt : GoodIn wsX4_placeOf wsX4_bookingAt := goodIn_r _ [7, 1, 8, 9, 10, 11, 12, 13, 14, 15, 16, 17, 18, 19, 20, 21, 22, 23, 24] (by decide +kernel) (by decide +kernel)
set_option maxRecDepth 20000 in
theorem gX4_placeOf_X4_bookingAt : GoodIn wsX4_placeOf (wsV RX4 64 RX4 yX4_bookingAt wsX4_bookingAt) := goodIn_app (goodIn_of _ (by decide +kernel)) ggX4_placeOf_X4_bookingAt
theorem dX4_placeOf_0 : decode cX4_placeOf 0 = .ok (.iconst 0, 1) := by decide +kernel
theorem dX4_placeOf_1 : decode cX4_placeOf 1 = .ok (.istore_n 2, 1) := by decide +kernel
theorem dX4_placeOf_2 : decode cX4_placeOf 2 = .ok (.iload_n 2, 1) := by decide +kernel
theorem dX4_placeOf_3 : decode cX4_placeOf 3 = .ok (.aload_n 0, 1) := by decide +kernel
theorem dX4_placeOf_4 : decode cX4_placeOf 4 = .ok (.getfield 61, 3) := by decide +kernel
theorem dX4_placeOf_7 : decode cX4_placeOf 7 = .ok (.if_icmp .ge 29, 3) := by decide +kernel
theorem dX4_placeOf_10 : decode cX4_placeOf 10 = .ok (.aload_n 0, 1) := by decide +kernel
theorem dX4_placeOf_11 : decode cX4_placeOf 11 = .ok (.iload_n 2, 1) := by decide +kernel
theorem dX4_placeOf_12 : decode cX4_placeOf 12 = .ok (.invokevirtual 64, 3) := by decide +kernel
theorem dX4_placeOf_15 : decode cX4_placeOf 15 = .ok (.astore_n 3, 1) := by decide +kernel
theorem dX4_placeOf_16 : decode cX4_placeOf 16 = .ok (.aload_n 3, 1) := by decide +kernel
theorem dX4_placeOf_17 : decode cX4_placeOf 17 = .ok (.ifnull 13, 3) := by decide +kernel
theorem dX4_placeOf_20 : decode cX4_placeOf 20 = .ok (.aload_n 3, 1) := by decide +kernel
theorem dX4_placeOf_21 : decode cX4_placeOf 21 = .ok (.getfield 98, 3) := by decide +kernel
theorem dX4_placeOf_24 : decode cX4_placeOf 24 = .ok (.iload_n 1, 1) := by decide +kernel
theorem dX4_placeOf_25 : decode cX4_placeOf 25 = .ok (.if_icmp .ne 5, 3) := by decide +kernel
theorem dX4_placeOf_28 : decode cX4_placeOf 28 = .ok (.iload_n 2, 1) := by decide +kernel
theorem dX4_placeOf_29 : decode cX4_placeOf 29 = .ok (.ireturn, 1) := by decide +kernel
theorem dX4_placeOf_30 : decode cX4_placeOf 30 = .ok (.iinc 2 1, 3) := by decide +kernel
theorem dX4_placeOf_33 : decode cX4_placeOf 33 = .ok (.goto (-31), 3) := by decide +kernel
theorem dX4_placeOf_36 : decode cX4_placeOf 36 = .ok (.iconst (-1), 1) := by decide +kernel
theorem dX4_placeOf_37 : decode cX4_placeOf 37 = .ok (.ireturn, 1) := by decide +kernel
set_option maxRecDepth 20000 in
theorem ggX4_machinesIn_X4_machineAt : GoodIn wsX4_machinesIn wsX4_machineAt := goodIn_r _ [7, 1, 8, 9, 10, 11, 12, 13, 14, 15, 16, 17, 18, 19, 20, 21, 22, 23, 24] (by decide +kernel) (by decide +kernel)
set_option maxRecDepth 20000 in
theorem gX4_machinesIn_X4_machineAt : GoodIn wsX4_machinesIn (wsV RX4 54 RX4 yX4_machineAt wsX4_machineAt) := goodIn_app (goodIn_of _ (by decide +kernel)) ggX4_machinesIn_X4_machineAt
theorem dX4_machinesIn_0 : decode cX4_machinesIn 0 = .ok (.iconst 0, 1) := by decide +kernel
theorem dX4_machinesIn_1 : decode cX4_machinesIn 1 = .ok (.istore_n 2, 1) := by decide +kernel
theorem dX4_machinesIn_2 : decode cX4_machinesIn 2 = .ok (.iconst 0, 1) := by decide +kernel
theorem dX4_machinesIn_3 : decode cX4_machinesIn 3 = .ok (.istore_n 3, 1) := by decide +kernel
theorem dX4_machinesIn_4 : decode cX4_machinesIn 4 = .ok (.iload_n 3, 1) := by decide +kernel
theorem dX4_machinesIn_5 : decode cX4_machinesIn 5 = .ok (.aload_n 0, 1) := by decide +kernel
theorem dX4_machinesIn_6 : decode cX4_machinesIn 6 = .ok (.getfield 51, 3) := by decide +kernel
theorem dX4_machinesIn_9 : decode cX4_machinesIn 9 = .ok (.if_icmp .ge 33, 3) := by decide +kernel
theorem dX4_machinesIn_12 : decode cX4_machinesIn 12 = .ok (.aload_n 0, 1) := by decide +kernel
theorem dX4_machinesIn_13 : decode cX4_machinesIn 13 = .ok (.iload_n 3, 1) := by decide +kernel
theorem dX4_machinesIn_14 : decode cX4_machinesIn 14 = .ok (.invokevirtual 54, 3) := by decide +kernel
theorem dX4_machinesIn_17 : decode cX4_machinesIn 17 = .ok (.astore 4, 2) := by decide +kernel
theorem dX4_machinesIn_19 : decode cX4_machinesIn 19 = .ok (.aload 4, 2) := by decide +kernel
theorem dX4_machinesIn_21 : decode cX4_machinesIn 21 = .ok (.ifnull 15, 3) := by decide +kernel
theorem dX4_machinesIn_24 : decode cX4_machinesIn 24 = .ok (.aload 4, 2) := by decide +kernel
theorem dX4_machinesIn_26 : decode cX4_machinesIn 26 = .ok (.getfield 101, 3) := by decide +kernel
theorem dX4_machinesIn_29 : decode cX4_machinesIn 29 = .ok (.iload_n 1, 1) := by decide +kernel
theorem dX4_machinesIn_30 : decode cX4_machinesIn 30 = .ok (.if_icmp .ne 6, 3) := by decide +kernel
theorem dX4_machinesIn_33 : decode cX4_machinesIn 33 = .ok (.iinc 2 1, 3) := by decide +kernel
theorem dX4_machinesIn_36 : decode cX4_machinesIn 36 = .ok (.iinc 3 1, 3) := by decide +kernel
theorem dX4_machinesIn_39 : decode cX4_machinesIn 39 = .ok (.goto (-35), 3) := by decide +kernel
theorem dX4_machinesIn_42 : decode cX4_machinesIn 42 = .ok (.iload_n 2, 1) := by decide +kernel
theorem dX4_machinesIn_43 : decode cX4_machinesIn 43 = .ok (.ireturn, 1) := by decide +kernel
set_option maxRecDepth 20000 in
theorem ggX4_addMachine_X4_machinesIn : GoodIn wsX4_addMachine wsX4_machinesIn := goodIn_r _ [7, 1, 8, 9, 10, 11, 6, 12, 13, 31, 32, 33, 34, 35, 36, 37, 38, 39, 40, 41, 42, 43, 44, 45, 46, 47, 48, 49, 50, 51, 52, 53, 54] (by decide +kernel) (by decide +kernel)
set_option maxRecDepth 20000 in
theorem gX4_addMachine_X4_machinesIn : GoodIn wsX4_addMachine (wsV RX4 104 RX4 yX4_machinesIn wsX4_machinesIn) := goodIn_app (goodIn_of _ (by decide +kernel)) ggX4_addMachine_X4_machinesIn
set_option maxRecDepth 20000 in
theorem ggX4_addMachine_X4_machineAt : GoodIn wsX4_addMachine wsX4_machineAt := goodIn_r _ [12, 1, 13, 31, 32, 33, 34, 35, 36, 37, 38, 39, 40, 41, 42, 43, 44, 45, 46] (by decide +kernel) (by decide +kernel)
set_option maxRecDepth 20000 in
theorem gX4_addMachine_X4_machineAt : GoodIn wsX4_addMachine (wsV RX4 54 RX4 yX4_machineAt wsX4_machineAt) := goodIn_app (goodIn_of _ (by decide +kernel)) ggX4_addMachine_X4_machineAt
set_option maxRecDepth 20000 in
theorem ggX4_addMachine_X3_begin : GoodIn wsX4_addMachine wsX3_begin := goodIn_r _ [18, 19, 20, 21, 22, 23, 24, 25, 26, 27, 28, 17, 29, 30, 47, 48, 49, 50, 51, 52, 53, 54] (by decide +kernel) (by decide +kernel)
set_option maxRecDepth 20000 in
theorem gX4_addMachine_X3_begin : GoodIn wsX4_addMachine (wsV RX4 109 RX3 yX3_begin wsX3_begin) := goodIn_app (goodIn_of _ (by decide +kernel)) ggX4_addMachine_X3_begin
theorem dX4_addMachine_0 : decode cX4_addMachine 0 = .ok (.aload_n 0, 1) := by decide +kernel
theorem dX4_addMachine_1 : decode cX4_addMachine 1 = .ok (.iload_n 1, 1) := by decide +kernel
theorem dX4_addMachine_2 : decode cX4_addMachine 2 = .ok (.invokevirtual 104, 3) := by decide +kernel
theorem dX4_addMachine_5 : decode cX4_addMachine 5 = .ok (.istore_n 3, 1) := by decide +kernel
theorem dX4_addMachine_6 : decode cX4_addMachine 6 = .ok (.aload_n 0, 1) := by decide +kernel
theorem dX4_addMachine_7 : decode cX4_addMachine 7 = .ok (.dup, 1) := by decide +kernel
theorem dX4_addMachine_8 : decode cX4_addMachine 8 = .ok (.getfield 51, 3) := by decide +kernel
theorem dX4_addMachine_11 : decode cX4_addMachine 11 = .ok (.iconst 1, 1) := by decide +kernel
theorem dX4_addMachine_12 : decode cX4_addMachine 12 = .ok (.iadd, 1) := by decide +kernel
theorem dX4_addMachine_13 : decode cX4_addMachine 13 = .ok (.putfield 51, 3) := by decide +kernel
theorem dX4_addMachine_16 : decode cX4_addMachine 16 = .ok (.aload_n 0, 1) := by decide +kernel
theorem dX4_addMachine_17 : decode cX4_addMachine 17 = .ok (.aload_n 0, 1) := by decide +kernel
theorem dX4_addMachine_18 : decode cX4_addMachine 18 = .ok (.getfield 51, 3) := by decide +kernel
theorem dX4_addMachine_21 : decode cX4_addMachine 21 = .ok (.iconst 1, 1) := by decide +kernel
theorem dX4_addMachine_22 : decode cX4_addMachine 22 = .ok (.isub, 1) := by decide +kernel
theorem dX4_addMachine_23 : decode cX4_addMachine 23 = .ok (.invokevirtual 54, 3) := by decide +kernel
theorem dX4_addMachine_26 : decode cX4_addMachine 26 = .ok (.astore 4, 2) := by decide +kernel
theorem dX4_addMachine_28 : decode cX4_addMachine 28 = .ok (.aload 4, 2) := by decide +kernel
theorem dX4_addMachine_30 : decode cX4_addMachine 30 = .ok (.ifnonnull 16, 3) := by decide +kernel
theorem dX4_addMachine_33 : decode cX4_addMachine 33 = .ok (.aload_n 0, 1) := by decide +kernel
theorem dX4_addMachine_34 : decode cX4_addMachine 34 = .ok (.dup, 1) := by decide +kernel
theorem dX4_addMachine_35 : decode cX4_addMachine 35 = .ok (.getfield 51, 3) := by decide +kernel
theorem dX4_addMachine_38 : decode cX4_addMachine 38 = .ok (.iconst 1, 1) := by decide +kernel
theorem dX4_addMachine_39 : decode cX4_addMachine 39 = .ok (.isub, 1) := by decide +kernel
theorem dX4_addMachine_40 : decode cX4_addMachine 40 = .ok (.putfield 51, 3) := by decide +kernel
theorem dX4_addMachine_43 : decode cX4_addMachine 43 = .ok (.ldc 108, 2) := by decide +kernel
theorem dX4_addMachine_45 : decode cX4_addMachine 45 = .ok (.ireturn, 1) := by decide +kernel
theorem dX4_addMachine_46 : decode cX4_addMachine 46 = .ok (.aload 4, 2) := by decide +kernel
theorem dX4_addMachine_48 : decode cX4_addMachine 48 = .ok (.iload_n 1, 1) := by decide +kernel
theorem dX4_addMachine_49 : decode cX4_addMachine 49 = .ok (.iload_n 2, 1) := by decide +kernel
theorem dX4_addMachine_50 : decode cX4_addMachine 50 = .ok (.iload_n 3, 1) := by decide +kernel
theorem dX4_addMachine_51 : decode cX4_addMachine 51 = .ok (.invokevirtual 109, 3) := by decide +kernel
theorem dX4_addMachine_54 : decode cX4_addMachine 54 = .ok (.aload_n 0, 1) := by decide +kernel
theorem dX4_addMachine_55 : decode cX4_addMachine 55 = .ok (.getfield 51, 3) := by decide +kernel
theorem dX4_addMachine_58 : decode cX4_addMachine 58 = .ok (.iconst 1, 1) := by decide +kernel
theorem dX4_addMachine_59 : decode cX4_addMachine 59 = .ok (.isub, 1) := by decide +kernel
theorem dX4_addMachine_60 : decode cX4_addMachine 60 = .ok (.ireturn, 1) := by decide +kernel
set_option maxRecDepth 20000 in
theorem ggX4_mendAndShare_X3_hoursSinceMended : GoodIn wsX4_mendAndShare wsX3_hoursSinceMended := goodIn_r _ [10, 11, 49, 50, 51, 52, 53, 54, 55, 56] (by decide +kernel) (by decide +kernel)
set_option maxRecDepth 20000 in
theorem gX4_mendAndShare_X3_hoursSinceMended : GoodIn wsX4_mendAndShare (wsV RX4 113 RX3 yX3_hoursSinceMended wsX3_hoursSinceMended) := goodIn_app (goodIn_of _ (by decide +kernel)) ggX4_mendAndShare_X3_hoursSinceMended
set_option maxRecDepth 20000 in
theorem ggX4_mendAndShare_X4_farmerAt : GoodIn wsX4_mendAndShare wsX4_farmerAt := goodIn_r _ [16, 17, 33, 34, 35, 36, 37, 38, 39, 40, 41, 42, 43, 44, 45, 46, 47, 48] (by decide +kernel) (by decide +kernel)
set_option maxRecDepth 20000 in
theorem gX4_mendAndShare_X4_farmerAt : GoodIn wsX4_mendAndShare (wsV RX4 43 RX4 yX4_farmerAt wsX4_farmerAt) := goodIn_app (goodIn_of _ (by decide +kernel)) ggX4_mendAndShare_X4_farmerAt
set_option maxRecDepth 20000 in
theorem ggX4_mendAndShare_X3_hoursOf : GoodIn wsX4_mendAndShare wsX3_hoursOf := goodIn_r _ [21, 11, 49, 50, 51, 52, 53, 54, 55, 56] (by decide +kernel) (by decide +kernel)
set_option maxRecDepth 20000 in
theorem gX4_mendAndShare_X3_hoursOf : GoodIn wsX4_mendAndShare (wsV RX4 117 RX3 yX3_hoursOf wsX3_hoursOf) := goodIn_app (goodIn_of _ (by decide +kernel)) ggX4_mendAndShare_X3_hoursOf
set_option maxRecDepth 20000 in
theorem ggX4_mendAndShare_X1_bearMending : GoodIn wsX4_mendAndShare wsX1_bearMending := goodIn_r _ [26, 27, 28, 57, 58, 59, 60, 61, 62] (by decide +kernel) (by decide +kernel)
set_option maxRecDepth 20000 in
theorem gX4_mendAndShare_X1_bearMending : GoodIn wsX4_mendAndShare (wsV RX4 120 RX1 yX1_bearMending wsX1_bearMending) := goodIn_app (goodIn_of _ (by decide +kernel)) ggX4_mendAndShare_X1_bearMending
set_option maxRecDepth 20000 in
theorem ggX4_mendAndShare_X3_forgetHours : GoodIn wsX4_mendAndShare wsX3_forgetHours := goodIn_r _ [32, 11, 49, 50, 51, 52, 53, 54, 55, 56] (by decide +kernel) (by decide +kernel)
set_option maxRecDepth 20000 in
theorem gX4_mendAndShare_X3_forgetHours : GoodIn wsX4_mendAndShare (wsV RX4 124 RX3 yX3_forgetHours wsX3_forgetHours) := goodIn_app (goodIn_of _ (by decide +kernel)) ggX4_mendAndShare_X3_forgetHours
theorem dX4_mendAndShare_0 : decode cX4_mendAndShare 0 = .ok (.aload_n 1, 1) := by decide +kernel
theorem dX4_mendAndShare_1 : decode cX4_mendAndShare 1 = .ok (.invokevirtual 113, 3) := by decide +kernel
theorem dX4_mendAndShare_4 : decode cX4_mendAndShare 4 = .ok (.istore_n 2, 1) := by decide +kernel
theorem dX4_mendAndShare_5 : decode cX4_mendAndShare 5 = .ok (.aload_n 0, 1) := by decide +kernel
theorem dX4_mendAndShare_6 : decode cX4_mendAndShare 6 = .ok (.getfield 36, 3) := by decide +kernel
theorem dX4_mendAndShare_9 : decode cX4_mendAndShare 9 = .ok (.istore_n 3, 1) := by decide +kernel
theorem dX4_mendAndShare_10 : decode cX4_mendAndShare 10 = .ok (.iconst 0, 1) := by decide +kernel
theorem dX4_mendAndShare_11 : decode cX4_mendAndShare 11 = .ok (.istore 4, 2) := by decide +kernel
theorem dX4_mendAndShare_13 : decode cX4_mendAndShare 13 = .ok (.iload 4, 2) := by decide +kernel
theorem dX4_mendAndShare_15 : decode cX4_mendAndShare 15 = .ok (.bipush 6, 2) := by decide +kernel
theorem dX4_mendAndShare_17 : decode cX4_mendAndShare 17 = .ok (.if_icmp .ge 53, 3) := by decide +kernel
theorem dX4_mendAndShare_20 : decode cX4_mendAndShare 20 = .ok (.aload_n 0, 1) := by decide +kernel
theorem dX4_mendAndShare_21 : decode cX4_mendAndShare 21 = .ok (.iload 4, 2) := by decide +kernel
theorem dX4_mendAndShare_23 : decode cX4_mendAndShare 23 = .ok (.invokevirtual 43, 3) := by decide +kernel
theorem dX4_mendAndShare_26 : decode cX4_mendAndShare 26 = .ok (.astore 5, 2) := by decide +kernel
theorem dX4_mendAndShare_28 : decode cX4_mendAndShare 28 = .ok (.aload 5, 2) := by decide +kernel
theorem dX4_mendAndShare_30 : decode cX4_mendAndShare 30 = .ok (.ifnull 34, 3) := by decide +kernel
theorem dX4_mendAndShare_33 : decode cX4_mendAndShare 33 = .ok (.iload_n 2, 1) := by decide +kernel
theorem dX4_mendAndShare_34 : decode cX4_mendAndShare 34 = .ok (.ifCond .le 30, 3) := by decide +kernel
theorem dX4_mendAndShare_37 : decode cX4_mendAndShare 37 = .ok (.aload_n 0, 1) := by decide +kernel
theorem dX4_mendAndShare_38 : decode cX4_mendAndShare 38 = .ok (.getfield 36, 3) := by decide +kernel
theorem dX4_mendAndShare_41 : decode cX4_mendAndShare 41 = .ok (.aload_n 1, 1) := by decide +kernel
theorem dX4_mendAndShare_42 : decode cX4_mendAndShare 42 = .ok (.iload 4, 2) := by decide +kernel
theorem dX4_mendAndShare_44 : decode cX4_mendAndShare 44 = .ok (.invokevirtual 117, 3) := by decide +kernel
theorem dX4_mendAndShare_47 : decode cX4_mendAndShare 47 = .ok (.imul, 1) := by decide +kernel
theorem dX4_mendAndShare_48 : decode cX4_mendAndShare 48 = .ok (.iload_n 2, 1) := by decide +kernel
theorem dX4_mendAndShare_49 : decode cX4_mendAndShare 49 = .ok (.idiv, 1) := by decide +kernel
theorem dX4_mendAndShare_50 : decode cX4_mendAndShare 50 = .ok (.istore 6, 2) := by decide +kernel
theorem dX4_mendAndShare_52 : decode cX4_mendAndShare 52 = .ok (.aload 5, 2) := by decide +kernel
theorem dX4_mendAndShare_54 : decode cX4_mendAndShare 54 = .ok (.iload 6, 2) := by decide +kernel
theorem dX4_mendAndShare_56 : decode cX4_mendAndShare 56 = .ok (.invokevirtual 120, 3) := by decide +kernel
theorem dX4_mendAndShare_59 : decode cX4_mendAndShare 59 = .ok (.iload_n 3, 1) := by decide +kernel
theorem dX4_mendAndShare_60 : decode cX4_mendAndShare 60 = .ok (.iload 6, 2) := by decide +kernel
theorem dX4_mendAndShare_62 : decode cX4_mendAndShare 62 = .ok (.isub, 1) := by decide +kernel
theorem dX4_mendAndShare_63 : decode cX4_mendAndShare 63 = .ok (.istore_n 3, 1) := by decide +kernel
theorem dX4_mendAndShare_64 : decode cX4_mendAndShare 64 = .ok (.iinc 4 1, 3) := by decide +kernel
theorem dX4_mendAndShare_67 : decode cX4_mendAndShare 67 = .ok (.goto (-54), 3) := by decide +kernel
theorem dX4_mendAndShare_70 : decode cX4_mendAndShare 70 = .ok (.aload_n 0, 1) := by decide +kernel
theorem dX4_mendAndShare_71 : decode cX4_mendAndShare 71 = .ok (.dup, 1) := by decide +kernel
theorem dX4_mendAndShare_72 : decode cX4_mendAndShare 72 = .ok (.getfield 83, 3) := by decide +kernel
theorem dX4_mendAndShare_75 : decode cX4_mendAndShare 75 = .ok (.aload_n 0, 1) := by decide +kernel
theorem dX4_mendAndShare_76 : decode cX4_mendAndShare 76 = .ok (.getfield 36, 3) := by decide +kernel
theorem dX4_mendAndShare_79 : decode cX4_mendAndShare 79 = .ok (.isub, 1) := by decide +kernel
theorem dX4_mendAndShare_80 : decode cX4_mendAndShare 80 = .ok (.putfield 83, 3) := by decide +kernel
theorem dX4_mendAndShare_83 : decode cX4_mendAndShare 83 = .ok (.aload_n 0, 1) := by decide +kernel
theorem dX4_mendAndShare_84 : decode cX4_mendAndShare 84 = .ok (.dup, 1) := by decide +kernel
theorem dX4_mendAndShare_85 : decode cX4_mendAndShare 85 = .ok (.getfield 89, 3) := by decide +kernel
theorem dX4_mendAndShare_88 : decode cX4_mendAndShare 88 = .ok (.aload_n 0, 1) := by decide +kernel
theorem dX4_mendAndShare_89 : decode cX4_mendAndShare 89 = .ok (.getfield 36, 3) := by decide +kernel
theorem dX4_mendAndShare_92 : decode cX4_mendAndShare 92 = .ok (.iadd, 1) := by decide +kernel
theorem dX4_mendAndShare_93 : decode cX4_mendAndShare 93 = .ok (.putfield 89, 3) := by decide +kernel
theorem dX4_mendAndShare_96 : decode cX4_mendAndShare 96 = .ok (.aload_n 1, 1) := by decide +kernel
theorem dX4_mendAndShare_97 : decode cX4_mendAndShare 97 = .ok (.invokevirtual 124, 3) := by decide +kernel
theorem dX4_mendAndShare_100 : decode cX4_mendAndShare 100 = .ok (.aload_n 1, 1) := by decide +kernel
theorem dX4_mendAndShare_101 : decode cX4_mendAndShare 101 = .ok (.iconst 0, 1) := by decide +kernel
theorem dX4_mendAndShare_102 : decode cX4_mendAndShare 102 = .ok (.putfield 127, 3) := by decide +kernel
theorem dX4_mendAndShare_105 : decode cX4_mendAndShare 105 = .ok (.aload_n 1, 1) := by decide +kernel
theorem dX4_mendAndShare_106 : decode cX4_mendAndShare 106 = .ok (.dup, 1) := by decide +kernel
theorem dX4_mendAndShare_107 : decode cX4_mendAndShare 107 = .ok (.getfield 131, 3) := by decide +kernel
theorem dX4_mendAndShare_110 : decode cX4_mendAndShare 110 = .ok (.iconst 1, 1) := by decide +kernel
theorem dX4_mendAndShare_111 : decode cX4_mendAndShare 111 = .ok (.iadd, 1) := by decide +kernel
theorem dX4_mendAndShare_112 : decode cX4_mendAndShare 112 = .ok (.putfield 131, 3) := by decide +kernel
theorem dX4_mendAndShare_115 : decode cX4_mendAndShare 115 = .ok (.iload_n 3, 1) := by decide +kernel
theorem dX4_mendAndShare_116 : decode cX4_mendAndShare 116 = .ok (.ireturn, 1) := by decide +kernel
