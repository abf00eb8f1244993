theorem dX0_init_0 : decode cX0_init 0 = .ok (.aload_n 0, 1) := by decide +kernel
theorem dX0_init_1 : decode cX0_init 1 = .ok (.invokespecial 3, 3) := by decide +kernel
theorem dX0_init_4 : decode cX0_init 4 = .ok (.aload_n 0, 1) := by decide +kernel
theorem dX0_init_5 : decode cX0_init 5 = .ok (.bipush 6, 2) := by decide +kernel
theorem dX0_init_7 : decode cX0_init 7 = .ok (.newarray .int, 2) := by decide +kernel
theorem dX0_init_9 : decode cX0_init 9 = .ok (.putfield 9, 3) := by decide +kernel
theorem dX0_init_12 : decode cX0_init 12 = .ok (.aload_n 0, 1) := by decide +kernel
theorem dX0_init_13 : decode cX0_init 13 = .ok (.bipush 6, 2) := by decide +kernel
theorem dX0_init_15 : decode cX0_init 15 = .ok (.newarray .int, 2) := by decide +kernel
theorem dX0_init_17 : decode cX0_init 17 = .ok (.putfield 15, 3) := by decide +kernel
theorem dX0_init_20 : decode cX0_init 20 = .ok (.iconst 0, 1) := by decide +kernel
theorem dX0_init_21 : decode cX0_init 21 = .ok (.istore_n 1, 1) := by decide +kernel
theorem dX0_init_22 : decode cX0_init 22 = .ok (.iload_n 1, 1) := by decide +kernel
theorem dX0_init_23 : decode cX0_init 23 = .ok (.bipush 6, 2) := by decide +kernel
theorem dX0_init_25 : decode cX0_init 25 = .ok (.if_icmp .ge 28, 3) := by decide +kernel
theorem dX0_init_28 : decode cX0_init 28 = .ok (.aload_n 0, 1) := by decide +kernel
theorem dX0_init_29 : decode cX0_init 29 = .ok (.getfield 9, 3) := by decide +kernel
theorem dX0_init_32 : decode cX0_init 32 = .ok (.iload_n 1, 1) := by decide +kernel
theorem dX0_init_33 : decode cX0_init 33 = .ok (.sipush 1000, 3) := by decide +kernel
theorem dX0_init_36 : decode cX0_init 36 = .ok (.iastore, 1) := by decide +kernel
theorem dX0_init_37 : decode cX0_init 37 = .ok (.aload_n 0, 1) := by decide +kernel
theorem dX0_init_38 : decode cX0_init 38 = .ok (.getfield 15, 3) := by decide +kernel
theorem dX0_init_41 : decode cX0_init 41 = .ok (.iload_n 1, 1) := by decide +kernel
theorem dX0_init_42 : decode cX0_init 42 = .ok (.bipush 10, 2) := by decide +kernel
theorem dX0_init_44 : decode cX0_init 44 = .ok (.iload_n 1, 1) := by decide +kernel
theorem dX0_init_45 : decode cX0_init 45 = .ok (.imul, 1) := by decide +kernel
theorem dX0_init_46 : decode cX0_init 46 = .ok (.iastore, 1) := by decide +kernel
theorem dX0_init_47 : decode cX0_init 47 = .ok (.iinc 1 1, 3) := by decide +kernel
theorem dX0_init_50 : decode cX0_init 50 = .ok (.goto (-28), 3) := by decide +kernel
theorem dX0_init_53 : decode cX0_init 53 = .ok (.return_, 1) := by decide +kernel
set_option maxRecDepth 20000 in
theorem ggX0_copyFrom_X6_copy : GoodIn wsX0_copyFrom wsX6_copy := goodIn_r _ [5, 6, 7, 8, 9, 10, 11, 12, 13] (by decide +kernel) (by decide +kernel)
set_option maxRecDepth 20000 in
theorem gX0_copyFrom_X6_copy_n18 : GoodIn wsX0_copyFrom (wsX6_copy) := ggX0_copyFrom_X6_copy
theorem dX0_copyFrom_0 : decode cX0_copyFrom 0 = .ok (.aload_n 1, 1) := by decide +kernel
theorem dX0_copyFrom_1 : decode cX0_copyFrom 1 = .ok (.getfield 9, 3) := by decide +kernel
theorem dX0_copyFrom_4 : decode cX0_copyFrom 4 = .ok (.aload_n 0, 1) := by decide +kernel
theorem dX0_copyFrom_5 : decode cX0_copyFrom 5 = .ok (.getfield 9, 3) := by decide +kernel
theorem dX0_copyFrom_8 : decode cX0_copyFrom 8 = .ok (.invokestatic 18, 3) := by decide +kernel
theorem dX0_copyFrom_11 : decode cX0_copyFrom 11 = .ok (.aload_n 1, 1) := by decide +kernel
theorem dX0_copyFrom_12 : decode cX0_copyFrom 12 = .ok (.getfield 15, 3) := by decide +kernel
theorem dX0_copyFrom_15 : decode cX0_copyFrom 15 = .ok (.aload_n 0, 1) := by decide +kernel
theorem dX0_copyFrom_16 : decode cX0_copyFrom 16 = .ok (.getfield 15, 3) := by decide +kernel
theorem dX0_copyFrom_19 : decode cX0_copyFrom 19 = .ok (.invokestatic 18, 3) := by decide +kernel
theorem dX0_copyFrom_22 : decode cX0_copyFrom 22 = .ok (.return_, 1) := by decide +kernel
set_option maxRecDepth 20000 in
theorem ggX0_hoursOfLamp_X6_shareOf : GoodIn wsX0_hoursOfLamp wsX6_shareOf := goodIn_r _ [9] (by decide +kernel) (by decide +kernel)
set_option maxRecDepth 20000 in
theorem gX0_hoursOfLamp_X6_shareOf_n22 : GoodIn wsX0_hoursOfLamp (wsX6_shareOf) := ggX0_hoursOfLamp_X6_shareOf
set_option maxRecDepth 20000 in
theorem ggX0_hoursOfLamp_X6_isWeak : GoodIn wsX0_hoursOfLamp wsX6_isWeak := goodIn_r _ [11, 12, 7, 8, 9] (by decide +kernel) (by decide +kernel)
set_option maxRecDepth 20000 in
theorem gX0_hoursOfLamp_X6_isWeak_n26 : GoodIn wsX0_hoursOfLamp (wsX6_isWeak) := ggX0_hoursOfLamp_X6_isWeak
theorem dX0_hoursOfLamp_0 : decode cX0_hoursOfLamp 0 = .ok (.aload_n 0, 1) := by decide +kernel
theorem dX0_hoursOfLamp_1 : decode cX0_hoursOfLamp 1 = .ok (.getfield 9, 3) := by decide +kernel
theorem dX0_hoursOfLamp_4 : decode cX0_hoursOfLamp 4 = .ok (.iload_n 1, 1) := by decide +kernel
theorem dX0_hoursOfLamp_5 : decode cX0_hoursOfLamp 5 = .ok (.iaload, 1) := by decide +kernel
theorem dX0_hoursOfLamp_6 : decode cX0_hoursOfLamp 6 = .ok (.aload_n 0, 1) := by decide +kernel
theorem dX0_hoursOfLamp_7 : decode cX0_hoursOfLamp 7 = .ok (.getfield 15, 3) := by decide +kernel
theorem dX0_hoursOfLamp_10 : decode cX0_hoursOfLamp 10 = .ok (.iload_n 1, 1) := by decide +kernel
theorem dX0_hoursOfLamp_11 : decode cX0_hoursOfLamp 11 = .ok (.iaload, 1) := by decide +kernel
theorem dX0_hoursOfLamp_12 : decode cX0_hoursOfLamp 12 = .ok (.imul, 1) := by decide +kernel
theorem dX0_hoursOfLamp_13 : decode cX0_hoursOfLamp 13 = .ok (.iload_n 2, 1) := by decide +kernel
theorem dX0_hoursOfLamp_14 : decode cX0_hoursOfLamp 14 = .ok (.invokestatic 22, 3) := by decide +kernel
theorem dX0_hoursOfLamp_17 : decode cX0_hoursOfLamp 17 = .ok (.imul, 1) := by decide +kernel
theorem dX0_hoursOfLamp_18 : decode cX0_hoursOfLamp 18 = .ok (.sipush 1000, 3) := by decide +kernel
theorem dX0_hoursOfLamp_21 : decode cX0_hoursOfLamp 21 = .ok (.idiv, 1) := by decide +kernel
theorem dX0_hoursOfLamp_22 : decode cX0_hoursOfLamp 22 = .ok (.istore_n 3, 1) := by decide +kernel
theorem dX0_hoursOfLamp_23 : decode cX0_hoursOfLamp 23 = .ok (.aload_n 0, 1) := by decide +kernel
theorem dX0_hoursOfLamp_24 : decode cX0_hoursOfLamp 24 = .ok (.getfield 9, 3) := by decide +kernel
theorem dX0_hoursOfLamp_27 : decode cX0_hoursOfLamp 27 = .ok (.iload_n 1, 1) := by decide +kernel
theorem dX0_hoursOfLamp_28 : decode cX0_hoursOfLamp 28 = .ok (.iaload, 1) := by decide +kernel
theorem dX0_hoursOfLamp_29 : decode cX0_hoursOfLamp 29 = .ok (.iload_n 3, 1) := by decide +kernel
theorem dX0_hoursOfLamp_30 : decode cX0_hoursOfLamp 30 = .ok (.isub, 1) := by decide +kernel
theorem dX0_hoursOfLamp_31 : decode cX0_hoursOfLamp 31 = .ok (.istore 4, 2) := by decide +kernel
theorem dX0_hoursOfLamp_33 : decode cX0_hoursOfLamp 33 = .ok (.iconst 1, 1) := by decide +kernel
theorem dX0_hoursOfLamp_34 : decode cX0_hoursOfLamp 34 = .ok (.iload_n 2, 1) := by decide +kernel
theorem dX0_hoursOfLamp_35 : decode cX0_hoursOfLamp 35 = .ok (.invokestatic 26, 3) := by decide +kernel
theorem dX0_hoursOfLamp_38 : decode cX0_hoursOfLamp 38 = .ok (.ifCond .eq 11, 3) := by decide +kernel
theorem dX0_hoursOfLamp_41 : decode cX0_hoursOfLamp 41 = .ok (.iload 4, 2) := by decide +kernel
theorem dX0_hoursOfLamp_43 : decode cX0_hoursOfLamp 43 = .ok (.bipush 10, 2) := by decide +kernel
theorem dX0_hoursOfLamp_45 : decode cX0_hoursOfLamp 45 = .ok (.idiv, 1) := by decide +kernel
theorem dX0_hoursOfLamp_46 : decode cX0_hoursOfLamp 46 = .ok (.goto 5, 3) := by decide +kernel
theorem dX0_hoursOfLamp_49 : decode cX0_hoursOfLamp 49 = .ok (.iload 4, 2) := by decide +kernel
theorem dX0_hoursOfLamp_51 : decode cX0_hoursOfLamp 51 = .ok (.invokestatic 30, 3) := by decide +kernel
theorem dX0_hoursOfLamp_54 : decode cX0_hoursOfLamp 54 = .ok (.ireturn, 1) := by decide +kernel
set_option maxRecDepth 20000 in
theorem ggX1_init_X4_init : GoodIn wsX1_init wsX4_init := goodIn_r _ [10, 11, 2, 3, 12, 13, 14, 15, 16, 17, 18, 19, 20, 21, 22, 23, 24, 25, 26, 27, 28, 29, 30, 31, 32, 33, 34, 35, 36, 37, 38, 39, 40, 41, 42, 43, 44, 45, 46, 47, 48, 49, 50, 51, 52, 53, 54, 55, 56, 59, 60, 61, 62, 63, 64, 65, 66, 67, 68, 69, 70, 71, 72, 73, 74, 75, 76, 77, 78] (by decide +kernel) (by decide +kernel)
set_option maxRecDepth 20000 in
theorem gX1_init_X4_init_n21 : GoodIn wsX1_init (wsX4_init) := ggX1_init_X4_init
theorem dX1_init_0 : decode cX1_init 0 = .ok (.aload_n 0, 1) := by decide +kernel
theorem dX1_init_1 : decode cX1_init 1 = .ok (.invokespecial 3, 3) := by decide +kernel
theorem dX1_init_4 : decode cX1_init 4 = .ok (.aload_n 0, 1) := by decide +kernel
theorem dX1_init_5 : decode cX1_init 5 = .ok (.iconst 0, 1) := by decide +kernel
theorem dX1_init_6 : decode cX1_init 6 = .ok (.putfield 9, 3) := by decide +kernel
theorem dX1_init_9 : decode cX1_init 9 = .ok (.aload_n 0, 1) := by decide +kernel
theorem dX1_init_10 : decode cX1_init 10 = .ok (.iconst 4, 1) := by decide +kernel
theorem dX1_init_11 : decode cX1_init 11 = .ok (.anewarray 15, 3) := by decide +kernel
theorem dX1_init_14 : decode cX1_init 14 = .ok (.putfield 17, 3) := by decide +kernel
theorem dX1_init_17 : decode cX1_init 17 = .ok (.iconst 0, 1) := by decide +kernel
theorem dX1_init_18 : decode cX1_init 18 = .ok (.istore_n 1, 1) := by decide +kernel
theorem dX1_init_19 : decode cX1_init 19 = .ok (.iload_n 1, 1) := by decide +kernel
theorem dX1_init_20 : decode cX1_init 20 = .ok (.iconst 4, 1) := by decide +kernel
theorem dX1_init_21 : decode cX1_init 21 = .ok (.if_icmp .ge 22, 3) := by decide +kernel
theorem dX1_init_24 : decode cX1_init 24 = .ok (.aload_n 0, 1) := by decide +kernel
theorem dX1_init_25 : decode cX1_init 25 = .ok (.getfield 17, 3) := by decide +kernel
theorem dX1_init_28 : decode cX1_init 28 = .ok (.iload_n 1, 1) := by decide +kernel
theorem dX1_init_29 : decode cX1_init 29 = .ok (.new 15, 3) := by decide +kernel
theorem dX1_init_32 : decode cX1_init 32 = .ok (.dup, 1) := by decide +kernel
theorem dX1_init_33 : decode cX1_init 33 = .ok (.invokespecial 21, 3) := by decide +kernel
theorem dX1_init_36 : decode cX1_init 36 = .ok (.aastore, 1) := by decide +kernel
theorem dX1_init_37 : decode cX1_init 37 = .ok (.iinc 1 1, 3) := by decide +kernel
theorem dX1_init_40 : decode cX1_init 40 = .ok (.goto (-21), 3) := by decide +kernel
theorem dX1_init_43 : decode cX1_init 43 = .ok (.return_, 1) := by decide +kernel
set_option maxRecDepth 20000 in
theorem ggX1_append_X1_dropOldest : GoodIn wsX1_append wsX1_dropOldest := goodIn_r _ [7, 2, 1, 59, 60] (by decide +kernel) (by decide +kernel)
set_option maxRecDepth 20000 in
theorem gX1_append_X1_dropOldest : GoodIn wsX1_append (wsV RX1 22 RX1 yX1_dropOldest wsX1_dropOldest) := goodIn_app (goodIn_of _ (by decide +kernel)) ggX1_append_X1_dropOldest
set_option maxRecDepth 20000 in
theorem ggX1_append_X4_copyFrom : GoodIn wsX1_append wsX4_copyFrom := goodIn_r _ [12, 13, 14, 15, 16, 17, 18, 19, 20, 21, 22, 23, 24, 25, 26, 27, 28, 29, 30, 31, 32, 33, 34, 35, 36, 37, 38, 39, 40, 41, 42, 43, 44, 45, 46, 47, 48, 49, 50, 51, 52, 53, 54, 55, 56, 57, 58, 61, 62, 63, 64, 65, 66, 67, 68, 69, 70, 71, 72, 73, 74, 75, 76, 77, 78, 79, 80] (by decide +kernel) (by decide +kernel)
set_option maxRecDepth 20000 in
theorem gX1_append_X4_copyFrom : GoodIn wsX1_append (wsV RX1 25 RX4 yX4_copyFrom wsX4_copyFrom) := goodIn_app (goodIn_of _ (by decide +kernel)) ggX1_append_X4_copyFrom
theorem dX1_append_0 : decode cX1_append 0 = .ok (.aload_n 0, 1) := by decide +kernel
theorem dX1_append_1 : decode cX1_append 1 = .ok (.getfield 9, 3) := by decide +kernel
theorem dX1_append_4 : decode cX1_append 4 = .ok (.iconst 4, 1) := by decide +kernel
theorem dX1_append_5 : decode cX1_append 5 = .ok (.if_icmp .lt 7, 3) := by decide +kernel
theorem dX1_append_8 : decode cX1_append 8 = .ok (.aload_n 0, 1) := by decide +kernel
theorem dX1_append_9 : decode cX1_append 9 = .ok (.invokevirtual 22, 3) := by decide +kernel
theorem dX1_append_12 : decode cX1_append 12 = .ok (.aload_n 0, 1) := by decide +kernel
theorem dX1_append_13 : decode cX1_append 13 = .ok (.getfield 17, 3) := by decide +kernel
theorem dX1_append_16 : decode cX1_append 16 = .ok (.aload_n 0, 1) := by decide +kernel
theorem dX1_append_17 : decode cX1_append 17 = .ok (.getfield 9, 3) := by decide +kernel
theorem dX1_append_20 : decode cX1_append 20 = .ok (.aaload, 1) := by decide +kernel
theorem dX1_append_21 : decode cX1_append 21 = .ok (.aload_n 1, 1) := by decide +kernel
theorem dX1_append_22 : decode cX1_append 22 = .ok (.invokevirtual 25, 3) := by decide +kernel
theorem dX1_append_25 : decode cX1_append 25 = .ok (.aload_n 0, 1) := by decide +kernel
theorem dX1_append_26 : decode cX1_append 26 = .ok (.dup, 1) := by decide +kernel
theorem dX1_append_27 : decode cX1_append 27 = .ok (.getfield 9, 3) := by decide +kernel
theorem dX1_append_30 : decode cX1_append 30 = .ok (.iconst 1, 1) := by decide +kernel
theorem dX1_append_31 : decode cX1_append 31 = .ok (.iadd, 1) := by decide +kernel
theorem dX1_append_32 : decode cX1_append 32 = .ok (.putfield 9, 3) := by decide +kernel
theorem dX1_append_35 : decode cX1_append 35 = .ok (.return_, 1) := by decide +kernel
theorem dX1_dropOldest_0 : decode cX1_dropOldest 0 = .ok (.aload_n 0, 1) := by decide +kernel
theorem dX1_dropOldest_1 : decode cX1_dropOldest 1 = .ok (.getfield 17, 3) := by decide +kernel
theorem dX1_dropOldest_4 : decode cX1_dropOldest 4 = .ok (.iconst 0, 1) := by decide +kernel
theorem dX1_dropOldest_5 : decode cX1_dropOldest 5 = .ok (.aaload, 1) := by decide +kernel
theorem dX1_dropOldest_6 : decode cX1_dropOldest 6 = .ok (.astore_n 1, 1) := by decide +kernel
theorem dX1_dropOldest_7 : decode cX1_dropOldest 7 = .ok (.iconst 1, 1) := by decide +kernel
theorem dX1_dropOldest_8 : decode cX1_dropOldest 8 = .ok (.istore_n 2, 1) := by decide +kernel
theorem dX1_dropOldest_9 : decode cX1_dropOldest 9 = .ok (.iload_n 2, 1) := by decide +kernel
theorem dX1_dropOldest_10 : decode cX1_dropOldest 10 = .ok (.iconst 4, 1) := by decide +kernel
theorem dX1_dropOldest_11 : decode cX1_dropOldest 11 = .ok (.if_icmp .ge 23, 3) := by decide +kernel
theorem dX1_dropOldest_14 : decode cX1_dropOldest 14 = .ok (.aload_n 0, 1) := by decide +kernel
theorem dX1_dropOldest_15 : decode cX1_dropOldest 15 = .ok (.getfield 17, 3) := by decide +kernel
theorem dX1_dropOldest_18 : decode cX1_dropOldest 18 = .ok (.iload_n 2, 1) := by decide +kernel
theorem dX1_dropOldest_19 : decode cX1_dropOldest 19 = .ok (.iconst 1, 1) := by decide +kernel
theorem dX1_dropOldest_20 : decode cX1_dropOldest 20 = .ok (.isub, 1) := by decide +kernel
theorem dX1_dropOldest_21 : decode cX1_dropOldest 21 = .ok (.aload_n 0, 1) := by decide +kernel
theorem dX1_dropOldest_22 : decode cX1_dropOldest 22 = .ok (.getfield 17, 3) := by decide +kernel
theorem dX1_dropOldest_25 : decode cX1_dropOldest 25 = .ok (.iload_n 2, 1) := by decide +kernel
theorem dX1_dropOldest_26 : decode cX1_dropOldest 26 = .ok (.aaload, 1) := by decide +kernel
theorem dX1_dropOldest_27 : decode cX1_dropOldest 27 = .ok (.aastore, 1) := by decide +kernel
theorem dX1_dropOldest_28 : decode cX1_dropOldest 28 = .ok (.iinc 2 1, 3) := by decide +kernel
theorem dX1_dropOldest_31 : decode cX1_dropOldest 31 = .ok (.goto (-22), 3) := by decide +kernel
theorem dX1_dropOldest_34 : decode cX1_dropOldest 34 = .ok (.aload_n 0, 1) := by decide +kernel
theorem dX1_dropOldest_35 : decode cX1_dropOldest 35 = .ok (.getfield 17, 3) := by decide +kernel
theorem dX1_dropOldest_38 : decode cX1_dropOldest 38 = .ok (.iconst 3, 1) := by decide +kernel
theorem dX1_dropOldest_39 : decode cX1_dropOldest 39 = .ok (.aload_n 1, 1) := by decide +kernel
theorem dX1_dropOldest_40 : decode cX1_dropOldest 40 = .ok (.aastore, 1) := by decide +kernel
theorem dX1_dropOldest_41 : decode cX1_dropOldest 41 = .ok (.aload_n 0, 1) := by decide +kernel
theorem dX1_dropOldest_42 : decode cX1_dropOldest 42 = .ok (.dup, 1) := by decide +kernel
theorem dX1_dropOldest_43 : decode cX1_dropOldest 43 = .ok (.getfield 9, 3) := by decide +kernel
theorem dX1_dropOldest_46 : decode cX1_dropOldest 46 = .ok (.iconst 1, 1) := by decide +kernel
theorem dX1_dropOldest_47 : decode cX1_dropOldest 47 = .ok (.isub, 1) := by decide +kernel
theorem dX1_dropOldest_48 : decode cX1_dropOldest 48 = .ok (.putfield 9, 3) := by decide +kernel
theorem dX1_dropOldest_51 : decode cX1_dropOldest 51 = .ok (.return_, 1) := by decide +kernel
set_option maxRecDepth 20000 in
theorem ggX1_moveLatestTo_X4_copyFrom : GoodIn wsX1_moveLatestTo wsX4_copyFrom := goodIn_r _ [7, 8, 9, 10, 11, 12, 13, 14, 15, 16, 17, 18, 19, 20, 21, 22, 23, 24, 25, 26, 27, 28, 29, 30, 31, 32, 33, 34, 35, 36, 37, 38, 39, 40, 41, 42, 43, 44, 45, 46, 47, 48, 49, 50, 51, 52, 53, 56, 57, 58, 59, 60, 61, 62, 63, 64, 65, 66, 67, 68, 69, 70, 71, 72, 73, 74, 75] (by decide +kernel) (by decide +kernel)
set_option maxRecDepth 20000 in
theorem gX1_moveLatestTo_X4_copyFrom : GoodIn wsX1_moveLatestTo (wsV RX1 25 RX4 yX4_copyFrom wsX4_copyFrom) := goodIn_app (goodIn_of _ (by decide +kernel)) ggX1_moveLatestTo_X4_copyFrom
theorem dX1_moveLatestTo_0 : decode cX1_moveLatestTo 0 = .ok (.aload_n 0, 1) := by decide +kernel
theorem dX1_moveLatestTo_1 : decode cX1_moveLatestTo 1 = .ok (.getfield 9, 3) := by decide +kernel
theorem dX1_moveLatestTo_4 : decode cX1_moveLatestTo 4 = .ok (.ifCond .le 26, 3) := by decide +kernel
theorem dX1_moveLatestTo_7 : decode cX1_moveLatestTo 7 = .ok (.aload_n 0, 1) := by decide +kernel
theorem dX1_moveLatestTo_8 : decode cX1_moveLatestTo 8 = .ok (.dup, 1) := by decide +kernel
theorem dX1_moveLatestTo_9 : decode cX1_moveLatestTo 9 = .ok (.getfield 9, 3) := by decide +kernel
theorem dX1_moveLatestTo_12 : decode cX1_moveLatestTo 12 = .ok (.iconst 1, 1) := by decide +kernel
theorem dX1_moveLatestTo_13 : decode cX1_moveLatestTo 13 = .ok (.isub, 1) := by decide +kernel
theorem dX1_moveLatestTo_14 : decode cX1_moveLatestTo 14 = .ok (.putfield 9, 3) := by decide +kernel
theorem dX1_moveLatestTo_17 : decode cX1_moveLatestTo 17 = .ok (.aload_n 1, 1) := by decide +kernel
theorem dX1_moveLatestTo_18 : decode cX1_moveLatestTo 18 = .ok (.aload_n 0, 1) := by decide +kernel
theorem dX1_moveLatestTo_19 : decode cX1_moveLatestTo 19 = .ok (.getfield 17, 3) := by decide +kernel
theorem dX1_moveLatestTo_22 : decode cX1_moveLatestTo 22 = .ok (.aload_n 0, 1) := by decide +kernel
theorem dX1_moveLatestTo_23 : decode cX1_moveLatestTo 23 = .ok (.getfield 9, 3) := by decide +kernel
theorem dX1_moveLatestTo_26 : decode cX1_moveLatestTo 26 = .ok (.aaload, 1) := by decide +kernel
theorem dX1_moveLatestTo_27 : decode cX1_moveLatestTo 27 = .ok (.invokevirtual 25, 3) := by decide +kernel
theorem dX1_moveLatestTo_30 : decode cX1_moveLatestTo 30 = .ok (.return_, 1) := by decide +kernel
theorem dX2_init_0 : decode cX2_init 0 = .ok (.aload_n 0, 1) := by decide +kernel
theorem dX2_init_1 : decode cX2_init 1 = .ok (.invokespecial 3, 3) := by decide +kernel
theorem dX2_init_4 : decode cX2_init 4 = .ok (.aload_n 0, 1) := by decide +kernel
theorem dX2_init_5 : decode cX2_init 5 = .ok (.iconst 0, 1) := by decide +kernel
theorem dX2_init_6 : decode cX2_init 6 = .ok (.putfield 9, 3) := by decide +kernel
theorem dX2_init_9 : decode cX2_init 9 = .ok (.aload_n 0, 1) := by decide +kernel
theorem dX2_init_10 : decode cX2_init 10 = .ok (.bipush 60, 2) := by decide +kernel
theorem dX2_init_12 : decode cX2_init 12 = .ok (.newarray .int, 2) := by decide +kernel
theorem dX2_init_14 : decode cX2_init 14 = .ok (.putfield 15, 3) := by decide +kernel
theorem dX2_init_17 : decode cX2_init 17 = .ok (.aload_n 0, 1) := by decide +kernel
theorem dX2_init_18 : decode cX2_init 18 = .ok (.bipush 60, 2) := by decide +kernel
theorem dX2_init_20 : decode cX2_init 20 = .ok (.newarray .int, 2) := by decide +kernel
theorem dX2_init_22 : decode cX2_init 22 = .ok (.putfield 19, 3) := by decide +kernel
theorem dX2_init_25 : decode cX2_init 25 = .ok (.aload_n 0, 1) := by decide +kernel
theorem dX2_init_26 : decode cX2_init 26 = .ok (.bipush 60, 2) := by decide +kernel
theorem dX2_init_28 : decode cX2_init 28 = .ok (.newarray .int, 2) := by decide +kernel
theorem dX2_init_30 : decode cX2_init 30 = .ok (.putfield 22, 3) := by decide +kernel
theorem dX2_init_33 : decode cX2_init 33 = .ok (.aload_n 0, 1) := by decide +kernel
theorem dX2_init_34 : decode cX2_init 34 = .ok (.bipush 60, 2) := by decide +kernel
theorem dX2_init_36 : decode cX2_init 36 = .ok (.newarray .int, 2) := by decide +kernel
theorem dX2_init_38 : decode cX2_init 38 = .ok (.putfield 25, 3) := by decide +kernel
theorem dX2_init_41 : decode cX2_init 41 = .ok (.aload_n 0, 1) := by decide +kernel
theorem dX2_init_42 : decode cX2_init 42 = .ok (.bipush 60, 2) := by decide +kernel
theorem dX2_init_44 : decode cX2_init 44 = .ok (.newarray .int, 2) := by decide +kernel
theorem dX2_init_46 : decode cX2_init 46 = .ok (.putfield 28, 3) := by decide +kernel
theorem dX2_init_49 : decode cX2_init 49 = .ok (.aload_n 0, 1) := by decide +kernel
theorem dX2_init_50 : decode cX2_init 50 = .ok (.bipush 60, 2) := by decide +kernel
theorem dX2_init_52 : decode cX2_init 52 = .ok (.newarray .int, 2) := by decide +kernel
theorem dX2_init_54 : decode cX2_init 54 = .ok (.putfield 31, 3) := by decide +kernel
theorem dX2_init_57 : decode cX2_init 57 = .ok (.return_, 1) := by decide +kernel
set_option maxRecDepth 20000 in
theorem ggX2_copyFrom_X6_copy : GoodIn wsX2_copyFrom wsX6_copy := goodIn_r _ [10, 11, 12, 13, 14, 15, 16, 17, 18] (by decide +kernel) (by decide +kernel)
set_option maxRecDepth 20000 in
theorem gX2_copyFrom_X6_copy_n34 : GoodIn wsX2_copyFrom (wsX6_copy) := ggX2_copyFrom_X6_copy
theorem dX2_copyFrom_0 : decode cX2_copyFrom 0 = .ok (.aload_n 0, 1) := by decide +kernel
theorem dX2_copyFrom_1 : decode cX2_copyFrom 1 = .ok (.aload_n 1, 1) := by decide +kernel
theorem dX2_copyFrom_2 : decode cX2_copyFrom 2 = .ok (.getfield 9, 3) := by decide +kernel
theorem dX2_copyFrom_5 : decode cX2_copyFrom 5 = .ok (.putfield 9, 3) := by decide +kernel
theorem dX2_copyFrom_8 : decode cX2_copyFrom 8 = .ok (.aload_n 1, 1) := by decide +kernel
theorem dX2_copyFrom_9 : decode cX2_copyFrom 9 = .ok (.getfield 15, 3) := by decide +kernel
theorem dX2_copyFrom_12 : decode cX2_copyFrom 12 = .ok (.aload_n 0, 1) := by decide +kernel
theorem dX2_copyFrom_13 : decode cX2_copyFrom 13 = .ok (.getfield 15, 3) := by decide +kernel
theorem dX2_copyFrom_16 : decode cX2_copyFrom 16 = .ok (.invokestatic 34, 3) := by decide +kernel
theorem dX2_copyFrom_19 : decode cX2_copyFrom 19 = .ok (.aload_n 1, 1) := by decide +kernel
theorem dX2_copyFrom_20 : decode cX2_copyFrom 20 = .ok (.getfield 19, 3) := by decide +kernel
theorem dX2_copyFrom_23 : decode cX2_copyFrom 23 = .ok (.aload_n 0, 1) := by decide +kernel
theorem dX2_copyFrom_24 : decode cX2_copyFrom 24 = .ok (.getfield 19, 3) := by decide +kernel
theorem dX2_copyFrom_27 : decode cX2_copyFrom 27 = .ok (.invokestatic 34, 3) := by decide +kernel
theorem dX2_copyFrom_30 : decode cX2_copyFrom 30 = .ok (.aload_n 1, 1) := by decide +kernel
theorem dX2_copyFrom_31 : decode cX2_copyFrom 31 = .ok (.getfield 22, 3) := by decide +kernel
theorem dX2_copyFrom_34 : decode cX2_copyFrom 34 = .ok (.aload_n 0, 1) := by decide +kernel
theorem dX2_copyFrom_35 : decode cX2_copyFrom 35 = .ok (.getfield 22, 3) := by decide +kernel
theorem dX2_copyFrom_38 : decode cX2_copyFrom 38 = .ok (.invokestatic 34, 3) := by decide +kernel
theorem dX2_copyFrom_41 : decode cX2_copyFrom 41 = .ok (.aload_n 1, 1) := by decide +kernel
theorem dX2_copyFrom_42 : decode cX2_copyFrom 42 = .ok (.getfield 25, 3) := by decide +kernel
theorem dX2_copyFrom_45 : decode cX2_copyFrom 45 = .ok (.aload_n 0, 1) := by decide +kernel
theorem dX2_copyFrom_46 : decode cX2_copyFrom 46 = .ok (.getfield 25, 3) := by decide +kernel
theorem dX2_copyFrom_49 : decode cX2_copyFrom 49 = .ok (.invokestatic 34, 3) := by decide +kernel
theorem dX2_copyFrom_52 : decode cX2_copyFrom 52 = .ok (.aload_n 1, 1) := by decide +kernel
theorem dX2_copyFrom_53 : decode cX2_copyFrom 53 = .ok (.getfield 28, 3) := by decide +kernel
theorem dX2_copyFrom_56 : decode cX2_copyFrom 56 = .ok (.aload_n 0, 1) := by decide +kernel
theorem dX2_copyFrom_57 : decode cX2_copyFrom 57 = .ok (.getfield 28, 3) := by decide +kernel
theorem dX2_copyFrom_60 : decode cX2_copyFrom 60 = .ok (.invokestatic 34, 3) := by decide +kernel
theorem dX2_copyFrom_63 : decode cX2_copyFrom 63 = .ok (.aload_n 1, 1) := by decide +kernel
theorem dX2_copyFrom_64 : decode cX2_copyFrom 64 = .ok (.getfield 31, 3) := by decide +kernel
theorem dX2_copyFrom_67 : decode cX2_copyFrom 67 = .ok (.aload_n 0, 1) := by decide +kernel
theorem dX2_copyFrom_68 : decode cX2_copyFrom 68 = .ok (.getfield 31, 3) := by decide +kernel
theorem dX2_copyFrom_71 : decode cX2_copyFrom 71 = .ok (.invokestatic 34, 3) := by decide +kernel
theorem dX2_copyFrom_74 : decode cX2_copyFrom 74 = .ok (.return_, 1) := by decide +kernel
set_option maxRecDepth 20000 in
theorem ggX2_has_X6_isWithin : GoodIn wsX2_has wsX6_isWithin := goodIn_r _ [4] (by decide +kernel) (by decide +kernel)
set_option maxRecDepth 20000 in
theorem gX2_has_X6_isWithin_n38 : GoodIn wsX2_has (wsX6_isWithin) := ggX2_has_X6_isWithin
theorem dX2_has_0 : decode cX2_has 0 = .ok (.iload_n 1, 1) := by decide +kernel
theorem dX2_has_1 : decode cX2_has 1 = .ok (.iconst 0, 1) := by decide +kernel
theorem dX2_has_2 : decode cX2_has 2 = .ok (.aload_n 0, 1) := by decide +kernel
theorem dX2_has_3 : decode cX2_has 3 = .ok (.getfield 9, 3) := by decide +kernel
theorem dX2_has_6 : decode cX2_has 6 = .ok (.iconst 1, 1) := by decide +kernel
theorem dX2_has_7 : decode cX2_has 7 = .ok (.isub, 1) := by decide +kernel
theorem dX2_has_8 : decode cX2_has 8 = .ok (.invokestatic 38, 3) := by decide +kernel
theorem dX2_has_11 : decode cX2_has 11 = .ok (.ireturn, 1) := by decide +kernel
theorem dX2_isFull_0 : decode cX2_isFull 0 = .ok (.aload_n 0, 1) := by decide +kernel
theorem dX2_isFull_1 : decode cX2_isFull 1 = .ok (.getfield 9, 3) := by decide +kernel
theorem dX2_isFull_4 : decode cX2_isFull 4 = .ok (.bipush 60, 2) := by decide +kernel
theorem dX2_isFull_6 : decode cX2_isFull 6 = .ok (.if_icmp .lt 7, 3) := by decide +kernel
theorem dX2_isFull_9 : decode cX2_isFull 9 = .ok (.iconst 1, 1) := by decide +kernel
theorem dX2_isFull_10 : decode cX2_isFull 10 = .ok (.goto 4, 3) := by decide +kernel
theorem dX2_isFull_13 : decode cX2_isFull 13 = .ok (.iconst 0, 1) := by decide +kernel
theorem dX2_isFull_14 : decode cX2_isFull 14 = .ok (.ireturn, 1) := by decide +kernel
theorem dX2_append_0 : decode cX2_append 0 = .ok (.aload_n 0, 1) := by decide +kernel
theorem dX2_append_1 : decode cX2_append 1 = .ok (.getfield 9, 3) := by decide +kernel
theorem dX2_append_4 : decode cX2_append 4 = .ok (.istore 4, 2) := by decide +kernel
theorem dX2_append_6 : decode cX2_append 6 = .ok (.aload_n 0, 1) := by decide +kernel
theorem dX2_append_7 : decode cX2_append 7 = .ok (.getfield 15, 3) := by decide +kernel
theorem dX2_append_10 : decode cX2_append 10 = .ok (.iload 4, 2) := by decide +kernel
theorem dX2_append_12 : decode cX2_append 12 = .ok (.iload_n 1, 1) := by decide +kernel
theorem dX2_append_13 : decode cX2_append 13 = .ok (.iastore, 1) := by decide +kernel
theorem dX2_append_14 : decode cX2_append 14 = .ok (.aload_n 0, 1) := by decide +kernel
theorem dX2_append_15 : decode cX2_append 15 = .ok (.getfield 19, 3) := by decide +kernel
theorem dX2_append_18 : decode cX2_append 18 = .ok (.iload 4, 2) := by decide +kernel
theorem dX2_append_20 : decode cX2_append 20 = .ok (.iload_n 2, 1) := by decide +kernel
theorem dX2_append_21 : decode cX2_append 21 = .ok (.iastore, 1) := by decide +kernel
theorem dX2_append_22 : decode cX2_append 22 = .ok (.aload_n 0, 1) := by decide +kernel
theorem dX2_append_23 : decode cX2_append 23 = .ok (.getfield 22, 3) := by decide +kernel
theorem dX2_append_26 : decode cX2_append 26 = .ok (.iload 4, 2) := by decide +kernel
theorem dX2_append_28 : decode cX2_append 28 = .ok (.iload_n 3, 1) := by decide +kernel
theorem dX2_append_29 : decode cX2_append 29 = .ok (.iastore, 1) := by decide +kernel
theorem dX2_append_30 : decode cX2_append 30 = .ok (.aload_n 0, 1) := by decide +kernel
theorem dX2_append_31 : decode cX2_append 31 = .ok (.getfield 25, 3) := by decide +kernel
theorem dX2_append_34 : decode cX2_append 34 = .ok (.iload 4, 2) := by decide +kernel
theorem dX2_append_36 : decode cX2_append 36 = .ok (.iconst 0, 1) := by decide +kernel
theorem dX2_append_37 : decode cX2_append 37 = .ok (.iastore, 1) := by decide +kernel
theorem dX2_append_38 : decode cX2_append 38 = .ok (.aload_n 0, 1) := by decide +kernel
theorem dX2_append_39 : decode cX2_append 39 = .ok (.getfield 28, 3) := by decide +kernel
theorem dX2_append_42 : decode cX2_append 42 = .ok (.iload 4, 2) := by decide +kernel
theorem dX2_append_44 : decode cX2_append 44 = .ok (.iconst 0, 1) := by decide +kernel
theorem dX2_append_45 : decode cX2_append 45 = .ok (.iastore, 1) := by decide +kernel
theorem dX2_append_46 : decode cX2_append 46 = .ok (.aload_n 0, 1) := by decide +kernel
theorem dX2_append_47 : decode cX2_append 47 = .ok (.getfield 31, 3) := by decide +kernel
theorem dX2_append_50 : decode cX2_append 50 = .ok (.iload 4, 2) := by decide +kernel
theorem dX2_append_52 : decode cX2_append 52 = .ok (.iconst (-1), 1) := by decide +kernel
theorem dX2_append_53 : decode cX2_append 53 = .ok (.iastore, 1) := by decide +kernel
theorem dX2_append_54 : decode cX2_append 54 = .ok (.aload_n 0, 1) := by decide +kernel
theorem dX2_append_55 : decode cX2_append 55 = .ok (.dup, 1) := by decide +kernel
theorem dX2_append_56 : decode cX2_append 56 = .ok (.getfield 9, 3) := by decide +kernel
theorem dX2_append_59 : decode cX2_append 59 = .ok (.iconst 1, 1) := by decide +kernel
theorem dX2_append_60 : decode cX2_append 60 = .ok (.iadd, 1) := by decide +kernel
theorem dX2_append_61 : decode cX2_append 61 = .ok (.putfield 9, 3) := by decide +kernel
theorem dX2_append_64 : decode cX2_append 64 = .ok (.iload 4, 2) := by decide +kernel
theorem dX2_append_66 : decode cX2_append 66 = .ok (.ireturn, 1) := by decide +kernel
theorem dX2_isDead_0 : decode cX2_isDead 0 = .ok (.aload_n 0, 1) := by decide +kernel
theorem dX2_isDead_1 : decode cX2_isDead 1 = .ok (.getfield 31, 3) := by decide +kernel
theorem dX2_isDead_4 : decode cX2_isDead 4 = .ok (.iload_n 1, 1) := by decide +kernel
theorem dX2_isDead_5 : decode cX2_isDead 5 = .ok (.iaload, 1) := by decide +kernel
theorem dX2_isDead_6 : decode cX2_isDead 6 = .ok (.iconst (-1), 1) := by decide +kernel
theorem dX2_isDead_7 : decode cX2_isDead 7 = .ok (.if_icmp .eq 7, 3) := by decide +kernel
theorem dX2_isDead_10 : decode cX2_isDead 10 = .ok (.iconst 1, 1) := by decide +kernel
theorem dX2_isDead_11 : decode cX2_isDead 11 = .ok (.goto 4, 3) := by decide +kernel
theorem dX2_isDead_14 : decode cX2_isDead 14 = .ok (.iconst 0, 1) := by decide +kernel
theorem dX2_isDead_15 : decode cX2_isDead 15 = .ok (.ireturn, 1) := by decide +kernel
set_option maxRecDepth 20000 in
theorem ggX2_isDeadOf_X2_isDead : GoodIn wsX2_isDeadOf wsX2_isDead := goodIn_r _ [6, 7, 8, 9, 10, 11, 12, 13, 14] (by decide +kernel) (by decide +kernel)
set_option maxRecDepth 20000 in
theorem gX2_isDeadOf_X2_isDead : GoodIn wsX2_isDeadOf (wsV RX2 42 RX2 yX2_isDead wsX2_isDead) := goodIn_app (goodIn_of _ (by decide +kernel)) ggX2_isDeadOf_X2_isDead
theorem dX2_isDeadOf_0 : decode cX2_isDeadOf 0 = .ok (.aload_n 0, 1) := by decide +kernel
theorem dX2_isDeadOf_1 : decode cX2_isDeadOf 1 = .ok (.getfield 15, 3) := by decide +kernel
theorem dX2_isDeadOf_4 : decode cX2_isDeadOf 4 = .ok (.iload_n 1, 1) := by decide +kernel
theorem dX2_isDeadOf_5 : decode cX2_isDeadOf 5 = .ok (.iaload, 1) := by decide +kernel
theorem dX2_isDeadOf_6 : decode cX2_isDeadOf 6 = .ok (.iload_n 2, 1) := by decide +kernel
theorem dX2_isDeadOf_7 : decode cX2_isDeadOf 7 = .ok (.if_icmp .ne 15, 3) := by decide +kernel
theorem dX2_isDeadOf_10 : decode cX2_isDeadOf 10 = .ok (.aload_n 0, 1) := by decide +kernel
theorem dX2_isDeadOf_11 : decode cX2_isDeadOf 11 = .ok (.iload_n 1, 1) := by decide +kernel
theorem dX2_isDeadOf_12 : decode cX2_isDeadOf 12 = .ok (.invokevirtual 42, 3) := by decide +kernel
theorem dX2_isDeadOf_15 : decode cX2_isDeadOf 15 = .ok (.ifCond .eq 7, 3) := by decide +kernel
theorem dX2_isDeadOf_18 : decode cX2_isDeadOf 18 = .ok (.iconst 1, 1) := by decide +kernel
theorem dX2_isDeadOf_19 : decode cX2_isDeadOf 19 = .ok (.goto 4, 3) := by decide +kernel
theorem dX2_isDeadOf_22 : decode cX2_isDeadOf 22 = .ok (.iconst 0, 1) := by decide +kernel
theorem dX2_isDeadOf_23 : decode cX2_isDeadOf 23 = .ok (.ireturn, 1) := by decide +kernel
theorem dX2_hoursCounted_0 : decode cX2_hoursCounted 0 = .ok (.aload_n 0, 1) := by decide +kernel
theorem dX2_hoursCounted_1 : decode cX2_hoursCounted 1 = .ok (.getfield 25, 3) := by decide +kernel
theorem dX2_hoursCounted_4 : decode cX2_hoursCounted 4 = .ok (.iload_n 1, 1) := by decide +kernel
theorem dX2_hoursCounted_5 : decode cX2_hoursCounted 5 = .ok (.iaload, 1) := by decide +kernel
theorem dX2_hoursCounted_6 : decode cX2_hoursCounted 6 = .ok (.bipush 10, 2) := by decide +kernel
theorem dX2_hoursCounted_8 : decode cX2_hoursCounted 8 = .ok (.idiv, 1) := by decide +kernel
theorem dX2_hoursCounted_9 : decode cX2_hoursCounted 9 = .ok (.ireturn, 1) := by decide +kernel
theorem dX2_hoursLeft_0 : decode cX2_hoursLeft 0 = .ok (.iconst 1, 1) := by decide +kernel
theorem dX2_hoursLeft_1 : decode cX2_hoursLeft 1 = .ok (.iload_n 2, 1) := by decide +kernel
theorem dX2_hoursLeft_2 : decode cX2_hoursLeft 2 = .ok (.invokestatic 46, 3) := by decide +kernel
theorem dX2_hoursLeft_5 : decode cX2_hoursLeft 5 = .ok (.istore_n 3, 1) := by decide +kernel
theorem dX2_hoursLeft_6 : decode cX2_hoursLeft 6 = .ok (.bipush 10, 2) := by decide +kernel
theorem dX2_hoursLeft_8 : decode cX2_hoursLeft 8 = .ok (.aload_n 0, 1) := by decide +kernel
theorem dX2_hoursLeft_9 : decode cX2_hoursLeft 9 = .ok (.getfield 22, 3) := by decide +kernel
theorem dX2_hoursLeft_12 : decode cX2_hoursLeft 12 = .ok (.iload_n 1, 1) := by decide +kernel
theorem dX2_hoursLeft_13 : decode cX2_hoursLeft 13 = .ok (.iaload, 1) := by decide +kernel
theorem dX2_hoursLeft_14 : decode cX2_hoursLeft 14 = .ok (.imul, 1) := by decide +kernel
theorem dX2_hoursLeft_15 : decode cX2_hoursLeft 15 = .ok (.aload_n 0, 1) := by decide +kernel
theorem dX2_hoursLeft_16 : decode cX2_hoursLeft 16 = .ok (.getfield 25, 3) := by decide +kernel
theorem dX2_hoursLeft_19 : decode cX2_hoursLeft 19 = .ok (.iload_n 1, 1) := by decide +kernel
theorem dX2_hoursLeft_20 : decode cX2_hoursLeft 20 = .ok (.iaload, 1) := by decide +kernel
theorem dX2_hoursLeft_21 : decode cX2_hoursLeft 21 = .ok (.isub, 1) := by decide +kernel
theorem dX2_hoursLeft_22 : decode cX2_hoursLeft 22 = .ok (.istore 4, 2) := by decide +kernel
theorem dX2_hoursLeft_24 : decode cX2_hoursLeft 24 = .ok (.iload 4, 2) := by decide +kernel
theorem dX2_hoursLeft_26 : decode cX2_hoursLeft 26 = .ok (.iload_n 3, 1) := by decide +kernel
theorem dX2_hoursLeft_27 : decode cX2_hoursLeft 27 = .ok (.iadd, 1) := by decide +kernel
theorem dX2_hoursLeft_28 : decode cX2_hoursLeft 28 = .ok (.iconst 1, 1) := by decide +kernel
theorem dX2_hoursLeft_29 : decode cX2_hoursLeft 29 = .ok (.isub, 1) := by decide +kernel
theorem dX2_hoursLeft_30 : decode cX2_hoursLeft 30 = .ok (.iload_n 3, 1) := by decide +kernel
theorem dX2_hoursLeft_31 : decode cX2_hoursLeft 31 = .ok (.idiv, 1) := by decide +kernel
theorem dX2_hoursLeft_32 : decode cX2_hoursLeft 32 = .ok (.ireturn, 1) := by decide +kernel
theorem dX2_burn_0 : decode cX2_burn 0 = .ok (.aload_n 0, 1) := by decide +kernel
theorem dX2_burn_1 : decode cX2_burn 1 = .ok (.getfield 28, 3) := by decide +kernel
theorem dX2_burn_4 : decode cX2_burn 4 = .ok (.iload_n 1, 1) := by decide +kernel
theorem dX2_burn_5 : decode cX2_burn 5 = .ok (.dup2, 1) := by decide +kernel
theorem dX2_burn_6 : decode cX2_burn 6 = .ok (.iaload, 1) := by decide +kernel
theorem dX2_burn_7 : decode cX2_burn 7 = .ok (.iload_n 3, 1) := by decide +kernel
theorem dX2_burn_8 : decode cX2_burn 8 = .ok (.iadd, 1) := by decide +kernel
theorem dX2_burn_9 : decode cX2_burn 9 = .ok (.iastore, 1) := by decide +kernel
theorem dX2_burn_10 : decode cX2_burn 10 = .ok (.aload_n 0, 1) := by decide +kernel
theorem dX2_burn_11 : decode cX2_burn 11 = .ok (.getfield 25, 3) := by decide +kernel
theorem dX2_burn_14 : decode cX2_burn 14 = .ok (.iload_n 1, 1) := by decide +kernel
theorem dX2_burn_15 : decode cX2_burn 15 = .ok (.dup2, 1) := by decide +kernel
theorem dX2_burn_16 : decode cX2_burn 16 = .ok (.iaload, 1) := by decide +kernel
theorem dX2_burn_17 : decode cX2_burn 17 = .ok (.iload_n 3, 1) := by decide +kernel
theorem dX2_burn_18 : decode cX2_burn 18 = .ok (.iload_n 2, 1) := by decide +kernel
theorem dX2_burn_19 : decode cX2_burn 19 = .ok (.imul, 1) := by decide +kernel
theorem dX2_burn_20 : decode cX2_burn 20 = .ok (.iadd, 1) := by decide +kernel
theorem dX2_burn_21 : decode cX2_burn 21 = .ok (.iastore, 1) := by decide +kernel
theorem dX2_burn_22 : decode cX2_burn 22 = .ok (.return_, 1) := by decide +kernel
set_option maxRecDepth 20000 in
theorem ggX2_countOf_X6_oneIf : GoodIn wsX2_countOf wsX6_oneIf := goodIn_r _ [5] (by decide +kernel) (by decide +kernel)
set_option maxRecDepth 20000 in
theorem gX2_countOf_X6_oneIf_n52 : GoodIn wsX2_countOf (wsX6_oneIf) := ggX2_countOf_X6_oneIf
theorem dX2_countOf_0 : decode cX2_countOf 0 = .ok (.iconst 0, 1) := by decide +kernel
theorem dX2_countOf_1 : decode cX2_countOf 1 = .ok (.istore_n 2, 1) := by decide +kernel
theorem dX2_countOf_2 : decode cX2_countOf 2 = .ok (.iconst 0, 1) := by decide +kernel
theorem dX2_countOf_3 : decode cX2_countOf 3 = .ok (.istore_n 3, 1) := by decide +kernel
theorem dX2_countOf_4 : decode cX2_countOf 4 = .ok (.iload_n 3, 1) := by decide +kernel
theorem dX2_countOf_5 : decode cX2_countOf 5 = .ok (.aload_n 0, 1) := by decide +kernel
theorem dX2_countOf_6 : decode cX2_countOf 6 = .ok (.getfield 9, 3) := by decide +kernel
theorem dX2_countOf_9 : decode cX2_countOf 9 = .ok (.if_icmp .ge 30, 3) := by decide +kernel
theorem dX2_countOf_12 : decode cX2_countOf 12 = .ok (.iload_n 2, 1) := by decide +kernel
theorem dX2_countOf_13 : decode cX2_countOf 13 = .ok (.aload_n 0, 1) := by decide +kernel
theorem dX2_countOf_14 : decode cX2_countOf 14 = .ok (.getfield 15, 3) := by decide +kernel
theorem dX2_countOf_17 : decode cX2_countOf 17 = .ok (.iload_n 3, 1) := by decide +kernel
theorem dX2_countOf_18 : decode cX2_countOf 18 = .ok (.iaload, 1) := by decide +kernel
theorem dX2_countOf_19 : decode cX2_countOf 19 = .ok (.iload_n 1, 1) := by decide +kernel
theorem dX2_countOf_20 : decode cX2_countOf 20 = .ok (.if_icmp .ne 7, 3) := by decide +kernel
theorem dX2_countOf_23 : decode cX2_countOf 23 = .ok (.iconst 1, 1) := by decide +kernel
theorem dX2_countOf_24 : decode cX2_countOf 24 = .ok (.goto 4, 3) := by decide +kernel
theorem dX2_countOf_27 : decode cX2_countOf 27 = .ok (.iconst 0, 1) := by decide +kernel
theorem dX2_countOf_28 : decode cX2_countOf 28 = .ok (.invokestatic 52, 3) := by decide +kernel
theorem dX2_countOf_31 : decode cX2_countOf 31 = .ok (.iadd, 1) := by decide +kernel
theorem dX2_countOf_32 : decode cX2_countOf 32 = .ok (.istore_n 2, 1) := by decide +kernel
theorem dX2_countOf_33 : decode cX2_countOf 33 = .ok (.iinc 3 1, 3) := by decide +kernel
theorem dX2_countOf_36 : decode cX2_countOf 36 = .ok (.goto (-32), 3) := by decide +kernel
theorem dX2_countOf_39 : decode cX2_countOf 39 = .ok (.iload_n 2, 1) := by decide +kernel
theorem dX2_countOf_40 : decode cX2_countOf 40 = .ok (.ireturn, 1) := by decide +kernel
set_option maxRecDepth 20000 in
theorem ggX2_countDeadOf_X2_isDeadOf : GoodIn wsX2_countDeadOf wsX2_isDeadOf := goodIn_r _ [6, 7, 8, 9, 10, 5, 11, 12, 16, 17, 18, 19, 20, 21, 22] (by decide +kernel) (by decide +kernel)
set_option maxRecDepth 20000 in
theorem gX2_countDeadOf_X2_isDeadOf : GoodIn wsX2_countDeadOf (wsV RX2 56 RX2 yX2_isDeadOf wsX2_isDeadOf) := goodIn_app (goodIn_of _ (by decide +kernel)) ggX2_countDeadOf_X2_isDeadOf
set_option maxRecDepth 20000 in
theorem ggX2_countDeadOf_X6_oneIf : GoodIn wsX2_countDeadOf wsX6_oneIf := goodIn_r _ [15] (by decide +kernel) (by decide +kernel)
set_option maxRecDepth 20000 in
theorem gX2_countDeadOf_X6_oneIf_n52 : GoodIn wsX2_countDeadOf (wsX6_oneIf) := ggX2_countDeadOf_X6_oneIf
theorem dX2_countDeadOf_0 : decode cX2_countDeadOf 0 = .ok (.iconst 0, 1) := by decide +kernel
theorem dX2_countDeadOf_1 : decode cX2_countDeadOf 1 = .ok (.istore_n 2, 1) := by decide +kernel
theorem dX2_countDeadOf_2 : decode cX2_countDeadOf 2 = .ok (.iconst 0, 1) := by decide +kernel
theorem dX2_countDeadOf_3 : decode cX2_countDeadOf 3 = .ok (.istore_n 3, 1) := by decide +kernel
theorem dX2_countDeadOf_4 : decode cX2_countDeadOf 4 = .ok (.iload_n 3, 1) := by decide +kernel
theorem dX2_countDeadOf_5 : decode cX2_countDeadOf 5 = .ok (.aload_n 0, 1) := by decide +kernel
theorem dX2_countDeadOf_6 : decode cX2_countDeadOf 6 = .ok (.getfield 9, 3) := by decide +kernel
theorem dX2_countDeadOf_9 : decode cX2_countDeadOf 9 = .ok (.if_icmp .ge 21, 3) := by decide +kernel
theorem dX2_countDeadOf_12 : decode cX2_countDeadOf 12 = .ok (.iload_n 2, 1) := by decide +kernel
theorem dX2_countDeadOf_13 : decode cX2_countDeadOf 13 = .ok (.aload_n 0, 1) := by decide +kernel
theorem dX2_countDeadOf_14 : decode cX2_countDeadOf 14 = .ok (.iload_n 3, 1) := by decide +kernel
theorem dX2_countDeadOf_15 : decode cX2_countDeadOf 15 = .ok (.iload_n 1, 1) := by decide +kernel
theorem dX2_countDeadOf_16 : decode cX2_countDeadOf 16 = .ok (.invokevirtual 56, 3) := by decide +kernel
theorem dX2_countDeadOf_19 : decode cX2_countDeadOf 19 = .ok (.invokestatic 52, 3) := by decide +kernel
theorem dX2_countDeadOf_22 : decode cX2_countDeadOf 22 = .ok (.iadd, 1) := by decide +kernel
theorem dX2_countDeadOf_23 : decode cX2_countDeadOf 23 = .ok (.istore_n 2, 1) := by decide +kernel
theorem dX2_countDeadOf_24 : decode cX2_countDeadOf 24 = .ok (.iinc 3 1, 3) := by decide +kernel
theorem dX2_countDeadOf_27 : decode cX2_countDeadOf 27 = .ok (.goto (-23), 3) := by decide +kernel
theorem dX2_countDeadOf_30 : decode cX2_countDeadOf 30 = .ok (.iload_n 2, 1) := by decide +kernel
theorem dX2_countDeadOf_31 : decode cX2_countDeadOf 31 = .ok (.ireturn, 1) := by decide +kernel
set_option maxRecDepth 20000 in
theorem ggX2_countDeadBelow_X2_isDeadOf : GoodIn wsX2_countDeadBelow wsX2_isDeadOf := goodIn_r _ [6, 7, 8, 9, 10, 5, 11, 12, 21, 22, 23, 24, 25, 26, 27] (by decide +kernel) (by decide +kernel)
set_option maxRecDepth 20000 in
theorem gX2_countDeadBelow_X2_isDeadOf : GoodIn wsX2_countDeadBelow (wsV RX2 56 RX2 yX2_isDeadOf wsX2_isDeadOf) := goodIn_app (goodIn_of _ (by decide +kernel)) ggX2_countDeadBelow_X2_isDeadOf
set_option maxRecDepth 20000 in
theorem ggX2_countDeadBelow_X2_hoursCounted : GoodIn wsX2_countDeadBelow wsX2_hoursCounted := goodIn_r _ [16, 17, 21, 22, 23, 24, 25, 26, 27] (by decide +kernel) (by decide +kernel)
set_option maxRecDepth 20000 in
theorem gX2_countDeadBelow_X2_hoursCounted : GoodIn wsX2_countDeadBelow (wsV RX2 60 RX2 yX2_hoursCounted wsX2_hoursCounted) := goodIn_app (goodIn_of _ (by decide +kernel)) ggX2_countDeadBelow_X2_hoursCounted
set_option maxRecDepth 20000 in
theorem ggX2_countDeadBelow_X6_oneIf : GoodIn wsX2_countDeadBelow wsX6_oneIf := goodIn_r _ [20] (by decide +kernel) (by decide +kernel)
set_option maxRecDepth 20000 in
theorem gX2_countDeadBelow_X6_oneIf_n52 : GoodIn wsX2_countDeadBelow (wsX6_oneIf) := ggX2_countDeadBelow_X6_oneIf
theorem dX2_countDeadBelow_0 : decode cX2_countDeadBelow 0 = .ok (.iconst 0, 1) := by decide +kernel
theorem dX2_countDeadBelow_1 : decode cX2_countDeadBelow 1 = .ok (.istore_n 3, 1) := by decide +kernel
theorem dX2_countDeadBelow_2 : decode cX2_countDeadBelow 2 = .ok (.iconst 0, 1) := by decide +kernel
theorem dX2_countDeadBelow_3 : decode cX2_countDeadBelow 3 = .ok (.istore 4, 2) := by decide +kernel
theorem dX2_countDeadBelow_5 : decode cX2_countDeadBelow 5 = .ok (.iload 4, 2) := by decide +kernel
theorem dX2_countDeadBelow_7 : decode cX2_countDeadBelow 7 = .ok (.aload_n 0, 1) := by decide +kernel
theorem dX2_countDeadBelow_8 : decode cX2_countDeadBelow 8 = .ok (.getfield 9, 3) := by decide +kernel
theorem dX2_countDeadBelow_11 : decode cX2_countDeadBelow 11 = .ok (.if_icmp .ge 40, 3) := by decide +kernel
theorem dX2_countDeadBelow_14 : decode cX2_countDeadBelow 14 = .ok (.iload_n 3, 1) := by decide +kernel
theorem dX2_countDeadBelow_15 : decode cX2_countDeadBelow 15 = .ok (.aload_n 0, 1) := by decide +kernel
theorem dX2_countDeadBelow_16 : decode cX2_countDeadBelow 16 = .ok (.iload 4, 2) := by decide +kernel
theorem dX2_countDeadBelow_18 : decode cX2_countDeadBelow 18 = .ok (.iload_n 1, 1) := by decide +kernel
theorem dX2_countDeadBelow_19 : decode cX2_countDeadBelow 19 = .ok (.invokevirtual 56, 3) := by decide +kernel
theorem dX2_countDeadBelow_22 : decode cX2_countDeadBelow 22 = .ok (.ifCond .eq 17, 3) := by decide +kernel
theorem dX2_countDeadBelow_25 : decode cX2_countDeadBelow 25 = .ok (.aload_n 0, 1) := by decide +kernel
theorem dX2_countDeadBelow_26 : decode cX2_countDeadBelow 26 = .ok (.iload 4, 2) := by decide +kernel
theorem dX2_countDeadBelow_28 : decode cX2_countDeadBelow 28 = .ok (.invokevirtual 60, 3) := by decide +kernel
theorem dX2_countDeadBelow_31 : decode cX2_countDeadBelow 31 = .ok (.iload_n 2, 1) := by decide +kernel
theorem dX2_countDeadBelow_32 : decode cX2_countDeadBelow 32 = .ok (.if_icmp .ge 7, 3) := by decide +kernel
theorem dX2_countDeadBelow_35 : decode cX2_countDeadBelow 35 = .ok (.iconst 1, 1) := by decide +kernel
theorem dX2_countDeadBelow_36 : decode cX2_countDeadBelow 36 = .ok (.goto 4, 3) := by decide +kernel
theorem dX2_countDeadBelow_39 : decode cX2_countDeadBelow 39 = .ok (.iconst 0, 1) := by decide +kernel
theorem dX2_countDeadBelow_40 : decode cX2_countDeadBelow 40 = .ok (.invokestatic 52, 3) := by decide +kernel
theorem dX2_countDeadBelow_43 : decode cX2_countDeadBelow 43 = .ok (.iadd, 1) := by decide +kernel
theorem dX2_countDeadBelow_44 : decode cX2_countDeadBelow 44 = .ok (.istore_n 3, 1) := by decide +kernel
theorem dX2_countDeadBelow_45 : decode cX2_countDeadBelow 45 = .ok (.iinc 4 1, 3) := by decide +kernel
theorem dX2_countDeadBelow_48 : decode cX2_countDeadBelow 48 = .ok (.goto (-43), 3) := by decide +kernel
theorem dX2_countDeadBelow_51 : decode cX2_countDeadBelow 51 = .ok (.iload_n 3, 1) := by decide +kernel
theorem dX2_countDeadBelow_52 : decode cX2_countDeadBelow 52 = .ok (.ireturn, 1) := by decide +kernel
set_option maxRecDepth 20000 in
theorem ggX2_countThatLasted_X2_hoursCounted : GoodIn wsX2_countThatLasted wsX2_hoursCounted := goodIn_r _ [7, 8, 12, 13, 14, 15, 16, 17, 18] (by decide +kernel) (by decide +kernel)
set_option maxRecDepth 20000 in
theorem gX2_countThatLasted_X2_hoursCounted : GoodIn wsX2_countThatLasted (wsV RX2 60 RX2 yX2_hoursCounted wsX2_hoursCounted) := goodIn_app (goodIn_of _ (by decide +kernel)) ggX2_countThatLasted_X2_hoursCounted
set_option maxRecDepth 20000 in
theorem ggX2_countThatLasted_X6_oneIf : GoodIn wsX2_countThatLasted wsX6_oneIf := goodIn_r _ [11] (by decide +kernel) (by decide +kernel)
set_option maxRecDepth 20000 in
theorem gX2_countThatLasted_X6_oneIf_n52 : GoodIn wsX2_countThatLasted (wsX6_oneIf) := ggX2_countThatLasted_X6_oneIf
theorem dX2_countThatLasted_0 : decode cX2_countThatLasted 0 = .ok (.iconst 0, 1) := by decide +kernel
theorem dX2_countThatLasted_1 : decode cX2_countThatLasted 1 = .ok (.istore_n 3, 1) := by decide +kernel
theorem dX2_countThatLasted_2 : decode cX2_countThatLasted 2 = .ok (.iconst 0, 1) := by decide +kernel
theorem dX2_countThatLasted_3 : decode cX2_countThatLasted 3 = .ok (.istore 4, 2) := by decide +kernel
theorem dX2_countThatLasted_5 : decode cX2_countThatLasted 5 = .ok (.iload 4, 2) := by decide +kernel
theorem dX2_countThatLasted_7 : decode cX2_countThatLasted 7 = .ok (.aload_n 0, 1) := by decide +kernel
theorem dX2_countThatLasted_8 : decode cX2_countThatLasted 8 = .ok (.getfield 9, 3) := by decide +kernel
theorem dX2_countThatLasted_11 : decode cX2_countThatLasted 11 = .ok (.if_icmp .ge 41, 3) := by decide +kernel
theorem dX2_countThatLasted_14 : decode cX2_countThatLasted 14 = .ok (.iload_n 3, 1) := by decide +kernel
theorem dX2_countThatLasted_15 : decode cX2_countThatLasted 15 = .ok (.aload_n 0, 1) := by decide +kernel
theorem dX2_countThatLasted_16 : decode cX2_countThatLasted 16 = .ok (.getfield 15, 3) := by decide +kernel
theorem dX2_countThatLasted_19 : decode cX2_countThatLasted 19 = .ok (.iload 4, 2) := by decide +kernel
theorem dX2_countThatLasted_21 : decode cX2_countThatLasted 21 = .ok (.iaload, 1) := by decide +kernel
theorem dX2_countThatLasted_22 : decode cX2_countThatLasted 22 = .ok (.iload_n 1, 1) := by decide +kernel
theorem dX2_countThatLasted_23 : decode cX2_countThatLasted 23 = .ok (.if_icmp .ne 17, 3) := by decide +kernel
theorem dX2_countThatLasted_26 : decode cX2_countThatLasted 26 = .ok (.aload_n 0, 1) := by decide +kernel
theorem dX2_countThatLasted_27 : decode cX2_countThatLasted 27 = .ok (.iload 4, 2) := by decide +kernel
theorem dX2_countThatLasted_29 : decode cX2_countThatLasted 29 = .ok (.invokevirtual 60, 3) := by decide +kernel
theorem dX2_countThatLasted_32 : decode cX2_countThatLasted 32 = .ok (.iload_n 2, 1) := by decide +kernel
theorem dX2_countThatLasted_33 : decode cX2_countThatLasted 33 = .ok (.if_icmp .lt 7, 3) := by decide +kernel
theorem dX2_countThatLasted_36 : decode cX2_countThatLasted 36 = .ok (.iconst 1, 1) := by decide +kernel
theorem dX2_countThatLasted_37 : decode cX2_countThatLasted 37 = .ok (.goto 4, 3) := by decide +kernel
theorem dX2_countThatLasted_40 : decode cX2_countThatLasted 40 = .ok (.iconst 0, 1) := by decide +kernel
theorem dX2_countThatLasted_41 : decode cX2_countThatLasted 41 = .ok (.invokestatic 52, 3) := by decide +kernel
theorem dX2_countThatLasted_44 : decode cX2_countThatLasted 44 = .ok (.iadd, 1) := by decide +kernel
theorem dX2_countThatLasted_45 : decode cX2_countThatLasted 45 = .ok (.istore_n 3, 1) := by decide +kernel
theorem dX2_countThatLasted_46 : decode cX2_countThatLasted 46 = .ok (.iinc 4 1, 3) := by decide +kernel
theorem dX2_countThatLasted_49 : decode cX2_countThatLasted 49 = .ok (.goto (-44), 3) := by decide +kernel
theorem dX2_countThatLasted_52 : decode cX2_countThatLasted 52 = .ok (.iload_n 3, 1) := by decide +kernel
theorem dX2_countThatLasted_53 : decode cX2_countThatLasted 53 = .ok (.ireturn, 1) := by decide +kernel
set_option maxRecDepth 20000 in
theorem ggX2_countDead_X2_isDead : GoodIn wsX2_countDead wsX2_isDead := goodIn_r _ [6, 7, 11, 12, 13, 14, 15, 16, 17] (by decide +kernel) (by decide +kernel)
set_option maxRecDepth 20000 in
theorem gX2_countDead_X2_isDead : GoodIn wsX2_countDead (wsV RX2 42 RX2 yX2_isDead wsX2_isDead) := goodIn_app (goodIn_of _ (by decide +kernel)) ggX2_countDead_X2_isDead
set_option maxRecDepth 20000 in
theorem ggX2_countDead_X6_oneIf : GoodIn wsX2_countDead wsX6_oneIf := goodIn_r _ [10] (by decide +kernel) (by decide +kernel)
set_option maxRecDepth 20000 in
theorem gX2_countDead_X6_oneIf_n52 : GoodIn wsX2_countDead (wsX6_oneIf) := ggX2_countDead_X6_oneIf
theorem dX2_countDead_0 : decode cX2_countDead 0 = .ok (.iconst 0, 1) := by decide +kernel
theorem dX2_countDead_1 : decode cX2_countDead 1 = .ok (.istore_n 1, 1) := by decide +kernel
theorem dX2_countDead_2 : decode cX2_countDead 2 = .ok (.iconst 0, 1) := by decide +kernel
theorem dX2_countDead_3 : decode cX2_countDead 3 = .ok (.istore_n 2, 1) := by decide +kernel
theorem dX2_countDead_4 : decode cX2_countDead 4 = .ok (.iload_n 2, 1) := by decide +kernel
theorem dX2_countDead_5 : decode cX2_countDead 5 = .ok (.aload_n 0, 1) := by decide +kernel
theorem dX2_countDead_6 : decode cX2_countDead 6 = .ok (.getfield 9, 3) := by decide +kernel
theorem dX2_countDead_9 : decode cX2_countDead 9 = .ok (.if_icmp .ge 20, 3) := by decide +kernel
theorem dX2_countDead_12 : decode cX2_countDead 12 = .ok (.iload_n 1, 1) := by decide +kernel
theorem dX2_countDead_13 : decode cX2_countDead 13 = .ok (.aload_n 0, 1) := by decide +kernel
theorem dX2_countDead_14 : decode cX2_countDead 14 = .ok (.iload_n 2, 1) := by decide +kernel
theorem dX2_countDead_15 : decode cX2_countDead 15 = .ok (.invokevirtual 42, 3) := by decide +kernel
theorem dX2_countDead_18 : decode cX2_countDead 18 = .ok (.invokestatic 52, 3) := by decide +kernel
theorem dX2_countDead_21 : decode cX2_countDead 21 = .ok (.iadd, 1) := by decide +kernel
theorem dX2_countDead_22 : decode cX2_countDead 22 = .ok (.istore_n 1, 1) := by decide +kernel
theorem dX2_countDead_23 : decode cX2_countDead 23 = .ok (.iinc 2 1, 3) := by decide +kernel
theorem dX2_countDead_26 : decode cX2_countDead 26 = .ok (.goto (-22), 3) := by decide +kernel
theorem dX2_countDead_29 : decode cX2_countDead 29 = .ok (.iload_n 1, 1) := by decide +kernel
theorem dX2_countDead_30 : decode cX2_countDead 30 = .ok (.ireturn, 1) := by decide +kernel
set_option maxRecDepth 20000 in
theorem ggX2_countInRacks_X6_oneIf : GoodIn wsX2_countInRacks wsX6_oneIf := goodIn_r _ [5] (by decide +kernel) (by decide +kernel)
set_option maxRecDepth 20000 in
theorem gX2_countInRacks_X6_oneIf_n52 : GoodIn wsX2_countInRacks (wsX6_oneIf) := ggX2_countInRacks_X6_oneIf
theorem dX2_countInRacks_0 : decode cX2_countInRacks 0 = .ok (.iconst 0, 1) := by decide +kernel
theorem dX2_countInRacks_1 : decode cX2_countInRacks 1 = .ok (.istore_n 1, 1) := by decide +kernel
theorem dX2_countInRacks_2 : decode cX2_countInRacks 2 = .ok (.iconst 0, 1) := by decide +kernel
theorem dX2_countInRacks_3 : decode cX2_countInRacks 3 = .ok (.istore_n 2, 1) := by decide +kernel
theorem dX2_countInRacks_4 : decode cX2_countInRacks 4 = .ok (.iload_n 2, 1) := by decide +kernel
theorem dX2_countInRacks_5 : decode cX2_countInRacks 5 = .ok (.aload_n 0, 1) := by decide +kernel
theorem dX2_countInRacks_6 : decode cX2_countInRacks 6 = .ok (.getfield 9, 3) := by decide +kernel
theorem dX2_countInRacks_9 : decode cX2_countInRacks 9 = .ok (.if_icmp .ge 30, 3) := by decide +kernel
theorem dX2_countInRacks_12 : decode cX2_countInRacks 12 = .ok (.iload_n 1, 1) := by decide +kernel
theorem dX2_countInRacks_13 : decode cX2_countInRacks 13 = .ok (.aload_n 0, 1) := by decide +kernel
theorem dX2_countInRacks_14 : decode cX2_countInRacks 14 = .ok (.getfield 19, 3) := by decide +kernel
theorem dX2_countInRacks_17 : decode cX2_countInRacks 17 = .ok (.iload_n 2, 1) := by decide +kernel
theorem dX2_countInRacks_18 : decode cX2_countInRacks 18 = .ok (.iaload, 1) := by decide +kernel
theorem dX2_countInRacks_19 : decode cX2_countInRacks 19 = .ok (.iconst (-1), 1) := by decide +kernel
theorem dX2_countInRacks_20 : decode cX2_countInRacks 20 = .ok (.if_icmp .eq 7, 3) := by decide +kernel
theorem dX2_countInRacks_23 : decode cX2_countInRacks 23 = .ok (.iconst 1, 1) := by decide +kernel
theorem dX2_countInRacks_24 : decode cX2_countInRacks 24 = .ok (.goto 4, 3) := by decide +kernel
theorem dX2_countInRacks_27 : decode cX2_countInRacks 27 = .ok (.iconst 0, 1) := by decide +kernel
theorem dX2_countInRacks_28 : decode cX2_countInRacks 28 = .ok (.invokestatic 52, 3) := by decide +kernel
theorem dX2_countInRacks_31 : decode cX2_countInRacks 31 = .ok (.iadd, 1) := by decide +kernel
theorem dX2_countInRacks_32 : decode cX2_countInRacks 32 = .ok (.istore_n 1, 1) := by decide +kernel
theorem dX2_countInRacks_33 : decode cX2_countInRacks 33 = .ok (.iinc 2 1, 3) := by decide +kernel
theorem dX2_countInRacks_36 : decode cX2_countInRacks 36 = .ok (.goto (-32), 3) := by decide +kernel
theorem dX2_countInRacks_39 : decode cX2_countInRacks 39 = .ok (.iload_n 1, 1) := by decide +kernel
theorem dX2_countInRacks_40 : decode cX2_countInRacks 40 = .ok (.ireturn, 1) := by decide +kernel
set_option maxRecDepth 20000 in
theorem ggX2_countWeak_X6_isWeak : GoodIn wsX2_countWeak wsX6_isWeak := goodIn_r _ [4, 5, 6, 3, 7] (by decide +kernel) (by decide +kernel)
set_option maxRecDepth 20000 in
theorem gX2_countWeak_X6_isWeak_n64 : GoodIn wsX2_countWeak (wsX6_isWeak) := ggX2_countWeak_X6_isWeak
set_option maxRecDepth 20000 in
theorem ggX2_countWeak_X6_oneIf : GoodIn wsX2_countWeak wsX6_oneIf := goodIn_r _ [9] (by decide +kernel) (by decide +kernel)
set_option maxRecDepth 20000 in
theorem gX2_countWeak_X6_oneIf_n52 : GoodIn wsX2_countWeak (wsX6_oneIf) := ggX2_countWeak_X6_oneIf
theorem dX2_countWeak_0 : decode cX2_countWeak 0 = .ok (.iconst 0, 1) := by decide +kernel
theorem dX2_countWeak_1 : decode cX2_countWeak 1 = .ok (.istore_n 1, 1) := by decide +kernel
theorem dX2_countWeak_2 : decode cX2_countWeak 2 = .ok (.iconst 0, 1) := by decide +kernel
theorem dX2_countWeak_3 : decode cX2_countWeak 3 = .ok (.istore_n 2, 1) := by decide +kernel
theorem dX2_countWeak_4 : decode cX2_countWeak 4 = .ok (.iload_n 2, 1) := by decide +kernel
theorem dX2_countWeak_5 : decode cX2_countWeak 5 = .ok (.aload_n 0, 1) := by decide +kernel
theorem dX2_countWeak_6 : decode cX2_countWeak 6 = .ok (.getfield 9, 3) := by decide +kernel
theorem dX2_countWeak_9 : decode cX2_countWeak 9 = .ok (.if_icmp .ge 19, 3) := by decide +kernel
theorem dX2_countWeak_12 : decode cX2_countWeak 12 = .ok (.iload_n 1, 1) := by decide +kernel
theorem dX2_countWeak_13 : decode cX2_countWeak 13 = .ok (.iload_n 2, 1) := by decide +kernel
theorem dX2_countWeak_14 : decode cX2_countWeak 14 = .ok (.invokestatic 64, 3) := by decide +kernel
theorem dX2_countWeak_17 : decode cX2_countWeak 17 = .ok (.invokestatic 52, 3) := by decide +kernel
theorem dX2_countWeak_20 : decode cX2_countWeak 20 = .ok (.iadd, 1) := by decide +kernel
theorem dX2_countWeak_21 : decode cX2_countWeak 21 = .ok (.istore_n 1, 1) := by decide +kernel
theorem dX2_countWeak_22 : decode cX2_countWeak 22 = .ok (.iinc 2 1, 3) := by decide +kernel
theorem dX2_countWeak_25 : decode cX2_countWeak 25 = .ok (.goto (-21), 3) := by decide +kernel
theorem dX2_countWeak_28 : decode cX2_countWeak 28 = .ok (.iload_n 1, 1) := by decide +kernel
theorem dX2_countWeak_29 : decode cX2_countWeak 29 = .ok (.ireturn, 1) := by decide +kernel
theorem dX2_sumOf_0 : decode cX2_sumOf 0 = .ok (.iconst 0, 1) := by decide +kernel
theorem dX2_sumOf_1 : decode cX2_sumOf 1 = .ok (.istore_n 2, 1) := by decide +kernel
theorem dX2_sumOf_2 : decode cX2_sumOf 2 = .ok (.iconst 0, 1) := by decide +kernel
theorem dX2_sumOf_3 : decode cX2_sumOf 3 = .ok (.istore_n 3, 1) := by decide +kernel
theorem dX2_sumOf_4 : decode cX2_sumOf 4 = .ok (.iload_n 3, 1) := by decide +kernel
theorem dX2_sumOf_5 : decode cX2_sumOf 5 = .ok (.aload_n 0, 1) := by decide +kernel
theorem dX2_sumOf_6 : decode cX2_sumOf 6 = .ok (.getfield 9, 3) := by decide +kernel
theorem dX2_sumOf_9 : decode cX2_sumOf 9 = .ok (.aload_n 1, 1) := by decide +kernel
theorem dX2_sumOf_10 : decode cX2_sumOf 10 = .ok (.arraylength, 1) := by decide +kernel
theorem dX2_sumOf_11 : decode cX2_sumOf 11 = .ok (.invokestatic 67, 3) := by decide +kernel
theorem dX2_sumOf_14 : decode cX2_sumOf 14 = .ok (.if_icmp .ge 15, 3) := by decide +kernel
theorem dX2_sumOf_17 : decode cX2_sumOf 17 = .ok (.iload_n 2, 1) := by decide +kernel
theorem dX2_sumOf_18 : decode cX2_sumOf 18 = .ok (.aload_n 1, 1) := by decide +kernel
theorem dX2_sumOf_19 : decode cX2_sumOf 19 = .ok (.iload_n 3, 1) := by decide +kernel
theorem dX2_sumOf_20 : decode cX2_sumOf 20 = .ok (.iaload, 1) := by decide +kernel
theorem dX2_sumOf_21 : decode cX2_sumOf 21 = .ok (.iadd, 1) := by decide +kernel
theorem dX2_sumOf_22 : decode cX2_sumOf 22 = .ok (.istore_n 2, 1) := by decide +kernel
theorem dX2_sumOf_23 : decode cX2_sumOf 23 = .ok (.iinc 3 1, 3) := by decide +kernel
theorem dX2_sumOf_26 : decode cX2_sumOf 26 = .ok (.goto (-22), 3) := by decide +kernel
theorem dX2_sumOf_29 : decode cX2_sumOf 29 = .ok (.iload_n 2, 1) := by decide +kernel
theorem dX2_sumOf_30 : decode cX2_sumOf 30 = .ok (.ireturn, 1) := by decide +kernel
set_option maxRecDepth 20000 in
theorem ggX2_findEnded_X2_isDead : GoodIn wsX2_findEnded wsX2_isDead := goodIn_r _ [6, 7, 15, 16, 17, 18, 19, 20, 21] (by decide +kernel) (by decide +kernel)
set_option maxRecDepth 20000 in
theorem gX2_findEnded_X2_isDead : GoodIn wsX2_findEnded (wsV RX2 42 RX2 yX2_isDead wsX2_isDead) := goodIn_app (goodIn_of _ (by decide +kernel)) ggX2_findEnded_X2_isDead
set_option maxRecDepth 20000 in
theorem ggX2_findEnded_X2_countEndedBefore : GoodIn wsX2_findEnded wsX2_countEndedBefore := goodIn_r _ [11, 1, 7, 2, 3, 4, 5, 6, 12, 13, 14, 15, 16, 17, 18, 19, 20, 21] (by decide +kernel) (by decide +kernel)
set_option maxRecDepth 20000 in
theorem gX2_findEnded_X2_countEndedBefore : GoodIn wsX2_findEnded (wsV RX2 70 RX2 yX2_countEndedBefore wsX2_countEndedBefore) := goodIn_app (goodIn_of _ (by decide +kernel)) ggX2_findEnded_X2_countEndedBefore
theorem dX2_findEnded_0 : decode cX2_findEnded 0 = .ok (.iconst 0, 1) := by decide +kernel
theorem dX2_findEnded_1 : decode cX2_findEnded 1 = .ok (.istore_n 2, 1) := by decide +kernel
theorem dX2_findEnded_2 : decode cX2_findEnded 2 = .ok (.iload_n 2, 1) := by decide +kernel
theorem dX2_findEnded_3 : decode cX2_findEnded 3 = .ok (.aload_n 0, 1) := by decide +kernel
theorem dX2_findEnded_4 : decode cX2_findEnded 4 = .ok (.getfield 9, 3) := by decide +kernel
theorem dX2_findEnded_7 : decode cX2_findEnded 7 = .ok (.if_icmp .ge 28, 3) := by decide +kernel
theorem dX2_findEnded_10 : decode cX2_findEnded 10 = .ok (.aload_n 0, 1) := by decide +kernel
theorem dX2_findEnded_11 : decode cX2_findEnded 11 = .ok (.iload_n 2, 1) := by decide +kernel
theorem dX2_findEnded_12 : decode cX2_findEnded 12 = .ok (.invokevirtual 42, 3) := by decide +kernel
theorem dX2_findEnded_15 : decode cX2_findEnded 15 = .ok (.ifCond .eq 14, 3) := by decide +kernel
theorem dX2_findEnded_18 : decode cX2_findEnded 18 = .ok (.aload_n 0, 1) := by decide +kernel
theorem dX2_findEnded_19 : decode cX2_findEnded 19 = .ok (.iload_n 2, 1) := by decide +kernel
theorem dX2_findEnded_20 : decode cX2_findEnded 20 = .ok (.invokevirtual 70, 3) := by decide +kernel
theorem dX2_findEnded_23 : decode cX2_findEnded 23 = .ok (.iload_n 1, 1) := by decide +kernel
theorem dX2_findEnded_24 : decode cX2_findEnded 24 = .ok (.if_icmp .ne 5, 3) := by decide +kernel
theorem dX2_findEnded_27 : decode cX2_findEnded 27 = .ok (.iload_n 2, 1) := by decide +kernel
theorem dX2_findEnded_28 : decode cX2_findEnded 28 = .ok (.ireturn, 1) := by decide +kernel
theorem dX2_findEnded_29 : decode cX2_findEnded 29 = .ok (.iinc 2 1, 3) := by decide +kernel
theorem dX2_findEnded_32 : decode cX2_findEnded 32 = .ok (.goto (-30), 3) := by decide +kernel
theorem dX2_findEnded_35 : decode cX2_findEnded 35 = .ok (.iconst (-1), 1) := by decide +kernel
theorem dX2_findEnded_36 : decode cX2_findEnded 36 = .ok (.ireturn, 1) := by decide +kernel
set_option maxRecDepth 20000 in
theorem ggX2_countEndedBefore_X2_isDead : GoodIn wsX2_countEndedBefore wsX2_isDead := goodIn_r _ [7, 2, 11, 12, 13, 14, 15, 16, 17] (by decide +kernel) (by decide +kernel)
set_option maxRecDepth 20000 in
theorem gX2_countEndedBefore_X2_isDead : GoodIn wsX2_countEndedBefore (wsV RX2 42 RX2 yX2_isDead wsX2_isDead) := goodIn_app (goodIn_of _ (by decide +kernel)) ggX2_countEndedBefore_X2_isDead
set_option maxRecDepth 20000 in
theorem ggX2_countEndedBefore_X6_oneIf : GoodIn wsX2_countEndedBefore wsX6_oneIf := goodIn_r _ [10] (by decide +kernel) (by decide +kernel)
set_option maxRecDepth 20000 in
theorem gX2_countEndedBefore_X6_oneIf_n52 : GoodIn wsX2_countEndedBefore (wsX6_oneIf) := ggX2_countEndedBefore_X6_oneIf
theorem dX2_countEndedBefore_0 : decode cX2_countEndedBefore 0 = .ok (.iconst 0, 1) := by decide +kernel
theorem dX2_countEndedBefore_1 : decode cX2_countEndedBefore 1 = .ok (.istore_n 2, 1) := by decide +kernel
theorem dX2_countEndedBefore_2 : decode cX2_countEndedBefore 2 = .ok (.iconst 0, 1) := by decide +kernel
theorem dX2_countEndedBefore_3 : decode cX2_countEndedBefore 3 = .ok (.istore_n 3, 1) := by decide +kernel
theorem dX2_countEndedBefore_4 : decode cX2_countEndedBefore 4 = .ok (.iload_n 3, 1) := by decide +kernel
theorem dX2_countEndedBefore_5 : decode cX2_countEndedBefore 5 = .ok (.aload_n 0, 1) := by decide +kernel
theorem dX2_countEndedBefore_6 : decode cX2_countEndedBefore 6 = .ok (.getfield 9, 3) := by decide +kernel
theorem dX2_countEndedBefore_9 : decode cX2_countEndedBefore 9 = .ok (.if_icmp .ge 75, 3) := by decide +kernel
theorem dX2_countEndedBefore_12 : decode cX2_countEndedBefore 12 = .ok (.aload_n 0, 1) := by decide +kernel
theorem dX2_countEndedBefore_13 : decode cX2_countEndedBefore 13 = .ok (.getfield 31, 3) := by decide +kernel
theorem dX2_countEndedBefore_16 : decode cX2_countEndedBefore 16 = .ok (.iload_n 3, 1) := by decide +kernel
theorem dX2_countEndedBefore_17 : decode cX2_countEndedBefore 17 = .ok (.iaload, 1) := by decide +kernel
theorem dX2_countEndedBefore_18 : decode cX2_countEndedBefore 18 = .ok (.aload_n 0, 1) := by decide +kernel
theorem dX2_countEndedBefore_19 : decode cX2_countEndedBefore 19 = .ok (.getfield 31, 3) := by decide +kernel
theorem dX2_countEndedBefore_22 : decode cX2_countEndedBefore 22 = .ok (.iload_n 1, 1) := by decide +kernel
theorem dX2_countEndedBefore_23 : decode cX2_countEndedBefore 23 = .ok (.iaload, 1) := by decide +kernel
theorem dX2_countEndedBefore_24 : decode cX2_countEndedBefore 24 = .ok (.if_icmp .lt 23, 3) := by decide +kernel
theorem dX2_countEndedBefore_27 : decode cX2_countEndedBefore 27 = .ok (.aload_n 0, 1) := by decide +kernel
theorem dX2_countEndedBefore_28 : decode cX2_countEndedBefore 28 = .ok (.getfield 31, 3) := by decide +kernel
theorem dX2_countEndedBefore_31 : decode cX2_countEndedBefore 31 = .ok (.iload_n 3, 1) := by decide +kernel
theorem dX2_countEndedBefore_32 : decode cX2_countEndedBefore 32 = .ok (.iaload, 1) := by decide +kernel
theorem dX2_countEndedBefore_33 : decode cX2_countEndedBefore 33 = .ok (.aload_n 0, 1) := by decide +kernel
theorem dX2_countEndedBefore_34 : decode cX2_countEndedBefore 34 = .ok (.getfield 31, 3) := by decide +kernel
theorem dX2_countEndedBefore_37 : decode cX2_countEndedBefore 37 = .ok (.iload_n 1, 1) := by decide +kernel
theorem dX2_countEndedBefore_38 : decode cX2_countEndedBefore 38 = .ok (.iaload, 1) := by decide +kernel
theorem dX2_countEndedBefore_39 : decode cX2_countEndedBefore 39 = .ok (.if_icmp .ne 12, 3) := by decide +kernel
theorem dX2_countEndedBefore_42 : decode cX2_countEndedBefore 42 = .ok (.iload_n 3, 1) := by decide +kernel
theorem dX2_countEndedBefore_43 : decode cX2_countEndedBefore 43 = .ok (.iload_n 1, 1) := by decide +kernel
theorem dX2_countEndedBefore_44 : decode cX2_countEndedBefore 44 = .ok (.if_icmp .ge 7, 3) := by decide +kernel
theorem dX2_countEndedBefore_47 : decode cX2_countEndedBefore 47 = .ok (.iconst 1, 1) := by decide +kernel
theorem dX2_countEndedBefore_48 : decode cX2_countEndedBefore 48 = .ok (.goto 4, 3) := by decide +kernel
theorem dX2_countEndedBefore_51 : decode cX2_countEndedBefore 51 = .ok (.iconst 0, 1) := by decide +kernel
theorem dX2_countEndedBefore_52 : decode cX2_countEndedBefore 52 = .ok (.istore 4, 2) := by decide +kernel
theorem dX2_countEndedBefore_54 : decode cX2_countEndedBefore 54 = .ok (.iload_n 2, 1) := by decide +kernel
theorem dX2_countEndedBefore_55 : decode cX2_countEndedBefore 55 = .ok (.aload_n 0, 1) := by decide +kernel
theorem dX2_countEndedBefore_56 : decode cX2_countEndedBefore 56 = .ok (.iload_n 3, 1) := by decide +kernel
theorem dX2_countEndedBefore_57 : decode cX2_countEndedBefore 57 = .ok (.invokevirtual 42, 3) := by decide +kernel
theorem dX2_countEndedBefore_60 : decode cX2_countEndedBefore 60 = .ok (.ifCond .eq 12, 3) := by decide +kernel
theorem dX2_countEndedBefore_63 : decode cX2_countEndedBefore 63 = .ok (.iload 4, 2) := by decide +kernel
theorem dX2_countEndedBefore_65 : decode cX2_countEndedBefore 65 = .ok (.ifCond .eq 7, 3) := by decide +kernel
theorem dX2_countEndedBefore_68 : decode cX2_countEndedBefore 68 = .ok (.iconst 1, 1) := by decide +kernel
theorem dX2_countEndedBefore_69 : decode cX2_countEndedBefore 69 = .ok (.goto 4, 3) := by decide +kernel
theorem dX2_countEndedBefore_72 : decode cX2_countEndedBefore 72 = .ok (.iconst 0, 1) := by decide +kernel
theorem dX2_countEndedBefore_73 : decode cX2_countEndedBefore 73 = .ok (.invokestatic 52, 3) := by decide +kernel
theorem dX2_countEndedBefore_76 : decode cX2_countEndedBefore 76 = .ok (.iadd, 1) := by decide +kernel
theorem dX2_countEndedBefore_77 : decode cX2_countEndedBefore 77 = .ok (.istore_n 2, 1) := by decide +kernel
theorem dX2_countEndedBefore_78 : decode cX2_countEndedBefore 78 = .ok (.iinc 3 1, 3) := by decide +kernel
theorem dX2_countEndedBefore_81 : decode cX2_countEndedBefore 81 = .ok (.goto (-77), 3) := by decide +kernel
theorem dX2_countEndedBefore_84 : decode cX2_countEndedBefore 84 = .ok (.iload_n 2, 1) := by decide +kernel
theorem dX2_countEndedBefore_85 : decode cX2_countEndedBefore 85 = .ok (.ireturn, 1) := by decide +kernel
theorem dX2_findFirstEndedAfter_0 : decode cX2_findFirstEndedAfter 0 = .ok (.iconst (-1), 1) := by decide +kernel
theorem dX2_findFirstEndedAfter_1 : decode cX2_findFirstEndedAfter 1 = .ok (.istore_n 2, 1) := by decide +kernel
theorem dX2_findFirstEndedAfter_2 : decode cX2_findFirstEndedAfter 2 = .ok (.iconst 0, 1) := by decide +kernel
theorem dX2_findFirstEndedAfter_3 : decode cX2_findFirstEndedAfter 3 = .ok (.istore_n 3, 1) := by decide +kernel
theorem dX2_findFirstEndedAfter_4 : decode cX2_findFirstEndedAfter 4 = .ok (.iload_n 3, 1) := by decide +kernel
theorem dX2_findFirstEndedAfter_5 : decode cX2_findFirstEndedAfter 5 = .ok (.aload_n 0, 1) := by decide +kernel
theorem dX2_findFirstEndedAfter_6 : decode cX2_findFirstEndedAfter 6 = .ok (.getfield 9, 3) := by decide +kernel
theorem dX2_findFirstEndedAfter_9 : decode cX2_findFirstEndedAfter 9 = .ok (.if_icmp .ge 41, 3) := by decide +kernel
theorem dX2_findFirstEndedAfter_12 : decode cX2_findFirstEndedAfter 12 = .ok (.aload_n 0, 1) := by decide +kernel
theorem dX2_findFirstEndedAfter_13 : decode cX2_findFirstEndedAfter 13 = .ok (.getfield 31, 3) := by decide +kernel
theorem dX2_findFirstEndedAfter_16 : decode cX2_findFirstEndedAfter 16 = .ok (.iload_n 3, 1) := by decide +kernel
theorem dX2_findFirstEndedAfter_17 : decode cX2_findFirstEndedAfter 17 = .ok (.iaload, 1) := by decide +kernel
theorem dX2_findFirstEndedAfter_18 : decode cX2_findFirstEndedAfter 18 = .ok (.iload_n 1, 1) := by decide +kernel
theorem dX2_findFirstEndedAfter_19 : decode cX2_findFirstEndedAfter 19 = .ok (.if_icmp .le 25, 3) := by decide +kernel
theorem dX2_findFirstEndedAfter_22 : decode cX2_findFirstEndedAfter 22 = .ok (.iload_n 2, 1) := by decide +kernel
theorem dX2_findFirstEndedAfter_23 : decode cX2_findFirstEndedAfter 23 = .ok (.iconst (-1), 1) := by decide +kernel
theorem dX2_findFirstEndedAfter_24 : decode cX2_findFirstEndedAfter 24 = .ok (.if_icmp .eq 18, 3) := by decide +kernel
theorem dX2_findFirstEndedAfter_27 : decode cX2_findFirstEndedAfter 27 = .ok (.aload_n 0, 1) := by decide +kernel
theorem dX2_findFirstEndedAfter_28 : decode cX2_findFirstEndedAfter 28 = .ok (.getfield 31, 3) := by decide +kernel
theorem dX2_findFirstEndedAfter_31 : decode cX2_findFirstEndedAfter 31 = .ok (.iload_n 3, 1) := by decide +kernel
theorem dX2_findFirstEndedAfter_32 : decode cX2_findFirstEndedAfter 32 = .ok (.iaload, 1) := by decide +kernel
theorem dX2_findFirstEndedAfter_33 : decode cX2_findFirstEndedAfter 33 = .ok (.aload_n 0, 1) := by decide +kernel
theorem dX2_findFirstEndedAfter_34 : decode cX2_findFirstEndedAfter 34 = .ok (.getfield 31, 3) := by decide +kernel
theorem dX2_findFirstEndedAfter_37 : decode cX2_findFirstEndedAfter 37 = .ok (.iload_n 2, 1) := by decide +kernel
theorem dX2_findFirstEndedAfter_38 : decode cX2_findFirstEndedAfter 38 = .ok (.iaload, 1) := by decide +kernel
theorem dX2_findFirstEndedAfter_39 : decode cX2_findFirstEndedAfter 39 = .ok (.if_icmp .ge 5, 3) := by decide +kernel
theorem dX2_findFirstEndedAfter_42 : decode cX2_findFirstEndedAfter 42 = .ok (.iload_n 3, 1) := by decide +kernel
theorem dX2_findFirstEndedAfter_43 : decode cX2_findFirstEndedAfter 43 = .ok (.istore_n 2, 1) := by decide +kernel
theorem dX2_findFirstEndedAfter_44 : decode cX2_findFirstEndedAfter 44 = .ok (.iinc 3 1, 3) := by decide +kernel
theorem dX2_findFirstEndedAfter_47 : decode cX2_findFirstEndedAfter 47 = .ok (.goto (-43), 3) := by decide +kernel
theorem dX2_findFirstEndedAfter_50 : decode cX2_findFirstEndedAfter 50 = .ok (.iload_n 2, 1) := by decide +kernel
theorem dX2_findFirstEndedAfter_51 : decode cX2_findFirstEndedAfter 51 = .ok (.ireturn, 1) := by decide +kernel
set_option maxRecDepth 20000 in
theorem ggX2_middleLife_X2_countOf : GoodIn wsX2_middleLife wsX2_countOf := goodIn_r _ [6, 1, 7, 8, 9, 10, 29, 30, 31, 32, 33, 34, 35] (by decide +kernel) (by decide +kernel)
set_option maxRecDepth 20000 in
theorem gX2_middleLife_X2_countOf : GoodIn wsX2_middleLife (wsV RX2 73 RX2 yX2_countOf wsX2_countOf) := goodIn_app (goodIn_of _ (by decide +kernel)) ggX2_middleLife_X2_countOf
set_option maxRecDepth 20000 in
theorem ggX2_middleLife_X2_isDeadOf : GoodIn wsX2_middleLife wsX2_isDeadOf := goodIn_r _ [14, 7, 15, 16, 17, 5, 18, 19, 29, 30, 31, 32, 33, 34, 35] (by decide +kernel) (by decide +kernel)
set_option maxRecDepth 20000 in
theorem gX2_middleLife_X2_isDeadOf : GoodIn wsX2_middleLife (wsV RX2 56 RX2 yX2_isDeadOf wsX2_isDeadOf) := goodIn_app (goodIn_of _ (by decide +kernel)) ggX2_middleLife_X2_isDeadOf
set_option maxRecDepth 20000 in
theorem ggX2_middleLife_X2_countShorterOf : GoodIn wsX2_middleLife wsX2_countShorterOf := goodIn_r _ [23, 1, 24, 25, 26, 5, 27, 28, 11, 12, 13, 14, 7, 15, 16, 17, 18, 19, 8, 9, 10, 29, 30, 31, 32, 33, 34, 35] (by decide +kernel) (by decide +kernel)
set_option maxRecDepth 20000 in
theorem gX2_middleLife_X2_countShorterOf : GoodIn wsX2_middleLife (wsV RX2 76 RX2 yX2_countShorterOf wsX2_countShorterOf) := goodIn_app (goodIn_of _ (by decide +kernel)) ggX2_middleLife_X2_countShorterOf
set_option maxRecDepth 20000 in
theorem ggX2_middleLife_X2_hoursCounted : GoodIn wsX2_middleLife wsX2_hoursCounted := goodIn_r _ [27, 28, 29, 30, 31, 32, 33, 34, 35] (by decide +kernel) (by decide +kernel)
set_option maxRecDepth 20000 in
theorem gX2_middleLife_X2_hoursCounted : GoodIn wsX2_middleLife (wsV RX2 60 RX2 yX2_hoursCounted wsX2_hoursCounted) := goodIn_app (goodIn_of _ (by decide +kernel)) ggX2_middleLife_X2_hoursCounted
theorem dX2_middleLife_0 : decode cX2_middleLife 0 = .ok (.aload_n 0, 1) := by decide +kernel
theorem dX2_middleLife_1 : decode cX2_middleLife 1 = .ok (.iload_n 1, 1) := by decide +kernel
theorem dX2_middleLife_2 : decode cX2_middleLife 2 = .ok (.invokevirtual 73, 3) := by decide +kernel
theorem dX2_middleLife_5 : decode cX2_middleLife 5 = .ok (.iconst 1, 1) := by decide +kernel
theorem dX2_middleLife_6 : decode cX2_middleLife 6 = .ok (.iadd, 1) := by decide +kernel
theorem dX2_middleLife_7 : decode cX2_middleLife 7 = .ok (.iconst 2, 1) := by decide +kernel
theorem dX2_middleLife_8 : decode cX2_middleLife 8 = .ok (.idiv, 1) := by decide +kernel
theorem dX2_middleLife_9 : decode cX2_middleLife 9 = .ok (.iconst 1, 1) := by decide +kernel
theorem dX2_middleLife_10 : decode cX2_middleLife 10 = .ok (.isub, 1) := by decide +kernel
theorem dX2_middleLife_11 : decode cX2_middleLife 11 = .ok (.istore_n 2, 1) := by decide +kernel
theorem dX2_middleLife_12 : decode cX2_middleLife 12 = .ok (.iconst 0, 1) := by decide +kernel
theorem dX2_middleLife_13 : decode cX2_middleLife 13 = .ok (.istore_n 3, 1) := by decide +kernel
theorem dX2_middleLife_14 : decode cX2_middleLife 14 = .ok (.iload_n 3, 1) := by decide +kernel
theorem dX2_middleLife_15 : decode cX2_middleLife 15 = .ok (.aload_n 0, 1) := by decide +kernel
theorem dX2_middleLife_16 : decode cX2_middleLife 16 = .ok (.getfield 9, 3) := by decide +kernel
theorem dX2_middleLife_19 : decode cX2_middleLife 19 = .ok (.if_icmp .ge 34, 3) := by decide +kernel
theorem dX2_middleLife_22 : decode cX2_middleLife 22 = .ok (.aload_n 0, 1) := by decide +kernel
theorem dX2_middleLife_23 : decode cX2_middleLife 23 = .ok (.iload_n 3, 1) := by decide +kernel
theorem dX2_middleLife_24 : decode cX2_middleLife 24 = .ok (.iload_n 1, 1) := by decide +kernel
theorem dX2_middleLife_25 : decode cX2_middleLife 25 = .ok (.invokevirtual 56, 3) := by decide +kernel
theorem dX2_middleLife_28 : decode cX2_middleLife 28 = .ok (.ifCond .eq 19, 3) := by decide +kernel
theorem dX2_middleLife_31 : decode cX2_middleLife 31 = .ok (.aload_n 0, 1) := by decide +kernel
theorem dX2_middleLife_32 : decode cX2_middleLife 32 = .ok (.iload_n 1, 1) := by decide +kernel
theorem dX2_middleLife_33 : decode cX2_middleLife 33 = .ok (.iload_n 3, 1) := by decide +kernel
theorem dX2_middleLife_34 : decode cX2_middleLife 34 = .ok (.invokevirtual 76, 3) := by decide +kernel
theorem dX2_middleLife_37 : decode cX2_middleLife 37 = .ok (.iload_n 2, 1) := by decide +kernel
theorem dX2_middleLife_38 : decode cX2_middleLife 38 = .ok (.if_icmp .ne 9, 3) := by decide +kernel
theorem dX2_middleLife_41 : decode cX2_middleLife 41 = .ok (.aload_n 0, 1) := by decide +kernel
theorem dX2_middleLife_42 : decode cX2_middleLife 42 = .ok (.iload_n 3, 1) := by decide +kernel
theorem dX2_middleLife_43 : decode cX2_middleLife 43 = .ok (.invokevirtual 60, 3) := by decide +kernel
theorem dX2_middleLife_46 : decode cX2_middleLife 46 = .ok (.ireturn, 1) := by decide +kernel
theorem dX2_middleLife_47 : decode cX2_middleLife 47 = .ok (.iinc 3 1, 3) := by decide +kernel
theorem dX2_middleLife_50 : decode cX2_middleLife 50 = .ok (.goto (-36), 3) := by decide +kernel
theorem dX2_middleLife_53 : decode cX2_middleLife 53 = .ok (.sipush (-1005), 3) := by decide +kernel
theorem dX2_middleLife_56 : decode cX2_middleLife 56 = .ok (.ireturn, 1) := by decide +kernel
set_option maxRecDepth 20000 in
theorem ggX2_countShorterOf_X2_hoursCounted : GoodIn wsX2_countShorterOf wsX2_hoursCounted := goodIn_r _ [6, 7, 21, 22, 23, 24, 25, 26, 27] (by decide +kernel) (by decide +kernel)
set_option maxRecDepth 20000 in
theorem gX2_countShorterOf_X2_hoursCounted : GoodIn wsX2_countShorterOf (wsV RX2 60 RX2 yX2_hoursCounted wsX2_hoursCounted) := goodIn_app (goodIn_of _ (by decide +kernel)) ggX2_countShorterOf_X2_hoursCounted
set_option maxRecDepth 20000 in
theorem ggX2_countShorterOf_X2_isDeadOf : GoodIn wsX2_countShorterOf wsX2_isDeadOf := goodIn_r _ [11, 12, 13, 14, 15, 5, 16, 17, 21, 22, 23, 24, 25, 26, 27] (by decide +kernel) (by decide +kernel)
set_option maxRecDepth 20000 in
theorem gX2_countShorterOf_X2_isDeadOf : GoodIn wsX2_countShorterOf (wsV RX2 56 RX2 yX2_isDeadOf wsX2_isDeadOf) := goodIn_app (goodIn_of _ (by decide +kernel)) ggX2_countShorterOf_X2_isDeadOf
set_option maxRecDepth 20000 in
theorem ggX2_countShorterOf_X6_oneIf : GoodIn wsX2_countShorterOf wsX6_oneIf := goodIn_r _ [20] (by decide +kernel) (by decide +kernel)
set_option maxRecDepth 20000 in
theorem gX2_countShorterOf_X6_oneIf_n52 : GoodIn wsX2_countShorterOf (wsX6_oneIf) := ggX2_countShorterOf_X6_oneIf
theorem dX2_countShorterOf_0 : decode cX2_countShorterOf 0 = .ok (.aload_n 0, 1) := by decide +kernel
theorem dX2_countShorterOf_1 : decode cX2_countShorterOf 1 = .ok (.iload_n 2, 1) := by decide +kernel
theorem dX2_countShorterOf_2 : decode cX2_countShorterOf 2 = .ok (.invokevirtual 60, 3) := by decide +kernel
theorem dX2_countShorterOf_5 : decode cX2_countShorterOf 5 = .ok (.istore_n 3, 1) := by decide +kernel
theorem dX2_countShorterOf_6 : decode cX2_countShorterOf 6 = .ok (.iconst 0, 1) := by decide +kernel
theorem dX2_countShorterOf_7 : decode cX2_countShorterOf 7 = .ok (.istore 4, 2) := by decide +kernel
theorem dX2_countShorterOf_9 : decode cX2_countShorterOf 9 = .ok (.iconst 0, 1) := by decide +kernel
theorem dX2_countShorterOf_10 : decode cX2_countShorterOf 10 = .ok (.istore 5, 2) := by decide +kernel
theorem dX2_countShorterOf_12 : decode cX2_countShorterOf 12 = .ok (.iload 5, 2) := by decide +kernel
theorem dX2_countShorterOf_14 : decode cX2_countShorterOf 14 = .ok (.aload_n 0, 1) := by decide +kernel
theorem dX2_countShorterOf_15 : decode cX2_countShorterOf 15 = .ok (.getfield 9, 3) := by decide +kernel
theorem dX2_countShorterOf_18 : decode cX2_countShorterOf 18 = .ok (.if_icmp .ge 70, 3) := by decide +kernel
theorem dX2_countShorterOf_21 : decode cX2_countShorterOf 21 = .ok (.aload_n 0, 1) := by decide +kernel
theorem dX2_countShorterOf_22 : decode cX2_countShorterOf 22 = .ok (.iload 5, 2) := by decide +kernel
theorem dX2_countShorterOf_24 : decode cX2_countShorterOf 24 = .ok (.invokevirtual 60, 3) := by decide +kernel
theorem dX2_countShorterOf_27 : decode cX2_countShorterOf 27 = .ok (.istore 6, 2) := by decide +kernel
theorem dX2_countShorterOf_29 : decode cX2_countShorterOf 29 = .ok (.iload 6, 2) := by decide +kernel
theorem dX2_countShorterOf_31 : decode cX2_countShorterOf 31 = .ok (.iload_n 3, 1) := by decide +kernel
theorem dX2_countShorterOf_32 : decode cX2_countShorterOf 32 = .ok (.if_icmp .lt 15, 3) := by decide +kernel
theorem dX2_countShorterOf_35 : decode cX2_countShorterOf 35 = .ok (.iload 6, 2) := by decide +kernel
theorem dX2_countShorterOf_37 : decode cX2_countShorterOf 37 = .ok (.iload_n 3, 1) := by decide +kernel
theorem dX2_countShorterOf_38 : decode cX2_countShorterOf 38 = .ok (.if_icmp .ne 13, 3) := by decide +kernel
theorem dX2_countShorterOf_41 : decode cX2_countShorterOf 41 = .ok (.iload 5, 2) := by decide +kernel
theorem dX2_countShorterOf_43 : decode cX2_countShorterOf 43 = .ok (.iload_n 2, 1) := by decide +kernel
theorem dX2_countShorterOf_44 : decode cX2_countShorterOf 44 = .ok (.if_icmp .ge 7, 3) := by decide +kernel
theorem dX2_countShorterOf_47 : decode cX2_countShorterOf 47 = .ok (.iconst 1, 1) := by decide +kernel
theorem dX2_countShorterOf_48 : decode cX2_countShorterOf 48 = .ok (.goto 4, 3) := by decide +kernel
theorem dX2_countShorterOf_51 : decode cX2_countShorterOf 51 = .ok (.iconst 0, 1) := by decide +kernel
theorem dX2_countShorterOf_52 : decode cX2_countShorterOf 52 = .ok (.istore 7, 2) := by decide +kernel
theorem dX2_countShorterOf_54 : decode cX2_countShorterOf 54 = .ok (.iload 4, 2) := by decide +kernel
theorem dX2_countShorterOf_56 : decode cX2_countShorterOf 56 = .ok (.aload_n 0, 1) := by decide +kernel
theorem dX2_countShorterOf_57 : decode cX2_countShorterOf 57 = .ok (.iload 5, 2) := by decide +kernel
theorem dX2_countShorterOf_59 : decode cX2_countShorterOf 59 = .ok (.iload_n 1, 1) := by decide +kernel
theorem dX2_countShorterOf_60 : decode cX2_countShorterOf 60 = .ok (.invokevirtual 56, 3) := by decide +kernel
theorem dX2_countShorterOf_63 : decode cX2_countShorterOf 63 = .ok (.ifCond .eq 12, 3) := by decide +kernel
theorem dX2_countShorterOf_66 : decode cX2_countShorterOf 66 = .ok (.iload 7, 2) := by decide +kernel
theorem dX2_countShorterOf_68 : decode cX2_countShorterOf 68 = .ok (.ifCond .eq 7, 3) := by decide +kernel
theorem dX2_countShorterOf_71 : decode cX2_countShorterOf 71 = .ok (.iconst 1, 1) := by decide +kernel
theorem dX2_countShorterOf_72 : decode cX2_countShorterOf 72 = .ok (.goto 4, 3) := by decide +kernel
theorem dX2_countShorterOf_75 : decode cX2_countShorterOf 75 = .ok (.iconst 0, 1) := by decide +kernel
theorem dX2_countShorterOf_76 : decode cX2_countShorterOf 76 = .ok (.invokestatic 52, 3) := by decide +kernel
theorem dX2_countShorterOf_79 : decode cX2_countShorterOf 79 = .ok (.iadd, 1) := by decide +kernel
theorem dX2_countShorterOf_80 : decode cX2_countShorterOf 80 = .ok (.istore 4, 2) := by decide +kernel
theorem dX2_countShorterOf_82 : decode cX2_countShorterOf 82 = .ok (.iinc 5 1, 3) := by decide +kernel
theorem dX2_countShorterOf_85 : decode cX2_countShorterOf 85 = .ok (.goto (-73), 3) := by decide +kernel
theorem dX2_countShorterOf_88 : decode cX2_countShorterOf 88 = .ok (.iload 4, 2) := by decide +kernel
theorem dX2_countShorterOf_90 : decode cX2_countShorterOf 90 = .ok (.ireturn, 1) := by decide +kernel
set_option maxRecDepth 20000 in
theorem ggX3_init_J7_fill_53178 : GoodIn wsX3_init wsJ7_fill_53178 := goodIn_r _ [13] (by decide +kernel) (by decide +kernel)
set_option maxRecDepth 20000 in
theorem gX3_init_J7_fill_53178 : GoodIn wsX3_init (va_wsS RX3 27 yJ7_fill_53178 wsJ7_fill_53178) := goodIn_app (goodIn_of _ (by decide +kernel)) ggX3_init_J7_fill_53178
theorem dX3_init_0 : decode cX3_init 0 = .ok (.aload_n 0, 1) := by decide +kernel
theorem dX3_init_1 : decode cX3_init 1 = .ok (.invokespecial 3, 3) := by decide +kernel
theorem dX3_init_4 : decode cX3_init 4 = .ok (.aload_n 0, 1) := by decide +kernel
theorem dX3_init_5 : decode cX3_init 5 = .ok (.bipush 24, 2) := by decide +kernel
theorem dX3_init_7 : decode cX3_init 7 = .ok (.newarray .int, 2) := by decide +kernel
theorem dX3_init_9 : decode cX3_init 9 = .ok (.putfield 9, 3) := by decide +kernel
theorem dX3_init_12 : decode cX3_init 12 = .ok (.aload_n 0, 1) := by decide +kernel
theorem dX3_init_13 : decode cX3_init 13 = .ok (.iconst 3, 1) := by decide +kernel
theorem dX3_init_14 : decode cX3_init 14 = .ok (.newarray .int, 2) := by decide +kernel
theorem dX3_init_16 : decode cX3_init 16 = .ok (.putfield 15, 3) := by decide +kernel
theorem dX3_init_19 : decode cX3_init 19 = .ok (.aload_n 0, 1) := by decide +kernel
theorem dX3_init_20 : decode cX3_init 20 = .ok (.iconst 3, 1) := by decide +kernel
theorem dX3_init_21 : decode cX3_init 21 = .ok (.newarray .int, 2) := by decide +kernel
theorem dX3_init_23 : decode cX3_init 23 = .ok (.putfield 18, 3) := by decide +kernel
theorem dX3_init_26 : decode cX3_init 26 = .ok (.aload_n 0, 1) := by decide +kernel
theorem dX3_init_27 : decode cX3_init 27 = .ok (.iconst 3, 1) := by decide +kernel
theorem dX3_init_28 : decode cX3_init 28 = .ok (.newarray .int, 2) := by decide +kernel
theorem dX3_init_30 : decode cX3_init 30 = .ok (.putfield 21, 3) := by decide +kernel
theorem dX3_init_33 : decode cX3_init 33 = .ok (.aload_n 0, 1) := by decide +kernel
theorem dX3_init_34 : decode cX3_init 34 = .ok (.iconst 3, 1) := by decide +kernel
theorem dX3_init_35 : decode cX3_init 35 = .ok (.newarray .int, 2) := by decide +kernel
theorem dX3_init_37 : decode cX3_init 37 = .ok (.putfield 24, 3) := by decide +kernel
theorem dX3_init_40 : decode cX3_init 40 = .ok (.aload_n 0, 1) := by decide +kernel
theorem dX3_init_41 : decode cX3_init 41 = .ok (.getfield 9, 3) := by decide +kernel
theorem dX3_init_44 : decode cX3_init 44 = .ok (.iconst (-1), 1) := by decide +kernel
theorem dX3_init_45 : decode cX3_init 45 = .ok (.invokestatic 27, 3) := by decide +kernel
theorem dX3_init_48 : decode cX3_init 48 = .ok (.aload_n 0, 1) := by decide +kernel
theorem dX3_init_49 : decode cX3_init 49 = .ok (.getfield 15, 3) := by decide +kernel
theorem dX3_init_52 : decode cX3_init 52 = .ok (.sipush 230, 3) := by decide +kernel
theorem dX3_init_55 : decode cX3_init 55 = .ok (.invokestatic 27, 3) := by decide +kernel
theorem dX3_init_58 : decode cX3_init 58 = .ok (.return_, 1) := by decide +kernel
set_option maxRecDepth 20000 in
theorem ggX3_copyFrom_X6_copy : GoodIn wsX3_copyFrom wsX6_copy := goodIn_r _ [8, 9, 10, 11, 12, 13, 14, 15, 16] (by decide +kernel) (by decide +kernel)
set_option maxRecDepth 20000 in
theorem gX3_copyFrom_X6_copy_n33 : GoodIn wsX3_copyFrom (wsX6_copy) := ggX3_copyFrom_X6_copy
theorem dX3_copyFrom_0 : decode cX3_copyFrom 0 = .ok (.aload_n 1, 1) := by decide +kernel
theorem dX3_copyFrom_1 : decode cX3_copyFrom 1 = .ok (.getfield 9, 3) := by decide +kernel
theorem dX3_copyFrom_4 : decode cX3_copyFrom 4 = .ok (.aload_n 0, 1) := by decide +kernel
theorem dX3_copyFrom_5 : decode cX3_copyFrom 5 = .ok (.getfield 9, 3) := by decide +kernel
theorem dX3_copyFrom_8 : decode cX3_copyFrom 8 = .ok (.invokestatic 33, 3) := by decide +kernel
theorem dX3_copyFrom_11 : decode cX3_copyFrom 11 = .ok (.aload_n 1, 1) := by decide +kernel
theorem dX3_copyFrom_12 : decode cX3_copyFrom 12 = .ok (.getfield 15, 3) := by decide +kernel
theorem dX3_copyFrom_15 : decode cX3_copyFrom 15 = .ok (.aload_n 0, 1) := by decide +kernel
theorem dX3_copyFrom_16 : decode cX3_copyFrom 16 = .ok (.getfield 15, 3) := by decide +kernel
theorem dX3_copyFrom_19 : decode cX3_copyFrom 19 = .ok (.invokestatic 33, 3) := by decide +kernel
theorem dX3_copyFrom_22 : decode cX3_copyFrom 22 = .ok (.aload_n 1, 1) := by decide +kernel
theorem dX3_copyFrom_23 : decode cX3_copyFrom 23 = .ok (.getfield 18, 3) := by decide +kernel
theorem dX3_copyFrom_26 : decode cX3_copyFrom 26 = .ok (.aload_n 0, 1) := by decide +kernel
theorem dX3_copyFrom_27 : decode cX3_copyFrom 27 = .ok (.getfield 18, 3) := by decide +kernel
theorem dX3_copyFrom_30 : decode cX3_copyFrom 30 = .ok (.invokestatic 33, 3) := by decide +kernel
theorem dX3_copyFrom_33 : decode cX3_copyFrom 33 = .ok (.aload_n 1, 1) := by decide +kernel
theorem dX3_copyFrom_34 : decode cX3_copyFrom 34 = .ok (.getfield 21, 3) := by decide +kernel
theorem dX3_copyFrom_37 : decode cX3_copyFrom 37 = .ok (.aload_n 0, 1) := by decide +kernel
theorem dX3_copyFrom_38 : decode cX3_copyFrom 38 = .ok (.getfield 21, 3) := by decide +kernel
theorem dX3_copyFrom_41 : decode cX3_copyFrom 41 = .ok (.invokestatic 33, 3) := by decide +kernel
theorem dX3_copyFrom_44 : decode cX3_copyFrom 44 = .ok (.aload_n 1, 1) := by decide +kernel
theorem dX3_copyFrom_45 : decode cX3_copyFrom 45 = .ok (.getfield 24, 3) := by decide +kernel
theorem dX3_copyFrom_48 : decode cX3_copyFrom 48 = .ok (.aload_n 0, 1) := by decide +kernel
theorem dX3_copyFrom_49 : decode cX3_copyFrom 49 = .ok (.getfield 24, 3) := by decide +kernel
theorem dX3_copyFrom_52 : decode cX3_copyFrom 52 = .ok (.invokestatic 33, 3) := by decide +kernel
theorem dX3_copyFrom_55 : decode cX3_copyFrom 55 = .ok (.return_, 1) := by decide +kernel
theorem dX3_isDark_0 : decode cX3_isDark 0 = .ok (.aload_n 0, 1) := by decide +kernel
theorem dX3_isDark_1 : decode cX3_isDark 1 = .ok (.getfield 15, 3) := by decide +kernel
theorem dX3_isDark_4 : decode cX3_isDark 4 = .ok (.iload_n 1, 1) := by decide +kernel
theorem dX3_isDark_5 : decode cX3_isDark 5 = .ok (.iaload, 1) := by decide +kernel
theorem dX3_isDark_6 : decode cX3_isDark 6 = .ok (.ifCond .ne 7, 3) := by decide +kernel
theorem dX3_isDark_9 : decode cX3_isDark 9 = .ok (.iconst 1, 1) := by decide +kernel
theorem dX3_isDark_10 : decode cX3_isDark 10 = .ok (.goto 4, 3) := by decide +kernel
theorem dX3_isDark_13 : decode cX3_isDark 13 = .ok (.iconst 0, 1) := by decide +kernel
theorem dX3_isDark_14 : decode cX3_isDark 14 = .ok (.ireturn, 1) := by decide +kernel
theorem dX3_voltsAfterStep_0 : decode cX3_voltsAfterStep 0 = .ok (.iconst 0, 1) := by decide +kernel
theorem dX3_voltsAfterStep_1 : decode cX3_voltsAfterStep 1 = .ok (.sipush 300, 3) := by decide +kernel
theorem dX3_voltsAfterStep_4 : decode cX3_voltsAfterStep 4 = .ok (.aload_n 0, 1) := by decide +kernel
theorem dX3_voltsAfterStep_5 : decode cX3_voltsAfterStep 5 = .ok (.getfield 15, 3) := by decide +kernel
theorem dX3_voltsAfterStep_8 : decode cX3_voltsAfterStep 8 = .ok (.iload_n 1, 1) := by decide +kernel
theorem dX3_voltsAfterStep_9 : decode cX3_voltsAfterStep 9 = .ok (.iaload, 1) := by decide +kernel
theorem dX3_voltsAfterStep_10 : decode cX3_voltsAfterStep 10 = .ok (.aload_n 0, 1) := by decide +kernel
theorem dX3_voltsAfterStep_11 : decode cX3_voltsAfterStep 11 = .ok (.getfield 21, 3) := by decide +kernel
theorem dX3_voltsAfterStep_14 : decode cX3_voltsAfterStep 14 = .ok (.iload_n 1, 1) := by decide +kernel
theorem dX3_voltsAfterStep_15 : decode cX3_voltsAfterStep 15 = .ok (.iaload, 1) := by decide +kernel
theorem dX3_voltsAfterStep_16 : decode cX3_voltsAfterStep 16 = .ok (.iadd, 1) := by decide +kernel
theorem dX3_voltsAfterStep_17 : decode cX3_voltsAfterStep 17 = .ok (.invokestatic 37, 3) := by decide +kernel
theorem dX3_voltsAfterStep_20 : decode cX3_voltsAfterStep 20 = .ok (.invokestatic 43, 3) := by decide +kernel
theorem dX3_voltsAfterStep_23 : decode cX3_voltsAfterStep 23 = .ok (.ireturn, 1) := by decide +kernel
theorem dX3_hoursToStep_0 : decode cX3_hoursToStep 0 = .ok (.aload_n 0, 1) := by decide +kernel
theorem dX3_hoursToStep_1 : decode cX3_hoursToStep 1 = .ok (.getfield 18, 3) := by decide +kernel
theorem dX3_hoursToStep_4 : decode cX3_hoursToStep 4 = .ok (.iload_n 1, 1) := by decide +kernel
theorem dX3_hoursToStep_5 : decode cX3_hoursToStep 5 = .ok (.iaload, 1) := by decide +kernel
theorem dX3_hoursToStep_6 : decode cX3_hoursToStep 6 = .ok (.ifCond .ne 9, 3) := by decide +kernel
theorem dX3_hoursToStep_9 : decode cX3_hoursToStep 9 = .ok (.sipush (-1005), 3) := by decide +kernel
theorem dX3_hoursToStep_12 : decode cX3_hoursToStep 12 = .ok (.goto 16, 3) := by decide +kernel
theorem dX3_hoursToStep_15 : decode cX3_hoursToStep 15 = .ok (.aload_n 0, 1) := by decide +kernel
theorem dX3_hoursToStep_16 : decode cX3_hoursToStep 16 = .ok (.getfield 18, 3) := by decide +kernel
theorem dX3_hoursToStep_19 : decode cX3_hoursToStep 19 = .ok (.iload_n 1, 1) := by decide +kernel
theorem dX3_hoursToStep_20 : decode cX3_hoursToStep 20 = .ok (.iaload, 1) := by decide +kernel
theorem dX3_hoursToStep_21 : decode cX3_hoursToStep 21 = .ok (.aload_n 0, 1) := by decide +kernel
theorem dX3_hoursToStep_22 : decode cX3_hoursToStep 22 = .ok (.getfield 24, 3) := by decide +kernel
theorem dX3_hoursToStep_25 : decode cX3_hoursToStep 25 = .ok (.iload_n 1, 1) := by decide +kernel
theorem dX3_hoursToStep_26 : decode cX3_hoursToStep 26 = .ok (.iaload, 1) := by decide +kernel
theorem dX3_hoursToStep_27 : decode cX3_hoursToStep 27 = .ok (.isub, 1) := by decide +kernel
theorem dX3_hoursToStep_28 : decode cX3_hoursToStep 28 = .ok (.ireturn, 1) := by decide +kernel
set_option maxRecDepth 20000 in
theorem ggX3_hoursAtSameVolts_X3_voltsAfterStep : GoodIn wsX3_hoursAtSameVolts wsX3_voltsAfterStep := goodIn_r _ [11, 2, 12, 3, 4, 5, 6, 13, 14, 15, 21, 22, 23, 24, 25] (by decide +kernel) (by decide +kernel)
set_option maxRecDepth 20000 in
theorem gX3_hoursAtSameVolts_X3_voltsAfterStep : GoodIn wsX3_hoursAtSameVolts (wsV RX3 46 RX3 yX3_voltsAfterStep wsX3_voltsAfterStep) := goodIn_app (goodIn_of _ (by decide +kernel)) ggX3_hoursAtSameVolts_X3_voltsAfterStep
set_option maxRecDepth 20000 in
theorem ggX3_hoursAtSameVolts_X3_hoursToStep : GoodIn wsX3_hoursAtSameVolts wsX3_hoursToStep := goodIn_r _ [19, 1, 20, 21, 22, 23, 24, 25] (by decide +kernel) (by decide +kernel)
set_option maxRecDepth 20000 in
theorem gX3_hoursAtSameVolts_X3_hoursToStep : GoodIn wsX3_hoursAtSameVolts (wsV RX3 50 RX3 yX3_hoursToStep wsX3_hoursToStep) := goodIn_app (goodIn_of _ (by decide +kernel)) ggX3_hoursAtSameVolts_X3_hoursToStep
theorem dX3_hoursAtSameVolts_0 : decode cX3_hoursAtSameVolts 0 = .ok (.aload_n 0, 1) := by decide +kernel
theorem dX3_hoursAtSameVolts_1 : decode cX3_hoursAtSameVolts 1 = .ok (.getfield 18, 3) := by decide +kernel
theorem dX3_hoursAtSameVolts_4 : decode cX3_hoursAtSameVolts 4 = .ok (.iload_n 1, 1) := by decide +kernel
theorem dX3_hoursAtSameVolts_5 : decode cX3_hoursAtSameVolts 5 = .ok (.iaload, 1) := by decide +kernel
theorem dX3_hoursAtSameVolts_6 : decode cX3_hoursAtSameVolts 6 = .ok (.ifCond .eq 17, 3) := by decide +kernel
theorem dX3_hoursAtSameVolts_9 : decode cX3_hoursAtSameVolts 9 = .ok (.aload_n 0, 1) := by decide +kernel
theorem dX3_hoursAtSameVolts_10 : decode cX3_hoursAtSameVolts 10 = .ok (.iload_n 1, 1) := by decide +kernel
theorem dX3_hoursAtSameVolts_11 : decode cX3_hoursAtSameVolts 11 = .ok (.invokevirtual 46, 3) := by decide +kernel
theorem dX3_hoursAtSameVolts_14 : decode cX3_hoursAtSameVolts 14 = .ok (.aload_n 0, 1) := by decide +kernel
theorem dX3_hoursAtSameVolts_15 : decode cX3_hoursAtSameVolts 15 = .ok (.getfield 15, 3) := by decide +kernel
theorem dX3_hoursAtSameVolts_18 : decode cX3_hoursAtSameVolts 18 = .ok (.iload_n 1, 1) := by decide +kernel
theorem dX3_hoursAtSameVolts_19 : decode cX3_hoursAtSameVolts 19 = .ok (.iaload, 1) := by decide +kernel
theorem dX3_hoursAtSameVolts_20 : decode cX3_hoursAtSameVolts 20 = .ok (.if_icmp .ne 5, 3) := by decide +kernel
theorem dX3_hoursAtSameVolts_23 : decode cX3_hoursAtSameVolts 23 = .ok (.iload_n 2, 1) := by decide +kernel
theorem dX3_hoursAtSameVolts_24 : decode cX3_hoursAtSameVolts 24 = .ok (.ireturn, 1) := by decide +kernel
theorem dX3_hoursAtSameVolts_25 : decode cX3_hoursAtSameVolts 25 = .ok (.iload_n 2, 1) := by decide +kernel
theorem dX3_hoursAtSameVolts_26 : decode cX3_hoursAtSameVolts 26 = .ok (.aload_n 0, 1) := by decide +kernel
theorem dX3_hoursAtSameVolts_27 : decode cX3_hoursAtSameVolts 27 = .ok (.iload_n 1, 1) := by decide +kernel
theorem dX3_hoursAtSameVolts_28 : decode cX3_hoursAtSameVolts 28 = .ok (.invokevirtual 50, 3) := by decide +kernel
theorem dX3_hoursAtSameVolts_31 : decode cX3_hoursAtSameVolts 31 = .ok (.invokestatic 37, 3) := by decide +kernel
theorem dX3_hoursAtSameVolts_34 : decode cX3_hoursAtSameVolts 34 = .ok (.ireturn, 1) := by decide +kernel
set_option maxRecDepth 20000 in
theorem ggX3_countHours_X3_voltsAfterStep : GoodIn wsX3_countHours wsX3_voltsAfterStep := goodIn_r _ [8, 3, 9, 10, 11, 12, 13, 14, 15, 16, 17, 18, 19, 20, 21] (by decide +kernel) (by decide +kernel)
set_option maxRecDepth 20000 in
theorem gX3_countHours_X3_voltsAfterStep : GoodIn wsX3_countHours (wsV RX3 46 RX3 yX3_voltsAfterStep wsX3_voltsAfterStep) := goodIn_app (goodIn_of _ (by decide +kernel)) ggX3_countHours_X3_voltsAfterStep
theorem dX3_countHours_0 : decode cX3_countHours 0 = .ok (.aload_n 0, 1) := by decide +kernel
theorem dX3_countHours_1 : decode cX3_countHours 1 = .ok (.getfield 18, 3) := by decide +kernel
theorem dX3_countHours_4 : decode cX3_countHours 4 = .ok (.iload_n 1, 1) := by decide +kernel
theorem dX3_countHours_5 : decode cX3_countHours 5 = .ok (.iaload, 1) := by decide +kernel
theorem dX3_countHours_6 : decode cX3_countHours 6 = .ok (.istore_n 3, 1) := by decide +kernel
theorem dX3_countHours_7 : decode cX3_countHours 7 = .ok (.iload_n 3, 1) := by decide +kernel
theorem dX3_countHours_8 : decode cX3_countHours 8 = .ok (.ifCond .ne 4, 3) := by decide +kernel
theorem dX3_countHours_11 : decode cX3_countHours 11 = .ok (.return_, 1) := by decide +kernel
theorem dX3_countHours_12 : decode cX3_countHours 12 = .ok (.aload_n 0, 1) := by decide +kernel
theorem dX3_countHours_13 : decode cX3_countHours 13 = .ok (.getfield 24, 3) := by decide +kernel
theorem dX3_countHours_16 : decode cX3_countHours 16 = .ok (.iload_n 1, 1) := by decide +kernel
theorem dX3_countHours_17 : decode cX3_countHours 17 = .ok (.iaload, 1) := by decide +kernel
theorem dX3_countHours_18 : decode cX3_countHours 18 = .ok (.iload_n 2, 1) := by decide +kernel
theorem dX3_countHours_19 : decode cX3_countHours 19 = .ok (.iadd, 1) := by decide +kernel
theorem dX3_countHours_20 : decode cX3_countHours 20 = .ok (.istore 4, 2) := by decide +kernel
theorem dX3_countHours_22 : decode cX3_countHours 22 = .ok (.iload 4, 2) := by decide +kernel
theorem dX3_countHours_24 : decode cX3_countHours 24 = .ok (.iload_n 3, 1) := by decide +kernel
theorem dX3_countHours_25 : decode cX3_countHours 25 = .ok (.if_icmp .lt 14, 3) := by decide +kernel
theorem dX3_countHours_28 : decode cX3_countHours 28 = .ok (.aload_n 0, 1) := by decide +kernel
theorem dX3_countHours_29 : decode cX3_countHours 29 = .ok (.getfield 15, 3) := by decide +kernel
theorem dX3_countHours_32 : decode cX3_countHours 32 = .ok (.iload_n 1, 1) := by decide +kernel
theorem dX3_countHours_33 : decode cX3_countHours 33 = .ok (.aload_n 0, 1) := by decide +kernel
theorem dX3_countHours_34 : decode cX3_countHours 34 = .ok (.iload_n 1, 1) := by decide +kernel
theorem dX3_countHours_35 : decode cX3_countHours 35 = .ok (.invokevirtual 46, 3) := by decide +kernel
theorem dX3_countHours_38 : decode cX3_countHours 38 = .ok (.iastore, 1) := by decide +kernel
theorem dX3_countHours_39 : decode cX3_countHours 39 = .ok (.aload_n 0, 1) := by decide +kernel
theorem dX3_countHours_40 : decode cX3_countHours 40 = .ok (.getfield 24, 3) := by decide +kernel
theorem dX3_countHours_43 : decode cX3_countHours 43 = .ok (.iload_n 1, 1) := by decide +kernel
theorem dX3_countHours_44 : decode cX3_countHours 44 = .ok (.iload 4, 2) := by decide +kernel
theorem dX3_countHours_46 : decode cX3_countHours 46 = .ok (.iload_n 3, 1) := by decide +kernel
theorem dX3_countHours_47 : decode cX3_countHours 47 = .ok (.irem, 1) := by decide +kernel
theorem dX3_countHours_48 : decode cX3_countHours 48 = .ok (.iastore, 1) := by decide +kernel
theorem dX3_countHours_49 : decode cX3_countHours 49 = .ok (.return_, 1) := by decide +kernel
theorem dJ9_max_7cf53_0 : decode cJ9_max_7cf53 0 = .ok (.iload_n 0, 1) := by decide +kernel
theorem dJ9_max_7cf53_1 : decode cJ9_max_7cf53 1 = .ok (.iload_n 1, 1) := by decide +kernel
theorem dJ9_max_7cf53_2 : decode cJ9_max_7cf53 2 = .ok (.if_icmp .lt 7, 3) := by decide +kernel
theorem dJ9_max_7cf53_5 : decode cJ9_max_7cf53 5 = .ok (.iload_n 0, 1) := by decide +kernel
theorem dJ9_max_7cf53_6 : decode cJ9_max_7cf53 6 = .ok (.goto 4, 3) := by decide +kernel
theorem dJ9_max_7cf53_9 : decode cJ9_max_7cf53 9 = .ok (.iload_n 1, 1) := by decide +kernel
theorem dJ9_max_7cf53_10 : decode cJ9_max_7cf53 10 = .ok (.ireturn, 1) := by decide +kernel
theorem dJ9_min_7cf53_0 : decode cJ9_min_7cf53 0 = .ok (.iload_n 0, 1) := by decide +kernel
theorem dJ9_min_7cf53_1 : decode cJ9_min_7cf53 1 = .ok (.iload_n 1, 1) := by decide +kernel
theorem dJ9_min_7cf53_2 : decode cJ9_min_7cf53 2 = .ok (.if_icmp .gt 7, 3) := by decide +kernel
theorem dJ9_min_7cf53_5 : decode cJ9_min_7cf53 5 = .ok (.iload_n 0, 1) := by decide +kernel
theorem dJ9_min_7cf53_6 : decode cJ9_min_7cf53 6 = .ok (.goto 4, 3) := by decide +kernel
theorem dJ9_min_7cf53_9 : decode cJ9_min_7cf53 9 = .ok (.iload_n 1, 1) := by decide +kernel
theorem dJ9_min_7cf53_10 : decode cJ9_min_7cf53 10 = .ok (.ireturn, 1) := by decide +kernel
theorem dJ7_fill_53178_0 : decode cJ7_fill_53178 0 = .ok (.iconst 0, 1) := by decide +kernel
theorem dJ7_fill_53178_1 : decode cJ7_fill_53178 1 = .ok (.istore_n 2, 1) := by decide +kernel
theorem dJ7_fill_53178_2 : decode cJ7_fill_53178 2 = .ok (.aload_n 0, 1) := by decide +kernel
theorem dJ7_fill_53178_3 : decode cJ7_fill_53178 3 = .ok (.arraylength, 1) := by decide +kernel
theorem dJ7_fill_53178_4 : decode cJ7_fill_53178 4 = .ok (.istore_n 3, 1) := by decide +kernel
theorem dJ7_fill_53178_5 : decode cJ7_fill_53178 5 = .ok (.iload_n 2, 1) := by decide +kernel
theorem dJ7_fill_53178_6 : decode cJ7_fill_53178 6 = .ok (.iload_n 3, 1) := by decide +kernel
theorem dJ7_fill_53178_7 : decode cJ7_fill_53178 7 = .ok (.if_icmp .ge 13, 3) := by decide +kernel
theorem dJ7_fill_53178_10 : decode cJ7_fill_53178 10 = .ok (.aload_n 0, 1) := by decide +kernel
theorem dJ7_fill_53178_11 : decode cJ7_fill_53178 11 = .ok (.iload_n 2, 1) := by decide +kernel
theorem dJ7_fill_53178_12 : decode cJ7_fill_53178 12 = .ok (.iload_n 1, 1) := by decide +kernel
theorem dJ7_fill_53178_13 : decode cJ7_fill_53178 13 = .ok (.iastore, 1) := by decide +kernel
theorem dJ7_fill_53178_14 : decode cJ7_fill_53178 14 = .ok (.iinc 2 1, 3) := by decide +kernel
theorem dJ7_fill_53178_17 : decode cJ7_fill_53178 17 = .ok (.goto (-12), 3) := by decide +kernel
theorem dJ7_fill_53178_20 : decode cJ7_fill_53178 20 = .ok (.return_, 1) := by decide +kernel
