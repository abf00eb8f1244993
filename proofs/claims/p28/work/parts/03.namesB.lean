set_option maxRecDepth 20000 in
theorem ggX4_init_X0_init : GoodIn wsX4_init wsX0_init := goodIn_r _ [21, 22, 2, 3, 23, 24, 25, 55, 56] (by decide +kernel) (by decide +kernel)
set_option maxRecDepth 20000 in
theorem gX4_init_X0_init : GoodIn wsX4_init (wsX0_init) := ggX4_init_X0_init
set_option maxRecDepth 20000 in
theorem ggX4_init_X2_init : GoodIn wsX4_init wsX2_init := goodIn_r _ [27, 28, 2, 3, 29, 23, 30, 31, 32, 33, 34, 35, 57, 58, 59, 60, 61, 62, 63] (by decide +kernel) (by decide +kernel)
set_option maxRecDepth 20000 in
theorem gX4_init_X2_init_n30 : GoodIn wsX4_init (wsX2_init) := ggX4_init_X2_init
set_option maxRecDepth 20000 in
theorem ggX4_init_X3_init : GoodIn wsX4_init wsX3_init := goodIn_r _ [38, 39, 2, 3, 23, 40, 41, 42, 43, 44, 45, 46, 47, 48, 64, 65, 66, 67, 68] (by decide +kernel) (by decide +kernel)
set_option maxRecDepth 20000 in
theorem gX4_init_X3_init : GoodIn wsX4_init (wsX3_init) := ggX4_init_X3_init
theorem dX4_init_0 : decode cX4_init 0 = .ok (.aload_n 0, 1) := by decide +kernel
theorem dX4_init_1 : decode cX4_init 1 = .ok (.invokespecial 3, 3) := by decide +kernel
theorem dX4_init_4 : decode cX4_init 4 = .ok (.aload_n 0, 1) := by decide +kernel
theorem dX4_init_5 : decode cX4_init 5 = .ok (.iconst 0, 1) := by decide +kernel
theorem dX4_init_6 : decode cX4_init 6 = .ok (.putfield 9, 3) := by decide +kernel
theorem dX4_init_9 : decode cX4_init 9 = .ok (.aload_n 0, 1) := by decide +kernel
theorem dX4_init_10 : decode cX4_init 10 = .ok (.sipush 230, 3) := by decide +kernel
theorem dX4_init_13 : decode cX4_init 13 = .ok (.putfield 15, 3) := by decide +kernel
theorem dX4_init_16 : decode cX4_init 16 = .ok (.aload_n 0, 1) := by decide +kernel
theorem dX4_init_17 : decode cX4_init 17 = .ok (.bipush 10, 2) := by decide +kernel
theorem dX4_init_19 : decode cX4_init 19 = .ok (.putfield 18, 3) := by decide +kernel
theorem dX4_init_22 : decode cX4_init 22 = .ok (.aload_n 0, 1) := by decide +kernel
theorem dX4_init_23 : decode cX4_init 23 = .ok (.new 21, 3) := by decide +kernel
theorem dX4_init_26 : decode cX4_init 26 = .ok (.dup, 1) := by decide +kernel
theorem dX4_init_27 : decode cX4_init 27 = .ok (.invokespecial 23, 3) := by decide +kernel
theorem dX4_init_30 : decode cX4_init 30 = .ok (.putfield 24, 3) := by decide +kernel
theorem dX4_init_33 : decode cX4_init 33 = .ok (.aload_n 0, 1) := by decide +kernel
theorem dX4_init_34 : decode cX4_init 34 = .ok (.new 28, 3) := by decide +kernel
theorem dX4_init_37 : decode cX4_init 37 = .ok (.dup, 1) := by decide +kernel
theorem dX4_init_38 : decode cX4_init 38 = .ok (.invokespecial 30, 3) := by decide +kernel
theorem dX4_init_41 : decode cX4_init 41 = .ok (.putfield 31, 3) := by decide +kernel
theorem dX4_init_44 : decode cX4_init 44 = .ok (.aload_n 0, 1) := by decide +kernel
theorem dX4_init_45 : decode cX4_init 45 = .ok (.new 35, 3) := by decide +kernel
theorem dX4_init_48 : decode cX4_init 48 = .ok (.dup, 1) := by decide +kernel
theorem dX4_init_49 : decode cX4_init 49 = .ok (.invokespecial 37, 3) := by decide +kernel
theorem dX4_init_52 : decode cX4_init 52 = .ok (.putfield 38, 3) := by decide +kernel
theorem dX4_init_55 : decode cX4_init 55 = .ok (.return_, 1) := by decide +kernel
set_option maxRecDepth 20000 in
theorem ggX4_copyFrom_X0_copyFrom : GoodIn wsX4_copyFrom wsX0_copyFrom := goodIn_r _ [11, 12, 13, 14, 15, 16, 17, 18, 19, 20, 21, 22, 23, 24, 53, 54] (by decide +kernel) (by decide +kernel)
set_option maxRecDepth 20000 in
theorem gX4_copyFrom_X0_copyFrom : GoodIn wsX4_copyFrom (wsV RX4 42 RX0 yX0_copyFrom wsX0_copyFrom) := goodIn_app (goodIn_of _ (by decide +kernel)) ggX4_copyFrom_X0_copyFrom
set_option maxRecDepth 20000 in
theorem ggX4_copyFrom_X2_copyFrom : GoodIn wsX4_copyFrom wsX2_copyFrom := goodIn_r _ [29, 30, 31, 32, 33, 34, 35, 36, 14, 15, 16, 17, 18, 19, 20, 21, 22, 23, 24, 55, 56, 57, 58, 59, 60, 61] (by decide +kernel) (by decide +kernel)
set_option maxRecDepth 20000 in
theorem gX4_copyFrom_X2_copyFrom : GoodIn wsX4_copyFrom (wsV RX4 46 RX2 yX2_copyFrom wsX2_copyFrom) := goodIn_app (goodIn_of _ (by decide +kernel)) ggX4_copyFrom_X2_copyFrom
set_option maxRecDepth 20000 in
theorem ggX4_copyFrom_X3_copyFrom : GoodIn wsX4_copyFrom wsX3_copyFrom := goodIn_r _ [41, 42, 43, 44, 45, 46, 14, 15, 16, 17, 18, 19, 20, 21, 22, 23, 24, 62, 63, 64, 65, 66] (by decide +kernel) (by decide +kernel)
set_option maxRecDepth 20000 in
theorem gX4_copyFrom_X3_copyFrom : GoodIn wsX4_copyFrom (wsV RX4 49 RX3 yX3_copyFrom wsX3_copyFrom) := goodIn_app (goodIn_of _ (by decide +kernel)) ggX4_copyFrom_X3_copyFrom
theorem dX4_copyFrom_0 : decode cX4_copyFrom 0 = .ok (.aload_n 0, 1) := by decide +kernel
theorem dX4_copyFrom_1 : decode cX4_copyFrom 1 = .ok (.aload_n 1, 1) := by decide +kernel
theorem dX4_copyFrom_2 : decode cX4_copyFrom 2 = .ok (.getfield 9, 3) := by decide +kernel
theorem dX4_copyFrom_5 : decode cX4_copyFrom 5 = .ok (.putfield 9, 3) := by decide +kernel
theorem dX4_copyFrom_8 : decode cX4_copyFrom 8 = .ok (.aload_n 0, 1) := by decide +kernel
theorem dX4_copyFrom_9 : decode cX4_copyFrom 9 = .ok (.aload_n 1, 1) := by decide +kernel
theorem dX4_copyFrom_10 : decode cX4_copyFrom 10 = .ok (.getfield 15, 3) := by decide +kernel
theorem dX4_copyFrom_13 : decode cX4_copyFrom 13 = .ok (.putfield 15, 3) := by decide +kernel
theorem dX4_copyFrom_16 : decode cX4_copyFrom 16 = .ok (.aload_n 0, 1) := by decide +kernel
theorem dX4_copyFrom_17 : decode cX4_copyFrom 17 = .ok (.aload_n 1, 1) := by decide +kernel
theorem dX4_copyFrom_18 : decode cX4_copyFrom 18 = .ok (.getfield 18, 3) := by decide +kernel
theorem dX4_copyFrom_21 : decode cX4_copyFrom 21 = .ok (.putfield 18, 3) := by decide +kernel
theorem dX4_copyFrom_24 : decode cX4_copyFrom 24 = .ok (.aload_n 0, 1) := by decide +kernel
theorem dX4_copyFrom_25 : decode cX4_copyFrom 25 = .ok (.getfield 24, 3) := by decide +kernel
theorem dX4_copyFrom_28 : decode cX4_copyFrom 28 = .ok (.aload_n 1, 1) := by decide +kernel
theorem dX4_copyFrom_29 : decode cX4_copyFrom 29 = .ok (.getfield 24, 3) := by decide +kernel
theorem dX4_copyFrom_32 : decode cX4_copyFrom 32 = .ok (.invokevirtual 42, 3) := by decide +kernel
theorem dX4_copyFrom_35 : decode cX4_copyFrom 35 = .ok (.aload_n 0, 1) := by decide +kernel
theorem dX4_copyFrom_36 : decode cX4_copyFrom 36 = .ok (.getfield 31, 3) := by decide +kernel
theorem dX4_copyFrom_39 : decode cX4_copyFrom 39 = .ok (.aload_n 1, 1) := by decide +kernel
theorem dX4_copyFrom_40 : decode cX4_copyFrom 40 = .ok (.getfield 31, 3) := by decide +kernel
theorem dX4_copyFrom_43 : decode cX4_copyFrom 43 = .ok (.invokevirtual 46, 3) := by decide +kernel
theorem dX4_copyFrom_46 : decode cX4_copyFrom 46 = .ok (.aload_n 0, 1) := by decide +kernel
theorem dX4_copyFrom_47 : decode cX4_copyFrom 47 = .ok (.getfield 38, 3) := by decide +kernel
theorem dX4_copyFrom_50 : decode cX4_copyFrom 50 = .ok (.aload_n 1, 1) := by decide +kernel
theorem dX4_copyFrom_51 : decode cX4_copyFrom 51 = .ok (.getfield 38, 3) := by decide +kernel
theorem dX4_copyFrom_54 : decode cX4_copyFrom 54 = .ok (.invokevirtual 49, 3) := by decide +kernel
theorem dX4_copyFrom_57 : decode cX4_copyFrom 57 = .ok (.return_, 1) := by decide +kernel
set_option maxRecDepth 20000 in
theorem ggX4_changeBatch_X6_isBatch : GoodIn wsX4_changeBatch wsX6_isBatch := goodIn_r _ [6, 7, 8, 5, 9] (by decide +kernel) (by decide +kernel)
set_option maxRecDepth 20000 in
theorem gX4_changeBatch_X6_isBatch_n52 : GoodIn wsX4_changeBatch (wsX6_isBatch) := ggX4_changeBatch_X6_isBatch
set_option maxRecDepth 20000 in
theorem ggX4_changeBatch_X6_isWithin : GoodIn wsX4_changeBatch wsX6_isWithin := goodIn_r _ [9] (by decide +kernel) (by decide +kernel)
set_option maxRecDepth 20000 in
theorem gX4_changeBatch_X6_isWithin_n56 : GoodIn wsX4_changeBatch (wsX6_isWithin) := ggX4_changeBatch_X6_isWithin
theorem dX4_changeBatch_0 : decode cX4_changeBatch 0 = .ok (.iload_n 1, 1) := by decide +kernel
theorem dX4_changeBatch_1 : decode cX4_changeBatch 1 = .ok (.invokestatic 52, 3) := by decide +kernel
theorem dX4_changeBatch_4 : decode cX4_changeBatch 4 = .ok (.ifCond .ne 7, 3) := by decide +kernel
theorem dX4_changeBatch_7 : decode cX4_changeBatch 7 = .ok (.sipush (-1001), 3) := by decide +kernel
theorem dX4_changeBatch_10 : decode cX4_changeBatch 10 = .ok (.ireturn, 1) := by decide +kernel
theorem dX4_changeBatch_11 : decode cX4_changeBatch 11 = .ok (.iload_n 2, 1) := by decide +kernel
theorem dX4_changeBatch_12 : decode cX4_changeBatch 12 = .ok (.bipush 10, 2) := by decide +kernel
theorem dX4_changeBatch_14 : decode cX4_changeBatch 14 = .ok (.sipush 9999, 3) := by decide +kernel
theorem dX4_changeBatch_17 : decode cX4_changeBatch 17 = .ok (.invokestatic 56, 3) := by decide +kernel
theorem dX4_changeBatch_20 : decode cX4_changeBatch 20 = .ok (.ifCond .eq 13, 3) := by decide +kernel
theorem dX4_changeBatch_23 : decode cX4_changeBatch 23 = .ok (.iload_n 3, 1) := by decide +kernel
theorem dX4_changeBatch_24 : decode cX4_changeBatch 24 = .ok (.iconst 0, 1) := by decide +kernel
theorem dX4_changeBatch_25 : decode cX4_changeBatch 25 = .ok (.bipush 90, 2) := by decide +kernel
theorem dX4_changeBatch_27 : decode cX4_changeBatch 27 = .ok (.invokestatic 56, 3) := by decide +kernel
theorem dX4_changeBatch_30 : decode cX4_changeBatch 30 = .ok (.ifCond .ne 7, 3) := by decide +kernel
theorem dX4_changeBatch_33 : decode cX4_changeBatch 33 = .ok (.sipush (-1002), 3) := by decide +kernel
theorem dX4_changeBatch_36 : decode cX4_changeBatch 36 = .ok (.ireturn, 1) := by decide +kernel
theorem dX4_changeBatch_37 : decode cX4_changeBatch 37 = .ok (.aload_n 0, 1) := by decide +kernel
theorem dX4_changeBatch_38 : decode cX4_changeBatch 38 = .ok (.getfield 24, 3) := by decide +kernel
theorem dX4_changeBatch_41 : decode cX4_changeBatch 41 = .ok (.getfield 60, 3) := by decide +kernel
theorem dX4_changeBatch_44 : decode cX4_changeBatch 44 = .ok (.iload_n 1, 1) := by decide +kernel
theorem dX4_changeBatch_45 : decode cX4_changeBatch 45 = .ok (.iaload, 1) := by decide +kernel
theorem dX4_changeBatch_46 : decode cX4_changeBatch 46 = .ok (.istore 4, 2) := by decide +kernel
theorem dX4_changeBatch_48 : decode cX4_changeBatch 48 = .ok (.iload 4, 2) := by decide +kernel
theorem dX4_changeBatch_50 : decode cX4_changeBatch 50 = .ok (.iload_n 2, 1) := by decide +kernel
theorem dX4_changeBatch_51 : decode cX4_changeBatch 51 = .ok (.if_icmp .ne 20, 3) := by decide +kernel
theorem dX4_changeBatch_54 : decode cX4_changeBatch 54 = .ok (.aload_n 0, 1) := by decide +kernel
theorem dX4_changeBatch_55 : decode cX4_changeBatch 55 = .ok (.getfield 24, 3) := by decide +kernel
theorem dX4_changeBatch_58 : decode cX4_changeBatch 58 = .ok (.getfield 64, 3) := by decide +kernel
theorem dX4_changeBatch_61 : decode cX4_changeBatch 61 = .ok (.iload_n 1, 1) := by decide +kernel
theorem dX4_changeBatch_62 : decode cX4_changeBatch 62 = .ok (.iaload, 1) := by decide +kernel
theorem dX4_changeBatch_63 : decode cX4_changeBatch 63 = .ok (.iload_n 3, 1) := by decide +kernel
theorem dX4_changeBatch_64 : decode cX4_changeBatch 64 = .ok (.if_icmp .ne 7, 3) := by decide +kernel
theorem dX4_changeBatch_67 : decode cX4_changeBatch 67 = .ok (.sipush (-1005), 3) := by decide +kernel
theorem dX4_changeBatch_70 : decode cX4_changeBatch 70 = .ok (.ireturn, 1) := by decide +kernel
theorem dX4_changeBatch_71 : decode cX4_changeBatch 71 = .ok (.aload_n 0, 1) := by decide +kernel
theorem dX4_changeBatch_72 : decode cX4_changeBatch 72 = .ok (.getfield 24, 3) := by decide +kernel
theorem dX4_changeBatch_75 : decode cX4_changeBatch 75 = .ok (.getfield 60, 3) := by decide +kernel
theorem dX4_changeBatch_78 : decode cX4_changeBatch 78 = .ok (.iload_n 1, 1) := by decide +kernel
theorem dX4_changeBatch_79 : decode cX4_changeBatch 79 = .ok (.iload_n 2, 1) := by decide +kernel
theorem dX4_changeBatch_80 : decode cX4_changeBatch 80 = .ok (.iastore, 1) := by decide +kernel
theorem dX4_changeBatch_81 : decode cX4_changeBatch 81 = .ok (.aload_n 0, 1) := by decide +kernel
theorem dX4_changeBatch_82 : decode cX4_changeBatch 82 = .ok (.getfield 24, 3) := by decide +kernel
theorem dX4_changeBatch_85 : decode cX4_changeBatch 85 = .ok (.getfield 64, 3) := by decide +kernel
theorem dX4_changeBatch_88 : decode cX4_changeBatch 88 = .ok (.iload_n 1, 1) := by decide +kernel
theorem dX4_changeBatch_89 : decode cX4_changeBatch 89 = .ok (.iload_n 3, 1) := by decide +kernel
theorem dX4_changeBatch_90 : decode cX4_changeBatch 90 = .ok (.iastore, 1) := by decide +kernel
theorem dX4_changeBatch_91 : decode cX4_changeBatch 91 = .ok (.iload 4, 2) := by decide +kernel
theorem dX4_changeBatch_93 : decode cX4_changeBatch 93 = .ok (.ireturn, 1) := by decide +kernel
set_option maxRecDepth 20000 in
theorem ggX4_insertLamp_X6_isPlace : GoodIn wsX4_insertLamp wsX6_isPlace := goodIn_r _ [8, 9, 10, 7, 11, 12, 13, 14] (by decide +kernel) (by decide +kernel)
set_option maxRecDepth 20000 in
theorem gX4_insertLamp_X6_isPlace_n67 : GoodIn wsX4_insertLamp (wsX6_isPlace) := ggX4_insertLamp_X6_isPlace
set_option maxRecDepth 20000 in
theorem ggX4_insertLamp_X6_isBatch : GoodIn wsX4_insertLamp wsX6_isBatch := goodIn_r _ [16, 12, 13, 7, 14] (by decide +kernel) (by decide +kernel)
set_option maxRecDepth 20000 in
theorem gX4_insertLamp_X6_isBatch_n52 : GoodIn wsX4_insertLamp (wsX6_isBatch) := ggX4_insertLamp_X6_isBatch
set_option maxRecDepth 20000 in
theorem ggX4_insertLamp_X6_spotOf : GoodIn wsX4_insertLamp wsX6_spotOf := goodIn_r _ [18] (by decide +kernel) (by decide +kernel)
set_option maxRecDepth 20000 in
theorem gX4_insertLamp_X6_spotOf_n71 : GoodIn wsX4_insertLamp (wsX6_spotOf) := ggX4_insertLamp_X6_spotOf
set_option maxRecDepth 20000 in
theorem ggX4_insertLamp_X2_isFull : GoodIn wsX4_insertLamp wsX2_isFull := goodIn_r _ [23, 24, 62, 63, 64, 65, 66, 67, 68] (by decide +kernel) (by decide +kernel)
set_option maxRecDepth 20000 in
theorem gX4_insertLamp_X2_isFull : GoodIn wsX4_insertLamp (wsV RX4 78 RX2 yX2_isFull wsX2_isFull) := goodIn_app (goodIn_of _ (by decide +kernel)) ggX4_insertLamp_X2_isFull
set_option maxRecDepth 20000 in
theorem ggX4_insertLamp_X0_hoursOfLamp : GoodIn wsX4_insertLamp wsX0_hoursOfLamp := goodIn_r _ [29, 30, 31, 32, 33, 34, 35, 36, 7, 37, 38, 39, 40, 69, 70] (by decide +kernel) (by decide +kernel)
set_option maxRecDepth 20000 in
theorem gX4_insertLamp_X0_hoursOfLamp : GoodIn wsX4_insertLamp (wsV RX4 85 RX0 yX0_hoursOfLamp wsX0_hoursOfLamp) := goodIn_app (goodIn_of _ (by decide +kernel)) ggX4_insertLamp_X0_hoursOfLamp
set_option maxRecDepth 20000 in
theorem ggX4_insertLamp_X2_append : GoodIn wsX4_insertLamp wsX2_append := goodIn_r _ [44, 24, 45, 46, 47, 48, 49, 50, 62, 63, 64, 65, 66, 67, 68] (by decide +kernel) (by decide +kernel)
set_option maxRecDepth 20000 in
theorem gX4_insertLamp_X2_append : GoodIn wsX4_insertLamp (wsV RX4 88 RX2 yX2_append wsX2_append) := goodIn_app (goodIn_of _ (by decide +kernel)) ggX4_insertLamp_X2_append
theorem dX4_insertLamp_0 : decode cX4_insertLamp 0 = .ok (.iload_n 1, 1) := by decide +kernel
theorem dX4_insertLamp_1 : decode cX4_insertLamp 1 = .ok (.iload_n 2, 1) := by decide +kernel
theorem dX4_insertLamp_2 : decode cX4_insertLamp 2 = .ok (.invokestatic 67, 3) := by decide +kernel
theorem dX4_insertLamp_5 : decode cX4_insertLamp 5 = .ok (.ifCond .eq 10, 3) := by decide +kernel
theorem dX4_insertLamp_8 : decode cX4_insertLamp 8 = .ok (.iload_n 3, 1) := by decide +kernel
theorem dX4_insertLamp_9 : decode cX4_insertLamp 9 = .ok (.invokestatic 52, 3) := by decide +kernel
theorem dX4_insertLamp_12 : decode cX4_insertLamp 12 = .ok (.ifCond .ne 7, 3) := by decide +kernel
theorem dX4_insertLamp_15 : decode cX4_insertLamp 15 = .ok (.sipush (-1001), 3) := by decide +kernel
theorem dX4_insertLamp_18 : decode cX4_insertLamp 18 = .ok (.ireturn, 1) := by decide +kernel
theorem dX4_insertLamp_19 : decode cX4_insertLamp 19 = .ok (.iload_n 1, 1) := by decide +kernel
theorem dX4_insertLamp_20 : decode cX4_insertLamp 20 = .ok (.iload_n 2, 1) := by decide +kernel
theorem dX4_insertLamp_21 : decode cX4_insertLamp 21 = .ok (.invokestatic 71, 3) := by decide +kernel
theorem dX4_insertLamp_24 : decode cX4_insertLamp 24 = .ok (.istore 4, 2) := by decide +kernel
theorem dX4_insertLamp_26 : decode cX4_insertLamp 26 = .ok (.aload_n 0, 1) := by decide +kernel
theorem dX4_insertLamp_27 : decode cX4_insertLamp 27 = .ok (.getfield 38, 3) := by decide +kernel
theorem dX4_insertLamp_30 : decode cX4_insertLamp 30 = .ok (.getfield 75, 3) := by decide +kernel
theorem dX4_insertLamp_33 : decode cX4_insertLamp 33 = .ok (.iload 4, 2) := by decide +kernel
theorem dX4_insertLamp_35 : decode cX4_insertLamp 35 = .ok (.iaload, 1) := by decide +kernel
theorem dX4_insertLamp_36 : decode cX4_insertLamp 36 = .ok (.iconst (-1), 1) := by decide +kernel
theorem dX4_insertLamp_37 : decode cX4_insertLamp 37 = .ok (.if_icmp .eq 7, 3) := by decide +kernel
theorem dX4_insertLamp_40 : decode cX4_insertLamp 40 = .ok (.sipush (-1004), 3) := by decide +kernel
theorem dX4_insertLamp_43 : decode cX4_insertLamp 43 = .ok (.ireturn, 1) := by decide +kernel
theorem dX4_insertLamp_44 : decode cX4_insertLamp 44 = .ok (.aload_n 0, 1) := by decide +kernel
theorem dX4_insertLamp_45 : decode cX4_insertLamp 45 = .ok (.getfield 31, 3) := by decide +kernel
theorem dX4_insertLamp_48 : decode cX4_insertLamp 48 = .ok (.invokevirtual 78, 3) := by decide +kernel
theorem dX4_insertLamp_51 : decode cX4_insertLamp 51 = .ok (.ifCond .eq 7, 3) := by decide +kernel
theorem dX4_insertLamp_54 : decode cX4_insertLamp 54 = .ok (.sipush (-1003), 3) := by decide +kernel
theorem dX4_insertLamp_57 : decode cX4_insertLamp 57 = .ok (.ireturn, 1) := by decide +kernel
theorem dX4_insertLamp_58 : decode cX4_insertLamp 58 = .ok (.aload_n 0, 1) := by decide +kernel
theorem dX4_insertLamp_59 : decode cX4_insertLamp 59 = .ok (.getfield 31, 3) := by decide +kernel
theorem dX4_insertLamp_62 : decode cX4_insertLamp 62 = .ok (.iload_n 3, 1) := by decide +kernel
theorem dX4_insertLamp_63 : decode cX4_insertLamp 63 = .ok (.iload 4, 2) := by decide +kernel
theorem dX4_insertLamp_65 : decode cX4_insertLamp 65 = .ok (.aload_n 0, 1) := by decide +kernel
theorem dX4_insertLamp_66 : decode cX4_insertLamp 66 = .ok (.getfield 24, 3) := by decide +kernel
theorem dX4_insertLamp_69 : decode cX4_insertLamp 69 = .ok (.iload_n 3, 1) := by decide +kernel
theorem dX4_insertLamp_70 : decode cX4_insertLamp 70 = .ok (.aload_n 0, 1) := by decide +kernel
theorem dX4_insertLamp_71 : decode cX4_insertLamp 71 = .ok (.getfield 31, 3) := by decide +kernel
theorem dX4_insertLamp_74 : decode cX4_insertLamp 74 = .ok (.getfield 82, 3) := by decide +kernel
theorem dX4_insertLamp_77 : decode cX4_insertLamp 77 = .ok (.invokevirtual 85, 3) := by decide +kernel
theorem dX4_insertLamp_80 : decode cX4_insertLamp 80 = .ok (.invokevirtual 88, 3) := by decide +kernel
theorem dX4_insertLamp_83 : decode cX4_insertLamp 83 = .ok (.istore 5, 2) := by decide +kernel
theorem dX4_insertLamp_85 : decode cX4_insertLamp 85 = .ok (.aload_n 0, 1) := by decide +kernel
theorem dX4_insertLamp_86 : decode cX4_insertLamp 86 = .ok (.getfield 38, 3) := by decide +kernel
theorem dX4_insertLamp_89 : decode cX4_insertLamp 89 = .ok (.getfield 75, 3) := by decide +kernel
theorem dX4_insertLamp_92 : decode cX4_insertLamp 92 = .ok (.iload 4, 2) := by decide +kernel
theorem dX4_insertLamp_94 : decode cX4_insertLamp 94 = .ok (.iload 5, 2) := by decide +kernel
theorem dX4_insertLamp_96 : decode cX4_insertLamp 96 = .ok (.iastore, 1) := by decide +kernel
theorem dX4_insertLamp_97 : decode cX4_insertLamp 97 = .ok (.iload 5, 2) := by decide +kernel
theorem dX4_insertLamp_99 : decode cX4_insertLamp 99 = .ok (.ireturn, 1) := by decide +kernel
set_option maxRecDepth 20000 in
theorem ggX4_removeLamp_X6_isPlace : GoodIn wsX4_removeLamp wsX6_isPlace := goodIn_r _ [7, 8, 9, 6, 10, 11, 12, 13] (by decide +kernel) (by decide +kernel)
set_option maxRecDepth 20000 in
theorem gX4_removeLamp_X6_isPlace_n67 : GoodIn wsX4_removeLamp (wsX6_isPlace) := ggX4_removeLamp_X6_isPlace
set_option maxRecDepth 20000 in
theorem ggX4_removeLamp_X6_spotOf : GoodIn wsX4_removeLamp wsX6_spotOf := goodIn_r _ [15] (by decide +kernel) (by decide +kernel)
set_option maxRecDepth 20000 in
theorem gX4_removeLamp_X6_spotOf_n71 : GoodIn wsX4_removeLamp (wsX6_spotOf) := ggX4_removeLamp_X6_spotOf
theorem dX4_removeLamp_0 : decode cX4_removeLamp 0 = .ok (.iload_n 1, 1) := by decide +kernel
theorem dX4_removeLamp_1 : decode cX4_removeLamp 1 = .ok (.iload_n 2, 1) := by decide +kernel
theorem dX4_removeLamp_2 : decode cX4_removeLamp 2 = .ok (.invokestatic 67, 3) := by decide +kernel
theorem dX4_removeLamp_5 : decode cX4_removeLamp 5 = .ok (.ifCond .ne 7, 3) := by decide +kernel
theorem dX4_removeLamp_8 : decode cX4_removeLamp 8 = .ok (.sipush (-1001), 3) := by decide +kernel
theorem dX4_removeLamp_11 : decode cX4_removeLamp 11 = .ok (.ireturn, 1) := by decide +kernel
theorem dX4_removeLamp_12 : decode cX4_removeLamp 12 = .ok (.iload_n 1, 1) := by decide +kernel
theorem dX4_removeLamp_13 : decode cX4_removeLamp 13 = .ok (.iload_n 2, 1) := by decide +kernel
theorem dX4_removeLamp_14 : decode cX4_removeLamp 14 = .ok (.invokestatic 71, 3) := by decide +kernel
theorem dX4_removeLamp_17 : decode cX4_removeLamp 17 = .ok (.istore_n 3, 1) := by decide +kernel
theorem dX4_removeLamp_18 : decode cX4_removeLamp 18 = .ok (.aload_n 0, 1) := by decide +kernel
theorem dX4_removeLamp_19 : decode cX4_removeLamp 19 = .ok (.getfield 38, 3) := by decide +kernel
theorem dX4_removeLamp_22 : decode cX4_removeLamp 22 = .ok (.getfield 75, 3) := by decide +kernel
theorem dX4_removeLamp_25 : decode cX4_removeLamp 25 = .ok (.iload_n 3, 1) := by decide +kernel
theorem dX4_removeLamp_26 : decode cX4_removeLamp 26 = .ok (.iaload, 1) := by decide +kernel
theorem dX4_removeLamp_27 : decode cX4_removeLamp 27 = .ok (.istore 4, 2) := by decide +kernel
theorem dX4_removeLamp_29 : decode cX4_removeLamp 29 = .ok (.iload 4, 2) := by decide +kernel
theorem dX4_removeLamp_31 : decode cX4_removeLamp 31 = .ok (.iconst (-1), 1) := by decide +kernel
theorem dX4_removeLamp_32 : decode cX4_removeLamp 32 = .ok (.if_icmp .ne 7, 3) := by decide +kernel
theorem dX4_removeLamp_35 : decode cX4_removeLamp 35 = .ok (.sipush (-1005), 3) := by decide +kernel
theorem dX4_removeLamp_38 : decode cX4_removeLamp 38 = .ok (.ireturn, 1) := by decide +kernel
theorem dX4_removeLamp_39 : decode cX4_removeLamp 39 = .ok (.aload_n 0, 1) := by decide +kernel
theorem dX4_removeLamp_40 : decode cX4_removeLamp 40 = .ok (.getfield 38, 3) := by decide +kernel
theorem dX4_removeLamp_43 : decode cX4_removeLamp 43 = .ok (.getfield 75, 3) := by decide +kernel
theorem dX4_removeLamp_46 : decode cX4_removeLamp 46 = .ok (.iload_n 3, 1) := by decide +kernel
theorem dX4_removeLamp_47 : decode cX4_removeLamp 47 = .ok (.iconst (-1), 1) := by decide +kernel
theorem dX4_removeLamp_48 : decode cX4_removeLamp 48 = .ok (.iastore, 1) := by decide +kernel
theorem dX4_removeLamp_49 : decode cX4_removeLamp 49 = .ok (.aload_n 0, 1) := by decide +kernel
theorem dX4_removeLamp_50 : decode cX4_removeLamp 50 = .ok (.getfield 31, 3) := by decide +kernel
theorem dX4_removeLamp_53 : decode cX4_removeLamp 53 = .ok (.getfield 92, 3) := by decide +kernel
theorem dX4_removeLamp_56 : decode cX4_removeLamp 56 = .ok (.iload 4, 2) := by decide +kernel
theorem dX4_removeLamp_58 : decode cX4_removeLamp 58 = .ok (.iconst (-1), 1) := by decide +kernel
theorem dX4_removeLamp_59 : decode cX4_removeLamp 59 = .ok (.iastore, 1) := by decide +kernel
theorem dX4_removeLamp_60 : decode cX4_removeLamp 60 = .ok (.iload 4, 2) := by decide +kernel
theorem dX4_removeLamp_62 : decode cX4_removeLamp 62 = .ok (.ireturn, 1) := by decide +kernel
set_option maxRecDepth 20000 in
theorem ggX4_exchange_X6_isPlace : GoodIn wsX4_exchange wsX6_isPlace := goodIn_r _ [5, 6, 7, 4, 8, 9, 10, 11] (by decide +kernel) (by decide +kernel)
set_option maxRecDepth 20000 in
theorem gX4_exchange_X6_isPlace_n67 : GoodIn wsX4_exchange (wsX6_isPlace) := ggX4_exchange_X6_isPlace
set_option maxRecDepth 20000 in
theorem ggX4_exchange_X6_spotOf : GoodIn wsX4_exchange wsX6_spotOf := goodIn_r _ [13] (by decide +kernel) (by decide +kernel)
set_option maxRecDepth 20000 in
theorem gX4_exchange_X6_spotOf_n71 : GoodIn wsX4_exchange (wsX6_spotOf) := ggX4_exchange_X6_spotOf
set_option maxRecDepth 20000 in
theorem ggX4_exchange_X4_moveTo : GoodIn wsX4_exchange wsX4_moveTo := goodIn_r _ [18, 1, 2, 19, 20, 21, 22, 23, 24, 25, 26, 27, 28, 29, 30, 31, 32, 33, 34, 35, 36, 37, 38] (by decide +kernel) (by decide +kernel)
set_option maxRecDepth 20000 in
theorem gX4_exchange_X4_moveTo : GoodIn wsX4_exchange (wsV RX4 95 RX4 yX4_moveTo wsX4_moveTo) := goodIn_app (goodIn_of _ (by decide +kernel)) ggX4_exchange_X4_moveTo
theorem dX4_exchange_0 : decode cX4_exchange 0 = .ok (.iload_n 1, 1) := by decide +kernel
theorem dX4_exchange_1 : decode cX4_exchange 1 = .ok (.iload_n 2, 1) := by decide +kernel
theorem dX4_exchange_2 : decode cX4_exchange 2 = .ok (.invokestatic 67, 3) := by decide +kernel
theorem dX4_exchange_5 : decode cX4_exchange 5 = .ok (.ifCond .eq 12, 3) := by decide +kernel
theorem dX4_exchange_8 : decode cX4_exchange 8 = .ok (.iload_n 3, 1) := by decide +kernel
theorem dX4_exchange_9 : decode cX4_exchange 9 = .ok (.iload 4, 2) := by decide +kernel
theorem dX4_exchange_11 : decode cX4_exchange 11 = .ok (.invokestatic 67, 3) := by decide +kernel
theorem dX4_exchange_14 : decode cX4_exchange 14 = .ok (.ifCond .ne 7, 3) := by decide +kernel
theorem dX4_exchange_17 : decode cX4_exchange 17 = .ok (.sipush (-1001), 3) := by decide +kernel
theorem dX4_exchange_20 : decode cX4_exchange 20 = .ok (.ireturn, 1) := by decide +kernel
theorem dX4_exchange_21 : decode cX4_exchange 21 = .ok (.iload_n 1, 1) := by decide +kernel
theorem dX4_exchange_22 : decode cX4_exchange 22 = .ok (.iload_n 2, 1) := by decide +kernel
theorem dX4_exchange_23 : decode cX4_exchange 23 = .ok (.invokestatic 71, 3) := by decide +kernel
theorem dX4_exchange_26 : decode cX4_exchange 26 = .ok (.istore 5, 2) := by decide +kernel
theorem dX4_exchange_28 : decode cX4_exchange 28 = .ok (.iload_n 3, 1) := by decide +kernel
theorem dX4_exchange_29 : decode cX4_exchange 29 = .ok (.iload 4, 2) := by decide +kernel
theorem dX4_exchange_31 : decode cX4_exchange 31 = .ok (.invokestatic 71, 3) := by decide +kernel
theorem dX4_exchange_34 : decode cX4_exchange 34 = .ok (.istore 6, 2) := by decide +kernel
theorem dX4_exchange_36 : decode cX4_exchange 36 = .ok (.aload_n 0, 1) := by decide +kernel
theorem dX4_exchange_37 : decode cX4_exchange 37 = .ok (.getfield 38, 3) := by decide +kernel
theorem dX4_exchange_40 : decode cX4_exchange 40 = .ok (.getfield 75, 3) := by decide +kernel
theorem dX4_exchange_43 : decode cX4_exchange 43 = .ok (.iload 5, 2) := by decide +kernel
theorem dX4_exchange_45 : decode cX4_exchange 45 = .ok (.iaload, 1) := by decide +kernel
theorem dX4_exchange_46 : decode cX4_exchange 46 = .ok (.istore 7, 2) := by decide +kernel
theorem dX4_exchange_48 : decode cX4_exchange 48 = .ok (.aload_n 0, 1) := by decide +kernel
theorem dX4_exchange_49 : decode cX4_exchange 49 = .ok (.getfield 38, 3) := by decide +kernel
theorem dX4_exchange_52 : decode cX4_exchange 52 = .ok (.getfield 75, 3) := by decide +kernel
theorem dX4_exchange_55 : decode cX4_exchange 55 = .ok (.iload 6, 2) := by decide +kernel
theorem dX4_exchange_57 : decode cX4_exchange 57 = .ok (.iaload, 1) := by decide +kernel
theorem dX4_exchange_58 : decode cX4_exchange 58 = .ok (.istore 8, 2) := by decide +kernel
theorem dX4_exchange_60 : decode cX4_exchange 60 = .ok (.iload 5, 2) := by decide +kernel
theorem dX4_exchange_62 : decode cX4_exchange 62 = .ok (.iload 6, 2) := by decide +kernel
theorem dX4_exchange_64 : decode cX4_exchange 64 = .ok (.if_icmp .eq 15, 3) := by decide +kernel
theorem dX4_exchange_67 : decode cX4_exchange 67 = .ok (.iload 7, 2) := by decide +kernel
theorem dX4_exchange_69 : decode cX4_exchange 69 = .ok (.iconst (-1), 1) := by decide +kernel
theorem dX4_exchange_70 : decode cX4_exchange 70 = .ok (.if_icmp .ne 13, 3) := by decide +kernel
theorem dX4_exchange_73 : decode cX4_exchange 73 = .ok (.iload 8, 2) := by decide +kernel
theorem dX4_exchange_75 : decode cX4_exchange 75 = .ok (.iconst (-1), 1) := by decide +kernel
theorem dX4_exchange_76 : decode cX4_exchange 76 = .ok (.if_icmp .ne 7, 3) := by decide +kernel
theorem dX4_exchange_79 : decode cX4_exchange 79 = .ok (.sipush (-1005), 3) := by decide +kernel
theorem dX4_exchange_82 : decode cX4_exchange 82 = .ok (.ireturn, 1) := by decide +kernel
theorem dX4_exchange_83 : decode cX4_exchange 83 = .ok (.aload_n 0, 1) := by decide +kernel
theorem dX4_exchange_84 : decode cX4_exchange 84 = .ok (.iload 6, 2) := by decide +kernel
theorem dX4_exchange_86 : decode cX4_exchange 86 = .ok (.iload 7, 2) := by decide +kernel
theorem dX4_exchange_88 : decode cX4_exchange 88 = .ok (.invokevirtual 95, 3) := by decide +kernel
theorem dX4_exchange_91 : decode cX4_exchange 91 = .ok (.aload_n 0, 1) := by decide +kernel
theorem dX4_exchange_92 : decode cX4_exchange 92 = .ok (.iload 5, 2) := by decide +kernel
theorem dX4_exchange_94 : decode cX4_exchange 94 = .ok (.iload 8, 2) := by decide +kernel
theorem dX4_exchange_96 : decode cX4_exchange 96 = .ok (.invokevirtual 95, 3) := by decide +kernel
theorem dX4_exchange_99 : decode cX4_exchange 99 = .ok (.iadd, 1) := by decide +kernel
theorem dX4_exchange_100 : decode cX4_exchange 100 = .ok (.ireturn, 1) := by decide +kernel
theorem dX4_moveTo_0 : decode cX4_moveTo 0 = .ok (.aload_n 0, 1) := by decide +kernel
theorem dX4_moveTo_1 : decode cX4_moveTo 1 = .ok (.getfield 38, 3) := by decide +kernel
theorem dX4_moveTo_4 : decode cX4_moveTo 4 = .ok (.getfield 75, 3) := by decide +kernel
theorem dX4_moveTo_7 : decode cX4_moveTo 7 = .ok (.iload_n 1, 1) := by decide +kernel
theorem dX4_moveTo_8 : decode cX4_moveTo 8 = .ok (.iload_n 2, 1) := by decide +kernel
theorem dX4_moveTo_9 : decode cX4_moveTo 9 = .ok (.iastore, 1) := by decide +kernel
theorem dX4_moveTo_10 : decode cX4_moveTo 10 = .ok (.iload_n 2, 1) := by decide +kernel
theorem dX4_moveTo_11 : decode cX4_moveTo 11 = .ok (.iconst (-1), 1) := by decide +kernel
theorem dX4_moveTo_12 : decode cX4_moveTo 12 = .ok (.if_icmp .ne 5, 3) := by decide +kernel
theorem dX4_moveTo_15 : decode cX4_moveTo 15 = .ok (.iconst 0, 1) := by decide +kernel
theorem dX4_moveTo_16 : decode cX4_moveTo 16 = .ok (.ireturn, 1) := by decide +kernel
theorem dX4_moveTo_17 : decode cX4_moveTo 17 = .ok (.aload_n 0, 1) := by decide +kernel
theorem dX4_moveTo_18 : decode cX4_moveTo 18 = .ok (.getfield 31, 3) := by decide +kernel
theorem dX4_moveTo_21 : decode cX4_moveTo 21 = .ok (.getfield 92, 3) := by decide +kernel
theorem dX4_moveTo_24 : decode cX4_moveTo 24 = .ok (.iload_n 2, 1) := by decide +kernel
theorem dX4_moveTo_25 : decode cX4_moveTo 25 = .ok (.iload_n 1, 1) := by decide +kernel
theorem dX4_moveTo_26 : decode cX4_moveTo 26 = .ok (.iastore, 1) := by decide +kernel
theorem dX4_moveTo_27 : decode cX4_moveTo 27 = .ok (.iconst 1, 1) := by decide +kernel
theorem dX4_moveTo_28 : decode cX4_moveTo 28 = .ok (.ireturn, 1) := by decide +kernel
set_option maxRecDepth 20000 in
theorem ggX4_changeVolts_X6_isRack : GoodIn wsX4_changeVolts wsX6_isRack := goodIn_r _ [5, 6, 7, 4, 8] (by decide +kernel) (by decide +kernel)
set_option maxRecDepth 20000 in
theorem gX4_changeVolts_X6_isRack_n98 : GoodIn wsX4_changeVolts (wsX6_isRack) := ggX4_changeVolts_X6_isRack
set_option maxRecDepth 20000 in
theorem ggX4_changeVolts_X6_isWithin : GoodIn wsX4_changeVolts wsX6_isWithin := goodIn_r _ [8] (by decide +kernel) (by decide +kernel)
set_option maxRecDepth 20000 in
theorem gX4_changeVolts_X6_isWithin_n56 : GoodIn wsX4_changeVolts (wsX6_isWithin) := ggX4_changeVolts_X6_isWithin
theorem dX4_changeVolts_0 : decode cX4_changeVolts 0 = .ok (.iload_n 1, 1) := by decide +kernel
theorem dX4_changeVolts_1 : decode cX4_changeVolts 1 = .ok (.invokestatic 98, 3) := by decide +kernel
theorem dX4_changeVolts_4 : decode cX4_changeVolts 4 = .ok (.ifCond .ne 7, 3) := by decide +kernel
theorem dX4_changeVolts_7 : decode cX4_changeVolts 7 = .ok (.sipush (-1001), 3) := by decide +kernel
theorem dX4_changeVolts_10 : decode cX4_changeVolts 10 = .ok (.ireturn, 1) := by decide +kernel
theorem dX4_changeVolts_11 : decode cX4_changeVolts 11 = .ok (.iload_n 2, 1) := by decide +kernel
theorem dX4_changeVolts_12 : decode cX4_changeVolts 12 = .ok (.iconst 0, 1) := by decide +kernel
theorem dX4_changeVolts_13 : decode cX4_changeVolts 13 = .ok (.sipush 300, 3) := by decide +kernel
theorem dX4_changeVolts_16 : decode cX4_changeVolts 16 = .ok (.invokestatic 56, 3) := by decide +kernel
theorem dX4_changeVolts_19 : decode cX4_changeVolts 19 = .ok (.ifCond .ne 7, 3) := by decide +kernel
theorem dX4_changeVolts_22 : decode cX4_changeVolts 22 = .ok (.sipush (-1002), 3) := by decide +kernel
theorem dX4_changeVolts_25 : decode cX4_changeVolts 25 = .ok (.ireturn, 1) := by decide +kernel
theorem dX4_changeVolts_26 : decode cX4_changeVolts 26 = .ok (.aload_n 0, 1) := by decide +kernel
theorem dX4_changeVolts_27 : decode cX4_changeVolts 27 = .ok (.getfield 38, 3) := by decide +kernel
theorem dX4_changeVolts_30 : decode cX4_changeVolts 30 = .ok (.getfield 101, 3) := by decide +kernel
theorem dX4_changeVolts_33 : decode cX4_changeVolts 33 = .ok (.iload_n 1, 1) := by decide +kernel
theorem dX4_changeVolts_34 : decode cX4_changeVolts 34 = .ok (.iaload, 1) := by decide +kernel
theorem dX4_changeVolts_35 : decode cX4_changeVolts 35 = .ok (.istore_n 3, 1) := by decide +kernel
theorem dX4_changeVolts_36 : decode cX4_changeVolts 36 = .ok (.iload_n 3, 1) := by decide +kernel
theorem dX4_changeVolts_37 : decode cX4_changeVolts 37 = .ok (.iload_n 2, 1) := by decide +kernel
theorem dX4_changeVolts_38 : decode cX4_changeVolts 38 = .ok (.if_icmp .ne 7, 3) := by decide +kernel
theorem dX4_changeVolts_41 : decode cX4_changeVolts 41 = .ok (.sipush (-1005), 3) := by decide +kernel
theorem dX4_changeVolts_44 : decode cX4_changeVolts 44 = .ok (.ireturn, 1) := by decide +kernel
theorem dX4_changeVolts_45 : decode cX4_changeVolts 45 = .ok (.aload_n 0, 1) := by decide +kernel
theorem dX4_changeVolts_46 : decode cX4_changeVolts 46 = .ok (.getfield 38, 3) := by decide +kernel
theorem dX4_changeVolts_49 : decode cX4_changeVolts 49 = .ok (.getfield 101, 3) := by decide +kernel
theorem dX4_changeVolts_52 : decode cX4_changeVolts 52 = .ok (.iload_n 1, 1) := by decide +kernel
theorem dX4_changeVolts_53 : decode cX4_changeVolts 53 = .ok (.iload_n 2, 1) := by decide +kernel
theorem dX4_changeVolts_54 : decode cX4_changeVolts 54 = .ok (.iastore, 1) := by decide +kernel
theorem dX4_changeVolts_55 : decode cX4_changeVolts 55 = .ok (.iload_n 3, 1) := by decide +kernel
theorem dX4_changeVolts_56 : decode cX4_changeVolts 56 = .ok (.ireturn, 1) := by decide +kernel
set_option maxRecDepth 20000 in
theorem ggX4_changeSteps_X6_isRack : GoodIn wsX4_changeSteps wsX6_isRack := goodIn_r _ [7, 8, 9, 6, 10] (by decide +kernel) (by decide +kernel)
set_option maxRecDepth 20000 in
theorem gX4_changeSteps_X6_isRack_n98 : GoodIn wsX4_changeSteps (wsX6_isRack) := ggX4_changeSteps_X6_isRack
set_option maxRecDepth 20000 in
theorem ggX4_changeSteps_X6_isWithin : GoodIn wsX4_changeSteps wsX6_isWithin := goodIn_r _ [10] (by decide +kernel) (by decide +kernel)
set_option maxRecDepth 20000 in
theorem gX4_changeSteps_X6_isWithin_n56 : GoodIn wsX4_changeSteps (wsX6_isWithin) := ggX4_changeSteps_X6_isWithin
theorem dX4_changeSteps_0 : decode cX4_changeSteps 0 = .ok (.iload_n 1, 1) := by decide +kernel
theorem dX4_changeSteps_1 : decode cX4_changeSteps 1 = .ok (.invokestatic 98, 3) := by decide +kernel
theorem dX4_changeSteps_4 : decode cX4_changeSteps 4 = .ok (.ifCond .ne 7, 3) := by decide +kernel
theorem dX4_changeSteps_7 : decode cX4_changeSteps 7 = .ok (.sipush (-1001), 3) := by decide +kernel
theorem dX4_changeSteps_10 : decode cX4_changeSteps 10 = .ok (.ireturn, 1) := by decide +kernel
theorem dX4_changeSteps_11 : decode cX4_changeSteps 11 = .ok (.iload_n 2, 1) := by decide +kernel
theorem dX4_changeSteps_12 : decode cX4_changeSteps 12 = .ok (.iconst 0, 1) := by decide +kernel
theorem dX4_changeSteps_13 : decode cX4_changeSteps 13 = .ok (.bipush 99, 2) := by decide +kernel
theorem dX4_changeSteps_15 : decode cX4_changeSteps 15 = .ok (.invokestatic 56, 3) := by decide +kernel
theorem dX4_changeSteps_18 : decode cX4_changeSteps 18 = .ok (.ifCond .eq 14, 3) := by decide +kernel
theorem dX4_changeSteps_21 : decode cX4_changeSteps 21 = .ok (.iload_n 3, 1) := by decide +kernel
theorem dX4_changeSteps_22 : decode cX4_changeSteps 22 = .ok (.bipush (-50), 2) := by decide +kernel
theorem dX4_changeSteps_24 : decode cX4_changeSteps 24 = .ok (.bipush 50, 2) := by decide +kernel
theorem dX4_changeSteps_26 : decode cX4_changeSteps 26 = .ok (.invokestatic 56, 3) := by decide +kernel
theorem dX4_changeSteps_29 : decode cX4_changeSteps 29 = .ok (.ifCond .ne 7, 3) := by decide +kernel
theorem dX4_changeSteps_32 : decode cX4_changeSteps 32 = .ok (.sipush (-1002), 3) := by decide +kernel
theorem dX4_changeSteps_35 : decode cX4_changeSteps 35 = .ok (.ireturn, 1) := by decide +kernel
theorem dX4_changeSteps_36 : decode cX4_changeSteps 36 = .ok (.aload_n 0, 1) := by decide +kernel
theorem dX4_changeSteps_37 : decode cX4_changeSteps 37 = .ok (.getfield 38, 3) := by decide +kernel
theorem dX4_changeSteps_40 : decode cX4_changeSteps 40 = .ok (.getfield 104, 3) := by decide +kernel
theorem dX4_changeSteps_43 : decode cX4_changeSteps 43 = .ok (.iload_n 1, 1) := by decide +kernel
theorem dX4_changeSteps_44 : decode cX4_changeSteps 44 = .ok (.iaload, 1) := by decide +kernel
theorem dX4_changeSteps_45 : decode cX4_changeSteps 45 = .ok (.istore 4, 2) := by decide +kernel
theorem dX4_changeSteps_47 : decode cX4_changeSteps 47 = .ok (.aload_n 0, 1) := by decide +kernel
theorem dX4_changeSteps_48 : decode cX4_changeSteps 48 = .ok (.getfield 38, 3) := by decide +kernel
theorem dX4_changeSteps_51 : decode cX4_changeSteps 51 = .ok (.getfield 104, 3) := by decide +kernel
theorem dX4_changeSteps_54 : decode cX4_changeSteps 54 = .ok (.iload_n 1, 1) := by decide +kernel
theorem dX4_changeSteps_55 : decode cX4_changeSteps 55 = .ok (.iload_n 2, 1) := by decide +kernel
theorem dX4_changeSteps_56 : decode cX4_changeSteps 56 = .ok (.iastore, 1) := by decide +kernel
theorem dX4_changeSteps_57 : decode cX4_changeSteps 57 = .ok (.aload_n 0, 1) := by decide +kernel
theorem dX4_changeSteps_58 : decode cX4_changeSteps 58 = .ok (.getfield 38, 3) := by decide +kernel
theorem dX4_changeSteps_61 : decode cX4_changeSteps 61 = .ok (.getfield 107, 3) := by decide +kernel
theorem dX4_changeSteps_64 : decode cX4_changeSteps 64 = .ok (.iload_n 1, 1) := by decide +kernel
theorem dX4_changeSteps_65 : decode cX4_changeSteps 65 = .ok (.iload_n 3, 1) := by decide +kernel
theorem dX4_changeSteps_66 : decode cX4_changeSteps 66 = .ok (.iastore, 1) := by decide +kernel
theorem dX4_changeSteps_67 : decode cX4_changeSteps 67 = .ok (.aload_n 0, 1) := by decide +kernel
theorem dX4_changeSteps_68 : decode cX4_changeSteps 68 = .ok (.getfield 38, 3) := by decide +kernel
theorem dX4_changeSteps_71 : decode cX4_changeSteps 71 = .ok (.getfield 110, 3) := by decide +kernel
theorem dX4_changeSteps_74 : decode cX4_changeSteps 74 = .ok (.iload_n 1, 1) := by decide +kernel
theorem dX4_changeSteps_75 : decode cX4_changeSteps 75 = .ok (.iconst 0, 1) := by decide +kernel
theorem dX4_changeSteps_76 : decode cX4_changeSteps 76 = .ok (.iastore, 1) := by decide +kernel
theorem dX4_changeSteps_77 : decode cX4_changeSteps 77 = .ok (.iload 4, 2) := by decide +kernel
theorem dX4_changeSteps_79 : decode cX4_changeSteps 79 = .ok (.ireturn, 1) := by decide +kernel
set_option maxRecDepth 20000 in
theorem ggX4_changeSetting_X4_changeWantedVolts : GoodIn wsX4_changeSetting wsX4_changeWantedVolts := goodIn_r _ [5, 6, 7, 8, 9, 15, 16, 17, 18, 19, 20] (by decide +kernel) (by decide +kernel)
set_option maxRecDepth 20000 in
theorem gX4_changeSetting_X4_changeWantedVolts : GoodIn wsX4_changeSetting (wsV RX4 113 RX4 yX4_changeWantedVolts wsX4_changeWantedVolts) := goodIn_app (goodIn_of _ (by decide +kernel)) ggX4_changeSetting_X4_changeWantedVolts
set_option maxRecDepth 20000 in
theorem ggX4_changeSetting_X4_changeDoublingVolts : GoodIn wsX4_changeSetting wsX4_changeDoublingVolts := goodIn_r _ [13, 14, 7, 8, 9, 15, 16, 17, 18, 19, 20] (by decide +kernel) (by decide +kernel)
set_option maxRecDepth 20000 in
theorem gX4_changeSetting_X4_changeDoublingVolts : GoodIn wsX4_changeSetting (wsV RX4 117 RX4 yX4_changeDoublingVolts wsX4_changeDoublingVolts) := goodIn_app (goodIn_of _ (by decide +kernel)) ggX4_changeSetting_X4_changeDoublingVolts
theorem dX4_changeSetting_0 : decode cX4_changeSetting 0 = .ok (.iload_n 1, 1) := by decide +kernel
theorem dX4_changeSetting_1 : decode cX4_changeSetting 1 = .ok (.lookupswitch 39 #[(0, 27), (1, 33)], 27) := by decide +kernel
theorem dX4_changeSetting_28 : decode cX4_changeSetting 28 = .ok (.aload_n 0, 1) := by decide +kernel
theorem dX4_changeSetting_29 : decode cX4_changeSetting 29 = .ok (.iload_n 2, 1) := by decide +kernel
theorem dX4_changeSetting_30 : decode cX4_changeSetting 30 = .ok (.invokevirtual 113, 3) := by decide +kernel
theorem dX4_changeSetting_33 : decode cX4_changeSetting 33 = .ok (.ireturn, 1) := by decide +kernel
theorem dX4_changeSetting_34 : decode cX4_changeSetting 34 = .ok (.aload_n 0, 1) := by decide +kernel
theorem dX4_changeSetting_35 : decode cX4_changeSetting 35 = .ok (.iload_n 2, 1) := by decide +kernel
theorem dX4_changeSetting_36 : decode cX4_changeSetting 36 = .ok (.invokevirtual 117, 3) := by decide +kernel
theorem dX4_changeSetting_39 : decode cX4_changeSetting 39 = .ok (.ireturn, 1) := by decide +kernel
theorem dX4_changeSetting_40 : decode cX4_changeSetting 40 = .ok (.sipush (-1001), 3) := by decide +kernel
theorem dX4_changeSetting_43 : decode cX4_changeSetting 43 = .ok (.ireturn, 1) := by decide +kernel
set_option maxRecDepth 20000 in
theorem ggX4_changeWantedVolts_X6_isWithin : GoodIn wsX4_changeWantedVolts wsX6_isWithin := goodIn_r _ [4] (by decide +kernel) (by decide +kernel)
set_option maxRecDepth 20000 in
theorem gX4_changeWantedVolts_X6_isWithin_n56 : GoodIn wsX4_changeWantedVolts (wsX6_isWithin) := ggX4_changeWantedVolts_X6_isWithin
theorem dX4_changeWantedVolts_0 : decode cX4_changeWantedVolts 0 = .ok (.iload_n 1, 1) := by decide +kernel
theorem dX4_changeWantedVolts_1 : decode cX4_changeWantedVolts 1 = .ok (.bipush 100, 2) := by decide +kernel
theorem dX4_changeWantedVolts_3 : decode cX4_changeWantedVolts 3 = .ok (.sipush 300, 3) := by decide +kernel
theorem dX4_changeWantedVolts_6 : decode cX4_changeWantedVolts 6 = .ok (.invokestatic 56, 3) := by decide +kernel
theorem dX4_changeWantedVolts_9 : decode cX4_changeWantedVolts 9 = .ok (.ifCond .ne 7, 3) := by decide +kernel
theorem dX4_changeWantedVolts_12 : decode cX4_changeWantedVolts 12 = .ok (.sipush (-1002), 3) := by decide +kernel
theorem dX4_changeWantedVolts_15 : decode cX4_changeWantedVolts 15 = .ok (.ireturn, 1) := by decide +kernel
theorem dX4_changeWantedVolts_16 : decode cX4_changeWantedVolts 16 = .ok (.aload_n 0, 1) := by decide +kernel
theorem dX4_changeWantedVolts_17 : decode cX4_changeWantedVolts 17 = .ok (.getfield 15, 3) := by decide +kernel
theorem dX4_changeWantedVolts_20 : decode cX4_changeWantedVolts 20 = .ok (.istore_n 2, 1) := by decide +kernel
theorem dX4_changeWantedVolts_21 : decode cX4_changeWantedVolts 21 = .ok (.aload_n 0, 1) := by decide +kernel
theorem dX4_changeWantedVolts_22 : decode cX4_changeWantedVolts 22 = .ok (.iload_n 1, 1) := by decide +kernel
theorem dX4_changeWantedVolts_23 : decode cX4_changeWantedVolts 23 = .ok (.putfield 15, 3) := by decide +kernel
theorem dX4_changeWantedVolts_26 : decode cX4_changeWantedVolts 26 = .ok (.iload_n 2, 1) := by decide +kernel
theorem dX4_changeWantedVolts_27 : decode cX4_changeWantedVolts 27 = .ok (.iload_n 1, 1) := by decide +kernel
theorem dX4_changeWantedVolts_28 : decode cX4_changeWantedVolts 28 = .ok (.if_icmp .ne 9, 3) := by decide +kernel
theorem dX4_changeWantedVolts_31 : decode cX4_changeWantedVolts 31 = .ok (.sipush (-1005), 3) := by decide +kernel
theorem dX4_changeWantedVolts_34 : decode cX4_changeWantedVolts 34 = .ok (.goto 4, 3) := by decide +kernel
theorem dX4_changeWantedVolts_37 : decode cX4_changeWantedVolts 37 = .ok (.iload_n 2, 1) := by decide +kernel
theorem dX4_changeWantedVolts_38 : decode cX4_changeWantedVolts 38 = .ok (.ireturn, 1) := by decide +kernel
set_option maxRecDepth 20000 in
theorem ggX4_changeDoublingVolts_X6_isWithin : GoodIn wsX4_changeDoublingVolts wsX6_isWithin := goodIn_r _ [4] (by decide +kernel) (by decide +kernel)
set_option maxRecDepth 20000 in
theorem gX4_changeDoublingVolts_X6_isWithin_n56 : GoodIn wsX4_changeDoublingVolts (wsX6_isWithin) := ggX4_changeDoublingVolts_X6_isWithin
theorem dX4_changeDoublingVolts_0 : decode cX4_changeDoublingVolts 0 = .ok (.iload_n 1, 1) := by decide +kernel
theorem dX4_changeDoublingVolts_1 : decode cX4_changeDoublingVolts 1 = .ok (.iconst 1, 1) := by decide +kernel
theorem dX4_changeDoublingVolts_2 : decode cX4_changeDoublingVolts 2 = .ok (.bipush 100, 2) := by decide +kernel
theorem dX4_changeDoublingVolts_4 : decode cX4_changeDoublingVolts 4 = .ok (.invokestatic 56, 3) := by decide +kernel
theorem dX4_changeDoublingVolts_7 : decode cX4_changeDoublingVolts 7 = .ok (.ifCond .ne 7, 3) := by decide +kernel
theorem dX4_changeDoublingVolts_10 : decode cX4_changeDoublingVolts 10 = .ok (.sipush (-1002), 3) := by decide +kernel
theorem dX4_changeDoublingVolts_13 : decode cX4_changeDoublingVolts 13 = .ok (.ireturn, 1) := by decide +kernel
theorem dX4_changeDoublingVolts_14 : decode cX4_changeDoublingVolts 14 = .ok (.aload_n 0, 1) := by decide +kernel
theorem dX4_changeDoublingVolts_15 : decode cX4_changeDoublingVolts 15 = .ok (.getfield 18, 3) := by decide +kernel
theorem dX4_changeDoublingVolts_18 : decode cX4_changeDoublingVolts 18 = .ok (.istore_n 2, 1) := by decide +kernel
theorem dX4_changeDoublingVolts_19 : decode cX4_changeDoublingVolts 19 = .ok (.aload_n 0, 1) := by decide +kernel
theorem dX4_changeDoublingVolts_20 : decode cX4_changeDoublingVolts 20 = .ok (.iload_n 1, 1) := by decide +kernel
theorem dX4_changeDoublingVolts_21 : decode cX4_changeDoublingVolts 21 = .ok (.putfield 18, 3) := by decide +kernel
theorem dX4_changeDoublingVolts_24 : decode cX4_changeDoublingVolts 24 = .ok (.iload_n 2, 1) := by decide +kernel
theorem dX4_changeDoublingVolts_25 : decode cX4_changeDoublingVolts 25 = .ok (.iload_n 1, 1) := by decide +kernel
theorem dX4_changeDoublingVolts_26 : decode cX4_changeDoublingVolts 26 = .ok (.if_icmp .ne 9, 3) := by decide +kernel
theorem dX4_changeDoublingVolts_29 : decode cX4_changeDoublingVolts 29 = .ok (.sipush (-1005), 3) := by decide +kernel
theorem dX4_changeDoublingVolts_32 : decode cX4_changeDoublingVolts 32 = .ok (.goto 4, 3) := by decide +kernel
theorem dX4_changeDoublingVolts_35 : decode cX4_changeDoublingVolts 35 = .ok (.iload_n 2, 1) := by decide +kernel
theorem dX4_changeDoublingVolts_36 : decode cX4_changeDoublingVolts 36 = .ok (.ireturn, 1) := by decide +kernel
set_option maxRecDepth 20000 in
theorem ggX4_letPass_X6_isWithin : GoodIn wsX4_letPass wsX6_isWithin := goodIn_r _ [5] (by decide +kernel) (by decide +kernel)
set_option maxRecDepth 20000 in
theorem gX4_letPass_X6_isWithin_n56 : GoodIn wsX4_letPass (wsX6_isWithin) := ggX4_letPass_X6_isWithin
set_option maxRecDepth 20000 in
theorem ggX4_letPass_X4_passHours : GoodIn wsX4_letPass wsX4_passHours := goodIn_r _ [10, 1, 11, 12, 13, 9, 14, 15, 16, 17, 18, 19, 20, 21, 22, 23, 24, 25, 26, 27, 28, 29, 30, 31, 32, 33, 34, 35, 36, 37, 38, 39, 40, 41, 42, 43, 44, 45, 46, 47, 48, 49, 50, 51, 52, 53, 54, 4, 55, 56, 57, 58, 59, 60, 61, 62, 63, 64, 3, 5, 65, 66, 67, 68, 69, 70, 71, 72, 73, 74, 75, 76, 77, 78, 79, 80, 81, 82, 83, 84, 85, 86, 87, 88, 89, 90, 91, 92, 93, 94, 95, 96, 97, 98, 99, 100, 101, 102, 103, 104] (by decide +kernel) (by decide +kernel)
set_option maxRecDepth 20000 in
theorem gX4_letPass_X4_passHours : GoodIn wsX4_letPass (wsV RX4 121 RX4 yX4_passHours wsX4_passHours) := goodIn_app (goodIn_of _ (by decide +kernel)) ggX4_letPass_X4_passHours
theorem dX4_letPass_0 : decode cX4_letPass 0 = .ok (.iload_n 1, 1) := by decide +kernel
theorem dX4_letPass_1 : decode cX4_letPass 1 = .ok (.iconst 1, 1) := by decide +kernel
theorem dX4_letPass_2 : decode cX4_letPass 2 = .ok (.sipush 999, 3) := by decide +kernel
theorem dX4_letPass_5 : decode cX4_letPass 5 = .ok (.invokestatic 56, 3) := by decide +kernel
theorem dX4_letPass_8 : decode cX4_letPass 8 = .ok (.ifCond .ne 7, 3) := by decide +kernel
theorem dX4_letPass_11 : decode cX4_letPass 11 = .ok (.sipush (-1002), 3) := by decide +kernel
theorem dX4_letPass_14 : decode cX4_letPass 14 = .ok (.ireturn, 1) := by decide +kernel
theorem dX4_letPass_15 : decode cX4_letPass 15 = .ok (.aload_n 0, 1) := by decide +kernel
theorem dX4_letPass_16 : decode cX4_letPass 16 = .ok (.getfield 9, 3) := by decide +kernel
theorem dX4_letPass_19 : decode cX4_letPass 19 = .ok (.iload_n 1, 1) := by decide +kernel
theorem dX4_letPass_20 : decode cX4_letPass 20 = .ok (.iadd, 1) := by decide +kernel
theorem dX4_letPass_21 : decode cX4_letPass 21 = .ok (.ldc 120, 2) := by decide +kernel
theorem dX4_letPass_23 : decode cX4_letPass 23 = .ok (.if_icmp .le 7, 3) := by decide +kernel
theorem dX4_letPass_26 : decode cX4_letPass 26 = .ok (.sipush (-1003), 3) := by decide +kernel
theorem dX4_letPass_29 : decode cX4_letPass 29 = .ok (.ireturn, 1) := by decide +kernel
theorem dX4_letPass_30 : decode cX4_letPass 30 = .ok (.aload_n 0, 1) := by decide +kernel
theorem dX4_letPass_31 : decode cX4_letPass 31 = .ok (.iload_n 1, 1) := by decide +kernel
theorem dX4_letPass_32 : decode cX4_letPass 32 = .ok (.invokevirtual 121, 3) := by decide +kernel
theorem dX4_letPass_35 : decode cX4_letPass 35 = .ok (.ireturn, 1) := by decide +kernel
set_option maxRecDepth 20000 in
theorem ggX4_passHours_X4_passHoursOfRack : GoodIn wsX4_passHours wsX4_passHoursOfRack := goodIn_r _ [6, 7, 8, 9, 10, 11, 1, 12, 13, 14, 15, 16, 17, 18, 19, 20, 21, 22, 23, 24, 25, 26, 27, 28, 29, 30, 31, 32, 33, 34, 35, 5, 36, 37, 38, 39, 40, 41, 42, 43, 44, 45, 46, 47, 48, 49, 50, 51, 52, 53, 54, 55, 56, 57, 58, 59, 60, 61, 62, 63, 64, 65, 66, 67, 68, 69, 70, 71, 72, 73, 74, 75, 76, 77, 78, 79, 80, 81, 82, 83, 84, 85, 86, 87, 88, 89, 90, 91, 92, 93, 94, 95, 96, 97, 98, 99] (by decide +kernel) (by decide +kernel)
set_option maxRecDepth 20000 in
theorem gX4_passHours_X4_passHoursOfRack : GoodIn wsX4_passHours (wsV RX4 124 RX4 yX4_passHoursOfRack wsX4_passHoursOfRack) := goodIn_app (goodIn_of _ (by decide +kernel)) ggX4_passHours_X4_passHoursOfRack
theorem dX4_passHours_0 : decode cX4_passHours 0 = .ok (.iconst 0, 1) := by decide +kernel
theorem dX4_passHours_1 : decode cX4_passHours 1 = .ok (.istore_n 2, 1) := by decide +kernel
theorem dX4_passHours_2 : decode cX4_passHours 2 = .ok (.iconst 0, 1) := by decide +kernel
theorem dX4_passHours_3 : decode cX4_passHours 3 = .ok (.istore_n 3, 1) := by decide +kernel
theorem dX4_passHours_4 : decode cX4_passHours 4 = .ok (.iload_n 3, 1) := by decide +kernel
theorem dX4_passHours_5 : decode cX4_passHours 5 = .ok (.iconst 3, 1) := by decide +kernel
theorem dX4_passHours_6 : decode cX4_passHours 6 = .ok (.if_icmp .ge 18, 3) := by decide +kernel
theorem dX4_passHours_9 : decode cX4_passHours 9 = .ok (.iload_n 2, 1) := by decide +kernel
theorem dX4_passHours_10 : decode cX4_passHours 10 = .ok (.aload_n 0, 1) := by decide +kernel
theorem dX4_passHours_11 : decode cX4_passHours 11 = .ok (.iload_n 3, 1) := by decide +kernel
theorem dX4_passHours_12 : decode cX4_passHours 12 = .ok (.iload_n 1, 1) := by decide +kernel
theorem dX4_passHours_13 : decode cX4_passHours 13 = .ok (.invokevirtual 124, 3) := by decide +kernel
theorem dX4_passHours_16 : decode cX4_passHours 16 = .ok (.iadd, 1) := by decide +kernel
theorem dX4_passHours_17 : decode cX4_passHours 17 = .ok (.istore_n 2, 1) := by decide +kernel
theorem dX4_passHours_18 : decode cX4_passHours 18 = .ok (.iinc 3 1, 3) := by decide +kernel
theorem dX4_passHours_21 : decode cX4_passHours 21 = .ok (.goto (-17), 3) := by decide +kernel
theorem dX4_passHours_24 : decode cX4_passHours 24 = .ok (.aload_n 0, 1) := by decide +kernel
theorem dX4_passHours_25 : decode cX4_passHours 25 = .ok (.dup, 1) := by decide +kernel
theorem dX4_passHours_26 : decode cX4_passHours 26 = .ok (.getfield 9, 3) := by decide +kernel
theorem dX4_passHours_29 : decode cX4_passHours 29 = .ok (.iload_n 1, 1) := by decide +kernel
theorem dX4_passHours_30 : decode cX4_passHours 30 = .ok (.iadd, 1) := by decide +kernel
theorem dX4_passHours_31 : decode cX4_passHours 31 = .ok (.putfield 9, 3) := by decide +kernel
theorem dX4_passHours_34 : decode cX4_passHours 34 = .ok (.iload_n 2, 1) := by decide +kernel
theorem dX4_passHours_35 : decode cX4_passHours 35 = .ok (.ireturn, 1) := by decide +kernel
set_option maxRecDepth 20000 in
theorem ggX4_passHoursOfRack_X3_hoursAtSameVolts : GoodIn wsX4_passHoursOfRack wsX3_hoursAtSameVolts := goodIn_r _ [11, 12, 13, 14, 15, 4, 16, 17, 18, 19, 10, 20, 21, 22, 3, 5, 23, 24, 25, 26, 27, 84, 85, 86, 87, 88] (by decide +kernel) (by decide +kernel)
set_option maxRecDepth 20000 in
theorem gX4_passHoursOfRack_X3_hoursAtSameVolts : GoodIn wsX4_passHoursOfRack (wsV RX4 127 RX3 yX3_hoursAtSameVolts wsX3_hoursAtSameVolts) := goodIn_app (goodIn_of _ (by decide +kernel)) ggX4_passHoursOfRack_X3_hoursAtSameVolts
set_option maxRecDepth 20000 in
theorem ggX4_passHoursOfRack_X4_burnRack : GoodIn wsX4_passHoursOfRack wsX4_burnRack := goodIn_r _ [32, 1, 33, 34, 35, 36, 15, 4, 16, 37, 38, 39, 40, 10, 41, 13, 42, 43, 44, 45, 46, 47, 48, 49, 50, 51, 52, 53, 54, 55, 56, 57, 58, 31, 59, 60, 61, 2, 3, 5, 62, 63, 64, 65, 66, 67, 68, 69, 70, 71, 72, 73, 78, 79, 80, 81, 82, 83, 84, 85, 86, 87, 88, 89, 90, 91, 92, 93, 94, 95] (by decide +kernel) (by decide +kernel)
set_option maxRecDepth 20000 in
theorem gX4_passHoursOfRack_X4_burnRack : GoodIn wsX4_passHoursOfRack (wsV RX4 135 RX4 yX4_burnRack wsX4_burnRack) := goodIn_app (goodIn_of _ (by decide +kernel)) ggX4_passHoursOfRack_X4_burnRack
set_option maxRecDepth 20000 in
theorem ggX4_passHoursOfRack_X3_countHours : GoodIn wsX4_passHoursOfRack wsX3_countHours := goodIn_r _ [77, 12, 27, 13, 17, 18, 19, 10, 20, 21, 14, 15, 4, 16, 22, 3, 5, 84, 85, 86, 87, 88] (by decide +kernel) (by decide +kernel)
set_option maxRecDepth 20000 in
theorem gX4_passHoursOfRack_X3_countHours : GoodIn wsX4_passHoursOfRack (wsV RX4 138 RX3 yX3_countHours wsX3_countHours) := goodIn_app (goodIn_of _ (by decide +kernel)) ggX4_passHoursOfRack_X3_countHours
theorem dX4_passHoursOfRack_0 : decode cX4_passHoursOfRack 0 = .ok (.iconst 0, 1) := by decide +kernel
theorem dX4_passHoursOfRack_1 : decode cX4_passHoursOfRack 1 = .ok (.istore_n 3, 1) := by decide +kernel
theorem dX4_passHoursOfRack_2 : decode cX4_passHoursOfRack 2 = .ok (.iconst 1, 1) := by decide +kernel
theorem dX4_passHoursOfRack_3 : decode cX4_passHoursOfRack 3 = .ok (.istore 4, 2) := by decide +kernel
theorem dX4_passHoursOfRack_5 : decode cX4_passHoursOfRack 5 = .ok (.iconst 0, 1) := by decide +kernel
theorem dX4_passHoursOfRack_6 : decode cX4_passHoursOfRack 6 = .ok (.istore 5, 2) := by decide +kernel
theorem dX4_passHoursOfRack_8 : decode cX4_passHoursOfRack 8 = .ok (.iload 5, 2) := by decide +kernel
theorem dX4_passHoursOfRack_10 : decode cX4_passHoursOfRack 10 = .ok (.iload_n 2, 1) := by decide +kernel
theorem dX4_passHoursOfRack_11 : decode cX4_passHoursOfRack 11 = .ok (.if_icmp .ge 58, 3) := by decide +kernel
theorem dX4_passHoursOfRack_14 : decode cX4_passHoursOfRack 14 = .ok (.iconst 1, 1) := by decide +kernel
theorem dX4_passHoursOfRack_15 : decode cX4_passHoursOfRack 15 = .ok (.aload_n 0, 1) := by decide +kernel
theorem dX4_passHoursOfRack_16 : decode cX4_passHoursOfRack 16 = .ok (.getfield 38, 3) := by decide +kernel
theorem dX4_passHoursOfRack_19 : decode cX4_passHoursOfRack 19 = .ok (.iload_n 1, 1) := by decide +kernel
theorem dX4_passHoursOfRack_20 : decode cX4_passHoursOfRack 20 = .ok (.iload_n 2, 1) := by decide +kernel
theorem dX4_passHoursOfRack_21 : decode cX4_passHoursOfRack 21 = .ok (.iload 5, 2) := by decide +kernel
theorem dX4_passHoursOfRack_23 : decode cX4_passHoursOfRack 23 = .ok (.isub, 1) := by decide +kernel
theorem dX4_passHoursOfRack_24 : decode cX4_passHoursOfRack 24 = .ok (.invokevirtual 127, 3) := by decide +kernel
theorem dX4_passHoursOfRack_27 : decode cX4_passHoursOfRack 27 = .ok (.invokestatic 130, 3) := by decide +kernel
theorem dX4_passHoursOfRack_30 : decode cX4_passHoursOfRack 30 = .ok (.istore 4, 2) := by decide +kernel
theorem dX4_passHoursOfRack_32 : decode cX4_passHoursOfRack 32 = .ok (.iload_n 3, 1) := by decide +kernel
theorem dX4_passHoursOfRack_33 : decode cX4_passHoursOfRack 33 = .ok (.aload_n 0, 1) := by decide +kernel
theorem dX4_passHoursOfRack_34 : decode cX4_passHoursOfRack 34 = .ok (.iload_n 1, 1) := by decide +kernel
theorem dX4_passHoursOfRack_35 : decode cX4_passHoursOfRack 35 = .ok (.iload 4, 2) := by decide +kernel
theorem dX4_passHoursOfRack_37 : decode cX4_passHoursOfRack 37 = .ok (.aload_n 0, 1) := by decide +kernel
theorem dX4_passHoursOfRack_38 : decode cX4_passHoursOfRack 38 = .ok (.getfield 9, 3) := by decide +kernel
theorem dX4_passHoursOfRack_41 : decode cX4_passHoursOfRack 41 = .ok (.iload 5, 2) := by decide +kernel
theorem dX4_passHoursOfRack_43 : decode cX4_passHoursOfRack 43 = .ok (.iadd, 1) := by decide +kernel
theorem dX4_passHoursOfRack_44 : decode cX4_passHoursOfRack 44 = .ok (.invokevirtual 135, 3) := by decide +kernel
theorem dX4_passHoursOfRack_47 : decode cX4_passHoursOfRack 47 = .ok (.iadd, 1) := by decide +kernel
theorem dX4_passHoursOfRack_48 : decode cX4_passHoursOfRack 48 = .ok (.istore_n 3, 1) := by decide +kernel
theorem dX4_passHoursOfRack_49 : decode cX4_passHoursOfRack 49 = .ok (.aload_n 0, 1) := by decide +kernel
theorem dX4_passHoursOfRack_50 : decode cX4_passHoursOfRack 50 = .ok (.getfield 38, 3) := by decide +kernel
theorem dX4_passHoursOfRack_53 : decode cX4_passHoursOfRack 53 = .ok (.iload_n 1, 1) := by decide +kernel
theorem dX4_passHoursOfRack_54 : decode cX4_passHoursOfRack 54 = .ok (.iload 4, 2) := by decide +kernel
theorem dX4_passHoursOfRack_56 : decode cX4_passHoursOfRack 56 = .ok (.invokevirtual 138, 3) := by decide +kernel
theorem dX4_passHoursOfRack_59 : decode cX4_passHoursOfRack 59 = .ok (.iload 5, 2) := by decide +kernel
theorem dX4_passHoursOfRack_61 : decode cX4_passHoursOfRack 61 = .ok (.iload 4, 2) := by decide +kernel
theorem dX4_passHoursOfRack_63 : decode cX4_passHoursOfRack 63 = .ok (.iadd, 1) := by decide +kernel
theorem dX4_passHoursOfRack_64 : decode cX4_passHoursOfRack 64 = .ok (.istore 5, 2) := by decide +kernel
theorem dX4_passHoursOfRack_66 : decode cX4_passHoursOfRack 66 = .ok (.goto (-58), 3) := by decide +kernel
theorem dX4_passHoursOfRack_69 : decode cX4_passHoursOfRack 69 = .ok (.iload_n 3, 1) := by decide +kernel
theorem dX4_passHoursOfRack_70 : decode cX4_passHoursOfRack 70 = .ok (.ireturn, 1) := by decide +kernel
set_option maxRecDepth 20000 in
theorem ggX4_burnRack_X3_isDark : GoodIn wsX4_burnRack wsX3_isDark := goodIn_r _ [14, 15, 58, 59, 60, 61, 62] (by decide +kernel) (by decide +kernel)
set_option maxRecDepth 20000 in
theorem gX4_burnRack_X3_isDark : GoodIn wsX4_burnRack (wsV RX4 142 RX3 yX3_isDark wsX3_isDark) := goodIn_app (goodIn_of _ (by decide +kernel)) ggX4_burnRack_X3_isDark
set_option maxRecDepth 20000 in
theorem ggX4_burnRack_X6_spotOf : GoodIn wsX4_burnRack wsX6_spotOf := goodIn_r _ [18] (by decide +kernel) (by decide +kernel)
set_option maxRecDepth 20000 in
theorem gX4_burnRack_X6_spotOf_n71 : GoodIn wsX4_burnRack (wsX6_spotOf) := ggX4_burnRack_X6_spotOf
set_option maxRecDepth 20000 in
theorem ggX4_burnRack_X2_isDead : GoodIn wsX4_burnRack wsX2_isDead := goodIn_r _ [23, 24, 63, 64, 65, 66, 67, 68, 69] (by decide +kernel) (by decide +kernel)
set_option maxRecDepth 20000 in
theorem gX4_burnRack_X2_isDead : GoodIn wsX4_burnRack (wsV RX4 145 RX2 yX2_isDead wsX2_isDead) := goodIn_app (goodIn_of _ (by decide +kernel)) ggX4_burnRack_X2_isDead
set_option maxRecDepth 20000 in
theorem ggX4_burnRack_X6_isHot : GoodIn wsX4_burnRack wsX6_isHot := goodIn_r _ [26, 27, 28, 17, 29] (by decide +kernel) (by decide +kernel)
set_option maxRecDepth 20000 in
theorem gX4_burnRack_X6_isHot_n148 : GoodIn wsX4_burnRack (wsX6_isHot) := ggX4_burnRack_X6_isHot
set_option maxRecDepth 20000 in
theorem ggX4_burnRack_X4_wearOfHour : GoodIn wsX4_burnRack wsX4_wearOfHour := goodIn_r _ [34, 35, 36, 37, 38, 7, 39, 52, 53, 54, 55, 56, 57] (by decide +kernel) (by decide +kernel)
set_option maxRecDepth 20000 in
theorem gX4_burnRack_X4_wearOfHour : GoodIn wsX4_burnRack (wsV RX4 151 RX4 yX4_wearOfHour wsX4_wearOfHour) := goodIn_app (goodIn_of _ (by decide +kernel)) ggX4_burnRack_X4_wearOfHour
set_option maxRecDepth 20000 in
theorem ggX4_burnRack_X2_hoursLeft : GoodIn wsX4_burnRack wsX2_hoursLeft := goodIn_r _ [43, 44, 38, 7, 39, 45, 46, 63, 64, 65, 66, 67, 68, 69] (by decide +kernel) (by decide +kernel)
set_option maxRecDepth 20000 in
theorem gX4_burnRack_X2_hoursLeft : GoodIn wsX4_burnRack (wsV RX4 155 RX2 yX2_hoursLeft wsX2_hoursLeft) := goodIn_app (goodIn_of _ (by decide +kernel)) ggX4_burnRack_X2_hoursLeft
set_option maxRecDepth 20000 in
theorem ggX4_burnRack_X2_burn : GoodIn wsX4_burnRack wsX2_burn := goodIn_r _ [50, 51, 46, 63, 64, 65, 66, 67, 68, 69] (by decide +kernel) (by decide +kernel)
set_option maxRecDepth 20000 in
theorem gX4_burnRack_X2_burn : GoodIn wsX4_burnRack (wsV RX4 161 RX2 yX2_burn wsX2_burn) := goodIn_app (goodIn_of _ (by decide +kernel)) ggX4_burnRack_X2_burn
theorem dX4_burnRack_0 : decode cX4_burnRack 0 = .ok (.aload_n 0, 1) := by decide +kernel
theorem dX4_burnRack_1 : decode cX4_burnRack 1 = .ok (.getfield 38, 3) := by decide +kernel
theorem dX4_burnRack_4 : decode cX4_burnRack 4 = .ok (.iload_n 1, 1) := by decide +kernel
theorem dX4_burnRack_5 : decode cX4_burnRack 5 = .ok (.invokevirtual 142, 3) := by decide +kernel
theorem dX4_burnRack_8 : decode cX4_burnRack 8 = .ok (.ifCond .eq 5, 3) := by decide +kernel
theorem dX4_burnRack_11 : decode cX4_burnRack 11 = .ok (.iconst 0, 1) := by decide +kernel
theorem dX4_burnRack_12 : decode cX4_burnRack 12 = .ok (.ireturn, 1) := by decide +kernel
theorem dX4_burnRack_13 : decode cX4_burnRack 13 = .ok (.iconst 0, 1) := by decide +kernel
theorem dX4_burnRack_14 : decode cX4_burnRack 14 = .ok (.istore 4, 2) := by decide +kernel
theorem dX4_burnRack_16 : decode cX4_burnRack 16 = .ok (.iconst 0, 1) := by decide +kernel
theorem dX4_burnRack_17 : decode cX4_burnRack 17 = .ok (.istore 5, 2) := by decide +kernel
theorem dX4_burnRack_19 : decode cX4_burnRack 19 = .ok (.iload 5, 2) := by decide +kernel
theorem dX4_burnRack_21 : decode cX4_burnRack 21 = .ok (.bipush 8, 2) := by decide +kernel
theorem dX4_burnRack_23 : decode cX4_burnRack 23 = .ok (.if_icmp .ge 120, 3) := by decide +kernel
theorem dX4_burnRack_26 : decode cX4_burnRack 26 = .ok (.iload_n 1, 1) := by decide +kernel
theorem dX4_burnRack_27 : decode cX4_burnRack 27 = .ok (.iload 5, 2) := by decide +kernel
theorem dX4_burnRack_29 : decode cX4_burnRack 29 = .ok (.invokestatic 71, 3) := by decide +kernel
theorem dX4_burnRack_32 : decode cX4_burnRack 32 = .ok (.istore 6, 2) := by decide +kernel
theorem dX4_burnRack_34 : decode cX4_burnRack 34 = .ok (.aload_n 0, 1) := by decide +kernel
theorem dX4_burnRack_35 : decode cX4_burnRack 35 = .ok (.getfield 38, 3) := by decide +kernel
theorem dX4_burnRack_38 : decode cX4_burnRack 38 = .ok (.getfield 75, 3) := by decide +kernel
theorem dX4_burnRack_41 : decode cX4_burnRack 41 = .ok (.iload 6, 2) := by decide +kernel
theorem dX4_burnRack_43 : decode cX4_burnRack 43 = .ok (.iaload, 1) := by decide +kernel
theorem dX4_burnRack_44 : decode cX4_burnRack 44 = .ok (.istore 7, 2) := by decide +kernel
theorem dX4_burnRack_46 : decode cX4_burnRack 46 = .ok (.iload 7, 2) := by decide +kernel
theorem dX4_burnRack_48 : decode cX4_burnRack 48 = .ok (.iconst (-1), 1) := by decide +kernel
theorem dX4_burnRack_49 : decode cX4_burnRack 49 = .ok (.if_icmp .eq 88, 3) := by decide +kernel
theorem dX4_burnRack_52 : decode cX4_burnRack 52 = .ok (.aload_n 0, 1) := by decide +kernel
theorem dX4_burnRack_53 : decode cX4_burnRack 53 = .ok (.getfield 31, 3) := by decide +kernel
theorem dX4_burnRack_56 : decode cX4_burnRack 56 = .ok (.iload 7, 2) := by decide +kernel
theorem dX4_burnRack_58 : decode cX4_burnRack 58 = .ok (.invokevirtual 145, 3) := by decide +kernel
theorem dX4_burnRack_61 : decode cX4_burnRack 61 = .ok (.ifCond .ne 76, 3) := by decide +kernel
theorem dX4_burnRack_64 : decode cX4_burnRack 64 = .ok (.aload_n 0, 1) := by decide +kernel
theorem dX4_burnRack_65 : decode cX4_burnRack 65 = .ok (.aload_n 0, 1) := by decide +kernel
theorem dX4_burnRack_66 : decode cX4_burnRack 66 = .ok (.getfield 38, 3) := by decide +kernel
theorem dX4_burnRack_69 : decode cX4_burnRack 69 = .ok (.getfield 101, 3) := by decide +kernel
theorem dX4_burnRack_72 : decode cX4_burnRack 72 = .ok (.iload_n 1, 1) := by decide +kernel
theorem dX4_burnRack_73 : decode cX4_burnRack 73 = .ok (.iaload, 1) := by decide +kernel
theorem dX4_burnRack_74 : decode cX4_burnRack 74 = .ok (.iload 6, 2) := by decide +kernel
theorem dX4_burnRack_76 : decode cX4_burnRack 76 = .ok (.invokestatic 148, 3) := by decide +kernel
theorem dX4_burnRack_79 : decode cX4_burnRack 79 = .ok (.invokevirtual 151, 3) := by decide +kernel
theorem dX4_burnRack_82 : decode cX4_burnRack 82 = .ok (.istore 8, 2) := by decide +kernel
theorem dX4_burnRack_84 : decode cX4_burnRack 84 = .ok (.aload_n 0, 1) := by decide +kernel
theorem dX4_burnRack_85 : decode cX4_burnRack 85 = .ok (.getfield 31, 3) := by decide +kernel
theorem dX4_burnRack_88 : decode cX4_burnRack 88 = .ok (.iload 7, 2) := by decide +kernel
theorem dX4_burnRack_90 : decode cX4_burnRack 90 = .ok (.iload 8, 2) := by decide +kernel
theorem dX4_burnRack_92 : decode cX4_burnRack 92 = .ok (.invokevirtual 155, 3) := by decide +kernel
theorem dX4_burnRack_95 : decode cX4_burnRack 95 = .ok (.istore 9, 2) := by decide +kernel
theorem dX4_burnRack_97 : decode cX4_burnRack 97 = .ok (.aload_n 0, 1) := by decide +kernel
theorem dX4_burnRack_98 : decode cX4_burnRack 98 = .ok (.getfield 31, 3) := by decide +kernel
theorem dX4_burnRack_101 : decode cX4_burnRack 101 = .ok (.iload 7, 2) := by decide +kernel
theorem dX4_burnRack_103 : decode cX4_burnRack 103 = .ok (.iload 8, 2) := by decide +kernel
theorem dX4_burnRack_105 : decode cX4_burnRack 105 = .ok (.iload 9, 2) := by decide +kernel
theorem dX4_burnRack_107 : decode cX4_burnRack 107 = .ok (.iload_n 2, 1) := by decide +kernel
theorem dX4_burnRack_108 : decode cX4_burnRack 108 = .ok (.invokestatic 158, 3) := by decide +kernel
theorem dX4_burnRack_111 : decode cX4_burnRack 111 = .ok (.invokevirtual 161, 3) := by decide +kernel
theorem dX4_burnRack_114 : decode cX4_burnRack 114 = .ok (.iload 9, 2) := by decide +kernel
theorem dX4_burnRack_116 : decode cX4_burnRack 116 = .ok (.iload_n 2, 1) := by decide +kernel
theorem dX4_burnRack_117 : decode cX4_burnRack 117 = .ok (.if_icmp .gt 20, 3) := by decide +kernel
theorem dX4_burnRack_120 : decode cX4_burnRack 120 = .ok (.aload_n 0, 1) := by decide +kernel
theorem dX4_burnRack_121 : decode cX4_burnRack 121 = .ok (.getfield 31, 3) := by decide +kernel
theorem dX4_burnRack_124 : decode cX4_burnRack 124 = .ok (.getfield 165, 3) := by decide +kernel
theorem dX4_burnRack_127 : decode cX4_burnRack 127 = .ok (.iload 7, 2) := by decide +kernel
theorem dX4_burnRack_129 : decode cX4_burnRack 129 = .ok (.iload_n 3, 1) := by decide +kernel
theorem dX4_burnRack_130 : decode cX4_burnRack 130 = .ok (.iload 9, 2) := by decide +kernel
theorem dX4_burnRack_132 : decode cX4_burnRack 132 = .ok (.iadd, 1) := by decide +kernel
theorem dX4_burnRack_133 : decode cX4_burnRack 133 = .ok (.iastore, 1) := by decide +kernel
theorem dX4_burnRack_134 : decode cX4_burnRack 134 = .ok (.iinc 4 1, 3) := by decide +kernel
theorem dX4_burnRack_137 : decode cX4_burnRack 137 = .ok (.iinc 5 1, 3) := by decide +kernel
theorem dX4_burnRack_140 : decode cX4_burnRack 140 = .ok (.goto (-121), 3) := by decide +kernel
theorem dX4_burnRack_143 : decode cX4_burnRack 143 = .ok (.iload 4, 2) := by decide +kernel
theorem dX4_burnRack_145 : decode cX4_burnRack 145 = .ok (.ireturn, 1) := by decide +kernel
theorem dX4_wearOfHour_0 : decode cX4_wearOfHour 0 = .ok (.bipush 10, 2) := by decide +kernel
theorem dX4_wearOfHour_2 : decode cX4_wearOfHour 2 = .ok (.iload_n 1, 1) := by decide +kernel
theorem dX4_wearOfHour_3 : decode cX4_wearOfHour 3 = .ok (.aload_n 0, 1) := by decide +kernel
theorem dX4_wearOfHour_4 : decode cX4_wearOfHour 4 = .ok (.getfield 15, 3) := by decide +kernel
theorem dX4_wearOfHour_7 : decode cX4_wearOfHour 7 = .ok (.isub, 1) := by decide +kernel
theorem dX4_wearOfHour_8 : decode cX4_wearOfHour 8 = .ok (.imul, 1) := by decide +kernel
theorem dX4_wearOfHour_9 : decode cX4_wearOfHour 9 = .ok (.iconst 1, 1) := by decide +kernel
theorem dX4_wearOfHour_10 : decode cX4_wearOfHour 10 = .ok (.aload_n 0, 1) := by decide +kernel
theorem dX4_wearOfHour_11 : decode cX4_wearOfHour 11 = .ok (.getfield 18, 3) := by decide +kernel
theorem dX4_wearOfHour_14 : decode cX4_wearOfHour 14 = .ok (.invokestatic 130, 3) := by decide +kernel
theorem dX4_wearOfHour_17 : decode cX4_wearOfHour 17 = .ok (.idiv, 1) := by decide +kernel
theorem dX4_wearOfHour_18 : decode cX4_wearOfHour 18 = .ok (.istore_n 3, 1) := by decide +kernel
theorem dX4_wearOfHour_19 : decode cX4_wearOfHour 19 = .ok (.iconst 1, 1) := by decide +kernel
theorem dX4_wearOfHour_20 : decode cX4_wearOfHour 20 = .ok (.bipush 10, 2) := by decide +kernel
theorem dX4_wearOfHour_22 : decode cX4_wearOfHour 22 = .ok (.iload_n 3, 1) := by decide +kernel
theorem dX4_wearOfHour_23 : decode cX4_wearOfHour 23 = .ok (.iadd, 1) := by decide +kernel
theorem dX4_wearOfHour_24 : decode cX4_wearOfHour 24 = .ok (.invokestatic 130, 3) := by decide +kernel
theorem dX4_wearOfHour_27 : decode cX4_wearOfHour 27 = .ok (.istore 4, 2) := by decide +kernel
theorem dX4_wearOfHour_29 : decode cX4_wearOfHour 29 = .ok (.iload_n 2, 1) := by decide +kernel
theorem dX4_wearOfHour_30 : decode cX4_wearOfHour 30 = .ok (.ifCond .eq 14, 3) := by decide +kernel
theorem dX4_wearOfHour_33 : decode cX4_wearOfHour 33 = .ok (.iload 4, 2) := by decide +kernel
theorem dX4_wearOfHour_35 : decode cX4_wearOfHour 35 = .ok (.iload 4, 2) := by decide +kernel
theorem dX4_wearOfHour_37 : decode cX4_wearOfHour 37 = .ok (.bipush 10, 2) := by decide +kernel
theorem dX4_wearOfHour_39 : decode cX4_wearOfHour 39 = .ok (.idiv, 1) := by decide +kernel
theorem dX4_wearOfHour_40 : decode cX4_wearOfHour 40 = .ok (.iadd, 1) := by decide +kernel
theorem dX4_wearOfHour_41 : decode cX4_wearOfHour 41 = .ok (.goto 5, 3) := by decide +kernel
theorem dX4_wearOfHour_44 : decode cX4_wearOfHour 44 = .ok (.iload 4, 2) := by decide +kernel
theorem dX4_wearOfHour_46 : decode cX4_wearOfHour 46 = .ok (.ireturn, 1) := by decide +kernel
set_option maxRecDepth 20000 in
theorem ggX4_whyDark_X2_isDead : GoodIn wsX4_whyDark wsX2_isDead := goodIn_r _ [8, 9, 22, 23, 24, 25, 26, 27, 28] (by decide +kernel) (by decide +kernel)
set_option maxRecDepth 20000 in
theorem gX4_whyDark_X2_isDead : GoodIn wsX4_whyDark (wsV RX4 145 RX2 yX2_isDead wsX2_isDead) := goodIn_app (goodIn_of _ (by decide +kernel)) ggX4_whyDark_X2_isDead
set_option maxRecDepth 20000 in
theorem ggX4_whyDark_X3_isDark : GoodIn wsX4_whyDark wsX3_isDark := goodIn_r _ [14, 15, 29, 30, 31, 32, 33] (by decide +kernel) (by decide +kernel)
set_option maxRecDepth 20000 in
theorem gX4_whyDark_X3_isDark : GoodIn wsX4_whyDark (wsV RX4 142 RX3 yX3_isDark wsX3_isDark) := goodIn_app (goodIn_of _ (by decide +kernel)) ggX4_whyDark_X3_isDark
theorem dX4_whyDark_0 : decode cX4_whyDark 0 = .ok (.aload_n 0, 1) := by decide +kernel
theorem dX4_whyDark_1 : decode cX4_whyDark 1 = .ok (.getfield 31, 3) := by decide +kernel
theorem dX4_whyDark_4 : decode cX4_whyDark 4 = .ok (.iload_n 1, 1) := by decide +kernel
theorem dX4_whyDark_5 : decode cX4_whyDark 5 = .ok (.invokevirtual 145, 3) := by decide +kernel
theorem dX4_whyDark_8 : decode cX4_whyDark 8 = .ok (.ifCond .eq 5, 3) := by decide +kernel
theorem dX4_whyDark_11 : decode cX4_whyDark 11 = .ok (.iconst 1, 1) := by decide +kernel
theorem dX4_whyDark_12 : decode cX4_whyDark 12 = .ok (.ireturn, 1) := by decide +kernel
theorem dX4_whyDark_13 : decode cX4_whyDark 13 = .ok (.aload_n 0, 1) := by decide +kernel
theorem dX4_whyDark_14 : decode cX4_whyDark 14 = .ok (.getfield 31, 3) := by decide +kernel
theorem dX4_whyDark_17 : decode cX4_whyDark 17 = .ok (.getfield 92, 3) := by decide +kernel
theorem dX4_whyDark_20 : decode cX4_whyDark 20 = .ok (.iload_n 1, 1) := by decide +kernel
theorem dX4_whyDark_21 : decode cX4_whyDark 21 = .ok (.iaload, 1) := by decide +kernel
theorem dX4_whyDark_22 : decode cX4_whyDark 22 = .ok (.istore_n 2, 1) := by decide +kernel
theorem dX4_whyDark_23 : decode cX4_whyDark 23 = .ok (.iload_n 2, 1) := by decide +kernel
theorem dX4_whyDark_24 : decode cX4_whyDark 24 = .ok (.iconst (-1), 1) := by decide +kernel
theorem dX4_whyDark_25 : decode cX4_whyDark 25 = .ok (.if_icmp .ne 5, 3) := by decide +kernel
theorem dX4_whyDark_28 : decode cX4_whyDark 28 = .ok (.iconst 2, 1) := by decide +kernel
theorem dX4_whyDark_29 : decode cX4_whyDark 29 = .ok (.ireturn, 1) := by decide +kernel
theorem dX4_whyDark_30 : decode cX4_whyDark 30 = .ok (.aload_n 0, 1) := by decide +kernel
theorem dX4_whyDark_31 : decode cX4_whyDark 31 = .ok (.getfield 38, 3) := by decide +kernel
theorem dX4_whyDark_34 : decode cX4_whyDark 34 = .ok (.iload_n 2, 1) := by decide +kernel
theorem dX4_whyDark_35 : decode cX4_whyDark 35 = .ok (.bipush 8, 2) := by decide +kernel
theorem dX4_whyDark_37 : decode cX4_whyDark 37 = .ok (.idiv, 1) := by decide +kernel
theorem dX4_whyDark_38 : decode cX4_whyDark 38 = .ok (.invokevirtual 142, 3) := by decide +kernel
theorem dX4_whyDark_41 : decode cX4_whyDark 41 = .ok (.ifCond .eq 7, 3) := by decide +kernel
theorem dX4_whyDark_44 : decode cX4_whyDark 44 = .ok (.iconst 3, 1) := by decide +kernel
theorem dX4_whyDark_45 : decode cX4_whyDark 45 = .ok (.goto 4, 3) := by decide +kernel
theorem dX4_whyDark_48 : decode cX4_whyDark 48 = .ok (.iconst 0, 1) := by decide +kernel
theorem dX4_whyDark_49 : decode cX4_whyDark 49 = .ok (.ireturn, 1) := by decide +kernel
set_option maxRecDepth 20000 in
theorem ggX4_tellOfLamp_X2_has : GoodIn wsX4_tellOfLamp wsX2_has := goodIn_r _ [12, 13, 14, 15, 16, 40, 41, 42, 43, 44, 45, 46] (by decide +kernel) (by decide +kernel)
set_option maxRecDepth 20000 in
theorem gX4_tellOfLamp_X2_has : GoodIn wsX4_tellOfLamp (wsV RX4 168 RX2 yX2_has wsX2_has) := goodIn_app (goodIn_of _ (by decide +kernel)) ggX4_tellOfLamp_X2_has
set_option maxRecDepth 20000 in
theorem ggX4_tellOfLamp_X2_hoursCounted : GoodIn wsX4_tellOfLamp wsX2_hoursCounted := goodIn_r _ [20, 21, 40, 41, 42, 43, 44, 45, 46] (by decide +kernel) (by decide +kernel)
set_option maxRecDepth 20000 in
theorem gX4_tellOfLamp_X2_hoursCounted : GoodIn wsX4_tellOfLamp (wsV RX4 183 RX2 yX2_hoursCounted wsX2_hoursCounted) := goodIn_app (goodIn_of _ (by decide +kernel)) ggX4_tellOfLamp_X2_hoursCounted
set_option maxRecDepth 20000 in
theorem ggX4_tellOfLamp_X2_isDead : GoodIn wsX4_tellOfLamp wsX2_isDead := goodIn_r _ [25, 26, 40, 41, 42, 43, 44, 45, 46] (by decide +kernel) (by decide +kernel)
set_option maxRecDepth 20000 in
theorem gX4_tellOfLamp_X2_isDead : GoodIn wsX4_tellOfLamp (wsV RX4 145 RX2 yX2_isDead wsX2_isDead) := goodIn_app (goodIn_of _ (by decide +kernel)) ggX4_tellOfLamp_X2_isDead
set_option maxRecDepth 20000 in
theorem ggX4_tellOfLamp_X6_oneIf : GoodIn wsX4_tellOfLamp wsX6_oneIf := goodIn_r _ [28] (by decide +kernel) (by decide +kernel)
set_option maxRecDepth 20000 in
theorem gX4_tellOfLamp_X6_oneIf_n186 : GoodIn wsX4_tellOfLamp (wsX6_oneIf) := ggX4_tellOfLamp_X6_oneIf
set_option maxRecDepth 20000 in
theorem ggX4_tellOfLamp_X6_isWeak : GoodIn wsX4_tellOfLamp wsX6_isWeak := goodIn_r _ [30, 31, 32, 15, 33] (by decide +kernel) (by decide +kernel)
set_option maxRecDepth 20000 in
theorem gX4_tellOfLamp_X6_isWeak_n190 : GoodIn wsX4_tellOfLamp (wsX6_isWeak) := ggX4_tellOfLamp_X6_isWeak
theorem dX4_tellOfLamp_0 : decode cX4_tellOfLamp 0 = .ok (.aload_n 0, 1) := by decide +kernel
theorem dX4_tellOfLamp_1 : decode cX4_tellOfLamp 1 = .ok (.getfield 31, 3) := by decide +kernel
theorem dX4_tellOfLamp_4 : decode cX4_tellOfLamp 4 = .ok (.iload_n 1, 1) := by decide +kernel
theorem dX4_tellOfLamp_5 : decode cX4_tellOfLamp 5 = .ok (.invokevirtual 168, 3) := by decide +kernel
theorem dX4_tellOfLamp_8 : decode cX4_tellOfLamp 8 = .ok (.ifCond .ne 7, 3) := by decide +kernel
theorem dX4_tellOfLamp_11 : decode cX4_tellOfLamp 11 = .ok (.sipush (-1001), 3) := by decide +kernel
theorem dX4_tellOfLamp_14 : decode cX4_tellOfLamp 14 = .ok (.ireturn, 1) := by decide +kernel
theorem dX4_tellOfLamp_15 : decode cX4_tellOfLamp 15 = .ok (.aload_n 0, 1) := by decide +kernel
theorem dX4_tellOfLamp_16 : decode cX4_tellOfLamp 16 = .ok (.getfield 31, 3) := by decide +kernel
theorem dX4_tellOfLamp_19 : decode cX4_tellOfLamp 19 = .ok (.getfield 92, 3) := by decide +kernel
theorem dX4_tellOfLamp_22 : decode cX4_tellOfLamp 22 = .ok (.iload_n 1, 1) := by decide +kernel
theorem dX4_tellOfLamp_23 : decode cX4_tellOfLamp 23 = .ok (.iaload, 1) := by decide +kernel
theorem dX4_tellOfLamp_24 : decode cX4_tellOfLamp 24 = .ok (.istore_n 3, 1) := by decide +kernel
theorem dX4_tellOfLamp_25 : decode cX4_tellOfLamp 25 = .ok (.iload_n 2, 1) := by decide +kernel
theorem dX4_tellOfLamp_26 : decode cX4_tellOfLamp 26 = .ok (.tableswitch 182 0 9 #[54, 64, 80, 96, 106, 116, 126, 135, 147, 174], 54) := by decide +kernel
theorem dX4_tellOfLamp_80 : decode cX4_tellOfLamp 80 = .ok (.aload_n 0, 1) := by decide +kernel
theorem dX4_tellOfLamp_81 : decode cX4_tellOfLamp 81 = .ok (.getfield 31, 3) := by decide +kernel
theorem dX4_tellOfLamp_84 : decode cX4_tellOfLamp 84 = .ok (.getfield 171, 3) := by decide +kernel
theorem dX4_tellOfLamp_87 : decode cX4_tellOfLamp 87 = .ok (.iload_n 1, 1) := by decide +kernel
theorem dX4_tellOfLamp_88 : decode cX4_tellOfLamp 88 = .ok (.iaload, 1) := by decide +kernel
theorem dX4_tellOfLamp_89 : decode cX4_tellOfLamp 89 = .ok (.ireturn, 1) := by decide +kernel
theorem dX4_tellOfLamp_90 : decode cX4_tellOfLamp 90 = .ok (.iload_n 3, 1) := by decide +kernel
theorem dX4_tellOfLamp_91 : decode cX4_tellOfLamp 91 = .ok (.iconst (-1), 1) := by decide +kernel
theorem dX4_tellOfLamp_92 : decode cX4_tellOfLamp 92 = .ok (.if_icmp .ne 9, 3) := by decide +kernel
theorem dX4_tellOfLamp_95 : decode cX4_tellOfLamp 95 = .ok (.sipush (-1005), 3) := by decide +kernel
theorem dX4_tellOfLamp_98 : decode cX4_tellOfLamp 98 = .ok (.goto 7, 3) := by decide +kernel
theorem dX4_tellOfLamp_101 : decode cX4_tellOfLamp 101 = .ok (.iload_n 3, 1) := by decide +kernel
theorem dX4_tellOfLamp_102 : decode cX4_tellOfLamp 102 = .ok (.bipush 8, 2) := by decide +kernel
theorem dX4_tellOfLamp_104 : decode cX4_tellOfLamp 104 = .ok (.idiv, 1) := by decide +kernel
theorem dX4_tellOfLamp_105 : decode cX4_tellOfLamp 105 = .ok (.ireturn, 1) := by decide +kernel
theorem dX4_tellOfLamp_106 : decode cX4_tellOfLamp 106 = .ok (.iload_n 3, 1) := by decide +kernel
theorem dX4_tellOfLamp_107 : decode cX4_tellOfLamp 107 = .ok (.iconst (-1), 1) := by decide +kernel
theorem dX4_tellOfLamp_108 : decode cX4_tellOfLamp 108 = .ok (.if_icmp .ne 9, 3) := by decide +kernel
theorem dX4_tellOfLamp_111 : decode cX4_tellOfLamp 111 = .ok (.sipush (-1005), 3) := by decide +kernel
theorem dX4_tellOfLamp_114 : decode cX4_tellOfLamp 114 = .ok (.goto 7, 3) := by decide +kernel
theorem dX4_tellOfLamp_117 : decode cX4_tellOfLamp 117 = .ok (.iload_n 3, 1) := by decide +kernel
theorem dX4_tellOfLamp_118 : decode cX4_tellOfLamp 118 = .ok (.bipush 8, 2) := by decide +kernel
theorem dX4_tellOfLamp_120 : decode cX4_tellOfLamp 120 = .ok (.irem, 1) := by decide +kernel
theorem dX4_tellOfLamp_121 : decode cX4_tellOfLamp 121 = .ok (.ireturn, 1) := by decide +kernel
theorem dX4_tellOfLamp_122 : decode cX4_tellOfLamp 122 = .ok (.aload_n 0, 1) := by decide +kernel
theorem dX4_tellOfLamp_123 : decode cX4_tellOfLamp 123 = .ok (.getfield 31, 3) := by decide +kernel
theorem dX4_tellOfLamp_126 : decode cX4_tellOfLamp 126 = .ok (.getfield 174, 3) := by decide +kernel
theorem dX4_tellOfLamp_129 : decode cX4_tellOfLamp 129 = .ok (.iload_n 1, 1) := by decide +kernel
theorem dX4_tellOfLamp_130 : decode cX4_tellOfLamp 130 = .ok (.iaload, 1) := by decide +kernel
theorem dX4_tellOfLamp_131 : decode cX4_tellOfLamp 131 = .ok (.ireturn, 1) := by decide +kernel
theorem dX4_tellOfLamp_132 : decode cX4_tellOfLamp 132 = .ok (.aload_n 0, 1) := by decide +kernel
theorem dX4_tellOfLamp_133 : decode cX4_tellOfLamp 133 = .ok (.getfield 31, 3) := by decide +kernel
theorem dX4_tellOfLamp_136 : decode cX4_tellOfLamp 136 = .ok (.getfield 177, 3) := by decide +kernel
theorem dX4_tellOfLamp_139 : decode cX4_tellOfLamp 139 = .ok (.iload_n 1, 1) := by decide +kernel
theorem dX4_tellOfLamp_140 : decode cX4_tellOfLamp 140 = .ok (.iaload, 1) := by decide +kernel
theorem dX4_tellOfLamp_141 : decode cX4_tellOfLamp 141 = .ok (.ireturn, 1) := by decide +kernel
theorem dX4_tellOfLamp_142 : decode cX4_tellOfLamp 142 = .ok (.aload_n 0, 1) := by decide +kernel
theorem dX4_tellOfLamp_143 : decode cX4_tellOfLamp 143 = .ok (.getfield 31, 3) := by decide +kernel
theorem dX4_tellOfLamp_146 : decode cX4_tellOfLamp 146 = .ok (.getfield 180, 3) := by decide +kernel
theorem dX4_tellOfLamp_149 : decode cX4_tellOfLamp 149 = .ok (.iload_n 1, 1) := by decide +kernel
theorem dX4_tellOfLamp_150 : decode cX4_tellOfLamp 150 = .ok (.iaload, 1) := by decide +kernel
theorem dX4_tellOfLamp_151 : decode cX4_tellOfLamp 151 = .ok (.ireturn, 1) := by decide +kernel
theorem dX4_tellOfLamp_152 : decode cX4_tellOfLamp 152 = .ok (.aload_n 0, 1) := by decide +kernel
theorem dX4_tellOfLamp_153 : decode cX4_tellOfLamp 153 = .ok (.getfield 31, 3) := by decide +kernel
theorem dX4_tellOfLamp_156 : decode cX4_tellOfLamp 156 = .ok (.iload_n 1, 1) := by decide +kernel
theorem dX4_tellOfLamp_157 : decode cX4_tellOfLamp 157 = .ok (.invokevirtual 183, 3) := by decide +kernel
theorem dX4_tellOfLamp_160 : decode cX4_tellOfLamp 160 = .ok (.ireturn, 1) := by decide +kernel
theorem dX4_tellOfLamp_161 : decode cX4_tellOfLamp 161 = .ok (.aload_n 0, 1) := by decide +kernel
theorem dX4_tellOfLamp_162 : decode cX4_tellOfLamp 162 = .ok (.getfield 31, 3) := by decide +kernel
theorem dX4_tellOfLamp_165 : decode cX4_tellOfLamp 165 = .ok (.iload_n 1, 1) := by decide +kernel
theorem dX4_tellOfLamp_166 : decode cX4_tellOfLamp 166 = .ok (.invokevirtual 145, 3) := by decide +kernel
theorem dX4_tellOfLamp_169 : decode cX4_tellOfLamp 169 = .ok (.invokestatic 186, 3) := by decide +kernel
theorem dX4_tellOfLamp_172 : decode cX4_tellOfLamp 172 = .ok (.ireturn, 1) := by decide +kernel
theorem dX4_tellOfLamp_173 : decode cX4_tellOfLamp 173 = .ok (.aload_n 0, 1) := by decide +kernel
theorem dX4_tellOfLamp_174 : decode cX4_tellOfLamp 174 = .ok (.getfield 31, 3) := by decide +kernel
theorem dX4_tellOfLamp_177 : decode cX4_tellOfLamp 177 = .ok (.iload_n 1, 1) := by decide +kernel
theorem dX4_tellOfLamp_178 : decode cX4_tellOfLamp 178 = .ok (.invokevirtual 145, 3) := by decide +kernel
theorem dX4_tellOfLamp_181 : decode cX4_tellOfLamp 181 = .ok (.ifCond .eq 15, 3) := by decide +kernel
theorem dX4_tellOfLamp_184 : decode cX4_tellOfLamp 184 = .ok (.aload_n 0, 1) := by decide +kernel
theorem dX4_tellOfLamp_185 : decode cX4_tellOfLamp 185 = .ok (.getfield 31, 3) := by decide +kernel
theorem dX4_tellOfLamp_188 : decode cX4_tellOfLamp 188 = .ok (.getfield 165, 3) := by decide +kernel
theorem dX4_tellOfLamp_191 : decode cX4_tellOfLamp 191 = .ok (.iload_n 1, 1) := by decide +kernel
theorem dX4_tellOfLamp_192 : decode cX4_tellOfLamp 192 = .ok (.iaload, 1) := by decide +kernel
theorem dX4_tellOfLamp_193 : decode cX4_tellOfLamp 193 = .ok (.goto 6, 3) := by decide +kernel
theorem dX4_tellOfLamp_196 : decode cX4_tellOfLamp 196 = .ok (.sipush (-1005), 3) := by decide +kernel
theorem dX4_tellOfLamp_199 : decode cX4_tellOfLamp 199 = .ok (.ireturn, 1) := by decide +kernel
theorem dX4_tellOfLamp_200 : decode cX4_tellOfLamp 200 = .ok (.iload_n 1, 1) := by decide +kernel
theorem dX4_tellOfLamp_201 : decode cX4_tellOfLamp 201 = .ok (.invokestatic 190, 3) := by decide +kernel
theorem dX4_tellOfLamp_204 : decode cX4_tellOfLamp 204 = .ok (.invokestatic 186, 3) := by decide +kernel
theorem dX4_tellOfLamp_207 : decode cX4_tellOfLamp 207 = .ok (.ireturn, 1) := by decide +kernel
theorem dX4_tellOfLamp_208 : decode cX4_tellOfLamp 208 = .ok (.sipush (-1002), 3) := by decide +kernel
theorem dX4_tellOfLamp_211 : decode cX4_tellOfLamp 211 = .ok (.ireturn, 1) := by decide +kernel
set_option maxRecDepth 20000 in
theorem ggX4_tellOfRack_X6_isRack : GoodIn wsX4_tellOfRack wsX6_isRack := goodIn_r _ [7, 8, 9, 6, 10] (by decide +kernel) (by decide +kernel)
set_option maxRecDepth 20000 in
theorem gX4_tellOfRack_X6_isRack_n98 : GoodIn wsX4_tellOfRack (wsX6_isRack) := ggX4_tellOfRack_X6_isRack
set_option maxRecDepth 20000 in
theorem ggX4_tellOfRack_X4_countInRack : GoodIn wsX4_tellOfRack wsX4_countInRack := goodIn_r _ [15, 1, 16, 17, 18, 6, 19, 20, 21, 22, 23, 24, 25, 26, 27, 50, 51, 52, 53, 54, 55, 56, 57, 58, 59, 60, 61, 62, 63, 64, 65, 66, 67] (by decide +kernel) (by decide +kernel)
set_option maxRecDepth 20000 in
theorem gX4_tellOfRack_X4_countInRack : GoodIn wsX4_tellOfRack (wsV RX4 193 RX4 yX4_countInRack wsX4_countInRack) := goodIn_app (goodIn_of _ (by decide +kernel)) ggX4_tellOfRack_X4_countInRack
set_option maxRecDepth 20000 in
theorem ggX4_tellOfRack_X3_isDark : GoodIn wsX4_tellOfRack wsX3_isDark := goodIn_r _ [32, 33, 56, 57, 58, 59, 60] (by decide +kernel) (by decide +kernel)
set_option maxRecDepth 20000 in
theorem gX4_tellOfRack_X3_isDark : GoodIn wsX4_tellOfRack (wsV RX4 142 RX3 yX3_isDark wsX3_isDark) := goodIn_app (goodIn_of _ (by decide +kernel)) ggX4_tellOfRack_X3_isDark
set_option maxRecDepth 20000 in
theorem ggX4_tellOfRack_X4_wearOfHour : GoodIn wsX4_tellOfRack wsX4_wearOfHour := goodIn_r _ [37, 38, 39, 40, 41, 42, 43, 50, 51, 52, 53, 54, 55] (by decide +kernel) (by decide +kernel)
set_option maxRecDepth 20000 in
theorem gX4_tellOfRack_X4_wearOfHour : GoodIn wsX4_tellOfRack (wsV RX4 151 RX4 yX4_wearOfHour wsX4_wearOfHour) := goodIn_app (goodIn_of _ (by decide +kernel)) ggX4_tellOfRack_X4_wearOfHour
set_option maxRecDepth 20000 in
theorem ggX4_tellOfRack_X3_hoursToStep : GoodIn wsX4_tellOfRack wsX3_hoursToStep := goodIn_r _ [47, 48, 49, 56, 57, 58, 59, 60] (by decide +kernel) (by decide +kernel)
set_option maxRecDepth 20000 in
theorem gX4_tellOfRack_X3_hoursToStep : GoodIn wsX4_tellOfRack (wsV RX4 196 RX3 yX3_hoursToStep wsX3_hoursToStep) := goodIn_app (goodIn_of _ (by decide +kernel)) ggX4_tellOfRack_X3_hoursToStep
theorem dX4_tellOfRack_0 : decode cX4_tellOfRack 0 = .ok (.iload_n 1, 1) := by decide +kernel
theorem dX4_tellOfRack_1 : decode cX4_tellOfRack 1 = .ok (.invokestatic 98, 3) := by decide +kernel
theorem dX4_tellOfRack_4 : decode cX4_tellOfRack 4 = .ok (.ifCond .ne 7, 3) := by decide +kernel
theorem dX4_tellOfRack_7 : decode cX4_tellOfRack 7 = .ok (.sipush (-1001), 3) := by decide +kernel
theorem dX4_tellOfRack_10 : decode cX4_tellOfRack 10 = .ok (.ireturn, 1) := by decide +kernel
theorem dX4_tellOfRack_11 : decode cX4_tellOfRack 11 = .ok (.aload_n 0, 1) := by decide +kernel
theorem dX4_tellOfRack_12 : decode cX4_tellOfRack 12 = .ok (.getfield 38, 3) := by decide +kernel
theorem dX4_tellOfRack_15 : decode cX4_tellOfRack 15 = .ok (.getfield 101, 3) := by decide +kernel
theorem dX4_tellOfRack_18 : decode cX4_tellOfRack 18 = .ok (.iload_n 1, 1) := by decide +kernel
theorem dX4_tellOfRack_19 : decode cX4_tellOfRack 19 = .ok (.iaload, 1) := by decide +kernel
theorem dX4_tellOfRack_20 : decode cX4_tellOfRack 20 = .ok (.istore_n 3, 1) := by decide +kernel
theorem dX4_tellOfRack_21 : decode cX4_tellOfRack 21 = .ok (.iload_n 2, 1) := by decide +kernel
theorem dX4_tellOfRack_22 : decode cX4_tellOfRack 22 = .ok (.tableswitch 135 0 7 #[46, 48, 55, 62, 84, 106, 116, 126], 46) := by decide +kernel
theorem dX4_tellOfRack_68 : decode cX4_tellOfRack 68 = .ok (.iload_n 3, 1) := by decide +kernel
theorem dX4_tellOfRack_69 : decode cX4_tellOfRack 69 = .ok (.ireturn, 1) := by decide +kernel
theorem dX4_tellOfRack_70 : decode cX4_tellOfRack 70 = .ok (.aload_n 0, 1) := by decide +kernel
theorem dX4_tellOfRack_71 : decode cX4_tellOfRack 71 = .ok (.iload_n 1, 1) := by decide +kernel
theorem dX4_tellOfRack_72 : decode cX4_tellOfRack 72 = .ok (.iconst 1, 1) := by decide +kernel
theorem dX4_tellOfRack_73 : decode cX4_tellOfRack 73 = .ok (.invokevirtual 193, 3) := by decide +kernel
theorem dX4_tellOfRack_76 : decode cX4_tellOfRack 76 = .ok (.ireturn, 1) := by decide +kernel
theorem dX4_tellOfRack_77 : decode cX4_tellOfRack 77 = .ok (.aload_n 0, 1) := by decide +kernel
theorem dX4_tellOfRack_78 : decode cX4_tellOfRack 78 = .ok (.iload_n 1, 1) := by decide +kernel
theorem dX4_tellOfRack_79 : decode cX4_tellOfRack 79 = .ok (.iconst 0, 1) := by decide +kernel
theorem dX4_tellOfRack_80 : decode cX4_tellOfRack 80 = .ok (.invokevirtual 193, 3) := by decide +kernel
theorem dX4_tellOfRack_83 : decode cX4_tellOfRack 83 = .ok (.ireturn, 1) := by decide +kernel
theorem dX4_tellOfRack_84 : decode cX4_tellOfRack 84 = .ok (.aload_n 0, 1) := by decide +kernel
theorem dX4_tellOfRack_85 : decode cX4_tellOfRack 85 = .ok (.getfield 38, 3) := by decide +kernel
theorem dX4_tellOfRack_88 : decode cX4_tellOfRack 88 = .ok (.iload_n 1, 1) := by decide +kernel
theorem dX4_tellOfRack_89 : decode cX4_tellOfRack 89 = .ok (.invokevirtual 142, 3) := by decide +kernel
theorem dX4_tellOfRack_92 : decode cX4_tellOfRack 92 = .ok (.ifCond .eq 7, 3) := by decide +kernel
theorem dX4_tellOfRack_95 : decode cX4_tellOfRack 95 = .ok (.iconst 0, 1) := by decide +kernel
theorem dX4_tellOfRack_96 : decode cX4_tellOfRack 96 = .ok (.goto 9, 3) := by decide +kernel
theorem dX4_tellOfRack_99 : decode cX4_tellOfRack 99 = .ok (.aload_n 0, 1) := by decide +kernel
theorem dX4_tellOfRack_100 : decode cX4_tellOfRack 100 = .ok (.iload_n 3, 1) := by decide +kernel
theorem dX4_tellOfRack_101 : decode cX4_tellOfRack 101 = .ok (.iconst 0, 1) := by decide +kernel
theorem dX4_tellOfRack_102 : decode cX4_tellOfRack 102 = .ok (.invokevirtual 151, 3) := by decide +kernel
theorem dX4_tellOfRack_105 : decode cX4_tellOfRack 105 = .ok (.ireturn, 1) := by decide +kernel
theorem dX4_tellOfRack_106 : decode cX4_tellOfRack 106 = .ok (.aload_n 0, 1) := by decide +kernel
theorem dX4_tellOfRack_107 : decode cX4_tellOfRack 107 = .ok (.getfield 38, 3) := by decide +kernel
theorem dX4_tellOfRack_110 : decode cX4_tellOfRack 110 = .ok (.iload_n 1, 1) := by decide +kernel
theorem dX4_tellOfRack_111 : decode cX4_tellOfRack 111 = .ok (.invokevirtual 142, 3) := by decide +kernel
theorem dX4_tellOfRack_114 : decode cX4_tellOfRack 114 = .ok (.ifCond .eq 7, 3) := by decide +kernel
theorem dX4_tellOfRack_117 : decode cX4_tellOfRack 117 = .ok (.iconst 0, 1) := by decide +kernel
theorem dX4_tellOfRack_118 : decode cX4_tellOfRack 118 = .ok (.goto 9, 3) := by decide +kernel
theorem dX4_tellOfRack_121 : decode cX4_tellOfRack 121 = .ok (.aload_n 0, 1) := by decide +kernel
theorem dX4_tellOfRack_122 : decode cX4_tellOfRack 122 = .ok (.iload_n 3, 1) := by decide +kernel
theorem dX4_tellOfRack_123 : decode cX4_tellOfRack 123 = .ok (.iconst 1, 1) := by decide +kernel
theorem dX4_tellOfRack_124 : decode cX4_tellOfRack 124 = .ok (.invokevirtual 151, 3) := by decide +kernel
theorem dX4_tellOfRack_127 : decode cX4_tellOfRack 127 = .ok (.ireturn, 1) := by decide +kernel
theorem dX4_tellOfRack_128 : decode cX4_tellOfRack 128 = .ok (.aload_n 0, 1) := by decide +kernel
theorem dX4_tellOfRack_129 : decode cX4_tellOfRack 129 = .ok (.getfield 38, 3) := by decide +kernel
theorem dX4_tellOfRack_132 : decode cX4_tellOfRack 132 = .ok (.getfield 104, 3) := by decide +kernel
theorem dX4_tellOfRack_135 : decode cX4_tellOfRack 135 = .ok (.iload_n 1, 1) := by decide +kernel
theorem dX4_tellOfRack_136 : decode cX4_tellOfRack 136 = .ok (.iaload, 1) := by decide +kernel
theorem dX4_tellOfRack_137 : decode cX4_tellOfRack 137 = .ok (.ireturn, 1) := by decide +kernel
theorem dX4_tellOfRack_138 : decode cX4_tellOfRack 138 = .ok (.aload_n 0, 1) := by decide +kernel
theorem dX4_tellOfRack_139 : decode cX4_tellOfRack 139 = .ok (.getfield 38, 3) := by decide +kernel
theorem dX4_tellOfRack_142 : decode cX4_tellOfRack 142 = .ok (.getfield 107, 3) := by decide +kernel
theorem dX4_tellOfRack_145 : decode cX4_tellOfRack 145 = .ok (.iload_n 1, 1) := by decide +kernel
theorem dX4_tellOfRack_146 : decode cX4_tellOfRack 146 = .ok (.iaload, 1) := by decide +kernel
theorem dX4_tellOfRack_147 : decode cX4_tellOfRack 147 = .ok (.ireturn, 1) := by decide +kernel
theorem dX4_tellOfRack_148 : decode cX4_tellOfRack 148 = .ok (.aload_n 0, 1) := by decide +kernel
theorem dX4_tellOfRack_149 : decode cX4_tellOfRack 149 = .ok (.getfield 38, 3) := by decide +kernel
theorem dX4_tellOfRack_152 : decode cX4_tellOfRack 152 = .ok (.iload_n 1, 1) := by decide +kernel
theorem dX4_tellOfRack_153 : decode cX4_tellOfRack 153 = .ok (.invokevirtual 196, 3) := by decide +kernel
theorem dX4_tellOfRack_156 : decode cX4_tellOfRack 156 = .ok (.ireturn, 1) := by decide +kernel
theorem dX4_tellOfRack_157 : decode cX4_tellOfRack 157 = .ok (.sipush (-1002), 3) := by decide +kernel
theorem dX4_tellOfRack_160 : decode cX4_tellOfRack 160 = .ok (.ireturn, 1) := by decide +kernel
set_option maxRecDepth 20000 in
theorem ggX4_countInRack_X6_spotOf : GoodIn wsX4_countInRack wsX6_spotOf := goodIn_r _ [6] (by decide +kernel) (by decide +kernel)
set_option maxRecDepth 20000 in
theorem gX4_countInRack_X6_spotOf_n71 : GoodIn wsX4_countInRack (wsX6_spotOf) := ggX4_countInRack_X6_spotOf
set_option maxRecDepth 20000 in
theorem ggX4_countInRack_X2_isDead : GoodIn wsX4_countInRack wsX2_isDead := goodIn_r _ [11, 12, 26, 27, 28, 29, 30, 31, 32] (by decide +kernel) (by decide +kernel)
set_option maxRecDepth 20000 in
theorem gX4_countInRack_X2_isDead : GoodIn wsX4_countInRack (wsV RX4 145 RX2 yX2_isDead wsX2_isDead) := goodIn_app (goodIn_of _ (by decide +kernel)) ggX4_countInRack_X2_isDead
set_option maxRecDepth 20000 in
theorem ggX4_countInRack_X6_oneIf : GoodIn wsX4_countInRack wsX6_oneIf := goodIn_r _ [14] (by decide +kernel) (by decide +kernel)
set_option maxRecDepth 20000 in
theorem gX4_countInRack_X6_oneIf_n186 : GoodIn wsX4_countInRack (wsX6_oneIf) := ggX4_countInRack_X6_oneIf
theorem dX4_countInRack_0 : decode cX4_countInRack 0 = .ok (.iconst 0, 1) := by decide +kernel
theorem dX4_countInRack_1 : decode cX4_countInRack 1 = .ok (.istore_n 3, 1) := by decide +kernel
theorem dX4_countInRack_2 : decode cX4_countInRack 2 = .ok (.iconst 0, 1) := by decide +kernel
theorem dX4_countInRack_3 : decode cX4_countInRack 3 = .ok (.istore 4, 2) := by decide +kernel
theorem dX4_countInRack_5 : decode cX4_countInRack 5 = .ok (.iload 4, 2) := by decide +kernel
theorem dX4_countInRack_7 : decode cX4_countInRack 7 = .ok (.bipush 8, 2) := by decide +kernel
theorem dX4_countInRack_9 : decode cX4_countInRack 9 = .ok (.if_icmp .ge 58, 3) := by decide +kernel
theorem dX4_countInRack_12 : decode cX4_countInRack 12 = .ok (.aload_n 0, 1) := by decide +kernel
theorem dX4_countInRack_13 : decode cX4_countInRack 13 = .ok (.getfield 38, 3) := by decide +kernel
theorem dX4_countInRack_16 : decode cX4_countInRack 16 = .ok (.getfield 75, 3) := by decide +kernel
theorem dX4_countInRack_19 : decode cX4_countInRack 19 = .ok (.iload_n 1, 1) := by decide +kernel
theorem dX4_countInRack_20 : decode cX4_countInRack 20 = .ok (.iload 4, 2) := by decide +kernel
theorem dX4_countInRack_22 : decode cX4_countInRack 22 = .ok (.invokestatic 71, 3) := by decide +kernel
theorem dX4_countInRack_25 : decode cX4_countInRack 25 = .ok (.iaload, 1) := by decide +kernel
theorem dX4_countInRack_26 : decode cX4_countInRack 26 = .ok (.istore 5, 2) := by decide +kernel
theorem dX4_countInRack_28 : decode cX4_countInRack 28 = .ok (.iload_n 3, 1) := by decide +kernel
theorem dX4_countInRack_29 : decode cX4_countInRack 29 = .ok (.iload 5, 2) := by decide +kernel
theorem dX4_countInRack_31 : decode cX4_countInRack 31 = .ok (.iconst (-1), 1) := by decide +kernel
theorem dX4_countInRack_32 : decode cX4_countInRack 32 = .ok (.if_icmp .eq 23, 3) := by decide +kernel
theorem dX4_countInRack_35 : decode cX4_countInRack 35 = .ok (.iload_n 2, 1) := by decide +kernel
theorem dX4_countInRack_36 : decode cX4_countInRack 36 = .ok (.ifCond .ne 15, 3) := by decide +kernel
theorem dX4_countInRack_39 : decode cX4_countInRack 39 = .ok (.aload_n 0, 1) := by decide +kernel
theorem dX4_countInRack_40 : decode cX4_countInRack 40 = .ok (.getfield 31, 3) := by decide +kernel
theorem dX4_countInRack_43 : decode cX4_countInRack 43 = .ok (.iload 5, 2) := by decide +kernel
theorem dX4_countInRack_45 : decode cX4_countInRack 45 = .ok (.invokevirtual 145, 3) := by decide +kernel
theorem dX4_countInRack_48 : decode cX4_countInRack 48 = .ok (.ifCond .ne 7, 3) := by decide +kernel
theorem dX4_countInRack_51 : decode cX4_countInRack 51 = .ok (.iconst 1, 1) := by decide +kernel
theorem dX4_countInRack_52 : decode cX4_countInRack 52 = .ok (.goto 4, 3) := by decide +kernel
theorem dX4_countInRack_55 : decode cX4_countInRack 55 = .ok (.iconst 0, 1) := by decide +kernel
theorem dX4_countInRack_56 : decode cX4_countInRack 56 = .ok (.invokestatic 186, 3) := by decide +kernel
theorem dX4_countInRack_59 : decode cX4_countInRack 59 = .ok (.iadd, 1) := by decide +kernel
theorem dX4_countInRack_60 : decode cX4_countInRack 60 = .ok (.istore_n 3, 1) := by decide +kernel
theorem dX4_countInRack_61 : decode cX4_countInRack 61 = .ok (.iinc 4 1, 3) := by decide +kernel
theorem dX4_countInRack_64 : decode cX4_countInRack 64 = .ok (.goto (-59), 3) := by decide +kernel
theorem dX4_countInRack_67 : decode cX4_countInRack 67 = .ok (.iload_n 3, 1) := by decide +kernel
theorem dX4_countInRack_68 : decode cX4_countInRack 68 = .ok (.ireturn, 1) := by decide +kernel
set_option maxRecDepth 20000 in
theorem ggX4_tellOfBatch_X6_isBatch : GoodIn wsX4_tellOfBatch wsX6_isBatch := goodIn_r _ [7, 8, 9, 6, 10] (by decide +kernel) (by decide +kernel)
set_option maxRecDepth 20000 in
theorem gX4_tellOfBatch_X6_isBatch_n52 : GoodIn wsX4_tellOfBatch (wsX6_isBatch) := ggX4_tellOfBatch_X6_isBatch
set_option maxRecDepth 20000 in
theorem ggX4_tellOfBatch_X2_countDeadOf : GoodIn wsX4_tellOfBatch wsX2_countDeadOf := goodIn_r _ [15, 16, 17, 18, 19, 14, 20, 21, 22, 23, 24, 25, 26, 27, 6, 28, 59, 60, 61, 62, 63, 64, 65] (by decide +kernel) (by decide +kernel)
set_option maxRecDepth 20000 in
theorem gX4_tellOfBatch_X2_countDeadOf : GoodIn wsX4_tellOfBatch (wsV RX4 199 RX2 yX2_countDeadOf wsX2_countDeadOf) := goodIn_app (goodIn_of _ (by decide +kernel)) ggX4_tellOfBatch_X2_countDeadOf
set_option maxRecDepth 20000 in
theorem ggX4_tellOfBatch_X2_countDeadBelow : GoodIn wsX4_tellOfBatch wsX2_countDeadBelow := goodIn_r _ [32, 16, 17, 18, 19, 14, 20, 21, 22, 23, 24, 25, 26, 33, 34, 35, 36, 37, 27, 6, 28, 59, 60, 61, 62, 63, 64, 65] (by decide +kernel) (by decide +kernel)
set_option maxRecDepth 20000 in
theorem gX4_tellOfBatch_X2_countDeadBelow : GoodIn wsX4_tellOfBatch (wsV RX4 202 RX2 yX2_countDeadBelow wsX2_countDeadBelow) := goodIn_app (goodIn_of _ (by decide +kernel)) ggX4_tellOfBatch_X2_countDeadBelow
set_option maxRecDepth 20000 in
theorem ggX4_tellOfBatch_X2_countOf : GoodIn wsX4_tellOfBatch wsX2_countOf := goodIn_r _ [41, 16, 21, 27, 6, 28, 59, 60, 61, 62, 63, 64, 65] (by decide +kernel) (by decide +kernel)
set_option maxRecDepth 20000 in
theorem gX4_tellOfBatch_X2_countOf : GoodIn wsX4_tellOfBatch (wsV RX4 205 RX2 yX2_countOf wsX2_countOf) := goodIn_app (goodIn_of _ (by decide +kernel)) ggX4_tellOfBatch_X2_countOf
set_option maxRecDepth 20000 in
theorem ggX4_tellOfBatch_X2_middleLife : GoodIn wsX4_tellOfBatch wsX2_middleLife := goodIn_r _ [45, 16, 46, 39, 40, 14, 41, 21, 27, 6, 28, 17, 18, 19, 20, 22, 23, 24, 25, 26, 47, 48, 49, 50, 33, 34, 35, 36, 37, 59, 60, 61, 62, 63, 64, 65] (by decide +kernel) (by decide +kernel)
set_option maxRecDepth 20000 in
theorem gX4_tellOfBatch_X2_middleLife : GoodIn wsX4_tellOfBatch (wsV RX4 208 RX2 yX2_middleLife wsX2_middleLife) := goodIn_app (goodIn_of _ (by decide +kernel)) ggX4_tellOfBatch_X2_middleLife
set_option maxRecDepth 20000 in
theorem ggX4_tellOfBatch_X6_oneIf : GoodIn wsX4_tellOfBatch wsX6_oneIf := goodIn_r _ [28] (by decide +kernel) (by decide +kernel)
set_option maxRecDepth 20000 in
theorem gX4_tellOfBatch_X6_oneIf_n186 : GoodIn wsX4_tellOfBatch (wsX6_oneIf) := ggX4_tellOfBatch_X6_oneIf
theorem dX4_tellOfBatch_0 : decode cX4_tellOfBatch 0 = .ok (.iload_n 1, 1) := by decide +kernel
theorem dX4_tellOfBatch_1 : decode cX4_tellOfBatch 1 = .ok (.invokestatic 52, 3) := by decide +kernel
theorem dX4_tellOfBatch_4 : decode cX4_tellOfBatch 4 = .ok (.ifCond .ne 7, 3) := by decide +kernel
theorem dX4_tellOfBatch_7 : decode cX4_tellOfBatch 7 = .ok (.sipush (-1001), 3) := by decide +kernel
theorem dX4_tellOfBatch_10 : decode cX4_tellOfBatch 10 = .ok (.ireturn, 1) := by decide +kernel
theorem dX4_tellOfBatch_11 : decode cX4_tellOfBatch 11 = .ok (.aload_n 0, 1) := by decide +kernel
theorem dX4_tellOfBatch_12 : decode cX4_tellOfBatch 12 = .ok (.getfield 31, 3) := by decide +kernel
theorem dX4_tellOfBatch_15 : decode cX4_tellOfBatch 15 = .ok (.iload_n 1, 1) := by decide +kernel
theorem dX4_tellOfBatch_16 : decode cX4_tellOfBatch 16 = .ok (.invokevirtual 199, 3) := by decide +kernel
theorem dX4_tellOfBatch_19 : decode cX4_tellOfBatch 19 = .ok (.istore_n 3, 1) := by decide +kernel
theorem dX4_tellOfBatch_20 : decode cX4_tellOfBatch 20 = .ok (.aload_n 0, 1) := by decide +kernel
theorem dX4_tellOfBatch_21 : decode cX4_tellOfBatch 21 = .ok (.getfield 31, 3) := by decide +kernel
theorem dX4_tellOfBatch_24 : decode cX4_tellOfBatch 24 = .ok (.iload_n 1, 1) := by decide +kernel
theorem dX4_tellOfBatch_25 : decode cX4_tellOfBatch 25 = .ok (.aload_n 0, 1) := by decide +kernel
theorem dX4_tellOfBatch_26 : decode cX4_tellOfBatch 26 = .ok (.getfield 24, 3) := by decide +kernel
theorem dX4_tellOfBatch_29 : decode cX4_tellOfBatch 29 = .ok (.getfield 60, 3) := by decide +kernel
theorem dX4_tellOfBatch_32 : decode cX4_tellOfBatch 32 = .ok (.iload_n 1, 1) := by decide +kernel
theorem dX4_tellOfBatch_33 : decode cX4_tellOfBatch 33 = .ok (.iaload, 1) := by decide +kernel
theorem dX4_tellOfBatch_34 : decode cX4_tellOfBatch 34 = .ok (.iconst 2, 1) := by decide +kernel
theorem dX4_tellOfBatch_35 : decode cX4_tellOfBatch 35 = .ok (.idiv, 1) := by decide +kernel
theorem dX4_tellOfBatch_36 : decode cX4_tellOfBatch 36 = .ok (.invokevirtual 202, 3) := by decide +kernel
theorem dX4_tellOfBatch_39 : decode cX4_tellOfBatch 39 = .ok (.istore 4, 2) := by decide +kernel
theorem dX4_tellOfBatch_41 : decode cX4_tellOfBatch 41 = .ok (.iload_n 2, 1) := by decide +kernel
theorem dX4_tellOfBatch_42 : decode cX4_tellOfBatch 42 = .ok (.tableswitch 102 0 6 #[42, 52, 62, 71, 73, 76, 85], 42) := by decide +kernel
theorem dX4_tellOfBatch_84 : decode cX4_tellOfBatch 84 = .ok (.aload_n 0, 1) := by decide +kernel
theorem dX4_tellOfBatch_85 : decode cX4_tellOfBatch 85 = .ok (.getfield 24, 3) := by decide +kernel
theorem dX4_tellOfBatch_88 : decode cX4_tellOfBatch 88 = .ok (.getfield 60, 3) := by decide +kernel
theorem dX4_tellOfBatch_91 : decode cX4_tellOfBatch 91 = .ok (.iload_n 1, 1) := by decide +kernel
theorem dX4_tellOfBatch_92 : decode cX4_tellOfBatch 92 = .ok (.iaload, 1) := by decide +kernel
theorem dX4_tellOfBatch_93 : decode cX4_tellOfBatch 93 = .ok (.ireturn, 1) := by decide +kernel
theorem dX4_tellOfBatch_94 : decode cX4_tellOfBatch 94 = .ok (.aload_n 0, 1) := by decide +kernel
theorem dX4_tellOfBatch_95 : decode cX4_tellOfBatch 95 = .ok (.getfield 24, 3) := by decide +kernel
theorem dX4_tellOfBatch_98 : decode cX4_tellOfBatch 98 = .ok (.getfield 64, 3) := by decide +kernel
theorem dX4_tellOfBatch_101 : decode cX4_tellOfBatch 101 = .ok (.iload_n 1, 1) := by decide +kernel
theorem dX4_tellOfBatch_102 : decode cX4_tellOfBatch 102 = .ok (.iaload, 1) := by decide +kernel
theorem dX4_tellOfBatch_103 : decode cX4_tellOfBatch 103 = .ok (.ireturn, 1) := by decide +kernel
theorem dX4_tellOfBatch_104 : decode cX4_tellOfBatch 104 = .ok (.aload_n 0, 1) := by decide +kernel
theorem dX4_tellOfBatch_105 : decode cX4_tellOfBatch 105 = .ok (.getfield 31, 3) := by decide +kernel
theorem dX4_tellOfBatch_108 : decode cX4_tellOfBatch 108 = .ok (.iload_n 1, 1) := by decide +kernel
theorem dX4_tellOfBatch_109 : decode cX4_tellOfBatch 109 = .ok (.invokevirtual 205, 3) := by decide +kernel
theorem dX4_tellOfBatch_112 : decode cX4_tellOfBatch 112 = .ok (.ireturn, 1) := by decide +kernel
theorem dX4_tellOfBatch_113 : decode cX4_tellOfBatch 113 = .ok (.iload_n 3, 1) := by decide +kernel
theorem dX4_tellOfBatch_114 : decode cX4_tellOfBatch 114 = .ok (.ireturn, 1) := by decide +kernel
theorem dX4_tellOfBatch_115 : decode cX4_tellOfBatch 115 = .ok (.iload 4, 2) := by decide +kernel
theorem dX4_tellOfBatch_117 : decode cX4_tellOfBatch 117 = .ok (.ireturn, 1) := by decide +kernel
theorem dX4_tellOfBatch_118 : decode cX4_tellOfBatch 118 = .ok (.aload_n 0, 1) := by decide +kernel
theorem dX4_tellOfBatch_119 : decode cX4_tellOfBatch 119 = .ok (.getfield 31, 3) := by decide +kernel
theorem dX4_tellOfBatch_122 : decode cX4_tellOfBatch 122 = .ok (.iload_n 1, 1) := by decide +kernel
theorem dX4_tellOfBatch_123 : decode cX4_tellOfBatch 123 = .ok (.invokevirtual 208, 3) := by decide +kernel
theorem dX4_tellOfBatch_126 : decode cX4_tellOfBatch 126 = .ok (.ireturn, 1) := by decide +kernel
theorem dX4_tellOfBatch_127 : decode cX4_tellOfBatch 127 = .ok (.iconst 2, 1) := by decide +kernel
theorem dX4_tellOfBatch_128 : decode cX4_tellOfBatch 128 = .ok (.iload 4, 2) := by decide +kernel
theorem dX4_tellOfBatch_130 : decode cX4_tellOfBatch 130 = .ok (.imul, 1) := by decide +kernel
theorem dX4_tellOfBatch_131 : decode cX4_tellOfBatch 131 = .ok (.iload_n 3, 1) := by decide +kernel
theorem dX4_tellOfBatch_132 : decode cX4_tellOfBatch 132 = .ok (.if_icmp .le 7, 3) := by decide +kernel
theorem dX4_tellOfBatch_135 : decode cX4_tellOfBatch 135 = .ok (.iconst 1, 1) := by decide +kernel
theorem dX4_tellOfBatch_136 : decode cX4_tellOfBatch 136 = .ok (.goto 4, 3) := by decide +kernel
theorem dX4_tellOfBatch_139 : decode cX4_tellOfBatch 139 = .ok (.iconst 0, 1) := by decide +kernel
theorem dX4_tellOfBatch_140 : decode cX4_tellOfBatch 140 = .ok (.invokestatic 186, 3) := by decide +kernel
theorem dX4_tellOfBatch_143 : decode cX4_tellOfBatch 143 = .ok (.ireturn, 1) := by decide +kernel
theorem dX4_tellOfBatch_144 : decode cX4_tellOfBatch 144 = .ok (.sipush (-1002), 3) := by decide +kernel
theorem dX4_tellOfBatch_147 : decode cX4_tellOfBatch 147 = .ok (.ireturn, 1) := by decide +kernel
set_option maxRecDepth 20000 in
theorem ggX4_tellOfAll_X2_countInRacks : GoodIn wsX4_tellOfAll wsX2_countInRacks := goodIn_r _ [12, 13, 14, 15, 16, 17, 68, 69, 70, 71, 72, 73, 74] (by decide +kernel) (by decide +kernel)
set_option maxRecDepth 20000 in
theorem gX4_tellOfAll_X2_countInRacks : GoodIn wsX4_tellOfAll (wsV RX4 211 RX2 yX2_countInRacks wsX2_countInRacks) := goodIn_app (goodIn_of _ (by decide +kernel)) ggX4_tellOfAll_X2_countInRacks
set_option maxRecDepth 20000 in
theorem ggX4_tellOfAll_X4_countBurning : GoodIn wsX4_tellOfAll wsX4_countBurning := goodIn_r _ [22, 2, 3, 23, 24, 25, 21, 26, 27, 28, 29, 30, 31, 11, 32, 33, 34, 35, 36, 37, 38, 39, 15, 16, 17, 62, 63, 64, 65, 66, 67, 68, 69, 70, 71, 72, 73, 74, 75, 76, 77, 78, 79] (by decide +kernel) (by decide +kernel)
set_option maxRecDepth 20000 in
theorem gX4_tellOfAll_X4_countBurning : GoodIn wsX4_tellOfAll (wsV RX4 215 RX4 yX4_countBurning wsX4_countBurning) := goodIn_app (goodIn_of _ (by decide +kernel)) ggX4_tellOfAll_X4_countBurning
set_option maxRecDepth 20000 in
theorem ggX4_tellOfAll_X2_countDead : GoodIn wsX4_tellOfAll wsX2_countDead := goodIn_r _ [43, 13, 44, 30, 31, 11, 32, 33, 15, 16, 17, 68, 69, 70, 71, 72, 73, 74] (by decide +kernel) (by decide +kernel)
set_option maxRecDepth 20000 in
theorem gX4_tellOfAll_X2_countDead : GoodIn wsX4_tellOfAll (wsV RX4 218 RX2 yX2_countDead wsX2_countDead) := goodIn_app (goodIn_of _ (by decide +kernel)) ggX4_tellOfAll_X2_countDead
set_option maxRecDepth 20000 in
theorem ggX4_tellOfAll_X2_countWeak : GoodIn wsX4_tellOfAll wsX2_countWeak := goodIn_r _ [48, 13, 49, 16, 50, 51, 52, 53, 15, 17, 68, 69, 70, 71, 72, 73, 74] (by decide +kernel) (by decide +kernel)
set_option maxRecDepth 20000 in
theorem gX4_tellOfAll_X2_countWeak : GoodIn wsX4_tellOfAll (wsV RX4 221 RX2 yX2_countWeak wsX2_countWeak) := goodIn_app (goodIn_of _ (by decide +kernel)) ggX4_tellOfAll_X2_countWeak
set_option maxRecDepth 20000 in
theorem ggX4_tellOfAll_X2_sumOf : GoodIn wsX4_tellOfAll wsX2_sumOf := goodIn_r _ [57, 13, 58, 59, 60, 61, 68, 69, 70, 71, 72, 73, 74] (by decide +kernel) (by decide +kernel)
set_option maxRecDepth 20000 in
theorem gX4_tellOfAll_X2_sumOf : GoodIn wsX4_tellOfAll (wsV RX4 224 RX2 yX2_sumOf wsX2_sumOf) := goodIn_app (goodIn_of _ (by decide +kernel)) ggX4_tellOfAll_X2_sumOf
theorem dX4_tellOfAll_0 : decode cX4_tellOfAll 0 = .ok (.iload_n 1, 1) := by decide +kernel
theorem dX4_tellOfAll_1 : decode cX4_tellOfAll 1 = .ok (.tableswitch 137 0 9 #[55, 60, 68, 76, 81, 89, 97, 112, 127, 132], 55) := by decide +kernel
theorem dX4_tellOfAll_56 : decode cX4_tellOfAll 56 = .ok (.aload_n 0, 1) := by decide +kernel
theorem dX4_tellOfAll_57 : decode cX4_tellOfAll 57 = .ok (.getfield 9, 3) := by decide +kernel
theorem dX4_tellOfAll_60 : decode cX4_tellOfAll 60 = .ok (.ireturn, 1) := by decide +kernel
theorem dX4_tellOfAll_61 : decode cX4_tellOfAll 61 = .ok (.aload_n 0, 1) := by decide +kernel
theorem dX4_tellOfAll_62 : decode cX4_tellOfAll 62 = .ok (.getfield 31, 3) := by decide +kernel
theorem dX4_tellOfAll_65 : decode cX4_tellOfAll 65 = .ok (.getfield 82, 3) := by decide +kernel
theorem dX4_tellOfAll_68 : decode cX4_tellOfAll 68 = .ok (.ireturn, 1) := by decide +kernel
theorem dX4_tellOfAll_69 : decode cX4_tellOfAll 69 = .ok (.aload_n 0, 1) := by decide +kernel
theorem dX4_tellOfAll_70 : decode cX4_tellOfAll 70 = .ok (.getfield 31, 3) := by decide +kernel
theorem dX4_tellOfAll_73 : decode cX4_tellOfAll 73 = .ok (.invokevirtual 211, 3) := by decide +kernel
theorem dX4_tellOfAll_76 : decode cX4_tellOfAll 76 = .ok (.ireturn, 1) := by decide +kernel
theorem dX4_tellOfAll_77 : decode cX4_tellOfAll 77 = .ok (.aload_n 0, 1) := by decide +kernel
theorem dX4_tellOfAll_78 : decode cX4_tellOfAll 78 = .ok (.invokevirtual 215, 3) := by decide +kernel
theorem dX4_tellOfAll_81 : decode cX4_tellOfAll 81 = .ok (.ireturn, 1) := by decide +kernel
theorem dX4_tellOfAll_82 : decode cX4_tellOfAll 82 = .ok (.aload_n 0, 1) := by decide +kernel
theorem dX4_tellOfAll_83 : decode cX4_tellOfAll 83 = .ok (.getfield 31, 3) := by decide +kernel
theorem dX4_tellOfAll_86 : decode cX4_tellOfAll 86 = .ok (.invokevirtual 218, 3) := by decide +kernel
theorem dX4_tellOfAll_89 : decode cX4_tellOfAll 89 = .ok (.ireturn, 1) := by decide +kernel
theorem dX4_tellOfAll_90 : decode cX4_tellOfAll 90 = .ok (.aload_n 0, 1) := by decide +kernel
theorem dX4_tellOfAll_91 : decode cX4_tellOfAll 91 = .ok (.getfield 31, 3) := by decide +kernel
theorem dX4_tellOfAll_94 : decode cX4_tellOfAll 94 = .ok (.invokevirtual 221, 3) := by decide +kernel
theorem dX4_tellOfAll_97 : decode cX4_tellOfAll 97 = .ok (.ireturn, 1) := by decide +kernel
theorem dX4_tellOfAll_98 : decode cX4_tellOfAll 98 = .ok (.aload_n 0, 1) := by decide +kernel
theorem dX4_tellOfAll_99 : decode cX4_tellOfAll 99 = .ok (.getfield 31, 3) := by decide +kernel
theorem dX4_tellOfAll_102 : decode cX4_tellOfAll 102 = .ok (.aload_n 0, 1) := by decide +kernel
theorem dX4_tellOfAll_103 : decode cX4_tellOfAll 103 = .ok (.getfield 31, 3) := by decide +kernel
theorem dX4_tellOfAll_106 : decode cX4_tellOfAll 106 = .ok (.getfield 180, 3) := by decide +kernel
theorem dX4_tellOfAll_109 : decode cX4_tellOfAll 109 = .ok (.invokevirtual 224, 3) := by decide +kernel
theorem dX4_tellOfAll_112 : decode cX4_tellOfAll 112 = .ok (.ireturn, 1) := by decide +kernel
theorem dX4_tellOfAll_113 : decode cX4_tellOfAll 113 = .ok (.aload_n 0, 1) := by decide +kernel
theorem dX4_tellOfAll_114 : decode cX4_tellOfAll 114 = .ok (.getfield 31, 3) := by decide +kernel
theorem dX4_tellOfAll_117 : decode cX4_tellOfAll 117 = .ok (.aload_n 0, 1) := by decide +kernel
theorem dX4_tellOfAll_118 : decode cX4_tellOfAll 118 = .ok (.getfield 31, 3) := by decide +kernel
theorem dX4_tellOfAll_121 : decode cX4_tellOfAll 121 = .ok (.getfield 177, 3) := by decide +kernel
theorem dX4_tellOfAll_124 : decode cX4_tellOfAll 124 = .ok (.invokevirtual 224, 3) := by decide +kernel
theorem dX4_tellOfAll_127 : decode cX4_tellOfAll 127 = .ok (.ireturn, 1) := by decide +kernel
theorem dX4_tellOfAll_128 : decode cX4_tellOfAll 128 = .ok (.aload_n 0, 1) := by decide +kernel
theorem dX4_tellOfAll_129 : decode cX4_tellOfAll 129 = .ok (.getfield 15, 3) := by decide +kernel
theorem dX4_tellOfAll_132 : decode cX4_tellOfAll 132 = .ok (.ireturn, 1) := by decide +kernel
theorem dX4_tellOfAll_133 : decode cX4_tellOfAll 133 = .ok (.aload_n 0, 1) := by decide +kernel
theorem dX4_tellOfAll_134 : decode cX4_tellOfAll 134 = .ok (.getfield 18, 3) := by decide +kernel
theorem dX4_tellOfAll_137 : decode cX4_tellOfAll 137 = .ok (.ireturn, 1) := by decide +kernel
theorem dX4_tellOfAll_138 : decode cX4_tellOfAll 138 = .ok (.sipush (-1002), 3) := by decide +kernel
theorem dX4_tellOfAll_141 : decode cX4_tellOfAll 141 = .ok (.ireturn, 1) := by decide +kernel
set_option maxRecDepth 20000 in
theorem ggX4_countBurning_X4_whyDark : GoodIn wsX4_countBurning wsX4_whyDark := goodIn_r _ [7, 1, 8, 9, 10, 11, 12, 13, 14, 15, 16, 17, 18, 19, 20, 21, 25, 26, 27, 28, 29, 30, 31, 32, 33, 34, 35, 36, 37, 38, 39, 40, 41, 42] (by decide +kernel) (by decide +kernel)
set_option maxRecDepth 20000 in
theorem gX4_countBurning_X4_whyDark : GoodIn wsX4_countBurning (wsV RX4 228 RX4 yX4_whyDark wsX4_whyDark) := goodIn_app (goodIn_of _ (by decide +kernel)) ggX4_countBurning_X4_whyDark
set_option maxRecDepth 20000 in
theorem ggX4_countBurning_X6_oneIf : GoodIn wsX4_countBurning wsX6_oneIf := goodIn_r _ [24] (by decide +kernel) (by decide +kernel)
set_option maxRecDepth 20000 in
theorem gX4_countBurning_X6_oneIf_n186 : GoodIn wsX4_countBurning (wsX6_oneIf) := ggX4_countBurning_X6_oneIf
theorem dX4_countBurning_0 : decode cX4_countBurning 0 = .ok (.iconst 0, 1) := by decide +kernel
theorem dX4_countBurning_1 : decode cX4_countBurning 1 = .ok (.istore_n 1, 1) := by decide +kernel
theorem dX4_countBurning_2 : decode cX4_countBurning 2 = .ok (.iconst 0, 1) := by decide +kernel
theorem dX4_countBurning_3 : decode cX4_countBurning 3 = .ok (.istore_n 2, 1) := by decide +kernel
theorem dX4_countBurning_4 : decode cX4_countBurning 4 = .ok (.iload_n 2, 1) := by decide +kernel
theorem dX4_countBurning_5 : decode cX4_countBurning 5 = .ok (.aload_n 0, 1) := by decide +kernel
theorem dX4_countBurning_6 : decode cX4_countBurning 6 = .ok (.getfield 31, 3) := by decide +kernel
theorem dX4_countBurning_9 : decode cX4_countBurning 9 = .ok (.getfield 82, 3) := by decide +kernel
theorem dX4_countBurning_12 : decode cX4_countBurning 12 = .ok (.if_icmp .ge 28, 3) := by decide +kernel
theorem dX4_countBurning_15 : decode cX4_countBurning 15 = .ok (.iload_n 1, 1) := by decide +kernel
theorem dX4_countBurning_16 : decode cX4_countBurning 16 = .ok (.aload_n 0, 1) := by decide +kernel
theorem dX4_countBurning_17 : decode cX4_countBurning 17 = .ok (.iload_n 2, 1) := by decide +kernel
theorem dX4_countBurning_18 : decode cX4_countBurning 18 = .ok (.invokevirtual 228, 3) := by decide +kernel
theorem dX4_countBurning_21 : decode cX4_countBurning 21 = .ok (.ifCond .ne 7, 3) := by decide +kernel
theorem dX4_countBurning_24 : decode cX4_countBurning 24 = .ok (.iconst 1, 1) := by decide +kernel
theorem dX4_countBurning_25 : decode cX4_countBurning 25 = .ok (.goto 4, 3) := by decide +kernel
theorem dX4_countBurning_28 : decode cX4_countBurning 28 = .ok (.iconst 0, 1) := by decide +kernel
theorem dX4_countBurning_29 : decode cX4_countBurning 29 = .ok (.invokestatic 186, 3) := by decide +kernel
theorem dX4_countBurning_32 : decode cX4_countBurning 32 = .ok (.iadd, 1) := by decide +kernel
theorem dX4_countBurning_33 : decode cX4_countBurning 33 = .ok (.istore_n 1, 1) := by decide +kernel
theorem dX4_countBurning_34 : decode cX4_countBurning 34 = .ok (.iinc 2 1, 3) := by decide +kernel
theorem dX4_countBurning_37 : decode cX4_countBurning 37 = .ok (.goto (-33), 3) := by decide +kernel
theorem dX4_countBurning_40 : decode cX4_countBurning 40 = .ok (.iload_n 1, 1) := by decide +kernel
theorem dX4_countBurning_41 : decode cX4_countBurning 41 = .ok (.ireturn, 1) := by decide +kernel
theorem dX5_init_0 : decode cX5_init 0 = .ok (.aload_n 0, 1) := by decide +kernel
theorem dX5_init_1 : decode cX5_init 1 = .ok (.invokespecial 3, 3) := by decide +kernel
theorem dX5_init_4 : decode cX5_init 4 = .ok (.aload_n 0, 1) := by decide +kernel
theorem dX5_init_5 : decode cX5_init 5 = .ok (.iconst 0, 1) := by decide +kernel
theorem dX5_init_6 : decode cX5_init 6 = .ok (.putfield 9, 3) := by decide +kernel
theorem dX5_init_9 : decode cX5_init 9 = .ok (.aload_n 0, 1) := by decide +kernel
theorem dX5_init_10 : decode cX5_init 10 = .ok (.bipush 60, 2) := by decide +kernel
theorem dX5_init_12 : decode cX5_init 12 = .ok (.newarray .char, 2) := by decide +kernel
theorem dX5_init_14 : decode cX5_init 14 = .ok (.putfield 15, 3) := by decide +kernel
theorem dX5_init_17 : decode cX5_init 17 = .ok (.aload_n 0, 1) := by decide +kernel
theorem dX5_init_18 : decode cX5_init 18 = .ok (.iconst 0, 1) := by decide +kernel
theorem dX5_init_19 : decode cX5_init 19 = .ok (.putfield 19, 3) := by decide +kernel
theorem dX5_init_22 : decode cX5_init 22 = .ok (.aload_n 0, 1) := by decide +kernel
theorem dX5_init_23 : decode cX5_init 23 = .ok (.iconst 0, 1) := by decide +kernel
theorem dX5_init_24 : decode cX5_init 24 = .ok (.putfield 22, 3) := by decide +kernel
theorem dX5_init_27 : decode cX5_init 27 = .ok (.aload_n 0, 1) := by decide +kernel
theorem dX5_init_28 : decode cX5_init 28 = .ok (.iconst (-1), 1) := by decide +kernel
theorem dX5_init_29 : decode cX5_init 29 = .ok (.putfield 25, 3) := by decide +kernel
theorem dX5_init_32 : decode cX5_init 32 = .ok (.aload_n 0, 1) := by decide +kernel
theorem dX5_init_33 : decode cX5_init 33 = .ok (.iconst 0, 1) := by decide +kernel
theorem dX5_init_34 : decode cX5_init 34 = .ok (.putfield 28, 3) := by decide +kernel
theorem dX5_init_37 : decode cX5_init 37 = .ok (.aload_n 0, 1) := by decide +kernel
theorem dX5_init_38 : decode cX5_init 38 = .ok (.iconst 0, 1) := by decide +kernel
theorem dX5_init_39 : decode cX5_init 39 = .ok (.putfield 31, 3) := by decide +kernel
theorem dX5_init_42 : decode cX5_init 42 = .ok (.aload_n 0, 1) := by decide +kernel
theorem dX5_init_43 : decode cX5_init 43 = .ok (.iconst 0, 1) := by decide +kernel
theorem dX5_init_44 : decode cX5_init 44 = .ok (.putfield 34, 3) := by decide +kernel
theorem dX5_init_47 : decode cX5_init 47 = .ok (.aload_n 0, 1) := by decide +kernel
theorem dX5_init_48 : decode cX5_init 48 = .ok (.iconst 1, 1) := by decide +kernel
theorem dX5_init_49 : decode cX5_init 49 = .ok (.putfield 37, 3) := by decide +kernel
theorem dX5_init_52 : decode cX5_init 52 = .ok (.aload_n 0, 1) := by decide +kernel
theorem dX5_init_53 : decode cX5_init 53 = .ok (.iconst 0, 1) := by decide +kernel
theorem dX5_init_54 : decode cX5_init 54 = .ok (.putfield 40, 3) := by decide +kernel
theorem dX5_init_57 : decode cX5_init 57 = .ok (.return_, 1) := by decide +kernel
theorem dX5_empty_0 : decode cX5_empty 0 = .ok (.aload_n 0, 1) := by decide +kernel
theorem dX5_empty_1 : decode cX5_empty 1 = .ok (.getfield 9, 3) := by decide +kernel
theorem dX5_empty_4 : decode cX5_empty 4 = .ok (.istore_n 1, 1) := by decide +kernel
theorem dX5_empty_5 : decode cX5_empty 5 = .ok (.aload_n 0, 1) := by decide +kernel
theorem dX5_empty_6 : decode cX5_empty 6 = .ok (.iconst 0, 1) := by decide +kernel
theorem dX5_empty_7 : decode cX5_empty 7 = .ok (.putfield 9, 3) := by decide +kernel
theorem dX5_empty_10 : decode cX5_empty 10 = .ok (.iload_n 1, 1) := by decide +kernel
theorem dX5_empty_11 : decode cX5_empty 11 = .ok (.ireturn, 1) := by decide +kernel
theorem dX5_startReading_0 : decode cX5_startReading 0 = .ok (.aload_n 0, 1) := by decide +kernel
theorem dX5_startReading_1 : decode cX5_startReading 1 = .ok (.iconst 0, 1) := by decide +kernel
theorem dX5_startReading_2 : decode cX5_startReading 2 = .ok (.putfield 19, 3) := by decide +kernel
theorem dX5_startReading_5 : decode cX5_startReading 5 = .ok (.return_, 1) := by decide +kernel
set_option maxRecDepth 20000 in
theorem ggX5_findFault_X5_startReading : GoodIn wsX5_findFault wsX5_startReading := goodIn_r _ [8, 2, 63, 64, 65, 66, 67, 68, 69, 70, 71, 72] (by decide +kernel) (by decide +kernel)
set_option maxRecDepth 20000 in
theorem gX5_findFault_X5_startReading : GoodIn wsX5_findFault (wsV RX5 43 RX5 yX5_startReading wsX5_startReading) := goodIn_app (goodIn_of _ (by decide +kernel)) ggX5_findFault_X5_startReading
set_option maxRecDepth 20000 in
theorem ggX5_findFault_X5_readThing : GoodIn wsX5_findFault wsX5_readThing := goodIn_r _ [12, 13, 14, 15, 16, 7, 17, 2, 3, 18, 19, 20, 21, 22, 23, 24, 25, 26, 27, 28, 29, 30, 31, 32, 33, 34, 35, 36, 37, 38, 39, 40, 41, 42, 43, 44, 45, 46, 47, 48, 49, 50, 51, 52, 53, 54, 55, 56, 57, 58, 59, 60, 61, 62, 63, 64, 65, 66, 67, 68, 69, 70, 71, 72] (by decide +kernel) (by decide +kernel)
set_option maxRecDepth 20000 in
theorem gX5_findFault_X5_readThing : GoodIn wsX5_findFault (wsV RX5 46 RX5 yX5_readThing wsX5_readThing) := goodIn_app (goodIn_of _ (by decide +kernel)) ggX5_findFault_X5_readThing
set_option maxRecDepth 20000 in
theorem ggX5_findFault_X5_readSign : GoodIn wsX5_findFault wsX5_readSign := goodIn_r _ [22, 2, 14, 15, 16, 7, 17, 3, 18, 63, 64, 65, 66, 67, 68, 69, 70, 71, 72] (by decide +kernel) (by decide +kernel)
set_option maxRecDepth 20000 in
theorem gX5_findFault_X5_readSign : GoodIn wsX5_findFault (wsV RX5 50 RX5 yX5_readSign wsX5_readSign) := goodIn_app (goodIn_of _ (by decide +kernel)) ggX5_findFault_X5_readSign
theorem dX5_findFault_0 : decode cX5_findFault 0 = .ok (.aload_n 0, 1) := by decide +kernel
theorem dX5_findFault_1 : decode cX5_findFault 1 = .ok (.invokevirtual 43, 3) := by decide +kernel
theorem dX5_findFault_4 : decode cX5_findFault 4 = .ok (.aload_n 0, 1) := by decide +kernel
theorem dX5_findFault_5 : decode cX5_findFault 5 = .ok (.iconst 0, 1) := by decide +kernel
theorem dX5_findFault_6 : decode cX5_findFault 6 = .ok (.putfield 22, 3) := by decide +kernel
theorem dX5_findFault_9 : decode cX5_findFault 9 = .ok (.iconst 1, 1) := by decide +kernel
theorem dX5_findFault_10 : decode cX5_findFault 10 = .ok (.istore_n 1, 1) := by decide +kernel
theorem dX5_findFault_11 : decode cX5_findFault 11 = .ok (.iload_n 1, 1) := by decide +kernel
theorem dX5_findFault_12 : decode cX5_findFault 12 = .ok (.bipush 60, 2) := by decide +kernel
theorem dX5_findFault_14 : decode cX5_findFault 14 = .ok (.if_icmp .gt 53, 3) := by decide +kernel
theorem dX5_findFault_17 : decode cX5_findFault 17 = .ok (.aload_n 0, 1) := by decide +kernel
theorem dX5_findFault_18 : decode cX5_findFault 18 = .ok (.invokevirtual 46, 3) := by decide +kernel
theorem dX5_findFault_21 : decode cX5_findFault 21 = .ok (.ifCond .ne 8, 3) := by decide +kernel
theorem dX5_findFault_24 : decode cX5_findFault 24 = .ok (.aload_n 0, 1) := by decide +kernel
theorem dX5_findFault_25 : decode cX5_findFault 25 = .ok (.getfield 19, 3) := by decide +kernel
theorem dX5_findFault_28 : decode cX5_findFault 28 = .ok (.ireturn, 1) := by decide +kernel
theorem dX5_findFault_29 : decode cX5_findFault 29 = .ok (.aload_n 0, 1) := by decide +kernel
theorem dX5_findFault_30 : decode cX5_findFault 30 = .ok (.iload_n 1, 1) := by decide +kernel
theorem dX5_findFault_31 : decode cX5_findFault 31 = .ok (.putfield 22, 3) := by decide +kernel
theorem dX5_findFault_34 : decode cX5_findFault 34 = .ok (.aload_n 0, 1) := by decide +kernel
theorem dX5_findFault_35 : decode cX5_findFault 35 = .ok (.getfield 19, 3) := by decide +kernel
theorem dX5_findFault_38 : decode cX5_findFault 38 = .ok (.aload_n 0, 1) := by decide +kernel
theorem dX5_findFault_39 : decode cX5_findFault 39 = .ok (.getfield 9, 3) := by decide +kernel
theorem dX5_findFault_42 : decode cX5_findFault 42 = .ok (.if_icmp .ne 5, 3) := by decide +kernel
theorem dX5_findFault_45 : decode cX5_findFault 45 = .ok (.iconst (-1), 1) := by decide +kernel
theorem dX5_findFault_46 : decode cX5_findFault 46 = .ok (.ireturn, 1) := by decide +kernel
theorem dX5_findFault_47 : decode cX5_findFault 47 = .ok (.aload_n 0, 1) := by decide +kernel
theorem dX5_findFault_48 : decode cX5_findFault 48 = .ok (.bipush 59, 2) := by decide +kernel
theorem dX5_findFault_50 : decode cX5_findFault 50 = .ok (.invokevirtual 50, 3) := by decide +kernel
theorem dX5_findFault_53 : decode cX5_findFault 53 = .ok (.ifCond .ne 8, 3) := by decide +kernel
theorem dX5_findFault_56 : decode cX5_findFault 56 = .ok (.aload_n 0, 1) := by decide +kernel
theorem dX5_findFault_57 : decode cX5_findFault 57 = .ok (.getfield 19, 3) := by decide +kernel
theorem dX5_findFault_60 : decode cX5_findFault 60 = .ok (.ireturn, 1) := by decide +kernel
theorem dX5_findFault_61 : decode cX5_findFault 61 = .ok (.iinc 1 1, 3) := by decide +kernel
theorem dX5_findFault_64 : decode cX5_findFault 64 = .ok (.goto (-53), 3) := by decide +kernel
theorem dX5_findFault_67 : decode cX5_findFault 67 = .ok (.aload_n 0, 1) := by decide +kernel
theorem dX5_findFault_68 : decode cX5_findFault 68 = .ok (.getfield 19, 3) := by decide +kernel
theorem dX5_findFault_71 : decode cX5_findFault 71 = .ok (.ireturn, 1) := by decide +kernel
set_option maxRecDepth 20000 in
theorem ggX5_readThing_X5_current : GoodIn wsX5_readThing wsX5_current := goodIn_r _ [6, 7, 8, 9, 54, 55, 56, 57, 58, 59, 60, 61, 62, 63] (by decide +kernel) (by decide +kernel)
set_option maxRecDepth 20000 in
theorem gX5_readThing_X5_current : GoodIn wsX5_readThing (wsV RX5 54 RX5 yX5_current wsX5_current) := goodIn_app (goodIn_of _ (by decide +kernel)) ggX5_readThing_X5_current
set_option maxRecDepth 20000 in
theorem ggX5_readThing_X5_readSign : GoodIn wsX5_readThing wsX5_readSign := goodIn_r _ [13, 7, 2, 3, 4, 5, 6, 8, 9, 54, 55, 56, 57, 58, 59, 60, 61, 62, 63] (by decide +kernel) (by decide +kernel)
set_option maxRecDepth 20000 in
theorem gX5_readThing_X5_readSign : GoodIn wsX5_readThing (wsV RX5 50 RX5 yX5_readSign wsX5_readSign) := goodIn_app (goodIn_of _ (by decide +kernel)) ggX5_readThing_X5_readSign
set_option maxRecDepth 20000 in
theorem ggX5_readThing_X5_readSpot : GoodIn wsX5_readThing wsX5_readSpot := goodIn_r _ [17, 18, 19, 20, 21, 22, 5, 23, 24, 25, 26, 27, 28, 7, 2, 3, 4, 6, 8, 9, 29, 30, 31, 54, 55, 56, 57, 58, 59, 60, 61, 62, 63] (by decide +kernel) (by decide +kernel)
set_option maxRecDepth 20000 in
theorem gX5_readThing_X5_readSpot : GoodIn wsX5_readThing (wsV RX5 58 RX5 yX5_readSpot wsX5_readSpot) := goodIn_app (goodIn_of _ (by decide +kernel)) ggX5_readThing_X5_readSpot
set_option maxRecDepth 20000 in
theorem ggX5_readThing_X5_readDigit : GoodIn wsX5_readThing wsX5_readDigit := goodIn_r _ [28, 18, 7, 2, 3, 4, 5, 6, 8, 9, 29, 30, 31, 54, 55, 56, 57, 58, 59, 60, 61, 62, 63] (by decide +kernel) (by decide +kernel)
set_option maxRecDepth 20000 in
theorem gX5_readThing_X5_readDigit : GoodIn wsX5_readThing (wsV RX5 61 RX5 yX5_readDigit wsX5_readDigit) := goodIn_app (goodIn_of _ (by decide +kernel)) ggX5_readThing_X5_readDigit
set_option maxRecDepth 20000 in
theorem ggX5_readThing_X5_readRackAndColon : GoodIn wsX5_readThing wsX5_readRackAndColon := goodIn_r _ [35, 20, 21, 22, 5, 23, 18, 24, 25, 26, 27, 28, 7, 2, 3, 4, 6, 8, 9, 29, 30, 31, 10, 11, 12, 13, 54, 55, 56, 57, 58, 59, 60, 61, 62, 63] (by decide +kernel) (by decide +kernel)
set_option maxRecDepth 20000 in
theorem gX5_readThing_X5_readRackAndColon : GoodIn wsX5_readThing (wsV RX5 65 RX5 yX5_readRackAndColon wsX5_readRackAndColon) := goodIn_app (goodIn_of _ (by decide +kernel)) ggX5_readThing_X5_readRackAndColon
set_option maxRecDepth 20000 in
theorem ggX5_readThing_X5_readNumber : GoodIn wsX5_readThing wsX5_readNumber := goodIn_r _ [39, 18, 7, 8, 2, 3, 4, 5, 6, 9, 29, 30, 31, 40, 41, 42, 43, 54, 55, 56, 57, 58, 59, 60, 61, 62, 63] (by decide +kernel) (by decide +kernel)
set_option maxRecDepth 20000 in
theorem gX5_readThing_X5_readNumber : GoodIn wsX5_readThing (wsV RX5 68 RX5 yX5_readNumber wsX5_readNumber) := goodIn_app (goodIn_of _ (by decide +kernel)) ggX5_readThing_X5_readNumber
set_option maxRecDepth 20000 in
theorem ggX5_readThing_X5_readSteps : GoodIn wsX5_readThing wsX5_readSteps := goodIn_r _ [47, 18, 48, 36, 37, 38, 5, 39, 7, 8, 2, 3, 4, 6, 9, 29, 30, 31, 40, 41, 42, 43, 49, 50, 51, 52, 53, 10, 11, 12, 13, 54, 55, 56, 57, 58, 59, 60, 61, 62, 63] (by decide +kernel) (by decide +kernel)
set_option maxRecDepth 20000 in
theorem gX5_readThing_X5_readSteps : GoodIn wsX5_readThing (wsV RX5 72 RX5 yX5_readSteps wsX5_readSteps) := goodIn_app (goodIn_of _ (by decide +kernel)) ggX5_readThing_X5_readSteps
theorem dX5_readThing_0 : decode cX5_readThing 0 = .ok (.aload_n 0, 1) := by decide +kernel
theorem dX5_readThing_1 : decode cX5_readThing 1 = .ok (.aload_n 0, 1) := by decide +kernel
theorem dX5_readThing_2 : decode cX5_readThing 2 = .ok (.invokevirtual 54, 3) := by decide +kernel
theorem dX5_readThing_5 : decode cX5_readThing 5 = .ok (.putfield 25, 3) := by decide +kernel
theorem dX5_readThing_8 : decode cX5_readThing 8 = .ok (.aload_n 0, 1) := by decide +kernel
theorem dX5_readThing_9 : decode cX5_readThing 9 = .ok (.getfield 25, 3) := by decide +kernel
theorem dX5_readThing_12 : decode cX5_readThing 12 = .ok (.lookupswitch 201 #[(46, 175), (112, 52), (115, 146), (116, 91), (118, 113)], 52) := by decide +kernel
theorem dX5_readThing_64 : decode cX5_readThing 64 = .ok (.aload_n 0, 1) := by decide +kernel
theorem dX5_readThing_65 : decode cX5_readThing 65 = .ok (.bipush 112, 2) := by decide +kernel
theorem dX5_readThing_67 : decode cX5_readThing 67 = .ok (.invokevirtual 50, 3) := by decide +kernel
theorem dX5_readThing_70 : decode cX5_readThing 70 = .ok (.ifCond .eq 31, 3) := by decide +kernel
theorem dX5_readThing_73 : decode cX5_readThing 73 = .ok (.aload_n 0, 1) := by decide +kernel
theorem dX5_readThing_74 : decode cX5_readThing 74 = .ok (.invokevirtual 58, 3) := by decide +kernel
theorem dX5_readThing_77 : decode cX5_readThing 77 = .ok (.ifCond .eq 24, 3) := by decide +kernel
theorem dX5_readThing_80 : decode cX5_readThing 80 = .ok (.aload_n 0, 1) := by decide +kernel
theorem dX5_readThing_81 : decode cX5_readThing 81 = .ok (.bipush 58, 2) := by decide +kernel
theorem dX5_readThing_83 : decode cX5_readThing 83 = .ok (.invokevirtual 50, 3) := by decide +kernel
theorem dX5_readThing_86 : decode cX5_readThing 86 = .ok (.ifCond .eq 15, 3) := by decide +kernel
theorem dX5_readThing_89 : decode cX5_readThing 89 = .ok (.aload_n 0, 1) := by decide +kernel
theorem dX5_readThing_90 : decode cX5_readThing 90 = .ok (.iconst 5, 1) := by decide +kernel
theorem dX5_readThing_91 : decode cX5_readThing 91 = .ok (.invokevirtual 61, 3) := by decide +kernel
theorem dX5_readThing_94 : decode cX5_readThing 94 = .ok (.ifCond .eq 7, 3) := by decide +kernel
theorem dX5_readThing_97 : decode cX5_readThing 97 = .ok (.iconst 1, 1) := by decide +kernel
theorem dX5_readThing_98 : decode cX5_readThing 98 = .ok (.goto 4, 3) := by decide +kernel
theorem dX5_readThing_101 : decode cX5_readThing 101 = .ok (.iconst 0, 1) := by decide +kernel
theorem dX5_readThing_102 : decode cX5_readThing 102 = .ok (.ireturn, 1) := by decide +kernel
theorem dX5_readThing_103 : decode cX5_readThing 103 = .ok (.aload_n 0, 1) := by decide +kernel
theorem dX5_readThing_104 : decode cX5_readThing 104 = .ok (.bipush 116, 2) := by decide +kernel
theorem dX5_readThing_106 : decode cX5_readThing 106 = .ok (.invokevirtual 50, 3) := by decide +kernel
theorem dX5_readThing_109 : decode cX5_readThing 109 = .ok (.ifCond .eq 14, 3) := by decide +kernel
theorem dX5_readThing_112 : decode cX5_readThing 112 = .ok (.aload_n 0, 1) := by decide +kernel
theorem dX5_readThing_113 : decode cX5_readThing 113 = .ok (.invokevirtual 58, 3) := by decide +kernel
theorem dX5_readThing_116 : decode cX5_readThing 116 = .ok (.ifCond .eq 7, 3) := by decide +kernel
theorem dX5_readThing_119 : decode cX5_readThing 119 = .ok (.iconst 1, 1) := by decide +kernel
theorem dX5_readThing_120 : decode cX5_readThing 120 = .ok (.goto 4, 3) := by decide +kernel
theorem dX5_readThing_123 : decode cX5_readThing 123 = .ok (.iconst 0, 1) := by decide +kernel
theorem dX5_readThing_124 : decode cX5_readThing 124 = .ok (.ireturn, 1) := by decide +kernel
theorem dX5_readThing_125 : decode cX5_readThing 125 = .ok (.aload_n 0, 1) := by decide +kernel
theorem dX5_readThing_126 : decode cX5_readThing 126 = .ok (.bipush 118, 2) := by decide +kernel
theorem dX5_readThing_128 : decode cX5_readThing 128 = .ok (.invokevirtual 50, 3) := by decide +kernel
theorem dX5_readThing_131 : decode cX5_readThing 131 = .ok (.ifCond .eq 25, 3) := by decide +kernel
theorem dX5_readThing_134 : decode cX5_readThing 134 = .ok (.aload_n 0, 1) := by decide +kernel
theorem dX5_readThing_135 : decode cX5_readThing 135 = .ok (.invokevirtual 65, 3) := by decide +kernel
theorem dX5_readThing_138 : decode cX5_readThing 138 = .ok (.ifCond .eq 18, 3) := by decide +kernel
theorem dX5_readThing_141 : decode cX5_readThing 141 = .ok (.aload_n 0, 1) := by decide +kernel
theorem dX5_readThing_142 : decode cX5_readThing 142 = .ok (.iconst 0, 1) := by decide +kernel
theorem dX5_readThing_143 : decode cX5_readThing 143 = .ok (.sipush 300, 3) := by decide +kernel
theorem dX5_readThing_146 : decode cX5_readThing 146 = .ok (.invokevirtual 68, 3) := by decide +kernel
theorem dX5_readThing_149 : decode cX5_readThing 149 = .ok (.ifCond .eq 7, 3) := by decide +kernel
theorem dX5_readThing_152 : decode cX5_readThing 152 = .ok (.iconst 1, 1) := by decide +kernel
theorem dX5_readThing_153 : decode cX5_readThing 153 = .ok (.goto 4, 3) := by decide +kernel
theorem dX5_readThing_156 : decode cX5_readThing 156 = .ok (.iconst 0, 1) := by decide +kernel
theorem dX5_readThing_157 : decode cX5_readThing 157 = .ok (.ireturn, 1) := by decide +kernel
theorem dX5_readThing_158 : decode cX5_readThing 158 = .ok (.aload_n 0, 1) := by decide +kernel
theorem dX5_readThing_159 : decode cX5_readThing 159 = .ok (.bipush 115, 2) := by decide +kernel
theorem dX5_readThing_161 : decode cX5_readThing 161 = .ok (.invokevirtual 50, 3) := by decide +kernel
theorem dX5_readThing_164 : decode cX5_readThing 164 = .ok (.ifCond .eq 21, 3) := by decide +kernel
theorem dX5_readThing_167 : decode cX5_readThing 167 = .ok (.aload_n 0, 1) := by decide +kernel
theorem dX5_readThing_168 : decode cX5_readThing 168 = .ok (.invokevirtual 65, 3) := by decide +kernel
theorem dX5_readThing_171 : decode cX5_readThing 171 = .ok (.ifCond .eq 14, 3) := by decide +kernel
theorem dX5_readThing_174 : decode cX5_readThing 174 = .ok (.aload_n 0, 1) := by decide +kernel
theorem dX5_readThing_175 : decode cX5_readThing 175 = .ok (.invokevirtual 72, 3) := by decide +kernel
theorem dX5_readThing_178 : decode cX5_readThing 178 = .ok (.ifCond .eq 7, 3) := by decide +kernel
theorem dX5_readThing_181 : decode cX5_readThing 181 = .ok (.iconst 1, 1) := by decide +kernel
theorem dX5_readThing_182 : decode cX5_readThing 182 = .ok (.goto 4, 3) := by decide +kernel
theorem dX5_readThing_185 : decode cX5_readThing 185 = .ok (.iconst 0, 1) := by decide +kernel
theorem dX5_readThing_186 : decode cX5_readThing 186 = .ok (.ireturn, 1) := by decide +kernel
theorem dX5_readThing_187 : decode cX5_readThing 187 = .ok (.aload_n 0, 1) := by decide +kernel
theorem dX5_readThing_188 : decode cX5_readThing 188 = .ok (.bipush 46, 2) := by decide +kernel
theorem dX5_readThing_190 : decode cX5_readThing 190 = .ok (.invokevirtual 50, 3) := by decide +kernel
theorem dX5_readThing_193 : decode cX5_readThing 193 = .ok (.ifCond .eq 18, 3) := by decide +kernel
theorem dX5_readThing_196 : decode cX5_readThing 196 = .ok (.aload_n 0, 1) := by decide +kernel
theorem dX5_readThing_197 : decode cX5_readThing 197 = .ok (.iconst 1, 1) := by decide +kernel
theorem dX5_readThing_198 : decode cX5_readThing 198 = .ok (.sipush 999, 3) := by decide +kernel
theorem dX5_readThing_201 : decode cX5_readThing 201 = .ok (.invokevirtual 68, 3) := by decide +kernel
theorem dX5_readThing_204 : decode cX5_readThing 204 = .ok (.ifCond .eq 7, 3) := by decide +kernel
theorem dX5_readThing_207 : decode cX5_readThing 207 = .ok (.iconst 1, 1) := by decide +kernel
theorem dX5_readThing_208 : decode cX5_readThing 208 = .ok (.goto 4, 3) := by decide +kernel
theorem dX5_readThing_211 : decode cX5_readThing 211 = .ok (.iconst 0, 1) := by decide +kernel
theorem dX5_readThing_212 : decode cX5_readThing 212 = .ok (.ireturn, 1) := by decide +kernel
theorem dX5_readThing_213 : decode cX5_readThing 213 = .ok (.iconst 0, 1) := by decide +kernel
theorem dX5_readThing_214 : decode cX5_readThing 214 = .ok (.ireturn, 1) := by decide +kernel
set_option maxRecDepth 20000 in
theorem ggX5_readSign_X5_current : GoodIn wsX5_readSign wsX5_current := goodIn_r _ [6, 1, 7, 8, 9, 10, 11, 12, 13, 14, 15, 16, 17, 18] (by decide +kernel) (by decide +kernel)
set_option maxRecDepth 20000 in
theorem gX5_readSign_X5_current : GoodIn wsX5_readSign (wsV RX5 54 RX5 yX5_current wsX5_current) := goodIn_app (goodIn_of _ (by decide +kernel)) ggX5_readSign_X5_current
theorem dX5_readSign_0 : decode cX5_readSign 0 = .ok (.aload_n 0, 1) := by decide +kernel
theorem dX5_readSign_1 : decode cX5_readSign 1 = .ok (.invokevirtual 54, 3) := by decide +kernel
theorem dX5_readSign_4 : decode cX5_readSign 4 = .ok (.iload_n 1, 1) := by decide +kernel
theorem dX5_readSign_5 : decode cX5_readSign 5 = .ok (.if_icmp .eq 5, 3) := by decide +kernel
theorem dX5_readSign_8 : decode cX5_readSign 8 = .ok (.iconst 0, 1) := by decide +kernel
theorem dX5_readSign_9 : decode cX5_readSign 9 = .ok (.ireturn, 1) := by decide +kernel
theorem dX5_readSign_10 : decode cX5_readSign 10 = .ok (.aload_n 0, 1) := by decide +kernel
theorem dX5_readSign_11 : decode cX5_readSign 11 = .ok (.dup, 1) := by decide +kernel
theorem dX5_readSign_12 : decode cX5_readSign 12 = .ok (.getfield 19, 3) := by decide +kernel
theorem dX5_readSign_15 : decode cX5_readSign 15 = .ok (.iconst 1, 1) := by decide +kernel
theorem dX5_readSign_16 : decode cX5_readSign 16 = .ok (.iadd, 1) := by decide +kernel
theorem dX5_readSign_17 : decode cX5_readSign 17 = .ok (.putfield 19, 3) := by decide +kernel
theorem dX5_readSign_20 : decode cX5_readSign 20 = .ok (.iconst 1, 1) := by decide +kernel
theorem dX5_readSign_21 : decode cX5_readSign 21 = .ok (.ireturn, 1) := by decide +kernel
theorem dX5_current_0 : decode cX5_current 0 = .ok (.aload_n 0, 1) := by decide +kernel
theorem dX5_current_1 : decode cX5_current 1 = .ok (.getfield 19, 3) := by decide +kernel
theorem dX5_current_4 : decode cX5_current 4 = .ok (.aload_n 0, 1) := by decide +kernel
theorem dX5_current_5 : decode cX5_current 5 = .ok (.getfield 9, 3) := by decide +kernel
theorem dX5_current_8 : decode cX5_current 8 = .ok (.if_icmp .ge 15, 3) := by decide +kernel
theorem dX5_current_11 : decode cX5_current 11 = .ok (.aload_n 0, 1) := by decide +kernel
theorem dX5_current_12 : decode cX5_current 12 = .ok (.getfield 15, 3) := by decide +kernel
theorem dX5_current_15 : decode cX5_current 15 = .ok (.aload_n 0, 1) := by decide +kernel
theorem dX5_current_16 : decode cX5_current 16 = .ok (.getfield 19, 3) := by decide +kernel
theorem dX5_current_19 : decode cX5_current 19 = .ok (.caload, 1) := by decide +kernel
theorem dX5_current_20 : decode cX5_current 20 = .ok (.goto 4, 3) := by decide +kernel
theorem dX5_current_23 : decode cX5_current 23 = .ok (.iconst (-1), 1) := by decide +kernel
theorem dX5_current_24 : decode cX5_current 24 = .ok (.ireturn, 1) := by decide +kernel
set_option maxRecDepth 20000 in
theorem ggX5_readSpot_X5_readRack : GoodIn wsX5_readSpot wsX5_readRack := goodIn_r _ [7, 1, 8, 9, 10, 11, 6, 12, 13, 14, 15, 16, 17, 18, 19, 20, 21, 22, 23, 24, 25, 26, 27, 28, 29, 30, 31, 32] (by decide +kernel) (by decide +kernel)
set_option maxRecDepth 20000 in
theorem gX5_readSpot_X5_readRack : GoodIn wsX5_readSpot (wsV RX5 75 RX5 yX5_readRack wsX5_readRack) := goodIn_app (goodIn_of _ (by decide +kernel)) ggX5_readSpot_X5_readRack
set_option maxRecDepth 20000 in
theorem ggX5_readSpot_X5_readDigit : GoodIn wsX5_readSpot wsX5_readDigit := goodIn_r _ [12, 1, 13, 14, 15, 16, 6, 17, 18, 19, 20, 21, 22, 23, 24, 25, 26, 27, 28, 29, 30, 31, 32] (by decide +kernel) (by decide +kernel)
set_option maxRecDepth 20000 in
theorem gX5_readSpot_X5_readDigit : GoodIn wsX5_readSpot (wsV RX5 61 RX5 yX5_readDigit wsX5_readDigit) := goodIn_app (goodIn_of _ (by decide +kernel)) ggX5_readSpot_X5_readDigit
theorem dX5_readSpot_0 : decode cX5_readSpot 0 = .ok (.aload_n 0, 1) := by decide +kernel
theorem dX5_readSpot_1 : decode cX5_readSpot 1 = .ok (.invokevirtual 75, 3) := by decide +kernel
theorem dX5_readSpot_4 : decode cX5_readSpot 4 = .ok (.ifCond .eq 12, 3) := by decide +kernel
theorem dX5_readSpot_7 : decode cX5_readSpot 7 = .ok (.aload_n 0, 1) := by decide +kernel
theorem dX5_readSpot_8 : decode cX5_readSpot 8 = .ok (.bipush 7, 2) := by decide +kernel
theorem dX5_readSpot_10 : decode cX5_readSpot 10 = .ok (.invokevirtual 61, 3) := by decide +kernel
theorem dX5_readSpot_13 : decode cX5_readSpot 13 = .ok (.ifCond .ne 5, 3) := by decide +kernel
theorem dX5_readSpot_16 : decode cX5_readSpot 16 = .ok (.iconst 0, 1) := by decide +kernel
theorem dX5_readSpot_17 : decode cX5_readSpot 17 = .ok (.ireturn, 1) := by decide +kernel
theorem dX5_readSpot_18 : decode cX5_readSpot 18 = .ok (.aload_n 0, 1) := by decide +kernel
theorem dX5_readSpot_19 : decode cX5_readSpot 19 = .ok (.aload_n 0, 1) := by decide +kernel
theorem dX5_readSpot_20 : decode cX5_readSpot 20 = .ok (.getfield 40, 3) := by decide +kernel
theorem dX5_readSpot_23 : decode cX5_readSpot 23 = .ok (.putfield 31, 3) := by decide +kernel
theorem dX5_readSpot_26 : decode cX5_readSpot 26 = .ok (.iconst 1, 1) := by decide +kernel
theorem dX5_readSpot_27 : decode cX5_readSpot 27 = .ok (.ireturn, 1) := by decide +kernel
set_option maxRecDepth 20000 in
theorem ggX5_readRackAndColon_X5_readRack : GoodIn wsX5_readRackAndColon wsX5_readRack := goodIn_r _ [5, 6, 7, 8, 9, 10, 4, 11, 12, 13, 14, 15, 16, 17, 18, 19, 20, 21, 26, 27, 28, 29, 30, 31, 32, 33, 34, 35] (by decide +kernel) (by decide +kernel)
set_option maxRecDepth 20000 in
theorem gX5_readRackAndColon_X5_readRack : GoodIn wsX5_readRackAndColon (wsV RX5 75 RX5 yX5_readRack wsX5_readRack) := goodIn_app (goodIn_of _ (by decide +kernel)) ggX5_readRackAndColon_X5_readRack
set_option maxRecDepth 20000 in
theorem ggX5_readRackAndColon_X5_readSign : GoodIn wsX5_readRackAndColon wsX5_readSign := goodIn_r _ [25, 12, 13, 14, 15, 4, 16, 17, 18, 26, 27, 28, 29, 30, 31, 32, 33, 34, 35] (by decide +kernel) (by decide +kernel)
set_option maxRecDepth 20000 in
theorem gX5_readRackAndColon_X5_readSign : GoodIn wsX5_readRackAndColon (wsV RX5 50 RX5 yX5_readSign wsX5_readSign) := goodIn_app (goodIn_of _ (by decide +kernel)) ggX5_readRackAndColon_X5_readSign
theorem dX5_readRackAndColon_0 : decode cX5_readRackAndColon 0 = .ok (.aload_n 0, 1) := by decide +kernel
theorem dX5_readRackAndColon_1 : decode cX5_readRackAndColon 1 = .ok (.invokevirtual 75, 3) := by decide +kernel
theorem dX5_readRackAndColon_4 : decode cX5_readRackAndColon 4 = .ok (.ifCond .eq 16, 3) := by decide +kernel
theorem dX5_readRackAndColon_7 : decode cX5_readRackAndColon 7 = .ok (.aload_n 0, 1) := by decide +kernel
theorem dX5_readRackAndColon_8 : decode cX5_readRackAndColon 8 = .ok (.bipush 58, 2) := by decide +kernel
theorem dX5_readRackAndColon_10 : decode cX5_readRackAndColon 10 = .ok (.invokevirtual 50, 3) := by decide +kernel
theorem dX5_readRackAndColon_13 : decode cX5_readRackAndColon 13 = .ok (.ifCond .eq 7, 3) := by decide +kernel
theorem dX5_readRackAndColon_16 : decode cX5_readRackAndColon 16 = .ok (.iconst 1, 1) := by decide +kernel
theorem dX5_readRackAndColon_17 : decode cX5_readRackAndColon 17 = .ok (.goto 4, 3) := by decide +kernel
theorem dX5_readRackAndColon_20 : decode cX5_readRackAndColon 20 = .ok (.iconst 0, 1) := by decide +kernel
theorem dX5_readRackAndColon_21 : decode cX5_readRackAndColon 21 = .ok (.ireturn, 1) := by decide +kernel
set_option maxRecDepth 20000 in
theorem ggX5_readRack_X5_readDigit : GoodIn wsX5_readRack wsX5_readDigit := goodIn_r _ [7, 1, 8, 9, 10, 11, 6, 12, 13, 14, 15, 16, 17, 18, 19, 20, 21, 22, 23, 24, 25, 26, 27] (by decide +kernel) (by decide +kernel)
set_option maxRecDepth 20000 in
theorem gX5_readRack_X5_readDigit : GoodIn wsX5_readRack (wsV RX5 61 RX5 yX5_readDigit wsX5_readDigit) := goodIn_app (goodIn_of _ (by decide +kernel)) ggX5_readRack_X5_readDigit
theorem dX5_readRack_0 : decode cX5_readRack 0 = .ok (.aload_n 0, 1) := by decide +kernel
theorem dX5_readRack_1 : decode cX5_readRack 1 = .ok (.iconst 2, 1) := by decide +kernel
theorem dX5_readRack_2 : decode cX5_readRack 2 = .ok (.invokevirtual 61, 3) := by decide +kernel
theorem dX5_readRack_5 : decode cX5_readRack 5 = .ok (.ifCond .ne 5, 3) := by decide +kernel
theorem dX5_readRack_8 : decode cX5_readRack 8 = .ok (.iconst 0, 1) := by decide +kernel
theorem dX5_readRack_9 : decode cX5_readRack 9 = .ok (.ireturn, 1) := by decide +kernel
theorem dX5_readRack_10 : decode cX5_readRack 10 = .ok (.aload_n 0, 1) := by decide +kernel
theorem dX5_readRack_11 : decode cX5_readRack 11 = .ok (.aload_n 0, 1) := by decide +kernel
theorem dX5_readRack_12 : decode cX5_readRack 12 = .ok (.getfield 40, 3) := by decide +kernel
theorem dX5_readRack_15 : decode cX5_readRack 15 = .ok (.putfield 28, 3) := by decide +kernel
theorem dX5_readRack_18 : decode cX5_readRack 18 = .ok (.iconst 1, 1) := by decide +kernel
theorem dX5_readRack_19 : decode cX5_readRack 19 = .ok (.ireturn, 1) := by decide +kernel
set_option maxRecDepth 20000 in
theorem ggX5_readSteps_X5_readNumber : GoodIn wsX5_readSteps wsX5_readNumber := goodIn_r _ [7, 1, 8, 9, 10, 11, 12, 6, 13, 14, 15, 16, 17, 18, 19, 20, 21, 31, 32, 33, 34, 35, 36, 37, 38, 39, 40] (by decide +kernel) (by decide +kernel)
set_option maxRecDepth 20000 in
theorem gX5_readSteps_X5_readNumber : GoodIn wsX5_readSteps (wsV RX5 68 RX5 yX5_readNumber wsX5_readNumber) := goodIn_app (goodIn_of _ (by decide +kernel)) ggX5_readSteps_X5_readNumber
set_option maxRecDepth 20000 in
theorem ggX5_readSteps_X5_readDirection : GoodIn wsX5_readSteps wsX5_readDirection := goodIn_r _ [25, 26, 10, 11, 12, 6, 13, 8, 9, 14, 27, 28, 29, 30, 31, 32, 33, 34, 35, 36, 37, 38, 39, 40] (by decide +kernel) (by decide +kernel)
set_option maxRecDepth 20000 in
theorem gX5_readSteps_X5_readDirection : GoodIn wsX5_readSteps (wsV RX5 78 RX5 yX5_readDirection wsX5_readDirection) := goodIn_app (goodIn_of _ (by decide +kernel)) ggX5_readSteps_X5_readDirection
theorem dX5_readSteps_0 : decode cX5_readSteps 0 = .ok (.aload_n 0, 1) := by decide +kernel
theorem dX5_readSteps_1 : decode cX5_readSteps 1 = .ok (.iconst 0, 1) := by decide +kernel
theorem dX5_readSteps_2 : decode cX5_readSteps 2 = .ok (.bipush 99, 2) := by decide +kernel
theorem dX5_readSteps_4 : decode cX5_readSteps 4 = .ok (.invokevirtual 68, 3) := by decide +kernel
theorem dX5_readSteps_7 : decode cX5_readSteps 7 = .ok (.ifCond .ne 5, 3) := by decide +kernel
theorem dX5_readSteps_10 : decode cX5_readSteps 10 = .ok (.iconst 0, 1) := by decide +kernel
theorem dX5_readSteps_11 : decode cX5_readSteps 11 = .ok (.ireturn, 1) := by decide +kernel
theorem dX5_readSteps_12 : decode cX5_readSteps 12 = .ok (.aload_n 0, 1) := by decide +kernel
theorem dX5_readSteps_13 : decode cX5_readSteps 13 = .ok (.aload_n 0, 1) := by decide +kernel
theorem dX5_readSteps_14 : decode cX5_readSteps 14 = .ok (.getfield 40, 3) := by decide +kernel
theorem dX5_readSteps_17 : decode cX5_readSteps 17 = .ok (.putfield 34, 3) := by decide +kernel
theorem dX5_readSteps_20 : decode cX5_readSteps 20 = .ok (.aload_n 0, 1) := by decide +kernel
theorem dX5_readSteps_21 : decode cX5_readSteps 21 = .ok (.invokevirtual 78, 3) := by decide +kernel
theorem dX5_readSteps_24 : decode cX5_readSteps 24 = .ok (.ifCond .eq 17, 3) := by decide +kernel
theorem dX5_readSteps_27 : decode cX5_readSteps 27 = .ok (.aload_n 0, 1) := by decide +kernel
theorem dX5_readSteps_28 : decode cX5_readSteps 28 = .ok (.iconst 0, 1) := by decide +kernel
theorem dX5_readSteps_29 : decode cX5_readSteps 29 = .ok (.bipush 50, 2) := by decide +kernel
theorem dX5_readSteps_31 : decode cX5_readSteps 31 = .ok (.invokevirtual 68, 3) := by decide +kernel
theorem dX5_readSteps_34 : decode cX5_readSteps 34 = .ok (.ifCond .eq 7, 3) := by decide +kernel
theorem dX5_readSteps_37 : decode cX5_readSteps 37 = .ok (.iconst 1, 1) := by decide +kernel
theorem dX5_readSteps_38 : decode cX5_readSteps 38 = .ok (.goto 4, 3) := by decide +kernel
theorem dX5_readSteps_41 : decode cX5_readSteps 41 = .ok (.iconst 0, 1) := by decide +kernel
theorem dX5_readSteps_42 : decode cX5_readSteps 42 = .ok (.ireturn, 1) := by decide +kernel
set_option maxRecDepth 20000 in
theorem ggX5_readDirection_X5_current : GoodIn wsX5_readDirection wsX5_current := goodIn_r _ [6, 7, 8, 9, 14, 15, 16, 17, 18, 19, 20, 21, 22, 23] (by decide +kernel) (by decide +kernel)
set_option maxRecDepth 20000 in
theorem gX5_readDirection_X5_current : GoodIn wsX5_readDirection (wsV RX5 54 RX5 yX5_current wsX5_current) := goodIn_app (goodIn_of _ (by decide +kernel)) ggX5_readDirection_X5_current
set_option maxRecDepth 20000 in
theorem ggX5_readDirection_X5_readSign : GoodIn wsX5_readDirection wsX5_readSign := goodIn_r _ [13, 7, 2, 3, 4, 5, 6, 8, 9, 14, 15, 16, 17, 18, 19, 20, 21, 22, 23] (by decide +kernel) (by decide +kernel)
set_option maxRecDepth 20000 in
theorem gX5_readDirection_X5_readSign : GoodIn wsX5_readDirection (wsV RX5 50 RX5 yX5_readSign wsX5_readSign) := goodIn_app (goodIn_of _ (by decide +kernel)) ggX5_readDirection_X5_readSign
theorem dX5_readDirection_0 : decode cX5_readDirection 0 = .ok (.aload_n 0, 1) := by decide +kernel
theorem dX5_readDirection_1 : decode cX5_readDirection 1 = .ok (.aload_n 0, 1) := by decide +kernel
theorem dX5_readDirection_2 : decode cX5_readDirection 2 = .ok (.invokevirtual 54, 3) := by decide +kernel
theorem dX5_readDirection_5 : decode cX5_readDirection 5 = .ok (.bipush 45, 2) := by decide +kernel
theorem dX5_readDirection_7 : decode cX5_readDirection 7 = .ok (.if_icmp .ne 7, 3) := by decide +kernel
theorem dX5_readDirection_10 : decode cX5_readDirection 10 = .ok (.iconst (-1), 1) := by decide +kernel
theorem dX5_readDirection_11 : decode cX5_readDirection 11 = .ok (.goto 4, 3) := by decide +kernel
theorem dX5_readDirection_14 : decode cX5_readDirection 14 = .ok (.iconst 1, 1) := by decide +kernel
theorem dX5_readDirection_15 : decode cX5_readDirection 15 = .ok (.putfield 37, 3) := by decide +kernel
theorem dX5_readDirection_18 : decode cX5_readDirection 18 = .ok (.aload_n 0, 1) := by decide +kernel
theorem dX5_readDirection_19 : decode cX5_readDirection 19 = .ok (.bipush 45, 2) := by decide +kernel
theorem dX5_readDirection_21 : decode cX5_readDirection 21 = .ok (.invokevirtual 50, 3) := by decide +kernel
theorem dX5_readDirection_24 : decode cX5_readDirection 24 = .ok (.ifCond .ne 12, 3) := by decide +kernel
theorem dX5_readDirection_27 : decode cX5_readDirection 27 = .ok (.aload_n 0, 1) := by decide +kernel
theorem dX5_readDirection_28 : decode cX5_readDirection 28 = .ok (.bipush 43, 2) := by decide +kernel
theorem dX5_readDirection_30 : decode cX5_readDirection 30 = .ok (.invokevirtual 50, 3) := by decide +kernel
theorem dX5_readDirection_33 : decode cX5_readDirection 33 = .ok (.ifCond .eq 7, 3) := by decide +kernel
theorem dX5_readDirection_36 : decode cX5_readDirection 36 = .ok (.iconst 1, 1) := by decide +kernel
theorem dX5_readDirection_37 : decode cX5_readDirection 37 = .ok (.goto 4, 3) := by decide +kernel
theorem dX5_readDirection_40 : decode cX5_readDirection 40 = .ok (.iconst 0, 1) := by decide +kernel
theorem dX5_readDirection_41 : decode cX5_readDirection 41 = .ok (.ireturn, 1) := by decide +kernel
set_option maxRecDepth 20000 in
theorem ggX5_readDigit_X5_current : GoodIn wsX5_readDigit wsX5_current := goodIn_r _ [7, 2, 8, 9, 13, 14, 15, 16, 17, 18, 19, 20, 21, 22] (by decide +kernel) (by decide +kernel)
set_option maxRecDepth 20000 in
theorem gX5_readDigit_X5_current : GoodIn wsX5_readDigit (wsV RX5 54 RX5 yX5_current wsX5_current) := goodIn_app (goodIn_of _ (by decide +kernel)) ggX5_readDigit_X5_current
set_option maxRecDepth 20000 in
theorem ggX5_readDigit_X6_isWithin : GoodIn wsX5_readDigit wsX6_isWithin := goodIn_r _ [12] (by decide +kernel) (by decide +kernel)
set_option maxRecDepth 20000 in
theorem gX5_readDigit_X6_isWithin_n81 : GoodIn wsX5_readDigit (wsX6_isWithin) := ggX5_readDigit_X6_isWithin
theorem dX5_readDigit_0 : decode cX5_readDigit 0 = .ok (.aload_n 0, 1) := by decide +kernel
theorem dX5_readDigit_1 : decode cX5_readDigit 1 = .ok (.invokevirtual 54, 3) := by decide +kernel
theorem dX5_readDigit_4 : decode cX5_readDigit 4 = .ok (.bipush 48, 2) := by decide +kernel
theorem dX5_readDigit_6 : decode cX5_readDigit 6 = .ok (.bipush 48, 2) := by decide +kernel
theorem dX5_readDigit_8 : decode cX5_readDigit 8 = .ok (.iload_n 1, 1) := by decide +kernel
theorem dX5_readDigit_9 : decode cX5_readDigit 9 = .ok (.iadd, 1) := by decide +kernel
theorem dX5_readDigit_10 : decode cX5_readDigit 10 = .ok (.invokestatic 81, 3) := by decide +kernel
theorem dX5_readDigit_13 : decode cX5_readDigit 13 = .ok (.ifCond .ne 5, 3) := by decide +kernel
theorem dX5_readDigit_16 : decode cX5_readDigit 16 = .ok (.iconst 0, 1) := by decide +kernel
theorem dX5_readDigit_17 : decode cX5_readDigit 17 = .ok (.ireturn, 1) := by decide +kernel
theorem dX5_readDigit_18 : decode cX5_readDigit 18 = .ok (.aload_n 0, 1) := by decide +kernel
theorem dX5_readDigit_19 : decode cX5_readDigit 19 = .ok (.aload_n 0, 1) := by decide +kernel
theorem dX5_readDigit_20 : decode cX5_readDigit 20 = .ok (.invokevirtual 54, 3) := by decide +kernel
theorem dX5_readDigit_23 : decode cX5_readDigit 23 = .ok (.bipush 48, 2) := by decide +kernel
theorem dX5_readDigit_25 : decode cX5_readDigit 25 = .ok (.isub, 1) := by decide +kernel
theorem dX5_readDigit_26 : decode cX5_readDigit 26 = .ok (.putfield 40, 3) := by decide +kernel
theorem dX5_readDigit_29 : decode cX5_readDigit 29 = .ok (.aload_n 0, 1) := by decide +kernel
theorem dX5_readDigit_30 : decode cX5_readDigit 30 = .ok (.dup, 1) := by decide +kernel
theorem dX5_readDigit_31 : decode cX5_readDigit 31 = .ok (.getfield 19, 3) := by decide +kernel
theorem dX5_readDigit_34 : decode cX5_readDigit 34 = .ok (.iconst 1, 1) := by decide +kernel
theorem dX5_readDigit_35 : decode cX5_readDigit 35 = .ok (.iadd, 1) := by decide +kernel
theorem dX5_readDigit_36 : decode cX5_readDigit 36 = .ok (.putfield 19, 3) := by decide +kernel
theorem dX5_readDigit_39 : decode cX5_readDigit 39 = .ok (.iconst 1, 1) := by decide +kernel
theorem dX5_readDigit_40 : decode cX5_readDigit 40 = .ok (.ireturn, 1) := by decide +kernel
set_option maxRecDepth 20000 in
theorem ggX5_readNumber_X5_current : GoodIn wsX5_readNumber wsX5_current := goodIn_r _ [8, 2, 3, 9, 17, 18, 19, 20, 21, 22, 23, 24, 25, 26] (by decide +kernel) (by decide +kernel)
set_option maxRecDepth 20000 in
theorem gX5_readNumber_X5_current : GoodIn wsX5_readNumber (wsV RX5 54 RX5 yX5_current wsX5_current) := goodIn_app (goodIn_of _ (by decide +kernel)) ggX5_readNumber_X5_current
set_option maxRecDepth 20000 in
theorem ggX5_readNumber_X6_isWithin : GoodIn wsX5_readNumber wsX6_isWithin := goodIn_r _ [12] (by decide +kernel) (by decide +kernel)
set_option maxRecDepth 20000 in
theorem gX5_readNumber_X6_isWithin_n81 : GoodIn wsX5_readNumber (wsX6_isWithin) := ggX5_readNumber_X6_isWithin
set_option maxRecDepth 20000 in
theorem ggX5_readNumber_X5_isNextDigit : GoodIn wsX5_readNumber wsX5_isNextDigit := goodIn_r _ [16, 1, 4, 5, 6, 7, 8, 2, 3, 9, 10, 11, 12, 17, 18, 19, 20, 21, 22, 23, 24, 25, 26] (by decide +kernel) (by decide +kernel)
set_option maxRecDepth 20000 in
theorem gX5_readNumber_X5_isNextDigit : GoodIn wsX5_readNumber (wsV RX5 85 RX5 yX5_isNextDigit wsX5_isNextDigit) := goodIn_app (goodIn_of _ (by decide +kernel)) ggX5_readNumber_X5_isNextDigit
theorem dX5_readNumber_0 : decode cX5_readNumber 0 = .ok (.aload_n 0, 1) := by decide +kernel
theorem dX5_readNumber_1 : decode cX5_readNumber 1 = .ok (.invokevirtual 54, 3) := by decide +kernel
theorem dX5_readNumber_4 : decode cX5_readNumber 4 = .ok (.bipush 48, 2) := by decide +kernel
theorem dX5_readNumber_6 : decode cX5_readNumber 6 = .ok (.iload_n 1, 1) := by decide +kernel
theorem dX5_readNumber_7 : decode cX5_readNumber 7 = .ok (.iadd, 1) := by decide +kernel
theorem dX5_readNumber_8 : decode cX5_readNumber 8 = .ok (.bipush 57, 2) := by decide +kernel
theorem dX5_readNumber_10 : decode cX5_readNumber 10 = .ok (.invokestatic 81, 3) := by decide +kernel
theorem dX5_readNumber_13 : decode cX5_readNumber 13 = .ok (.ifCond .ne 5, 3) := by decide +kernel
theorem dX5_readNumber_16 : decode cX5_readNumber 16 = .ok (.iconst 0, 1) := by decide +kernel
theorem dX5_readNumber_17 : decode cX5_readNumber 17 = .ok (.ireturn, 1) := by decide +kernel
theorem dX5_readNumber_18 : decode cX5_readNumber 18 = .ok (.aload_n 0, 1) := by decide +kernel
theorem dX5_readNumber_19 : decode cX5_readNumber 19 = .ok (.aload_n 0, 1) := by decide +kernel
theorem dX5_readNumber_20 : decode cX5_readNumber 20 = .ok (.invokevirtual 54, 3) := by decide +kernel
theorem dX5_readNumber_23 : decode cX5_readNumber 23 = .ok (.bipush 48, 2) := by decide +kernel
theorem dX5_readNumber_25 : decode cX5_readNumber 25 = .ok (.isub, 1) := by decide +kernel
theorem dX5_readNumber_26 : decode cX5_readNumber 26 = .ok (.putfield 40, 3) := by decide +kernel
theorem dX5_readNumber_29 : decode cX5_readNumber 29 = .ok (.aload_n 0, 1) := by decide +kernel
theorem dX5_readNumber_30 : decode cX5_readNumber 30 = .ok (.dup, 1) := by decide +kernel
theorem dX5_readNumber_31 : decode cX5_readNumber 31 = .ok (.getfield 19, 3) := by decide +kernel
theorem dX5_readNumber_34 : decode cX5_readNumber 34 = .ok (.iconst 1, 1) := by decide +kernel
theorem dX5_readNumber_35 : decode cX5_readNumber 35 = .ok (.iadd, 1) := by decide +kernel
theorem dX5_readNumber_36 : decode cX5_readNumber 36 = .ok (.putfield 19, 3) := by decide +kernel
theorem dX5_readNumber_39 : decode cX5_readNumber 39 = .ok (.aload_n 0, 1) := by decide +kernel
theorem dX5_readNumber_40 : decode cX5_readNumber 40 = .ok (.getfield 19, 3) := by decide +kernel
theorem dX5_readNumber_43 : decode cX5_readNumber 43 = .ok (.aload_n 0, 1) := by decide +kernel
theorem dX5_readNumber_44 : decode cX5_readNumber 44 = .ok (.getfield 9, 3) := by decide +kernel
theorem dX5_readNumber_47 : decode cX5_readNumber 47 = .ok (.if_icmp .ge 50, 3) := by decide +kernel
theorem dX5_readNumber_50 : decode cX5_readNumber 50 = .ok (.aload_n 0, 1) := by decide +kernel
theorem dX5_readNumber_51 : decode cX5_readNumber 51 = .ok (.getfield 40, 3) := by decide +kernel
theorem dX5_readNumber_54 : decode cX5_readNumber 54 = .ok (.ifCond .le 43, 3) := by decide +kernel
theorem dX5_readNumber_57 : decode cX5_readNumber 57 = .ok (.aload_n 0, 1) := by decide +kernel
theorem dX5_readNumber_58 : decode cX5_readNumber 58 = .ok (.iload_n 2, 1) := by decide +kernel
theorem dX5_readNumber_59 : decode cX5_readNumber 59 = .ok (.invokevirtual 85, 3) := by decide +kernel
theorem dX5_readNumber_62 : decode cX5_readNumber 62 = .ok (.ifCond .eq 35, 3) := by decide +kernel
theorem dX5_readNumber_65 : decode cX5_readNumber 65 = .ok (.aload_n 0, 1) := by decide +kernel
theorem dX5_readNumber_66 : decode cX5_readNumber 66 = .ok (.bipush 10, 2) := by decide +kernel
theorem dX5_readNumber_68 : decode cX5_readNumber 68 = .ok (.aload_n 0, 1) := by decide +kernel
theorem dX5_readNumber_69 : decode cX5_readNumber 69 = .ok (.getfield 40, 3) := by decide +kernel
theorem dX5_readNumber_72 : decode cX5_readNumber 72 = .ok (.imul, 1) := by decide +kernel
theorem dX5_readNumber_73 : decode cX5_readNumber 73 = .ok (.aload_n 0, 1) := by decide +kernel
theorem dX5_readNumber_74 : decode cX5_readNumber 74 = .ok (.invokevirtual 54, 3) := by decide +kernel
theorem dX5_readNumber_77 : decode cX5_readNumber 77 = .ok (.iadd, 1) := by decide +kernel
theorem dX5_readNumber_78 : decode cX5_readNumber 78 = .ok (.bipush 48, 2) := by decide +kernel
theorem dX5_readNumber_80 : decode cX5_readNumber 80 = .ok (.isub, 1) := by decide +kernel
theorem dX5_readNumber_81 : decode cX5_readNumber 81 = .ok (.putfield 40, 3) := by decide +kernel
theorem dX5_readNumber_84 : decode cX5_readNumber 84 = .ok (.aload_n 0, 1) := by decide +kernel
theorem dX5_readNumber_85 : decode cX5_readNumber 85 = .ok (.dup, 1) := by decide +kernel
theorem dX5_readNumber_86 : decode cX5_readNumber 86 = .ok (.getfield 19, 3) := by decide +kernel
theorem dX5_readNumber_89 : decode cX5_readNumber 89 = .ok (.iconst 1, 1) := by decide +kernel
theorem dX5_readNumber_90 : decode cX5_readNumber 90 = .ok (.iadd, 1) := by decide +kernel
theorem dX5_readNumber_91 : decode cX5_readNumber 91 = .ok (.putfield 19, 3) := by decide +kernel
theorem dX5_readNumber_94 : decode cX5_readNumber 94 = .ok (.goto (-55), 3) := by decide +kernel
theorem dX5_readNumber_97 : decode cX5_readNumber 97 = .ok (.iconst 1, 1) := by decide +kernel
theorem dX5_readNumber_98 : decode cX5_readNumber 98 = .ok (.ireturn, 1) := by decide +kernel
set_option maxRecDepth 20000 in
theorem ggX5_isNextDigit_X5_current : GoodIn wsX5_isNextDigit wsX5_current := goodIn_r _ [6, 7, 8, 9, 13, 14, 15, 16, 17, 18, 19, 20, 21, 22] (by decide +kernel) (by decide +kernel)
set_option maxRecDepth 20000 in
theorem gX5_isNextDigit_X5_current : GoodIn wsX5_isNextDigit (wsV RX5 54 RX5 yX5_current wsX5_current) := goodIn_app (goodIn_of _ (by decide +kernel)) ggX5_isNextDigit_X5_current
set_option maxRecDepth 20000 in
theorem ggX5_isNextDigit_X6_isWithin : GoodIn wsX5_isNextDigit wsX6_isWithin := goodIn_r _ [12] (by decide +kernel) (by decide +kernel)
set_option maxRecDepth 20000 in
theorem gX5_isNextDigit_X6_isWithin_n81 : GoodIn wsX5_isNextDigit (wsX6_isWithin) := ggX5_isNextDigit_X6_isWithin
theorem dX5_isNextDigit_0 : decode cX5_isNextDigit 0 = .ok (.aload_n 0, 1) := by decide +kernel
theorem dX5_isNextDigit_1 : decode cX5_isNextDigit 1 = .ok (.invokevirtual 54, 3) := by decide +kernel
theorem dX5_isNextDigit_4 : decode cX5_isNextDigit 4 = .ok (.bipush 48, 2) := by decide +kernel
theorem dX5_isNextDigit_6 : decode cX5_isNextDigit 6 = .ok (.bipush 57, 2) := by decide +kernel
theorem dX5_isNextDigit_8 : decode cX5_isNextDigit 8 = .ok (.invokestatic 81, 3) := by decide +kernel
theorem dX5_isNextDigit_11 : decode cX5_isNextDigit 11 = .ok (.ifCond .eq 26, 3) := by decide +kernel
theorem dX5_isNextDigit_14 : decode cX5_isNextDigit 14 = .ok (.bipush 10, 2) := by decide +kernel
theorem dX5_isNextDigit_16 : decode cX5_isNextDigit 16 = .ok (.aload_n 0, 1) := by decide +kernel
theorem dX5_isNextDigit_17 : decode cX5_isNextDigit 17 = .ok (.getfield 40, 3) := by decide +kernel
theorem dX5_isNextDigit_20 : decode cX5_isNextDigit 20 = .ok (.imul, 1) := by decide +kernel
theorem dX5_isNextDigit_21 : decode cX5_isNextDigit 21 = .ok (.aload_n 0, 1) := by decide +kernel
theorem dX5_isNextDigit_22 : decode cX5_isNextDigit 22 = .ok (.invokevirtual 54, 3) := by decide +kernel
theorem dX5_isNextDigit_25 : decode cX5_isNextDigit 25 = .ok (.iadd, 1) := by decide +kernel
theorem dX5_isNextDigit_26 : decode cX5_isNextDigit 26 = .ok (.bipush 48, 2) := by decide +kernel
theorem dX5_isNextDigit_28 : decode cX5_isNextDigit 28 = .ok (.isub, 1) := by decide +kernel
theorem dX5_isNextDigit_29 : decode cX5_isNextDigit 29 = .ok (.iload_n 1, 1) := by decide +kernel
theorem dX5_isNextDigit_30 : decode cX5_isNextDigit 30 = .ok (.if_icmp .gt 7, 3) := by decide +kernel
theorem dX5_isNextDigit_33 : decode cX5_isNextDigit 33 = .ok (.iconst 1, 1) := by decide +kernel
theorem dX5_isNextDigit_34 : decode cX5_isNextDigit 34 = .ok (.goto 4, 3) := by decide +kernel
theorem dX5_isNextDigit_37 : decode cX5_isNextDigit 37 = .ok (.iconst 0, 1) := by decide +kernel
theorem dX5_isNextDigit_38 : decode cX5_isNextDigit 38 = .ok (.ireturn, 1) := by decide +kernel
