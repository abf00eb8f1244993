set_option maxRecDepth 20000 in
theorem ggX6_init_X4_init : GoodIn wsX6_init wsX4_init := goodIn_r _ [23, 24, 2, 3, 25, 26, 27, 28, 29, 30, 31, 32, 33, 34, 35, 36, 37, 38, 39, 40, 41, 42, 43, 44, 45, 46, 47, 48, 49, 50, 51, 52, 53, 54, 55, 56, 57, 58, 59, 60, 61, 62, 63, 64, 65, 66, 67, 68, 69, 91, 92, 93, 94, 95, 96, 118, 119, 120, 121, 122, 123, 124, 125, 126, 127, 128, 129, 130, 131] (by decide +kernel) (by decide +kernel)
set_option maxRecDepth 20000 in
theorem gX6_init_X4_init_n9 : GoodIn wsX6_init (wsX4_init) := ggX6_init_X4_init
set_option maxRecDepth 20000 in
theorem ggX6_init_X1_init : GoodIn wsX6_init wsX1_init := goodIn_r _ [72, 73, 2, 3, 74, 75, 76, 5, 6, 22, 23, 24, 25, 26, 27, 28, 29, 30, 31, 32, 33, 34, 35, 36, 37, 38, 39, 40, 41, 42, 43, 44, 45, 46, 47, 48, 49, 50, 51, 52, 53, 54, 55, 56, 57, 58, 59, 60, 61, 62, 63, 64, 65, 66, 67, 68, 69, 106, 107, 91, 92, 93, 94, 95, 96, 118, 119, 120, 121, 122, 123, 124, 125, 126, 127, 128, 129, 130, 131] (by decide +kernel) (by decide +kernel)
set_option maxRecDepth 20000 in
theorem gX6_init_X1_init : GoodIn wsX6_init (wsX1_init) := ggX6_init_X1_init
set_option maxRecDepth 20000 in
theorem ggX6_init_X5_init : GoodIn wsX6_init wsX5_init := goodIn_r _ [78, 79, 2, 3, 80, 81, 82, 83, 84, 85, 86, 87, 88, 89, 90, 108, 109, 110, 111, 112, 113, 114, 115, 116, 117] (by decide +kernel) (by decide +kernel)
set_option maxRecDepth 20000 in
theorem gX6_init_X5_init_n38 : GoodIn wsX6_init (wsX5_init) := ggX6_init_X5_init
theorem dX6_init_0 : decode cX6_init 0 = .ok (.aload_n 0, 1) := by decide +kernel
theorem dX6_init_1 : decode cX6_init 1 = .ok (.invokespecial 1, 3) := by decide +kernel
theorem dX6_init_4 : decode cX6_init 4 = .ok (.aload_n 0, 1) := by decide +kernel
theorem dX6_init_5 : decode cX6_init 5 = .ok (.new 7, 3) := by decide +kernel
theorem dX6_init_8 : decode cX6_init 8 = .ok (.dup, 1) := by decide +kernel
theorem dX6_init_9 : decode cX6_init 9 = .ok (.invokespecial 9, 3) := by decide +kernel
theorem dX6_init_12 : decode cX6_init 12 = .ok (.putfield 10, 3) := by decide +kernel
theorem dX6_init_15 : decode cX6_init 15 = .ok (.aload_n 0, 1) := by decide +kernel
theorem dX6_init_16 : decode cX6_init 16 = .ok (.new 7, 3) := by decide +kernel
theorem dX6_init_19 : decode cX6_init 19 = .ok (.dup, 1) := by decide +kernel
theorem dX6_init_20 : decode cX6_init 20 = .ok (.invokespecial 9, 3) := by decide +kernel
theorem dX6_init_23 : decode cX6_init 23 = .ok (.putfield 16, 3) := by decide +kernel
theorem dX6_init_26 : decode cX6_init 26 = .ok (.aload_n 0, 1) := by decide +kernel
theorem dX6_init_27 : decode cX6_init 27 = .ok (.new 7, 3) := by decide +kernel
theorem dX6_init_30 : decode cX6_init 30 = .ok (.dup, 1) := by decide +kernel
theorem dX6_init_31 : decode cX6_init 31 = .ok (.invokespecial 9, 3) := by decide +kernel
theorem dX6_init_34 : decode cX6_init 34 = .ok (.putfield 19, 3) := by decide +kernel
theorem dX6_init_37 : decode cX6_init 37 = .ok (.aload_n 0, 1) := by decide +kernel
theorem dX6_init_38 : decode cX6_init 38 = .ok (.new 7, 3) := by decide +kernel
theorem dX6_init_41 : decode cX6_init 41 = .ok (.dup, 1) := by decide +kernel
theorem dX6_init_42 : decode cX6_init 42 = .ok (.invokespecial 9, 3) := by decide +kernel
theorem dX6_init_45 : decode cX6_init 45 = .ok (.putfield 22, 3) := by decide +kernel
theorem dX6_init_48 : decode cX6_init 48 = .ok (.aload_n 0, 1) := by decide +kernel
theorem dX6_init_49 : decode cX6_init 49 = .ok (.iconst 0, 1) := by decide +kernel
theorem dX6_init_50 : decode cX6_init 50 = .ok (.putfield 25, 3) := by decide +kernel
theorem dX6_init_53 : decode cX6_init 53 = .ok (.aload_n 0, 1) := by decide +kernel
theorem dX6_init_54 : decode cX6_init 54 = .ok (.new 29, 3) := by decide +kernel
theorem dX6_init_57 : decode cX6_init 57 = .ok (.dup, 1) := by decide +kernel
theorem dX6_init_58 : decode cX6_init 58 = .ok (.invokespecial 31, 3) := by decide +kernel
theorem dX6_init_61 : decode cX6_init 61 = .ok (.putfield 32, 3) := by decide +kernel
theorem dX6_init_64 : decode cX6_init 64 = .ok (.aload_n 0, 1) := by decide +kernel
theorem dX6_init_65 : decode cX6_init 65 = .ok (.new 36, 3) := by decide +kernel
theorem dX6_init_68 : decode cX6_init 68 = .ok (.dup, 1) := by decide +kernel
theorem dX6_init_69 : decode cX6_init 69 = .ok (.invokespecial 38, 3) := by decide +kernel
theorem dX6_init_72 : decode cX6_init 72 = .ok (.putfield 39, 3) := by decide +kernel
theorem dX6_init_75 : decode cX6_init 75 = .ok (.aload_n 0, 1) := by decide +kernel
theorem dX6_init_76 : decode cX6_init 76 = .ok (.iconst 0, 1) := by decide +kernel
theorem dX6_init_77 : decode cX6_init 77 = .ok (.putfield 43, 3) := by decide +kernel
theorem dX6_init_80 : decode cX6_init 80 = .ok (.aload_n 0, 1) := by decide +kernel
theorem dX6_init_81 : decode cX6_init 81 = .ok (.iconst 0, 1) := by decide +kernel
theorem dX6_init_82 : decode cX6_init 82 = .ok (.putfield 47, 3) := by decide +kernel
theorem dX6_init_85 : decode cX6_init 85 = .ok (.return_, 1) := by decide +kernel
set_option maxRecDepth 20000 in
theorem ggX6_setBatch_X4_copyFrom : GoodIn wsX6_setBatch wsX4_copyFrom := goodIn_r _ [7, 8, 9, 10, 11, 12, 13, 14, 15, 16, 17, 18, 19, 20, 21, 22, 23, 24, 25, 26, 27, 28, 29, 30, 31, 32, 33, 34, 35, 36, 37, 38, 39, 40, 41, 42, 43, 44, 45, 46, 47, 48, 49, 50, 51, 52, 53, 91, 92, 93, 94, 95, 96, 97, 98, 99, 100, 101, 102, 103, 104, 105, 106, 107, 108, 109, 110] (by decide +kernel) (by decide +kernel)
set_option maxRecDepth 20000 in
theorem gX6_setBatch_X4_copyFrom : GoodIn wsX6_setBatch (wsV RX6 50 RX4 yX4_copyFrom wsX4_copyFrom) := goodIn_app (goodIn_of _ (by decide +kernel)) ggX6_setBatch_X4_copyFrom
set_option maxRecDepth 20000 in
theorem ggX6_setBatch_X4_changeBatch : GoodIn wsX6_setBatch wsX4_changeBatch := goodIn_r _ [57, 11, 58, 59, 60, 22, 61, 62, 63, 64, 91, 92, 93, 94, 95, 96, 97, 98] (by decide +kernel) (by decide +kernel)
set_option maxRecDepth 20000 in
theorem gX6_setBatch_X4_changeBatch : GoodIn wsX6_setBatch (wsV RX6 54 RX4 yX4_changeBatch wsX4_changeBatch) := goodIn_app (goodIn_of _ (by decide +kernel)) ggX6_setBatch_X4_changeBatch
set_option maxRecDepth 20000 in
theorem ggX6_setBatch_X6_recorded : GoodIn wsX6_setBatch wsX6_recorded := goodIn_r _ [68, 69, 1, 70, 71, 72, 73, 74, 75, 76, 77, 78, 79, 80, 81, 4, 5, 6, 7, 8, 9, 10, 11, 12, 13, 14, 15, 16, 17, 18, 19, 20, 21, 22, 23, 24, 25, 26, 27, 28, 29, 30, 31, 32, 33, 34, 35, 36, 37, 38, 39, 40, 41, 42, 43, 44, 45, 46, 47, 48, 49, 50, 51, 52, 53, 82, 83, 84, 85, 86, 87, 88, 89, 90, 111, 112, 91, 92, 93, 94, 95, 96, 97, 98, 99, 100, 101, 102, 103, 104, 105, 106, 107, 108, 109, 110] (by decide +kernel) (by decide +kernel)
set_option maxRecDepth 20000 in
theorem gX6_setBatch_X6_recorded : GoodIn wsX6_setBatch (wsV RX6 58 RX6 yX6_recorded wsX6_recorded) := goodIn_app (goodIn_of _ (by decide +kernel)) ggX6_setBatch_X6_recorded
theorem dX6_setBatch_0 : decode cX6_setBatch 0 = .ok (.aload_n 0, 1) := by decide +kernel
theorem dX6_setBatch_1 : decode cX6_setBatch 1 = .ok (.getfield 16, 3) := by decide +kernel
theorem dX6_setBatch_4 : decode cX6_setBatch 4 = .ok (.aload_n 0, 1) := by decide +kernel
theorem dX6_setBatch_5 : decode cX6_setBatch 5 = .ok (.getfield 10, 3) := by decide +kernel
theorem dX6_setBatch_8 : decode cX6_setBatch 8 = .ok (.invokevirtual 50, 3) := by decide +kernel
theorem dX6_setBatch_11 : decode cX6_setBatch 11 = .ok (.aload_n 0, 1) := by decide +kernel
theorem dX6_setBatch_12 : decode cX6_setBatch 12 = .ok (.aload_n 0, 1) := by decide +kernel
theorem dX6_setBatch_13 : decode cX6_setBatch 13 = .ok (.getfield 10, 3) := by decide +kernel
theorem dX6_setBatch_16 : decode cX6_setBatch 16 = .ok (.iload_n 1, 1) := by decide +kernel
theorem dX6_setBatch_17 : decode cX6_setBatch 17 = .ok (.iload_n 2, 1) := by decide +kernel
theorem dX6_setBatch_18 : decode cX6_setBatch 18 = .ok (.iload_n 3, 1) := by decide +kernel
theorem dX6_setBatch_19 : decode cX6_setBatch 19 = .ok (.invokevirtual 54, 3) := by decide +kernel
theorem dX6_setBatch_22 : decode cX6_setBatch 22 = .ok (.invokevirtual 58, 3) := by decide +kernel
theorem dX6_setBatch_25 : decode cX6_setBatch 25 = .ok (.ireturn, 1) := by decide +kernel
set_option maxRecDepth 20000 in
theorem ggX6_put_X4_copyFrom : GoodIn wsX6_put wsX4_copyFrom := goodIn_r _ [7, 8, 9, 10, 11, 12, 13, 14, 15, 16, 17, 18, 19, 20, 21, 22, 23, 24, 25, 26, 27, 28, 29, 30, 31, 32, 33, 34, 35, 36, 37, 38, 39, 40, 41, 42, 43, 44, 45, 46, 47, 48, 49, 50, 51, 52, 53, 118, 119, 120, 121, 122, 123, 124, 125, 126, 127, 128, 129, 130, 131, 132, 133, 134, 135, 136, 137] (by decide +kernel) (by decide +kernel)
set_option maxRecDepth 20000 in
theorem gX6_put_X4_copyFrom : GoodIn wsX6_put (wsV RX6 50 RX4 yX4_copyFrom wsX4_copyFrom) := goodIn_app (goodIn_of _ (by decide +kernel)) ggX6_put_X4_copyFrom
set_option maxRecDepth 20000 in
theorem ggX6_put_X4_insertLamp : GoodIn wsX6_put wsX4_insertLamp := goodIn_r _ [57, 13, 58, 12, 11, 59, 60, 22, 61, 62, 63, 64, 65, 66, 67, 68, 69, 70, 71, 72, 73, 74, 35, 75, 37, 76, 77, 78, 17, 79, 19, 20, 80, 81, 26, 82, 83, 84, 85, 86, 87, 88, 89, 90, 91, 38, 39, 40, 41, 42, 43, 118, 119, 120, 121, 122, 123, 133, 134, 135, 136, 137, 126, 127, 128, 129, 130, 131, 132, 124, 125] (by decide +kernel) (by decide +kernel)
set_option maxRecDepth 20000 in
theorem gX6_put_X4_insertLamp : GoodIn wsX6_put (wsV RX6 62 RX4 yX4_insertLamp wsX4_insertLamp) := goodIn_app (goodIn_of _ (by decide +kernel)) ggX6_put_X4_insertLamp
set_option maxRecDepth 20000 in
theorem ggX6_put_X6_recorded : GoodIn wsX6_put wsX6_recorded := goodIn_r _ [95, 96, 1, 97, 98, 99, 100, 101, 102, 103, 104, 105, 106, 107, 108, 4, 5, 6, 7, 8, 9, 10, 11, 12, 13, 14, 15, 16, 17, 18, 19, 20, 21, 22, 23, 24, 25, 26, 27, 28, 29, 30, 31, 32, 33, 34, 35, 36, 37, 38, 39, 40, 41, 42, 43, 44, 45, 46, 47, 48, 49, 50, 51, 52, 53, 109, 110, 111, 112, 113, 114, 115, 116, 117, 138, 139, 118, 119, 120, 121, 122, 123, 124, 125, 126, 127, 128, 129, 130, 131, 132, 133, 134, 135, 136, 137] (by decide +kernel) (by decide +kernel)
set_option maxRecDepth 20000 in
theorem gX6_put_X6_recorded : GoodIn wsX6_put (wsV RX6 58 RX6 yX6_recorded wsX6_recorded) := goodIn_app (goodIn_of _ (by decide +kernel)) ggX6_put_X6_recorded
theorem dX6_put_0 : decode cX6_put 0 = .ok (.aload_n 0, 1) := by decide +kernel
theorem dX6_put_1 : decode cX6_put 1 = .ok (.getfield 16, 3) := by decide +kernel
theorem dX6_put_4 : decode cX6_put 4 = .ok (.aload_n 0, 1) := by decide +kernel
theorem dX6_put_5 : decode cX6_put 5 = .ok (.getfield 10, 3) := by decide +kernel
theorem dX6_put_8 : decode cX6_put 8 = .ok (.invokevirtual 50, 3) := by decide +kernel
theorem dX6_put_11 : decode cX6_put 11 = .ok (.aload_n 0, 1) := by decide +kernel
theorem dX6_put_12 : decode cX6_put 12 = .ok (.aload_n 0, 1) := by decide +kernel
theorem dX6_put_13 : decode cX6_put 13 = .ok (.getfield 10, 3) := by decide +kernel
theorem dX6_put_16 : decode cX6_put 16 = .ok (.iload_n 1, 1) := by decide +kernel
theorem dX6_put_17 : decode cX6_put 17 = .ok (.iload_n 2, 1) := by decide +kernel
theorem dX6_put_18 : decode cX6_put 18 = .ok (.iload_n 3, 1) := by decide +kernel
theorem dX6_put_19 : decode cX6_put 19 = .ok (.invokevirtual 62, 3) := by decide +kernel
theorem dX6_put_22 : decode cX6_put 22 = .ok (.invokevirtual 58, 3) := by decide +kernel
theorem dX6_put_25 : decode cX6_put 25 = .ok (.ireturn, 1) := by decide +kernel
set_option maxRecDepth 20000 in
theorem ggX6_takeOut_X4_copyFrom : GoodIn wsX6_takeOut wsX4_copyFrom := goodIn_r _ [7, 8, 9, 10, 11, 12, 13, 14, 15, 16, 17, 18, 19, 20, 21, 22, 23, 24, 25, 26, 27, 28, 29, 30, 31, 32, 33, 34, 35, 36, 37, 38, 39, 40, 41, 42, 43, 44, 45, 46, 47, 48, 49, 50, 51, 52, 53, 96, 97, 98, 99, 100, 101, 102, 103, 104, 105, 106, 107, 108, 109, 110, 111, 112, 113, 114, 115] (by decide +kernel) (by decide +kernel)
set_option maxRecDepth 20000 in
theorem gX6_takeOut_X4_copyFrom : GoodIn wsX6_takeOut (wsV RX6 50 RX4 yX4_copyFrom wsX4_copyFrom) := goodIn_app (goodIn_of _ (by decide +kernel)) ggX6_takeOut_X4_copyFrom
set_option maxRecDepth 20000 in
theorem ggX6_takeOut_X4_removeLamp : GoodIn wsX6_takeOut wsX4_removeLamp := goodIn_r _ [57, 13, 58, 12, 59, 60, 22, 61, 62, 63, 64, 65, 66, 67, 68, 69, 96, 97, 98, 99, 100, 101, 111, 112, 113, 114, 115, 104, 105, 106, 107, 108, 109, 110] (by decide +kernel) (by decide +kernel)
set_option maxRecDepth 20000 in
theorem gX6_takeOut_X4_removeLamp : GoodIn wsX6_takeOut (wsV RX6 65 RX4 yX4_removeLamp wsX4_removeLamp) := goodIn_app (goodIn_of _ (by decide +kernel)) ggX6_takeOut_X4_removeLamp
set_option maxRecDepth 20000 in
theorem ggX6_takeOut_X6_recorded : GoodIn wsX6_takeOut wsX6_recorded := goodIn_r _ [73, 74, 1, 75, 76, 77, 78, 79, 80, 81, 82, 83, 84, 85, 86, 4, 5, 6, 7, 8, 9, 10, 11, 12, 13, 14, 15, 16, 17, 18, 19, 20, 21, 22, 23, 24, 25, 26, 27, 28, 29, 30, 31, 32, 33, 34, 35, 36, 37, 38, 39, 40, 41, 42, 43, 44, 45, 46, 47, 48, 49, 50, 51, 52, 53, 87, 88, 89, 90, 91, 92, 93, 94, 95, 116, 117, 96, 97, 98, 99, 100, 101, 102, 103, 104, 105, 106, 107, 108, 109, 110, 111, 112, 113, 114, 115] (by decide +kernel) (by decide +kernel)
set_option maxRecDepth 20000 in
theorem gX6_takeOut_X6_recorded : GoodIn wsX6_takeOut (wsV RX6 58 RX6 yX6_recorded wsX6_recorded) := goodIn_app (goodIn_of _ (by decide +kernel)) ggX6_takeOut_X6_recorded
theorem dX6_takeOut_0 : decode cX6_takeOut 0 = .ok (.aload_n 0, 1) := by decide +kernel
theorem dX6_takeOut_1 : decode cX6_takeOut 1 = .ok (.getfield 16, 3) := by decide +kernel
theorem dX6_takeOut_4 : decode cX6_takeOut 4 = .ok (.aload_n 0, 1) := by decide +kernel
theorem dX6_takeOut_5 : decode cX6_takeOut 5 = .ok (.getfield 10, 3) := by decide +kernel
theorem dX6_takeOut_8 : decode cX6_takeOut 8 = .ok (.invokevirtual 50, 3) := by decide +kernel
theorem dX6_takeOut_11 : decode cX6_takeOut 11 = .ok (.aload_n 0, 1) := by decide +kernel
theorem dX6_takeOut_12 : decode cX6_takeOut 12 = .ok (.aload_n 0, 1) := by decide +kernel
theorem dX6_takeOut_13 : decode cX6_takeOut 13 = .ok (.getfield 10, 3) := by decide +kernel
theorem dX6_takeOut_16 : decode cX6_takeOut 16 = .ok (.iload_n 1, 1) := by decide +kernel
theorem dX6_takeOut_17 : decode cX6_takeOut 17 = .ok (.iload_n 2, 1) := by decide +kernel
theorem dX6_takeOut_18 : decode cX6_takeOut 18 = .ok (.invokevirtual 65, 3) := by decide +kernel
theorem dX6_takeOut_21 : decode cX6_takeOut 21 = .ok (.invokevirtual 58, 3) := by decide +kernel
theorem dX6_takeOut_24 : decode cX6_takeOut 24 = .ok (.ireturn, 1) := by decide +kernel
set_option maxRecDepth 20000 in
theorem ggX6_swap_X4_copyFrom : GoodIn wsX6_swap wsX4_copyFrom := goodIn_r _ [7, 8, 9, 10, 11, 12, 13, 14, 15, 16, 17, 18, 19, 20, 21, 22, 23, 24, 25, 26, 27, 28, 29, 30, 31, 32, 33, 34, 35, 36, 37, 38, 39, 40, 41, 42, 43, 44, 45, 46, 47, 48, 49, 50, 51, 52, 53, 100, 101, 102, 103, 104, 105, 106, 107, 108, 109, 110, 111, 112, 113, 114, 115, 116, 117, 118, 119] (by decide +kernel) (by decide +kernel)
set_option maxRecDepth 20000 in
theorem gX6_swap_X4_copyFrom : GoodIn wsX6_swap (wsV RX6 50 RX4 yX4_copyFrom wsX4_copyFrom) := goodIn_app (goodIn_of _ (by decide +kernel)) ggX6_swap_X4_copyFrom
set_option maxRecDepth 20000 in
theorem ggX6_swap_X4_exchange : GoodIn wsX6_swap wsX4_exchange := goodIn_r _ [57, 13, 58, 59, 22, 60, 61, 62, 63, 64, 65, 66, 67, 68, 69, 70, 71, 6, 72, 12, 73, 100, 101, 102, 103, 104, 105, 115, 116, 117, 118, 119, 108, 109, 110, 111, 112, 113, 114] (by decide +kernel) (by decide +kernel)
set_option maxRecDepth 20000 in
theorem gX6_swap_X4_exchange : GoodIn wsX6_swap (wsV RX6 69 RX4 yX4_exchange wsX4_exchange) := goodIn_app (goodIn_of _ (by decide +kernel)) ggX6_swap_X4_exchange
set_option maxRecDepth 20000 in
theorem ggX6_swap_X6_recorded : GoodIn wsX6_swap wsX6_recorded := goodIn_r _ [77, 78, 1, 79, 80, 81, 82, 83, 84, 85, 86, 87, 88, 89, 90, 4, 5, 6, 7, 8, 9, 10, 11, 12, 13, 14, 15, 16, 17, 18, 19, 20, 21, 22, 23, 24, 25, 26, 27, 28, 29, 30, 31, 32, 33, 34, 35, 36, 37, 38, 39, 40, 41, 42, 43, 44, 45, 46, 47, 48, 49, 50, 51, 52, 53, 91, 92, 93, 94, 95, 96, 97, 98, 99, 120, 121, 100, 101, 102, 103, 104, 105, 106, 107, 108, 109, 110, 111, 112, 113, 114, 115, 116, 117, 118, 119] (by decide +kernel) (by decide +kernel)
set_option maxRecDepth 20000 in
theorem gX6_swap_X6_recorded : GoodIn wsX6_swap (wsV RX6 58 RX6 yX6_recorded wsX6_recorded) := goodIn_app (goodIn_of _ (by decide +kernel)) ggX6_swap_X6_recorded
theorem dX6_swap_0 : decode cX6_swap 0 = .ok (.aload_n 0, 1) := by decide +kernel
theorem dX6_swap_1 : decode cX6_swap 1 = .ok (.getfield 16, 3) := by decide +kernel
theorem dX6_swap_4 : decode cX6_swap 4 = .ok (.aload_n 0, 1) := by decide +kernel
theorem dX6_swap_5 : decode cX6_swap 5 = .ok (.getfield 10, 3) := by decide +kernel
theorem dX6_swap_8 : decode cX6_swap 8 = .ok (.invokevirtual 50, 3) := by decide +kernel
theorem dX6_swap_11 : decode cX6_swap 11 = .ok (.aload_n 0, 1) := by decide +kernel
theorem dX6_swap_12 : decode cX6_swap 12 = .ok (.aload_n 0, 1) := by decide +kernel
theorem dX6_swap_13 : decode cX6_swap 13 = .ok (.getfield 10, 3) := by decide +kernel
theorem dX6_swap_16 : decode cX6_swap 16 = .ok (.iload_n 1, 1) := by decide +kernel
theorem dX6_swap_17 : decode cX6_swap 17 = .ok (.iload_n 2, 1) := by decide +kernel
theorem dX6_swap_18 : decode cX6_swap 18 = .ok (.iload_n 3, 1) := by decide +kernel
theorem dX6_swap_19 : decode cX6_swap 19 = .ok (.iload 4, 2) := by decide +kernel
theorem dX6_swap_21 : decode cX6_swap 21 = .ok (.invokevirtual 69, 3) := by decide +kernel
theorem dX6_swap_24 : decode cX6_swap 24 = .ok (.invokevirtual 58, 3) := by decide +kernel
theorem dX6_swap_27 : decode cX6_swap 27 = .ok (.ireturn, 1) := by decide +kernel
set_option maxRecDepth 20000 in
theorem ggX6_setVolts_X4_copyFrom : GoodIn wsX6_setVolts wsX4_copyFrom := goodIn_r _ [7, 8, 9, 10, 11, 12, 13, 14, 15, 16, 17, 18, 19, 20, 21, 22, 23, 24, 25, 26, 27, 28, 29, 30, 31, 32, 33, 34, 35, 36, 37, 38, 39, 40, 41, 42, 43, 44, 45, 46, 47, 48, 49, 50, 51, 52, 53, 90, 91, 92, 93, 94, 95, 96, 97, 98, 99, 100, 101, 102, 103, 104, 105, 106, 107, 108, 109] (by decide +kernel) (by decide +kernel)
set_option maxRecDepth 20000 in
theorem gX6_setVolts_X4_copyFrom : GoodIn wsX6_setVolts (wsV RX6 50 RX4 yX4_copyFrom wsX4_copyFrom) := goodIn_app (goodIn_of _ (by decide +kernel)) ggX6_setVolts_X4_copyFrom
set_option maxRecDepth 20000 in
theorem ggX6_setVolts_X4_changeVolts : GoodIn wsX6_setVolts wsX4_changeVolts := goodIn_r _ [57, 13, 58, 59, 22, 60, 61, 62, 63, 90, 91, 92, 93, 94, 95, 105, 106, 107, 108, 109] (by decide +kernel) (by decide +kernel)
set_option maxRecDepth 20000 in
theorem gX6_setVolts_X4_changeVolts : GoodIn wsX6_setVolts (wsV RX6 73 RX4 yX4_changeVolts wsX4_changeVolts) := goodIn_app (goodIn_of _ (by decide +kernel)) ggX6_setVolts_X4_changeVolts
set_option maxRecDepth 20000 in
theorem ggX6_setVolts_X6_recorded : GoodIn wsX6_setVolts wsX6_recorded := goodIn_r _ [67, 68, 1, 69, 70, 71, 72, 73, 74, 75, 76, 77, 78, 79, 80, 4, 5, 6, 7, 8, 9, 10, 11, 12, 13, 14, 15, 16, 17, 18, 19, 20, 21, 22, 23, 24, 25, 26, 27, 28, 29, 30, 31, 32, 33, 34, 35, 36, 37, 38, 39, 40, 41, 42, 43, 44, 45, 46, 47, 48, 49, 50, 51, 52, 53, 81, 82, 83, 84, 85, 86, 87, 88, 89, 110, 111, 90, 91, 92, 93, 94, 95, 96, 97, 98, 99, 100, 101, 102, 103, 104, 105, 106, 107, 108, 109] (by decide +kernel) (by decide +kernel)
set_option maxRecDepth 20000 in
theorem gX6_setVolts_X6_recorded : GoodIn wsX6_setVolts (wsV RX6 58 RX6 yX6_recorded wsX6_recorded) := goodIn_app (goodIn_of _ (by decide +kernel)) ggX6_setVolts_X6_recorded
theorem dX6_setVolts_0 : decode cX6_setVolts 0 = .ok (.aload_n 0, 1) := by decide +kernel
theorem dX6_setVolts_1 : decode cX6_setVolts 1 = .ok (.getfield 16, 3) := by decide +kernel
theorem dX6_setVolts_4 : decode cX6_setVolts 4 = .ok (.aload_n 0, 1) := by decide +kernel
theorem dX6_setVolts_5 : decode cX6_setVolts 5 = .ok (.getfield 10, 3) := by decide +kernel
theorem dX6_setVolts_8 : decode cX6_setVolts 8 = .ok (.invokevirtual 50, 3) := by decide +kernel
theorem dX6_setVolts_11 : decode cX6_setVolts 11 = .ok (.aload_n 0, 1) := by decide +kernel
theorem dX6_setVolts_12 : decode cX6_setVolts 12 = .ok (.aload_n 0, 1) := by decide +kernel
theorem dX6_setVolts_13 : decode cX6_setVolts 13 = .ok (.getfield 10, 3) := by decide +kernel
theorem dX6_setVolts_16 : decode cX6_setVolts 16 = .ok (.iload_n 1, 1) := by decide +kernel
theorem dX6_setVolts_17 : decode cX6_setVolts 17 = .ok (.iload_n 2, 1) := by decide +kernel
theorem dX6_setVolts_18 : decode cX6_setVolts 18 = .ok (.invokevirtual 73, 3) := by decide +kernel
theorem dX6_setVolts_21 : decode cX6_setVolts 21 = .ok (.invokevirtual 58, 3) := by decide +kernel
theorem dX6_setVolts_24 : decode cX6_setVolts 24 = .ok (.ireturn, 1) := by decide +kernel
set_option maxRecDepth 20000 in
theorem ggX6_setSteps_X4_copyFrom : GoodIn wsX6_setSteps wsX4_copyFrom := goodIn_r _ [7, 8, 9, 10, 11, 12, 13, 14, 15, 16, 17, 18, 19, 20, 21, 22, 23, 24, 25, 26, 27, 28, 29, 30, 31, 32, 33, 34, 35, 36, 37, 38, 39, 40, 41, 42, 43, 44, 45, 46, 47, 48, 49, 50, 51, 52, 53, 92, 93, 94, 95, 96, 97, 98, 99, 100, 101, 102, 103, 104, 105, 106, 107, 108, 109, 110, 111] (by decide +kernel) (by decide +kernel)
set_option maxRecDepth 20000 in
theorem gX6_setSteps_X4_copyFrom : GoodIn wsX6_setSteps (wsV RX6 50 RX4 yX4_copyFrom wsX4_copyFrom) := goodIn_app (goodIn_of _ (by decide +kernel)) ggX6_setSteps_X4_copyFrom
set_option maxRecDepth 20000 in
theorem ggX6_setSteps_X4_changeSteps : GoodIn wsX6_setSteps wsX4_changeSteps := goodIn_r _ [57, 13, 58, 59, 60, 61, 22, 62, 63, 64, 65, 92, 93, 94, 95, 96, 97, 107, 108, 109, 110, 111] (by decide +kernel) (by decide +kernel)
set_option maxRecDepth 20000 in
theorem gX6_setSteps_X4_changeSteps : GoodIn wsX6_setSteps (wsV RX6 76 RX4 yX4_changeSteps wsX4_changeSteps) := goodIn_app (goodIn_of _ (by decide +kernel)) ggX6_setSteps_X4_changeSteps
set_option maxRecDepth 20000 in
theorem ggX6_setSteps_X6_recorded : GoodIn wsX6_setSteps wsX6_recorded := goodIn_r _ [69, 70, 1, 71, 72, 73, 74, 75, 76, 77, 78, 79, 80, 81, 82, 4, 5, 6, 7, 8, 9, 10, 11, 12, 13, 14, 15, 16, 17, 18, 19, 20, 21, 22, 23, 24, 25, 26, 27, 28, 29, 30, 31, 32, 33, 34, 35, 36, 37, 38, 39, 40, 41, 42, 43, 44, 45, 46, 47, 48, 49, 50, 51, 52, 53, 83, 84, 85, 86, 87, 88, 89, 90, 91, 112, 113, 92, 93, 94, 95, 96, 97, 98, 99, 100, 101, 102, 103, 104, 105, 106, 107, 108, 109, 110, 111] (by decide +kernel) (by decide +kernel)
set_option maxRecDepth 20000 in
theorem gX6_setSteps_X6_recorded : GoodIn wsX6_setSteps (wsV RX6 58 RX6 yX6_recorded wsX6_recorded) := goodIn_app (goodIn_of _ (by decide +kernel)) ggX6_setSteps_X6_recorded
theorem dX6_setSteps_0 : decode cX6_setSteps 0 = .ok (.aload_n 0, 1) := by decide +kernel
theorem dX6_setSteps_1 : decode cX6_setSteps 1 = .ok (.getfield 16, 3) := by decide +kernel
theorem dX6_setSteps_4 : decode cX6_setSteps 4 = .ok (.aload_n 0, 1) := by decide +kernel
theorem dX6_setSteps_5 : decode cX6_setSteps 5 = .ok (.getfield 10, 3) := by decide +kernel
theorem dX6_setSteps_8 : decode cX6_setSteps 8 = .ok (.invokevirtual 50, 3) := by decide +kernel
theorem dX6_setSteps_11 : decode cX6_setSteps 11 = .ok (.aload_n 0, 1) := by decide +kernel
theorem dX6_setSteps_12 : decode cX6_setSteps 12 = .ok (.aload_n 0, 1) := by decide +kernel
theorem dX6_setSteps_13 : decode cX6_setSteps 13 = .ok (.getfield 10, 3) := by decide +kernel
theorem dX6_setSteps_16 : decode cX6_setSteps 16 = .ok (.iload_n 1, 1) := by decide +kernel
theorem dX6_setSteps_17 : decode cX6_setSteps 17 = .ok (.iload_n 2, 1) := by decide +kernel
theorem dX6_setSteps_18 : decode cX6_setSteps 18 = .ok (.iload_n 3, 1) := by decide +kernel
theorem dX6_setSteps_19 : decode cX6_setSteps 19 = .ok (.invokevirtual 76, 3) := by decide +kernel
theorem dX6_setSteps_22 : decode cX6_setSteps 22 = .ok (.invokevirtual 58, 3) := by decide +kernel
theorem dX6_setSteps_25 : decode cX6_setSteps 25 = .ok (.ireturn, 1) := by decide +kernel
set_option maxRecDepth 20000 in
theorem ggX6_set_X4_copyFrom : GoodIn wsX6_set wsX4_copyFrom := goodIn_r _ [7, 8, 9, 10, 11, 12, 13, 14, 15, 16, 17, 18, 19, 20, 21, 22, 23, 24, 25, 26, 27, 28, 29, 30, 31, 32, 33, 34, 35, 36, 37, 38, 39, 40, 41, 42, 43, 44, 45, 46, 47, 48, 49, 50, 51, 52, 53, 94, 95, 96, 97, 98, 99, 100, 101, 102, 103, 104, 105, 106, 107, 108, 109, 110, 111, 112, 113] (by decide +kernel) (by decide +kernel)
set_option maxRecDepth 20000 in
theorem gX6_set_X4_copyFrom : GoodIn wsX6_set (wsV RX6 50 RX4 yX4_copyFrom wsX4_copyFrom) := goodIn_app (goodIn_of _ (by decide +kernel)) ggX6_set_X4_copyFrom
set_option maxRecDepth 20000 in
theorem ggX6_set_X4_changeSetting : GoodIn wsX6_set wsX4_changeSetting := goodIn_r _ [57, 58, 59, 60, 6, 61, 9, 62, 22, 63, 64, 65, 66, 67, 10, 94, 95, 96, 97, 98, 99] (by decide +kernel) (by decide +kernel)
set_option maxRecDepth 20000 in
theorem gX6_set_X4_changeSetting : GoodIn wsX6_set (wsV RX6 79 RX4 yX4_changeSetting wsX4_changeSetting) := goodIn_app (goodIn_of _ (by decide +kernel)) ggX6_set_X4_changeSetting
set_option maxRecDepth 20000 in
theorem ggX6_set_X6_recorded : GoodIn wsX6_set wsX6_recorded := goodIn_r _ [71, 72, 1, 73, 74, 75, 76, 77, 78, 79, 80, 81, 82, 83, 84, 4, 5, 6, 7, 8, 9, 10, 11, 12, 13, 14, 15, 16, 17, 18, 19, 20, 21, 22, 23, 24, 25, 26, 27, 28, 29, 30, 31, 32, 33, 34, 35, 36, 37, 38, 39, 40, 41, 42, 43, 44, 45, 46, 47, 48, 49, 50, 51, 52, 53, 85, 86, 87, 88, 89, 90, 91, 92, 93, 114, 115, 94, 95, 96, 97, 98, 99, 100, 101, 102, 103, 104, 105, 106, 107, 108, 109, 110, 111, 112, 113] (by decide +kernel) (by decide +kernel)
set_option maxRecDepth 20000 in
theorem gX6_set_X6_recorded : GoodIn wsX6_set (wsV RX6 58 RX6 yX6_recorded wsX6_recorded) := goodIn_app (goodIn_of _ (by decide +kernel)) ggX6_set_X6_recorded
theorem dX6_set_0 : decode cX6_set 0 = .ok (.aload_n 0, 1) := by decide +kernel
theorem dX6_set_1 : decode cX6_set 1 = .ok (.getfield 16, 3) := by decide +kernel
theorem dX6_set_4 : decode cX6_set 4 = .ok (.aload_n 0, 1) := by decide +kernel
theorem dX6_set_5 : decode cX6_set 5 = .ok (.getfield 10, 3) := by decide +kernel
theorem dX6_set_8 : decode cX6_set 8 = .ok (.invokevirtual 50, 3) := by decide +kernel
theorem dX6_set_11 : decode cX6_set 11 = .ok (.aload_n 0, 1) := by decide +kernel
theorem dX6_set_12 : decode cX6_set 12 = .ok (.aload_n 0, 1) := by decide +kernel
theorem dX6_set_13 : decode cX6_set 13 = .ok (.getfield 10, 3) := by decide +kernel
theorem dX6_set_16 : decode cX6_set 16 = .ok (.iload_n 1, 1) := by decide +kernel
theorem dX6_set_17 : decode cX6_set 17 = .ok (.iload_n 2, 1) := by decide +kernel
theorem dX6_set_18 : decode cX6_set 18 = .ok (.invokevirtual 79, 3) := by decide +kernel
theorem dX6_set_21 : decode cX6_set 21 = .ok (.invokevirtual 58, 3) := by decide +kernel
theorem dX6_set_24 : decode cX6_set 24 = .ok (.ireturn, 1) := by decide +kernel
set_option maxRecDepth 20000 in
theorem ggX6_pass_X4_copyFrom : GoodIn wsX6_pass wsX4_copyFrom := goodIn_r _ [7, 8, 9, 10, 11, 12, 13, 14, 15, 16, 17, 18, 19, 20, 21, 22, 23, 24, 25, 26, 27, 28, 29, 30, 31, 32, 33, 34, 35, 36, 37, 38, 39, 40, 41, 42, 43, 44, 45, 46, 47, 48, 49, 50, 51, 52, 53, 150, 151, 152, 153, 154, 155, 156, 157, 158, 159, 160, 161, 162, 163, 164, 165, 166, 167, 168, 169] (by decide +kernel) (by decide +kernel)
set_option maxRecDepth 20000 in
theorem gX6_pass_X4_copyFrom : GoodIn wsX6_pass (wsV RX6 50 RX4 yX4_copyFrom wsX4_copyFrom) := goodIn_app (goodIn_of _ (by decide +kernel)) ggX6_pass_X4_copyFrom
set_option maxRecDepth 20000 in
theorem ggX6_pass_X4_letPass : GoodIn wsX6_pass wsX4_letPass := goodIn_r _ [57, 8, 58, 59, 22, 60, 61, 62, 63, 6, 64, 65, 66, 67, 68, 13, 69, 70, 26, 71, 72, 73, 74, 47, 75, 51, 50, 76, 25, 27, 77, 78, 79, 80, 52, 81, 82, 83, 84, 85, 53, 86, 87, 88, 89, 90, 12, 91, 92, 93, 94, 95, 96, 97, 98, 99, 100, 101, 102, 35, 103, 43, 104, 105, 106, 107, 108, 109, 110, 9, 10, 111, 112, 113, 114, 115, 40, 41, 116, 117, 118, 119, 42, 120, 121, 122, 123, 150, 151, 152, 153, 154, 155, 165, 166, 167, 168, 169, 158, 159, 160, 161, 162, 163, 164] (by decide +kernel) (by decide +kernel)
set_option maxRecDepth 20000 in
theorem gX6_pass_X4_letPass : GoodIn wsX6_pass (wsV RX6 82 RX4 yX4_letPass wsX4_letPass) := goodIn_app (goodIn_of _ (by decide +kernel)) ggX6_pass_X4_letPass
set_option maxRecDepth 20000 in
theorem ggX6_pass_X6_recorded : GoodIn wsX6_pass wsX6_recorded := goodIn_r _ [127, 128, 1, 129, 130, 131, 132, 133, 134, 135, 136, 137, 138, 139, 140, 4, 5, 6, 7, 8, 9, 10, 11, 12, 13, 14, 15, 16, 17, 18, 19, 20, 21, 22, 23, 24, 25, 26, 27, 28, 29, 30, 31, 32, 33, 34, 35, 36, 37, 38, 39, 40, 41, 42, 43, 44, 45, 46, 47, 48, 49, 50, 51, 52, 53, 141, 142, 143, 144, 145, 146, 147, 148, 149, 170, 171, 150, 151, 152, 153, 154, 155, 156, 157, 158, 159, 160, 161, 162, 163, 164, 165, 166, 167, 168, 169] (by decide +kernel) (by decide +kernel)
set_option maxRecDepth 20000 in
theorem gX6_pass_X6_recorded : GoodIn wsX6_pass (wsV RX6 58 RX6 yX6_recorded wsX6_recorded) := goodIn_app (goodIn_of _ (by decide +kernel)) ggX6_pass_X6_recorded
theorem dX6_pass_0 : decode cX6_pass 0 = .ok (.aload_n 0, 1) := by decide +kernel
theorem dX6_pass_1 : decode cX6_pass 1 = .ok (.getfield 16, 3) := by decide +kernel
theorem dX6_pass_4 : decode cX6_pass 4 = .ok (.aload_n 0, 1) := by decide +kernel
theorem dX6_pass_5 : decode cX6_pass 5 = .ok (.getfield 10, 3) := by decide +kernel
theorem dX6_pass_8 : decode cX6_pass 8 = .ok (.invokevirtual 50, 3) := by decide +kernel
theorem dX6_pass_11 : decode cX6_pass 11 = .ok (.aload_n 0, 1) := by decide +kernel
theorem dX6_pass_12 : decode cX6_pass 12 = .ok (.aload_n 0, 1) := by decide +kernel
theorem dX6_pass_13 : decode cX6_pass 13 = .ok (.getfield 10, 3) := by decide +kernel
theorem dX6_pass_16 : decode cX6_pass 16 = .ok (.iload_n 1, 1) := by decide +kernel
theorem dX6_pass_17 : decode cX6_pass 17 = .ok (.invokevirtual 82, 3) := by decide +kernel
theorem dX6_pass_20 : decode cX6_pass 20 = .ok (.invokevirtual 58, 3) := by decide +kernel
theorem dX6_pass_23 : decode cX6_pass 23 = .ok (.ireturn, 1) := by decide +kernel
set_option maxRecDepth 20000 in
theorem ggX6_clearText_X5_empty : GoodIn wsX6_clearText wsX5_empty := goodIn_r _ [6, 7, 17, 18, 19, 20, 21, 22, 23, 24, 25, 26] (by decide +kernel) (by decide +kernel)
set_option maxRecDepth 20000 in
theorem gX6_clearText_X5_empty : GoodIn wsX6_clearText (wsV RX6 89 RX5 yX5_empty wsX5_empty) := goodIn_app (goodIn_of _ (by decide +kernel)) ggX6_clearText_X5_empty
theorem dX6_clearText_0 : decode cX6_clearText 0 = .ok (.aload_n 0, 1) := by decide +kernel
theorem dX6_clearText_1 : decode cX6_clearText 1 = .ok (.getfield 39, 3) := by decide +kernel
theorem dX6_clearText_4 : decode cX6_clearText 4 = .ok (.invokevirtual 89, 3) := by decide +kernel
theorem dX6_clearText_7 : decode cX6_clearText 7 = .ok (.ireturn, 1) := by decide +kernel
set_option maxRecDepth 20000 in
theorem ggX6_perform_X5_findFault : GoodIn wsX6_perform wsX5_findFault := goodIn_r _ [11, 12, 13, 14, 15, 16, 17, 10, 18, 19, 20, 21, 22, 23, 24, 25, 26, 27, 28, 29, 30, 31, 32, 33, 34, 35, 36, 37, 38, 39, 40, 41, 42, 43, 44, 45, 46, 47, 48, 49, 50, 51, 52, 53, 54, 55, 56, 57, 58, 59, 60, 61, 62, 63, 64, 65, 66, 67, 68, 69, 70, 71, 72, 279, 280, 281, 282, 283, 284, 285, 286, 287, 288] (by decide +kernel) (by decide +kernel)
set_option maxRecDepth 20000 in
theorem gX6_perform_X5_findFault : GoodIn wsX6_perform (wsV RX6 93 RX5 yX5_findFault wsX5_findFault) := goodIn_app (goodIn_of _ (by decide +kernel)) ggX6_perform_X5_findFault
set_option maxRecDepth 20000 in
theorem ggX6_perform_X4_copyFrom : GoodIn wsX6_perform wsX4_copyFrom := goodIn_r _ [77, 78, 79, 80, 81, 82, 83, 84, 85, 86, 87, 88, 89, 90, 91, 49, 92, 93, 94, 95, 96, 97, 98, 99, 100, 101, 102, 103, 104, 105, 106, 107, 108, 109, 110, 111, 112, 113, 114, 115, 116, 117, 118, 119, 120, 121, 122, 289, 290, 291, 292, 293, 294, 295, 296, 297, 298, 299, 300, 301, 302, 303, 304, 305, 306, 307, 308] (by decide +kernel) (by decide +kernel)
set_option maxRecDepth 20000 in
theorem gX6_perform_X4_copyFrom : GoodIn wsX6_perform (wsV RX6 50 RX4 yX4_copyFrom wsX4_copyFrom) := goodIn_app (goodIn_of _ (by decide +kernel)) ggX6_perform_X4_copyFrom
set_option maxRecDepth 20000 in
theorem ggX6_perform_X5_startReading : GoodIn wsX6_perform wsX5_startReading := goodIn_r _ [18, 13, 279, 280, 281, 282, 283, 284, 285, 286, 287, 288] (by decide +kernel) (by decide +kernel)
set_option maxRecDepth 20000 in
theorem gX6_perform_X5_startReading : GoodIn wsX6_perform (wsV RX6 99 RX5 yX5_startReading wsX5_startReading) := goodIn_app (goodIn_of _ (by decide +kernel)) ggX6_perform_X5_startReading
set_option maxRecDepth 20000 in
theorem ggX6_perform_X5_readThing : GoodIn wsX6_perform wsX5_readThing := goodIn_r _ [22, 23, 24, 25, 26, 10, 27, 13, 14, 28, 29, 30, 31, 32, 33, 34, 35, 36, 37, 38, 39, 40, 41, 42, 43, 44, 45, 46, 47, 48, 49, 50, 51, 52, 53, 54, 55, 56, 57, 58, 59, 60, 61, 62, 63, 64, 65, 66, 67, 68, 69, 70, 71, 72, 279, 280, 281, 282, 283, 284, 285, 286, 287, 288] (by decide +kernel) (by decide +kernel)
set_option maxRecDepth 20000 in
theorem gX6_perform_X5_readThing : GoodIn wsX6_perform (wsV RX6 102 RX5 yX5_readThing wsX5_readThing) := goodIn_app (goodIn_of _ (by decide +kernel)) ggX6_perform_X5_readThing
set_option maxRecDepth 20000 in
theorem ggX6_perform_X6_doThing : GoodIn wsX6_perform wsX6_doThing := goodIn_r _ [128, 1, 129, 3, 130, 131, 132, 133, 134, 135, 136, 137, 76, 138, 83, 139, 82, 81, 140, 141, 49, 142, 143, 144, 145, 146, 48, 50, 147, 148, 149, 150, 151, 152, 153, 104, 154, 106, 155, 156, 157, 87, 158, 89, 90, 159, 160, 95, 161, 162, 163, 164, 165, 166, 167, 168, 169, 170, 107, 108, 109, 110, 111, 112, 171, 172, 173, 174, 175, 176, 177, 178, 179, 180, 181, 182, 183, 184, 185, 186, 187, 188, 189, 190, 191, 78, 192, 193, 194, 195, 196, 197, 198, 199, 200, 201, 202, 203, 204, 116, 205, 120, 119, 206, 94, 96, 207, 208, 209, 210, 121, 211, 212, 213, 214, 215, 122, 216, 217, 218, 219, 220, 221, 222, 223, 224, 225, 226, 227, 228, 229, 230, 231, 232, 233, 234, 235, 79, 80, 236, 237, 238, 239, 240, 241, 242, 243, 244, 245, 246, 247, 248, 270, 271, 272, 273, 274, 275, 276, 277, 278, 279, 280, 281, 282, 283, 284, 285, 286, 287, 288, 289, 290, 291, 292, 293, 294, 304, 305, 306, 307, 308, 297, 298, 299, 300, 301, 302, 303, 295, 296] (by decide +kernel) (by decide +kernel)
set_option maxRecDepth 20000 in
theorem gX6_perform_X6_doThing : GoodIn wsX6_perform (wsV RX6 106 RX6 yX6_doThing wsX6_doThing) := goodIn_app (goodIn_of _ (by decide +kernel)) ggX6_perform_X6_doThing
set_option maxRecDepth 20000 in
theorem ggX6_perform_X6_isError : GoodIn wsX6_perform wsX6_isError := goodIn_r _ [251] (by decide +kernel) (by decide +kernel)
set_option maxRecDepth 20000 in
theorem gX6_perform_X6_isError : GoodIn wsX6_perform (va_wsS RX6 109 yX6_isError wsX6_isError) := goodIn_app (goodIn_of _ (by decide +kernel)) ggX6_perform_X6_isError
set_option maxRecDepth 20000 in
theorem ggX6_perform_X5_readSign : GoodIn wsX6_perform wsX5_readSign := goodIn_r _ [32, 13, 24, 25, 26, 10, 27, 14, 28, 279, 280, 281, 282, 283, 284, 285, 286, 287, 288] (by decide +kernel) (by decide +kernel)
set_option maxRecDepth 20000 in
theorem gX6_perform_X5_readSign : GoodIn wsX6_perform (wsV RX6 113 RX5 yX5_readSign wsX5_readSign) := goodIn_app (goodIn_of _ (by decide +kernel)) ggX6_perform_X5_readSign
set_option maxRecDepth 20000 in
theorem ggX6_perform_X6_recorded : GoodIn wsX6_perform wsX6_recorded := goodIn_r _ [256, 257, 2, 258, 259, 260, 261, 262, 263, 264, 265, 266, 267, 268, 269, 74, 75, 76, 77, 78, 79, 80, 81, 82, 83, 84, 85, 86, 87, 88, 89, 90, 91, 49, 92, 93, 94, 95, 96, 97, 98, 99, 100, 101, 102, 103, 104, 105, 106, 107, 108, 109, 110, 111, 112, 113, 114, 115, 116, 117, 118, 119, 120, 121, 122, 270, 271, 272, 273, 274, 275, 276, 277, 278, 309, 310, 289, 290, 291, 292, 293, 294, 295, 296, 297, 298, 299, 300, 301, 302, 303, 304, 305, 306, 307, 308] (by decide +kernel) (by decide +kernel)
set_option maxRecDepth 20000 in
theorem gX6_perform_X6_recorded : GoodIn wsX6_perform (wsV RX6 58 RX6 yX6_recorded wsX6_recorded) := goodIn_app (goodIn_of _ (by decide +kernel)) ggX6_perform_X6_recorded
theorem dX6_perform_0 : decode cX6_perform 0 = .ok (.aload_n 0, 1) := by decide +kernel
theorem dX6_perform_1 : decode cX6_perform 1 = .ok (.getfield 39, 3) := by decide +kernel
theorem dX6_perform_4 : decode cX6_perform 4 = .ok (.invokevirtual 93, 3) := by decide +kernel
theorem dX6_perform_7 : decode cX6_perform 7 = .ok (.istore_n 1, 1) := by decide +kernel
theorem dX6_perform_8 : decode cX6_perform 8 = .ok (.iload_n 1, 1) := by decide +kernel
theorem dX6_perform_9 : decode cX6_perform 9 = .ok (.iconst (-1), 1) := by decide +kernel
theorem dX6_perform_10 : decode cX6_perform 10 = .ok (.if_icmp .eq 9, 3) := by decide +kernel
theorem dX6_perform_13 : decode cX6_perform 13 = .ok (.sipush (-1100), 3) := by decide +kernel
theorem dX6_perform_16 : decode cX6_perform 16 = .ok (.iload_n 1, 1) := by decide +kernel
theorem dX6_perform_17 : decode cX6_perform 17 = .ok (.isub, 1) := by decide +kernel
theorem dX6_perform_18 : decode cX6_perform 18 = .ok (.ireturn, 1) := by decide +kernel
theorem dX6_perform_19 : decode cX6_perform 19 = .ok (.aload_n 0, 1) := by decide +kernel
theorem dX6_perform_20 : decode cX6_perform 20 = .ok (.getfield 16, 3) := by decide +kernel
theorem dX6_perform_23 : decode cX6_perform 23 = .ok (.aload_n 0, 1) := by decide +kernel
theorem dX6_perform_24 : decode cX6_perform 24 = .ok (.getfield 10, 3) := by decide +kernel
theorem dX6_perform_27 : decode cX6_perform 27 = .ok (.invokevirtual 50, 3) := by decide +kernel
theorem dX6_perform_30 : decode cX6_perform 30 = .ok (.aload_n 0, 1) := by decide +kernel
theorem dX6_perform_31 : decode cX6_perform 31 = .ok (.getfield 39, 3) := by decide +kernel
theorem dX6_perform_34 : decode cX6_perform 34 = .ok (.getfield 96, 3) := by decide +kernel
theorem dX6_perform_37 : decode cX6_perform 37 = .ok (.istore_n 2, 1) := by decide +kernel
theorem dX6_perform_38 : decode cX6_perform 38 = .ok (.aload_n 0, 1) := by decide +kernel
theorem dX6_perform_39 : decode cX6_perform 39 = .ok (.getfield 39, 3) := by decide +kernel
theorem dX6_perform_42 : decode cX6_perform 42 = .ok (.invokevirtual 99, 3) := by decide +kernel
theorem dX6_perform_45 : decode cX6_perform 45 = .ok (.iconst 0, 1) := by decide +kernel
theorem dX6_perform_46 : decode cX6_perform 46 = .ok (.istore_n 3, 1) := by decide +kernel
theorem dX6_perform_47 : decode cX6_perform 47 = .ok (.iload_n 3, 1) := by decide +kernel
theorem dX6_perform_48 : decode cX6_perform 48 = .ok (.iload_n 2, 1) := by decide +kernel
theorem dX6_perform_49 : decode cX6_perform 49 = .ok (.if_icmp .ge 67, 3) := by decide +kernel
theorem dX6_perform_52 : decode cX6_perform 52 = .ok (.aload_n 0, 1) := by decide +kernel
theorem dX6_perform_53 : decode cX6_perform 53 = .ok (.getfield 39, 3) := by decide +kernel
theorem dX6_perform_56 : decode cX6_perform 56 = .ok (.invokevirtual 102, 3) := by decide +kernel
theorem dX6_perform_59 : decode cX6_perform 59 = .ok (.pop, 1) := by decide +kernel
theorem dX6_perform_60 : decode cX6_perform 60 = .ok (.aload_n 0, 1) := by decide +kernel
theorem dX6_perform_61 : decode cX6_perform 61 = .ok (.invokevirtual 106, 3) := by decide +kernel
theorem dX6_perform_64 : decode cX6_perform 64 = .ok (.istore 4, 2) := by decide +kernel
theorem dX6_perform_66 : decode cX6_perform 66 = .ok (.iload 4, 2) := by decide +kernel
theorem dX6_perform_68 : decode cX6_perform 68 = .ok (.invokestatic 109, 3) := by decide +kernel
theorem dX6_perform_71 : decode cX6_perform 71 = .ok (.ifCond .eq 29, 3) := by decide +kernel
theorem dX6_perform_74 : decode cX6_perform 74 = .ok (.aload_n 0, 1) := by decide +kernel
theorem dX6_perform_75 : decode cX6_perform 75 = .ok (.getfield 10, 3) := by decide +kernel
theorem dX6_perform_78 : decode cX6_perform 78 = .ok (.aload_n 0, 1) := by decide +kernel
theorem dX6_perform_79 : decode cX6_perform 79 = .ok (.getfield 16, 3) := by decide +kernel
theorem dX6_perform_82 : decode cX6_perform 82 = .ok (.invokevirtual 50, 3) := by decide +kernel
theorem dX6_perform_85 : decode cX6_perform 85 = .ok (.aload_n 0, 1) := by decide +kernel
theorem dX6_perform_86 : decode cX6_perform 86 = .ok (.iload_n 3, 1) := by decide +kernel
theorem dX6_perform_87 : decode cX6_perform 87 = .ok (.putfield 43, 3) := by decide +kernel
theorem dX6_perform_90 : decode cX6_perform 90 = .ok (.aload_n 0, 1) := by decide +kernel
theorem dX6_perform_91 : decode cX6_perform 91 = .ok (.iload 4, 2) := by decide +kernel
theorem dX6_perform_93 : decode cX6_perform 93 = .ok (.putfield 47, 3) := by decide +kernel
theorem dX6_perform_96 : decode cX6_perform 96 = .ok (.sipush (-1004), 3) := by decide +kernel
theorem dX6_perform_99 : decode cX6_perform 99 = .ok (.ireturn, 1) := by decide +kernel
theorem dX6_perform_100 : decode cX6_perform 100 = .ok (.aload_n 0, 1) := by decide +kernel
theorem dX6_perform_101 : decode cX6_perform 101 = .ok (.getfield 39, 3) := by decide +kernel
theorem dX6_perform_104 : decode cX6_perform 104 = .ok (.bipush 59, 2) := by decide +kernel
theorem dX6_perform_106 : decode cX6_perform 106 = .ok (.invokevirtual 113, 3) := by decide +kernel
theorem dX6_perform_109 : decode cX6_perform 109 = .ok (.pop, 1) := by decide +kernel
theorem dX6_perform_110 : decode cX6_perform 110 = .ok (.iinc 3 1, 3) := by decide +kernel
theorem dX6_perform_113 : decode cX6_perform 113 = .ok (.goto (-66), 3) := by decide +kernel
theorem dX6_perform_116 : decode cX6_perform 116 = .ok (.aload_n 0, 1) := by decide +kernel
theorem dX6_perform_117 : decode cX6_perform 117 = .ok (.iload_n 2, 1) := by decide +kernel
theorem dX6_perform_118 : decode cX6_perform 118 = .ok (.invokevirtual 58, 3) := by decide +kernel
theorem dX6_perform_121 : decode cX6_perform 121 = .ok (.ireturn, 1) := by decide +kernel
set_option maxRecDepth 20000 in
theorem ggX6_stopped_X6_isWithin : GoodIn wsX6_stopped wsX6_isWithin := goodIn_r _ [6] (by decide +kernel) (by decide +kernel)
set_option maxRecDepth 20000 in
theorem gX6_stopped_X6_isWithin : GoodIn wsX6_stopped (va_wsS RX6 117 yX6_isWithin wsX6_isWithin) := goodIn_app (goodIn_of _ (by decide +kernel)) ggX6_stopped_X6_isWithin
theorem dX6_stopped_0 : decode cX6_stopped 0 = .ok (.iload_n 1, 1) := by decide +kernel
theorem dX6_stopped_1 : decode cX6_stopped 1 = .ok (.iconst 0, 1) := by decide +kernel
theorem dX6_stopped_2 : decode cX6_stopped 2 = .ok (.iconst 1, 1) := by decide +kernel
theorem dX6_stopped_3 : decode cX6_stopped 3 = .ok (.invokestatic 117, 3) := by decide +kernel
theorem dX6_stopped_6 : decode cX6_stopped 6 = .ok (.ifCond .ne 7, 3) := by decide +kernel
theorem dX6_stopped_9 : decode cX6_stopped 9 = .ok (.sipush (-1002), 3) := by decide +kernel
theorem dX6_stopped_12 : decode cX6_stopped 12 = .ok (.ireturn, 1) := by decide +kernel
theorem dX6_stopped_13 : decode cX6_stopped 13 = .ok (.aload_n 0, 1) := by decide +kernel
theorem dX6_stopped_14 : decode cX6_stopped 14 = .ok (.getfield 47, 3) := by decide +kernel
theorem dX6_stopped_17 : decode cX6_stopped 17 = .ok (.ifCond .ne 7, 3) := by decide +kernel
theorem dX6_stopped_20 : decode cX6_stopped 20 = .ok (.sipush (-1005), 3) := by decide +kernel
theorem dX6_stopped_23 : decode cX6_stopped 23 = .ok (.ireturn, 1) := by decide +kernel
theorem dX6_stopped_24 : decode cX6_stopped 24 = .ok (.iload_n 1, 1) := by decide +kernel
theorem dX6_stopped_25 : decode cX6_stopped 25 = .ok (.ifCond .ne 10, 3) := by decide +kernel
theorem dX6_stopped_28 : decode cX6_stopped 28 = .ok (.aload_n 0, 1) := by decide +kernel
theorem dX6_stopped_29 : decode cX6_stopped 29 = .ok (.getfield 43, 3) := by decide +kernel
theorem dX6_stopped_32 : decode cX6_stopped 32 = .ok (.goto 7, 3) := by decide +kernel
theorem dX6_stopped_35 : decode cX6_stopped 35 = .ok (.aload_n 0, 1) := by decide +kernel
theorem dX6_stopped_36 : decode cX6_stopped 36 = .ok (.getfield 47, 3) := by decide +kernel
theorem dX6_stopped_39 : decode cX6_stopped 39 = .ok (.ireturn, 1) := by decide +kernel
set_option maxRecDepth 20000 in
theorem ggX6_undo_X1_moveLatestTo : GoodIn wsX6_undo wsX1_moveLatestTo := goodIn_r _ [8, 9, 10, 11, 12, 13, 14, 15, 16, 17, 18, 19, 20, 21, 22, 23, 24, 25, 26, 27, 28, 29, 30, 31, 32, 33, 34, 35, 36, 37, 38, 39, 40, 41, 42, 43, 44, 45, 46, 47, 48, 49, 50, 51, 52, 53, 54, 55, 56, 57, 58, 59, 60, 61, 71, 72, 73, 74, 75, 76, 77, 78, 79, 80, 81, 82, 83, 84, 85, 86, 87, 88, 89, 90, 91, 92] (by decide +kernel) (by decide +kernel)
set_option maxRecDepth 20000 in
theorem gX6_undo_X1_moveLatestTo : GoodIn wsX6_undo (wsV RX6 124 RX1 yX1_moveLatestTo wsX1_moveLatestTo) := goodIn_app (goodIn_of _ (by decide +kernel)) ggX6_undo_X1_moveLatestTo
theorem dX6_undo_0 : decode cX6_undo 0 = .ok (.aload_n 0, 1) := by decide +kernel
theorem dX6_undo_1 : decode cX6_undo 1 = .ok (.getfield 32, 3) := by decide +kernel
theorem dX6_undo_4 : decode cX6_undo 4 = .ok (.getfield 121, 3) := by decide +kernel
theorem dX6_undo_7 : decode cX6_undo 7 = .ok (.ifCond .ne 7, 3) := by decide +kernel
theorem dX6_undo_10 : decode cX6_undo 10 = .ok (.sipush (-1005), 3) := by decide +kernel
theorem dX6_undo_13 : decode cX6_undo 13 = .ok (.ireturn, 1) := by decide +kernel
theorem dX6_undo_14 : decode cX6_undo 14 = .ok (.aload_n 0, 1) := by decide +kernel
theorem dX6_undo_15 : decode cX6_undo 15 = .ok (.getfield 32, 3) := by decide +kernel
theorem dX6_undo_18 : decode cX6_undo 18 = .ok (.aload_n 0, 1) := by decide +kernel
theorem dX6_undo_19 : decode cX6_undo 19 = .ok (.getfield 10, 3) := by decide +kernel
theorem dX6_undo_22 : decode cX6_undo 22 = .ok (.invokevirtual 124, 3) := by decide +kernel
theorem dX6_undo_25 : decode cX6_undo 25 = .ok (.aload_n 0, 1) := by decide +kernel
theorem dX6_undo_26 : decode cX6_undo 26 = .ok (.getfield 32, 3) := by decide +kernel
theorem dX6_undo_29 : decode cX6_undo 29 = .ok (.getfield 121, 3) := by decide +kernel
theorem dX6_undo_32 : decode cX6_undo 32 = .ok (.ireturn, 1) := by decide +kernel
set_option maxRecDepth 20000 in
theorem ggX6_keep_X4_copyFrom : GoodIn wsX6_keep wsX4_copyFrom := goodIn_r _ [10, 11, 12, 13, 14, 15, 16, 17, 18, 19, 20, 21, 22, 23, 24, 25, 26, 27, 28, 29, 30, 31, 32, 33, 34, 35, 36, 37, 38, 39, 40, 41, 42, 43, 44, 45, 46, 47, 48, 49, 50, 51, 52, 53, 54, 55, 56, 66, 67, 68, 69, 70, 71, 79, 80, 72, 73, 74, 75, 76, 77, 78, 81, 82, 83, 84, 85] (by decide +kernel) (by decide +kernel)
set_option maxRecDepth 20000 in
theorem gX6_keep_X4_copyFrom : GoodIn wsX6_keep (wsV RX6 50 RX4 yX4_copyFrom wsX4_copyFrom) := goodIn_app (goodIn_of _ (by decide +kernel)) ggX6_keep_X4_copyFrom
theorem dX6_keep_0 : decode cX6_keep 0 = .ok (.aload_n 0, 1) := by decide +kernel
theorem dX6_keep_1 : decode cX6_keep 1 = .ok (.getfield 22, 3) := by decide +kernel
theorem dX6_keep_4 : decode cX6_keep 4 = .ok (.aload_n 0, 1) := by decide +kernel
theorem dX6_keep_5 : decode cX6_keep 5 = .ok (.getfield 10, 3) := by decide +kernel
theorem dX6_keep_8 : decode cX6_keep 8 = .ok (.invokevirtual 50, 3) := by decide +kernel
theorem dX6_keep_11 : decode cX6_keep 11 = .ok (.aload_n 0, 1) := by decide +kernel
theorem dX6_keep_12 : decode cX6_keep 12 = .ok (.iconst 1, 1) := by decide +kernel
theorem dX6_keep_13 : decode cX6_keep 13 = .ok (.putfield 25, 3) := by decide +kernel
theorem dX6_keep_16 : decode cX6_keep 16 = .ok (.aload_n 0, 1) := by decide +kernel
theorem dX6_keep_17 : decode cX6_keep 17 = .ok (.getfield 10, 3) := by decide +kernel
theorem dX6_keep_20 : decode cX6_keep 20 = .ok (.getfield 127, 3) := by decide +kernel
theorem dX6_keep_23 : decode cX6_keep 23 = .ok (.getfield 131, 3) := by decide +kernel
theorem dX6_keep_26 : decode cX6_keep 26 = .ok (.ireturn, 1) := by decide +kernel
set_option maxRecDepth 20000 in
theorem ggX6_restore_X4_copyFrom : GoodIn wsX6_restore wsX4_copyFrom := goodIn_r _ [11, 12, 13, 14, 15, 16, 17, 18, 19, 20, 21, 22, 23, 24, 25, 26, 27, 28, 29, 30, 31, 32, 33, 34, 35, 36, 37, 38, 39, 40, 41, 42, 43, 44, 45, 46, 47, 48, 49, 50, 51, 52, 53, 54, 55, 56, 57, 84, 85, 86, 87, 88, 89, 97, 98, 90, 91, 92, 93, 94, 95, 96, 99, 100, 101, 102, 103] (by decide +kernel) (by decide +kernel)
set_option maxRecDepth 20000 in
theorem gX6_restore_X4_copyFrom : GoodIn wsX6_restore (wsV RX6 50 RX4 yX4_copyFrom wsX4_copyFrom) := goodIn_app (goodIn_of _ (by decide +kernel)) ggX6_restore_X4_copyFrom
set_option maxRecDepth 20000 in
theorem ggX6_restore_X6_recorded : GoodIn wsX6_restore wsX6_recorded := goodIn_r _ [61, 62, 2, 63, 64, 65, 66, 67, 68, 69, 70, 71, 72, 73, 74, 8, 9, 10, 11, 12, 13, 14, 15, 16, 17, 18, 19, 20, 21, 22, 23, 24, 25, 26, 27, 28, 29, 30, 31, 32, 33, 34, 35, 36, 37, 38, 39, 40, 41, 42, 43, 44, 45, 46, 47, 48, 49, 50, 51, 52, 53, 54, 55, 56, 57, 75, 76, 77, 78, 79, 80, 81, 82, 83, 104, 105, 84, 85, 86, 87, 88, 89, 97, 98, 90, 91, 92, 93, 94, 95, 96, 99, 100, 101, 102, 103] (by decide +kernel) (by decide +kernel)
set_option maxRecDepth 20000 in
theorem gX6_restore_X6_recorded : GoodIn wsX6_restore (wsV RX6 58 RX6 yX6_recorded wsX6_recorded) := goodIn_app (goodIn_of _ (by decide +kernel)) ggX6_restore_X6_recorded
theorem dX6_restore_0 : decode cX6_restore 0 = .ok (.aload_n 0, 1) := by decide +kernel
theorem dX6_restore_1 : decode cX6_restore 1 = .ok (.getfield 25, 3) := by decide +kernel
theorem dX6_restore_4 : decode cX6_restore 4 = .ok (.ifCond .ne 7, 3) := by decide +kernel
theorem dX6_restore_7 : decode cX6_restore 7 = .ok (.sipush (-1005), 3) := by decide +kernel
theorem dX6_restore_10 : decode cX6_restore 10 = .ok (.ireturn, 1) := by decide +kernel
theorem dX6_restore_11 : decode cX6_restore 11 = .ok (.aload_n 0, 1) := by decide +kernel
theorem dX6_restore_12 : decode cX6_restore 12 = .ok (.getfield 16, 3) := by decide +kernel
theorem dX6_restore_15 : decode cX6_restore 15 = .ok (.aload_n 0, 1) := by decide +kernel
theorem dX6_restore_16 : decode cX6_restore 16 = .ok (.getfield 10, 3) := by decide +kernel
theorem dX6_restore_19 : decode cX6_restore 19 = .ok (.invokevirtual 50, 3) := by decide +kernel
theorem dX6_restore_22 : decode cX6_restore 22 = .ok (.aload_n 0, 1) := by decide +kernel
theorem dX6_restore_23 : decode cX6_restore 23 = .ok (.getfield 10, 3) := by decide +kernel
theorem dX6_restore_26 : decode cX6_restore 26 = .ok (.aload_n 0, 1) := by decide +kernel
theorem dX6_restore_27 : decode cX6_restore 27 = .ok (.getfield 22, 3) := by decide +kernel
theorem dX6_restore_30 : decode cX6_restore 30 = .ok (.invokevirtual 50, 3) := by decide +kernel
theorem dX6_restore_33 : decode cX6_restore 33 = .ok (.aload_n 0, 1) := by decide +kernel
theorem dX6_restore_34 : decode cX6_restore 34 = .ok (.aload_n 0, 1) := by decide +kernel
theorem dX6_restore_35 : decode cX6_restore 35 = .ok (.getfield 10, 3) := by decide +kernel
theorem dX6_restore_38 : decode cX6_restore 38 = .ok (.getfield 127, 3) := by decide +kernel
theorem dX6_restore_41 : decode cX6_restore 41 = .ok (.getfield 131, 3) := by decide +kernel
theorem dX6_restore_44 : decode cX6_restore 44 = .ok (.invokevirtual 58, 3) := by decide +kernel
theorem dX6_restore_47 : decode cX6_restore 47 = .ok (.ireturn, 1) := by decide +kernel
set_option maxRecDepth 20000 in
theorem ggX6_lamp_X4_tellOfLamp : GoodIn wsX6_lamp wsX4_tellOfLamp := goodIn_r _ [6, 7, 8, 9, 10, 11, 12, 13, 14, 15, 16, 17, 18, 19, 20, 21, 22, 23, 24, 25, 26, 27, 28, 29, 30, 31, 32, 33, 34, 35, 36, 37, 38, 39, 49, 50, 51, 52, 53, 54, 55, 56, 57, 58, 59, 60, 61] (by decide +kernel) (by decide +kernel)
set_option maxRecDepth 20000 in
theorem gX6_lamp_X4_tellOfLamp : GoodIn wsX6_lamp (wsV RX6 134 RX4 yX4_tellOfLamp wsX4_tellOfLamp) := goodIn_app (goodIn_of _ (by decide +kernel)) ggX6_lamp_X4_tellOfLamp
theorem dX6_lamp_0 : decode cX6_lamp 0 = .ok (.aload_n 0, 1) := by decide +kernel
theorem dX6_lamp_1 : decode cX6_lamp 1 = .ok (.getfield 10, 3) := by decide +kernel
theorem dX6_lamp_4 : decode cX6_lamp 4 = .ok (.iload_n 1, 1) := by decide +kernel
theorem dX6_lamp_5 : decode cX6_lamp 5 = .ok (.iload_n 2, 1) := by decide +kernel
theorem dX6_lamp_6 : decode cX6_lamp 6 = .ok (.invokevirtual 134, 3) := by decide +kernel
theorem dX6_lamp_9 : decode cX6_lamp 9 = .ok (.ireturn, 1) := by decide +kernel
set_option maxRecDepth 20000 in
theorem ggX6_rack_X4_tellOfRack : GoodIn wsX6_rack wsX4_tellOfRack := goodIn_r _ [6, 7, 8, 9, 10, 11, 12, 13, 14, 15, 16, 17, 18, 19, 5, 20, 21, 22, 23, 24, 25, 26, 27, 28, 29, 30, 31, 32, 33, 34, 35, 36, 37, 38, 39, 40, 41, 42, 43, 44, 45, 46, 47, 48, 49, 50, 51, 52, 53, 54, 64, 65, 66, 67, 68, 69, 70, 71, 72, 73, 74, 75, 76, 77, 78, 79, 80, 81] (by decide +kernel) (by decide +kernel)
set_option maxRecDepth 20000 in
theorem gX6_rack_X4_tellOfRack : GoodIn wsX6_rack (wsV RX6 137 RX4 yX4_tellOfRack wsX4_tellOfRack) := goodIn_app (goodIn_of _ (by decide +kernel)) ggX6_rack_X4_tellOfRack
theorem dX6_rack_0 : decode cX6_rack 0 = .ok (.aload_n 0, 1) := by decide +kernel
theorem dX6_rack_1 : decode cX6_rack 1 = .ok (.getfield 10, 3) := by decide +kernel
theorem dX6_rack_4 : decode cX6_rack 4 = .ok (.iload_n 1, 1) := by decide +kernel
theorem dX6_rack_5 : decode cX6_rack 5 = .ok (.iload_n 2, 1) := by decide +kernel
theorem dX6_rack_6 : decode cX6_rack 6 = .ok (.invokevirtual 137, 3) := by decide +kernel
theorem dX6_rack_9 : decode cX6_rack 9 = .ok (.ireturn, 1) := by decide +kernel
set_option maxRecDepth 20000 in
theorem ggX6_at_X6_isPlace : GoodIn wsX6_at wsX6_isPlace := goodIn_r _ [7, 8, 9, 6, 10, 11, 12, 13] (by decide +kernel) (by decide +kernel)
set_option maxRecDepth 20000 in
theorem gX6_at_X6_isPlace : GoodIn wsX6_at (va_wsS RX6 140 yX6_isPlace wsX6_isPlace) := goodIn_app (goodIn_of _ (by decide +kernel)) ggX6_at_X6_isPlace
set_option maxRecDepth 20000 in
theorem ggX6_at_X6_spotOf : GoodIn wsX6_at wsX6_spotOf := goodIn_r _ [16] (by decide +kernel) (by decide +kernel)
set_option maxRecDepth 20000 in
theorem gX6_at_X6_spotOf : GoodIn wsX6_at (va_wsS RX6 154 yX6_spotOf wsX6_spotOf) := goodIn_app (goodIn_of _ (by decide +kernel)) ggX6_at_X6_spotOf
theorem dX6_at_0 : decode cX6_at 0 = .ok (.iload_n 1, 1) := by decide +kernel
theorem dX6_at_1 : decode cX6_at 1 = .ok (.iload_n 2, 1) := by decide +kernel
theorem dX6_at_2 : decode cX6_at 2 = .ok (.invokestatic 140, 3) := by decide +kernel
theorem dX6_at_5 : decode cX6_at 5 = .ok (.ifCond .ne 7, 3) := by decide +kernel
theorem dX6_at_8 : decode cX6_at 8 = .ok (.sipush (-1001), 3) := by decide +kernel
theorem dX6_at_11 : decode cX6_at 11 = .ok (.ireturn, 1) := by decide +kernel
theorem dX6_at_12 : decode cX6_at 12 = .ok (.aload_n 0, 1) := by decide +kernel
theorem dX6_at_13 : decode cX6_at 13 = .ok (.getfield 10, 3) := by decide +kernel
theorem dX6_at_16 : decode cX6_at 16 = .ok (.getfield 144, 3) := by decide +kernel
theorem dX6_at_19 : decode cX6_at 19 = .ok (.getfield 148, 3) := by decide +kernel
theorem dX6_at_22 : decode cX6_at 22 = .ok (.iload_n 1, 1) := by decide +kernel
theorem dX6_at_23 : decode cX6_at 23 = .ok (.iload_n 2, 1) := by decide +kernel
theorem dX6_at_24 : decode cX6_at 24 = .ok (.invokestatic 154, 3) := by decide +kernel
theorem dX6_at_27 : decode cX6_at 27 = .ok (.iaload, 1) := by decide +kernel
theorem dX6_at_28 : decode cX6_at 28 = .ok (.istore_n 3, 1) := by decide +kernel
theorem dX6_at_29 : decode cX6_at 29 = .ok (.iload_n 3, 1) := by decide +kernel
theorem dX6_at_30 : decode cX6_at 30 = .ok (.iconst (-1), 1) := by decide +kernel
theorem dX6_at_31 : decode cX6_at 31 = .ok (.if_icmp .ne 9, 3) := by decide +kernel
theorem dX6_at_34 : decode cX6_at 34 = .ok (.sipush (-1005), 3) := by decide +kernel
theorem dX6_at_37 : decode cX6_at 37 = .ok (.goto 4, 3) := by decide +kernel
theorem dX6_at_40 : decode cX6_at 40 = .ok (.iload_n 3, 1) := by decide +kernel
theorem dX6_at_41 : decode cX6_at 41 = .ok (.ireturn, 1) := by decide +kernel
set_option maxRecDepth 20000 in
theorem ggX6_batch_X4_tellOfBatch : GoodIn wsX6_batch wsX4_tellOfBatch := goodIn_r _ [6, 7, 8, 9, 10, 11, 12, 13, 14, 15, 16, 17, 18, 19, 20, 21, 22, 23, 24, 25, 26, 27, 28, 29, 30, 31, 32, 33, 34, 35, 36, 37, 38, 39, 40, 41, 42, 43, 44, 45, 46, 47, 48, 49, 50, 51, 52, 53, 54, 55, 56, 66, 67, 68, 69, 70, 71, 72, 73, 74, 75, 76, 77, 78, 79, 80] (by decide +kernel) (by decide +kernel)
set_option maxRecDepth 20000 in
theorem gX6_batch_X4_tellOfBatch : GoodIn wsX6_batch (wsV RX6 157 RX4 yX4_tellOfBatch wsX4_tellOfBatch) := goodIn_app (goodIn_of _ (by decide +kernel)) ggX6_batch_X4_tellOfBatch
theorem dX6_batch_0 : decode cX6_batch 0 = .ok (.aload_n 0, 1) := by decide +kernel
theorem dX6_batch_1 : decode cX6_batch 1 = .ok (.getfield 10, 3) := by decide +kernel
theorem dX6_batch_4 : decode cX6_batch 4 = .ok (.iload_n 1, 1) := by decide +kernel
theorem dX6_batch_5 : decode cX6_batch 5 = .ok (.iload_n 2, 1) := by decide +kernel
theorem dX6_batch_6 : decode cX6_batch 6 = .ok (.invokevirtual 157, 3) := by decide +kernel
theorem dX6_batch_9 : decode cX6_batch 9 = .ok (.ireturn, 1) := by decide +kernel
set_option maxRecDepth 20000 in
theorem ggX6_lasted_X6_isBatch : GoodIn wsX6_lasted wsX6_isBatch := goodIn_r _ [7, 8, 9, 6, 10] (by decide +kernel) (by decide +kernel)
set_option maxRecDepth 20000 in
theorem gX6_lasted_X6_isBatch : GoodIn wsX6_lasted (va_wsS RX6 160 yX6_isBatch wsX6_isBatch) := goodIn_app (goodIn_of _ (by decide +kernel)) ggX6_lasted_X6_isBatch
set_option maxRecDepth 20000 in
theorem ggX6_lasted_X6_isWithin : GoodIn wsX6_lasted wsX6_isWithin := goodIn_r _ [10] (by decide +kernel) (by decide +kernel)
set_option maxRecDepth 20000 in
theorem gX6_lasted_X6_isWithin : GoodIn wsX6_lasted (va_wsS RX6 117 yX6_isWithin wsX6_isWithin) := goodIn_app (goodIn_of _ (by decide +kernel)) ggX6_lasted_X6_isWithin
set_option maxRecDepth 20000 in
theorem ggX6_lasted_X2_countThatLasted : GoodIn wsX6_lasted wsX2_countThatLasted := goodIn_r _ [15, 16, 17, 18, 19, 20, 14, 21, 22, 23, 6, 24, 40, 41, 42, 43, 44, 45, 46] (by decide +kernel) (by decide +kernel)
set_option maxRecDepth 20000 in
theorem gX6_lasted_X2_countThatLasted : GoodIn wsX6_lasted (wsV RX6 164 RX2 yX2_countThatLasted wsX2_countThatLasted) := goodIn_app (goodIn_of _ (by decide +kernel)) ggX6_lasted_X2_countThatLasted
theorem dX6_lasted_0 : decode cX6_lasted 0 = .ok (.iload_n 1, 1) := by decide +kernel
theorem dX6_lasted_1 : decode cX6_lasted 1 = .ok (.invokestatic 160, 3) := by decide +kernel
theorem dX6_lasted_4 : decode cX6_lasted 4 = .ok (.ifCond .ne 7, 3) := by decide +kernel
theorem dX6_lasted_7 : decode cX6_lasted 7 = .ok (.sipush (-1001), 3) := by decide +kernel
theorem dX6_lasted_10 : decode cX6_lasted 10 = .ok (.ireturn, 1) := by decide +kernel
theorem dX6_lasted_11 : decode cX6_lasted 11 = .ok (.iload_n 2, 1) := by decide +kernel
theorem dX6_lasted_12 : decode cX6_lasted 12 = .ok (.iconst 0, 1) := by decide +kernel
theorem dX6_lasted_13 : decode cX6_lasted 13 = .ok (.ldc 163, 2) := by decide +kernel
theorem dX6_lasted_15 : decode cX6_lasted 15 = .ok (.invokestatic 117, 3) := by decide +kernel
theorem dX6_lasted_18 : decode cX6_lasted 18 = .ok (.ifCond .ne 7, 3) := by decide +kernel
theorem dX6_lasted_21 : decode cX6_lasted 21 = .ok (.sipush (-1002), 3) := by decide +kernel
theorem dX6_lasted_24 : decode cX6_lasted 24 = .ok (.ireturn, 1) := by decide +kernel
theorem dX6_lasted_25 : decode cX6_lasted 25 = .ok (.aload_n 0, 1) := by decide +kernel
theorem dX6_lasted_26 : decode cX6_lasted 26 = .ok (.getfield 10, 3) := by decide +kernel
theorem dX6_lasted_29 : decode cX6_lasted 29 = .ok (.getfield 127, 3) := by decide +kernel
theorem dX6_lasted_32 : decode cX6_lasted 32 = .ok (.iload_n 1, 1) := by decide +kernel
theorem dX6_lasted_33 : decode cX6_lasted 33 = .ok (.iload_n 2, 1) := by decide +kernel
theorem dX6_lasted_34 : decode cX6_lasted 34 = .ok (.invokevirtual 164, 3) := by decide +kernel
theorem dX6_lasted_37 : decode cX6_lasted 37 = .ok (.ireturn, 1) := by decide +kernel
set_option maxRecDepth 20000 in
theorem ggX6_ended_X2_findEnded : GoodIn wsX6_ended wsX2_findEnded := goodIn_r _ [7, 8, 9, 10, 11, 6, 12, 13, 14, 15, 16, 17, 18, 19, 20, 36, 37, 38, 39, 40, 41, 42] (by decide +kernel) (by decide +kernel)
set_option maxRecDepth 20000 in
theorem gX6_ended_X2_findEnded : GoodIn wsX6_ended (wsV RX6 167 RX2 yX2_findEnded wsX2_findEnded) := goodIn_app (goodIn_of _ (by decide +kernel)) ggX6_ended_X2_findEnded
theorem dX6_ended_0 : decode cX6_ended 0 = .ok (.iload_n 1, 1) := by decide +kernel
theorem dX6_ended_1 : decode cX6_ended 1 = .ok (.ifCond .ge 7, 3) := by decide +kernel
theorem dX6_ended_4 : decode cX6_ended 4 = .ok (.sipush (-1002), 3) := by decide +kernel
theorem dX6_ended_7 : decode cX6_ended 7 = .ok (.ireturn, 1) := by decide +kernel
theorem dX6_ended_8 : decode cX6_ended 8 = .ok (.aload_n 0, 1) := by decide +kernel
theorem dX6_ended_9 : decode cX6_ended 9 = .ok (.getfield 10, 3) := by decide +kernel
theorem dX6_ended_12 : decode cX6_ended 12 = .ok (.getfield 127, 3) := by decide +kernel
theorem dX6_ended_15 : decode cX6_ended 15 = .ok (.iload_n 1, 1) := by decide +kernel
theorem dX6_ended_16 : decode cX6_ended 16 = .ok (.invokevirtual 167, 3) := by decide +kernel
theorem dX6_ended_19 : decode cX6_ended 19 = .ok (.istore_n 2, 1) := by decide +kernel
theorem dX6_ended_20 : decode cX6_ended 20 = .ok (.iload_n 2, 1) := by decide +kernel
theorem dX6_ended_21 : decode cX6_ended 21 = .ok (.iconst (-1), 1) := by decide +kernel
theorem dX6_ended_22 : decode cX6_ended 22 = .ok (.if_icmp .ne 9, 3) := by decide +kernel
theorem dX6_ended_25 : decode cX6_ended 25 = .ok (.sipush (-1005), 3) := by decide +kernel
theorem dX6_ended_28 : decode cX6_ended 28 = .ok (.goto 4, 3) := by decide +kernel
theorem dX6_ended_31 : decode cX6_ended 31 = .ok (.iload_n 2, 1) := by decide +kernel
theorem dX6_ended_32 : decode cX6_ended 32 = .ok (.ireturn, 1) := by decide +kernel
set_option maxRecDepth 20000 in
theorem ggX6_lasts_X2_has : GoodIn wsX6_lasts wsX2_has := goodIn_r _ [8, 9, 10, 11, 12, 55, 56, 57, 58, 59, 60, 61] (by decide +kernel) (by decide +kernel)
set_option maxRecDepth 20000 in
theorem gX6_lasts_X2_has : GoodIn wsX6_lasts (wsV RX6 170 RX2 yX2_has wsX2_has) := goodIn_app (goodIn_of _ (by decide +kernel)) ggX6_lasts_X2_has
set_option maxRecDepth 20000 in
theorem ggX6_lasts_X6_isWithin : GoodIn wsX6_lasts wsX6_isWithin := goodIn_r _ [12] (by decide +kernel) (by decide +kernel)
set_option maxRecDepth 20000 in
theorem gX6_lasts_X6_isWithin : GoodIn wsX6_lasts (va_wsS RX6 117 yX6_isWithin wsX6_isWithin) := goodIn_app (goodIn_of _ (by decide +kernel)) ggX6_lasts_X6_isWithin
set_option maxRecDepth 20000 in
theorem ggX6_lasts_X2_isDead : GoodIn wsX6_lasts wsX2_isDead := goodIn_r _ [17, 18, 55, 56, 57, 58, 59, 60, 61] (by decide +kernel) (by decide +kernel)
set_option maxRecDepth 20000 in
theorem gX6_lasts_X2_isDead : GoodIn wsX6_lasts (wsV RX6 173 RX2 yX2_isDead wsX2_isDead) := goodIn_app (goodIn_of _ (by decide +kernel)) ggX6_lasts_X2_isDead
set_option maxRecDepth 20000 in
theorem ggX6_lasts_X6_isHot : GoodIn wsX6_lasts wsX6_isHot := goodIn_r _ [21, 13, 10, 11, 12] (by decide +kernel) (by decide +kernel)
set_option maxRecDepth 20000 in
theorem gX6_lasts_X6_isHot : GoodIn wsX6_lasts (va_wsS RX6 179 yX6_isHot wsX6_isHot) := goodIn_app (goodIn_of _ (by decide +kernel)) ggX6_lasts_X6_isHot
set_option maxRecDepth 20000 in
theorem ggX6_lasts_X4_wearOfHour : GoodIn wsX6_lasts wsX4_wearOfHour := goodIn_r _ [26, 27, 28, 29, 30, 31, 32, 49, 50, 51, 52, 53, 54] (by decide +kernel) (by decide +kernel)
set_option maxRecDepth 20000 in
theorem gX6_lasts_X4_wearOfHour : GoodIn wsX6_lasts (wsV RX6 182 RX4 yX4_wearOfHour wsX4_wearOfHour) := goodIn_app (goodIn_of _ (by decide +kernel)) ggX6_lasts_X4_wearOfHour
set_option maxRecDepth 20000 in
theorem ggX6_lasts_X2_hoursLeft : GoodIn wsX6_lasts wsX2_hoursLeft := goodIn_r _ [36, 37, 30, 31, 32, 38, 39, 55, 56, 57, 58, 59, 60, 61] (by decide +kernel) (by decide +kernel)
set_option maxRecDepth 20000 in
theorem gX6_lasts_X2_hoursLeft : GoodIn wsX6_lasts (wsV RX6 186 RX2 yX2_hoursLeft wsX2_hoursLeft) := goodIn_app (goodIn_of _ (by decide +kernel)) ggX6_lasts_X2_hoursLeft
theorem dX6_lasts_0 : decode cX6_lasts 0 = .ok (.aload_n 0, 1) := by decide +kernel
theorem dX6_lasts_1 : decode cX6_lasts 1 = .ok (.getfield 10, 3) := by decide +kernel
theorem dX6_lasts_4 : decode cX6_lasts 4 = .ok (.getfield 127, 3) := by decide +kernel
theorem dX6_lasts_7 : decode cX6_lasts 7 = .ok (.iload_n 1, 1) := by decide +kernel
theorem dX6_lasts_8 : decode cX6_lasts 8 = .ok (.invokevirtual 170, 3) := by decide +kernel
theorem dX6_lasts_11 : decode cX6_lasts 11 = .ok (.ifCond .ne 7, 3) := by decide +kernel
theorem dX6_lasts_14 : decode cX6_lasts 14 = .ok (.sipush (-1001), 3) := by decide +kernel
theorem dX6_lasts_17 : decode cX6_lasts 17 = .ok (.ireturn, 1) := by decide +kernel
theorem dX6_lasts_18 : decode cX6_lasts 18 = .ok (.iload_n 2, 1) := by decide +kernel
theorem dX6_lasts_19 : decode cX6_lasts 19 = .ok (.iconst 1, 1) := by decide +kernel
theorem dX6_lasts_20 : decode cX6_lasts 20 = .ok (.sipush 300, 3) := by decide +kernel
theorem dX6_lasts_23 : decode cX6_lasts 23 = .ok (.invokestatic 117, 3) := by decide +kernel
theorem dX6_lasts_26 : decode cX6_lasts 26 = .ok (.ifCond .ne 7, 3) := by decide +kernel
theorem dX6_lasts_29 : decode cX6_lasts 29 = .ok (.sipush (-1002), 3) := by decide +kernel
theorem dX6_lasts_32 : decode cX6_lasts 32 = .ok (.ireturn, 1) := by decide +kernel
theorem dX6_lasts_33 : decode cX6_lasts 33 = .ok (.aload_n 0, 1) := by decide +kernel
theorem dX6_lasts_34 : decode cX6_lasts 34 = .ok (.getfield 10, 3) := by decide +kernel
theorem dX6_lasts_37 : decode cX6_lasts 37 = .ok (.getfield 127, 3) := by decide +kernel
theorem dX6_lasts_40 : decode cX6_lasts 40 = .ok (.iload_n 1, 1) := by decide +kernel
theorem dX6_lasts_41 : decode cX6_lasts 41 = .ok (.invokevirtual 173, 3) := by decide +kernel
theorem dX6_lasts_44 : decode cX6_lasts 44 = .ok (.ifCond .eq 7, 3) := by decide +kernel
theorem dX6_lasts_47 : decode cX6_lasts 47 = .ok (.sipush (-1004), 3) := by decide +kernel
theorem dX6_lasts_50 : decode cX6_lasts 50 = .ok (.ireturn, 1) := by decide +kernel
theorem dX6_lasts_51 : decode cX6_lasts 51 = .ok (.aload_n 0, 1) := by decide +kernel
theorem dX6_lasts_52 : decode cX6_lasts 52 = .ok (.getfield 10, 3) := by decide +kernel
theorem dX6_lasts_55 : decode cX6_lasts 55 = .ok (.iload_n 2, 1) := by decide +kernel
theorem dX6_lasts_56 : decode cX6_lasts 56 = .ok (.aload_n 0, 1) := by decide +kernel
theorem dX6_lasts_57 : decode cX6_lasts 57 = .ok (.getfield 10, 3) := by decide +kernel
theorem dX6_lasts_60 : decode cX6_lasts 60 = .ok (.getfield 127, 3) := by decide +kernel
theorem dX6_lasts_63 : decode cX6_lasts 63 = .ok (.getfield 176, 3) := by decide +kernel
theorem dX6_lasts_66 : decode cX6_lasts 66 = .ok (.iload_n 1, 1) := by decide +kernel
theorem dX6_lasts_67 : decode cX6_lasts 67 = .ok (.iaload, 1) := by decide +kernel
theorem dX6_lasts_68 : decode cX6_lasts 68 = .ok (.invokestatic 179, 3) := by decide +kernel
theorem dX6_lasts_71 : decode cX6_lasts 71 = .ok (.invokevirtual 182, 3) := by decide +kernel
theorem dX6_lasts_74 : decode cX6_lasts 74 = .ok (.istore_n 3, 1) := by decide +kernel
theorem dX6_lasts_75 : decode cX6_lasts 75 = .ok (.aload_n 0, 1) := by decide +kernel
theorem dX6_lasts_76 : decode cX6_lasts 76 = .ok (.getfield 10, 3) := by decide +kernel
theorem dX6_lasts_79 : decode cX6_lasts 79 = .ok (.getfield 127, 3) := by decide +kernel
theorem dX6_lasts_82 : decode cX6_lasts 82 = .ok (.iload_n 1, 1) := by decide +kernel
theorem dX6_lasts_83 : decode cX6_lasts 83 = .ok (.iload_n 3, 1) := by decide +kernel
theorem dX6_lasts_84 : decode cX6_lasts 84 = .ok (.invokevirtual 186, 3) := by decide +kernel
theorem dX6_lasts_87 : decode cX6_lasts 87 = .ok (.ireturn, 1) := by decide +kernel
set_option maxRecDepth 20000 in
theorem ggX6_reason_X2_has : GoodIn wsX6_reason wsX2_has := goodIn_r _ [7, 8, 9, 10, 11, 46, 47, 48, 49, 50, 51, 52] (by decide +kernel) (by decide +kernel)
set_option maxRecDepth 20000 in
theorem gX6_reason_X2_has : GoodIn wsX6_reason (wsV RX6 170 RX2 yX2_has wsX2_has) := goodIn_app (goodIn_of _ (by decide +kernel)) ggX6_reason_X2_has
set_option maxRecDepth 20000 in
theorem ggX6_reason_X4_whyDark : GoodIn wsX6_reason wsX4_whyDark := goodIn_r _ [16, 17, 18, 19, 20, 21, 22, 6, 23, 24, 25, 26, 27, 28, 29, 30, 40, 41, 42, 43, 44, 45, 46, 47, 48, 49, 50, 51, 52, 53, 54, 55, 56, 57] (by decide +kernel) (by decide +kernel)
set_option maxRecDepth 20000 in
theorem gX6_reason_X4_whyDark : GoodIn wsX6_reason (wsV RX6 189 RX4 yX4_whyDark wsX4_whyDark) := goodIn_app (goodIn_of _ (by decide +kernel)) ggX6_reason_X4_whyDark
theorem dX6_reason_0 : decode cX6_reason 0 = .ok (.aload_n 0, 1) := by decide +kernel
theorem dX6_reason_1 : decode cX6_reason 1 = .ok (.getfield 10, 3) := by decide +kernel
theorem dX6_reason_4 : decode cX6_reason 4 = .ok (.getfield 127, 3) := by decide +kernel
theorem dX6_reason_7 : decode cX6_reason 7 = .ok (.iload_n 1, 1) := by decide +kernel
theorem dX6_reason_8 : decode cX6_reason 8 = .ok (.invokevirtual 170, 3) := by decide +kernel
theorem dX6_reason_11 : decode cX6_reason 11 = .ok (.ifCond .ne 7, 3) := by decide +kernel
theorem dX6_reason_14 : decode cX6_reason 14 = .ok (.sipush (-1001), 3) := by decide +kernel
theorem dX6_reason_17 : decode cX6_reason 17 = .ok (.ireturn, 1) := by decide +kernel
theorem dX6_reason_18 : decode cX6_reason 18 = .ok (.aload_n 0, 1) := by decide +kernel
theorem dX6_reason_19 : decode cX6_reason 19 = .ok (.getfield 10, 3) := by decide +kernel
theorem dX6_reason_22 : decode cX6_reason 22 = .ok (.iload_n 1, 1) := by decide +kernel
theorem dX6_reason_23 : decode cX6_reason 23 = .ok (.invokevirtual 189, 3) := by decide +kernel
theorem dX6_reason_26 : decode cX6_reason 26 = .ok (.ireturn, 1) := by decide +kernel
set_option maxRecDepth 20000 in
theorem ggX6_next_X6_isWithin : GoodIn wsX6_next wsX6_isWithin := goodIn_r _ [9] (by decide +kernel) (by decide +kernel)
set_option maxRecDepth 20000 in
theorem gX6_next_X6_isWithin : GoodIn wsX6_next (va_wsS RX6 117 yX6_isWithin wsX6_isWithin) := goodIn_app (goodIn_of _ (by decide +kernel)) ggX6_next_X6_isWithin
set_option maxRecDepth 20000 in
theorem ggX6_next_X4_copyFrom : GoodIn wsX6_next wsX4_copyFrom := goodIn_r _ [14, 15, 16, 17, 18, 19, 20, 21, 22, 23, 24, 25, 26, 27, 28, 8, 29, 30, 31, 32, 33, 34, 35, 36, 37, 38, 39, 40, 41, 42, 43, 44, 45, 46, 47, 48, 49, 50, 51, 52, 53, 54, 55, 56, 57, 58, 59, 135, 136, 137, 138, 139, 140, 148, 149, 141, 142, 143, 144, 145, 146, 147, 150, 151, 152, 153, 154] (by decide +kernel) (by decide +kernel)
set_option maxRecDepth 20000 in
theorem gX6_next_X4_copyFrom : GoodIn wsX6_next (wsV RX6 50 RX4 yX4_copyFrom wsX4_copyFrom) := goodIn_app (goodIn_of _ (by decide +kernel)) ggX6_next_X4_copyFrom
set_option maxRecDepth 20000 in
theorem ggX6_next_X4_passHours : GoodIn wsX6_next wsX4_passHours := goodIn_r _ [63, 15, 64, 65, 66, 13, 67, 20, 68, 69, 32, 70, 71, 72, 73, 53, 74, 57, 56, 75, 31, 33, 76, 77, 78, 79, 58, 80, 81, 82, 83, 84, 59, 85, 86, 87, 88, 89, 19, 90, 91, 92, 93, 94, 95, 96, 97, 8, 98, 99, 100, 101, 41, 102, 49, 103, 104, 6, 7, 9, 105, 106, 107, 108, 16, 17, 109, 110, 111, 112, 113, 46, 47, 114, 115, 116, 117, 48, 118, 119, 120, 121, 135, 136, 137, 138, 139, 140, 150, 151, 152, 153, 154, 141, 142, 143, 144, 145, 146, 147] (by decide +kernel) (by decide +kernel)
set_option maxRecDepth 20000 in
theorem gX6_next_X4_passHours : GoodIn wsX6_next (wsV RX6 192 RX4 yX4_passHours wsX4_passHours) := goodIn_app (goodIn_of _ (by decide +kernel)) ggX6_next_X4_passHours
set_option maxRecDepth 20000 in
theorem ggX6_next_X2_findFirstEndedAfter : GoodIn wsX6_next wsX2_findFirstEndedAfter := goodIn_r _ [125, 43, 49, 141, 142, 143, 144, 145, 146, 147] (by decide +kernel) (by decide +kernel)
set_option maxRecDepth 20000 in
theorem gX6_next_X2_findFirstEndedAfter : GoodIn wsX6_next (wsV RX6 198 RX2 yX2_findFirstEndedAfter wsX2_findFirstEndedAfter) := goodIn_app (goodIn_of _ (by decide +kernel)) ggX6_next_X2_findFirstEndedAfter
theorem dX6_next_0 : decode cX6_next 0 = .ok (.iload_n 1, 1) := by decide +kernel
theorem dX6_next_1 : decode cX6_next 1 = .ok (.iconst 0, 1) := by decide +kernel
theorem dX6_next_2 : decode cX6_next 2 = .ok (.iconst 1, 1) := by decide +kernel
theorem dX6_next_3 : decode cX6_next 3 = .ok (.invokestatic 117, 3) := by decide +kernel
theorem dX6_next_6 : decode cX6_next 6 = .ok (.ifCond .ne 7, 3) := by decide +kernel
theorem dX6_next_9 : decode cX6_next 9 = .ok (.sipush (-1002), 3) := by decide +kernel
theorem dX6_next_12 : decode cX6_next 12 = .ok (.ireturn, 1) := by decide +kernel
theorem dX6_next_13 : decode cX6_next 13 = .ok (.aload_n 0, 1) := by decide +kernel
theorem dX6_next_14 : decode cX6_next 14 = .ok (.getfield 19, 3) := by decide +kernel
theorem dX6_next_17 : decode cX6_next 17 = .ok (.aload_n 0, 1) := by decide +kernel
theorem dX6_next_18 : decode cX6_next 18 = .ok (.getfield 10, 3) := by decide +kernel
theorem dX6_next_21 : decode cX6_next 21 = .ok (.invokevirtual 50, 3) := by decide +kernel
theorem dX6_next_24 : decode cX6_next 24 = .ok (.aload_n 0, 1) := by decide +kernel
theorem dX6_next_25 : decode cX6_next 25 = .ok (.getfield 19, 3) := by decide +kernel
theorem dX6_next_28 : decode cX6_next 28 = .ok (.sipush 3000, 3) := by decide +kernel
theorem dX6_next_31 : decode cX6_next 31 = .ok (.invokevirtual 192, 3) := by decide +kernel
theorem dX6_next_34 : decode cX6_next 34 = .ok (.pop, 1) := by decide +kernel
theorem dX6_next_35 : decode cX6_next 35 = .ok (.aload_n 0, 1) := by decide +kernel
theorem dX6_next_36 : decode cX6_next 36 = .ok (.getfield 19, 3) := by decide +kernel
theorem dX6_next_39 : decode cX6_next 39 = .ok (.getfield 127, 3) := by decide +kernel
theorem dX6_next_42 : decode cX6_next 42 = .ok (.aload_n 0, 1) := by decide +kernel
theorem dX6_next_43 : decode cX6_next 43 = .ok (.getfield 10, 3) := by decide +kernel
theorem dX6_next_46 : decode cX6_next 46 = .ok (.getfield 195, 3) := by decide +kernel
theorem dX6_next_49 : decode cX6_next 49 = .ok (.invokevirtual 198, 3) := by decide +kernel
theorem dX6_next_52 : decode cX6_next 52 = .ok (.istore_n 2, 1) := by decide +kernel
theorem dX6_next_53 : decode cX6_next 53 = .ok (.iload_n 2, 1) := by decide +kernel
theorem dX6_next_54 : decode cX6_next 54 = .ok (.iconst (-1), 1) := by decide +kernel
theorem dX6_next_55 : decode cX6_next 55 = .ok (.if_icmp .ne 7, 3) := by decide +kernel
theorem dX6_next_58 : decode cX6_next 58 = .ok (.sipush (-1005), 3) := by decide +kernel
theorem dX6_next_61 : decode cX6_next 61 = .ok (.ireturn, 1) := by decide +kernel
theorem dX6_next_62 : decode cX6_next 62 = .ok (.iload_n 1, 1) := by decide +kernel
theorem dX6_next_63 : decode cX6_next 63 = .ok (.ifCond .ne 7, 3) := by decide +kernel
theorem dX6_next_66 : decode cX6_next 66 = .ok (.iload_n 2, 1) := by decide +kernel
theorem dX6_next_67 : decode cX6_next 67 = .ok (.goto 23, 3) := by decide +kernel
theorem dX6_next_70 : decode cX6_next 70 = .ok (.aload_n 0, 1) := by decide +kernel
theorem dX6_next_71 : decode cX6_next 71 = .ok (.getfield 19, 3) := by decide +kernel
theorem dX6_next_74 : decode cX6_next 74 = .ok (.getfield 127, 3) := by decide +kernel
theorem dX6_next_77 : decode cX6_next 77 = .ok (.getfield 201, 3) := by decide +kernel
theorem dX6_next_80 : decode cX6_next 80 = .ok (.iload_n 2, 1) := by decide +kernel
theorem dX6_next_81 : decode cX6_next 81 = .ok (.iaload, 1) := by decide +kernel
theorem dX6_next_82 : decode cX6_next 82 = .ok (.aload_n 0, 1) := by decide +kernel
theorem dX6_next_83 : decode cX6_next 83 = .ok (.getfield 10, 3) := by decide +kernel
theorem dX6_next_86 : decode cX6_next 86 = .ok (.getfield 195, 3) := by decide +kernel
theorem dX6_next_89 : decode cX6_next 89 = .ok (.isub, 1) := by decide +kernel
theorem dX6_next_90 : decode cX6_next 90 = .ok (.ireturn, 1) := by decide +kernel
set_option maxRecDepth 20000 in
theorem ggX6_count_X4_tellOfAll : GoodIn wsX6_count wsX4_tellOfAll := goodIn_r _ [10, 11, 12, 13, 14, 15, 16, 17, 18, 19, 20, 21, 22, 23, 24, 25, 26, 27, 28, 29, 30, 9, 31, 32, 33, 34, 35, 36, 37, 38, 39, 40, 41, 42, 43, 44, 45, 46, 47, 48, 49, 50, 51, 52, 53, 54, 55, 56, 57, 58, 59, 60, 61, 62, 63, 64, 65, 66, 67, 68, 69, 70, 92, 93, 94, 95, 96, 97, 98, 99, 100, 101, 102, 103, 104, 105, 106, 107, 108, 109] (by decide +kernel) (by decide +kernel)
set_option maxRecDepth 20000 in
theorem gX6_count_X4_tellOfAll : GoodIn wsX6_count (wsV RX6 207 RX4 yX4_tellOfAll wsX4_tellOfAll) := goodIn_app (goodIn_of _ (by decide +kernel)) ggX6_count_X4_tellOfAll
theorem dX6_count_0 : decode cX6_count 0 = .ok (.iload_n 1, 1) := by decide +kernel
theorem dX6_count_1 : decode cX6_count 1 = .ok (.lookupswitch 43 #[(10, 27), (11, 35)], 27) := by decide +kernel
theorem dX6_count_28 : decode cX6_count 28 = .ok (.aload_n 0, 1) := by decide +kernel
theorem dX6_count_29 : decode cX6_count 29 = .ok (.getfield 32, 3) := by decide +kernel
theorem dX6_count_32 : decode cX6_count 32 = .ok (.getfield 121, 3) := by decide +kernel
theorem dX6_count_35 : decode cX6_count 35 = .ok (.ireturn, 1) := by decide +kernel
theorem dX6_count_36 : decode cX6_count 36 = .ok (.aload_n 0, 1) := by decide +kernel
theorem dX6_count_37 : decode cX6_count 37 = .ok (.getfield 39, 3) := by decide +kernel
theorem dX6_count_40 : decode cX6_count 40 = .ok (.getfield 204, 3) := by decide +kernel
theorem dX6_count_43 : decode cX6_count 43 = .ok (.ireturn, 1) := by decide +kernel
theorem dX6_count_44 : decode cX6_count 44 = .ok (.aload_n 0, 1) := by decide +kernel
theorem dX6_count_45 : decode cX6_count 45 = .ok (.getfield 10, 3) := by decide +kernel
theorem dX6_count_48 : decode cX6_count 48 = .ok (.iload_n 1, 1) := by decide +kernel
theorem dX6_count_49 : decode cX6_count 49 = .ok (.invokevirtual 207, 3) := by decide +kernel
theorem dX6_count_52 : decode cX6_count 52 = .ok (.ireturn, 1) := by decide +kernel
set_option maxRecDepth 20000 in
theorem ggX6_recorded_X1_append : GoodIn wsX6_recorded wsX1_append := goodIn_r _ [7, 8, 9, 10, 11, 12, 6, 13, 14, 15, 16, 17, 18, 19, 20, 21, 22, 23, 24, 25, 26, 27, 28, 29, 30, 31, 32, 33, 34, 35, 36, 37, 38, 39, 40, 41, 42, 43, 44, 45, 46, 47, 48, 49, 50, 51, 52, 53, 54, 55, 56, 57, 58, 59, 60, 61, 62, 63, 64, 74, 75, 76, 77, 78, 79, 80, 81, 82, 83, 84, 85, 86, 87, 88, 89, 90, 91, 92, 93, 94, 95] (by decide +kernel) (by decide +kernel)
set_option maxRecDepth 20000 in
theorem gX6_recorded_X1_append : GoodIn wsX6_recorded (wsV RX6 210 RX1 yX1_append wsX1_append) := goodIn_app (goodIn_of _ (by decide +kernel)) ggX6_recorded_X1_append
theorem dX6_recorded_0 : decode cX6_recorded 0 = .ok (.iload_n 1, 1) := by decide +kernel
theorem dX6_recorded_1 : decode cX6_recorded 1 = .ok (.ifCond .lt 14, 3) := by decide +kernel
theorem dX6_recorded_4 : decode cX6_recorded 4 = .ok (.aload_n 0, 1) := by decide +kernel
theorem dX6_recorded_5 : decode cX6_recorded 5 = .ok (.getfield 32, 3) := by decide +kernel
theorem dX6_recorded_8 : decode cX6_recorded 8 = .ok (.aload_n 0, 1) := by decide +kernel
theorem dX6_recorded_9 : decode cX6_recorded 9 = .ok (.getfield 16, 3) := by decide +kernel
theorem dX6_recorded_12 : decode cX6_recorded 12 = .ok (.invokevirtual 210, 3) := by decide +kernel
theorem dX6_recorded_15 : decode cX6_recorded 15 = .ok (.iload_n 1, 1) := by decide +kernel
theorem dX6_recorded_16 : decode cX6_recorded 16 = .ok (.ireturn, 1) := by decide +kernel
set_option maxRecDepth 20000 in
theorem ggX6_doThing_X4_insertLamp : GoodIn wsX6_doThing wsX4_insertLamp := goodIn_r _ [13, 14, 15, 16, 17, 18, 19, 20, 21, 22, 23, 24, 25, 26, 27, 28, 29, 30, 31, 32, 33, 34, 35, 36, 37, 38, 39, 40, 41, 42, 43, 44, 45, 46, 47, 48, 49, 50, 51, 52, 53, 54, 55, 56, 57, 58, 59, 60, 61, 62, 63, 171, 172, 173, 174, 175, 176, 177, 178, 179, 180, 181, 182, 183, 184, 185, 186, 187, 188, 189, 190] (by decide +kernel) (by decide +kernel)
set_option maxRecDepth 20000 in
theorem gX6_doThing_X4_insertLamp : GoodIn wsX6_doThing (wsV RX6 62 RX4 yX4_insertLamp wsX4_insertLamp) := goodIn_app (goodIn_of _ (by decide +kernel)) ggX6_doThing_X4_insertLamp
set_option maxRecDepth 20000 in
theorem ggX6_doThing_X4_removeLamp : GoodIn wsX6_doThing wsX4_removeLamp := goodIn_r _ [67, 14, 15, 16, 68, 19, 20, 21, 22, 23, 24, 25, 26, 27, 30, 31, 171, 172, 173, 174, 175, 176, 177, 178, 179, 180, 181, 182, 183, 184, 185, 186, 187, 188] (by decide +kernel) (by decide +kernel)
set_option maxRecDepth 20000 in
theorem gX6_doThing_X4_removeLamp : GoodIn wsX6_doThing (wsV RX6 65 RX4 yX4_removeLamp wsX4_removeLamp) := goodIn_app (goodIn_of _ (by decide +kernel)) ggX6_doThing_X4_removeLamp
set_option maxRecDepth 20000 in
theorem ggX6_doThing_X4_changeVolts : GoodIn wsX6_doThing wsX4_changeVolts := goodIn_r _ [72, 14, 73, 23, 20, 24, 25, 26, 27, 171, 172, 173, 174, 175, 176, 177, 178, 179, 180, 181] (by decide +kernel) (by decide +kernel)
set_option maxRecDepth 20000 in
theorem gX6_doThing_X4_changeVolts : GoodIn wsX6_doThing (wsV RX6 73 RX4 yX4_changeVolts wsX4_changeVolts) := goodIn_app (goodIn_of _ (by decide +kernel)) ggX6_doThing_X4_changeVolts
set_option maxRecDepth 20000 in
theorem ggX6_doThing_X4_changeSteps : GoodIn wsX6_doThing wsX4_changeSteps := goodIn_r _ [77, 14, 78, 79, 80, 23, 20, 24, 25, 26, 27, 171, 172, 173, 174, 175, 176, 177, 178, 179, 180, 181] (by decide +kernel) (by decide +kernel)
set_option maxRecDepth 20000 in
theorem gX6_doThing_X4_changeSteps : GoodIn wsX6_doThing (wsV RX6 76 RX4 yX4_changeSteps wsX4_changeSteps) := goodIn_app (goodIn_of _ (by decide +kernel)) ggX6_doThing_X4_changeSteps
set_option maxRecDepth 20000 in
theorem ggX6_doThing_X4_letPass : GoodIn wsX6_doThing wsX4_letPass := goodIn_r _ [84, 85, 86, 26, 20, 27, 87, 88, 89, 12, 90, 91, 92, 93, 94, 14, 95, 46, 47, 48, 96, 97, 98, 99, 100, 101, 102, 103, 104, 105, 106, 107, 108, 109, 110, 111, 112, 113, 114, 115, 116, 117, 118, 119, 120, 15, 16, 73, 121, 122, 123, 124, 125, 126, 30, 31, 127, 128, 129, 35, 130, 63, 131, 132, 25, 133, 134, 135, 136, 137, 138, 139, 140, 141, 142, 143, 60, 61, 144, 145, 146, 147, 62, 148, 149, 150, 151, 171, 172, 173, 174, 175, 176, 177, 178, 179, 180, 181, 182, 183, 184, 185, 186, 187, 188] (by decide +kernel) (by decide +kernel)
set_option maxRecDepth 20000 in
theorem gX6_doThing_X4_letPass : GoodIn wsX6_doThing (wsV RX6 82 RX4 yX4_letPass wsX4_letPass) := goodIn_app (goodIn_of _ (by decide +kernel)) ggX6_doThing_X4_letPass
theorem dX6_doThing_0 : decode cX6_doThing 0 = .ok (.aload_n 0, 1) := by decide +kernel
theorem dX6_doThing_1 : decode cX6_doThing 1 = .ok (.getfield 39, 3) := by decide +kernel
theorem dX6_doThing_4 : decode cX6_doThing 4 = .ok (.getfield 212, 3) := by decide +kernel
theorem dX6_doThing_7 : decode cX6_doThing 7 = .ok (.tableswitch 151 112 118 #[41, 151, 151, 114, 70, 151, 92], 41) := by decide +kernel
theorem dX6_doThing_48 : decode cX6_doThing 48 = .ok (.aload_n 0, 1) := by decide +kernel
theorem dX6_doThing_49 : decode cX6_doThing 49 = .ok (.getfield 10, 3) := by decide +kernel
theorem dX6_doThing_52 : decode cX6_doThing 52 = .ok (.aload_n 0, 1) := by decide +kernel
theorem dX6_doThing_53 : decode cX6_doThing 53 = .ok (.getfield 39, 3) := by decide +kernel
theorem dX6_doThing_56 : decode cX6_doThing 56 = .ok (.getfield 215, 3) := by decide +kernel
theorem dX6_doThing_59 : decode cX6_doThing 59 = .ok (.aload_n 0, 1) := by decide +kernel
theorem dX6_doThing_60 : decode cX6_doThing 60 = .ok (.getfield 39, 3) := by decide +kernel
theorem dX6_doThing_63 : decode cX6_doThing 63 = .ok (.getfield 218, 3) := by decide +kernel
theorem dX6_doThing_66 : decode cX6_doThing 66 = .ok (.aload_n 0, 1) := by decide +kernel
theorem dX6_doThing_67 : decode cX6_doThing 67 = .ok (.getfield 39, 3) := by decide +kernel
theorem dX6_doThing_70 : decode cX6_doThing 70 = .ok (.getfield 221, 3) := by decide +kernel
theorem dX6_doThing_73 : decode cX6_doThing 73 = .ok (.invokevirtual 62, 3) := by decide +kernel
theorem dX6_doThing_76 : decode cX6_doThing 76 = .ok (.ireturn, 1) := by decide +kernel
theorem dX6_doThing_77 : decode cX6_doThing 77 = .ok (.aload_n 0, 1) := by decide +kernel
theorem dX6_doThing_78 : decode cX6_doThing 78 = .ok (.getfield 10, 3) := by decide +kernel
theorem dX6_doThing_81 : decode cX6_doThing 81 = .ok (.aload_n 0, 1) := by decide +kernel
theorem dX6_doThing_82 : decode cX6_doThing 82 = .ok (.getfield 39, 3) := by decide +kernel
theorem dX6_doThing_85 : decode cX6_doThing 85 = .ok (.getfield 215, 3) := by decide +kernel
theorem dX6_doThing_88 : decode cX6_doThing 88 = .ok (.aload_n 0, 1) := by decide +kernel
theorem dX6_doThing_89 : decode cX6_doThing 89 = .ok (.getfield 39, 3) := by decide +kernel
theorem dX6_doThing_92 : decode cX6_doThing 92 = .ok (.getfield 218, 3) := by decide +kernel
theorem dX6_doThing_95 : decode cX6_doThing 95 = .ok (.invokevirtual 65, 3) := by decide +kernel
theorem dX6_doThing_98 : decode cX6_doThing 98 = .ok (.ireturn, 1) := by decide +kernel
theorem dX6_doThing_99 : decode cX6_doThing 99 = .ok (.aload_n 0, 1) := by decide +kernel
theorem dX6_doThing_100 : decode cX6_doThing 100 = .ok (.getfield 10, 3) := by decide +kernel
theorem dX6_doThing_103 : decode cX6_doThing 103 = .ok (.aload_n 0, 1) := by decide +kernel
theorem dX6_doThing_104 : decode cX6_doThing 104 = .ok (.getfield 39, 3) := by decide +kernel
theorem dX6_doThing_107 : decode cX6_doThing 107 = .ok (.getfield 215, 3) := by decide +kernel
theorem dX6_doThing_110 : decode cX6_doThing 110 = .ok (.aload_n 0, 1) := by decide +kernel
theorem dX6_doThing_111 : decode cX6_doThing 111 = .ok (.getfield 39, 3) := by decide +kernel
theorem dX6_doThing_114 : decode cX6_doThing 114 = .ok (.getfield 221, 3) := by decide +kernel
theorem dX6_doThing_117 : decode cX6_doThing 117 = .ok (.invokevirtual 73, 3) := by decide +kernel
theorem dX6_doThing_120 : decode cX6_doThing 120 = .ok (.ireturn, 1) := by decide +kernel
theorem dX6_doThing_121 : decode cX6_doThing 121 = .ok (.aload_n 0, 1) := by decide +kernel
theorem dX6_doThing_122 : decode cX6_doThing 122 = .ok (.getfield 10, 3) := by decide +kernel
theorem dX6_doThing_125 : decode cX6_doThing 125 = .ok (.aload_n 0, 1) := by decide +kernel
theorem dX6_doThing_126 : decode cX6_doThing 126 = .ok (.getfield 39, 3) := by decide +kernel
theorem dX6_doThing_129 : decode cX6_doThing 129 = .ok (.getfield 215, 3) := by decide +kernel
theorem dX6_doThing_132 : decode cX6_doThing 132 = .ok (.aload_n 0, 1) := by decide +kernel
theorem dX6_doThing_133 : decode cX6_doThing 133 = .ok (.getfield 39, 3) := by decide +kernel
theorem dX6_doThing_136 : decode cX6_doThing 136 = .ok (.getfield 224, 3) := by decide +kernel
theorem dX6_doThing_139 : decode cX6_doThing 139 = .ok (.aload_n 0, 1) := by decide +kernel
theorem dX6_doThing_140 : decode cX6_doThing 140 = .ok (.getfield 39, 3) := by decide +kernel
theorem dX6_doThing_143 : decode cX6_doThing 143 = .ok (.getfield 227, 3) := by decide +kernel
theorem dX6_doThing_146 : decode cX6_doThing 146 = .ok (.aload_n 0, 1) := by decide +kernel
theorem dX6_doThing_147 : decode cX6_doThing 147 = .ok (.getfield 39, 3) := by decide +kernel
theorem dX6_doThing_150 : decode cX6_doThing 150 = .ok (.getfield 221, 3) := by decide +kernel
theorem dX6_doThing_153 : decode cX6_doThing 153 = .ok (.imul, 1) := by decide +kernel
theorem dX6_doThing_154 : decode cX6_doThing 154 = .ok (.invokevirtual 76, 3) := by decide +kernel
theorem dX6_doThing_157 : decode cX6_doThing 157 = .ok (.ireturn, 1) := by decide +kernel
theorem dX6_doThing_158 : decode cX6_doThing 158 = .ok (.aload_n 0, 1) := by decide +kernel
theorem dX6_doThing_159 : decode cX6_doThing 159 = .ok (.getfield 10, 3) := by decide +kernel
theorem dX6_doThing_162 : decode cX6_doThing 162 = .ok (.aload_n 0, 1) := by decide +kernel
theorem dX6_doThing_163 : decode cX6_doThing 163 = .ok (.getfield 39, 3) := by decide +kernel
theorem dX6_doThing_166 : decode cX6_doThing 166 = .ok (.getfield 221, 3) := by decide +kernel
theorem dX6_doThing_169 : decode cX6_doThing 169 = .ok (.invokevirtual 82, 3) := by decide +kernel
theorem dX6_doThing_172 : decode cX6_doThing 172 = .ok (.ireturn, 1) := by decide +kernel
theorem dX6_isError_0 : decode cX6_isError 0 = .ok (.iload_n 0, 1) := by decide +kernel
theorem dX6_isError_1 : decode cX6_isError 1 = .ok (.ifCond .ge 14, 3) := by decide +kernel
theorem dX6_isError_4 : decode cX6_isError 4 = .ok (.iload_n 0, 1) := by decide +kernel
theorem dX6_isError_5 : decode cX6_isError 5 = .ok (.sipush (-1005), 3) := by decide +kernel
theorem dX6_isError_8 : decode cX6_isError 8 = .ok (.if_icmp .eq 7, 3) := by decide +kernel
theorem dX6_isError_11 : decode cX6_isError 11 = .ok (.iconst 1, 1) := by decide +kernel
theorem dX6_isError_12 : decode cX6_isError 12 = .ok (.goto 4, 3) := by decide +kernel
theorem dX6_isError_15 : decode cX6_isError 15 = .ok (.iconst 0, 1) := by decide +kernel
theorem dX6_isError_16 : decode cX6_isError 16 = .ok (.ireturn, 1) := by decide +kernel
theorem dX6_isWithin_0 : decode cX6_isWithin 0 = .ok (.iload_n 0, 1) := by decide +kernel
theorem dX6_isWithin_1 : decode cX6_isWithin 1 = .ok (.iload_n 1, 1) := by decide +kernel
theorem dX6_isWithin_2 : decode cX6_isWithin 2 = .ok (.if_icmp .lt 12, 3) := by decide +kernel
theorem dX6_isWithin_5 : decode cX6_isWithin 5 = .ok (.iload_n 0, 1) := by decide +kernel
theorem dX6_isWithin_6 : decode cX6_isWithin 6 = .ok (.iload_n 2, 1) := by decide +kernel
theorem dX6_isWithin_7 : decode cX6_isWithin 7 = .ok (.if_icmp .gt 7, 3) := by decide +kernel
theorem dX6_isWithin_10 : decode cX6_isWithin 10 = .ok (.iconst 1, 1) := by decide +kernel
theorem dX6_isWithin_11 : decode cX6_isWithin 11 = .ok (.goto 4, 3) := by decide +kernel
theorem dX6_isWithin_14 : decode cX6_isWithin 14 = .ok (.iconst 0, 1) := by decide +kernel
theorem dX6_isWithin_15 : decode cX6_isWithin 15 = .ok (.ireturn, 1) := by decide +kernel
set_option maxRecDepth 20000 in
theorem ggX6_isBatch_X6_isWithin : GoodIn wsX6_isBatch wsX6_isWithin := goodIn_r _ [4] (by decide +kernel) (by decide +kernel)
set_option maxRecDepth 20000 in
theorem gX6_isBatch_X6_isWithin : GoodIn wsX6_isBatch (va_wsS RX6 117 yX6_isWithin wsX6_isWithin) := goodIn_app (goodIn_of _ (by decide +kernel)) ggX6_isBatch_X6_isWithin
theorem dX6_isBatch_0 : decode cX6_isBatch 0 = .ok (.iload_n 0, 1) := by decide +kernel
theorem dX6_isBatch_1 : decode cX6_isBatch 1 = .ok (.iconst 0, 1) := by decide +kernel
theorem dX6_isBatch_2 : decode cX6_isBatch 2 = .ok (.iconst 5, 1) := by decide +kernel
theorem dX6_isBatch_3 : decode cX6_isBatch 3 = .ok (.invokestatic 117, 3) := by decide +kernel
theorem dX6_isBatch_6 : decode cX6_isBatch 6 = .ok (.ireturn, 1) := by decide +kernel
set_option maxRecDepth 20000 in
theorem ggX6_isRack_X6_isWithin : GoodIn wsX6_isRack wsX6_isWithin := goodIn_r _ [4] (by decide +kernel) (by decide +kernel)
set_option maxRecDepth 20000 in
theorem gX6_isRack_X6_isWithin : GoodIn wsX6_isRack (va_wsS RX6 117 yX6_isWithin wsX6_isWithin) := goodIn_app (goodIn_of _ (by decide +kernel)) ggX6_isRack_X6_isWithin
theorem dX6_isRack_0 : decode cX6_isRack 0 = .ok (.iload_n 0, 1) := by decide +kernel
theorem dX6_isRack_1 : decode cX6_isRack 1 = .ok (.iconst 0, 1) := by decide +kernel
theorem dX6_isRack_2 : decode cX6_isRack 2 = .ok (.iconst 2, 1) := by decide +kernel
theorem dX6_isRack_3 : decode cX6_isRack 3 = .ok (.invokestatic 117, 3) := by decide +kernel
theorem dX6_isRack_6 : decode cX6_isRack 6 = .ok (.ireturn, 1) := by decide +kernel
set_option maxRecDepth 20000 in
theorem ggX6_isPlace_X6_isRack : GoodIn wsX6_isPlace wsX6_isRack := goodIn_r _ [4, 5, 6, 3, 7] (by decide +kernel) (by decide +kernel)
set_option maxRecDepth 20000 in
theorem gX6_isPlace_X6_isRack : GoodIn wsX6_isPlace (va_wsS RX6 230 yX6_isRack wsX6_isRack) := goodIn_app (goodIn_of _ (by decide +kernel)) ggX6_isPlace_X6_isRack
set_option maxRecDepth 20000 in
theorem ggX6_isPlace_X6_isWithin : GoodIn wsX6_isPlace wsX6_isWithin := goodIn_r _ [7] (by decide +kernel) (by decide +kernel)
set_option maxRecDepth 20000 in
theorem gX6_isPlace_X6_isWithin : GoodIn wsX6_isPlace (va_wsS RX6 117 yX6_isWithin wsX6_isWithin) := goodIn_app (goodIn_of _ (by decide +kernel)) ggX6_isPlace_X6_isWithin
theorem dX6_isPlace_0 : decode cX6_isPlace 0 = .ok (.iload_n 0, 1) := by decide +kernel
theorem dX6_isPlace_1 : decode cX6_isPlace 1 = .ok (.invokestatic 230, 3) := by decide +kernel
theorem dX6_isPlace_4 : decode cX6_isPlace 4 = .ok (.ifCond .eq 17, 3) := by decide +kernel
theorem dX6_isPlace_7 : decode cX6_isPlace 7 = .ok (.iload_n 1, 1) := by decide +kernel
theorem dX6_isPlace_8 : decode cX6_isPlace 8 = .ok (.iconst 0, 1) := by decide +kernel
theorem dX6_isPlace_9 : decode cX6_isPlace 9 = .ok (.bipush 7, 2) := by decide +kernel
theorem dX6_isPlace_11 : decode cX6_isPlace 11 = .ok (.invokestatic 117, 3) := by decide +kernel
theorem dX6_isPlace_14 : decode cX6_isPlace 14 = .ok (.ifCond .eq 7, 3) := by decide +kernel
theorem dX6_isPlace_17 : decode cX6_isPlace 17 = .ok (.iconst 1, 1) := by decide +kernel
theorem dX6_isPlace_18 : decode cX6_isPlace 18 = .ok (.goto 4, 3) := by decide +kernel
theorem dX6_isPlace_21 : decode cX6_isPlace 21 = .ok (.iconst 0, 1) := by decide +kernel
theorem dX6_isPlace_22 : decode cX6_isPlace 22 = .ok (.ireturn, 1) := by decide +kernel
theorem dX6_spotOf_0 : decode cX6_spotOf 0 = .ok (.iload_n 0, 1) := by decide +kernel
theorem dX6_spotOf_1 : decode cX6_spotOf 1 = .ok (.bipush 8, 2) := by decide +kernel
theorem dX6_spotOf_3 : decode cX6_spotOf 3 = .ok (.imul, 1) := by decide +kernel
theorem dX6_spotOf_4 : decode cX6_spotOf 4 = .ok (.iload_n 1, 1) := by decide +kernel
theorem dX6_spotOf_5 : decode cX6_spotOf 5 = .ok (.iadd, 1) := by decide +kernel
theorem dX6_spotOf_6 : decode cX6_spotOf 6 = .ok (.ireturn, 1) := by decide +kernel
set_option maxRecDepth 20000 in
theorem ggX6_isHot_X6_isWithin : GoodIn wsX6_isHot wsX6_isWithin := goodIn_r _ [4] (by decide +kernel) (by decide +kernel)
set_option maxRecDepth 20000 in
theorem gX6_isHot_X6_isWithin : GoodIn wsX6_isHot (va_wsS RX6 117 yX6_isWithin wsX6_isWithin) := goodIn_app (goodIn_of _ (by decide +kernel)) ggX6_isHot_X6_isWithin
theorem dX6_isHot_0 : decode cX6_isHot 0 = .ok (.iload_n 0, 1) := by decide +kernel
theorem dX6_isHot_1 : decode cX6_isHot 1 = .ok (.iconst (-1), 1) := by decide +kernel
theorem dX6_isHot_2 : decode cX6_isHot 2 = .ok (.if_icmp .eq 19, 3) := by decide +kernel
theorem dX6_isHot_5 : decode cX6_isHot 5 = .ok (.iload_n 0, 1) := by decide +kernel
theorem dX6_isHot_6 : decode cX6_isHot 6 = .ok (.bipush 8, 2) := by decide +kernel
theorem dX6_isHot_8 : decode cX6_isHot 8 = .ok (.irem, 1) := by decide +kernel
theorem dX6_isHot_9 : decode cX6_isHot 9 = .ok (.iconst 3, 1) := by decide +kernel
theorem dX6_isHot_10 : decode cX6_isHot 10 = .ok (.iconst 4, 1) := by decide +kernel
theorem dX6_isHot_11 : decode cX6_isHot 11 = .ok (.invokestatic 117, 3) := by decide +kernel
theorem dX6_isHot_14 : decode cX6_isHot 14 = .ok (.ifCond .eq 7, 3) := by decide +kernel
theorem dX6_isHot_17 : decode cX6_isHot 17 = .ok (.iconst 1, 1) := by decide +kernel
theorem dX6_isHot_18 : decode cX6_isHot 18 = .ok (.goto 4, 3) := by decide +kernel
theorem dX6_isHot_21 : decode cX6_isHot 21 = .ok (.iconst 0, 1) := by decide +kernel
theorem dX6_isHot_22 : decode cX6_isHot 22 = .ok (.ireturn, 1) := by decide +kernel
theorem dX6_shareOf_0 : decode cX6_shareOf 0 = .ok (.bipush 7, 2) := by decide +kernel
theorem dX6_shareOf_2 : decode cX6_shareOf 2 = .ok (.iload_n 0, 1) := by decide +kernel
theorem dX6_shareOf_3 : decode cX6_shareOf 3 = .ok (.imul, 1) := by decide +kernel
theorem dX6_shareOf_4 : decode cX6_shareOf 4 = .ok (.bipush 10, 2) := by decide +kernel
theorem dX6_shareOf_6 : decode cX6_shareOf 6 = .ok (.irem, 1) := by decide +kernel
theorem dX6_shareOf_7 : decode cX6_shareOf 7 = .ok (.ireturn, 1) := by decide +kernel
set_option maxRecDepth 20000 in
theorem ggX6_isWeak_X6_shareOf : GoodIn wsX6_isWeak wsX6_shareOf := goodIn_r _ [4] (by decide +kernel) (by decide +kernel)
set_option maxRecDepth 20000 in
theorem gX6_isWeak_X6_shareOf : GoodIn wsX6_isWeak (va_wsS RX6 233 yX6_shareOf wsX6_shareOf) := goodIn_app (goodIn_of _ (by decide +kernel)) ggX6_isWeak_X6_shareOf
theorem dX6_isWeak_0 : decode cX6_isWeak 0 = .ok (.iload_n 0, 1) := by decide +kernel
theorem dX6_isWeak_1 : decode cX6_isWeak 1 = .ok (.invokestatic 233, 3) := by decide +kernel
theorem dX6_isWeak_4 : decode cX6_isWeak 4 = .ok (.bipush 9, 2) := by decide +kernel
theorem dX6_isWeak_6 : decode cX6_isWeak 6 = .ok (.if_icmp .ne 7, 3) := by decide +kernel
theorem dX6_isWeak_9 : decode cX6_isWeak 9 = .ok (.iconst 1, 1) := by decide +kernel
theorem dX6_isWeak_10 : decode cX6_isWeak 10 = .ok (.goto 4, 3) := by decide +kernel
theorem dX6_isWeak_13 : decode cX6_isWeak 13 = .ok (.iconst 0, 1) := by decide +kernel
theorem dX6_isWeak_14 : decode cX6_isWeak 14 = .ok (.ireturn, 1) := by decide +kernel
theorem dX6_oneIf_0 : decode cX6_oneIf 0 = .ok (.iload_n 0, 1) := by decide +kernel
theorem dX6_oneIf_1 : decode cX6_oneIf 1 = .ok (.ifCond .eq 7, 3) := by decide +kernel
theorem dX6_oneIf_4 : decode cX6_oneIf 4 = .ok (.iconst 1, 1) := by decide +kernel
theorem dX6_oneIf_5 : decode cX6_oneIf 5 = .ok (.goto 4, 3) := by decide +kernel
theorem dX6_oneIf_8 : decode cX6_oneIf 8 = .ok (.iconst 0, 1) := by decide +kernel
theorem dX6_oneIf_9 : decode cX6_oneIf 9 = .ok (.ireturn, 1) := by decide +kernel
theorem dX6_copy_0 : decode cX6_copy 0 = .ok (.aload_n 0, 1) := by decide +kernel
theorem dX6_copy_1 : decode cX6_copy 1 = .ok (.iconst 0, 1) := by decide +kernel
theorem dX6_copy_2 : decode cX6_copy 2 = .ok (.aload_n 1, 1) := by decide +kernel
theorem dX6_copy_3 : decode cX6_copy 3 = .ok (.iconst 0, 1) := by decide +kernel
theorem dX6_copy_4 : decode cX6_copy 4 = .ok (.aload_n 0, 1) := by decide +kernel
theorem dX6_copy_5 : decode cX6_copy 5 = .ok (.arraylength, 1) := by decide +kernel
theorem dX6_copy_6 : decode cX6_copy 6 = .ok (.aload_n 1, 1) := by decide +kernel
theorem dX6_copy_7 : decode cX6_copy 7 = .ok (.arraylength, 1) := by decide +kernel
theorem dX6_copy_8 : decode cX6_copy 8 = .ok (.invokestatic 236, 3) := by decide +kernel
theorem dX6_copy_11 : decode cX6_copy 11 = .ok (.invokestatic 241, 3) := by decide +kernel
theorem dX6_copy_14 : decode cX6_copy 14 = .ok (.return_, 1) := by decide +kernel
