theorem dX7_init_0 : decode cX7_init 0 = .ok (.aload_n 0, 1) := by decide +kernel
theorem dX7_init_1 : decode cX7_init 1 = .ok (.invokespecial 1, 3) := by decide +kernel
theorem dX7_init_4 : decode cX7_init 4 = .ok (.aload_n 0, 1) := by decide +kernel
theorem dX7_init_5 : decode cX7_init 5 = .ok (.sipush 508, 3) := by decide +kernel
theorem dX7_init_8 : decode cX7_init 8 = .ok (.newarray .int, 2) := by decide +kernel
theorem dX7_init_10 : decode cX7_init 10 = .ok (.putfield 7, 3) := by decide +kernel
theorem dX7_init_13 : decode cX7_init 13 = .ok (.aload_n 0, 1) := by decide +kernel
theorem dX7_init_14 : decode cX7_init 14 = .ok (.sipush 508, 3) := by decide +kernel
theorem dX7_init_17 : decode cX7_init 17 = .ok (.newarray .int, 2) := by decide +kernel
theorem dX7_init_19 : decode cX7_init 19 = .ok (.putfield 13, 3) := by decide +kernel
theorem dX7_init_22 : decode cX7_init 22 = .ok (.aload_n 0, 1) := by decide +kernel
theorem dX7_init_23 : decode cX7_init 23 = .ok (.sipush 2032, 3) := by decide +kernel
theorem dX7_init_26 : decode cX7_init 26 = .ok (.newarray .int, 2) := by decide +kernel
theorem dX7_init_28 : decode cX7_init 28 = .ok (.putfield 16, 3) := by decide +kernel
theorem dX7_init_31 : decode cX7_init 31 = .ok (.aload_n 0, 1) := by decide +kernel
theorem dX7_init_32 : decode cX7_init 32 = .ok (.sipush 508, 3) := by decide +kernel
theorem dX7_init_35 : decode cX7_init 35 = .ok (.newarray .int, 2) := by decide +kernel
theorem dX7_init_37 : decode cX7_init 37 = .ok (.putfield 19, 3) := by decide +kernel
theorem dX7_init_40 : decode cX7_init 40 = .ok (.aload_n 0, 1) := by decide +kernel
theorem dX7_init_41 : decode cX7_init 41 = .ok (.bipush 60, 2) := by decide +kernel
theorem dX7_init_43 : decode cX7_init 43 = .ok (.newarray .int, 2) := by decide +kernel
theorem dX7_init_45 : decode cX7_init 45 = .ok (.putfield 22, 3) := by decide +kernel
theorem dX7_init_48 : decode cX7_init 48 = .ok (.aload_n 0, 1) := by decide +kernel
theorem dX7_init_49 : decode cX7_init 49 = .ok (.bipush 84, 2) := by decide +kernel
theorem dX7_init_51 : decode cX7_init 51 = .ok (.newarray .int, 2) := by decide +kernel
theorem dX7_init_53 : decode cX7_init 53 = .ok (.putfield 25, 3) := by decide +kernel
theorem dX7_init_56 : decode cX7_init 56 = .ok (.aload_n 0, 1) := by decide +kernel
theorem dX7_init_57 : decode cX7_init 57 = .ok (.getfield 7, 3) := by decide +kernel
theorem dX7_init_60 : decode cX7_init 60 = .ok (.iconst 0, 1) := by decide +kernel
theorem dX7_init_61 : decode cX7_init 61 = .ok (.sipush 230, 3) := by decide +kernel
theorem dX7_init_64 : decode cX7_init 64 = .ok (.iastore, 1) := by decide +kernel
theorem dX7_init_65 : decode cX7_init 65 = .ok (.aload_n 0, 1) := by decide +kernel
theorem dX7_init_66 : decode cX7_init 66 = .ok (.getfield 7, 3) := by decide +kernel
theorem dX7_init_69 : decode cX7_init 69 = .ok (.iconst 1, 1) := by decide +kernel
theorem dX7_init_70 : decode cX7_init 70 = .ok (.bipush 10, 2) := by decide +kernel
theorem dX7_init_72 : decode cX7_init 72 = .ok (.iastore, 1) := by decide +kernel
theorem dX7_init_73 : decode cX7_init 73 = .ok (.iconst 0, 1) := by decide +kernel
theorem dX7_init_74 : decode cX7_init 74 = .ok (.istore_n 1, 1) := by decide +kernel
theorem dX7_init_75 : decode cX7_init 75 = .ok (.iload_n 1, 1) := by decide +kernel
theorem dX7_init_76 : decode cX7_init 76 = .ok (.bipush 6, 2) := by decide +kernel
theorem dX7_init_78 : decode cX7_init 78 = .ok (.if_icmp .ge 38, 3) := by decide +kernel
theorem dX7_init_81 : decode cX7_init 81 = .ok (.aload_n 0, 1) := by decide +kernel
theorem dX7_init_82 : decode cX7_init 82 = .ok (.getfield 7, 3) := by decide +kernel
theorem dX7_init_85 : decode cX7_init 85 = .ok (.iconst 4, 1) := by decide +kernel
theorem dX7_init_86 : decode cX7_init 86 = .ok (.iconst 2, 1) := by decide +kernel
theorem dX7_init_87 : decode cX7_init 87 = .ok (.iload_n 1, 1) := by decide +kernel
theorem dX7_init_88 : decode cX7_init 88 = .ok (.imul, 1) := by decide +kernel
theorem dX7_init_89 : decode cX7_init 89 = .ok (.iadd, 1) := by decide +kernel
theorem dX7_init_90 : decode cX7_init 90 = .ok (.sipush 1000, 3) := by decide +kernel
theorem dX7_init_93 : decode cX7_init 93 = .ok (.iastore, 1) := by decide +kernel
theorem dX7_init_94 : decode cX7_init 94 = .ok (.aload_n 0, 1) := by decide +kernel
theorem dX7_init_95 : decode cX7_init 95 = .ok (.getfield 7, 3) := by decide +kernel
theorem dX7_init_98 : decode cX7_init 98 = .ok (.iconst 4, 1) := by decide +kernel
theorem dX7_init_99 : decode cX7_init 99 = .ok (.iconst 2, 1) := by decide +kernel
theorem dX7_init_100 : decode cX7_init 100 = .ok (.iload_n 1, 1) := by decide +kernel
theorem dX7_init_101 : decode cX7_init 101 = .ok (.imul, 1) := by decide +kernel
theorem dX7_init_102 : decode cX7_init 102 = .ok (.iadd, 1) := by decide +kernel
theorem dX7_init_103 : decode cX7_init 103 = .ok (.iconst 1, 1) := by decide +kernel
theorem dX7_init_104 : decode cX7_init 104 = .ok (.iadd, 1) := by decide +kernel
theorem dX7_init_105 : decode cX7_init 105 = .ok (.bipush 10, 2) := by decide +kernel
theorem dX7_init_107 : decode cX7_init 107 = .ok (.iload_n 1, 1) := by decide +kernel
theorem dX7_init_108 : decode cX7_init 108 = .ok (.imul, 1) := by decide +kernel
theorem dX7_init_109 : decode cX7_init 109 = .ok (.iastore, 1) := by decide +kernel
theorem dX7_init_110 : decode cX7_init 110 = .ok (.iinc 1 1, 3) := by decide +kernel
theorem dX7_init_113 : decode cX7_init 113 = .ok (.goto (-38), 3) := by decide +kernel
theorem dX7_init_116 : decode cX7_init 116 = .ok (.iconst 0, 1) := by decide +kernel
theorem dX7_init_117 : decode cX7_init 117 = .ok (.istore_n 1, 1) := by decide +kernel
theorem dX7_init_118 : decode cX7_init 118 = .ok (.iload_n 1, 1) := by decide +kernel
theorem dX7_init_119 : decode cX7_init 119 = .ok (.iconst 3, 1) := by decide +kernel
theorem dX7_init_120 : decode cX7_init 120 = .ok (.if_icmp .ge 23, 3) := by decide +kernel
theorem dX7_init_123 : decode cX7_init 123 = .ok (.aload_n 0, 1) := by decide +kernel
theorem dX7_init_124 : decode cX7_init 124 = .ok (.getfield 7, 3) := by decide +kernel
theorem dX7_init_127 : decode cX7_init 127 = .ok (.bipush 16, 2) := by decide +kernel
theorem dX7_init_129 : decode cX7_init 129 = .ok (.iconst 4, 1) := by decide +kernel
theorem dX7_init_130 : decode cX7_init 130 = .ok (.iload_n 1, 1) := by decide +kernel
theorem dX7_init_131 : decode cX7_init 131 = .ok (.imul, 1) := by decide +kernel
theorem dX7_init_132 : decode cX7_init 132 = .ok (.iadd, 1) := by decide +kernel
theorem dX7_init_133 : decode cX7_init 133 = .ok (.sipush 230, 3) := by decide +kernel
theorem dX7_init_136 : decode cX7_init 136 = .ok (.iastore, 1) := by decide +kernel
theorem dX7_init_137 : decode cX7_init 137 = .ok (.iinc 1 1, 3) := by decide +kernel
theorem dX7_init_140 : decode cX7_init 140 = .ok (.goto (-22), 3) := by decide +kernel
theorem dX7_init_143 : decode cX7_init 143 = .ok (.return_, 1) := by decide +kernel
theorem dX7_in_0 : decode cX7_in 0 = .ok (.iload_n 0, 1) := by decide +kernel
theorem dX7_in_1 : decode cX7_in 1 = .ok (.iload_n 1, 1) := by decide +kernel
theorem dX7_in_2 : decode cX7_in 2 = .ok (.if_icmp .lt 12, 3) := by decide +kernel
theorem dX7_in_5 : decode cX7_in 5 = .ok (.iload_n 0, 1) := by decide +kernel
theorem dX7_in_6 : decode cX7_in 6 = .ok (.iload_n 2, 1) := by decide +kernel
theorem dX7_in_7 : decode cX7_in 7 = .ok (.if_icmp .gt 7, 3) := by decide +kernel
theorem dX7_in_10 : decode cX7_in 10 = .ok (.iconst 1, 1) := by decide +kernel
theorem dX7_in_11 : decode cX7_in 11 = .ok (.goto 4, 3) := by decide +kernel
theorem dX7_in_14 : decode cX7_in 14 = .ok (.iconst 0, 1) := by decide +kernel
theorem dX7_in_15 : decode cX7_in 15 = .ok (.ireturn, 1) := by decide +kernel
set_option maxRecDepth 20000 in
theorem ggX7_isRack_X7_in : GoodIn wsX7_isRack wsX7_in := goodIn_r _ [4] (by decide +kernel) (by decide +kernel)
set_option maxRecDepth 20000 in
theorem gX7_isRack_X7_in : GoodIn wsX7_isRack (va_wsS RX7 28 yX7_in wsX7_in) := goodIn_app (goodIn_of _ (by decide +kernel)) ggX7_isRack_X7_in
theorem dX7_isRack_0 : decode cX7_isRack 0 = .ok (.iload_n 0, 1) := by decide +kernel
theorem dX7_isRack_1 : decode cX7_isRack 1 = .ok (.iconst 0, 1) := by decide +kernel
theorem dX7_isRack_2 : decode cX7_isRack 2 = .ok (.iconst 2, 1) := by decide +kernel
theorem dX7_isRack_3 : decode cX7_isRack 3 = .ok (.invokestatic 28, 3) := by decide +kernel
theorem dX7_isRack_6 : decode cX7_isRack 6 = .ok (.ireturn, 1) := by decide +kernel
set_option maxRecDepth 20000 in
theorem ggX7_isPlace_X7_in : GoodIn wsX7_isPlace wsX7_in := goodIn_r _ [4] (by decide +kernel) (by decide +kernel)
set_option maxRecDepth 20000 in
theorem gX7_isPlace_X7_in : GoodIn wsX7_isPlace (va_wsS RX7 28 yX7_in wsX7_in) := goodIn_app (goodIn_of _ (by decide +kernel)) ggX7_isPlace_X7_in
theorem dX7_isPlace_0 : decode cX7_isPlace 0 = .ok (.iload_n 0, 1) := by decide +kernel
theorem dX7_isPlace_1 : decode cX7_isPlace 1 = .ok (.iconst 0, 1) := by decide +kernel
theorem dX7_isPlace_2 : decode cX7_isPlace 2 = .ok (.bipush 7, 2) := by decide +kernel
theorem dX7_isPlace_4 : decode cX7_isPlace 4 = .ok (.invokestatic 28, 3) := by decide +kernel
theorem dX7_isPlace_7 : decode cX7_isPlace 7 = .ok (.ireturn, 1) := by decide +kernel
set_option maxRecDepth 20000 in
theorem ggX7_isBatch_X7_in : GoodIn wsX7_isBatch wsX7_in := goodIn_r _ [4] (by decide +kernel) (by decide +kernel)
set_option maxRecDepth 20000 in
theorem gX7_isBatch_X7_in : GoodIn wsX7_isBatch (va_wsS RX7 28 yX7_in wsX7_in) := goodIn_app (goodIn_of _ (by decide +kernel)) ggX7_isBatch_X7_in
theorem dX7_isBatch_0 : decode cX7_isBatch 0 = .ok (.iload_n 0, 1) := by decide +kernel
theorem dX7_isBatch_1 : decode cX7_isBatch 1 = .ok (.iconst 0, 1) := by decide +kernel
theorem dX7_isBatch_2 : decode cX7_isBatch 2 = .ok (.iconst 5, 1) := by decide +kernel
theorem dX7_isBatch_3 : decode cX7_isBatch 3 = .ok (.invokestatic 28, 3) := by decide +kernel
theorem dX7_isBatch_6 : decode cX7_isBatch 6 = .ok (.ireturn, 1) := by decide +kernel
set_option maxRecDepth 20000 in
theorem ggX7_isLamp_X7_in : GoodIn wsX7_isLamp wsX7_in := goodIn_r _ [5] (by decide +kernel) (by decide +kernel)
set_option maxRecDepth 20000 in
theorem gX7_isLamp_X7_in : GoodIn wsX7_isLamp (va_wsS RX7 28 yX7_in wsX7_in) := goodIn_app (goodIn_of _ (by decide +kernel)) ggX7_isLamp_X7_in
theorem dX7_isLamp_0 : decode cX7_isLamp 0 = .ok (.iload_n 1, 1) := by decide +kernel
theorem dX7_isLamp_1 : decode cX7_isLamp 1 = .ok (.iconst 0, 1) := by decide +kernel
theorem dX7_isLamp_2 : decode cX7_isLamp 2 = .ok (.aload_n 0, 1) := by decide +kernel
theorem dX7_isLamp_3 : decode cX7_isLamp 3 = .ok (.getfield 7, 3) := by decide +kernel
theorem dX7_isLamp_6 : decode cX7_isLamp 6 = .ok (.iconst 3, 1) := by decide +kernel
theorem dX7_isLamp_7 : decode cX7_isLamp 7 = .ok (.iaload, 1) := by decide +kernel
theorem dX7_isLamp_8 : decode cX7_isLamp 8 = .ok (.iconst 1, 1) := by decide +kernel
theorem dX7_isLamp_9 : decode cX7_isLamp 9 = .ok (.isub, 1) := by decide +kernel
theorem dX7_isLamp_10 : decode cX7_isLamp 10 = .ok (.invokestatic 28, 3) := by decide +kernel
theorem dX7_isLamp_13 : decode cX7_isLamp 13 = .ok (.ireturn, 1) := by decide +kernel
theorem dX7_of_0 : decode cX7_of 0 = .ok (.aload_n 0, 1) := by decide +kernel
theorem dX7_of_1 : decode cX7_of 1 = .ok (.getfield 7, 3) := by decide +kernel
theorem dX7_of_4 : decode cX7_of 4 = .ok (.bipush 28, 2) := by decide +kernel
theorem dX7_of_6 : decode cX7_of 6 = .ok (.bipush 8, 2) := by decide +kernel
theorem dX7_of_8 : decode cX7_of 8 = .ok (.iload_n 1, 1) := by decide +kernel
theorem dX7_of_9 : decode cX7_of 9 = .ok (.imul, 1) := by decide +kernel
theorem dX7_of_10 : decode cX7_of 10 = .ok (.iadd, 1) := by decide +kernel
theorem dX7_of_11 : decode cX7_of 11 = .ok (.iload_n 2, 1) := by decide +kernel
theorem dX7_of_12 : decode cX7_of 12 = .ok (.iadd, 1) := by decide +kernel
theorem dX7_of_13 : decode cX7_of 13 = .ok (.iaload, 1) := by decide +kernel
theorem dX7_of_14 : decode cX7_of 14 = .ok (.ireturn, 1) := by decide +kernel
theorem dX7_lay_0 : decode cX7_lay 0 = .ok (.aload_n 0, 1) := by decide +kernel
theorem dX7_lay_1 : decode cX7_lay 1 = .ok (.getfield 7, 3) := by decide +kernel
theorem dX7_lay_4 : decode cX7_lay 4 = .ok (.bipush 28, 2) := by decide +kernel
theorem dX7_lay_6 : decode cX7_lay 6 = .ok (.bipush 8, 2) := by decide +kernel
theorem dX7_lay_8 : decode cX7_lay 8 = .ok (.iload_n 1, 1) := by decide +kernel
theorem dX7_lay_9 : decode cX7_lay 9 = .ok (.imul, 1) := by decide +kernel
theorem dX7_lay_10 : decode cX7_lay 10 = .ok (.iadd, 1) := by decide +kernel
theorem dX7_lay_11 : decode cX7_lay 11 = .ok (.iload_n 2, 1) := by decide +kernel
theorem dX7_lay_12 : decode cX7_lay 12 = .ok (.iadd, 1) := by decide +kernel
theorem dX7_lay_13 : decode cX7_lay 13 = .ok (.iload_n 3, 1) := by decide +kernel
theorem dX7_lay_14 : decode cX7_lay 14 = .ok (.iastore, 1) := by decide +kernel
theorem dX7_lay_15 : decode cX7_lay 15 = .ok (.return_, 1) := by decide +kernel
theorem dX7_ofRack_0 : decode cX7_ofRack 0 = .ok (.aload_n 0, 1) := by decide +kernel
theorem dX7_ofRack_1 : decode cX7_ofRack 1 = .ok (.getfield 7, 3) := by decide +kernel
theorem dX7_ofRack_4 : decode cX7_ofRack 4 = .ok (.bipush 16, 2) := by decide +kernel
theorem dX7_ofRack_6 : decode cX7_ofRack 6 = .ok (.iconst 4, 1) := by decide +kernel
theorem dX7_ofRack_7 : decode cX7_ofRack 7 = .ok (.iload_n 1, 1) := by decide +kernel
theorem dX7_ofRack_8 : decode cX7_ofRack 8 = .ok (.imul, 1) := by decide +kernel
theorem dX7_ofRack_9 : decode cX7_ofRack 9 = .ok (.iadd, 1) := by decide +kernel
theorem dX7_ofRack_10 : decode cX7_ofRack 10 = .ok (.iload_n 2, 1) := by decide +kernel
theorem dX7_ofRack_11 : decode cX7_ofRack 11 = .ok (.iadd, 1) := by decide +kernel
theorem dX7_ofRack_12 : decode cX7_ofRack 12 = .ok (.iaload, 1) := by decide +kernel
theorem dX7_ofRack_13 : decode cX7_ofRack 13 = .ok (.ireturn, 1) := by decide +kernel
set_option maxRecDepth 20000 in
theorem ggX7_isDead_X7_of : GoodIn wsX7_isDead wsX7_of := goodIn_r _ [5, 6, 7, 8, 9, 10, 11, 12, 13, 14, 15, 16, 17, 18, 19] (by decide +kernel) (by decide +kernel)
set_option maxRecDepth 20000 in
theorem gX7_isDead_X7_of : GoodIn wsX7_isDead (wsV RX7 32 RX7 yX7_of wsX7_of) := goodIn_app (goodIn_of _ (by decide +kernel)) ggX7_isDead_X7_of
theorem dX7_isDead_0 : decode cX7_isDead 0 = .ok (.aload_n 0, 1) := by decide +kernel
theorem dX7_isDead_1 : decode cX7_isDead 1 = .ok (.iload_n 1, 1) := by decide +kernel
theorem dX7_isDead_2 : decode cX7_isDead 2 = .ok (.bipush 6, 2) := by decide +kernel
theorem dX7_isDead_4 : decode cX7_isDead 4 = .ok (.invokevirtual 32, 3) := by decide +kernel
theorem dX7_isDead_7 : decode cX7_isDead 7 = .ok (.sipush (-1005), 3) := by decide +kernel
theorem dX7_isDead_10 : decode cX7_isDead 10 = .ok (.if_icmp .eq 7, 3) := by decide +kernel
theorem dX7_isDead_13 : decode cX7_isDead 13 = .ok (.iconst 1, 1) := by decide +kernel
theorem dX7_isDead_14 : decode cX7_isDead 14 = .ok (.goto 4, 3) := by decide +kernel
theorem dX7_isDead_17 : decode cX7_isDead 17 = .ok (.iconst 0, 1) := by decide +kernel
theorem dX7_isDead_18 : decode cX7_isDead 18 = .ok (.ireturn, 1) := by decide +kernel
set_option maxRecDepth 20000 in
theorem ggX7_lampAt_X7_of : GoodIn wsX7_lampAt wsX7_of := goodIn_r _ [6, 1, 7, 8, 9, 10, 11, 12, 13, 14, 15, 16, 17, 18, 19] (by decide +kernel) (by decide +kernel)
set_option maxRecDepth 20000 in
theorem gX7_lampAt_X7_of : GoodIn wsX7_lampAt (wsV RX7 32 RX7 yX7_of wsX7_of) := goodIn_app (goodIn_of _ (by decide +kernel)) ggX7_lampAt_X7_of
theorem dX7_lampAt_0 : decode cX7_lampAt 0 = .ok (.sipush (-1005), 3) := by decide +kernel
theorem dX7_lampAt_3 : decode cX7_lampAt 3 = .ok (.istore_n 3, 1) := by decide +kernel
theorem dX7_lampAt_4 : decode cX7_lampAt 4 = .ok (.iconst 0, 1) := by decide +kernel
theorem dX7_lampAt_5 : decode cX7_lampAt 5 = .ok (.istore 4, 2) := by decide +kernel
theorem dX7_lampAt_7 : decode cX7_lampAt 7 = .ok (.iload 4, 2) := by decide +kernel
theorem dX7_lampAt_9 : decode cX7_lampAt 9 = .ok (.aload_n 0, 1) := by decide +kernel
theorem dX7_lampAt_10 : decode cX7_lampAt 10 = .ok (.getfield 7, 3) := by decide +kernel
theorem dX7_lampAt_13 : decode cX7_lampAt 13 = .ok (.iconst 3, 1) := by decide +kernel
theorem dX7_lampAt_14 : decode cX7_lampAt 14 = .ok (.iaload, 1) := by decide +kernel
theorem dX7_lampAt_15 : decode cX7_lampAt 15 = .ok (.if_icmp .ge 38, 3) := by decide +kernel
theorem dX7_lampAt_18 : decode cX7_lampAt 18 = .ok (.aload_n 0, 1) := by decide +kernel
theorem dX7_lampAt_19 : decode cX7_lampAt 19 = .ok (.iload 4, 2) := by decide +kernel
theorem dX7_lampAt_21 : decode cX7_lampAt 21 = .ok (.iconst 1, 1) := by decide +kernel
theorem dX7_lampAt_22 : decode cX7_lampAt 22 = .ok (.invokevirtual 32, 3) := by decide +kernel
theorem dX7_lampAt_25 : decode cX7_lampAt 25 = .ok (.iload_n 1, 1) := by decide +kernel
theorem dX7_lampAt_26 : decode cX7_lampAt 26 = .ok (.if_icmp .ne 19, 3) := by decide +kernel
theorem dX7_lampAt_29 : decode cX7_lampAt 29 = .ok (.aload_n 0, 1) := by decide +kernel
theorem dX7_lampAt_30 : decode cX7_lampAt 30 = .ok (.iload 4, 2) := by decide +kernel
theorem dX7_lampAt_32 : decode cX7_lampAt 32 = .ok (.iconst 2, 1) := by decide +kernel
theorem dX7_lampAt_33 : decode cX7_lampAt 33 = .ok (.invokevirtual 32, 3) := by decide +kernel
theorem dX7_lampAt_36 : decode cX7_lampAt 36 = .ok (.iload_n 2, 1) := by decide +kernel
theorem dX7_lampAt_37 : decode cX7_lampAt 37 = .ok (.if_icmp .ne 8, 3) := by decide +kernel
theorem dX7_lampAt_40 : decode cX7_lampAt 40 = .ok (.iload 4, 2) := by decide +kernel
theorem dX7_lampAt_42 : decode cX7_lampAt 42 = .ok (.goto 4, 3) := by decide +kernel
theorem dX7_lampAt_45 : decode cX7_lampAt 45 = .ok (.iload_n 3, 1) := by decide +kernel
theorem dX7_lampAt_46 : decode cX7_lampAt 46 = .ok (.istore_n 3, 1) := by decide +kernel
theorem dX7_lampAt_47 : decode cX7_lampAt 47 = .ok (.iinc 4 1, 3) := by decide +kernel
theorem dX7_lampAt_50 : decode cX7_lampAt 50 = .ok (.goto (-43), 3) := by decide +kernel
theorem dX7_lampAt_53 : decode cX7_lampAt 53 = .ok (.iload_n 3, 1) := by decide +kernel
theorem dX7_lampAt_54 : decode cX7_lampAt 54 = .ok (.ireturn, 1) := by decide +kernel
theorem dX7_copyState_0 : decode cX7_copyState 0 = .ok (.iconst 0, 1) := by decide +kernel
theorem dX7_copyState_1 : decode cX7_copyState 1 = .ok (.istore 4, 2) := by decide +kernel
theorem dX7_copyState_3 : decode cX7_copyState 3 = .ok (.iload 4, 2) := by decide +kernel
theorem dX7_copyState_5 : decode cX7_copyState 5 = .ok (.sipush 508, 3) := by decide +kernel
theorem dX7_copyState_8 : decode cX7_copyState 8 = .ok (.if_icmp .ge 21, 3) := by decide +kernel
theorem dX7_copyState_11 : decode cX7_copyState 11 = .ok (.aload_n 2, 1) := by decide +kernel
theorem dX7_copyState_12 : decode cX7_copyState 12 = .ok (.iload_n 3, 1) := by decide +kernel
theorem dX7_copyState_13 : decode cX7_copyState 13 = .ok (.iload 4, 2) := by decide +kernel
theorem dX7_copyState_15 : decode cX7_copyState 15 = .ok (.iadd, 1) := by decide +kernel
theorem dX7_copyState_16 : decode cX7_copyState 16 = .ok (.aload_n 0, 1) := by decide +kernel
theorem dX7_copyState_17 : decode cX7_copyState 17 = .ok (.iload_n 1, 1) := by decide +kernel
theorem dX7_copyState_18 : decode cX7_copyState 18 = .ok (.iload 4, 2) := by decide +kernel
theorem dX7_copyState_20 : decode cX7_copyState 20 = .ok (.iadd, 1) := by decide +kernel
theorem dX7_copyState_21 : decode cX7_copyState 21 = .ok (.iaload, 1) := by decide +kernel
theorem dX7_copyState_22 : decode cX7_copyState 22 = .ok (.iastore, 1) := by decide +kernel
theorem dX7_copyState_23 : decode cX7_copyState 23 = .ok (.iinc 4 1, 3) := by decide +kernel
theorem dX7_copyState_26 : decode cX7_copyState 26 = .ok (.goto (-23), 3) := by decide +kernel
theorem dX7_copyState_29 : decode cX7_copyState 29 = .ok (.return_, 1) := by decide +kernel
set_option maxRecDepth 20000 in
theorem ggX7_recordRow_X7_copyState : GoodIn wsX7_recordRow wsX7_copyState := goodIn_r _ [6] (by decide +kernel) (by decide +kernel)
set_option maxRecDepth 20000 in
theorem gX7_recordRow_X7_copyState : GoodIn wsX7_recordRow (va_wsS RX7 40 yX7_copyState wsX7_copyState) := goodIn_app (goodIn_of _ (by decide +kernel)) ggX7_recordRow_X7_copyState
theorem dX7_recordRow_0 : decode cX7_recordRow 0 = .ok (.aload_n 0, 1) := by decide +kernel
theorem dX7_recordRow_1 : decode cX7_recordRow 1 = .ok (.getfield 36, 3) := by decide +kernel
theorem dX7_recordRow_4 : decode cX7_recordRow 4 = .ok (.iconst 4, 1) := by decide +kernel
theorem dX7_recordRow_5 : decode cX7_recordRow 5 = .ok (.if_icmp .ne 44, 3) := by decide +kernel
theorem dX7_recordRow_8 : decode cX7_recordRow 8 = .ok (.iconst 0, 1) := by decide +kernel
theorem dX7_recordRow_9 : decode cX7_recordRow 9 = .ok (.istore_n 2, 1) := by decide +kernel
theorem dX7_recordRow_10 : decode cX7_recordRow 10 = .ok (.iload_n 2, 1) := by decide +kernel
theorem dX7_recordRow_11 : decode cX7_recordRow 11 = .ok (.sipush 1524, 3) := by decide +kernel
theorem dX7_recordRow_14 : decode cX7_recordRow 14 = .ok (.if_icmp .ge 25, 3) := by decide +kernel
theorem dX7_recordRow_17 : decode cX7_recordRow 17 = .ok (.aload_n 0, 1) := by decide +kernel
theorem dX7_recordRow_18 : decode cX7_recordRow 18 = .ok (.getfield 16, 3) := by decide +kernel
theorem dX7_recordRow_21 : decode cX7_recordRow 21 = .ok (.iload_n 2, 1) := by decide +kernel
theorem dX7_recordRow_22 : decode cX7_recordRow 22 = .ok (.aload_n 0, 1) := by decide +kernel
theorem dX7_recordRow_23 : decode cX7_recordRow 23 = .ok (.getfield 16, 3) := by decide +kernel
theorem dX7_recordRow_26 : decode cX7_recordRow 26 = .ok (.iload_n 2, 1) := by decide +kernel
theorem dX7_recordRow_27 : decode cX7_recordRow 27 = .ok (.sipush 508, 3) := by decide +kernel
theorem dX7_recordRow_30 : decode cX7_recordRow 30 = .ok (.iadd, 1) := by decide +kernel
theorem dX7_recordRow_31 : decode cX7_recordRow 31 = .ok (.iaload, 1) := by decide +kernel
theorem dX7_recordRow_32 : decode cX7_recordRow 32 = .ok (.iastore, 1) := by decide +kernel
theorem dX7_recordRow_33 : decode cX7_recordRow 33 = .ok (.iinc 2 1, 3) := by decide +kernel
theorem dX7_recordRow_36 : decode cX7_recordRow 36 = .ok (.goto (-26), 3) := by decide +kernel
theorem dX7_recordRow_39 : decode cX7_recordRow 39 = .ok (.aload_n 0, 1) := by decide +kernel
theorem dX7_recordRow_40 : decode cX7_recordRow 40 = .ok (.dup, 1) := by decide +kernel
theorem dX7_recordRow_41 : decode cX7_recordRow 41 = .ok (.getfield 36, 3) := by decide +kernel
theorem dX7_recordRow_44 : decode cX7_recordRow 44 = .ok (.iconst 1, 1) := by decide +kernel
theorem dX7_recordRow_45 : decode cX7_recordRow 45 = .ok (.isub, 1) := by decide +kernel
theorem dX7_recordRow_46 : decode cX7_recordRow 46 = .ok (.putfield 36, 3) := by decide +kernel
theorem dX7_recordRow_49 : decode cX7_recordRow 49 = .ok (.aload_n 1, 1) := by decide +kernel
theorem dX7_recordRow_50 : decode cX7_recordRow 50 = .ok (.iconst 0, 1) := by decide +kernel
theorem dX7_recordRow_51 : decode cX7_recordRow 51 = .ok (.aload_n 0, 1) := by decide +kernel
theorem dX7_recordRow_52 : decode cX7_recordRow 52 = .ok (.getfield 16, 3) := by decide +kernel
theorem dX7_recordRow_55 : decode cX7_recordRow 55 = .ok (.sipush 508, 3) := by decide +kernel
theorem dX7_recordRow_58 : decode cX7_recordRow 58 = .ok (.aload_n 0, 1) := by decide +kernel
theorem dX7_recordRow_59 : decode cX7_recordRow 59 = .ok (.getfield 36, 3) := by decide +kernel
theorem dX7_recordRow_62 : decode cX7_recordRow 62 = .ok (.imul, 1) := by decide +kernel
theorem dX7_recordRow_63 : decode cX7_recordRow 63 = .ok (.invokestatic 40, 3) := by decide +kernel
theorem dX7_recordRow_66 : decode cX7_recordRow 66 = .ok (.aload_n 0, 1) := by decide +kernel
theorem dX7_recordRow_67 : decode cX7_recordRow 67 = .ok (.dup, 1) := by decide +kernel
theorem dX7_recordRow_68 : decode cX7_recordRow 68 = .ok (.getfield 36, 3) := by decide +kernel
theorem dX7_recordRow_71 : decode cX7_recordRow 71 = .ok (.iconst 1, 1) := by decide +kernel
theorem dX7_recordRow_72 : decode cX7_recordRow 72 = .ok (.iadd, 1) := by decide +kernel
theorem dX7_recordRow_73 : decode cX7_recordRow 73 = .ok (.putfield 36, 3) := by decide +kernel
theorem dX7_recordRow_76 : decode cX7_recordRow 76 = .ok (.return_, 1) := by decide +kernel
set_option maxRecDepth 20000 in
theorem ggX7_record_X7_recordRow : GoodIn wsX7_record wsX7_recordRow := goodIn_r _ [6, 7, 8, 9, 10, 5, 11, 12, 13, 14, 15, 16, 17, 18, 19, 20, 21, 22, 23, 24] (by decide +kernel) (by decide +kernel)
set_option maxRecDepth 20000 in
theorem gX7_record_X7_recordRow : GoodIn wsX7_record (wsV RX7 44 RX7 yX7_recordRow wsX7_recordRow) := goodIn_app (goodIn_of _ (by decide +kernel)) ggX7_record_X7_recordRow
theorem dX7_record_0 : decode cX7_record 0 = .ok (.aload_n 0, 1) := by decide +kernel
theorem dX7_record_1 : decode cX7_record 1 = .ok (.aload_n 0, 1) := by decide +kernel
theorem dX7_record_2 : decode cX7_record 2 = .ok (.getfield 7, 3) := by decide +kernel
theorem dX7_record_5 : decode cX7_record 5 = .ok (.invokevirtual 44, 3) := by decide +kernel
theorem dX7_record_8 : decode cX7_record 8 = .ok (.return_, 1) := by decide +kernel
set_option maxRecDepth 20000 in
theorem ggX7_undo_X7_copyState : GoodIn wsX7_undo wsX7_copyState := goodIn_r _ [7] (by decide +kernel) (by decide +kernel)
set_option maxRecDepth 20000 in
theorem gX7_undo_X7_copyState : GoodIn wsX7_undo (va_wsS RX7 40 yX7_copyState wsX7_copyState) := goodIn_app (goodIn_of _ (by decide +kernel)) ggX7_undo_X7_copyState
theorem dX7_undo_0 : decode cX7_undo 0 = .ok (.aload_n 0, 1) := by decide +kernel
theorem dX7_undo_1 : decode cX7_undo 1 = .ok (.getfield 36, 3) := by decide +kernel
theorem dX7_undo_4 : decode cX7_undo 4 = .ok (.ifCond .ne 7, 3) := by decide +kernel
theorem dX7_undo_7 : decode cX7_undo 7 = .ok (.sipush (-1005), 3) := by decide +kernel
theorem dX7_undo_10 : decode cX7_undo 10 = .ok (.ireturn, 1) := by decide +kernel
theorem dX7_undo_11 : decode cX7_undo 11 = .ok (.aload_n 0, 1) := by decide +kernel
theorem dX7_undo_12 : decode cX7_undo 12 = .ok (.dup, 1) := by decide +kernel
theorem dX7_undo_13 : decode cX7_undo 13 = .ok (.getfield 36, 3) := by decide +kernel
theorem dX7_undo_16 : decode cX7_undo 16 = .ok (.iconst 1, 1) := by decide +kernel
theorem dX7_undo_17 : decode cX7_undo 17 = .ok (.isub, 1) := by decide +kernel
theorem dX7_undo_18 : decode cX7_undo 18 = .ok (.putfield 36, 3) := by decide +kernel
theorem dX7_undo_21 : decode cX7_undo 21 = .ok (.aload_n 0, 1) := by decide +kernel
theorem dX7_undo_22 : decode cX7_undo 22 = .ok (.getfield 16, 3) := by decide +kernel
theorem dX7_undo_25 : decode cX7_undo 25 = .ok (.sipush 508, 3) := by decide +kernel
theorem dX7_undo_28 : decode cX7_undo 28 = .ok (.aload_n 0, 1) := by decide +kernel
theorem dX7_undo_29 : decode cX7_undo 29 = .ok (.getfield 36, 3) := by decide +kernel
theorem dX7_undo_32 : decode cX7_undo 32 = .ok (.imul, 1) := by decide +kernel
theorem dX7_undo_33 : decode cX7_undo 33 = .ok (.aload_n 0, 1) := by decide +kernel
theorem dX7_undo_34 : decode cX7_undo 34 = .ok (.getfield 7, 3) := by decide +kernel
theorem dX7_undo_37 : decode cX7_undo 37 = .ok (.iconst 0, 1) := by decide +kernel
theorem dX7_undo_38 : decode cX7_undo 38 = .ok (.invokestatic 40, 3) := by decide +kernel
theorem dX7_undo_41 : decode cX7_undo 41 = .ok (.aload_n 0, 1) := by decide +kernel
theorem dX7_undo_42 : decode cX7_undo 42 = .ok (.getfield 36, 3) := by decide +kernel
theorem dX7_undo_45 : decode cX7_undo 45 = .ok (.ireturn, 1) := by decide +kernel
set_option maxRecDepth 20000 in
theorem ggX7_keep_X7_copyState : GoodIn wsX7_keep wsX7_copyState := goodIn_r _ [7] (by decide +kernel) (by decide +kernel)
set_option maxRecDepth 20000 in
theorem gX7_keep_X7_copyState : GoodIn wsX7_keep (va_wsS RX7 40 yX7_copyState wsX7_copyState) := goodIn_app (goodIn_of _ (by decide +kernel)) ggX7_keep_X7_copyState
theorem dX7_keep_0 : decode cX7_keep 0 = .ok (.aload_n 0, 1) := by decide +kernel
theorem dX7_keep_1 : decode cX7_keep 1 = .ok (.getfield 7, 3) := by decide +kernel
theorem dX7_keep_4 : decode cX7_keep 4 = .ok (.iconst 0, 1) := by decide +kernel
theorem dX7_keep_5 : decode cX7_keep 5 = .ok (.aload_n 0, 1) := by decide +kernel
theorem dX7_keep_6 : decode cX7_keep 6 = .ok (.getfield 19, 3) := by decide +kernel
theorem dX7_keep_9 : decode cX7_keep 9 = .ok (.iconst 0, 1) := by decide +kernel
theorem dX7_keep_10 : decode cX7_keep 10 = .ok (.invokestatic 40, 3) := by decide +kernel
theorem dX7_keep_13 : decode cX7_keep 13 = .ok (.aload_n 0, 1) := by decide +kernel
theorem dX7_keep_14 : decode cX7_keep 14 = .ok (.iconst 1, 1) := by decide +kernel
theorem dX7_keep_15 : decode cX7_keep 15 = .ok (.putfield 48, 3) := by decide +kernel
theorem dX7_keep_18 : decode cX7_keep 18 = .ok (.aload_n 0, 1) := by decide +kernel
theorem dX7_keep_19 : decode cX7_keep 19 = .ok (.getfield 7, 3) := by decide +kernel
theorem dX7_keep_22 : decode cX7_keep 22 = .ok (.iconst 3, 1) := by decide +kernel
theorem dX7_keep_23 : decode cX7_keep 23 = .ok (.iaload, 1) := by decide +kernel
theorem dX7_keep_24 : decode cX7_keep 24 = .ok (.ireturn, 1) := by decide +kernel
set_option maxRecDepth 20000 in
theorem ggX7_restore_X7_record : GoodIn wsX7_restore wsX7_record := goodIn_r _ [8, 3, 9, 10, 11, 7, 12, 13, 14, 15, 16, 17, 18, 19, 20, 21, 22, 23, 24, 25, 26, 27, 28, 29, 30] (by decide +kernel) (by decide +kernel)
set_option maxRecDepth 20000 in
theorem gX7_restore_X7_record : GoodIn wsX7_restore (wsV RX7 52 RX7 yX7_record wsX7_record) := goodIn_app (goodIn_of _ (by decide +kernel)) ggX7_restore_X7_record
set_option maxRecDepth 20000 in
theorem ggX7_restore_X7_copyState : GoodIn wsX7_restore wsX7_copyState := goodIn_r _ [17] (by decide +kernel) (by decide +kernel)
set_option maxRecDepth 20000 in
theorem gX7_restore_X7_copyState : GoodIn wsX7_restore (va_wsS RX7 40 yX7_copyState wsX7_copyState) := goodIn_app (goodIn_of _ (by decide +kernel)) ggX7_restore_X7_copyState
theorem dX7_restore_0 : decode cX7_restore 0 = .ok (.aload_n 0, 1) := by decide +kernel
theorem dX7_restore_1 : decode cX7_restore 1 = .ok (.getfield 48, 3) := by decide +kernel
theorem dX7_restore_4 : decode cX7_restore 4 = .ok (.ifCond .ne 7, 3) := by decide +kernel
theorem dX7_restore_7 : decode cX7_restore 7 = .ok (.sipush (-1005), 3) := by decide +kernel
theorem dX7_restore_10 : decode cX7_restore 10 = .ok (.ireturn, 1) := by decide +kernel
theorem dX7_restore_11 : decode cX7_restore 11 = .ok (.aload_n 0, 1) := by decide +kernel
theorem dX7_restore_12 : decode cX7_restore 12 = .ok (.invokevirtual 52, 3) := by decide +kernel
theorem dX7_restore_15 : decode cX7_restore 15 = .ok (.aload_n 0, 1) := by decide +kernel
theorem dX7_restore_16 : decode cX7_restore 16 = .ok (.getfield 19, 3) := by decide +kernel
theorem dX7_restore_19 : decode cX7_restore 19 = .ok (.iconst 0, 1) := by decide +kernel
theorem dX7_restore_20 : decode cX7_restore 20 = .ok (.aload_n 0, 1) := by decide +kernel
theorem dX7_restore_21 : decode cX7_restore 21 = .ok (.getfield 7, 3) := by decide +kernel
theorem dX7_restore_24 : decode cX7_restore 24 = .ok (.iconst 0, 1) := by decide +kernel
theorem dX7_restore_25 : decode cX7_restore 25 = .ok (.invokestatic 40, 3) := by decide +kernel
theorem dX7_restore_28 : decode cX7_restore 28 = .ok (.aload_n 0, 1) := by decide +kernel
theorem dX7_restore_29 : decode cX7_restore 29 = .ok (.getfield 7, 3) := by decide +kernel
theorem dX7_restore_32 : decode cX7_restore 32 = .ok (.iconst 3, 1) := by decide +kernel
theorem dX7_restore_33 : decode cX7_restore 33 = .ok (.iaload, 1) := by decide +kernel
theorem dX7_restore_34 : decode cX7_restore 34 = .ok (.ireturn, 1) := by decide +kernel
set_option maxRecDepth 20000 in
theorem ggX7_setBatch_X7_isBatch : GoodIn wsX7_setBatch wsX7_isBatch := goodIn_r _ [5, 6, 7, 4, 8] (by decide +kernel) (by decide +kernel)
set_option maxRecDepth 20000 in
theorem gX7_setBatch_X7_isBatch : GoodIn wsX7_setBatch (va_wsS RX7 55 yX7_isBatch wsX7_isBatch) := goodIn_app (goodIn_of _ (by decide +kernel)) ggX7_setBatch_X7_isBatch
set_option maxRecDepth 20000 in
theorem ggX7_setBatch_X7_in : GoodIn wsX7_setBatch wsX7_in := goodIn_r _ [8] (by decide +kernel) (by decide +kernel)
set_option maxRecDepth 20000 in
theorem gX7_setBatch_X7_in : GoodIn wsX7_setBatch (va_wsS RX7 28 yX7_in wsX7_in) := goodIn_app (goodIn_of _ (by decide +kernel)) ggX7_setBatch_X7_in
set_option maxRecDepth 20000 in
theorem ggX7_setBatch_X7_record : GoodIn wsX7_setBatch wsX7_record := goodIn_r _ [12, 1, 13, 14, 15, 4, 16, 17, 18, 19, 20, 21, 22, 23, 24, 25, 26, 27, 28, 29, 30, 31, 32, 33, 34] (by decide +kernel) (by decide +kernel)
set_option maxRecDepth 20000 in
theorem gX7_setBatch_X7_record : GoodIn wsX7_setBatch (wsV RX7 52 RX7 yX7_record wsX7_record) := goodIn_app (goodIn_of _ (by decide +kernel)) ggX7_setBatch_X7_record
theorem dX7_setBatch_0 : decode cX7_setBatch 0 = .ok (.iload_n 1, 1) := by decide +kernel
theorem dX7_setBatch_1 : decode cX7_setBatch 1 = .ok (.invokestatic 55, 3) := by decide +kernel
theorem dX7_setBatch_4 : decode cX7_setBatch 4 = .ok (.ifCond .ne 7, 3) := by decide +kernel
theorem dX7_setBatch_7 : decode cX7_setBatch 7 = .ok (.sipush (-1001), 3) := by decide +kernel
theorem dX7_setBatch_10 : decode cX7_setBatch 10 = .ok (.ireturn, 1) := by decide +kernel
theorem dX7_setBatch_11 : decode cX7_setBatch 11 = .ok (.iload_n 2, 1) := by decide +kernel
theorem dX7_setBatch_12 : decode cX7_setBatch 12 = .ok (.bipush 10, 2) := by decide +kernel
theorem dX7_setBatch_14 : decode cX7_setBatch 14 = .ok (.sipush 9999, 3) := by decide +kernel
theorem dX7_setBatch_17 : decode cX7_setBatch 17 = .ok (.invokestatic 28, 3) := by decide +kernel
theorem dX7_setBatch_20 : decode cX7_setBatch 20 = .ok (.ifCond .eq 13, 3) := by decide +kernel
theorem dX7_setBatch_23 : decode cX7_setBatch 23 = .ok (.iload_n 3, 1) := by decide +kernel
theorem dX7_setBatch_24 : decode cX7_setBatch 24 = .ok (.iconst 0, 1) := by decide +kernel
theorem dX7_setBatch_25 : decode cX7_setBatch 25 = .ok (.bipush 90, 2) := by decide +kernel
theorem dX7_setBatch_27 : decode cX7_setBatch 27 = .ok (.invokestatic 28, 3) := by decide +kernel
theorem dX7_setBatch_30 : decode cX7_setBatch 30 = .ok (.ifCond .ne 7, 3) := by decide +kernel
theorem dX7_setBatch_33 : decode cX7_setBatch 33 = .ok (.sipush (-1002), 3) := by decide +kernel
theorem dX7_setBatch_36 : decode cX7_setBatch 36 = .ok (.ireturn, 1) := by decide +kernel
theorem dX7_setBatch_37 : decode cX7_setBatch 37 = .ok (.iconst 4, 1) := by decide +kernel
theorem dX7_setBatch_38 : decode cX7_setBatch 38 = .ok (.iconst 2, 1) := by decide +kernel
theorem dX7_setBatch_39 : decode cX7_setBatch 39 = .ok (.iload_n 1, 1) := by decide +kernel
theorem dX7_setBatch_40 : decode cX7_setBatch 40 = .ok (.imul, 1) := by decide +kernel
theorem dX7_setBatch_41 : decode cX7_setBatch 41 = .ok (.iadd, 1) := by decide +kernel
theorem dX7_setBatch_42 : decode cX7_setBatch 42 = .ok (.istore 4, 2) := by decide +kernel
theorem dX7_setBatch_44 : decode cX7_setBatch 44 = .ok (.aload_n 0, 1) := by decide +kernel
theorem dX7_setBatch_45 : decode cX7_setBatch 45 = .ok (.getfield 7, 3) := by decide +kernel
theorem dX7_setBatch_48 : decode cX7_setBatch 48 = .ok (.iload 4, 2) := by decide +kernel
theorem dX7_setBatch_50 : decode cX7_setBatch 50 = .ok (.iaload, 1) := by decide +kernel
theorem dX7_setBatch_51 : decode cX7_setBatch 51 = .ok (.istore 5, 2) := by decide +kernel
theorem dX7_setBatch_53 : decode cX7_setBatch 53 = .ok (.iload 5, 2) := by decide +kernel
theorem dX7_setBatch_55 : decode cX7_setBatch 55 = .ok (.iload_n 2, 1) := by decide +kernel
theorem dX7_setBatch_56 : decode cX7_setBatch 56 = .ok (.if_icmp .ne 20, 3) := by decide +kernel
theorem dX7_setBatch_59 : decode cX7_setBatch 59 = .ok (.aload_n 0, 1) := by decide +kernel
theorem dX7_setBatch_60 : decode cX7_setBatch 60 = .ok (.getfield 7, 3) := by decide +kernel
theorem dX7_setBatch_63 : decode cX7_setBatch 63 = .ok (.iload 4, 2) := by decide +kernel
theorem dX7_setBatch_65 : decode cX7_setBatch 65 = .ok (.iconst 1, 1) := by decide +kernel
theorem dX7_setBatch_66 : decode cX7_setBatch 66 = .ok (.iadd, 1) := by decide +kernel
theorem dX7_setBatch_67 : decode cX7_setBatch 67 = .ok (.iaload, 1) := by decide +kernel
theorem dX7_setBatch_68 : decode cX7_setBatch 68 = .ok (.iload_n 3, 1) := by decide +kernel
theorem dX7_setBatch_69 : decode cX7_setBatch 69 = .ok (.if_icmp .ne 7, 3) := by decide +kernel
theorem dX7_setBatch_72 : decode cX7_setBatch 72 = .ok (.sipush (-1005), 3) := by decide +kernel
theorem dX7_setBatch_75 : decode cX7_setBatch 75 = .ok (.ireturn, 1) := by decide +kernel
theorem dX7_setBatch_76 : decode cX7_setBatch 76 = .ok (.aload_n 0, 1) := by decide +kernel
theorem dX7_setBatch_77 : decode cX7_setBatch 77 = .ok (.invokevirtual 52, 3) := by decide +kernel
theorem dX7_setBatch_80 : decode cX7_setBatch 80 = .ok (.aload_n 0, 1) := by decide +kernel
theorem dX7_setBatch_81 : decode cX7_setBatch 81 = .ok (.getfield 7, 3) := by decide +kernel
theorem dX7_setBatch_84 : decode cX7_setBatch 84 = .ok (.iload 4, 2) := by decide +kernel
theorem dX7_setBatch_86 : decode cX7_setBatch 86 = .ok (.iload_n 2, 1) := by decide +kernel
theorem dX7_setBatch_87 : decode cX7_setBatch 87 = .ok (.iastore, 1) := by decide +kernel
theorem dX7_setBatch_88 : decode cX7_setBatch 88 = .ok (.aload_n 0, 1) := by decide +kernel
theorem dX7_setBatch_89 : decode cX7_setBatch 89 = .ok (.getfield 7, 3) := by decide +kernel
theorem dX7_setBatch_92 : decode cX7_setBatch 92 = .ok (.iload 4, 2) := by decide +kernel
theorem dX7_setBatch_94 : decode cX7_setBatch 94 = .ok (.iconst 1, 1) := by decide +kernel
theorem dX7_setBatch_95 : decode cX7_setBatch 95 = .ok (.iadd, 1) := by decide +kernel
theorem dX7_setBatch_96 : decode cX7_setBatch 96 = .ok (.iload_n 3, 1) := by decide +kernel
theorem dX7_setBatch_97 : decode cX7_setBatch 97 = .ok (.iastore, 1) := by decide +kernel
theorem dX7_setBatch_98 : decode cX7_setBatch 98 = .ok (.iload 5, 2) := by decide +kernel
theorem dX7_setBatch_100 : decode cX7_setBatch 100 = .ok (.ireturn, 1) := by decide +kernel
set_option maxRecDepth 20000 in
theorem ggX7_whyNotPut_X7_isRack : GoodIn wsX7_whyNotPut wsX7_isRack := goodIn_r _ [5, 6, 7, 4, 8] (by decide +kernel) (by decide +kernel)
set_option maxRecDepth 20000 in
theorem gX7_whyNotPut_X7_isRack : GoodIn wsX7_whyNotPut (va_wsS RX7 59 yX7_isRack wsX7_isRack) := goodIn_app (goodIn_of _ (by decide +kernel)) ggX7_whyNotPut_X7_isRack
set_option maxRecDepth 20000 in
theorem ggX7_whyNotPut_X7_isPlace : GoodIn wsX7_whyNotPut wsX7_isPlace := goodIn_r _ [11, 6, 7, 4, 8] (by decide +kernel) (by decide +kernel)
set_option maxRecDepth 20000 in
theorem gX7_whyNotPut_X7_isPlace : GoodIn wsX7_whyNotPut (va_wsS RX7 62 yX7_isPlace wsX7_isPlace) := goodIn_app (goodIn_of _ (by decide +kernel)) ggX7_whyNotPut_X7_isPlace
set_option maxRecDepth 20000 in
theorem ggX7_whyNotPut_X7_isBatch : GoodIn wsX7_whyNotPut wsX7_isBatch := goodIn_r _ [14, 6, 7, 4, 8] (by decide +kernel) (by decide +kernel)
set_option maxRecDepth 20000 in
theorem gX7_whyNotPut_X7_isBatch : GoodIn wsX7_whyNotPut (va_wsS RX7 55 yX7_isBatch wsX7_isBatch) := goodIn_app (goodIn_of _ (by decide +kernel)) ggX7_whyNotPut_X7_isBatch
set_option maxRecDepth 20000 in
theorem ggX7_whyNotPut_X7_lampAt : GoodIn wsX7_whyNotPut wsX7_lampAt := goodIn_r _ [18, 1, 19, 20, 21, 4, 22, 23, 24, 25, 26, 27, 28, 29, 30, 31, 32, 33, 34, 35] (by decide +kernel) (by decide +kernel)
set_option maxRecDepth 20000 in
theorem gX7_whyNotPut_X7_lampAt : GoodIn wsX7_whyNotPut (wsV RX7 65 RX7 yX7_lampAt wsX7_lampAt) := goodIn_app (goodIn_of _ (by decide +kernel)) ggX7_whyNotPut_X7_lampAt
theorem dX7_whyNotPut_0 : decode cX7_whyNotPut 0 = .ok (.iload_n 1, 1) := by decide +kernel
theorem dX7_whyNotPut_1 : decode cX7_whyNotPut 1 = .ok (.invokestatic 59, 3) := by decide +kernel
theorem dX7_whyNotPut_4 : decode cX7_whyNotPut 4 = .ok (.ifCond .eq 17, 3) := by decide +kernel
theorem dX7_whyNotPut_7 : decode cX7_whyNotPut 7 = .ok (.iload_n 2, 1) := by decide +kernel
theorem dX7_whyNotPut_8 : decode cX7_whyNotPut 8 = .ok (.invokestatic 62, 3) := by decide +kernel
theorem dX7_whyNotPut_11 : decode cX7_whyNotPut 11 = .ok (.ifCond .eq 10, 3) := by decide +kernel
theorem dX7_whyNotPut_14 : decode cX7_whyNotPut 14 = .ok (.iload_n 3, 1) := by decide +kernel
theorem dX7_whyNotPut_15 : decode cX7_whyNotPut 15 = .ok (.invokestatic 55, 3) := by decide +kernel
theorem dX7_whyNotPut_18 : decode cX7_whyNotPut 18 = .ok (.ifCond .ne 9, 3) := by decide +kernel
theorem dX7_whyNotPut_21 : decode cX7_whyNotPut 21 = .ok (.sipush (-1001), 3) := by decide +kernel
theorem dX7_whyNotPut_24 : decode cX7_whyNotPut 24 = .ok (.goto 39, 3) := by decide +kernel
theorem dX7_whyNotPut_27 : decode cX7_whyNotPut 27 = .ok (.aload_n 0, 1) := by decide +kernel
theorem dX7_whyNotPut_28 : decode cX7_whyNotPut 28 = .ok (.iload_n 1, 1) := by decide +kernel
theorem dX7_whyNotPut_29 : decode cX7_whyNotPut 29 = .ok (.iload_n 2, 1) := by decide +kernel
theorem dX7_whyNotPut_30 : decode cX7_whyNotPut 30 = .ok (.invokevirtual 65, 3) := by decide +kernel
theorem dX7_whyNotPut_33 : decode cX7_whyNotPut 33 = .ok (.sipush (-1005), 3) := by decide +kernel
theorem dX7_whyNotPut_36 : decode cX7_whyNotPut 36 = .ok (.if_icmp .eq 9, 3) := by decide +kernel
theorem dX7_whyNotPut_39 : decode cX7_whyNotPut 39 = .ok (.sipush (-1004), 3) := by decide +kernel
theorem dX7_whyNotPut_42 : decode cX7_whyNotPut 42 = .ok (.goto 21, 3) := by decide +kernel
theorem dX7_whyNotPut_45 : decode cX7_whyNotPut 45 = .ok (.aload_n 0, 1) := by decide +kernel
theorem dX7_whyNotPut_46 : decode cX7_whyNotPut 46 = .ok (.getfield 7, 3) := by decide +kernel
theorem dX7_whyNotPut_49 : decode cX7_whyNotPut 49 = .ok (.iconst 3, 1) := by decide +kernel
theorem dX7_whyNotPut_50 : decode cX7_whyNotPut 50 = .ok (.iaload, 1) := by decide +kernel
theorem dX7_whyNotPut_51 : decode cX7_whyNotPut 51 = .ok (.bipush 60, 2) := by decide +kernel
theorem dX7_whyNotPut_53 : decode cX7_whyNotPut 53 = .ok (.if_icmp .ne 9, 3) := by decide +kernel
theorem dX7_whyNotPut_56 : decode cX7_whyNotPut 56 = .ok (.sipush (-1003), 3) := by decide +kernel
theorem dX7_whyNotPut_59 : decode cX7_whyNotPut 59 = .ok (.goto 4, 3) := by decide +kernel
theorem dX7_whyNotPut_62 : decode cX7_whyNotPut 62 = .ok (.iconst 0, 1) := by decide +kernel
theorem dX7_whyNotPut_63 : decode cX7_whyNotPut 63 = .ok (.ireturn, 1) := by decide +kernel
set_option maxRecDepth 20000 in
theorem ggX7_putNow_X7_lay : GoodIn wsX7_putNow wsX7_lay := goodIn_r _ [6, 1, 7, 8, 9, 10, 11, 12, 13, 14, 15, 16, 17, 18, 19] (by decide +kernel) (by decide +kernel)
set_option maxRecDepth 20000 in
theorem gX7_putNow_X7_lay : GoodIn wsX7_putNow (wsV RX7 68 RX7 yX7_lay wsX7_lay) := goodIn_app (goodIn_of _ (by decide +kernel)) ggX7_putNow_X7_lay
theorem dX7_putNow_0 : decode cX7_putNow 0 = .ok (.aload_n 0, 1) := by decide +kernel
theorem dX7_putNow_1 : decode cX7_putNow 1 = .ok (.getfield 7, 3) := by decide +kernel
theorem dX7_putNow_4 : decode cX7_putNow 4 = .ok (.iconst 3, 1) := by decide +kernel
theorem dX7_putNow_5 : decode cX7_putNow 5 = .ok (.iaload, 1) := by decide +kernel
theorem dX7_putNow_6 : decode cX7_putNow 6 = .ok (.istore 4, 2) := by decide +kernel
theorem dX7_putNow_8 : decode cX7_putNow 8 = .ok (.aload_n 0, 1) := by decide +kernel
theorem dX7_putNow_9 : decode cX7_putNow 9 = .ok (.getfield 7, 3) := by decide +kernel
theorem dX7_putNow_12 : decode cX7_putNow 12 = .ok (.iconst 4, 1) := by decide +kernel
theorem dX7_putNow_13 : decode cX7_putNow 13 = .ok (.iconst 2, 1) := by decide +kernel
theorem dX7_putNow_14 : decode cX7_putNow 14 = .ok (.iload_n 3, 1) := by decide +kernel
theorem dX7_putNow_15 : decode cX7_putNow 15 = .ok (.imul, 1) := by decide +kernel
theorem dX7_putNow_16 : decode cX7_putNow 16 = .ok (.iadd, 1) := by decide +kernel
theorem dX7_putNow_17 : decode cX7_putNow 17 = .ok (.iaload, 1) := by decide +kernel
theorem dX7_putNow_18 : decode cX7_putNow 18 = .ok (.istore 5, 2) := by decide +kernel
theorem dX7_putNow_20 : decode cX7_putNow 20 = .ok (.bipush 7, 2) := by decide +kernel
theorem dX7_putNow_22 : decode cX7_putNow 22 = .ok (.iload 4, 2) := by decide +kernel
theorem dX7_putNow_24 : decode cX7_putNow 24 = .ok (.imul, 1) := by decide +kernel
theorem dX7_putNow_25 : decode cX7_putNow 25 = .ok (.bipush 10, 2) := by decide +kernel
theorem dX7_putNow_27 : decode cX7_putNow 27 = .ok (.irem, 1) := by decide +kernel
theorem dX7_putNow_28 : decode cX7_putNow 28 = .ok (.istore 6, 2) := by decide +kernel
theorem dX7_putNow_30 : decode cX7_putNow 30 = .ok (.iload 5, 2) := by decide +kernel
theorem dX7_putNow_32 : decode cX7_putNow 32 = .ok (.iload 5, 2) := by decide +kernel
theorem dX7_putNow_34 : decode cX7_putNow 34 = .ok (.aload_n 0, 1) := by decide +kernel
theorem dX7_putNow_35 : decode cX7_putNow 35 = .ok (.getfield 7, 3) := by decide +kernel
theorem dX7_putNow_38 : decode cX7_putNow 38 = .ok (.iconst 4, 1) := by decide +kernel
theorem dX7_putNow_39 : decode cX7_putNow 39 = .ok (.iconst 2, 1) := by decide +kernel
theorem dX7_putNow_40 : decode cX7_putNow 40 = .ok (.iload_n 3, 1) := by decide +kernel
theorem dX7_putNow_41 : decode cX7_putNow 41 = .ok (.imul, 1) := by decide +kernel
theorem dX7_putNow_42 : decode cX7_putNow 42 = .ok (.iadd, 1) := by decide +kernel
theorem dX7_putNow_43 : decode cX7_putNow 43 = .ok (.iconst 1, 1) := by decide +kernel
theorem dX7_putNow_44 : decode cX7_putNow 44 = .ok (.iadd, 1) := by decide +kernel
theorem dX7_putNow_45 : decode cX7_putNow 45 = .ok (.iaload, 1) := by decide +kernel
theorem dX7_putNow_46 : decode cX7_putNow 46 = .ok (.imul, 1) := by decide +kernel
theorem dX7_putNow_47 : decode cX7_putNow 47 = .ok (.iload 6, 2) := by decide +kernel
theorem dX7_putNow_49 : decode cX7_putNow 49 = .ok (.imul, 1) := by decide +kernel
theorem dX7_putNow_50 : decode cX7_putNow 50 = .ok (.sipush 1000, 3) := by decide +kernel
theorem dX7_putNow_53 : decode cX7_putNow 53 = .ok (.idiv, 1) := by decide +kernel
theorem dX7_putNow_54 : decode cX7_putNow 54 = .ok (.isub, 1) := by decide +kernel
theorem dX7_putNow_55 : decode cX7_putNow 55 = .ok (.istore 7, 2) := by decide +kernel
theorem dX7_putNow_57 : decode cX7_putNow 57 = .ok (.iload 6, 2) := by decide +kernel
theorem dX7_putNow_59 : decode cX7_putNow 59 = .ok (.bipush 9, 2) := by decide +kernel
theorem dX7_putNow_61 : decode cX7_putNow 61 = .ok (.if_icmp .ne 11, 3) := by decide +kernel
theorem dX7_putNow_64 : decode cX7_putNow 64 = .ok (.iload 7, 2) := by decide +kernel
theorem dX7_putNow_66 : decode cX7_putNow 66 = .ok (.bipush 10, 2) := by decide +kernel
theorem dX7_putNow_68 : decode cX7_putNow 68 = .ok (.idiv, 1) := by decide +kernel
theorem dX7_putNow_69 : decode cX7_putNow 69 = .ok (.goto 5, 3) := by decide +kernel
theorem dX7_putNow_72 : decode cX7_putNow 72 = .ok (.iload 7, 2) := by decide +kernel
theorem dX7_putNow_74 : decode cX7_putNow 74 = .ok (.istore 7, 2) := by decide +kernel
theorem dX7_putNow_76 : decode cX7_putNow 76 = .ok (.aload_n 0, 1) := by decide +kernel
theorem dX7_putNow_77 : decode cX7_putNow 77 = .ok (.iload 4, 2) := by decide +kernel
theorem dX7_putNow_79 : decode cX7_putNow 79 = .ok (.iconst 0, 1) := by decide +kernel
theorem dX7_putNow_80 : decode cX7_putNow 80 = .ok (.iload_n 3, 1) := by decide +kernel
theorem dX7_putNow_81 : decode cX7_putNow 81 = .ok (.invokevirtual 68, 3) := by decide +kernel
theorem dX7_putNow_84 : decode cX7_putNow 84 = .ok (.aload_n 0, 1) := by decide +kernel
theorem dX7_putNow_85 : decode cX7_putNow 85 = .ok (.iload 4, 2) := by decide +kernel
theorem dX7_putNow_87 : decode cX7_putNow 87 = .ok (.iconst 1, 1) := by decide +kernel
theorem dX7_putNow_88 : decode cX7_putNow 88 = .ok (.iload_n 1, 1) := by decide +kernel
theorem dX7_putNow_89 : decode cX7_putNow 89 = .ok (.invokevirtual 68, 3) := by decide +kernel
theorem dX7_putNow_92 : decode cX7_putNow 92 = .ok (.aload_n 0, 1) := by decide +kernel
theorem dX7_putNow_93 : decode cX7_putNow 93 = .ok (.iload 4, 2) := by decide +kernel
theorem dX7_putNow_95 : decode cX7_putNow 95 = .ok (.iconst 2, 1) := by decide +kernel
theorem dX7_putNow_96 : decode cX7_putNow 96 = .ok (.iload_n 2, 1) := by decide +kernel
theorem dX7_putNow_97 : decode cX7_putNow 97 = .ok (.invokevirtual 68, 3) := by decide +kernel
theorem dX7_putNow_100 : decode cX7_putNow 100 = .ok (.aload_n 0, 1) := by decide +kernel
theorem dX7_putNow_101 : decode cX7_putNow 101 = .ok (.iload 4, 2) := by decide +kernel
theorem dX7_putNow_103 : decode cX7_putNow 103 = .ok (.iconst 3, 1) := by decide +kernel
theorem dX7_putNow_104 : decode cX7_putNow 104 = .ok (.iload 7, 2) := by decide +kernel
theorem dX7_putNow_106 : decode cX7_putNow 106 = .ok (.iconst 1, 1) := by decide +kernel
theorem dX7_putNow_107 : decode cX7_putNow 107 = .ok (.if_icmp .ge 7, 3) := by decide +kernel
theorem dX7_putNow_110 : decode cX7_putNow 110 = .ok (.iconst 1, 1) := by decide +kernel
theorem dX7_putNow_111 : decode cX7_putNow 111 = .ok (.goto 5, 3) := by decide +kernel
theorem dX7_putNow_114 : decode cX7_putNow 114 = .ok (.iload 7, 2) := by decide +kernel
theorem dX7_putNow_116 : decode cX7_putNow 116 = .ok (.invokevirtual 68, 3) := by decide +kernel
theorem dX7_putNow_119 : decode cX7_putNow 119 = .ok (.aload_n 0, 1) := by decide +kernel
theorem dX7_putNow_120 : decode cX7_putNow 120 = .ok (.iload 4, 2) := by decide +kernel
theorem dX7_putNow_122 : decode cX7_putNow 122 = .ok (.iconst 4, 1) := by decide +kernel
theorem dX7_putNow_123 : decode cX7_putNow 123 = .ok (.iconst 0, 1) := by decide +kernel
theorem dX7_putNow_124 : decode cX7_putNow 124 = .ok (.invokevirtual 68, 3) := by decide +kernel
theorem dX7_putNow_127 : decode cX7_putNow 127 = .ok (.aload_n 0, 1) := by decide +kernel
theorem dX7_putNow_128 : decode cX7_putNow 128 = .ok (.iload 4, 2) := by decide +kernel
theorem dX7_putNow_130 : decode cX7_putNow 130 = .ok (.iconst 5, 1) := by decide +kernel
theorem dX7_putNow_131 : decode cX7_putNow 131 = .ok (.iconst 0, 1) := by decide +kernel
theorem dX7_putNow_132 : decode cX7_putNow 132 = .ok (.invokevirtual 68, 3) := by decide +kernel
theorem dX7_putNow_135 : decode cX7_putNow 135 = .ok (.aload_n 0, 1) := by decide +kernel
theorem dX7_putNow_136 : decode cX7_putNow 136 = .ok (.iload 4, 2) := by decide +kernel
theorem dX7_putNow_138 : decode cX7_putNow 138 = .ok (.bipush 6, 2) := by decide +kernel
theorem dX7_putNow_140 : decode cX7_putNow 140 = .ok (.sipush (-1005), 3) := by decide +kernel
theorem dX7_putNow_143 : decode cX7_putNow 143 = .ok (.invokevirtual 68, 3) := by decide +kernel
theorem dX7_putNow_146 : decode cX7_putNow 146 = .ok (.aload_n 0, 1) := by decide +kernel
theorem dX7_putNow_147 : decode cX7_putNow 147 = .ok (.iload 4, 2) := by decide +kernel
theorem dX7_putNow_149 : decode cX7_putNow 149 = .ok (.bipush 7, 2) := by decide +kernel
theorem dX7_putNow_151 : decode cX7_putNow 151 = .ok (.iload 6, 2) := by decide +kernel
theorem dX7_putNow_153 : decode cX7_putNow 153 = .ok (.bipush 9, 2) := by decide +kernel
theorem dX7_putNow_155 : decode cX7_putNow 155 = .ok (.if_icmp .ne 7, 3) := by decide +kernel
theorem dX7_putNow_158 : decode cX7_putNow 158 = .ok (.iconst 1, 1) := by decide +kernel
theorem dX7_putNow_159 : decode cX7_putNow 159 = .ok (.goto 4, 3) := by decide +kernel
theorem dX7_putNow_162 : decode cX7_putNow 162 = .ok (.iconst 0, 1) := by decide +kernel
theorem dX7_putNow_163 : decode cX7_putNow 163 = .ok (.invokevirtual 68, 3) := by decide +kernel
theorem dX7_putNow_166 : decode cX7_putNow 166 = .ok (.aload_n 0, 1) := by decide +kernel
theorem dX7_putNow_167 : decode cX7_putNow 167 = .ok (.getfield 7, 3) := by decide +kernel
theorem dX7_putNow_170 : decode cX7_putNow 170 = .ok (.iconst 3, 1) := by decide +kernel
theorem dX7_putNow_171 : decode cX7_putNow 171 = .ok (.dup2, 1) := by decide +kernel
theorem dX7_putNow_172 : decode cX7_putNow 172 = .ok (.iaload, 1) := by decide +kernel
theorem dX7_putNow_173 : decode cX7_putNow 173 = .ok (.iconst 1, 1) := by decide +kernel
theorem dX7_putNow_174 : decode cX7_putNow 174 = .ok (.iadd, 1) := by decide +kernel
theorem dX7_putNow_175 : decode cX7_putNow 175 = .ok (.iastore, 1) := by decide +kernel
theorem dX7_putNow_176 : decode cX7_putNow 176 = .ok (.iload 4, 2) := by decide +kernel
theorem dX7_putNow_178 : decode cX7_putNow 178 = .ok (.ireturn, 1) := by decide +kernel
set_option maxRecDepth 20000 in
theorem ggX7_put_X7_whyNotPut : GoodIn wsX7_put wsX7_whyNotPut := goodIn_r _ [5, 6, 7, 8, 4, 9, 10, 11, 12, 13, 14, 15, 16, 17, 18, 19, 20, 21, 22, 23, 24, 25, 26, 48, 49, 50, 51, 52, 53, 54, 55, 56, 57, 58, 59, 60] (by decide +kernel) (by decide +kernel)
set_option maxRecDepth 20000 in
theorem gX7_put_X7_whyNotPut : GoodIn wsX7_put (wsV RX7 72 RX7 yX7_whyNotPut wsX7_whyNotPut) := goodIn_app (goodIn_of _ (by decide +kernel)) ggX7_put_X7_whyNotPut
set_option maxRecDepth 20000 in
theorem ggX7_put_X7_record : GoodIn wsX7_put wsX7_record := goodIn_r _ [30, 6, 31, 32, 33, 4, 34, 35, 36, 37, 38, 39, 48, 49, 50, 51, 52, 53, 54, 55, 56, 57, 58, 59, 60] (by decide +kernel) (by decide +kernel)
set_option maxRecDepth 20000 in
theorem gX7_put_X7_record : GoodIn wsX7_put (wsV RX7 52 RX7 yX7_record wsX7_record) := goodIn_app (goodIn_of _ (by decide +kernel)) ggX7_put_X7_record
set_option maxRecDepth 20000 in
theorem ggX7_put_X7_putNow : GoodIn wsX7_put wsX7_putNow := goodIn_r _ [43, 6, 44, 45, 46, 4, 47, 48, 49, 50, 51, 52, 53, 54, 55, 56, 57, 58, 59, 60] (by decide +kernel) (by decide +kernel)
set_option maxRecDepth 20000 in
theorem gX7_put_X7_putNow : GoodIn wsX7_put (wsV RX7 76 RX7 yX7_putNow wsX7_putNow) := goodIn_app (goodIn_of _ (by decide +kernel)) ggX7_put_X7_putNow
theorem dX7_put_0 : decode cX7_put 0 = .ok (.aload_n 0, 1) := by decide +kernel
theorem dX7_put_1 : decode cX7_put 1 = .ok (.iload_n 1, 1) := by decide +kernel
theorem dX7_put_2 : decode cX7_put 2 = .ok (.iload_n 2, 1) := by decide +kernel
theorem dX7_put_3 : decode cX7_put 3 = .ok (.iload_n 3, 1) := by decide +kernel
theorem dX7_put_4 : decode cX7_put 4 = .ok (.invokevirtual 72, 3) := by decide +kernel
theorem dX7_put_7 : decode cX7_put 7 = .ok (.istore 4, 2) := by decide +kernel
theorem dX7_put_9 : decode cX7_put 9 = .ok (.iload 4, 2) := by decide +kernel
theorem dX7_put_11 : decode cX7_put 11 = .ok (.ifCond .ge 6, 3) := by decide +kernel
theorem dX7_put_14 : decode cX7_put 14 = .ok (.iload 4, 2) := by decide +kernel
theorem dX7_put_16 : decode cX7_put 16 = .ok (.ireturn, 1) := by decide +kernel
theorem dX7_put_17 : decode cX7_put 17 = .ok (.aload_n 0, 1) := by decide +kernel
theorem dX7_put_18 : decode cX7_put 18 = .ok (.invokevirtual 52, 3) := by decide +kernel
theorem dX7_put_21 : decode cX7_put 21 = .ok (.aload_n 0, 1) := by decide +kernel
theorem dX7_put_22 : decode cX7_put 22 = .ok (.iload_n 1, 1) := by decide +kernel
theorem dX7_put_23 : decode cX7_put 23 = .ok (.iload_n 2, 1) := by decide +kernel
theorem dX7_put_24 : decode cX7_put 24 = .ok (.iload_n 3, 1) := by decide +kernel
theorem dX7_put_25 : decode cX7_put 25 = .ok (.invokevirtual 76, 3) := by decide +kernel
theorem dX7_put_28 : decode cX7_put 28 = .ok (.ireturn, 1) := by decide +kernel
set_option maxRecDepth 20000 in
theorem ggX7_moveTo_X7_lay : GoodIn wsX7_moveTo wsX7_lay := goodIn_r _ [5, 6, 7, 8, 9, 10, 11, 12, 13, 14, 15, 16, 17, 18, 19] (by decide +kernel) (by decide +kernel)
set_option maxRecDepth 20000 in
theorem gX7_moveTo_X7_lay : GoodIn wsX7_moveTo (wsV RX7 68 RX7 yX7_lay wsX7_lay) := goodIn_app (goodIn_of _ (by decide +kernel)) ggX7_moveTo_X7_lay
theorem dX7_moveTo_0 : decode cX7_moveTo 0 = .ok (.iload_n 1, 1) := by decide +kernel
theorem dX7_moveTo_1 : decode cX7_moveTo 1 = .ok (.sipush (-1005), 3) := by decide +kernel
theorem dX7_moveTo_4 : decode cX7_moveTo 4 = .ok (.if_icmp .eq 17, 3) := by decide +kernel
theorem dX7_moveTo_7 : decode cX7_moveTo 7 = .ok (.aload_n 0, 1) := by decide +kernel
theorem dX7_moveTo_8 : decode cX7_moveTo 8 = .ok (.iload_n 1, 1) := by decide +kernel
theorem dX7_moveTo_9 : decode cX7_moveTo 9 = .ok (.iconst 1, 1) := by decide +kernel
theorem dX7_moveTo_10 : decode cX7_moveTo 10 = .ok (.iload_n 2, 1) := by decide +kernel
theorem dX7_moveTo_11 : decode cX7_moveTo 11 = .ok (.invokevirtual 68, 3) := by decide +kernel
theorem dX7_moveTo_14 : decode cX7_moveTo 14 = .ok (.aload_n 0, 1) := by decide +kernel
theorem dX7_moveTo_15 : decode cX7_moveTo 15 = .ok (.iload_n 1, 1) := by decide +kernel
theorem dX7_moveTo_16 : decode cX7_moveTo 16 = .ok (.iconst 2, 1) := by decide +kernel
theorem dX7_moveTo_17 : decode cX7_moveTo 17 = .ok (.iload_n 3, 1) := by decide +kernel
theorem dX7_moveTo_18 : decode cX7_moveTo 18 = .ok (.invokevirtual 68, 3) := by decide +kernel
theorem dX7_moveTo_21 : decode cX7_moveTo 21 = .ok (.return_, 1) := by decide +kernel
set_option maxRecDepth 20000 in
theorem ggX7_takeOut_X7_isRack : GoodIn wsX7_takeOut wsX7_isRack := goodIn_r _ [4, 5, 6, 3, 7] (by decide +kernel) (by decide +kernel)
set_option maxRecDepth 20000 in
theorem gX7_takeOut_X7_isRack : GoodIn wsX7_takeOut (va_wsS RX7 59 yX7_isRack wsX7_isRack) := goodIn_app (goodIn_of _ (by decide +kernel)) ggX7_takeOut_X7_isRack
set_option maxRecDepth 20000 in
theorem ggX7_takeOut_X7_isPlace : GoodIn wsX7_takeOut wsX7_isPlace := goodIn_r _ [10, 5, 6, 3, 7] (by decide +kernel) (by decide +kernel)
set_option maxRecDepth 20000 in
theorem gX7_takeOut_X7_isPlace : GoodIn wsX7_takeOut (va_wsS RX7 62 yX7_isPlace wsX7_isPlace) := goodIn_app (goodIn_of _ (by decide +kernel)) ggX7_takeOut_X7_isPlace
set_option maxRecDepth 20000 in
theorem ggX7_takeOut_X7_lampAt : GoodIn wsX7_takeOut wsX7_lampAt := goodIn_r _ [14, 15, 16, 17, 18, 3, 19, 41, 42, 43, 44, 45, 46, 47, 48, 49, 50, 51, 52, 53] (by decide +kernel) (by decide +kernel)
set_option maxRecDepth 20000 in
theorem gX7_takeOut_X7_lampAt : GoodIn wsX7_takeOut (wsV RX7 65 RX7 yX7_lampAt wsX7_lampAt) := goodIn_app (goodIn_of _ (by decide +kernel)) ggX7_takeOut_X7_lampAt
set_option maxRecDepth 20000 in
theorem ggX7_takeOut_X7_record : GoodIn wsX7_takeOut wsX7_record := goodIn_r _ [23, 15, 24, 25, 26, 3, 27, 28, 29, 30, 31, 32, 41, 42, 43, 44, 45, 46, 47, 48, 49, 50, 51, 52, 53] (by decide +kernel) (by decide +kernel)
set_option maxRecDepth 20000 in
theorem gX7_takeOut_X7_record : GoodIn wsX7_takeOut (wsV RX7 52 RX7 yX7_record wsX7_record) := goodIn_app (goodIn_of _ (by decide +kernel)) ggX7_takeOut_X7_record
set_option maxRecDepth 20000 in
theorem ggX7_takeOut_X7_moveTo : GoodIn wsX7_takeOut wsX7_moveTo := goodIn_r _ [36, 37, 38, 39, 3, 40, 15, 41, 42, 43, 44, 45, 46, 47, 48, 49, 50, 51, 52, 53] (by decide +kernel) (by decide +kernel)
set_option maxRecDepth 20000 in
theorem gX7_takeOut_X7_moveTo : GoodIn wsX7_takeOut (wsV RX7 79 RX7 yX7_moveTo wsX7_moveTo) := goodIn_app (goodIn_of _ (by decide +kernel)) ggX7_takeOut_X7_moveTo
theorem dX7_takeOut_0 : decode cX7_takeOut 0 = .ok (.iload_n 1, 1) := by decide +kernel
theorem dX7_takeOut_1 : decode cX7_takeOut 1 = .ok (.invokestatic 59, 3) := by decide +kernel
theorem dX7_takeOut_4 : decode cX7_takeOut 4 = .ok (.ifCond .eq 10, 3) := by decide +kernel
theorem dX7_takeOut_7 : decode cX7_takeOut 7 = .ok (.iload_n 2, 1) := by decide +kernel
theorem dX7_takeOut_8 : decode cX7_takeOut 8 = .ok (.invokestatic 62, 3) := by decide +kernel
theorem dX7_takeOut_11 : decode cX7_takeOut 11 = .ok (.ifCond .ne 7, 3) := by decide +kernel
theorem dX7_takeOut_14 : decode cX7_takeOut 14 = .ok (.sipush (-1001), 3) := by decide +kernel
theorem dX7_takeOut_17 : decode cX7_takeOut 17 = .ok (.ireturn, 1) := by decide +kernel
theorem dX7_takeOut_18 : decode cX7_takeOut 18 = .ok (.aload_n 0, 1) := by decide +kernel
theorem dX7_takeOut_19 : decode cX7_takeOut 19 = .ok (.iload_n 1, 1) := by decide +kernel
theorem dX7_takeOut_20 : decode cX7_takeOut 20 = .ok (.iload_n 2, 1) := by decide +kernel
theorem dX7_takeOut_21 : decode cX7_takeOut 21 = .ok (.invokevirtual 65, 3) := by decide +kernel
theorem dX7_takeOut_24 : decode cX7_takeOut 24 = .ok (.istore_n 3, 1) := by decide +kernel
theorem dX7_takeOut_25 : decode cX7_takeOut 25 = .ok (.iload_n 3, 1) := by decide +kernel
theorem dX7_takeOut_26 : decode cX7_takeOut 26 = .ok (.sipush (-1005), 3) := by decide +kernel
theorem dX7_takeOut_29 : decode cX7_takeOut 29 = .ok (.if_icmp .ne 7, 3) := by decide +kernel
theorem dX7_takeOut_32 : decode cX7_takeOut 32 = .ok (.sipush (-1005), 3) := by decide +kernel
theorem dX7_takeOut_35 : decode cX7_takeOut 35 = .ok (.ireturn, 1) := by decide +kernel
theorem dX7_takeOut_36 : decode cX7_takeOut 36 = .ok (.aload_n 0, 1) := by decide +kernel
theorem dX7_takeOut_37 : decode cX7_takeOut 37 = .ok (.invokevirtual 52, 3) := by decide +kernel
theorem dX7_takeOut_40 : decode cX7_takeOut 40 = .ok (.aload_n 0, 1) := by decide +kernel
theorem dX7_takeOut_41 : decode cX7_takeOut 41 = .ok (.iload_n 3, 1) := by decide +kernel
theorem dX7_takeOut_42 : decode cX7_takeOut 42 = .ok (.sipush (-1005), 3) := by decide +kernel
theorem dX7_takeOut_45 : decode cX7_takeOut 45 = .ok (.sipush (-1005), 3) := by decide +kernel
theorem dX7_takeOut_48 : decode cX7_takeOut 48 = .ok (.invokevirtual 79, 3) := by decide +kernel
theorem dX7_takeOut_51 : decode cX7_takeOut 51 = .ok (.iload_n 3, 1) := by decide +kernel
theorem dX7_takeOut_52 : decode cX7_takeOut 52 = .ok (.ireturn, 1) := by decide +kernel
set_option maxRecDepth 20000 in
theorem ggX7_swap_X7_isRack : GoodIn wsX7_swap wsX7_isRack := goodIn_r _ [4, 5, 6, 3, 7] (by decide +kernel) (by decide +kernel)
set_option maxRecDepth 20000 in
theorem gX7_swap_X7_isRack : GoodIn wsX7_swap (va_wsS RX7 59 yX7_isRack wsX7_isRack) := goodIn_app (goodIn_of _ (by decide +kernel)) ggX7_swap_X7_isRack
set_option maxRecDepth 20000 in
theorem ggX7_swap_X7_isPlace : GoodIn wsX7_swap wsX7_isPlace := goodIn_r _ [10, 5, 6, 3, 7] (by decide +kernel) (by decide +kernel)
set_option maxRecDepth 20000 in
theorem gX7_swap_X7_isPlace : GoodIn wsX7_swap (va_wsS RX7 62 yX7_isPlace wsX7_isPlace) := goodIn_app (goodIn_of _ (by decide +kernel)) ggX7_swap_X7_isPlace
set_option maxRecDepth 20000 in
theorem ggX7_swap_X7_lampAt : GoodIn wsX7_swap wsX7_lampAt := goodIn_r _ [14, 15, 16, 17, 18, 3, 19, 41, 42, 43, 44, 45, 46, 47, 48, 49, 50, 51, 52, 53] (by decide +kernel) (by decide +kernel)
set_option maxRecDepth 20000 in
theorem gX7_swap_X7_lampAt : GoodIn wsX7_swap (wsV RX7 65 RX7 yX7_lampAt wsX7_lampAt) := goodIn_app (goodIn_of _ (by decide +kernel)) ggX7_swap_X7_lampAt
set_option maxRecDepth 20000 in
theorem ggX7_swap_X7_record : GoodIn wsX7_swap wsX7_record := goodIn_r _ [23, 15, 24, 25, 26, 3, 27, 28, 29, 30, 31, 32, 41, 42, 43, 44, 45, 46, 47, 48, 49, 50, 51, 52, 53] (by decide +kernel) (by decide +kernel)
set_option maxRecDepth 20000 in
theorem gX7_swap_X7_record : GoodIn wsX7_swap (wsV RX7 52 RX7 yX7_record wsX7_record) := goodIn_app (goodIn_of _ (by decide +kernel)) ggX7_swap_X7_record
set_option maxRecDepth 20000 in
theorem ggX7_swap_X7_moveTo : GoodIn wsX7_swap wsX7_moveTo := goodIn_r _ [36, 37, 38, 39, 3, 40, 15, 41, 42, 43, 44, 45, 46, 47, 48, 49, 50, 51, 52, 53] (by decide +kernel) (by decide +kernel)
set_option maxRecDepth 20000 in
theorem gX7_swap_X7_moveTo : GoodIn wsX7_swap (wsV RX7 79 RX7 yX7_moveTo wsX7_moveTo) := goodIn_app (goodIn_of _ (by decide +kernel)) ggX7_swap_X7_moveTo
theorem dX7_swap_0 : decode cX7_swap 0 = .ok (.iload_n 1, 1) := by decide +kernel
theorem dX7_swap_1 : decode cX7_swap 1 = .ok (.invokestatic 59, 3) := by decide +kernel
theorem dX7_swap_4 : decode cX7_swap 4 = .ok (.ifCond .eq 25, 3) := by decide +kernel
theorem dX7_swap_7 : decode cX7_swap 7 = .ok (.iload_n 2, 1) := by decide +kernel
theorem dX7_swap_8 : decode cX7_swap 8 = .ok (.invokestatic 62, 3) := by decide +kernel
theorem dX7_swap_11 : decode cX7_swap 11 = .ok (.ifCond .eq 18, 3) := by decide +kernel
theorem dX7_swap_14 : decode cX7_swap 14 = .ok (.iload_n 3, 1) := by decide +kernel
theorem dX7_swap_15 : decode cX7_swap 15 = .ok (.invokestatic 59, 3) := by decide +kernel
theorem dX7_swap_18 : decode cX7_swap 18 = .ok (.ifCond .eq 11, 3) := by decide +kernel
theorem dX7_swap_21 : decode cX7_swap 21 = .ok (.iload 4, 2) := by decide +kernel
theorem dX7_swap_23 : decode cX7_swap 23 = .ok (.invokestatic 62, 3) := by decide +kernel
theorem dX7_swap_26 : decode cX7_swap 26 = .ok (.ifCond .ne 7, 3) := by decide +kernel
theorem dX7_swap_29 : decode cX7_swap 29 = .ok (.sipush (-1001), 3) := by decide +kernel
theorem dX7_swap_32 : decode cX7_swap 32 = .ok (.ireturn, 1) := by decide +kernel
theorem dX7_swap_33 : decode cX7_swap 33 = .ok (.aload_n 0, 1) := by decide +kernel
theorem dX7_swap_34 : decode cX7_swap 34 = .ok (.iload_n 1, 1) := by decide +kernel
theorem dX7_swap_35 : decode cX7_swap 35 = .ok (.iload_n 2, 1) := by decide +kernel
theorem dX7_swap_36 : decode cX7_swap 36 = .ok (.invokevirtual 65, 3) := by decide +kernel
theorem dX7_swap_39 : decode cX7_swap 39 = .ok (.istore 5, 2) := by decide +kernel
theorem dX7_swap_41 : decode cX7_swap 41 = .ok (.aload_n 0, 1) := by decide +kernel
theorem dX7_swap_42 : decode cX7_swap 42 = .ok (.iload_n 3, 1) := by decide +kernel
theorem dX7_swap_43 : decode cX7_swap 43 = .ok (.iload 4, 2) := by decide +kernel
theorem dX7_swap_45 : decode cX7_swap 45 = .ok (.invokevirtual 65, 3) := by decide +kernel
theorem dX7_swap_48 : decode cX7_swap 48 = .ok (.istore 6, 2) := by decide +kernel
theorem dX7_swap_50 : decode cX7_swap 50 = .ok (.iload 5, 2) := by decide +kernel
theorem dX7_swap_52 : decode cX7_swap 52 = .ok (.sipush (-1005), 3) := by decide +kernel
theorem dX7_swap_55 : decode cX7_swap 55 = .ok (.if_icmp .ne 7, 3) := by decide +kernel
theorem dX7_swap_58 : decode cX7_swap 58 = .ok (.iconst 0, 1) := by decide +kernel
theorem dX7_swap_59 : decode cX7_swap 59 = .ok (.goto 4, 3) := by decide +kernel
theorem dX7_swap_62 : decode cX7_swap 62 = .ok (.iconst 1, 1) := by decide +kernel
theorem dX7_swap_63 : decode cX7_swap 63 = .ok (.iload 6, 2) := by decide +kernel
theorem dX7_swap_65 : decode cX7_swap 65 = .ok (.sipush (-1005), 3) := by decide +kernel
theorem dX7_swap_68 : decode cX7_swap 68 = .ok (.if_icmp .ne 7, 3) := by decide +kernel
theorem dX7_swap_71 : decode cX7_swap 71 = .ok (.iconst 0, 1) := by decide +kernel
theorem dX7_swap_72 : decode cX7_swap 72 = .ok (.goto 4, 3) := by decide +kernel
theorem dX7_swap_75 : decode cX7_swap 75 = .ok (.iconst 1, 1) := by decide +kernel
theorem dX7_swap_76 : decode cX7_swap 76 = .ok (.iadd, 1) := by decide +kernel
theorem dX7_swap_77 : decode cX7_swap 77 = .ok (.istore 7, 2) := by decide +kernel
theorem dX7_swap_79 : decode cX7_swap 79 = .ok (.iload 7, 2) := by decide +kernel
theorem dX7_swap_81 : decode cX7_swap 81 = .ok (.ifCond .eq 14, 3) := by decide +kernel
theorem dX7_swap_84 : decode cX7_swap 84 = .ok (.iload_n 1, 1) := by decide +kernel
theorem dX7_swap_85 : decode cX7_swap 85 = .ok (.iload_n 3, 1) := by decide +kernel
theorem dX7_swap_86 : decode cX7_swap 86 = .ok (.if_icmp .ne 13, 3) := by decide +kernel
theorem dX7_swap_89 : decode cX7_swap 89 = .ok (.iload_n 2, 1) := by decide +kernel
theorem dX7_swap_90 : decode cX7_swap 90 = .ok (.iload 4, 2) := by decide +kernel
theorem dX7_swap_92 : decode cX7_swap 92 = .ok (.if_icmp .ne 7, 3) := by decide +kernel
theorem dX7_swap_95 : decode cX7_swap 95 = .ok (.sipush (-1005), 3) := by decide +kernel
theorem dX7_swap_98 : decode cX7_swap 98 = .ok (.ireturn, 1) := by decide +kernel
theorem dX7_swap_99 : decode cX7_swap 99 = .ok (.aload_n 0, 1) := by decide +kernel
theorem dX7_swap_100 : decode cX7_swap 100 = .ok (.invokevirtual 52, 3) := by decide +kernel
theorem dX7_swap_103 : decode cX7_swap 103 = .ok (.aload_n 0, 1) := by decide +kernel
theorem dX7_swap_104 : decode cX7_swap 104 = .ok (.iload 5, 2) := by decide +kernel
theorem dX7_swap_106 : decode cX7_swap 106 = .ok (.iload_n 3, 1) := by decide +kernel
theorem dX7_swap_107 : decode cX7_swap 107 = .ok (.iload 4, 2) := by decide +kernel
theorem dX7_swap_109 : decode cX7_swap 109 = .ok (.invokevirtual 79, 3) := by decide +kernel
theorem dX7_swap_112 : decode cX7_swap 112 = .ok (.aload_n 0, 1) := by decide +kernel
theorem dX7_swap_113 : decode cX7_swap 113 = .ok (.iload 6, 2) := by decide +kernel
theorem dX7_swap_115 : decode cX7_swap 115 = .ok (.iload_n 1, 1) := by decide +kernel
theorem dX7_swap_116 : decode cX7_swap 116 = .ok (.iload_n 2, 1) := by decide +kernel
theorem dX7_swap_117 : decode cX7_swap 117 = .ok (.invokevirtual 79, 3) := by decide +kernel
theorem dX7_swap_120 : decode cX7_swap 120 = .ok (.iload 7, 2) := by decide +kernel
theorem dX7_swap_122 : decode cX7_swap 122 = .ok (.ireturn, 1) := by decide +kernel
set_option maxRecDepth 20000 in
theorem ggX7_whyNotVolts_X7_isRack : GoodIn wsX7_whyNotVolts wsX7_isRack := goodIn_r _ [4, 5, 6, 3, 7] (by decide +kernel) (by decide +kernel)
set_option maxRecDepth 20000 in
theorem gX7_whyNotVolts_X7_isRack : GoodIn wsX7_whyNotVolts (va_wsS RX7 59 yX7_isRack wsX7_isRack) := goodIn_app (goodIn_of _ (by decide +kernel)) ggX7_whyNotVolts_X7_isRack
set_option maxRecDepth 20000 in
theorem ggX7_whyNotVolts_X7_in : GoodIn wsX7_whyNotVolts wsX7_in := goodIn_r _ [7] (by decide +kernel) (by decide +kernel)
set_option maxRecDepth 20000 in
theorem gX7_whyNotVolts_X7_in : GoodIn wsX7_whyNotVolts (va_wsS RX7 28 yX7_in wsX7_in) := goodIn_app (goodIn_of _ (by decide +kernel)) ggX7_whyNotVolts_X7_in
theorem dX7_whyNotVolts_0 : decode cX7_whyNotVolts 0 = .ok (.iload_n 1, 1) := by decide +kernel
theorem dX7_whyNotVolts_1 : decode cX7_whyNotVolts 1 = .ok (.invokestatic 59, 3) := by decide +kernel
theorem dX7_whyNotVolts_4 : decode cX7_whyNotVolts 4 = .ok (.ifCond .ne 9, 3) := by decide +kernel
theorem dX7_whyNotVolts_7 : decode cX7_whyNotVolts 7 = .ok (.sipush (-1001), 3) := by decide +kernel
theorem dX7_whyNotVolts_10 : decode cX7_whyNotVolts 10 = .ok (.goto 21, 3) := by decide +kernel
theorem dX7_whyNotVolts_13 : decode cX7_whyNotVolts 13 = .ok (.iload_n 2, 1) := by decide +kernel
theorem dX7_whyNotVolts_14 : decode cX7_whyNotVolts 14 = .ok (.iconst 0, 1) := by decide +kernel
theorem dX7_whyNotVolts_15 : decode cX7_whyNotVolts 15 = .ok (.sipush 300, 3) := by decide +kernel
theorem dX7_whyNotVolts_18 : decode cX7_whyNotVolts 18 = .ok (.invokestatic 28, 3) := by decide +kernel
theorem dX7_whyNotVolts_21 : decode cX7_whyNotVolts 21 = .ok (.ifCond .eq 7, 3) := by decide +kernel
theorem dX7_whyNotVolts_24 : decode cX7_whyNotVolts 24 = .ok (.iconst 0, 1) := by decide +kernel
theorem dX7_whyNotVolts_25 : decode cX7_whyNotVolts 25 = .ok (.goto 6, 3) := by decide +kernel
theorem dX7_whyNotVolts_28 : decode cX7_whyNotVolts 28 = .ok (.sipush (-1002), 3) := by decide +kernel
theorem dX7_whyNotVolts_31 : decode cX7_whyNotVolts 31 = .ok (.ireturn, 1) := by decide +kernel
set_option maxRecDepth 20000 in
theorem ggX7_setVolts_X7_whyNotVolts : GoodIn wsX7_setVolts wsX7_whyNotVolts := goodIn_r _ [6, 7, 8, 5, 9, 10, 11, 12] (by decide +kernel) (by decide +kernel)
set_option maxRecDepth 20000 in
theorem gX7_setVolts_X7_whyNotVolts : GoodIn wsX7_setVolts (wsV RX7 82 RX7 yX7_whyNotVolts wsX7_whyNotVolts) := goodIn_app (goodIn_of _ (by decide +kernel)) ggX7_setVolts_X7_whyNotVolts
set_option maxRecDepth 20000 in
theorem ggX7_setVolts_X7_ofRack : GoodIn wsX7_setVolts wsX7_ofRack := goodIn_r _ [16, 1, 30, 31, 32, 33, 34, 35, 36, 37, 38, 39, 40, 41, 42] (by decide +kernel) (by decide +kernel)
set_option maxRecDepth 20000 in
theorem gX7_setVolts_X7_ofRack : GoodIn wsX7_setVolts (wsV RX7 85 RX7 yX7_ofRack wsX7_ofRack) := goodIn_app (goodIn_of _ (by decide +kernel)) ggX7_setVolts_X7_ofRack
set_option maxRecDepth 20000 in
theorem ggX7_setVolts_X7_record : GoodIn wsX7_setVolts wsX7_record := goodIn_r _ [20, 1, 21, 22, 23, 5, 24, 25, 26, 27, 28, 29, 30, 31, 32, 33, 34, 35, 36, 37, 38, 39, 40, 41, 42] (by decide +kernel) (by decide +kernel)
set_option maxRecDepth 20000 in
theorem gX7_setVolts_X7_record : GoodIn wsX7_setVolts (wsV RX7 52 RX7 yX7_record wsX7_record) := goodIn_app (goodIn_of _ (by decide +kernel)) ggX7_setVolts_X7_record
theorem dX7_setVolts_0 : decode cX7_setVolts 0 = .ok (.aload_n 0, 1) := by decide +kernel
theorem dX7_setVolts_1 : decode cX7_setVolts 1 = .ok (.iload_n 1, 1) := by decide +kernel
theorem dX7_setVolts_2 : decode cX7_setVolts 2 = .ok (.iload_n 2, 1) := by decide +kernel
theorem dX7_setVolts_3 : decode cX7_setVolts 3 = .ok (.invokevirtual 82, 3) := by decide +kernel
theorem dX7_setVolts_6 : decode cX7_setVolts 6 = .ok (.istore_n 3, 1) := by decide +kernel
theorem dX7_setVolts_7 : decode cX7_setVolts 7 = .ok (.iload_n 3, 1) := by decide +kernel
theorem dX7_setVolts_8 : decode cX7_setVolts 8 = .ok (.ifCond .ge 5, 3) := by decide +kernel
theorem dX7_setVolts_11 : decode cX7_setVolts 11 = .ok (.iload_n 3, 1) := by decide +kernel
theorem dX7_setVolts_12 : decode cX7_setVolts 12 = .ok (.ireturn, 1) := by decide +kernel
theorem dX7_setVolts_13 : decode cX7_setVolts 13 = .ok (.aload_n 0, 1) := by decide +kernel
theorem dX7_setVolts_14 : decode cX7_setVolts 14 = .ok (.iload_n 1, 1) := by decide +kernel
theorem dX7_setVolts_15 : decode cX7_setVolts 15 = .ok (.iconst 0, 1) := by decide +kernel
theorem dX7_setVolts_16 : decode cX7_setVolts 16 = .ok (.invokevirtual 85, 3) := by decide +kernel
theorem dX7_setVolts_19 : decode cX7_setVolts 19 = .ok (.istore 4, 2) := by decide +kernel
theorem dX7_setVolts_21 : decode cX7_setVolts 21 = .ok (.iload 4, 2) := by decide +kernel
theorem dX7_setVolts_23 : decode cX7_setVolts 23 = .ok (.iload_n 2, 1) := by decide +kernel
theorem dX7_setVolts_24 : decode cX7_setVolts 24 = .ok (.if_icmp .ne 7, 3) := by decide +kernel
theorem dX7_setVolts_27 : decode cX7_setVolts 27 = .ok (.sipush (-1005), 3) := by decide +kernel
theorem dX7_setVolts_30 : decode cX7_setVolts 30 = .ok (.ireturn, 1) := by decide +kernel
theorem dX7_setVolts_31 : decode cX7_setVolts 31 = .ok (.aload_n 0, 1) := by decide +kernel
theorem dX7_setVolts_32 : decode cX7_setVolts 32 = .ok (.invokevirtual 52, 3) := by decide +kernel
theorem dX7_setVolts_35 : decode cX7_setVolts 35 = .ok (.aload_n 0, 1) := by decide +kernel
theorem dX7_setVolts_36 : decode cX7_setVolts 36 = .ok (.getfield 7, 3) := by decide +kernel
theorem dX7_setVolts_39 : decode cX7_setVolts 39 = .ok (.bipush 16, 2) := by decide +kernel
theorem dX7_setVolts_41 : decode cX7_setVolts 41 = .ok (.iconst 4, 1) := by decide +kernel
theorem dX7_setVolts_42 : decode cX7_setVolts 42 = .ok (.iload_n 1, 1) := by decide +kernel
theorem dX7_setVolts_43 : decode cX7_setVolts 43 = .ok (.imul, 1) := by decide +kernel
theorem dX7_setVolts_44 : decode cX7_setVolts 44 = .ok (.iadd, 1) := by decide +kernel
theorem dX7_setVolts_45 : decode cX7_setVolts 45 = .ok (.iload_n 2, 1) := by decide +kernel
theorem dX7_setVolts_46 : decode cX7_setVolts 46 = .ok (.iastore, 1) := by decide +kernel
theorem dX7_setVolts_47 : decode cX7_setVolts 47 = .ok (.iload 4, 2) := by decide +kernel
theorem dX7_setVolts_49 : decode cX7_setVolts 49 = .ok (.ireturn, 1) := by decide +kernel
theorem dX7_stepsNow_0 : decode cX7_stepsNow 0 = .ok (.bipush 16, 2) := by decide +kernel
theorem dX7_stepsNow_2 : decode cX7_stepsNow 2 = .ok (.iconst 4, 1) := by decide +kernel
theorem dX7_stepsNow_3 : decode cX7_stepsNow 3 = .ok (.iload_n 1, 1) := by decide +kernel
theorem dX7_stepsNow_4 : decode cX7_stepsNow 4 = .ok (.imul, 1) := by decide +kernel
theorem dX7_stepsNow_5 : decode cX7_stepsNow 5 = .ok (.iadd, 1) := by decide +kernel
theorem dX7_stepsNow_6 : decode cX7_stepsNow 6 = .ok (.istore 4, 2) := by decide +kernel
theorem dX7_stepsNow_8 : decode cX7_stepsNow 8 = .ok (.aload_n 0, 1) := by decide +kernel
theorem dX7_stepsNow_9 : decode cX7_stepsNow 9 = .ok (.getfield 7, 3) := by decide +kernel
theorem dX7_stepsNow_12 : decode cX7_stepsNow 12 = .ok (.iload 4, 2) := by decide +kernel
theorem dX7_stepsNow_14 : decode cX7_stepsNow 14 = .ok (.iconst 1, 1) := by decide +kernel
theorem dX7_stepsNow_15 : decode cX7_stepsNow 15 = .ok (.iadd, 1) := by decide +kernel
theorem dX7_stepsNow_16 : decode cX7_stepsNow 16 = .ok (.iload_n 2, 1) := by decide +kernel
theorem dX7_stepsNow_17 : decode cX7_stepsNow 17 = .ok (.iastore, 1) := by decide +kernel
theorem dX7_stepsNow_18 : decode cX7_stepsNow 18 = .ok (.aload_n 0, 1) := by decide +kernel
theorem dX7_stepsNow_19 : decode cX7_stepsNow 19 = .ok (.getfield 7, 3) := by decide +kernel
theorem dX7_stepsNow_22 : decode cX7_stepsNow 22 = .ok (.iload 4, 2) := by decide +kernel
theorem dX7_stepsNow_24 : decode cX7_stepsNow 24 = .ok (.iconst 2, 1) := by decide +kernel
theorem dX7_stepsNow_25 : decode cX7_stepsNow 25 = .ok (.iadd, 1) := by decide +kernel
theorem dX7_stepsNow_26 : decode cX7_stepsNow 26 = .ok (.iload_n 3, 1) := by decide +kernel
theorem dX7_stepsNow_27 : decode cX7_stepsNow 27 = .ok (.iastore, 1) := by decide +kernel
theorem dX7_stepsNow_28 : decode cX7_stepsNow 28 = .ok (.aload_n 0, 1) := by decide +kernel
theorem dX7_stepsNow_29 : decode cX7_stepsNow 29 = .ok (.getfield 7, 3) := by decide +kernel
theorem dX7_stepsNow_32 : decode cX7_stepsNow 32 = .ok (.iload 4, 2) := by decide +kernel
theorem dX7_stepsNow_34 : decode cX7_stepsNow 34 = .ok (.iconst 3, 1) := by decide +kernel
theorem dX7_stepsNow_35 : decode cX7_stepsNow 35 = .ok (.iadd, 1) := by decide +kernel
theorem dX7_stepsNow_36 : decode cX7_stepsNow 36 = .ok (.iconst 0, 1) := by decide +kernel
theorem dX7_stepsNow_37 : decode cX7_stepsNow 37 = .ok (.iastore, 1) := by decide +kernel
theorem dX7_stepsNow_38 : decode cX7_stepsNow 38 = .ok (.return_, 1) := by decide +kernel
set_option maxRecDepth 20000 in
theorem ggX7_setSteps_X7_isRack : GoodIn wsX7_setSteps wsX7_isRack := goodIn_r _ [4, 5, 6, 3, 7] (by decide +kernel) (by decide +kernel)
set_option maxRecDepth 20000 in
theorem gX7_setSteps_X7_isRack : GoodIn wsX7_setSteps (va_wsS RX7 59 yX7_isRack wsX7_isRack) := goodIn_app (goodIn_of _ (by decide +kernel)) ggX7_setSteps_X7_isRack
set_option maxRecDepth 20000 in
theorem ggX7_setSteps_X7_in : GoodIn wsX7_setSteps wsX7_in := goodIn_r _ [7] (by decide +kernel) (by decide +kernel)
set_option maxRecDepth 20000 in
theorem gX7_setSteps_X7_in : GoodIn wsX7_setSteps (va_wsS RX7 28 yX7_in wsX7_in) := goodIn_app (goodIn_of _ (by decide +kernel)) ggX7_setSteps_X7_in
set_option maxRecDepth 20000 in
theorem ggX7_setSteps_X7_record : GoodIn wsX7_setSteps wsX7_record := goodIn_r _ [11, 12, 13, 14, 15, 3, 16, 17, 18, 19, 20, 21, 30, 31, 32, 33, 34, 35, 36, 37, 38, 39, 40, 41, 42] (by decide +kernel) (by decide +kernel)
set_option maxRecDepth 20000 in
theorem gX7_setSteps_X7_record : GoodIn wsX7_setSteps (wsV RX7 52 RX7 yX7_record wsX7_record) := goodIn_app (goodIn_of _ (by decide +kernel)) ggX7_setSteps_X7_record
set_option maxRecDepth 20000 in
theorem ggX7_setSteps_X7_ofRack : GoodIn wsX7_setSteps wsX7_ofRack := goodIn_r _ [25, 12, 30, 31, 32, 33, 34, 35, 36, 37, 38, 39, 40, 41, 42] (by decide +kernel) (by decide +kernel)
set_option maxRecDepth 20000 in
theorem gX7_setSteps_X7_ofRack : GoodIn wsX7_setSteps (wsV RX7 85 RX7 yX7_ofRack wsX7_ofRack) := goodIn_app (goodIn_of _ (by decide +kernel)) ggX7_setSteps_X7_ofRack
set_option maxRecDepth 20000 in
theorem ggX7_setSteps_X7_stepsNow : GoodIn wsX7_setSteps wsX7_stepsNow := goodIn_r _ [29, 12, 30, 31, 32, 33, 34, 35, 36, 37, 38, 39, 40, 41, 42] (by decide +kernel) (by decide +kernel)
set_option maxRecDepth 20000 in
theorem gX7_setSteps_X7_stepsNow : GoodIn wsX7_setSteps (wsV RX7 88 RX7 yX7_stepsNow wsX7_stepsNow) := goodIn_app (goodIn_of _ (by decide +kernel)) ggX7_setSteps_X7_stepsNow
theorem dX7_setSteps_0 : decode cX7_setSteps 0 = .ok (.iload_n 1, 1) := by decide +kernel
theorem dX7_setSteps_1 : decode cX7_setSteps 1 = .ok (.invokestatic 59, 3) := by decide +kernel
theorem dX7_setSteps_4 : decode cX7_setSteps 4 = .ok (.ifCond .ne 7, 3) := by decide +kernel
theorem dX7_setSteps_7 : decode cX7_setSteps 7 = .ok (.sipush (-1001), 3) := by decide +kernel
theorem dX7_setSteps_10 : decode cX7_setSteps 10 = .ok (.ireturn, 1) := by decide +kernel
theorem dX7_setSteps_11 : decode cX7_setSteps 11 = .ok (.iload_n 2, 1) := by decide +kernel
theorem dX7_setSteps_12 : decode cX7_setSteps 12 = .ok (.iconst 0, 1) := by decide +kernel
theorem dX7_setSteps_13 : decode cX7_setSteps 13 = .ok (.bipush 99, 2) := by decide +kernel
theorem dX7_setSteps_15 : decode cX7_setSteps 15 = .ok (.invokestatic 28, 3) := by decide +kernel
theorem dX7_setSteps_18 : decode cX7_setSteps 18 = .ok (.ifCond .eq 14, 3) := by decide +kernel
theorem dX7_setSteps_21 : decode cX7_setSteps 21 = .ok (.iload_n 3, 1) := by decide +kernel
theorem dX7_setSteps_22 : decode cX7_setSteps 22 = .ok (.bipush (-50), 2) := by decide +kernel
theorem dX7_setSteps_24 : decode cX7_setSteps 24 = .ok (.bipush 50, 2) := by decide +kernel
theorem dX7_setSteps_26 : decode cX7_setSteps 26 = .ok (.invokestatic 28, 3) := by decide +kernel
theorem dX7_setSteps_29 : decode cX7_setSteps 29 = .ok (.ifCond .ne 7, 3) := by decide +kernel
theorem dX7_setSteps_32 : decode cX7_setSteps 32 = .ok (.sipush (-1002), 3) := by decide +kernel
theorem dX7_setSteps_35 : decode cX7_setSteps 35 = .ok (.ireturn, 1) := by decide +kernel
theorem dX7_setSteps_36 : decode cX7_setSteps 36 = .ok (.aload_n 0, 1) := by decide +kernel
theorem dX7_setSteps_37 : decode cX7_setSteps 37 = .ok (.invokevirtual 52, 3) := by decide +kernel
theorem dX7_setSteps_40 : decode cX7_setSteps 40 = .ok (.aload_n 0, 1) := by decide +kernel
theorem dX7_setSteps_41 : decode cX7_setSteps 41 = .ok (.iload_n 1, 1) := by decide +kernel
theorem dX7_setSteps_42 : decode cX7_setSteps 42 = .ok (.iconst 1, 1) := by decide +kernel
theorem dX7_setSteps_43 : decode cX7_setSteps 43 = .ok (.invokevirtual 85, 3) := by decide +kernel
theorem dX7_setSteps_46 : decode cX7_setSteps 46 = .ok (.istore 4, 2) := by decide +kernel
theorem dX7_setSteps_48 : decode cX7_setSteps 48 = .ok (.aload_n 0, 1) := by decide +kernel
theorem dX7_setSteps_49 : decode cX7_setSteps 49 = .ok (.iload_n 1, 1) := by decide +kernel
theorem dX7_setSteps_50 : decode cX7_setSteps 50 = .ok (.iload_n 2, 1) := by decide +kernel
theorem dX7_setSteps_51 : decode cX7_setSteps 51 = .ok (.iload_n 3, 1) := by decide +kernel
theorem dX7_setSteps_52 : decode cX7_setSteps 52 = .ok (.invokevirtual 88, 3) := by decide +kernel
theorem dX7_setSteps_55 : decode cX7_setSteps 55 = .ok (.iload 4, 2) := by decide +kernel
theorem dX7_setSteps_57 : decode cX7_setSteps 57 = .ok (.ireturn, 1) := by decide +kernel
set_option maxRecDepth 20000 in
theorem ggX7_set_X7_in : GoodIn wsX7_set wsX7_in := goodIn_r _ [5] (by decide +kernel) (by decide +kernel)
set_option maxRecDepth 20000 in
theorem gX7_set_X7_in : GoodIn wsX7_set (va_wsS RX7 28 yX7_in wsX7_in) := goodIn_app (goodIn_of _ (by decide +kernel)) ggX7_set_X7_in
set_option maxRecDepth 20000 in
theorem ggX7_set_X7_record : GoodIn wsX7_set wsX7_record := goodIn_r _ [9, 1, 10, 11, 12, 4, 13, 14, 15, 16, 17, 18, 19, 20, 21, 22, 23, 24, 25, 26, 27, 28, 29, 30, 31] (by decide +kernel) (by decide +kernel)
set_option maxRecDepth 20000 in
theorem gX7_set_X7_record : GoodIn wsX7_set (wsV RX7 52 RX7 yX7_record wsX7_record) := goodIn_app (goodIn_of _ (by decide +kernel)) ggX7_set_X7_record
theorem dX7_set_0 : decode cX7_set 0 = .ok (.iload_n 1, 1) := by decide +kernel
theorem dX7_set_1 : decode cX7_set 1 = .ok (.iconst 0, 1) := by decide +kernel
theorem dX7_set_2 : decode cX7_set 2 = .ok (.iconst 1, 1) := by decide +kernel
theorem dX7_set_3 : decode cX7_set 3 = .ok (.invokestatic 28, 3) := by decide +kernel
theorem dX7_set_6 : decode cX7_set 6 = .ok (.ifCond .ne 7, 3) := by decide +kernel
theorem dX7_set_9 : decode cX7_set 9 = .ok (.sipush (-1001), 3) := by decide +kernel
theorem dX7_set_12 : decode cX7_set 12 = .ok (.ireturn, 1) := by decide +kernel
theorem dX7_set_13 : decode cX7_set 13 = .ok (.iload_n 2, 1) := by decide +kernel
theorem dX7_set_14 : decode cX7_set 14 = .ok (.iload_n 1, 1) := by decide +kernel
theorem dX7_set_15 : decode cX7_set 15 = .ok (.ifCond .ne 8, 3) := by decide +kernel
theorem dX7_set_18 : decode cX7_set 18 = .ok (.bipush 100, 2) := by decide +kernel
theorem dX7_set_20 : decode cX7_set 20 = .ok (.goto 4, 3) := by decide +kernel
theorem dX7_set_23 : decode cX7_set 23 = .ok (.iconst 1, 1) := by decide +kernel
theorem dX7_set_24 : decode cX7_set 24 = .ok (.iload_n 1, 1) := by decide +kernel
theorem dX7_set_25 : decode cX7_set 25 = .ok (.ifCond .ne 9, 3) := by decide +kernel
theorem dX7_set_28 : decode cX7_set 28 = .ok (.sipush 300, 3) := by decide +kernel
theorem dX7_set_31 : decode cX7_set 31 = .ok (.goto 5, 3) := by decide +kernel
theorem dX7_set_34 : decode cX7_set 34 = .ok (.bipush 100, 2) := by decide +kernel
theorem dX7_set_36 : decode cX7_set 36 = .ok (.invokestatic 28, 3) := by decide +kernel
theorem dX7_set_39 : decode cX7_set 39 = .ok (.ifCond .ne 7, 3) := by decide +kernel
theorem dX7_set_42 : decode cX7_set 42 = .ok (.sipush (-1002), 3) := by decide +kernel
theorem dX7_set_45 : decode cX7_set 45 = .ok (.ireturn, 1) := by decide +kernel
theorem dX7_set_46 : decode cX7_set 46 = .ok (.aload_n 0, 1) := by decide +kernel
theorem dX7_set_47 : decode cX7_set 47 = .ok (.getfield 7, 3) := by decide +kernel
theorem dX7_set_50 : decode cX7_set 50 = .ok (.iload_n 1, 1) := by decide +kernel
theorem dX7_set_51 : decode cX7_set 51 = .ok (.iaload, 1) := by decide +kernel
theorem dX7_set_52 : decode cX7_set 52 = .ok (.istore_n 3, 1) := by decide +kernel
theorem dX7_set_53 : decode cX7_set 53 = .ok (.iload_n 3, 1) := by decide +kernel
theorem dX7_set_54 : decode cX7_set 54 = .ok (.iload_n 2, 1) := by decide +kernel
theorem dX7_set_55 : decode cX7_set 55 = .ok (.if_icmp .ne 7, 3) := by decide +kernel
theorem dX7_set_58 : decode cX7_set 58 = .ok (.sipush (-1005), 3) := by decide +kernel
theorem dX7_set_61 : decode cX7_set 61 = .ok (.ireturn, 1) := by decide +kernel
theorem dX7_set_62 : decode cX7_set 62 = .ok (.aload_n 0, 1) := by decide +kernel
theorem dX7_set_63 : decode cX7_set 63 = .ok (.invokevirtual 52, 3) := by decide +kernel
theorem dX7_set_66 : decode cX7_set 66 = .ok (.aload_n 0, 1) := by decide +kernel
theorem dX7_set_67 : decode cX7_set 67 = .ok (.getfield 7, 3) := by decide +kernel
theorem dX7_set_70 : decode cX7_set 70 = .ok (.iload_n 1, 1) := by decide +kernel
theorem dX7_set_71 : decode cX7_set 71 = .ok (.iload_n 2, 1) := by decide +kernel
theorem dX7_set_72 : decode cX7_set 72 = .ok (.iastore, 1) := by decide +kernel
theorem dX7_set_73 : decode cX7_set 73 = .ok (.iload_n 3, 1) := by decide +kernel
theorem dX7_set_74 : decode cX7_set 74 = .ok (.ireturn, 1) := by decide +kernel
theorem dX7_wearAt_0 : decode cX7_wearAt 0 = .ok (.bipush 10, 2) := by decide +kernel
theorem dX7_wearAt_2 : decode cX7_wearAt 2 = .ok (.bipush 10, 2) := by decide +kernel
theorem dX7_wearAt_4 : decode cX7_wearAt 4 = .ok (.iload_n 1, 1) := by decide +kernel
theorem dX7_wearAt_5 : decode cX7_wearAt 5 = .ok (.aload_n 0, 1) := by decide +kernel
theorem dX7_wearAt_6 : decode cX7_wearAt 6 = .ok (.getfield 7, 3) := by decide +kernel
theorem dX7_wearAt_9 : decode cX7_wearAt 9 = .ok (.iconst 0, 1) := by decide +kernel
theorem dX7_wearAt_10 : decode cX7_wearAt 10 = .ok (.iaload, 1) := by decide +kernel
theorem dX7_wearAt_11 : decode cX7_wearAt 11 = .ok (.isub, 1) := by decide +kernel
theorem dX7_wearAt_12 : decode cX7_wearAt 12 = .ok (.imul, 1) := by decide +kernel
theorem dX7_wearAt_13 : decode cX7_wearAt 13 = .ok (.aload_n 0, 1) := by decide +kernel
theorem dX7_wearAt_14 : decode cX7_wearAt 14 = .ok (.getfield 7, 3) := by decide +kernel
theorem dX7_wearAt_17 : decode cX7_wearAt 17 = .ok (.iconst 1, 1) := by decide +kernel
theorem dX7_wearAt_18 : decode cX7_wearAt 18 = .ok (.iaload, 1) := by decide +kernel
theorem dX7_wearAt_19 : decode cX7_wearAt 19 = .ok (.idiv, 1) := by decide +kernel
theorem dX7_wearAt_20 : decode cX7_wearAt 20 = .ok (.iadd, 1) := by decide +kernel
theorem dX7_wearAt_21 : decode cX7_wearAt 21 = .ok (.istore_n 3, 1) := by decide +kernel
theorem dX7_wearAt_22 : decode cX7_wearAt 22 = .ok (.iload_n 3, 1) := by decide +kernel
theorem dX7_wearAt_23 : decode cX7_wearAt 23 = .ok (.iconst 1, 1) := by decide +kernel
theorem dX7_wearAt_24 : decode cX7_wearAt 24 = .ok (.if_icmp .ge 7, 3) := by decide +kernel
theorem dX7_wearAt_27 : decode cX7_wearAt 27 = .ok (.iconst 1, 1) := by decide +kernel
theorem dX7_wearAt_28 : decode cX7_wearAt 28 = .ok (.goto 4, 3) := by decide +kernel
theorem dX7_wearAt_31 : decode cX7_wearAt 31 = .ok (.iload_n 3, 1) := by decide +kernel
theorem dX7_wearAt_32 : decode cX7_wearAt 32 = .ok (.istore_n 3, 1) := by decide +kernel
theorem dX7_wearAt_33 : decode cX7_wearAt 33 = .ok (.iload_n 2, 1) := by decide +kernel
theorem dX7_wearAt_34 : decode cX7_wearAt 34 = .ok (.ifCond .eq 12, 3) := by decide +kernel
theorem dX7_wearAt_37 : decode cX7_wearAt 37 = .ok (.iload_n 3, 1) := by decide +kernel
theorem dX7_wearAt_38 : decode cX7_wearAt 38 = .ok (.iload_n 3, 1) := by decide +kernel
theorem dX7_wearAt_39 : decode cX7_wearAt 39 = .ok (.bipush 10, 2) := by decide +kernel
theorem dX7_wearAt_41 : decode cX7_wearAt 41 = .ok (.idiv, 1) := by decide +kernel
theorem dX7_wearAt_42 : decode cX7_wearAt 42 = .ok (.iadd, 1) := by decide +kernel
theorem dX7_wearAt_43 : decode cX7_wearAt 43 = .ok (.goto 4, 3) := by decide +kernel
theorem dX7_wearAt_46 : decode cX7_wearAt 46 = .ok (.iload_n 3, 1) := by decide +kernel
theorem dX7_wearAt_47 : decode cX7_wearAt 47 = .ok (.ireturn, 1) := by decide +kernel
set_option maxRecDepth 20000 in
theorem ggX7_isHot_X7_of : GoodIn wsX7_isHot wsX7_of := goodIn_r _ [5, 6, 10, 11, 12, 13, 14, 15, 16, 17, 18, 19, 20, 21, 22] (by decide +kernel) (by decide +kernel)
set_option maxRecDepth 20000 in
theorem gX7_isHot_X7_of : GoodIn wsX7_isHot (wsV RX7 32 RX7 yX7_of wsX7_of) := goodIn_app (goodIn_of _ (by decide +kernel)) ggX7_isHot_X7_of
set_option maxRecDepth 20000 in
theorem ggX7_isHot_X7_in : GoodIn wsX7_isHot wsX7_in := goodIn_r _ [9] (by decide +kernel) (by decide +kernel)
set_option maxRecDepth 20000 in
theorem gX7_isHot_X7_in : GoodIn wsX7_isHot (va_wsS RX7 28 yX7_in wsX7_in) := goodIn_app (goodIn_of _ (by decide +kernel)) ggX7_isHot_X7_in
theorem dX7_isHot_0 : decode cX7_isHot 0 = .ok (.aload_n 0, 1) := by decide +kernel
theorem dX7_isHot_1 : decode cX7_isHot 1 = .ok (.iload_n 1, 1) := by decide +kernel
theorem dX7_isHot_2 : decode cX7_isHot 2 = .ok (.iconst 2, 1) := by decide +kernel
theorem dX7_isHot_3 : decode cX7_isHot 3 = .ok (.invokevirtual 32, 3) := by decide +kernel
theorem dX7_isHot_6 : decode cX7_isHot 6 = .ok (.iconst 3, 1) := by decide +kernel
theorem dX7_isHot_7 : decode cX7_isHot 7 = .ok (.iconst 4, 1) := by decide +kernel
theorem dX7_isHot_8 : decode cX7_isHot 8 = .ok (.invokestatic 28, 3) := by decide +kernel
theorem dX7_isHot_11 : decode cX7_isHot 11 = .ok (.ireturn, 1) := by decide +kernel
set_option maxRecDepth 20000 in
theorem ggX7_burns_X7_isDead : GoodIn wsX7_burns wsX7_isDead := goodIn_r _ [5, 6, 7, 8, 4, 9, 10, 15, 16, 17, 18, 19, 20, 21, 22, 23, 24, 25, 26, 27] (by decide +kernel) (by decide +kernel)
set_option maxRecDepth 20000 in
theorem gX7_burns_X7_isDead : GoodIn wsX7_burns (wsV RX7 91 RX7 yX7_isDead wsX7_isDead) := goodIn_app (goodIn_of _ (by decide +kernel)) ggX7_burns_X7_isDead
set_option maxRecDepth 20000 in
theorem ggX7_burns_X7_of : GoodIn wsX7_burns wsX7_of := goodIn_r _ [9, 10, 15, 16, 17, 18, 19, 20, 21, 22, 23, 24, 25, 26, 27] (by decide +kernel) (by decide +kernel)
set_option maxRecDepth 20000 in
theorem gX7_burns_X7_of : GoodIn wsX7_burns (wsV RX7 32 RX7 yX7_of wsX7_of) := goodIn_app (goodIn_of _ (by decide +kernel)) ggX7_burns_X7_of
set_option maxRecDepth 20000 in
theorem ggX7_burns_X7_ofRack : GoodIn wsX7_burns wsX7_ofRack := goodIn_r _ [14, 10, 15, 16, 17, 18, 19, 20, 21, 22, 23, 24, 25, 26, 27] (by decide +kernel) (by decide +kernel)
set_option maxRecDepth 20000 in
theorem gX7_burns_X7_ofRack : GoodIn wsX7_burns (wsV RX7 85 RX7 yX7_ofRack wsX7_ofRack) := goodIn_app (goodIn_of _ (by decide +kernel)) ggX7_burns_X7_ofRack
theorem dX7_burns_0 : decode cX7_burns 0 = .ok (.aload_n 0, 1) := by decide +kernel
theorem dX7_burns_1 : decode cX7_burns 1 = .ok (.iload_n 1, 1) := by decide +kernel
theorem dX7_burns_2 : decode cX7_burns 2 = .ok (.invokevirtual 91, 3) := by decide +kernel
theorem dX7_burns_5 : decode cX7_burns 5 = .ok (.ifCond .ne 33, 3) := by decide +kernel
theorem dX7_burns_8 : decode cX7_burns 8 = .ok (.aload_n 0, 1) := by decide +kernel
theorem dX7_burns_9 : decode cX7_burns 9 = .ok (.iload_n 1, 1) := by decide +kernel
theorem dX7_burns_10 : decode cX7_burns 10 = .ok (.iconst 1, 1) := by decide +kernel
theorem dX7_burns_11 : decode cX7_burns 11 = .ok (.invokevirtual 32, 3) := by decide +kernel
theorem dX7_burns_14 : decode cX7_burns 14 = .ok (.sipush (-1005), 3) := by decide +kernel
theorem dX7_burns_17 : decode cX7_burns 17 = .ok (.if_icmp .eq 21, 3) := by decide +kernel
theorem dX7_burns_20 : decode cX7_burns 20 = .ok (.aload_n 0, 1) := by decide +kernel
theorem dX7_burns_21 : decode cX7_burns 21 = .ok (.aload_n 0, 1) := by decide +kernel
theorem dX7_burns_22 : decode cX7_burns 22 = .ok (.iload_n 1, 1) := by decide +kernel
theorem dX7_burns_23 : decode cX7_burns 23 = .ok (.iconst 1, 1) := by decide +kernel
theorem dX7_burns_24 : decode cX7_burns 24 = .ok (.invokevirtual 32, 3) := by decide +kernel
theorem dX7_burns_27 : decode cX7_burns 27 = .ok (.iconst 0, 1) := by decide +kernel
theorem dX7_burns_28 : decode cX7_burns 28 = .ok (.invokevirtual 85, 3) := by decide +kernel
theorem dX7_burns_31 : decode cX7_burns 31 = .ok (.ifCond .le 7, 3) := by decide +kernel
theorem dX7_burns_34 : decode cX7_burns 34 = .ok (.iconst 1, 1) := by decide +kernel
theorem dX7_burns_35 : decode cX7_burns 35 = .ok (.goto 4, 3) := by decide +kernel
theorem dX7_burns_38 : decode cX7_burns 38 = .ok (.iconst 0, 1) := by decide +kernel
theorem dX7_burns_39 : decode cX7_burns 39 = .ok (.ireturn, 1) := by decide +kernel
set_option maxRecDepth 20000 in
theorem ggX7_anHour_X7_burns : GoodIn wsX7_anHour wsX7_burns := goodIn_r _ [6, 7, 8, 9, 5, 10, 11, 12, 13, 14, 1, 15, 16, 17, 18, 34, 35, 36, 37, 38, 39, 40, 41, 42, 43, 44, 45, 46] (by decide +kernel) (by decide +kernel)
set_option maxRecDepth 20000 in
theorem gX7_anHour_X7_burns : GoodIn wsX7_anHour (wsV RX7 94 RX7 yX7_burns wsX7_burns) := goodIn_app (goodIn_of _ (by decide +kernel)) ggX7_anHour_X7_burns
set_option maxRecDepth 20000 in
theorem ggX7_anHour_X7_of : GoodIn wsX7_anHour wsX7_of := goodIn_r _ [14, 1, 34, 35, 36, 37, 38, 39, 40, 41, 42, 43, 44, 45, 46] (by decide +kernel) (by decide +kernel)
set_option maxRecDepth 20000 in
theorem gX7_anHour_X7_of : GoodIn wsX7_anHour (wsV RX7 32 RX7 yX7_of wsX7_of) := goodIn_app (goodIn_of _ (by decide +kernel)) ggX7_anHour_X7_of
set_option maxRecDepth 20000 in
theorem ggX7_anHour_X7_lay : GoodIn wsX7_anHour wsX7_lay := goodIn_r _ [22, 1, 34, 35, 36, 37, 38, 39, 40, 41, 42, 43, 44, 45, 46] (by decide +kernel) (by decide +kernel)
set_option maxRecDepth 20000 in
theorem gX7_anHour_X7_lay : GoodIn wsX7_anHour (wsV RX7 68 RX7 yX7_lay wsX7_lay) := goodIn_app (goodIn_of _ (by decide +kernel)) ggX7_anHour_X7_lay
set_option maxRecDepth 20000 in
theorem ggX7_anHour_X7_ofRack : GoodIn wsX7_anHour wsX7_ofRack := goodIn_r _ [18, 1, 34, 35, 36, 37, 38, 39, 40, 41, 42, 43, 44, 45, 46] (by decide +kernel) (by decide +kernel)
set_option maxRecDepth 20000 in
theorem gX7_anHour_X7_ofRack : GoodIn wsX7_anHour (wsV RX7 85 RX7 yX7_ofRack wsX7_ofRack) := goodIn_app (goodIn_of _ (by decide +kernel)) ggX7_anHour_X7_ofRack
set_option maxRecDepth 20000 in
theorem ggX7_anHour_X7_isHot : GoodIn wsX7_anHour wsX7_isHot := goodIn_r _ [26, 11, 12, 13, 5, 14, 1, 27, 28, 29, 34, 35, 36, 37, 38, 39, 40, 41, 42, 43, 44, 45, 46] (by decide +kernel) (by decide +kernel)
set_option maxRecDepth 20000 in
theorem gX7_anHour_X7_isHot : GoodIn wsX7_anHour (wsV RX7 97 RX7 yX7_isHot wsX7_isHot) := goodIn_app (goodIn_of _ (by decide +kernel)) ggX7_anHour_X7_isHot
set_option maxRecDepth 20000 in
theorem ggX7_anHour_X7_wearAt : GoodIn wsX7_anHour wsX7_wearAt := goodIn_r _ [33, 1, 34, 35, 36, 37, 38, 39, 40, 41, 42, 43, 44, 45, 46] (by decide +kernel) (by decide +kernel)
set_option maxRecDepth 20000 in
theorem gX7_anHour_X7_wearAt : GoodIn wsX7_anHour (wsV RX7 100 RX7 yX7_wearAt wsX7_wearAt) := goodIn_app (goodIn_of _ (by decide +kernel)) ggX7_anHour_X7_wearAt
theorem dX7_anHour_0 : decode cX7_anHour 0 = .ok (.iconst 0, 1) := by decide +kernel
theorem dX7_anHour_1 : decode cX7_anHour 1 = .ok (.istore_n 1, 1) := by decide +kernel
theorem dX7_anHour_2 : decode cX7_anHour 2 = .ok (.aload_n 0, 1) := by decide +kernel
theorem dX7_anHour_3 : decode cX7_anHour 3 = .ok (.getfield 7, 3) := by decide +kernel
theorem dX7_anHour_6 : decode cX7_anHour 6 = .ok (.iconst 2, 1) := by decide +kernel
theorem dX7_anHour_7 : decode cX7_anHour 7 = .ok (.dup2, 1) := by decide +kernel
theorem dX7_anHour_8 : decode cX7_anHour 8 = .ok (.iaload, 1) := by decide +kernel
theorem dX7_anHour_9 : decode cX7_anHour 9 = .ok (.iconst 1, 1) := by decide +kernel
theorem dX7_anHour_10 : decode cX7_anHour 10 = .ok (.iadd, 1) := by decide +kernel
theorem dX7_anHour_11 : decode cX7_anHour 11 = .ok (.iastore, 1) := by decide +kernel
theorem dX7_anHour_12 : decode cX7_anHour 12 = .ok (.iconst 0, 1) := by decide +kernel
theorem dX7_anHour_13 : decode cX7_anHour 13 = .ok (.istore_n 2, 1) := by decide +kernel
theorem dX7_anHour_14 : decode cX7_anHour 14 = .ok (.iload_n 2, 1) := by decide +kernel
theorem dX7_anHour_15 : decode cX7_anHour 15 = .ok (.aload_n 0, 1) := by decide +kernel
theorem dX7_anHour_16 : decode cX7_anHour 16 = .ok (.getfield 7, 3) := by decide +kernel
theorem dX7_anHour_19 : decode cX7_anHour 19 = .ok (.iconst 3, 1) := by decide +kernel
theorem dX7_anHour_20 : decode cX7_anHour 20 = .ok (.iaload, 1) := by decide +kernel
theorem dX7_anHour_21 : decode cX7_anHour 21 = .ok (.if_icmp .ge 98, 3) := by decide +kernel
theorem dX7_anHour_24 : decode cX7_anHour 24 = .ok (.aload_n 0, 1) := by decide +kernel
theorem dX7_anHour_25 : decode cX7_anHour 25 = .ok (.iload_n 2, 1) := by decide +kernel
theorem dX7_anHour_26 : decode cX7_anHour 26 = .ok (.invokevirtual 94, 3) := by decide +kernel
theorem dX7_anHour_29 : decode cX7_anHour 29 = .ok (.ifCond .eq 84, 3) := by decide +kernel
theorem dX7_anHour_32 : decode cX7_anHour 32 = .ok (.aload_n 0, 1) := by decide +kernel
theorem dX7_anHour_33 : decode cX7_anHour 33 = .ok (.iload_n 2, 1) := by decide +kernel
theorem dX7_anHour_34 : decode cX7_anHour 34 = .ok (.iconst 5, 1) := by decide +kernel
theorem dX7_anHour_35 : decode cX7_anHour 35 = .ok (.aload_n 0, 1) := by decide +kernel
theorem dX7_anHour_36 : decode cX7_anHour 36 = .ok (.iload_n 2, 1) := by decide +kernel
theorem dX7_anHour_37 : decode cX7_anHour 37 = .ok (.iconst 5, 1) := by decide +kernel
theorem dX7_anHour_38 : decode cX7_anHour 38 = .ok (.invokevirtual 32, 3) := by decide +kernel
theorem dX7_anHour_41 : decode cX7_anHour 41 = .ok (.iconst 1, 1) := by decide +kernel
theorem dX7_anHour_42 : decode cX7_anHour 42 = .ok (.iadd, 1) := by decide +kernel
theorem dX7_anHour_43 : decode cX7_anHour 43 = .ok (.invokevirtual 68, 3) := by decide +kernel
theorem dX7_anHour_46 : decode cX7_anHour 46 = .ok (.aload_n 0, 1) := by decide +kernel
theorem dX7_anHour_47 : decode cX7_anHour 47 = .ok (.iload_n 2, 1) := by decide +kernel
theorem dX7_anHour_48 : decode cX7_anHour 48 = .ok (.iconst 4, 1) := by decide +kernel
theorem dX7_anHour_49 : decode cX7_anHour 49 = .ok (.aload_n 0, 1) := by decide +kernel
theorem dX7_anHour_50 : decode cX7_anHour 50 = .ok (.iload_n 2, 1) := by decide +kernel
theorem dX7_anHour_51 : decode cX7_anHour 51 = .ok (.iconst 4, 1) := by decide +kernel
theorem dX7_anHour_52 : decode cX7_anHour 52 = .ok (.invokevirtual 32, 3) := by decide +kernel
theorem dX7_anHour_55 : decode cX7_anHour 55 = .ok (.aload_n 0, 1) := by decide +kernel
theorem dX7_anHour_56 : decode cX7_anHour 56 = .ok (.aload_n 0, 1) := by decide +kernel
theorem dX7_anHour_57 : decode cX7_anHour 57 = .ok (.aload_n 0, 1) := by decide +kernel
theorem dX7_anHour_58 : decode cX7_anHour 58 = .ok (.iload_n 2, 1) := by decide +kernel
theorem dX7_anHour_59 : decode cX7_anHour 59 = .ok (.iconst 1, 1) := by decide +kernel
theorem dX7_anHour_60 : decode cX7_anHour 60 = .ok (.invokevirtual 32, 3) := by decide +kernel
theorem dX7_anHour_63 : decode cX7_anHour 63 = .ok (.iconst 0, 1) := by decide +kernel
theorem dX7_anHour_64 : decode cX7_anHour 64 = .ok (.invokevirtual 85, 3) := by decide +kernel
theorem dX7_anHour_67 : decode cX7_anHour 67 = .ok (.aload_n 0, 1) := by decide +kernel
theorem dX7_anHour_68 : decode cX7_anHour 68 = .ok (.iload_n 2, 1) := by decide +kernel
theorem dX7_anHour_69 : decode cX7_anHour 69 = .ok (.invokevirtual 97, 3) := by decide +kernel
theorem dX7_anHour_72 : decode cX7_anHour 72 = .ok (.invokevirtual 100, 3) := by decide +kernel
theorem dX7_anHour_75 : decode cX7_anHour 75 = .ok (.iadd, 1) := by decide +kernel
theorem dX7_anHour_76 : decode cX7_anHour 76 = .ok (.invokevirtual 68, 3) := by decide +kernel
theorem dX7_anHour_79 : decode cX7_anHour 79 = .ok (.aload_n 0, 1) := by decide +kernel
theorem dX7_anHour_80 : decode cX7_anHour 80 = .ok (.iload_n 2, 1) := by decide +kernel
theorem dX7_anHour_81 : decode cX7_anHour 81 = .ok (.iconst 4, 1) := by decide +kernel
theorem dX7_anHour_82 : decode cX7_anHour 82 = .ok (.invokevirtual 32, 3) := by decide +kernel
theorem dX7_anHour_85 : decode cX7_anHour 85 = .ok (.bipush 10, 2) := by decide +kernel
theorem dX7_anHour_87 : decode cX7_anHour 87 = .ok (.aload_n 0, 1) := by decide +kernel
theorem dX7_anHour_88 : decode cX7_anHour 88 = .ok (.iload_n 2, 1) := by decide +kernel
theorem dX7_anHour_89 : decode cX7_anHour 89 = .ok (.iconst 3, 1) := by decide +kernel
theorem dX7_anHour_90 : decode cX7_anHour 90 = .ok (.invokevirtual 32, 3) := by decide +kernel
theorem dX7_anHour_93 : decode cX7_anHour 93 = .ok (.imul, 1) := by decide +kernel
theorem dX7_anHour_94 : decode cX7_anHour 94 = .ok (.if_icmp .lt 19, 3) := by decide +kernel
theorem dX7_anHour_97 : decode cX7_anHour 97 = .ok (.aload_n 0, 1) := by decide +kernel
theorem dX7_anHour_98 : decode cX7_anHour 98 = .ok (.iload_n 2, 1) := by decide +kernel
theorem dX7_anHour_99 : decode cX7_anHour 99 = .ok (.bipush 6, 2) := by decide +kernel
theorem dX7_anHour_101 : decode cX7_anHour 101 = .ok (.aload_n 0, 1) := by decide +kernel
theorem dX7_anHour_102 : decode cX7_anHour 102 = .ok (.getfield 7, 3) := by decide +kernel
theorem dX7_anHour_105 : decode cX7_anHour 105 = .ok (.iconst 2, 1) := by decide +kernel
theorem dX7_anHour_106 : decode cX7_anHour 106 = .ok (.iaload, 1) := by decide +kernel
theorem dX7_anHour_107 : decode cX7_anHour 107 = .ok (.invokevirtual 68, 3) := by decide +kernel
theorem dX7_anHour_110 : decode cX7_anHour 110 = .ok (.iinc 1 1, 3) := by decide +kernel
theorem dX7_anHour_113 : decode cX7_anHour 113 = .ok (.iinc 2 1, 3) := by decide +kernel
theorem dX7_anHour_116 : decode cX7_anHour 116 = .ok (.goto (-102), 3) := by decide +kernel
theorem dX7_anHour_119 : decode cX7_anHour 119 = .ok (.iconst 0, 1) := by decide +kernel
theorem dX7_anHour_120 : decode cX7_anHour 120 = .ok (.istore_n 2, 1) := by decide +kernel
theorem dX7_anHour_121 : decode cX7_anHour 121 = .ok (.iload_n 2, 1) := by decide +kernel
theorem dX7_anHour_122 : decode cX7_anHour 122 = .ok (.iconst 3, 1) := by decide +kernel
theorem dX7_anHour_123 : decode cX7_anHour 123 = .ok (.if_icmp .ge 130, 3) := by decide +kernel
theorem dX7_anHour_126 : decode cX7_anHour 126 = .ok (.bipush 16, 2) := by decide +kernel
theorem dX7_anHour_128 : decode cX7_anHour 128 = .ok (.iconst 4, 1) := by decide +kernel
theorem dX7_anHour_129 : decode cX7_anHour 129 = .ok (.iload_n 2, 1) := by decide +kernel
theorem dX7_anHour_130 : decode cX7_anHour 130 = .ok (.imul, 1) := by decide +kernel
theorem dX7_anHour_131 : decode cX7_anHour 131 = .ok (.iadd, 1) := by decide +kernel
theorem dX7_anHour_132 : decode cX7_anHour 132 = .ok (.istore_n 3, 1) := by decide +kernel
theorem dX7_anHour_133 : decode cX7_anHour 133 = .ok (.aload_n 0, 1) := by decide +kernel
theorem dX7_anHour_134 : decode cX7_anHour 134 = .ok (.getfield 7, 3) := by decide +kernel
theorem dX7_anHour_137 : decode cX7_anHour 137 = .ok (.iload_n 3, 1) := by decide +kernel
theorem dX7_anHour_138 : decode cX7_anHour 138 = .ok (.iconst 3, 1) := by decide +kernel
theorem dX7_anHour_139 : decode cX7_anHour 139 = .ok (.iadd, 1) := by decide +kernel
theorem dX7_anHour_140 : decode cX7_anHour 140 = .ok (.dup2, 1) := by decide +kernel
theorem dX7_anHour_141 : decode cX7_anHour 141 = .ok (.iaload, 1) := by decide +kernel
theorem dX7_anHour_142 : decode cX7_anHour 142 = .ok (.aload_n 0, 1) := by decide +kernel
theorem dX7_anHour_143 : decode cX7_anHour 143 = .ok (.getfield 7, 3) := by decide +kernel
theorem dX7_anHour_146 : decode cX7_anHour 146 = .ok (.iload_n 3, 1) := by decide +kernel
theorem dX7_anHour_147 : decode cX7_anHour 147 = .ok (.iconst 1, 1) := by decide +kernel
theorem dX7_anHour_148 : decode cX7_anHour 148 = .ok (.iadd, 1) := by decide +kernel
theorem dX7_anHour_149 : decode cX7_anHour 149 = .ok (.iaload, 1) := by decide +kernel
theorem dX7_anHour_150 : decode cX7_anHour 150 = .ok (.ifCond .le 7, 3) := by decide +kernel
theorem dX7_anHour_153 : decode cX7_anHour 153 = .ok (.iconst 1, 1) := by decide +kernel
theorem dX7_anHour_154 : decode cX7_anHour 154 = .ok (.goto 4, 3) := by decide +kernel
theorem dX7_anHour_157 : decode cX7_anHour 157 = .ok (.iconst 0, 1) := by decide +kernel
theorem dX7_anHour_158 : decode cX7_anHour 158 = .ok (.iadd, 1) := by decide +kernel
theorem dX7_anHour_159 : decode cX7_anHour 159 = .ok (.iastore, 1) := by decide +kernel
theorem dX7_anHour_160 : decode cX7_anHour 160 = .ok (.aload_n 0, 1) := by decide +kernel
theorem dX7_anHour_161 : decode cX7_anHour 161 = .ok (.getfield 7, 3) := by decide +kernel
theorem dX7_anHour_164 : decode cX7_anHour 164 = .ok (.iload_n 3, 1) := by decide +kernel
theorem dX7_anHour_165 : decode cX7_anHour 165 = .ok (.iconst 1, 1) := by decide +kernel
theorem dX7_anHour_166 : decode cX7_anHour 166 = .ok (.iadd, 1) := by decide +kernel
theorem dX7_anHour_167 : decode cX7_anHour 167 = .ok (.iaload, 1) := by decide +kernel
theorem dX7_anHour_168 : decode cX7_anHour 168 = .ok (.ifCond .le 79, 3) := by decide +kernel
theorem dX7_anHour_171 : decode cX7_anHour 171 = .ok (.aload_n 0, 1) := by decide +kernel
theorem dX7_anHour_172 : decode cX7_anHour 172 = .ok (.getfield 7, 3) := by decide +kernel
theorem dX7_anHour_175 : decode cX7_anHour 175 = .ok (.iload_n 3, 1) := by decide +kernel
theorem dX7_anHour_176 : decode cX7_anHour 176 = .ok (.iconst 3, 1) := by decide +kernel
theorem dX7_anHour_177 : decode cX7_anHour 177 = .ok (.iadd, 1) := by decide +kernel
theorem dX7_anHour_178 : decode cX7_anHour 178 = .ok (.iaload, 1) := by decide +kernel
theorem dX7_anHour_179 : decode cX7_anHour 179 = .ok (.aload_n 0, 1) := by decide +kernel
theorem dX7_anHour_180 : decode cX7_anHour 180 = .ok (.getfield 7, 3) := by decide +kernel
theorem dX7_anHour_183 : decode cX7_anHour 183 = .ok (.iload_n 3, 1) := by decide +kernel
theorem dX7_anHour_184 : decode cX7_anHour 184 = .ok (.iconst 1, 1) := by decide +kernel
theorem dX7_anHour_185 : decode cX7_anHour 185 = .ok (.iadd, 1) := by decide +kernel
theorem dX7_anHour_186 : decode cX7_anHour 186 = .ok (.iaload, 1) := by decide +kernel
theorem dX7_anHour_187 : decode cX7_anHour 187 = .ok (.if_icmp .ne 60, 3) := by decide +kernel
theorem dX7_anHour_190 : decode cX7_anHour 190 = .ok (.aload_n 0, 1) := by decide +kernel
theorem dX7_anHour_191 : decode cX7_anHour 191 = .ok (.getfield 7, 3) := by decide +kernel
theorem dX7_anHour_194 : decode cX7_anHour 194 = .ok (.iload_n 3, 1) := by decide +kernel
theorem dX7_anHour_195 : decode cX7_anHour 195 = .ok (.iaload, 1) := by decide +kernel
theorem dX7_anHour_196 : decode cX7_anHour 196 = .ok (.aload_n 0, 1) := by decide +kernel
theorem dX7_anHour_197 : decode cX7_anHour 197 = .ok (.getfield 7, 3) := by decide +kernel
theorem dX7_anHour_200 : decode cX7_anHour 200 = .ok (.iload_n 3, 1) := by decide +kernel
theorem dX7_anHour_201 : decode cX7_anHour 201 = .ok (.iconst 2, 1) := by decide +kernel
theorem dX7_anHour_202 : decode cX7_anHour 202 = .ok (.iadd, 1) := by decide +kernel
theorem dX7_anHour_203 : decode cX7_anHour 203 = .ok (.iaload, 1) := by decide +kernel
theorem dX7_anHour_204 : decode cX7_anHour 204 = .ok (.iadd, 1) := by decide +kernel
theorem dX7_anHour_205 : decode cX7_anHour 205 = .ok (.istore 4, 2) := by decide +kernel
theorem dX7_anHour_207 : decode cX7_anHour 207 = .ok (.aload_n 0, 1) := by decide +kernel
theorem dX7_anHour_208 : decode cX7_anHour 208 = .ok (.getfield 7, 3) := by decide +kernel
theorem dX7_anHour_211 : decode cX7_anHour 211 = .ok (.iload_n 3, 1) := by decide +kernel
theorem dX7_anHour_212 : decode cX7_anHour 212 = .ok (.iload 4, 2) := by decide +kernel
theorem dX7_anHour_214 : decode cX7_anHour 214 = .ok (.ifCond .ge 7, 3) := by decide +kernel
theorem dX7_anHour_217 : decode cX7_anHour 217 = .ok (.iconst 0, 1) := by decide +kernel
theorem dX7_anHour_218 : decode cX7_anHour 218 = .ok (.goto 19, 3) := by decide +kernel
theorem dX7_anHour_221 : decode cX7_anHour 221 = .ok (.iload 4, 2) := by decide +kernel
theorem dX7_anHour_223 : decode cX7_anHour 223 = .ok (.sipush 300, 3) := by decide +kernel
theorem dX7_anHour_226 : decode cX7_anHour 226 = .ok (.if_icmp .le 9, 3) := by decide +kernel
theorem dX7_anHour_229 : decode cX7_anHour 229 = .ok (.sipush 300, 3) := by decide +kernel
theorem dX7_anHour_232 : decode cX7_anHour 232 = .ok (.goto 5, 3) := by decide +kernel
theorem dX7_anHour_235 : decode cX7_anHour 235 = .ok (.iload 4, 2) := by decide +kernel
theorem dX7_anHour_237 : decode cX7_anHour 237 = .ok (.iastore, 1) := by decide +kernel
theorem dX7_anHour_238 : decode cX7_anHour 238 = .ok (.aload_n 0, 1) := by decide +kernel
theorem dX7_anHour_239 : decode cX7_anHour 239 = .ok (.getfield 7, 3) := by decide +kernel
theorem dX7_anHour_242 : decode cX7_anHour 242 = .ok (.iload_n 3, 1) := by decide +kernel
theorem dX7_anHour_243 : decode cX7_anHour 243 = .ok (.iconst 3, 1) := by decide +kernel
theorem dX7_anHour_244 : decode cX7_anHour 244 = .ok (.iadd, 1) := by decide +kernel
theorem dX7_anHour_245 : decode cX7_anHour 245 = .ok (.iconst 0, 1) := by decide +kernel
theorem dX7_anHour_246 : decode cX7_anHour 246 = .ok (.iastore, 1) := by decide +kernel
theorem dX7_anHour_247 : decode cX7_anHour 247 = .ok (.iinc 2 1, 3) := by decide +kernel
theorem dX7_anHour_250 : decode cX7_anHour 250 = .ok (.goto (-129), 3) := by decide +kernel
theorem dX7_anHour_253 : decode cX7_anHour 253 = .ok (.iload_n 1, 1) := by decide +kernel
theorem dX7_anHour_254 : decode cX7_anHour 254 = .ok (.ireturn, 1) := by decide +kernel
set_option maxRecDepth 20000 in
theorem ggX7_whyNotPass_X7_in : GoodIn wsX7_whyNotPass wsX7_in := goodIn_r _ [6] (by decide +kernel) (by decide +kernel)
set_option maxRecDepth 20000 in
theorem gX7_whyNotPass_X7_in : GoodIn wsX7_whyNotPass (va_wsS RX7 28 yX7_in wsX7_in) := goodIn_app (goodIn_of _ (by decide +kernel)) ggX7_whyNotPass_X7_in
theorem dX7_whyNotPass_0 : decode cX7_whyNotPass 0 = .ok (.iload_n 1, 1) := by decide +kernel
theorem dX7_whyNotPass_1 : decode cX7_whyNotPass 1 = .ok (.iconst 1, 1) := by decide +kernel
theorem dX7_whyNotPass_2 : decode cX7_whyNotPass 2 = .ok (.sipush 999, 3) := by decide +kernel
theorem dX7_whyNotPass_5 : decode cX7_whyNotPass 5 = .ok (.invokestatic 28, 3) := by decide +kernel
theorem dX7_whyNotPass_8 : decode cX7_whyNotPass 8 = .ok (.ifCond .ne 9, 3) := by decide +kernel
theorem dX7_whyNotPass_11 : decode cX7_whyNotPass 11 = .ok (.sipush (-1002), 3) := by decide +kernel
theorem dX7_whyNotPass_14 : decode cX7_whyNotPass 14 = .ok (.goto 23, 3) := by decide +kernel
theorem dX7_whyNotPass_17 : decode cX7_whyNotPass 17 = .ok (.aload_n 0, 1) := by decide +kernel
theorem dX7_whyNotPass_18 : decode cX7_whyNotPass 18 = .ok (.getfield 7, 3) := by decide +kernel
theorem dX7_whyNotPass_21 : decode cX7_whyNotPass 21 = .ok (.iconst 2, 1) := by decide +kernel
theorem dX7_whyNotPass_22 : decode cX7_whyNotPass 22 = .ok (.iaload, 1) := by decide +kernel
theorem dX7_whyNotPass_23 : decode cX7_whyNotPass 23 = .ok (.iload_n 1, 1) := by decide +kernel
theorem dX7_whyNotPass_24 : decode cX7_whyNotPass 24 = .ok (.iadd, 1) := by decide +kernel
theorem dX7_whyNotPass_25 : decode cX7_whyNotPass 25 = .ok (.ldc 104, 2) := by decide +kernel
theorem dX7_whyNotPass_27 : decode cX7_whyNotPass 27 = .ok (.if_icmp .le 9, 3) := by decide +kernel
theorem dX7_whyNotPass_30 : decode cX7_whyNotPass 30 = .ok (.sipush (-1003), 3) := by decide +kernel
theorem dX7_whyNotPass_33 : decode cX7_whyNotPass 33 = .ok (.goto 4, 3) := by decide +kernel
theorem dX7_whyNotPass_36 : decode cX7_whyNotPass 36 = .ok (.iconst 0, 1) := by decide +kernel
theorem dX7_whyNotPass_37 : decode cX7_whyNotPass 37 = .ok (.ireturn, 1) := by decide +kernel
set_option maxRecDepth 20000 in
theorem ggX7_passNow_X7_anHour : GoodIn wsX7_passNow wsX7_anHour := goodIn_r _ [5, 6, 7, 8, 9, 4, 10, 11, 12, 13, 14, 15, 16, 17, 18, 19, 20, 21, 22, 23, 24, 25, 26, 27, 28, 29, 30, 31, 32, 33, 34, 35, 36, 37, 38, 39, 40, 41, 42, 43, 44, 45, 46, 47, 48, 49, 50] (by decide +kernel) (by decide +kernel)
set_option maxRecDepth 20000 in
theorem gX7_passNow_X7_anHour : GoodIn wsX7_passNow (wsV RX7 105 RX7 yX7_anHour wsX7_anHour) := goodIn_app (goodIn_of _ (by decide +kernel)) ggX7_passNow_X7_anHour
theorem dX7_passNow_0 : decode cX7_passNow 0 = .ok (.iconst 0, 1) := by decide +kernel
theorem dX7_passNow_1 : decode cX7_passNow 1 = .ok (.istore_n 2, 1) := by decide +kernel
theorem dX7_passNow_2 : decode cX7_passNow 2 = .ok (.iconst 0, 1) := by decide +kernel
theorem dX7_passNow_3 : decode cX7_passNow 3 = .ok (.istore_n 3, 1) := by decide +kernel
theorem dX7_passNow_4 : decode cX7_passNow 4 = .ok (.iload_n 3, 1) := by decide +kernel
theorem dX7_passNow_5 : decode cX7_passNow 5 = .ok (.iload_n 1, 1) := by decide +kernel
theorem dX7_passNow_6 : decode cX7_passNow 6 = .ok (.if_icmp .ge 16, 3) := by decide +kernel
theorem dX7_passNow_9 : decode cX7_passNow 9 = .ok (.iload_n 2, 1) := by decide +kernel
theorem dX7_passNow_10 : decode cX7_passNow 10 = .ok (.aload_n 0, 1) := by decide +kernel
theorem dX7_passNow_11 : decode cX7_passNow 11 = .ok (.invokevirtual 105, 3) := by decide +kernel
theorem dX7_passNow_14 : decode cX7_passNow 14 = .ok (.iadd, 1) := by decide +kernel
theorem dX7_passNow_15 : decode cX7_passNow 15 = .ok (.istore_n 2, 1) := by decide +kernel
theorem dX7_passNow_16 : decode cX7_passNow 16 = .ok (.iinc 3 1, 3) := by decide +kernel
theorem dX7_passNow_19 : decode cX7_passNow 19 = .ok (.goto (-15), 3) := by decide +kernel
theorem dX7_passNow_22 : decode cX7_passNow 22 = .ok (.iload_n 2, 1) := by decide +kernel
theorem dX7_passNow_23 : decode cX7_passNow 23 = .ok (.ireturn, 1) := by decide +kernel
set_option maxRecDepth 20000 in
theorem ggX7_pass_X7_whyNotPass : GoodIn wsX7_pass wsX7_whyNotPass := goodIn_r _ [5, 6, 7, 8, 9, 4, 10, 60, 61, 62, 63, 64, 65, 66, 67, 68, 69, 70, 71, 72] (by decide +kernel) (by decide +kernel)
set_option maxRecDepth 20000 in
theorem gX7_pass_X7_whyNotPass : GoodIn wsX7_pass (wsV RX7 109 RX7 yX7_whyNotPass wsX7_whyNotPass) := goodIn_app (goodIn_of _ (by decide +kernel)) ggX7_pass_X7_whyNotPass
set_option maxRecDepth 20000 in
theorem ggX7_pass_X7_record : GoodIn wsX7_pass wsX7_record := goodIn_r _ [14, 6, 15, 16, 17, 4, 18, 19, 20, 21, 22, 23, 60, 61, 62, 63, 64, 65, 66, 67, 68, 69, 70, 71, 72] (by decide +kernel) (by decide +kernel)
set_option maxRecDepth 20000 in
theorem gX7_pass_X7_record : GoodIn wsX7_pass (wsV RX7 52 RX7 yX7_record wsX7_record) := goodIn_app (goodIn_of _ (by decide +kernel)) ggX7_pass_X7_record
set_option maxRecDepth 20000 in
theorem ggX7_pass_X7_passNow : GoodIn wsX7_pass wsX7_passNow := goodIn_r _ [27, 28, 29, 30, 4, 31, 6, 32, 33, 34, 35, 36, 37, 38, 39, 40, 41, 42, 43, 44, 45, 46, 47, 48, 49, 50, 51, 52, 53, 54, 55, 8, 9, 10, 56, 57, 58, 59, 60, 61, 62, 63, 64, 65, 66, 67, 68, 69, 70, 71, 72] (by decide +kernel) (by decide +kernel)
set_option maxRecDepth 20000 in
theorem gX7_pass_X7_passNow : GoodIn wsX7_pass (wsV RX7 113 RX7 yX7_passNow wsX7_passNow) := goodIn_app (goodIn_of _ (by decide +kernel)) ggX7_pass_X7_passNow
theorem dX7_pass_0 : decode cX7_pass 0 = .ok (.aload_n 0, 1) := by decide +kernel
theorem dX7_pass_1 : decode cX7_pass 1 = .ok (.iload_n 1, 1) := by decide +kernel
theorem dX7_pass_2 : decode cX7_pass 2 = .ok (.invokevirtual 109, 3) := by decide +kernel
theorem dX7_pass_5 : decode cX7_pass 5 = .ok (.istore_n 2, 1) := by decide +kernel
theorem dX7_pass_6 : decode cX7_pass 6 = .ok (.iload_n 2, 1) := by decide +kernel
theorem dX7_pass_7 : decode cX7_pass 7 = .ok (.ifCond .ge 5, 3) := by decide +kernel
theorem dX7_pass_10 : decode cX7_pass 10 = .ok (.iload_n 2, 1) := by decide +kernel
theorem dX7_pass_11 : decode cX7_pass 11 = .ok (.ireturn, 1) := by decide +kernel
theorem dX7_pass_12 : decode cX7_pass 12 = .ok (.aload_n 0, 1) := by decide +kernel
theorem dX7_pass_13 : decode cX7_pass 13 = .ok (.invokevirtual 52, 3) := by decide +kernel
theorem dX7_pass_16 : decode cX7_pass 16 = .ok (.aload_n 0, 1) := by decide +kernel
theorem dX7_pass_17 : decode cX7_pass 17 = .ok (.iload_n 1, 1) := by decide +kernel
theorem dX7_pass_18 : decode cX7_pass 18 = .ok (.invokevirtual 113, 3) := by decide +kernel
theorem dX7_pass_21 : decode cX7_pass 21 = .ok (.ireturn, 1) := by decide +kernel
theorem dX7_type_0 : decode cX7_type 0 = .ok (.aload_n 0, 1) := by decide +kernel
theorem dX7_type_1 : decode cX7_type 1 = .ok (.getfield 116, 3) := by decide +kernel
theorem dX7_type_4 : decode cX7_type 4 = .ok (.bipush 60, 2) := by decide +kernel
theorem dX7_type_6 : decode cX7_type 6 = .ok (.if_icmp .ne 7, 3) := by decide +kernel
theorem dX7_type_9 : decode cX7_type 9 = .ok (.sipush (-1003), 3) := by decide +kernel
theorem dX7_type_12 : decode cX7_type 12 = .ok (.ireturn, 1) := by decide +kernel
theorem dX7_type_13 : decode cX7_type 13 = .ok (.aload_n 0, 1) := by decide +kernel
theorem dX7_type_14 : decode cX7_type 14 = .ok (.getfield 22, 3) := by decide +kernel
theorem dX7_type_17 : decode cX7_type 17 = .ok (.aload_n 0, 1) := by decide +kernel
theorem dX7_type_18 : decode cX7_type 18 = .ok (.getfield 116, 3) := by decide +kernel
theorem dX7_type_21 : decode cX7_type 21 = .ok (.iload_n 1, 1) := by decide +kernel
theorem dX7_type_22 : decode cX7_type 22 = .ok (.iastore, 1) := by decide +kernel
theorem dX7_type_23 : decode cX7_type 23 = .ok (.aload_n 0, 1) := by decide +kernel
theorem dX7_type_24 : decode cX7_type 24 = .ok (.dup, 1) := by decide +kernel
theorem dX7_type_25 : decode cX7_type 25 = .ok (.getfield 116, 3) := by decide +kernel
theorem dX7_type_28 : decode cX7_type 28 = .ok (.iconst 1, 1) := by decide +kernel
theorem dX7_type_29 : decode cX7_type 29 = .ok (.iadd, 1) := by decide +kernel
theorem dX7_type_30 : decode cX7_type 30 = .ok (.putfield 116, 3) := by decide +kernel
theorem dX7_type_33 : decode cX7_type 33 = .ok (.aload_n 0, 1) := by decide +kernel
theorem dX7_type_34 : decode cX7_type 34 = .ok (.getfield 116, 3) := by decide +kernel
theorem dX7_type_37 : decode cX7_type 37 = .ok (.ireturn, 1) := by decide +kernel
theorem dX7_clearText_0 : decode cX7_clearText 0 = .ok (.aload_n 0, 1) := by decide +kernel
theorem dX7_clearText_1 : decode cX7_clearText 1 = .ok (.getfield 116, 3) := by decide +kernel
theorem dX7_clearText_4 : decode cX7_clearText 4 = .ok (.istore_n 1, 1) := by decide +kernel
theorem dX7_clearText_5 : decode cX7_clearText 5 = .ok (.aload_n 0, 1) := by decide +kernel
theorem dX7_clearText_6 : decode cX7_clearText 6 = .ok (.iconst 0, 1) := by decide +kernel
theorem dX7_clearText_7 : decode cX7_clearText 7 = .ok (.putfield 116, 3) := by decide +kernel
theorem dX7_clearText_10 : decode cX7_clearText 10 = .ok (.iload_n 1, 1) := by decide +kernel
theorem dX7_clearText_11 : decode cX7_clearText 11 = .ok (.ireturn, 1) := by decide +kernel
set_option maxRecDepth 20000 in
theorem ggX7_sees_X7_in : GoodIn wsX7_sees wsX7_in := goodIn_r _ [7] (by decide +kernel) (by decide +kernel)
set_option maxRecDepth 20000 in
theorem gX7_sees_X7_in : GoodIn wsX7_sees (va_wsS RX7 28 yX7_in wsX7_in) := goodIn_app (goodIn_of _ (by decide +kernel)) ggX7_sees_X7_in
theorem dX7_sees_0 : decode cX7_sees 0 = .ok (.aload_n 0, 1) := by decide +kernel
theorem dX7_sees_1 : decode cX7_sees 1 = .ok (.getfield 119, 3) := by decide +kernel
theorem dX7_sees_4 : decode cX7_sees 4 = .ok (.aload_n 0, 1) := by decide +kernel
theorem dX7_sees_5 : decode cX7_sees 5 = .ok (.getfield 116, 3) := by decide +kernel
theorem dX7_sees_8 : decode cX7_sees 8 = .ok (.if_icmp .ge 24, 3) := by decide +kernel
theorem dX7_sees_11 : decode cX7_sees 11 = .ok (.aload_n 0, 1) := by decide +kernel
theorem dX7_sees_12 : decode cX7_sees 12 = .ok (.getfield 22, 3) := by decide +kernel
theorem dX7_sees_15 : decode cX7_sees 15 = .ok (.aload_n 0, 1) := by decide +kernel
theorem dX7_sees_16 : decode cX7_sees 16 = .ok (.getfield 119, 3) := by decide +kernel
theorem dX7_sees_19 : decode cX7_sees 19 = .ok (.iaload, 1) := by decide +kernel
theorem dX7_sees_20 : decode cX7_sees 20 = .ok (.iload_n 1, 1) := by decide +kernel
theorem dX7_sees_21 : decode cX7_sees 21 = .ok (.iload_n 2, 1) := by decide +kernel
theorem dX7_sees_22 : decode cX7_sees 22 = .ok (.invokestatic 28, 3) := by decide +kernel
theorem dX7_sees_25 : decode cX7_sees 25 = .ok (.ifCond .eq 7, 3) := by decide +kernel
theorem dX7_sees_28 : decode cX7_sees 28 = .ok (.iconst 1, 1) := by decide +kernel
theorem dX7_sees_29 : decode cX7_sees 29 = .ok (.goto 4, 3) := by decide +kernel
theorem dX7_sees_32 : decode cX7_sees 32 = .ok (.iconst 0, 1) := by decide +kernel
theorem dX7_sees_33 : decode cX7_sees 33 = .ok (.ireturn, 1) := by decide +kernel
set_option maxRecDepth 20000 in
theorem ggX7_takes_X7_sees : GoodIn wsX7_takes wsX7_sees := goodIn_r _ [6, 1, 7, 8, 9, 10, 5, 11, 12, 13, 14, 15, 16, 17, 18, 19, 20, 21, 22, 23, 24] (by decide +kernel) (by decide +kernel)
set_option maxRecDepth 20000 in
theorem gX7_takes_X7_sees : GoodIn wsX7_takes (wsV RX7 122 RX7 yX7_sees wsX7_sees) := goodIn_app (goodIn_of _ (by decide +kernel)) ggX7_takes_X7_sees
theorem dX7_takes_0 : decode cX7_takes 0 = .ok (.aload_n 0, 1) := by decide +kernel
theorem dX7_takes_1 : decode cX7_takes 1 = .ok (.iload_n 1, 1) := by decide +kernel
theorem dX7_takes_2 : decode cX7_takes 2 = .ok (.iload_n 1, 1) := by decide +kernel
theorem dX7_takes_3 : decode cX7_takes 3 = .ok (.invokevirtual 122, 3) := by decide +kernel
theorem dX7_takes_6 : decode cX7_takes 6 = .ok (.istore_n 2, 1) := by decide +kernel
theorem dX7_takes_7 : decode cX7_takes 7 = .ok (.aload_n 0, 1) := by decide +kernel
theorem dX7_takes_8 : decode cX7_takes 8 = .ok (.dup, 1) := by decide +kernel
theorem dX7_takes_9 : decode cX7_takes 9 = .ok (.getfield 119, 3) := by decide +kernel
theorem dX7_takes_12 : decode cX7_takes 12 = .ok (.iload_n 2, 1) := by decide +kernel
theorem dX7_takes_13 : decode cX7_takes 13 = .ok (.ifCond .eq 7, 3) := by decide +kernel
theorem dX7_takes_16 : decode cX7_takes 16 = .ok (.iconst 1, 1) := by decide +kernel
theorem dX7_takes_17 : decode cX7_takes 17 = .ok (.goto 4, 3) := by decide +kernel
theorem dX7_takes_20 : decode cX7_takes 20 = .ok (.iconst 0, 1) := by decide +kernel
theorem dX7_takes_21 : decode cX7_takes 21 = .ok (.iadd, 1) := by decide +kernel
theorem dX7_takes_22 : decode cX7_takes 22 = .ok (.putfield 119, 3) := by decide +kernel
theorem dX7_takes_25 : decode cX7_takes 25 = .ok (.iload_n 2, 1) := by decide +kernel
theorem dX7_takes_26 : decode cX7_takes 26 = .ok (.ireturn, 1) := by decide +kernel
set_option maxRecDepth 20000 in
theorem ggX7_number_X7_sees : GoodIn wsX7_number wsX7_sees := goodIn_r _ [9, 2, 10, 1, 11, 12, 8, 13, 14, 15, 16, 17, 18, 19, 20, 21, 22, 23, 24, 25, 26] (by decide +kernel) (by decide +kernel)
set_option maxRecDepth 20000 in
theorem gX7_number_X7_sees : GoodIn wsX7_number (wsV RX7 122 RX7 yX7_sees wsX7_sees) := goodIn_app (goodIn_of _ (by decide +kernel)) ggX7_number_X7_sees
theorem dX7_number_0 : decode cX7_number 0 = .ok (.iload_n 2, 1) := by decide +kernel
theorem dX7_number_1 : decode cX7_number 1 = .ok (.bipush 9, 2) := by decide +kernel
theorem dX7_number_3 : decode cX7_number 3 = .ok (.if_icmp .le 8, 3) := by decide +kernel
theorem dX7_number_6 : decode cX7_number 6 = .ok (.bipush 9, 2) := by decide +kernel
theorem dX7_number_8 : decode cX7_number 8 = .ok (.goto 4, 3) := by decide +kernel
theorem dX7_number_11 : decode cX7_number 11 = .ok (.iload_n 2, 1) := by decide +kernel
theorem dX7_number_12 : decode cX7_number 12 = .ok (.istore 4, 2) := by decide +kernel
theorem dX7_number_14 : decode cX7_number 14 = .ok (.iload_n 3, 1) := by decide +kernel
theorem dX7_number_15 : decode cX7_number 15 = .ok (.bipush 9, 2) := by decide +kernel
theorem dX7_number_17 : decode cX7_number 17 = .ok (.if_icmp .le 8, 3) := by decide +kernel
theorem dX7_number_20 : decode cX7_number 20 = .ok (.bipush 9, 2) := by decide +kernel
theorem dX7_number_22 : decode cX7_number 22 = .ok (.goto 4, 3) := by decide +kernel
theorem dX7_number_25 : decode cX7_number 25 = .ok (.iload_n 3, 1) := by decide +kernel
theorem dX7_number_26 : decode cX7_number 26 = .ok (.istore 5, 2) := by decide +kernel
theorem dX7_number_28 : decode cX7_number 28 = .ok (.aload_n 0, 1) := by decide +kernel
theorem dX7_number_29 : decode cX7_number 29 = .ok (.bipush 48, 2) := by decide +kernel
theorem dX7_number_31 : decode cX7_number 31 = .ok (.iload 4, 2) := by decide +kernel
theorem dX7_number_33 : decode cX7_number 33 = .ok (.iadd, 1) := by decide +kernel
theorem dX7_number_34 : decode cX7_number 34 = .ok (.bipush 48, 2) := by decide +kernel
theorem dX7_number_36 : decode cX7_number 36 = .ok (.iload 5, 2) := by decide +kernel
theorem dX7_number_38 : decode cX7_number 38 = .ok (.iadd, 1) := by decide +kernel
theorem dX7_number_39 : decode cX7_number 39 = .ok (.invokevirtual 122, 3) := by decide +kernel
theorem dX7_number_42 : decode cX7_number 42 = .ok (.ifCond .ne 5, 3) := by decide +kernel
theorem dX7_number_45 : decode cX7_number 45 = .ok (.iconst 0, 1) := by decide +kernel
theorem dX7_number_46 : decode cX7_number 46 = .ok (.ireturn, 1) := by decide +kernel
theorem dX7_number_47 : decode cX7_number 47 = .ok (.aload_n 0, 1) := by decide +kernel
theorem dX7_number_48 : decode cX7_number 48 = .ok (.getfield 22, 3) := by decide +kernel
theorem dX7_number_51 : decode cX7_number 51 = .ok (.aload_n 0, 1) := by decide +kernel
theorem dX7_number_52 : decode cX7_number 52 = .ok (.getfield 119, 3) := by decide +kernel
theorem dX7_number_55 : decode cX7_number 55 = .ok (.iaload, 1) := by decide +kernel
theorem dX7_number_56 : decode cX7_number 56 = .ok (.bipush 48, 2) := by decide +kernel
theorem dX7_number_58 : decode cX7_number 58 = .ok (.isub, 1) := by decide +kernel
theorem dX7_number_59 : decode cX7_number 59 = .ok (.istore 6, 2) := by decide +kernel
theorem dX7_number_61 : decode cX7_number 61 = .ok (.aload_n 0, 1) := by decide +kernel
theorem dX7_number_62 : decode cX7_number 62 = .ok (.dup, 1) := by decide +kernel
theorem dX7_number_63 : decode cX7_number 63 = .ok (.getfield 119, 3) := by decide +kernel
theorem dX7_number_66 : decode cX7_number 66 = .ok (.iconst 1, 1) := by decide +kernel
theorem dX7_number_67 : decode cX7_number 67 = .ok (.iadd, 1) := by decide +kernel
theorem dX7_number_68 : decode cX7_number 68 = .ok (.putfield 119, 3) := by decide +kernel
theorem dX7_number_71 : decode cX7_number 71 = .ok (.iload 6, 2) := by decide +kernel
theorem dX7_number_73 : decode cX7_number 73 = .ok (.ifCond .le 69, 3) := by decide +kernel
theorem dX7_number_76 : decode cX7_number 76 = .ok (.aload_n 0, 1) := by decide +kernel
theorem dX7_number_77 : decode cX7_number 77 = .ok (.bipush 48, 2) := by decide +kernel
theorem dX7_number_79 : decode cX7_number 79 = .ok (.bipush 57, 2) := by decide +kernel
theorem dX7_number_81 : decode cX7_number 81 = .ok (.invokevirtual 122, 3) := by decide +kernel
theorem dX7_number_84 : decode cX7_number 84 = .ok (.ifCond .eq 58, 3) := by decide +kernel
theorem dX7_number_87 : decode cX7_number 87 = .ok (.bipush 10, 2) := by decide +kernel
theorem dX7_number_89 : decode cX7_number 89 = .ok (.iload 6, 2) := by decide +kernel
theorem dX7_number_91 : decode cX7_number 91 = .ok (.imul, 1) := by decide +kernel
theorem dX7_number_92 : decode cX7_number 92 = .ok (.aload_n 0, 1) := by decide +kernel
theorem dX7_number_93 : decode cX7_number 93 = .ok (.getfield 22, 3) := by decide +kernel
theorem dX7_number_96 : decode cX7_number 96 = .ok (.aload_n 0, 1) := by decide +kernel
theorem dX7_number_97 : decode cX7_number 97 = .ok (.getfield 119, 3) := by decide +kernel
theorem dX7_number_100 : decode cX7_number 100 = .ok (.iaload, 1) := by decide +kernel
theorem dX7_number_101 : decode cX7_number 101 = .ok (.iadd, 1) := by decide +kernel
theorem dX7_number_102 : decode cX7_number 102 = .ok (.bipush 48, 2) := by decide +kernel
theorem dX7_number_104 : decode cX7_number 104 = .ok (.isub, 1) := by decide +kernel
theorem dX7_number_105 : decode cX7_number 105 = .ok (.iload_n 3, 1) := by decide +kernel
theorem dX7_number_106 : decode cX7_number 106 = .ok (.if_icmp .gt 36, 3) := by decide +kernel
theorem dX7_number_109 : decode cX7_number 109 = .ok (.bipush 10, 2) := by decide +kernel
theorem dX7_number_111 : decode cX7_number 111 = .ok (.iload 6, 2) := by decide +kernel
theorem dX7_number_113 : decode cX7_number 113 = .ok (.imul, 1) := by decide +kernel
theorem dX7_number_114 : decode cX7_number 114 = .ok (.aload_n 0, 1) := by decide +kernel
theorem dX7_number_115 : decode cX7_number 115 = .ok (.getfield 22, 3) := by decide +kernel
theorem dX7_number_118 : decode cX7_number 118 = .ok (.aload_n 0, 1) := by decide +kernel
theorem dX7_number_119 : decode cX7_number 119 = .ok (.getfield 119, 3) := by decide +kernel
theorem dX7_number_122 : decode cX7_number 122 = .ok (.iaload, 1) := by decide +kernel
theorem dX7_number_123 : decode cX7_number 123 = .ok (.iadd, 1) := by decide +kernel
theorem dX7_number_124 : decode cX7_number 124 = .ok (.bipush 48, 2) := by decide +kernel
theorem dX7_number_126 : decode cX7_number 126 = .ok (.isub, 1) := by decide +kernel
theorem dX7_number_127 : decode cX7_number 127 = .ok (.istore 6, 2) := by decide +kernel
theorem dX7_number_129 : decode cX7_number 129 = .ok (.aload_n 0, 1) := by decide +kernel
theorem dX7_number_130 : decode cX7_number 130 = .ok (.dup, 1) := by decide +kernel
theorem dX7_number_131 : decode cX7_number 131 = .ok (.getfield 119, 3) := by decide +kernel
theorem dX7_number_134 : decode cX7_number 134 = .ok (.iconst 1, 1) := by decide +kernel
theorem dX7_number_135 : decode cX7_number 135 = .ok (.iadd, 1) := by decide +kernel
theorem dX7_number_136 : decode cX7_number 136 = .ok (.putfield 119, 3) := by decide +kernel
theorem dX7_number_139 : decode cX7_number 139 = .ok (.goto (-68), 3) := by decide +kernel
theorem dX7_number_142 : decode cX7_number 142 = .ok (.aload_n 0, 1) := by decide +kernel
theorem dX7_number_143 : decode cX7_number 143 = .ok (.getfield 25, 3) := by decide +kernel
theorem dX7_number_146 : decode cX7_number 146 = .ok (.iconst 4, 1) := by decide +kernel
theorem dX7_number_147 : decode cX7_number 147 = .ok (.aload_n 0, 1) := by decide +kernel
theorem dX7_number_148 : decode cX7_number 148 = .ok (.getfield 126, 3) := by decide +kernel
theorem dX7_number_151 : decode cX7_number 151 = .ok (.imul, 1) := by decide +kernel
theorem dX7_number_152 : decode cX7_number 152 = .ok (.iload_n 1, 1) := by decide +kernel
theorem dX7_number_153 : decode cX7_number 153 = .ok (.iadd, 1) := by decide +kernel
theorem dX7_number_154 : decode cX7_number 154 = .ok (.iload 6, 2) := by decide +kernel
theorem dX7_number_156 : decode cX7_number 156 = .ok (.iastore, 1) := by decide +kernel
theorem dX7_number_157 : decode cX7_number 157 = .ok (.iconst 1, 1) := by decide +kernel
theorem dX7_number_158 : decode cX7_number 158 = .ok (.ireturn, 1) := by decide +kernel
set_option maxRecDepth 20000 in
theorem ggX7_readSteps_X7_number : GoodIn wsX7_readSteps wsX7_number := goodIn_r _ [7, 8, 9, 1, 2, 10, 11, 12, 6, 13, 14, 15, 16, 17, 22, 23, 24, 25, 26, 27, 28, 29, 30, 31, 32, 33, 34] (by decide +kernel) (by decide +kernel)
set_option maxRecDepth 20000 in
theorem gX7_readSteps_X7_number : GoodIn wsX7_readSteps (wsV RX7 129 RX7 yX7_number wsX7_number) := goodIn_app (goodIn_of _ (by decide +kernel)) ggX7_readSteps_X7_number
set_option maxRecDepth 20000 in
theorem ggX7_readSteps_X7_takes : GoodIn wsX7_readSteps wsX7_takes := goodIn_r _ [21, 9, 10, 11, 12, 6, 13, 14, 8, 15, 16, 17, 22, 23, 24, 25, 26, 27, 28, 29, 30, 31, 32, 33, 34] (by decide +kernel) (by decide +kernel)
set_option maxRecDepth 20000 in
theorem gX7_readSteps_X7_takes : GoodIn wsX7_readSteps (wsV RX7 132 RX7 yX7_takes wsX7_takes) := goodIn_app (goodIn_of _ (by decide +kernel)) ggX7_readSteps_X7_takes
theorem dX7_readSteps_0 : decode cX7_readSteps 0 = .ok (.aload_n 0, 1) := by decide +kernel
theorem dX7_readSteps_1 : decode cX7_readSteps 1 = .ok (.iconst 1, 1) := by decide +kernel
theorem dX7_readSteps_2 : decode cX7_readSteps 2 = .ok (.iconst 0, 1) := by decide +kernel
theorem dX7_readSteps_3 : decode cX7_readSteps 3 = .ok (.iconst 2, 1) := by decide +kernel
theorem dX7_readSteps_4 : decode cX7_readSteps 4 = .ok (.invokevirtual 129, 3) := by decide +kernel
theorem dX7_readSteps_7 : decode cX7_readSteps 7 = .ok (.ifCond .eq 27, 3) := by decide +kernel
theorem dX7_readSteps_10 : decode cX7_readSteps 10 = .ok (.aload_n 0, 1) := by decide +kernel
theorem dX7_readSteps_11 : decode cX7_readSteps 11 = .ok (.bipush 58, 2) := by decide +kernel
theorem dX7_readSteps_13 : decode cX7_readSteps 13 = .ok (.invokevirtual 132, 3) := by decide +kernel
theorem dX7_readSteps_16 : decode cX7_readSteps 16 = .ok (.ifCond .eq 18, 3) := by decide +kernel
theorem dX7_readSteps_19 : decode cX7_readSteps 19 = .ok (.aload_n 0, 1) := by decide +kernel
theorem dX7_readSteps_20 : decode cX7_readSteps 20 = .ok (.iconst 2, 1) := by decide +kernel
theorem dX7_readSteps_21 : decode cX7_readSteps 21 = .ok (.iconst 0, 1) := by decide +kernel
theorem dX7_readSteps_22 : decode cX7_readSteps 22 = .ok (.bipush 99, 2) := by decide +kernel
theorem dX7_readSteps_24 : decode cX7_readSteps 24 = .ok (.invokevirtual 129, 3) := by decide +kernel
theorem dX7_readSteps_27 : decode cX7_readSteps 27 = .ok (.ifCond .eq 7, 3) := by decide +kernel
theorem dX7_readSteps_30 : decode cX7_readSteps 30 = .ok (.iconst 1, 1) := by decide +kernel
theorem dX7_readSteps_31 : decode cX7_readSteps 31 = .ok (.goto 4, 3) := by decide +kernel
theorem dX7_readSteps_34 : decode cX7_readSteps 34 = .ok (.iconst 0, 1) := by decide +kernel
theorem dX7_readSteps_35 : decode cX7_readSteps 35 = .ok (.istore_n 1, 1) := by decide +kernel
theorem dX7_readSteps_36 : decode cX7_readSteps 36 = .ok (.iload_n 1, 1) := by decide +kernel
theorem dX7_readSteps_37 : decode cX7_readSteps 37 = .ok (.ifCond .eq 16, 3) := by decide +kernel
theorem dX7_readSteps_40 : decode cX7_readSteps 40 = .ok (.aload_n 0, 1) := by decide +kernel
theorem dX7_readSteps_41 : decode cX7_readSteps 41 = .ok (.bipush 43, 2) := by decide +kernel
theorem dX7_readSteps_43 : decode cX7_readSteps 43 = .ok (.invokevirtual 132, 3) := by decide +kernel
theorem dX7_readSteps_46 : decode cX7_readSteps 46 = .ok (.ifCond .eq 7, 3) := by decide +kernel
theorem dX7_readSteps_49 : decode cX7_readSteps 49 = .ok (.iconst 1, 1) := by decide +kernel
theorem dX7_readSteps_50 : decode cX7_readSteps 50 = .ok (.goto 4, 3) := by decide +kernel
theorem dX7_readSteps_53 : decode cX7_readSteps 53 = .ok (.iconst 0, 1) := by decide +kernel
theorem dX7_readSteps_54 : decode cX7_readSteps 54 = .ok (.istore_n 2, 1) := by decide +kernel
theorem dX7_readSteps_55 : decode cX7_readSteps 55 = .ok (.iload_n 1, 1) := by decide +kernel
theorem dX7_readSteps_56 : decode cX7_readSteps 56 = .ok (.ifCond .eq 27, 3) := by decide +kernel
theorem dX7_readSteps_59 : decode cX7_readSteps 59 = .ok (.iload_n 2, 1) := by decide +kernel
theorem dX7_readSteps_60 : decode cX7_readSteps 60 = .ok (.ifCond .ne 12, 3) := by decide +kernel
theorem dX7_readSteps_63 : decode cX7_readSteps 63 = .ok (.aload_n 0, 1) := by decide +kernel
theorem dX7_readSteps_64 : decode cX7_readSteps 64 = .ok (.bipush 45, 2) := by decide +kernel
theorem dX7_readSteps_66 : decode cX7_readSteps 66 = .ok (.invokevirtual 132, 3) := by decide +kernel
theorem dX7_readSteps_69 : decode cX7_readSteps 69 = .ok (.ifCond .eq 14, 3) := by decide +kernel
theorem dX7_readSteps_72 : decode cX7_readSteps 72 = .ok (.aload_n 0, 1) := by decide +kernel
theorem dX7_readSteps_73 : decode cX7_readSteps 73 = .ok (.iconst 3, 1) := by decide +kernel
theorem dX7_readSteps_74 : decode cX7_readSteps 74 = .ok (.iconst 0, 1) := by decide +kernel
theorem dX7_readSteps_75 : decode cX7_readSteps 75 = .ok (.bipush 50, 2) := by decide +kernel
theorem dX7_readSteps_77 : decode cX7_readSteps 77 = .ok (.invokevirtual 129, 3) := by decide +kernel
theorem dX7_readSteps_80 : decode cX7_readSteps 80 = .ok (.ifCond .ne 5, 3) := by decide +kernel
theorem dX7_readSteps_83 : decode cX7_readSteps 83 = .ok (.iconst 0, 1) := by decide +kernel
theorem dX7_readSteps_84 : decode cX7_readSteps 84 = .ok (.ireturn, 1) := by decide +kernel
theorem dX7_readSteps_85 : decode cX7_readSteps 85 = .ok (.aload_n 0, 1) := by decide +kernel
theorem dX7_readSteps_86 : decode cX7_readSteps 86 = .ok (.getfield 25, 3) := by decide +kernel
theorem dX7_readSteps_89 : decode cX7_readSteps 89 = .ok (.iconst 4, 1) := by decide +kernel
theorem dX7_readSteps_90 : decode cX7_readSteps 90 = .ok (.aload_n 0, 1) := by decide +kernel
theorem dX7_readSteps_91 : decode cX7_readSteps 91 = .ok (.getfield 126, 3) := by decide +kernel
theorem dX7_readSteps_94 : decode cX7_readSteps 94 = .ok (.imul, 1) := by decide +kernel
theorem dX7_readSteps_95 : decode cX7_readSteps 95 = .ok (.iconst 3, 1) := by decide +kernel
theorem dX7_readSteps_96 : decode cX7_readSteps 96 = .ok (.iadd, 1) := by decide +kernel
theorem dX7_readSteps_97 : decode cX7_readSteps 97 = .ok (.dup2, 1) := by decide +kernel
theorem dX7_readSteps_98 : decode cX7_readSteps 98 = .ok (.iaload, 1) := by decide +kernel
theorem dX7_readSteps_99 : decode cX7_readSteps 99 = .ok (.iload_n 2, 1) := by decide +kernel
theorem dX7_readSteps_100 : decode cX7_readSteps 100 = .ok (.ifCond .eq 7, 3) := by decide +kernel
theorem dX7_readSteps_103 : decode cX7_readSteps 103 = .ok (.iconst 1, 1) := by decide +kernel
theorem dX7_readSteps_104 : decode cX7_readSteps 104 = .ok (.goto 4, 3) := by decide +kernel
theorem dX7_readSteps_107 : decode cX7_readSteps 107 = .ok (.iconst (-1), 1) := by decide +kernel
theorem dX7_readSteps_108 : decode cX7_readSteps 108 = .ok (.imul, 1) := by decide +kernel
theorem dX7_readSteps_109 : decode cX7_readSteps 109 = .ok (.iastore, 1) := by decide +kernel
theorem dX7_readSteps_110 : decode cX7_readSteps 110 = .ok (.iconst 1, 1) := by decide +kernel
theorem dX7_readSteps_111 : decode cX7_readSteps 111 = .ok (.ireturn, 1) := by decide +kernel
set_option maxRecDepth 20000 in
theorem ggX7_readThing_X7_number : GoodIn wsX7_readThing wsX7_number := goodIn_r _ [10, 3, 1, 4, 5, 11, 12, 13, 9, 14, 2, 15, 16, 17, 26, 27, 28, 29, 30, 31, 32, 33, 34, 35, 36, 37, 38] (by decide +kernel) (by decide +kernel)
set_option maxRecDepth 20000 in
theorem gX7_readThing_X7_number : GoodIn wsX7_readThing (wsV RX7 129 RX7 yX7_number wsX7_number) := goodIn_app (goodIn_of _ (by decide +kernel)) ggX7_readThing_X7_number
set_option maxRecDepth 20000 in
theorem ggX7_readThing_X7_takes : GoodIn wsX7_readThing wsX7_takes := goodIn_r _ [21, 1, 11, 12, 13, 9, 14, 2, 3, 15, 16, 17, 26, 27, 28, 29, 30, 31, 32, 33, 34, 35, 36, 37, 38] (by decide +kernel) (by decide +kernel)
set_option maxRecDepth 20000 in
theorem gX7_readThing_X7_takes : GoodIn wsX7_readThing (wsV RX7 132 RX7 yX7_takes wsX7_takes) := goodIn_app (goodIn_of _ (by decide +kernel)) ggX7_readThing_X7_takes
set_option maxRecDepth 20000 in
theorem ggX7_readThing_X7_readSteps : GoodIn wsX7_readThing wsX7_readSteps := goodIn_r _ [25, 4, 5, 6, 7, 8, 9, 10, 3, 1, 11, 12, 13, 14, 2, 15, 16, 17, 18, 19, 20, 21, 26, 27, 28, 29, 30, 31, 32, 33, 34, 35, 36, 37, 38] (by decide +kernel) (by decide +kernel)
set_option maxRecDepth 20000 in
theorem gX7_readThing_X7_readSteps : GoodIn wsX7_readThing (wsV RX7 135 RX7 yX7_readSteps wsX7_readSteps) := goodIn_app (goodIn_of _ (by decide +kernel)) ggX7_readThing_X7_readSteps
theorem dX7_readThing_0 : decode cX7_readThing 0 = .ok (.aload_n 0, 1) := by decide +kernel
theorem dX7_readThing_1 : decode cX7_readThing 1 = .ok (.getfield 119, 3) := by decide +kernel
theorem dX7_readThing_4 : decode cX7_readThing 4 = .ok (.aload_n 0, 1) := by decide +kernel
theorem dX7_readThing_5 : decode cX7_readThing 5 = .ok (.getfield 116, 3) := by decide +kernel
theorem dX7_readThing_8 : decode cX7_readThing 8 = .ok (.if_icmp .ge 15, 3) := by decide +kernel
theorem dX7_readThing_11 : decode cX7_readThing 11 = .ok (.aload_n 0, 1) := by decide +kernel
theorem dX7_readThing_12 : decode cX7_readThing 12 = .ok (.getfield 22, 3) := by decide +kernel
theorem dX7_readThing_15 : decode cX7_readThing 15 = .ok (.aload_n 0, 1) := by decide +kernel
theorem dX7_readThing_16 : decode cX7_readThing 16 = .ok (.getfield 119, 3) := by decide +kernel
theorem dX7_readThing_19 : decode cX7_readThing 19 = .ok (.iaload, 1) := by decide +kernel
theorem dX7_readThing_20 : decode cX7_readThing 20 = .ok (.goto 4, 3) := by decide +kernel
theorem dX7_readThing_23 : decode cX7_readThing 23 = .ok (.iconst 0, 1) := by decide +kernel
theorem dX7_readThing_24 : decode cX7_readThing 24 = .ok (.istore_n 1, 1) := by decide +kernel
theorem dX7_readThing_25 : decode cX7_readThing 25 = .ok (.iload_n 1, 1) := by decide +kernel
theorem dX7_readThing_26 : decode cX7_readThing 26 = .ok (.bipush 112, 2) := by decide +kernel
theorem dX7_readThing_28 : decode cX7_readThing 28 = .ok (.if_icmp .eq 29, 3) := by decide +kernel
theorem dX7_readThing_31 : decode cX7_readThing 31 = .ok (.iload_n 1, 1) := by decide +kernel
theorem dX7_readThing_32 : decode cX7_readThing 32 = .ok (.bipush 116, 2) := by decide +kernel
theorem dX7_readThing_34 : decode cX7_readThing 34 = .ok (.if_icmp .eq 23, 3) := by decide +kernel
theorem dX7_readThing_37 : decode cX7_readThing 37 = .ok (.iload_n 1, 1) := by decide +kernel
theorem dX7_readThing_38 : decode cX7_readThing 38 = .ok (.bipush 118, 2) := by decide +kernel
theorem dX7_readThing_40 : decode cX7_readThing 40 = .ok (.if_icmp .eq 17, 3) := by decide +kernel
theorem dX7_readThing_43 : decode cX7_readThing 43 = .ok (.iload_n 1, 1) := by decide +kernel
theorem dX7_readThing_44 : decode cX7_readThing 44 = .ok (.bipush 115, 2) := by decide +kernel
theorem dX7_readThing_46 : decode cX7_readThing 46 = .ok (.if_icmp .eq 11, 3) := by decide +kernel
theorem dX7_readThing_49 : decode cX7_readThing 49 = .ok (.iload_n 1, 1) := by decide +kernel
theorem dX7_readThing_50 : decode cX7_readThing 50 = .ok (.bipush 46, 2) := by decide +kernel
theorem dX7_readThing_52 : decode cX7_readThing 52 = .ok (.if_icmp .eq 5, 3) := by decide +kernel
theorem dX7_readThing_55 : decode cX7_readThing 55 = .ok (.iconst 0, 1) := by decide +kernel
theorem dX7_readThing_56 : decode cX7_readThing 56 = .ok (.ireturn, 1) := by decide +kernel
theorem dX7_readThing_57 : decode cX7_readThing 57 = .ok (.aload_n 0, 1) := by decide +kernel
theorem dX7_readThing_58 : decode cX7_readThing 58 = .ok (.dup, 1) := by decide +kernel
theorem dX7_readThing_59 : decode cX7_readThing 59 = .ok (.getfield 119, 3) := by decide +kernel
theorem dX7_readThing_62 : decode cX7_readThing 62 = .ok (.iconst 1, 1) := by decide +kernel
theorem dX7_readThing_63 : decode cX7_readThing 63 = .ok (.iadd, 1) := by decide +kernel
theorem dX7_readThing_64 : decode cX7_readThing 64 = .ok (.putfield 119, 3) := by decide +kernel
theorem dX7_readThing_67 : decode cX7_readThing 67 = .ok (.aload_n 0, 1) := by decide +kernel
theorem dX7_readThing_68 : decode cX7_readThing 68 = .ok (.getfield 25, 3) := by decide +kernel
theorem dX7_readThing_71 : decode cX7_readThing 71 = .ok (.iconst 4, 1) := by decide +kernel
theorem dX7_readThing_72 : decode cX7_readThing 72 = .ok (.aload_n 0, 1) := by decide +kernel
theorem dX7_readThing_73 : decode cX7_readThing 73 = .ok (.getfield 126, 3) := by decide +kernel
theorem dX7_readThing_76 : decode cX7_readThing 76 = .ok (.imul, 1) := by decide +kernel
theorem dX7_readThing_77 : decode cX7_readThing 77 = .ok (.iload_n 1, 1) := by decide +kernel
theorem dX7_readThing_78 : decode cX7_readThing 78 = .ok (.iastore, 1) := by decide +kernel
theorem dX7_readThing_79 : decode cX7_readThing 79 = .ok (.iload_n 1, 1) := by decide +kernel
theorem dX7_readThing_80 : decode cX7_readThing 80 = .ok (.tableswitch 171 112 118 #[44, 171, 171, 163, 93, 171, 123], 44) := by decide +kernel
theorem dX7_readThing_124 : decode cX7_readThing 124 = .ok (.aload_n 0, 1) := by decide +kernel
theorem dX7_readThing_125 : decode cX7_readThing 125 = .ok (.iconst 1, 1) := by decide +kernel
theorem dX7_readThing_126 : decode cX7_readThing 126 = .ok (.iconst 0, 1) := by decide +kernel
theorem dX7_readThing_127 : decode cX7_readThing 127 = .ok (.iconst 2, 1) := by decide +kernel
theorem dX7_readThing_128 : decode cX7_readThing 128 = .ok (.invokevirtual 129, 3) := by decide +kernel
theorem dX7_readThing_131 : decode cX7_readThing 131 = .ok (.ifCond .eq 37, 3) := by decide +kernel
theorem dX7_readThing_134 : decode cX7_readThing 134 = .ok (.aload_n 0, 1) := by decide +kernel
theorem dX7_readThing_135 : decode cX7_readThing 135 = .ok (.iconst 2, 1) := by decide +kernel
theorem dX7_readThing_136 : decode cX7_readThing 136 = .ok (.iconst 0, 1) := by decide +kernel
theorem dX7_readThing_137 : decode cX7_readThing 137 = .ok (.bipush 7, 2) := by decide +kernel
theorem dX7_readThing_139 : decode cX7_readThing 139 = .ok (.invokevirtual 129, 3) := by decide +kernel
theorem dX7_readThing_142 : decode cX7_readThing 142 = .ok (.ifCond .eq 26, 3) := by decide +kernel
theorem dX7_readThing_145 : decode cX7_readThing 145 = .ok (.aload_n 0, 1) := by decide +kernel
theorem dX7_readThing_146 : decode cX7_readThing 146 = .ok (.bipush 58, 2) := by decide +kernel
theorem dX7_readThing_148 : decode cX7_readThing 148 = .ok (.invokevirtual 132, 3) := by decide +kernel
theorem dX7_readThing_151 : decode cX7_readThing 151 = .ok (.ifCond .eq 17, 3) := by decide +kernel
theorem dX7_readThing_154 : decode cX7_readThing 154 = .ok (.aload_n 0, 1) := by decide +kernel
theorem dX7_readThing_155 : decode cX7_readThing 155 = .ok (.iconst 3, 1) := by decide +kernel
theorem dX7_readThing_156 : decode cX7_readThing 156 = .ok (.iconst 0, 1) := by decide +kernel
theorem dX7_readThing_157 : decode cX7_readThing 157 = .ok (.iconst 5, 1) := by decide +kernel
theorem dX7_readThing_158 : decode cX7_readThing 158 = .ok (.invokevirtual 129, 3) := by decide +kernel
theorem dX7_readThing_161 : decode cX7_readThing 161 = .ok (.ifCond .eq 7, 3) := by decide +kernel
theorem dX7_readThing_164 : decode cX7_readThing 164 = .ok (.iconst 1, 1) := by decide +kernel
theorem dX7_readThing_165 : decode cX7_readThing 165 = .ok (.goto 4, 3) := by decide +kernel
theorem dX7_readThing_168 : decode cX7_readThing 168 = .ok (.iconst 0, 1) := by decide +kernel
theorem dX7_readThing_169 : decode cX7_readThing 169 = .ok (.istore_n 2, 1) := by decide +kernel
theorem dX7_readThing_170 : decode cX7_readThing 170 = .ok (.goto 91, 3) := by decide +kernel
theorem dX7_readThing_173 : decode cX7_readThing 173 = .ok (.aload_n 0, 1) := by decide +kernel
theorem dX7_readThing_174 : decode cX7_readThing 174 = .ok (.iconst 1, 1) := by decide +kernel
theorem dX7_readThing_175 : decode cX7_readThing 175 = .ok (.iconst 0, 1) := by decide +kernel
theorem dX7_readThing_176 : decode cX7_readThing 176 = .ok (.iconst 2, 1) := by decide +kernel
theorem dX7_readThing_177 : decode cX7_readThing 177 = .ok (.invokevirtual 129, 3) := by decide +kernel
theorem dX7_readThing_180 : decode cX7_readThing 180 = .ok (.ifCond .eq 18, 3) := by decide +kernel
theorem dX7_readThing_183 : decode cX7_readThing 183 = .ok (.aload_n 0, 1) := by decide +kernel
theorem dX7_readThing_184 : decode cX7_readThing 184 = .ok (.iconst 2, 1) := by decide +kernel
theorem dX7_readThing_185 : decode cX7_readThing 185 = .ok (.iconst 0, 1) := by decide +kernel
theorem dX7_readThing_186 : decode cX7_readThing 186 = .ok (.bipush 7, 2) := by decide +kernel
theorem dX7_readThing_188 : decode cX7_readThing 188 = .ok (.invokevirtual 129, 3) := by decide +kernel
theorem dX7_readThing_191 : decode cX7_readThing 191 = .ok (.ifCond .eq 7, 3) := by decide +kernel
theorem dX7_readThing_194 : decode cX7_readThing 194 = .ok (.iconst 1, 1) := by decide +kernel
theorem dX7_readThing_195 : decode cX7_readThing 195 = .ok (.goto 4, 3) := by decide +kernel
theorem dX7_readThing_198 : decode cX7_readThing 198 = .ok (.iconst 0, 1) := by decide +kernel
theorem dX7_readThing_199 : decode cX7_readThing 199 = .ok (.istore_n 2, 1) := by decide +kernel
theorem dX7_readThing_200 : decode cX7_readThing 200 = .ok (.goto 61, 3) := by decide +kernel
theorem dX7_readThing_203 : decode cX7_readThing 203 = .ok (.aload_n 0, 1) := by decide +kernel
theorem dX7_readThing_204 : decode cX7_readThing 204 = .ok (.iconst 1, 1) := by decide +kernel
theorem dX7_readThing_205 : decode cX7_readThing 205 = .ok (.iconst 0, 1) := by decide +kernel
theorem dX7_readThing_206 : decode cX7_readThing 206 = .ok (.iconst 2, 1) := by decide +kernel
theorem dX7_readThing_207 : decode cX7_readThing 207 = .ok (.invokevirtual 129, 3) := by decide +kernel
theorem dX7_readThing_210 : decode cX7_readThing 210 = .ok (.ifCond .eq 28, 3) := by decide +kernel
theorem dX7_readThing_213 : decode cX7_readThing 213 = .ok (.aload_n 0, 1) := by decide +kernel
theorem dX7_readThing_214 : decode cX7_readThing 214 = .ok (.bipush 58, 2) := by decide +kernel
theorem dX7_readThing_216 : decode cX7_readThing 216 = .ok (.invokevirtual 132, 3) := by decide +kernel
theorem dX7_readThing_219 : decode cX7_readThing 219 = .ok (.ifCond .eq 19, 3) := by decide +kernel
theorem dX7_readThing_222 : decode cX7_readThing 222 = .ok (.aload_n 0, 1) := by decide +kernel
theorem dX7_readThing_223 : decode cX7_readThing 223 = .ok (.iconst 2, 1) := by decide +kernel
theorem dX7_readThing_224 : decode cX7_readThing 224 = .ok (.iconst 0, 1) := by decide +kernel
theorem dX7_readThing_225 : decode cX7_readThing 225 = .ok (.sipush 300, 3) := by decide +kernel
theorem dX7_readThing_228 : decode cX7_readThing 228 = .ok (.invokevirtual 129, 3) := by decide +kernel
theorem dX7_readThing_231 : decode cX7_readThing 231 = .ok (.ifCond .eq 7, 3) := by decide +kernel
theorem dX7_readThing_234 : decode cX7_readThing 234 = .ok (.iconst 1, 1) := by decide +kernel
theorem dX7_readThing_235 : decode cX7_readThing 235 = .ok (.goto 4, 3) := by decide +kernel
theorem dX7_readThing_238 : decode cX7_readThing 238 = .ok (.iconst 0, 1) := by decide +kernel
theorem dX7_readThing_239 : decode cX7_readThing 239 = .ok (.istore_n 2, 1) := by decide +kernel
theorem dX7_readThing_240 : decode cX7_readThing 240 = .ok (.goto 21, 3) := by decide +kernel
theorem dX7_readThing_243 : decode cX7_readThing 243 = .ok (.aload_n 0, 1) := by decide +kernel
theorem dX7_readThing_244 : decode cX7_readThing 244 = .ok (.invokevirtual 135, 3) := by decide +kernel
theorem dX7_readThing_247 : decode cX7_readThing 247 = .ok (.istore_n 2, 1) := by decide +kernel
theorem dX7_readThing_248 : decode cX7_readThing 248 = .ok (.goto 13, 3) := by decide +kernel
theorem dX7_readThing_251 : decode cX7_readThing 251 = .ok (.aload_n 0, 1) := by decide +kernel
theorem dX7_readThing_252 : decode cX7_readThing 252 = .ok (.iconst 1, 1) := by decide +kernel
theorem dX7_readThing_253 : decode cX7_readThing 253 = .ok (.iconst 1, 1) := by decide +kernel
theorem dX7_readThing_254 : decode cX7_readThing 254 = .ok (.sipush 999, 3) := by decide +kernel
theorem dX7_readThing_257 : decode cX7_readThing 257 = .ok (.invokevirtual 129, 3) := by decide +kernel
theorem dX7_readThing_260 : decode cX7_readThing 260 = .ok (.istore_n 2, 1) := by decide +kernel
theorem dX7_readThing_261 : decode cX7_readThing 261 = .ok (.aload_n 0, 1) := by decide +kernel
theorem dX7_readThing_262 : decode cX7_readThing 262 = .ok (.dup, 1) := by decide +kernel
theorem dX7_readThing_263 : decode cX7_readThing 263 = .ok (.getfield 126, 3) := by decide +kernel
theorem dX7_readThing_266 : decode cX7_readThing 266 = .ok (.iconst 1, 1) := by decide +kernel
theorem dX7_readThing_267 : decode cX7_readThing 267 = .ok (.iadd, 1) := by decide +kernel
theorem dX7_readThing_268 : decode cX7_readThing 268 = .ok (.putfield 126, 3) := by decide +kernel
theorem dX7_readThing_271 : decode cX7_readThing 271 = .ok (.iload_n 2, 1) := by decide +kernel
theorem dX7_readThing_272 : decode cX7_readThing 272 = .ok (.ireturn, 1) := by decide +kernel
set_option maxRecDepth 20000 in
theorem ggX7_readText_X7_readThing : GoodIn wsX7_readText wsX7_readThing := goodIn_r _ [8, 1, 3, 9, 10, 2, 11, 12, 13, 7, 14, 15, 16, 17, 18, 19, 20, 21, 22, 23, 24, 25, 26, 27, 28, 29, 30, 31, 32, 33, 34, 35, 36, 37, 38, 39, 40, 41, 42] (by decide +kernel) (by decide +kernel)
set_option maxRecDepth 20000 in
theorem gX7_readText_X7_readThing : GoodIn wsX7_readText (wsV RX7 139 RX7 yX7_readThing wsX7_readThing) := goodIn_app (goodIn_of _ (by decide +kernel)) ggX7_readText_X7_readThing
set_option maxRecDepth 20000 in
theorem ggX7_readText_X7_takes : GoodIn wsX7_readText wsX7_takes := goodIn_r _ [25, 1, 15, 16, 17, 7, 18, 3, 9, 19, 20, 21, 30, 31, 32, 33, 34, 35, 36, 37, 38, 39, 40, 41, 42] (by decide +kernel) (by decide +kernel)
set_option maxRecDepth 20000 in
theorem gX7_readText_X7_takes : GoodIn wsX7_readText (wsV RX7 132 RX7 yX7_takes wsX7_takes) := goodIn_app (goodIn_of _ (by decide +kernel)) ggX7_readText_X7_takes
theorem dX7_readText_0 : decode cX7_readText 0 = .ok (.aload_n 0, 1) := by decide +kernel
theorem dX7_readText_1 : decode cX7_readText 1 = .ok (.iconst 0, 1) := by decide +kernel
theorem dX7_readText_2 : decode cX7_readText 2 = .ok (.putfield 119, 3) := by decide +kernel
theorem dX7_readText_5 : decode cX7_readText 5 = .ok (.aload_n 0, 1) := by decide +kernel
theorem dX7_readText_6 : decode cX7_readText 6 = .ok (.iconst 0, 1) := by decide +kernel
theorem dX7_readText_7 : decode cX7_readText 7 = .ok (.putfield 126, 3) := by decide +kernel
theorem dX7_readText_10 : decode cX7_readText 10 = .ok (.aload_n 0, 1) := by decide +kernel
theorem dX7_readText_11 : decode cX7_readText 11 = .ok (.invokevirtual 139, 3) := by decide +kernel
theorem dX7_readText_14 : decode cX7_readText 14 = .ok (.istore_n 1, 1) := by decide +kernel
theorem dX7_readText_15 : decode cX7_readText 15 = .ok (.iload_n 1, 1) := by decide +kernel
theorem dX7_readText_16 : decode cX7_readText 16 = .ok (.ifCond .eq 39, 3) := by decide +kernel
theorem dX7_readText_19 : decode cX7_readText 19 = .ok (.aload_n 0, 1) := by decide +kernel
theorem dX7_readText_20 : decode cX7_readText 20 = .ok (.getfield 119, 3) := by decide +kernel
theorem dX7_readText_23 : decode cX7_readText 23 = .ok (.aload_n 0, 1) := by decide +kernel
theorem dX7_readText_24 : decode cX7_readText 24 = .ok (.getfield 116, 3) := by decide +kernel
theorem dX7_readText_27 : decode cX7_readText 27 = .ok (.if_icmp .ge 28, 3) := by decide +kernel
theorem dX7_readText_30 : decode cX7_readText 30 = .ok (.aload_n 0, 1) := by decide +kernel
theorem dX7_readText_31 : decode cX7_readText 31 = .ok (.bipush 59, 2) := by decide +kernel
theorem dX7_readText_33 : decode cX7_readText 33 = .ok (.invokevirtual 132, 3) := by decide +kernel
theorem dX7_readText_36 : decode cX7_readText 36 = .ok (.ifCond .eq 14, 3) := by decide +kernel
theorem dX7_readText_39 : decode cX7_readText 39 = .ok (.aload_n 0, 1) := by decide +kernel
theorem dX7_readText_40 : decode cX7_readText 40 = .ok (.invokevirtual 139, 3) := by decide +kernel
theorem dX7_readText_43 : decode cX7_readText 43 = .ok (.ifCond .eq 7, 3) := by decide +kernel
theorem dX7_readText_46 : decode cX7_readText 46 = .ok (.iconst 1, 1) := by decide +kernel
theorem dX7_readText_47 : decode cX7_readText 47 = .ok (.goto 4, 3) := by decide +kernel
theorem dX7_readText_50 : decode cX7_readText 50 = .ok (.iconst 0, 1) := by decide +kernel
theorem dX7_readText_51 : decode cX7_readText 51 = .ok (.istore_n 1, 1) := by decide +kernel
theorem dX7_readText_52 : decode cX7_readText 52 = .ok (.goto (-37), 3) := by decide +kernel
theorem dX7_readText_55 : decode cX7_readText 55 = .ok (.iload_n 1, 1) := by decide +kernel
theorem dX7_readText_56 : decode cX7_readText 56 = .ok (.ireturn, 1) := by decide +kernel
set_option maxRecDepth 20000 in
theorem ggX7_whyNot_X7_whyNotPut : GoodIn wsX7_whyNot wsX7_whyNotPut := goodIn_r _ [6, 7, 8, 9, 5, 10, 11, 12, 13, 14, 15, 16, 17, 18, 19, 20, 21, 22, 23, 24, 25, 26, 27, 33, 34, 35, 36, 37, 38, 39, 40, 41, 42, 43, 44, 45] (by decide +kernel) (by decide +kernel)
set_option maxRecDepth 20000 in
theorem gX7_whyNot_X7_whyNotPut : GoodIn wsX7_whyNot (wsV RX7 72 RX7 yX7_whyNotPut wsX7_whyNotPut) := goodIn_app (goodIn_of _ (by decide +kernel)) ggX7_whyNot_X7_whyNotPut
set_option maxRecDepth 20000 in
theorem ggX7_whyNot_X7_whyNotPass : GoodIn wsX7_whyNot wsX7_whyNotPass := goodIn_r _ [31, 7, 32, 11, 12, 5, 13, 33, 34, 35, 36, 37, 38, 39, 40, 41, 42, 43, 44, 45] (by decide +kernel) (by decide +kernel)
set_option maxRecDepth 20000 in
theorem gX7_whyNot_X7_whyNotPass : GoodIn wsX7_whyNot (wsV RX7 109 RX7 yX7_whyNotPass wsX7_whyNotPass) := goodIn_app (goodIn_of _ (by decide +kernel)) ggX7_whyNot_X7_whyNotPass
theorem dX7_whyNot_0 : decode cX7_whyNot 0 = .ok (.aload_n 0, 1) := by decide +kernel
theorem dX7_whyNot_1 : decode cX7_whyNot 1 = .ok (.getfield 25, 3) := by decide +kernel
theorem dX7_whyNot_4 : decode cX7_whyNot 4 = .ok (.iconst 4, 1) := by decide +kernel
theorem dX7_whyNot_5 : decode cX7_whyNot 5 = .ok (.iload_n 1, 1) := by decide +kernel
theorem dX7_whyNot_6 : decode cX7_whyNot 6 = .ok (.imul, 1) := by decide +kernel
theorem dX7_whyNot_7 : decode cX7_whyNot 7 = .ok (.iconst 1, 1) := by decide +kernel
theorem dX7_whyNot_8 : decode cX7_whyNot 8 = .ok (.iadd, 1) := by decide +kernel
theorem dX7_whyNot_9 : decode cX7_whyNot 9 = .ok (.iaload, 1) := by decide +kernel
theorem dX7_whyNot_10 : decode cX7_whyNot 10 = .ok (.istore_n 2, 1) := by decide +kernel
theorem dX7_whyNot_11 : decode cX7_whyNot 11 = .ok (.aload_n 0, 1) := by decide +kernel
theorem dX7_whyNot_12 : decode cX7_whyNot 12 = .ok (.getfield 25, 3) := by decide +kernel
theorem dX7_whyNot_15 : decode cX7_whyNot 15 = .ok (.iconst 4, 1) := by decide +kernel
theorem dX7_whyNot_16 : decode cX7_whyNot 16 = .ok (.iload_n 1, 1) := by decide +kernel
theorem dX7_whyNot_17 : decode cX7_whyNot 17 = .ok (.imul, 1) := by decide +kernel
theorem dX7_whyNot_18 : decode cX7_whyNot 18 = .ok (.iaload, 1) := by decide +kernel
theorem dX7_whyNot_19 : decode cX7_whyNot 19 = .ok (.istore_n 3, 1) := by decide +kernel
theorem dX7_whyNot_20 : decode cX7_whyNot 20 = .ok (.iload_n 3, 1) := by decide +kernel
theorem dX7_whyNot_21 : decode cX7_whyNot 21 = .ok (.bipush 112, 2) := by decide +kernel
theorem dX7_whyNot_23 : decode cX7_whyNot 23 = .ok (.if_icmp .ne 31, 3) := by decide +kernel
theorem dX7_whyNot_26 : decode cX7_whyNot 26 = .ok (.aload_n 0, 1) := by decide +kernel
theorem dX7_whyNot_27 : decode cX7_whyNot 27 = .ok (.iload_n 2, 1) := by decide +kernel
theorem dX7_whyNot_28 : decode cX7_whyNot 28 = .ok (.aload_n 0, 1) := by decide +kernel
theorem dX7_whyNot_29 : decode cX7_whyNot 29 = .ok (.getfield 25, 3) := by decide +kernel
theorem dX7_whyNot_32 : decode cX7_whyNot 32 = .ok (.iconst 4, 1) := by decide +kernel
theorem dX7_whyNot_33 : decode cX7_whyNot 33 = .ok (.iload_n 1, 1) := by decide +kernel
theorem dX7_whyNot_34 : decode cX7_whyNot 34 = .ok (.imul, 1) := by decide +kernel
theorem dX7_whyNot_35 : decode cX7_whyNot 35 = .ok (.iconst 2, 1) := by decide +kernel
theorem dX7_whyNot_36 : decode cX7_whyNot 36 = .ok (.iadd, 1) := by decide +kernel
theorem dX7_whyNot_37 : decode cX7_whyNot 37 = .ok (.iaload, 1) := by decide +kernel
theorem dX7_whyNot_38 : decode cX7_whyNot 38 = .ok (.aload_n 0, 1) := by decide +kernel
theorem dX7_whyNot_39 : decode cX7_whyNot 39 = .ok (.getfield 25, 3) := by decide +kernel
theorem dX7_whyNot_42 : decode cX7_whyNot 42 = .ok (.iconst 4, 1) := by decide +kernel
theorem dX7_whyNot_43 : decode cX7_whyNot 43 = .ok (.iload_n 1, 1) := by decide +kernel
theorem dX7_whyNot_44 : decode cX7_whyNot 44 = .ok (.imul, 1) := by decide +kernel
theorem dX7_whyNot_45 : decode cX7_whyNot 45 = .ok (.iconst 3, 1) := by decide +kernel
theorem dX7_whyNot_46 : decode cX7_whyNot 46 = .ok (.iadd, 1) := by decide +kernel
theorem dX7_whyNot_47 : decode cX7_whyNot 47 = .ok (.iaload, 1) := by decide +kernel
theorem dX7_whyNot_48 : decode cX7_whyNot 48 = .ok (.invokevirtual 72, 3) := by decide +kernel
theorem dX7_whyNot_51 : decode cX7_whyNot 51 = .ok (.goto 18, 3) := by decide +kernel
theorem dX7_whyNot_54 : decode cX7_whyNot 54 = .ok (.iload_n 3, 1) := by decide +kernel
theorem dX7_whyNot_55 : decode cX7_whyNot 55 = .ok (.bipush 46, 2) := by decide +kernel
theorem dX7_whyNot_57 : decode cX7_whyNot 57 = .ok (.if_icmp .ne 11, 3) := by decide +kernel
theorem dX7_whyNot_60 : decode cX7_whyNot 60 = .ok (.aload_n 0, 1) := by decide +kernel
theorem dX7_whyNot_61 : decode cX7_whyNot 61 = .ok (.iload_n 2, 1) := by decide +kernel
theorem dX7_whyNot_62 : decode cX7_whyNot 62 = .ok (.invokevirtual 109, 3) := by decide +kernel
theorem dX7_whyNot_65 : decode cX7_whyNot 65 = .ok (.goto 4, 3) := by decide +kernel
theorem dX7_whyNot_68 : decode cX7_whyNot 68 = .ok (.iconst 0, 1) := by decide +kernel
theorem dX7_whyNot_69 : decode cX7_whyNot 69 = .ok (.ireturn, 1) := by decide +kernel
set_option maxRecDepth 20000 in
theorem ggX7_doThing_X7_putNow : GoodIn wsX7_doThing wsX7_putNow := goodIn_r _ [7, 2, 8, 9, 10, 6, 11, 59, 60, 61, 62, 63, 64, 65, 66, 67, 68, 69, 70, 71] (by decide +kernel) (by decide +kernel)
set_option maxRecDepth 20000 in
theorem gX7_doThing_X7_putNow : GoodIn wsX7_doThing (wsV RX7 76 RX7 yX7_putNow wsX7_putNow) := goodIn_app (goodIn_of _ (by decide +kernel)) ggX7_doThing_X7_putNow
set_option maxRecDepth 20000 in
theorem ggX7_doThing_X7_lampAt : GoodIn wsX7_doThing wsX7_lampAt := goodIn_r _ [15, 2, 16, 17, 18, 6, 19, 59, 60, 61, 62, 63, 64, 65, 66, 67, 68, 69, 70, 71] (by decide +kernel) (by decide +kernel)
set_option maxRecDepth 20000 in
theorem gX7_doThing_X7_lampAt : GoodIn wsX7_doThing (wsV RX7 65 RX7 yX7_lampAt wsX7_lampAt) := goodIn_app (goodIn_of _ (by decide +kernel)) ggX7_doThing_X7_lampAt
set_option maxRecDepth 20000 in
theorem ggX7_doThing_X7_moveTo : GoodIn wsX7_doThing wsX7_moveTo := goodIn_r _ [23, 8, 9, 10, 6, 11, 2, 59, 60, 61, 62, 63, 64, 65, 66, 67, 68, 69, 70, 71] (by decide +kernel) (by decide +kernel)
set_option maxRecDepth 20000 in
theorem gX7_doThing_X7_moveTo : GoodIn wsX7_doThing (wsV RX7 79 RX7 yX7_moveTo wsX7_moveTo) := goodIn_app (goodIn_of _ (by decide +kernel)) ggX7_doThing_X7_moveTo
set_option maxRecDepth 20000 in
theorem ggX7_doThing_X7_stepsNow : GoodIn wsX7_doThing wsX7_stepsNow := goodIn_r _ [27, 2, 59, 60, 61, 62, 63, 64, 65, 66, 67, 68, 69, 70, 71] (by decide +kernel) (by decide +kernel)
set_option maxRecDepth 20000 in
theorem gX7_doThing_X7_stepsNow : GoodIn wsX7_doThing (wsV RX7 88 RX7 yX7_stepsNow wsX7_stepsNow) := goodIn_app (goodIn_of _ (by decide +kernel)) ggX7_doThing_X7_stepsNow
set_option maxRecDepth 20000 in
theorem ggX7_doThing_X7_passNow : GoodIn wsX7_doThing wsX7_passNow := goodIn_r _ [31, 32, 33, 34, 6, 35, 2, 36, 37, 38, 39, 40, 41, 42, 43, 16, 17, 18, 19, 44, 45, 46, 47, 8, 9, 10, 11, 48, 49, 50, 51, 52, 53, 54, 55, 56, 57, 58, 59, 60, 61, 62, 63, 64, 65, 66, 67, 68, 69, 70, 71] (by decide +kernel) (by decide +kernel)
set_option maxRecDepth 20000 in
theorem gX7_doThing_X7_passNow : GoodIn wsX7_doThing (wsV RX7 113 RX7 yX7_passNow wsX7_passNow) := goodIn_app (goodIn_of _ (by decide +kernel)) ggX7_doThing_X7_passNow
theorem dX7_doThing_0 : decode cX7_doThing 0 = .ok (.aload_n 0, 1) := by decide +kernel
theorem dX7_doThing_1 : decode cX7_doThing 1 = .ok (.getfield 25, 3) := by decide +kernel
theorem dX7_doThing_4 : decode cX7_doThing 4 = .ok (.iconst 4, 1) := by decide +kernel
theorem dX7_doThing_5 : decode cX7_doThing 5 = .ok (.iload_n 1, 1) := by decide +kernel
theorem dX7_doThing_6 : decode cX7_doThing 6 = .ok (.imul, 1) := by decide +kernel
theorem dX7_doThing_7 : decode cX7_doThing 7 = .ok (.iconst 1, 1) := by decide +kernel
theorem dX7_doThing_8 : decode cX7_doThing 8 = .ok (.iadd, 1) := by decide +kernel
theorem dX7_doThing_9 : decode cX7_doThing 9 = .ok (.iaload, 1) := by decide +kernel
theorem dX7_doThing_10 : decode cX7_doThing 10 = .ok (.istore_n 2, 1) := by decide +kernel
theorem dX7_doThing_11 : decode cX7_doThing 11 = .ok (.aload_n 0, 1) := by decide +kernel
theorem dX7_doThing_12 : decode cX7_doThing 12 = .ok (.getfield 25, 3) := by decide +kernel
theorem dX7_doThing_15 : decode cX7_doThing 15 = .ok (.iconst 4, 1) := by decide +kernel
theorem dX7_doThing_16 : decode cX7_doThing 16 = .ok (.iload_n 1, 1) := by decide +kernel
theorem dX7_doThing_17 : decode cX7_doThing 17 = .ok (.imul, 1) := by decide +kernel
theorem dX7_doThing_18 : decode cX7_doThing 18 = .ok (.iconst 2, 1) := by decide +kernel
theorem dX7_doThing_19 : decode cX7_doThing 19 = .ok (.iadd, 1) := by decide +kernel
theorem dX7_doThing_20 : decode cX7_doThing 20 = .ok (.iaload, 1) := by decide +kernel
theorem dX7_doThing_21 : decode cX7_doThing 21 = .ok (.istore_n 3, 1) := by decide +kernel
theorem dX7_doThing_22 : decode cX7_doThing 22 = .ok (.aload_n 0, 1) := by decide +kernel
theorem dX7_doThing_23 : decode cX7_doThing 23 = .ok (.getfield 25, 3) := by decide +kernel
theorem dX7_doThing_26 : decode cX7_doThing 26 = .ok (.iconst 4, 1) := by decide +kernel
theorem dX7_doThing_27 : decode cX7_doThing 27 = .ok (.iload_n 1, 1) := by decide +kernel
theorem dX7_doThing_28 : decode cX7_doThing 28 = .ok (.imul, 1) := by decide +kernel
theorem dX7_doThing_29 : decode cX7_doThing 29 = .ok (.iconst 3, 1) := by decide +kernel
theorem dX7_doThing_30 : decode cX7_doThing 30 = .ok (.iadd, 1) := by decide +kernel
theorem dX7_doThing_31 : decode cX7_doThing 31 = .ok (.iaload, 1) := by decide +kernel
theorem dX7_doThing_32 : decode cX7_doThing 32 = .ok (.istore 4, 2) := by decide +kernel
theorem dX7_doThing_34 : decode cX7_doThing 34 = .ok (.aload_n 0, 1) := by decide +kernel
theorem dX7_doThing_35 : decode cX7_doThing 35 = .ok (.getfield 25, 3) := by decide +kernel
theorem dX7_doThing_38 : decode cX7_doThing 38 = .ok (.iconst 4, 1) := by decide +kernel
theorem dX7_doThing_39 : decode cX7_doThing 39 = .ok (.iload_n 1, 1) := by decide +kernel
theorem dX7_doThing_40 : decode cX7_doThing 40 = .ok (.imul, 1) := by decide +kernel
theorem dX7_doThing_41 : decode cX7_doThing 41 = .ok (.iaload, 1) := by decide +kernel
theorem dX7_doThing_42 : decode cX7_doThing 42 = .ok (.tableswitch 99 112 118 #[42, 99, 99, 88, 54, 99, 73], 42) := by decide +kernel
theorem dX7_doThing_84 : decode cX7_doThing 84 = .ok (.aload_n 0, 1) := by decide +kernel
theorem dX7_doThing_85 : decode cX7_doThing 85 = .ok (.iload_n 2, 1) := by decide +kernel
theorem dX7_doThing_86 : decode cX7_doThing 86 = .ok (.iload_n 3, 1) := by decide +kernel
theorem dX7_doThing_87 : decode cX7_doThing 87 = .ok (.iload 4, 2) := by decide +kernel
theorem dX7_doThing_89 : decode cX7_doThing 89 = .ok (.invokevirtual 76, 3) := by decide +kernel
theorem dX7_doThing_92 : decode cX7_doThing 92 = .ok (.pop, 1) := by decide +kernel
theorem dX7_doThing_93 : decode cX7_doThing 93 = .ok (.goto 54, 3) := by decide +kernel
theorem dX7_doThing_96 : decode cX7_doThing 96 = .ok (.aload_n 0, 1) := by decide +kernel
theorem dX7_doThing_97 : decode cX7_doThing 97 = .ok (.aload_n 0, 1) := by decide +kernel
theorem dX7_doThing_98 : decode cX7_doThing 98 = .ok (.iload_n 2, 1) := by decide +kernel
theorem dX7_doThing_99 : decode cX7_doThing 99 = .ok (.iload_n 3, 1) := by decide +kernel
theorem dX7_doThing_100 : decode cX7_doThing 100 = .ok (.invokevirtual 65, 3) := by decide +kernel
theorem dX7_doThing_103 : decode cX7_doThing 103 = .ok (.sipush (-1005), 3) := by decide +kernel
theorem dX7_doThing_106 : decode cX7_doThing 106 = .ok (.sipush (-1005), 3) := by decide +kernel
theorem dX7_doThing_109 : decode cX7_doThing 109 = .ok (.invokevirtual 79, 3) := by decide +kernel
theorem dX7_doThing_112 : decode cX7_doThing 112 = .ok (.goto 35, 3) := by decide +kernel
theorem dX7_doThing_115 : decode cX7_doThing 115 = .ok (.aload_n 0, 1) := by decide +kernel
theorem dX7_doThing_116 : decode cX7_doThing 116 = .ok (.getfield 7, 3) := by decide +kernel
theorem dX7_doThing_119 : decode cX7_doThing 119 = .ok (.bipush 16, 2) := by decide +kernel
theorem dX7_doThing_121 : decode cX7_doThing 121 = .ok (.iconst 4, 1) := by decide +kernel
theorem dX7_doThing_122 : decode cX7_doThing 122 = .ok (.iload_n 2, 1) := by decide +kernel
theorem dX7_doThing_123 : decode cX7_doThing 123 = .ok (.imul, 1) := by decide +kernel
theorem dX7_doThing_124 : decode cX7_doThing 124 = .ok (.iadd, 1) := by decide +kernel
theorem dX7_doThing_125 : decode cX7_doThing 125 = .ok (.iload_n 3, 1) := by decide +kernel
theorem dX7_doThing_126 : decode cX7_doThing 126 = .ok (.iastore, 1) := by decide +kernel
theorem dX7_doThing_127 : decode cX7_doThing 127 = .ok (.goto 20, 3) := by decide +kernel
theorem dX7_doThing_130 : decode cX7_doThing 130 = .ok (.aload_n 0, 1) := by decide +kernel
theorem dX7_doThing_131 : decode cX7_doThing 131 = .ok (.iload_n 2, 1) := by decide +kernel
theorem dX7_doThing_132 : decode cX7_doThing 132 = .ok (.iload_n 3, 1) := by decide +kernel
theorem dX7_doThing_133 : decode cX7_doThing 133 = .ok (.iload 4, 2) := by decide +kernel
theorem dX7_doThing_135 : decode cX7_doThing 135 = .ok (.invokevirtual 88, 3) := by decide +kernel
theorem dX7_doThing_138 : decode cX7_doThing 138 = .ok (.goto 9, 3) := by decide +kernel
theorem dX7_doThing_141 : decode cX7_doThing 141 = .ok (.aload_n 0, 1) := by decide +kernel
theorem dX7_doThing_142 : decode cX7_doThing 142 = .ok (.iload_n 2, 1) := by decide +kernel
theorem dX7_doThing_143 : decode cX7_doThing 143 = .ok (.invokevirtual 113, 3) := by decide +kernel
theorem dX7_doThing_146 : decode cX7_doThing 146 = .ok (.pop, 1) := by decide +kernel
theorem dX7_doThing_147 : decode cX7_doThing 147 = .ok (.return_, 1) := by decide +kernel
set_option maxRecDepth 20000 in
theorem ggX7_perform_X7_readText : GoodIn wsX7_perform wsX7_readText := goodIn_r _ [11, 1, 4, 12, 13, 14, 15, 10, 16, 17, 18, 19, 20, 21, 22, 23, 24, 25, 26, 27, 28, 29, 30, 31, 32, 33, 34, 35, 36, 37, 125, 126, 127, 128, 129, 130, 131, 132, 133, 134, 135, 136, 137] (by decide +kernel) (by decide +kernel)
set_option maxRecDepth 20000 in
theorem gX7_perform_X7_readText : GoodIn wsX7_perform (wsV RX7 142 RX7 yX7_readText wsX7_readText) := goodIn_app (goodIn_of _ (by decide +kernel)) ggX7_perform_X7_readText
set_option maxRecDepth 20000 in
theorem ggX7_perform_X7_copyState : GoodIn wsX7_perform wsX7_copyState := goodIn_r _ [40] (by decide +kernel) (by decide +kernel)
set_option maxRecDepth 20000 in
theorem gX7_perform_X7_copyState : GoodIn wsX7_perform (va_wsS RX7 40 yX7_copyState wsX7_copyState) := goodIn_app (goodIn_of _ (by decide +kernel)) ggX7_perform_X7_copyState
set_option maxRecDepth 20000 in
theorem ggX7_perform_X7_whyNot : GoodIn wsX7_perform wsX7_whyNot := goodIn_r _ [44, 18, 45, 46, 47, 10, 48, 2, 49, 50, 51, 27, 28, 29, 52, 53, 54, 55, 56, 57, 58, 59, 60, 61, 62, 63, 64, 65, 66, 67, 68, 69, 70, 125, 126, 127, 128, 129, 130, 131, 132, 133, 134, 135, 136, 137] (by decide +kernel) (by decide +kernel)
set_option maxRecDepth 20000 in
theorem gX7_perform_X7_whyNot : GoodIn wsX7_perform (wsV RX7 145 RX7 yX7_whyNot wsX7_whyNot) := goodIn_app (goodIn_of _ (by decide +kernel)) ggX7_perform_X7_whyNot
set_option maxRecDepth 20000 in
theorem ggX7_perform_X7_doThing : GoodIn wsX7_perform wsX7_doThing := goodIn_r _ [74, 18, 2, 75, 76, 77, 10, 78, 79, 80, 81, 82, 58, 59, 60, 61, 62, 63, 64, 65, 83, 84, 85, 86, 87, 88, 89, 90, 91, 92, 93, 94, 95, 96, 97, 98, 99, 100, 101, 102, 103, 104, 105, 106, 107, 108, 109, 110, 111, 112, 113, 114, 27, 28, 29, 115, 116, 117, 118, 125, 126, 127, 128, 129, 130, 131, 132, 133, 134, 135, 136, 137] (by decide +kernel) (by decide +kernel)
set_option maxRecDepth 20000 in
theorem gX7_perform_X7_doThing : GoodIn wsX7_perform (wsV RX7 154 RX7 yX7_doThing wsX7_doThing) := goodIn_app (goodIn_of _ (by decide +kernel)) ggX7_perform_X7_doThing
set_option maxRecDepth 20000 in
theorem ggX7_perform_X7_recordRow : GoodIn wsX7_perform wsX7_recordRow := goodIn_r _ [122, 123, 124, 38, 39, 10, 40, 125, 126, 127, 128, 129, 130, 131, 132, 133, 134, 135, 136, 137] (by decide +kernel) (by decide +kernel)
set_option maxRecDepth 20000 in
theorem gX7_perform_X7_recordRow : GoodIn wsX7_perform (wsV RX7 44 RX7 yX7_recordRow wsX7_recordRow) := goodIn_app (goodIn_of _ (by decide +kernel)) ggX7_perform_X7_recordRow
theorem dX7_perform_0 : decode cX7_perform 0 = .ok (.aload_n 0, 1) := by decide +kernel
theorem dX7_perform_1 : decode cX7_perform 1 = .ok (.invokevirtual 142, 3) := by decide +kernel
theorem dX7_perform_4 : decode cX7_perform 4 = .ok (.ifCond .ne 12, 3) := by decide +kernel
theorem dX7_perform_7 : decode cX7_perform 7 = .ok (.sipush (-1100), 3) := by decide +kernel
theorem dX7_perform_10 : decode cX7_perform 10 = .ok (.aload_n 0, 1) := by decide +kernel
theorem dX7_perform_11 : decode cX7_perform 11 = .ok (.getfield 119, 3) := by decide +kernel
theorem dX7_perform_14 : decode cX7_perform 14 = .ok (.isub, 1) := by decide +kernel
theorem dX7_perform_15 : decode cX7_perform 15 = .ok (.ireturn, 1) := by decide +kernel
theorem dX7_perform_16 : decode cX7_perform 16 = .ok (.aload_n 0, 1) := by decide +kernel
theorem dX7_perform_17 : decode cX7_perform 17 = .ok (.getfield 7, 3) := by decide +kernel
theorem dX7_perform_20 : decode cX7_perform 20 = .ok (.iconst 0, 1) := by decide +kernel
theorem dX7_perform_21 : decode cX7_perform 21 = .ok (.aload_n 0, 1) := by decide +kernel
theorem dX7_perform_22 : decode cX7_perform 22 = .ok (.getfield 13, 3) := by decide +kernel
theorem dX7_perform_25 : decode cX7_perform 25 = .ok (.iconst 0, 1) := by decide +kernel
theorem dX7_perform_26 : decode cX7_perform 26 = .ok (.invokestatic 40, 3) := by decide +kernel
theorem dX7_perform_29 : decode cX7_perform 29 = .ok (.iconst 0, 1) := by decide +kernel
theorem dX7_perform_30 : decode cX7_perform 30 = .ok (.istore_n 1, 1) := by decide +kernel
theorem dX7_perform_31 : decode cX7_perform 31 = .ok (.iload_n 1, 1) := by decide +kernel
theorem dX7_perform_32 : decode cX7_perform 32 = .ok (.aload_n 0, 1) := by decide +kernel
theorem dX7_perform_33 : decode cX7_perform 33 = .ok (.getfield 126, 3) := by decide +kernel
theorem dX7_perform_36 : decode cX7_perform 36 = .ok (.if_icmp .ge 51, 3) := by decide +kernel
theorem dX7_perform_39 : decode cX7_perform 39 = .ok (.aload_n 0, 1) := by decide +kernel
theorem dX7_perform_40 : decode cX7_perform 40 = .ok (.iload_n 1, 1) := by decide +kernel
theorem dX7_perform_41 : decode cX7_perform 41 = .ok (.invokevirtual 145, 3) := by decide +kernel
theorem dX7_perform_44 : decode cX7_perform 44 = .ok (.istore_n 2, 1) := by decide +kernel
theorem dX7_perform_45 : decode cX7_perform 45 = .ok (.iload_n 2, 1) := by decide +kernel
theorem dX7_perform_46 : decode cX7_perform 46 = .ok (.ifCond .ge 30, 3) := by decide +kernel
theorem dX7_perform_49 : decode cX7_perform 49 = .ok (.aload_n 0, 1) := by decide +kernel
theorem dX7_perform_50 : decode cX7_perform 50 = .ok (.getfield 13, 3) := by decide +kernel
theorem dX7_perform_53 : decode cX7_perform 53 = .ok (.iconst 0, 1) := by decide +kernel
theorem dX7_perform_54 : decode cX7_perform 54 = .ok (.aload_n 0, 1) := by decide +kernel
theorem dX7_perform_55 : decode cX7_perform 55 = .ok (.getfield 7, 3) := by decide +kernel
theorem dX7_perform_58 : decode cX7_perform 58 = .ok (.iconst 0, 1) := by decide +kernel
theorem dX7_perform_59 : decode cX7_perform 59 = .ok (.invokestatic 40, 3) := by decide +kernel
theorem dX7_perform_62 : decode cX7_perform 62 = .ok (.aload_n 0, 1) := by decide +kernel
theorem dX7_perform_63 : decode cX7_perform 63 = .ok (.iload_n 1, 1) := by decide +kernel
theorem dX7_perform_64 : decode cX7_perform 64 = .ok (.putfield 148, 3) := by decide +kernel
theorem dX7_perform_67 : decode cX7_perform 67 = .ok (.aload_n 0, 1) := by decide +kernel
theorem dX7_perform_68 : decode cX7_perform 68 = .ok (.iload_n 2, 1) := by decide +kernel
theorem dX7_perform_69 : decode cX7_perform 69 = .ok (.putfield 151, 3) := by decide +kernel
theorem dX7_perform_72 : decode cX7_perform 72 = .ok (.sipush (-1004), 3) := by decide +kernel
theorem dX7_perform_75 : decode cX7_perform 75 = .ok (.ireturn, 1) := by decide +kernel
theorem dX7_perform_76 : decode cX7_perform 76 = .ok (.aload_n 0, 1) := by decide +kernel
theorem dX7_perform_77 : decode cX7_perform 77 = .ok (.iload_n 1, 1) := by decide +kernel
theorem dX7_perform_78 : decode cX7_perform 78 = .ok (.invokevirtual 154, 3) := by decide +kernel
theorem dX7_perform_81 : decode cX7_perform 81 = .ok (.iinc 1 1, 3) := by decide +kernel
theorem dX7_perform_84 : decode cX7_perform 84 = .ok (.goto (-53), 3) := by decide +kernel
theorem dX7_perform_87 : decode cX7_perform 87 = .ok (.aload_n 0, 1) := by decide +kernel
theorem dX7_perform_88 : decode cX7_perform 88 = .ok (.aload_n 0, 1) := by decide +kernel
theorem dX7_perform_89 : decode cX7_perform 89 = .ok (.getfield 13, 3) := by decide +kernel
theorem dX7_perform_92 : decode cX7_perform 92 = .ok (.invokevirtual 44, 3) := by decide +kernel
theorem dX7_perform_95 : decode cX7_perform 95 = .ok (.aload_n 0, 1) := by decide +kernel
theorem dX7_perform_96 : decode cX7_perform 96 = .ok (.getfield 126, 3) := by decide +kernel
theorem dX7_perform_99 : decode cX7_perform 99 = .ok (.ireturn, 1) := by decide +kernel
set_option maxRecDepth 20000 in
theorem ggX7_stopped_X7_in : GoodIn wsX7_stopped wsX7_in := goodIn_r _ [6] (by decide +kernel) (by decide +kernel)
set_option maxRecDepth 20000 in
theorem gX7_stopped_X7_in : GoodIn wsX7_stopped (va_wsS RX7 28 yX7_in wsX7_in) := goodIn_app (goodIn_of _ (by decide +kernel)) ggX7_stopped_X7_in
theorem dX7_stopped_0 : decode cX7_stopped 0 = .ok (.iload_n 1, 1) := by decide +kernel
theorem dX7_stopped_1 : decode cX7_stopped 1 = .ok (.iconst 0, 1) := by decide +kernel
theorem dX7_stopped_2 : decode cX7_stopped 2 = .ok (.iconst 1, 1) := by decide +kernel
theorem dX7_stopped_3 : decode cX7_stopped 3 = .ok (.invokestatic 28, 3) := by decide +kernel
theorem dX7_stopped_6 : decode cX7_stopped 6 = .ok (.ifCond .ne 7, 3) := by decide +kernel
theorem dX7_stopped_9 : decode cX7_stopped 9 = .ok (.sipush (-1002), 3) := by decide +kernel
theorem dX7_stopped_12 : decode cX7_stopped 12 = .ok (.ireturn, 1) := by decide +kernel
theorem dX7_stopped_13 : decode cX7_stopped 13 = .ok (.aload_n 0, 1) := by decide +kernel
theorem dX7_stopped_14 : decode cX7_stopped 14 = .ok (.getfield 151, 3) := by decide +kernel
theorem dX7_stopped_17 : decode cX7_stopped 17 = .ok (.ifCond .ne 9, 3) := by decide +kernel
theorem dX7_stopped_20 : decode cX7_stopped 20 = .ok (.sipush (-1005), 3) := by decide +kernel
theorem dX7_stopped_23 : decode cX7_stopped 23 = .ok (.goto 18, 3) := by decide +kernel
theorem dX7_stopped_26 : decode cX7_stopped 26 = .ok (.iload_n 1, 1) := by decide +kernel
theorem dX7_stopped_27 : decode cX7_stopped 27 = .ok (.ifCond .ne 10, 3) := by decide +kernel
theorem dX7_stopped_30 : decode cX7_stopped 30 = .ok (.aload_n 0, 1) := by decide +kernel
theorem dX7_stopped_31 : decode cX7_stopped 31 = .ok (.getfield 148, 3) := by decide +kernel
theorem dX7_stopped_34 : decode cX7_stopped 34 = .ok (.goto 7, 3) := by decide +kernel
theorem dX7_stopped_37 : decode cX7_stopped 37 = .ok (.aload_n 0, 1) := by decide +kernel
theorem dX7_stopped_38 : decode cX7_stopped 38 = .ok (.getfield 151, 3) := by decide +kernel
theorem dX7_stopped_41 : decode cX7_stopped 41 = .ok (.ireturn, 1) := by decide +kernel
set_option maxRecDepth 20000 in
theorem ggX7_counts_X7_of : GoodIn wsX7_counts wsX7_of := goodIn_r _ [5, 6, 7, 8, 9, 10, 11, 12, 13, 14, 15, 16, 17, 18, 19] (by decide +kernel) (by decide +kernel)
set_option maxRecDepth 20000 in
theorem gX7_counts_X7_of : GoodIn wsX7_counts (wsV RX7 32 RX7 yX7_of wsX7_of) := goodIn_app (goodIn_of _ (by decide +kernel)) ggX7_counts_X7_of
theorem dX7_counts_0 : decode cX7_counts 0 = .ok (.aload_n 0, 1) := by decide +kernel
theorem dX7_counts_1 : decode cX7_counts 1 = .ok (.iload_n 1, 1) := by decide +kernel
theorem dX7_counts_2 : decode cX7_counts 2 = .ok (.iconst 4, 1) := by decide +kernel
theorem dX7_counts_3 : decode cX7_counts 3 = .ok (.invokevirtual 32, 3) := by decide +kernel
theorem dX7_counts_6 : decode cX7_counts 6 = .ok (.bipush 10, 2) := by decide +kernel
theorem dX7_counts_8 : decode cX7_counts 8 = .ok (.idiv, 1) := by decide +kernel
theorem dX7_counts_9 : decode cX7_counts 9 = .ok (.ireturn, 1) := by decide +kernel
set_option maxRecDepth 20000 in
theorem ggX7_lamp_X7_isLamp : GoodIn wsX7_lamp wsX7_isLamp := goodIn_r _ [5, 6, 7, 8, 4, 9, 22, 23, 24, 25, 26, 27, 28, 29, 30, 31, 32, 33, 34] (by decide +kernel) (by decide +kernel)
set_option maxRecDepth 20000 in
theorem gX7_lamp_X7_isLamp : GoodIn wsX7_lamp (wsV RX7 158 RX7 yX7_isLamp wsX7_isLamp) := goodIn_app (goodIn_of _ (by decide +kernel)) ggX7_lamp_X7_isLamp
set_option maxRecDepth 20000 in
theorem ggX7_lamp_X7_of : GoodIn wsX7_lamp wsX7_of := goodIn_r _ [13, 6, 22, 23, 24, 25, 26, 27, 28, 29, 30, 31, 32, 33, 34] (by decide +kernel) (by decide +kernel)
set_option maxRecDepth 20000 in
theorem gX7_lamp_X7_of : GoodIn wsX7_lamp (wsV RX7 32 RX7 yX7_of wsX7_of) := goodIn_app (goodIn_of _ (by decide +kernel)) ggX7_lamp_X7_of
set_option maxRecDepth 20000 in
theorem ggX7_lamp_X7_counts : GoodIn wsX7_lamp wsX7_counts := goodIn_r _ [17, 10, 11, 12, 4, 13, 6, 22, 23, 24, 25, 26, 27, 28, 29, 30, 31, 32, 33, 34] (by decide +kernel) (by decide +kernel)
set_option maxRecDepth 20000 in
theorem gX7_lamp_X7_counts : GoodIn wsX7_lamp (wsV RX7 161 RX7 yX7_counts wsX7_counts) := goodIn_app (goodIn_of _ (by decide +kernel)) ggX7_lamp_X7_counts
set_option maxRecDepth 20000 in
theorem ggX7_lamp_X7_isDead : GoodIn wsX7_lamp wsX7_isDead := goodIn_r _ [21, 10, 11, 12, 4, 13, 6, 22, 23, 24, 25, 26, 27, 28, 29, 30, 31, 32, 33, 34] (by decide +kernel) (by decide +kernel)
set_option maxRecDepth 20000 in
theorem gX7_lamp_X7_isDead : GoodIn wsX7_lamp (wsV RX7 91 RX7 yX7_isDead wsX7_isDead) := goodIn_app (goodIn_of _ (by decide +kernel)) ggX7_lamp_X7_isDead
theorem dX7_lamp_0 : decode cX7_lamp 0 = .ok (.aload_n 0, 1) := by decide +kernel
theorem dX7_lamp_1 : decode cX7_lamp 1 = .ok (.iload_n 1, 1) := by decide +kernel
theorem dX7_lamp_2 : decode cX7_lamp 2 = .ok (.invokevirtual 158, 3) := by decide +kernel
theorem dX7_lamp_5 : decode cX7_lamp 5 = .ok (.ifCond .ne 7, 3) := by decide +kernel
theorem dX7_lamp_8 : decode cX7_lamp 8 = .ok (.sipush (-1001), 3) := by decide +kernel
theorem dX7_lamp_11 : decode cX7_lamp 11 = .ok (.ireturn, 1) := by decide +kernel
theorem dX7_lamp_12 : decode cX7_lamp 12 = .ok (.iload_n 2, 1) := by decide +kernel
theorem dX7_lamp_13 : decode cX7_lamp 13 = .ok (.tableswitch 98 0 9 #[55, 55, 55, 55, 55, 55, 62, 68, 82, 90], 55) := by decide +kernel
theorem dX7_lamp_68 : decode cX7_lamp 68 = .ok (.aload_n 0, 1) := by decide +kernel
theorem dX7_lamp_69 : decode cX7_lamp 69 = .ok (.iload_n 1, 1) := by decide +kernel
theorem dX7_lamp_70 : decode cX7_lamp 70 = .ok (.iload_n 2, 1) := by decide +kernel
theorem dX7_lamp_71 : decode cX7_lamp 71 = .ok (.invokevirtual 32, 3) := by decide +kernel
theorem dX7_lamp_74 : decode cX7_lamp 74 = .ok (.ireturn, 1) := by decide +kernel
theorem dX7_lamp_75 : decode cX7_lamp 75 = .ok (.aload_n 0, 1) := by decide +kernel
theorem dX7_lamp_76 : decode cX7_lamp 76 = .ok (.iload_n 1, 1) := by decide +kernel
theorem dX7_lamp_77 : decode cX7_lamp 77 = .ok (.invokevirtual 161, 3) := by decide +kernel
theorem dX7_lamp_80 : decode cX7_lamp 80 = .ok (.ireturn, 1) := by decide +kernel
theorem dX7_lamp_81 : decode cX7_lamp 81 = .ok (.aload_n 0, 1) := by decide +kernel
theorem dX7_lamp_82 : decode cX7_lamp 82 = .ok (.iload_n 1, 1) := by decide +kernel
theorem dX7_lamp_83 : decode cX7_lamp 83 = .ok (.invokevirtual 91, 3) := by decide +kernel
theorem dX7_lamp_86 : decode cX7_lamp 86 = .ok (.ifCond .eq 7, 3) := by decide +kernel
theorem dX7_lamp_89 : decode cX7_lamp 89 = .ok (.iconst 1, 1) := by decide +kernel
theorem dX7_lamp_90 : decode cX7_lamp 90 = .ok (.goto 4, 3) := by decide +kernel
theorem dX7_lamp_93 : decode cX7_lamp 93 = .ok (.iconst 0, 1) := by decide +kernel
theorem dX7_lamp_94 : decode cX7_lamp 94 = .ok (.ireturn, 1) := by decide +kernel
theorem dX7_lamp_95 : decode cX7_lamp 95 = .ok (.aload_n 0, 1) := by decide +kernel
theorem dX7_lamp_96 : decode cX7_lamp 96 = .ok (.iload_n 1, 1) := by decide +kernel
theorem dX7_lamp_97 : decode cX7_lamp 97 = .ok (.bipush 6, 2) := by decide +kernel
theorem dX7_lamp_99 : decode cX7_lamp 99 = .ok (.invokevirtual 32, 3) := by decide +kernel
theorem dX7_lamp_102 : decode cX7_lamp 102 = .ok (.ireturn, 1) := by decide +kernel
theorem dX7_lamp_103 : decode cX7_lamp 103 = .ok (.aload_n 0, 1) := by decide +kernel
theorem dX7_lamp_104 : decode cX7_lamp 104 = .ok (.iload_n 1, 1) := by decide +kernel
theorem dX7_lamp_105 : decode cX7_lamp 105 = .ok (.bipush 7, 2) := by decide +kernel
theorem dX7_lamp_107 : decode cX7_lamp 107 = .ok (.invokevirtual 32, 3) := by decide +kernel
theorem dX7_lamp_110 : decode cX7_lamp 110 = .ok (.ireturn, 1) := by decide +kernel
theorem dX7_lamp_111 : decode cX7_lamp 111 = .ok (.sipush (-1002), 3) := by decide +kernel
theorem dX7_lamp_114 : decode cX7_lamp 114 = .ok (.ireturn, 1) := by decide +kernel
set_option maxRecDepth 20000 in
theorem ggX7_lampsIn_X7_of : GoodIn wsX7_lampsIn wsX7_of := goodIn_r _ [6, 1, 11, 12, 13, 14, 15, 16, 17, 18, 19, 20, 21, 22, 23] (by decide +kernel) (by decide +kernel)
set_option maxRecDepth 20000 in
theorem gX7_lampsIn_X7_of : GoodIn wsX7_lampsIn (wsV RX7 32 RX7 yX7_of wsX7_of) := goodIn_app (goodIn_of _ (by decide +kernel)) ggX7_lampsIn_X7_of
set_option maxRecDepth 20000 in
theorem ggX7_lampsIn_X7_isDead : GoodIn wsX7_lampsIn wsX7_isDead := goodIn_r _ [10, 2, 3, 4, 5, 6, 1, 11, 12, 13, 14, 15, 16, 17, 18, 19, 20, 21, 22, 23] (by decide +kernel) (by decide +kernel)
set_option maxRecDepth 20000 in
theorem gX7_lampsIn_X7_isDead : GoodIn wsX7_lampsIn (wsV RX7 91 RX7 yX7_isDead wsX7_isDead) := goodIn_app (goodIn_of _ (by decide +kernel)) ggX7_lampsIn_X7_isDead
theorem dX7_lampsIn_0 : decode cX7_lampsIn 0 = .ok (.iconst 0, 1) := by decide +kernel
theorem dX7_lampsIn_1 : decode cX7_lampsIn 1 = .ok (.istore_n 3, 1) := by decide +kernel
theorem dX7_lampsIn_2 : decode cX7_lampsIn 2 = .ok (.iconst 0, 1) := by decide +kernel
theorem dX7_lampsIn_3 : decode cX7_lampsIn 3 = .ok (.istore 4, 2) := by decide +kernel
theorem dX7_lampsIn_5 : decode cX7_lampsIn 5 = .ok (.iload 4, 2) := by decide +kernel
theorem dX7_lampsIn_7 : decode cX7_lampsIn 7 = .ok (.aload_n 0, 1) := by decide +kernel
theorem dX7_lampsIn_8 : decode cX7_lampsIn 8 = .ok (.getfield 7, 3) := by decide +kernel
theorem dX7_lampsIn_11 : decode cX7_lampsIn 11 = .ok (.iconst 3, 1) := by decide +kernel
theorem dX7_lampsIn_12 : decode cX7_lampsIn 12 = .ok (.iaload, 1) := by decide +kernel
theorem dX7_lampsIn_13 : decode cX7_lampsIn 13 = .ok (.if_icmp .ge 41, 3) := by decide +kernel
theorem dX7_lampsIn_16 : decode cX7_lampsIn 16 = .ok (.iload_n 3, 1) := by decide +kernel
theorem dX7_lampsIn_17 : decode cX7_lampsIn 17 = .ok (.aload_n 0, 1) := by decide +kernel
theorem dX7_lampsIn_18 : decode cX7_lampsIn 18 = .ok (.iload 4, 2) := by decide +kernel
theorem dX7_lampsIn_20 : decode cX7_lampsIn 20 = .ok (.iconst 1, 1) := by decide +kernel
theorem dX7_lampsIn_21 : decode cX7_lampsIn 21 = .ok (.invokevirtual 32, 3) := by decide +kernel
theorem dX7_lampsIn_24 : decode cX7_lampsIn 24 = .ok (.iload_n 1, 1) := by decide +kernel
theorem dX7_lampsIn_25 : decode cX7_lampsIn 25 = .ok (.if_icmp .ne 20, 3) := by decide +kernel
theorem dX7_lampsIn_28 : decode cX7_lampsIn 28 = .ok (.iload_n 2, 1) := by decide +kernel
theorem dX7_lampsIn_29 : decode cX7_lampsIn 29 = .ok (.ifCond .ne 12, 3) := by decide +kernel
theorem dX7_lampsIn_32 : decode cX7_lampsIn 32 = .ok (.aload_n 0, 1) := by decide +kernel
theorem dX7_lampsIn_33 : decode cX7_lampsIn 33 = .ok (.iload 4, 2) := by decide +kernel
theorem dX7_lampsIn_35 : decode cX7_lampsIn 35 = .ok (.invokevirtual 91, 3) := by decide +kernel
theorem dX7_lampsIn_38 : decode cX7_lampsIn 38 = .ok (.ifCond .ne 7, 3) := by decide +kernel
theorem dX7_lampsIn_41 : decode cX7_lampsIn 41 = .ok (.iconst 1, 1) := by decide +kernel
theorem dX7_lampsIn_42 : decode cX7_lampsIn 42 = .ok (.goto 4, 3) := by decide +kernel
theorem dX7_lampsIn_45 : decode cX7_lampsIn 45 = .ok (.iconst 0, 1) := by decide +kernel
theorem dX7_lampsIn_46 : decode cX7_lampsIn 46 = .ok (.iadd, 1) := by decide +kernel
theorem dX7_lampsIn_47 : decode cX7_lampsIn 47 = .ok (.istore_n 3, 1) := by decide +kernel
theorem dX7_lampsIn_48 : decode cX7_lampsIn 48 = .ok (.iinc 4 1, 3) := by decide +kernel
theorem dX7_lampsIn_51 : decode cX7_lampsIn 51 = .ok (.goto (-46), 3) := by decide +kernel
theorem dX7_lampsIn_54 : decode cX7_lampsIn 54 = .ok (.iload_n 3, 1) := by decide +kernel
theorem dX7_lampsIn_55 : decode cX7_lampsIn 55 = .ok (.ireturn, 1) := by decide +kernel
set_option maxRecDepth 20000 in
theorem ggX7_rack_X7_isRack : GoodIn wsX7_rack wsX7_isRack := goodIn_r _ [4, 5, 6, 3, 7] (by decide +kernel) (by decide +kernel)
set_option maxRecDepth 20000 in
theorem gX7_rack_X7_isRack : GoodIn wsX7_rack (va_wsS RX7 59 yX7_isRack wsX7_isRack) := goodIn_app (goodIn_of _ (by decide +kernel)) ggX7_rack_X7_isRack
set_option maxRecDepth 20000 in
theorem ggX7_rack_X7_ofRack : GoodIn wsX7_rack wsX7_ofRack := goodIn_r _ [11, 12, 29, 30, 31, 32, 33, 34, 35, 36, 37, 38, 39, 40, 41] (by decide +kernel) (by decide +kernel)
set_option maxRecDepth 20000 in
theorem gX7_rack_X7_ofRack : GoodIn wsX7_rack (wsV RX7 85 RX7 yX7_ofRack wsX7_ofRack) := goodIn_app (goodIn_of _ (by decide +kernel)) ggX7_rack_X7_ofRack
set_option maxRecDepth 20000 in
theorem ggX7_rack_X7_lampsIn : GoodIn wsX7_rack wsX7_lampsIn := goodIn_r _ [16, 12, 17, 18, 19, 3, 20, 21, 22, 23, 24, 29, 30, 31, 32, 33, 34, 35, 36, 37, 38, 39, 40, 41] (by decide +kernel) (by decide +kernel)
set_option maxRecDepth 20000 in
theorem gX7_rack_X7_lampsIn : GoodIn wsX7_rack (wsV RX7 164 RX7 yX7_lampsIn wsX7_lampsIn) := goodIn_app (goodIn_of _ (by decide +kernel)) ggX7_rack_X7_lampsIn
set_option maxRecDepth 20000 in
theorem ggX7_rack_X7_wearAt : GoodIn wsX7_rack wsX7_wearAt := goodIn_r _ [28, 12, 29, 30, 31, 32, 33, 34, 35, 36, 37, 38, 39, 40, 41] (by decide +kernel) (by decide +kernel)
set_option maxRecDepth 20000 in
theorem gX7_rack_X7_wearAt : GoodIn wsX7_rack (wsV RX7 100 RX7 yX7_wearAt wsX7_wearAt) := goodIn_app (goodIn_of _ (by decide +kernel)) ggX7_rack_X7_wearAt
theorem dX7_rack_0 : decode cX7_rack 0 = .ok (.iload_n 1, 1) := by decide +kernel
theorem dX7_rack_1 : decode cX7_rack 1 = .ok (.invokestatic 59, 3) := by decide +kernel
theorem dX7_rack_4 : decode cX7_rack 4 = .ok (.ifCond .ne 7, 3) := by decide +kernel
theorem dX7_rack_7 : decode cX7_rack 7 = .ok (.sipush (-1001), 3) := by decide +kernel
theorem dX7_rack_10 : decode cX7_rack 10 = .ok (.ireturn, 1) := by decide +kernel
theorem dX7_rack_11 : decode cX7_rack 11 = .ok (.aload_n 0, 1) := by decide +kernel
theorem dX7_rack_12 : decode cX7_rack 12 = .ok (.iload_n 1, 1) := by decide +kernel
theorem dX7_rack_13 : decode cX7_rack 13 = .ok (.iconst 0, 1) := by decide +kernel
theorem dX7_rack_14 : decode cX7_rack 14 = .ok (.invokevirtual 85, 3) := by decide +kernel
theorem dX7_rack_17 : decode cX7_rack 17 = .ok (.istore_n 3, 1) := by decide +kernel
theorem dX7_rack_18 : decode cX7_rack 18 = .ok (.iload_n 2, 1) := by decide +kernel
theorem dX7_rack_19 : decode cX7_rack 19 = .ok (.tableswitch 134 0 7 #[45, 47, 54, 61, 76, 91, 98, 105], 45) := by decide +kernel
theorem dX7_rack_64 : decode cX7_rack 64 = .ok (.iload_n 3, 1) := by decide +kernel
theorem dX7_rack_65 : decode cX7_rack 65 = .ok (.ireturn, 1) := by decide +kernel
theorem dX7_rack_66 : decode cX7_rack 66 = .ok (.aload_n 0, 1) := by decide +kernel
theorem dX7_rack_67 : decode cX7_rack 67 = .ok (.iload_n 1, 1) := by decide +kernel
theorem dX7_rack_68 : decode cX7_rack 68 = .ok (.iconst 1, 1) := by decide +kernel
theorem dX7_rack_69 : decode cX7_rack 69 = .ok (.invokevirtual 164, 3) := by decide +kernel
theorem dX7_rack_72 : decode cX7_rack 72 = .ok (.ireturn, 1) := by decide +kernel
theorem dX7_rack_73 : decode cX7_rack 73 = .ok (.aload_n 0, 1) := by decide +kernel
theorem dX7_rack_74 : decode cX7_rack 74 = .ok (.iload_n 1, 1) := by decide +kernel
theorem dX7_rack_75 : decode cX7_rack 75 = .ok (.iconst 0, 1) := by decide +kernel
theorem dX7_rack_76 : decode cX7_rack 76 = .ok (.invokevirtual 164, 3) := by decide +kernel
theorem dX7_rack_79 : decode cX7_rack 79 = .ok (.ireturn, 1) := by decide +kernel
theorem dX7_rack_80 : decode cX7_rack 80 = .ok (.iload_n 3, 1) := by decide +kernel
theorem dX7_rack_81 : decode cX7_rack 81 = .ok (.ifCond .ne 7, 3) := by decide +kernel
theorem dX7_rack_84 : decode cX7_rack 84 = .ok (.iconst 0, 1) := by decide +kernel
theorem dX7_rack_85 : decode cX7_rack 85 = .ok (.goto 9, 3) := by decide +kernel
theorem dX7_rack_88 : decode cX7_rack 88 = .ok (.aload_n 0, 1) := by decide +kernel
theorem dX7_rack_89 : decode cX7_rack 89 = .ok (.iload_n 3, 1) := by decide +kernel
theorem dX7_rack_90 : decode cX7_rack 90 = .ok (.iconst 0, 1) := by decide +kernel
theorem dX7_rack_91 : decode cX7_rack 91 = .ok (.invokevirtual 100, 3) := by decide +kernel
theorem dX7_rack_94 : decode cX7_rack 94 = .ok (.ireturn, 1) := by decide +kernel
theorem dX7_rack_95 : decode cX7_rack 95 = .ok (.iload_n 3, 1) := by decide +kernel
theorem dX7_rack_96 : decode cX7_rack 96 = .ok (.ifCond .ne 7, 3) := by decide +kernel
theorem dX7_rack_99 : decode cX7_rack 99 = .ok (.iconst 0, 1) := by decide +kernel
theorem dX7_rack_100 : decode cX7_rack 100 = .ok (.goto 9, 3) := by decide +kernel
theorem dX7_rack_103 : decode cX7_rack 103 = .ok (.aload_n 0, 1) := by decide +kernel
theorem dX7_rack_104 : decode cX7_rack 104 = .ok (.iload_n 3, 1) := by decide +kernel
theorem dX7_rack_105 : decode cX7_rack 105 = .ok (.iconst 1, 1) := by decide +kernel
theorem dX7_rack_106 : decode cX7_rack 106 = .ok (.invokevirtual 100, 3) := by decide +kernel
theorem dX7_rack_109 : decode cX7_rack 109 = .ok (.ireturn, 1) := by decide +kernel
theorem dX7_rack_110 : decode cX7_rack 110 = .ok (.aload_n 0, 1) := by decide +kernel
theorem dX7_rack_111 : decode cX7_rack 111 = .ok (.iload_n 1, 1) := by decide +kernel
theorem dX7_rack_112 : decode cX7_rack 112 = .ok (.iconst 1, 1) := by decide +kernel
theorem dX7_rack_113 : decode cX7_rack 113 = .ok (.invokevirtual 85, 3) := by decide +kernel
theorem dX7_rack_116 : decode cX7_rack 116 = .ok (.ireturn, 1) := by decide +kernel
theorem dX7_rack_117 : decode cX7_rack 117 = .ok (.aload_n 0, 1) := by decide +kernel
theorem dX7_rack_118 : decode cX7_rack 118 = .ok (.iload_n 1, 1) := by decide +kernel
theorem dX7_rack_119 : decode cX7_rack 119 = .ok (.iconst 2, 1) := by decide +kernel
theorem dX7_rack_120 : decode cX7_rack 120 = .ok (.invokevirtual 85, 3) := by decide +kernel
theorem dX7_rack_123 : decode cX7_rack 123 = .ok (.ireturn, 1) := by decide +kernel
theorem dX7_rack_124 : decode cX7_rack 124 = .ok (.aload_n 0, 1) := by decide +kernel
theorem dX7_rack_125 : decode cX7_rack 125 = .ok (.iload_n 1, 1) := by decide +kernel
theorem dX7_rack_126 : decode cX7_rack 126 = .ok (.iconst 1, 1) := by decide +kernel
theorem dX7_rack_127 : decode cX7_rack 127 = .ok (.invokevirtual 85, 3) := by decide +kernel
theorem dX7_rack_130 : decode cX7_rack 130 = .ok (.ifCond .ne 9, 3) := by decide +kernel
theorem dX7_rack_133 : decode cX7_rack 133 = .ok (.sipush (-1005), 3) := by decide +kernel
theorem dX7_rack_136 : decode cX7_rack 136 = .ok (.goto 16, 3) := by decide +kernel
theorem dX7_rack_139 : decode cX7_rack 139 = .ok (.aload_n 0, 1) := by decide +kernel
theorem dX7_rack_140 : decode cX7_rack 140 = .ok (.iload_n 1, 1) := by decide +kernel
theorem dX7_rack_141 : decode cX7_rack 141 = .ok (.iconst 1, 1) := by decide +kernel
theorem dX7_rack_142 : decode cX7_rack 142 = .ok (.invokevirtual 85, 3) := by decide +kernel
theorem dX7_rack_145 : decode cX7_rack 145 = .ok (.aload_n 0, 1) := by decide +kernel
theorem dX7_rack_146 : decode cX7_rack 146 = .ok (.iload_n 1, 1) := by decide +kernel
theorem dX7_rack_147 : decode cX7_rack 147 = .ok (.iconst 3, 1) := by decide +kernel
theorem dX7_rack_148 : decode cX7_rack 148 = .ok (.invokevirtual 85, 3) := by decide +kernel
theorem dX7_rack_151 : decode cX7_rack 151 = .ok (.isub, 1) := by decide +kernel
theorem dX7_rack_152 : decode cX7_rack 152 = .ok (.ireturn, 1) := by decide +kernel
theorem dX7_rack_153 : decode cX7_rack 153 = .ok (.sipush (-1002), 3) := by decide +kernel
theorem dX7_rack_156 : decode cX7_rack 156 = .ok (.ireturn, 1) := by decide +kernel
set_option maxRecDepth 20000 in
theorem ggX7_at_X7_isRack : GoodIn wsX7_at wsX7_isRack := goodIn_r _ [4, 5, 6, 3, 7] (by decide +kernel) (by decide +kernel)
set_option maxRecDepth 20000 in
theorem gX7_at_X7_isRack : GoodIn wsX7_at (va_wsS RX7 59 yX7_isRack wsX7_isRack) := goodIn_app (goodIn_of _ (by decide +kernel)) ggX7_at_X7_isRack
set_option maxRecDepth 20000 in
theorem ggX7_at_X7_isPlace : GoodIn wsX7_at wsX7_isPlace := goodIn_r _ [10, 5, 6, 3, 7] (by decide +kernel) (by decide +kernel)
set_option maxRecDepth 20000 in
theorem gX7_at_X7_isPlace : GoodIn wsX7_at (va_wsS RX7 62 yX7_isPlace wsX7_isPlace) := goodIn_app (goodIn_of _ (by decide +kernel)) ggX7_at_X7_isPlace
set_option maxRecDepth 20000 in
theorem ggX7_at_X7_lampAt : GoodIn wsX7_at wsX7_lampAt := goodIn_r _ [14, 15, 16, 17, 18, 3, 19, 20, 21, 22, 23, 24, 25, 26, 27, 28, 29, 30, 31, 32] (by decide +kernel) (by decide +kernel)
set_option maxRecDepth 20000 in
theorem gX7_at_X7_lampAt : GoodIn wsX7_at (wsV RX7 65 RX7 yX7_lampAt wsX7_lampAt) := goodIn_app (goodIn_of _ (by decide +kernel)) ggX7_at_X7_lampAt
theorem dX7_at_0 : decode cX7_at 0 = .ok (.iload_n 1, 1) := by decide +kernel
theorem dX7_at_1 : decode cX7_at 1 = .ok (.invokestatic 59, 3) := by decide +kernel
theorem dX7_at_4 : decode cX7_at 4 = .ok (.ifCond .eq 19, 3) := by decide +kernel
theorem dX7_at_7 : decode cX7_at 7 = .ok (.iload_n 2, 1) := by decide +kernel
theorem dX7_at_8 : decode cX7_at 8 = .ok (.invokestatic 62, 3) := by decide +kernel
theorem dX7_at_11 : decode cX7_at 11 = .ok (.ifCond .eq 12, 3) := by decide +kernel
theorem dX7_at_14 : decode cX7_at 14 = .ok (.aload_n 0, 1) := by decide +kernel
theorem dX7_at_15 : decode cX7_at 15 = .ok (.iload_n 1, 1) := by decide +kernel
theorem dX7_at_16 : decode cX7_at 16 = .ok (.iload_n 2, 1) := by decide +kernel
theorem dX7_at_17 : decode cX7_at 17 = .ok (.invokevirtual 65, 3) := by decide +kernel
theorem dX7_at_20 : decode cX7_at 20 = .ok (.goto 6, 3) := by decide +kernel
theorem dX7_at_23 : decode cX7_at 23 = .ok (.sipush (-1001), 3) := by decide +kernel
theorem dX7_at_26 : decode cX7_at 26 = .ok (.ireturn, 1) := by decide +kernel
set_option maxRecDepth 20000 in
theorem ggX7_lampsOf_X7_isDead : GoodIn wsX7_lampsOf wsX7_isDead := goodIn_r _ [6, 7, 8, 9, 5, 10, 1, 15, 16, 17, 18, 19, 20, 21, 22, 23, 24, 25, 26, 27] (by decide +kernel) (by decide +kernel)
set_option maxRecDepth 20000 in
theorem gX7_lampsOf_X7_isDead : GoodIn wsX7_lampsOf (wsV RX7 91 RX7 yX7_isDead wsX7_isDead) := goodIn_app (goodIn_of _ (by decide +kernel)) ggX7_lampsOf_X7_isDead
set_option maxRecDepth 20000 in
theorem ggX7_lampsOf_X7_counts : GoodIn wsX7_lampsOf wsX7_counts := goodIn_r _ [14, 7, 8, 9, 5, 10, 1, 15, 16, 17, 18, 19, 20, 21, 22, 23, 24, 25, 26, 27] (by decide +kernel) (by decide +kernel)
set_option maxRecDepth 20000 in
theorem gX7_lampsOf_X7_counts : GoodIn wsX7_lampsOf (wsV RX7 161 RX7 yX7_counts wsX7_counts) := goodIn_app (goodIn_of _ (by decide +kernel)) ggX7_lampsOf_X7_counts
set_option maxRecDepth 20000 in
theorem ggX7_lampsOf_X7_of : GoodIn wsX7_lampsOf wsX7_of := goodIn_r _ [10, 1, 15, 16, 17, 18, 19, 20, 21, 22, 23, 24, 25, 26, 27] (by decide +kernel) (by decide +kernel)
set_option maxRecDepth 20000 in
theorem gX7_lampsOf_X7_of : GoodIn wsX7_lampsOf (wsV RX7 32 RX7 yX7_of wsX7_of) := goodIn_app (goodIn_of _ (by decide +kernel)) ggX7_lampsOf_X7_of
theorem dX7_lampsOf_0 : decode cX7_lampsOf 0 = .ok (.iconst 0, 1) := by decide +kernel
theorem dX7_lampsOf_1 : decode cX7_lampsOf 1 = .ok (.istore 4, 2) := by decide +kernel
theorem dX7_lampsOf_3 : decode cX7_lampsOf 3 = .ok (.iconst 0, 1) := by decide +kernel
theorem dX7_lampsOf_4 : decode cX7_lampsOf 4 = .ok (.istore 5, 2) := by decide +kernel
theorem dX7_lampsOf_6 : decode cX7_lampsOf 6 = .ok (.iload 5, 2) := by decide +kernel
theorem dX7_lampsOf_8 : decode cX7_lampsOf 8 = .ok (.aload_n 0, 1) := by decide +kernel
theorem dX7_lampsOf_9 : decode cX7_lampsOf 9 = .ok (.getfield 7, 3) := by decide +kernel
theorem dX7_lampsOf_12 : decode cX7_lampsOf 12 = .ok (.iconst 3, 1) := by decide +kernel
theorem dX7_lampsOf_13 : decode cX7_lampsOf 13 = .ok (.iaload, 1) := by decide +kernel
theorem dX7_lampsOf_14 : decode cX7_lampsOf 14 = .ok (.if_icmp .ge 99, 3) := by decide +kernel
theorem dX7_lampsOf_17 : decode cX7_lampsOf 17 = .ok (.iload_n 2, 1) := by decide +kernel
theorem dX7_lampsOf_18 : decode cX7_lampsOf 18 = .ok (.ifCond .eq 56, 3) := by decide +kernel
theorem dX7_lampsOf_21 : decode cX7_lampsOf 21 = .ok (.iload_n 2, 1) := by decide +kernel
theorem dX7_lampsOf_22 : decode cX7_lampsOf 22 = .ok (.iconst 1, 1) := by decide +kernel
theorem dX7_lampsOf_23 : decode cX7_lampsOf 23 = .ok (.if_icmp .ne 12, 3) := by decide +kernel
theorem dX7_lampsOf_26 : decode cX7_lampsOf 26 = .ok (.aload_n 0, 1) := by decide +kernel
theorem dX7_lampsOf_27 : decode cX7_lampsOf 27 = .ok (.iload 5, 2) := by decide +kernel
theorem dX7_lampsOf_29 : decode cX7_lampsOf 29 = .ok (.invokevirtual 91, 3) := by decide +kernel
theorem dX7_lampsOf_32 : decode cX7_lampsOf 32 = .ok (.ifCond .ne 42, 3) := by decide +kernel
theorem dX7_lampsOf_35 : decode cX7_lampsOf 35 = .ok (.iload_n 2, 1) := by decide +kernel
theorem dX7_lampsOf_36 : decode cX7_lampsOf 36 = .ok (.iconst 2, 1) := by decide +kernel
theorem dX7_lampsOf_37 : decode cX7_lampsOf 37 = .ok (.if_icmp .ne 22, 3) := by decide +kernel
theorem dX7_lampsOf_40 : decode cX7_lampsOf 40 = .ok (.aload_n 0, 1) := by decide +kernel
theorem dX7_lampsOf_41 : decode cX7_lampsOf 41 = .ok (.iload 5, 2) := by decide +kernel
theorem dX7_lampsOf_43 : decode cX7_lampsOf 43 = .ok (.invokevirtual 91, 3) := by decide +kernel
theorem dX7_lampsOf_46 : decode cX7_lampsOf 46 = .ok (.ifCond .eq 13, 3) := by decide +kernel
theorem dX7_lampsOf_49 : decode cX7_lampsOf 49 = .ok (.aload_n 0, 1) := by decide +kernel
theorem dX7_lampsOf_50 : decode cX7_lampsOf 50 = .ok (.iload 5, 2) := by decide +kernel
theorem dX7_lampsOf_52 : decode cX7_lampsOf 52 = .ok (.invokevirtual 161, 3) := by decide +kernel
theorem dX7_lampsOf_55 : decode cX7_lampsOf 55 = .ok (.iload_n 3, 1) := by decide +kernel
theorem dX7_lampsOf_56 : decode cX7_lampsOf 56 = .ok (.if_icmp .lt 18, 3) := by decide +kernel
theorem dX7_lampsOf_59 : decode cX7_lampsOf 59 = .ok (.iload_n 2, 1) := by decide +kernel
theorem dX7_lampsOf_60 : decode cX7_lampsOf 60 = .ok (.iconst 3, 1) := by decide +kernel
theorem dX7_lampsOf_61 : decode cX7_lampsOf 61 = .ok (.if_icmp .ne 17, 3) := by decide +kernel
theorem dX7_lampsOf_64 : decode cX7_lampsOf 64 = .ok (.aload_n 0, 1) := by decide +kernel
theorem dX7_lampsOf_65 : decode cX7_lampsOf 65 = .ok (.iload 5, 2) := by decide +kernel
theorem dX7_lampsOf_67 : decode cX7_lampsOf 67 = .ok (.invokevirtual 161, 3) := by decide +kernel
theorem dX7_lampsOf_70 : decode cX7_lampsOf 70 = .ok (.iload_n 3, 1) := by decide +kernel
theorem dX7_lampsOf_71 : decode cX7_lampsOf 71 = .ok (.if_icmp .lt 7, 3) := by decide +kernel
theorem dX7_lampsOf_74 : decode cX7_lampsOf 74 = .ok (.iconst 1, 1) := by decide +kernel
theorem dX7_lampsOf_75 : decode cX7_lampsOf 75 = .ok (.goto 4, 3) := by decide +kernel
theorem dX7_lampsOf_78 : decode cX7_lampsOf 78 = .ok (.iconst 0, 1) := by decide +kernel
theorem dX7_lampsOf_79 : decode cX7_lampsOf 79 = .ok (.istore 6, 2) := by decide +kernel
theorem dX7_lampsOf_81 : decode cX7_lampsOf 81 = .ok (.iload 4, 2) := by decide +kernel
theorem dX7_lampsOf_83 : decode cX7_lampsOf 83 = .ok (.aload_n 0, 1) := by decide +kernel
theorem dX7_lampsOf_84 : decode cX7_lampsOf 84 = .ok (.iload 5, 2) := by decide +kernel
theorem dX7_lampsOf_86 : decode cX7_lampsOf 86 = .ok (.iconst 0, 1) := by decide +kernel
theorem dX7_lampsOf_87 : decode cX7_lampsOf 87 = .ok (.invokevirtual 32, 3) := by decide +kernel
theorem dX7_lampsOf_90 : decode cX7_lampsOf 90 = .ok (.iload_n 1, 1) := by decide +kernel
theorem dX7_lampsOf_91 : decode cX7_lampsOf 91 = .ok (.if_icmp .ne 12, 3) := by decide +kernel
theorem dX7_lampsOf_94 : decode cX7_lampsOf 94 = .ok (.iload 6, 2) := by decide +kernel
theorem dX7_lampsOf_96 : decode cX7_lampsOf 96 = .ok (.ifCond .eq 7, 3) := by decide +kernel
theorem dX7_lampsOf_99 : decode cX7_lampsOf 99 = .ok (.iconst 1, 1) := by decide +kernel
theorem dX7_lampsOf_100 : decode cX7_lampsOf 100 = .ok (.goto 4, 3) := by decide +kernel
theorem dX7_lampsOf_103 : decode cX7_lampsOf 103 = .ok (.iconst 0, 1) := by decide +kernel
theorem dX7_lampsOf_104 : decode cX7_lampsOf 104 = .ok (.iadd, 1) := by decide +kernel
theorem dX7_lampsOf_105 : decode cX7_lampsOf 105 = .ok (.istore 4, 2) := by decide +kernel
theorem dX7_lampsOf_107 : decode cX7_lampsOf 107 = .ok (.iinc 5 1, 3) := by decide +kernel
theorem dX7_lampsOf_110 : decode cX7_lampsOf 110 = .ok (.goto (-104), 3) := by decide +kernel
theorem dX7_lampsOf_113 : decode cX7_lampsOf 113 = .ok (.iload 4, 2) := by decide +kernel
theorem dX7_lampsOf_115 : decode cX7_lampsOf 115 = .ok (.ireturn, 1) := by decide +kernel
set_option maxRecDepth 20000 in
theorem ggX7_middleLife_X7_lampsOf : GoodIn wsX7_middleLife wsX7_lampsOf := goodIn_r _ [6, 1, 7, 8, 9, 5, 10, 11, 12, 13, 14, 15, 16, 17, 18, 19, 20, 21, 22, 23, 24, 25, 26, 27, 28, 29, 30, 31] (by decide +kernel) (by decide +kernel)
set_option maxRecDepth 20000 in
theorem gX7_middleLife_X7_lampsOf : GoodIn wsX7_middleLife (wsV RX7 167 RX7 yX7_lampsOf wsX7_lampsOf) := goodIn_app (goodIn_of _ (by decide +kernel)) ggX7_middleLife_X7_lampsOf
set_option maxRecDepth 20000 in
theorem ggX7_middleLife_X7_of : GoodIn wsX7_middleLife wsX7_of := goodIn_r _ [14, 1, 19, 20, 21, 22, 23, 24, 25, 26, 27, 28, 29, 30, 31] (by decide +kernel) (by decide +kernel)
set_option maxRecDepth 20000 in
theorem gX7_middleLife_X7_of : GoodIn wsX7_middleLife (wsV RX7 32 RX7 yX7_of wsX7_of) := goodIn_app (goodIn_of _ (by decide +kernel)) ggX7_middleLife_X7_of
set_option maxRecDepth 20000 in
theorem ggX7_middleLife_X7_isDead : GoodIn wsX7_middleLife wsX7_isDead := goodIn_r _ [10, 11, 12, 13, 5, 14, 1, 19, 20, 21, 22, 23, 24, 25, 26, 27, 28, 29, 30, 31] (by decide +kernel) (by decide +kernel)
set_option maxRecDepth 20000 in
theorem gX7_middleLife_X7_isDead : GoodIn wsX7_middleLife (wsV RX7 91 RX7 yX7_isDead wsX7_isDead) := goodIn_app (goodIn_of _ (by decide +kernel)) ggX7_middleLife_X7_isDead
set_option maxRecDepth 20000 in
theorem ggX7_middleLife_X7_counts : GoodIn wsX7_middleLife wsX7_counts := goodIn_r _ [18, 11, 12, 13, 5, 14, 1, 19, 20, 21, 22, 23, 24, 25, 26, 27, 28, 29, 30, 31] (by decide +kernel) (by decide +kernel)
set_option maxRecDepth 20000 in
theorem gX7_middleLife_X7_counts : GoodIn wsX7_middleLife (wsV RX7 161 RX7 yX7_counts wsX7_counts) := goodIn_app (goodIn_of _ (by decide +kernel)) ggX7_middleLife_X7_counts
theorem dX7_middleLife_0 : decode cX7_middleLife 0 = .ok (.aload_n 0, 1) := by decide +kernel
theorem dX7_middleLife_1 : decode cX7_middleLife 1 = .ok (.iload_n 1, 1) := by decide +kernel
theorem dX7_middleLife_2 : decode cX7_middleLife 2 = .ok (.iconst 0, 1) := by decide +kernel
theorem dX7_middleLife_3 : decode cX7_middleLife 3 = .ok (.iconst 0, 1) := by decide +kernel
theorem dX7_middleLife_4 : decode cX7_middleLife 4 = .ok (.invokevirtual 167, 3) := by decide +kernel
theorem dX7_middleLife_7 : decode cX7_middleLife 7 = .ok (.istore_n 2, 1) := by decide +kernel
theorem dX7_middleLife_8 : decode cX7_middleLife 8 = .ok (.iload_n 2, 1) := by decide +kernel
theorem dX7_middleLife_9 : decode cX7_middleLife 9 = .ok (.ifCond .eq 16, 3) := by decide +kernel
theorem dX7_middleLife_12 : decode cX7_middleLife 12 = .ok (.iconst 2, 1) := by decide +kernel
theorem dX7_middleLife_13 : decode cX7_middleLife 13 = .ok (.aload_n 0, 1) := by decide +kernel
theorem dX7_middleLife_14 : decode cX7_middleLife 14 = .ok (.iload_n 1, 1) := by decide +kernel
theorem dX7_middleLife_15 : decode cX7_middleLife 15 = .ok (.iconst 1, 1) := by decide +kernel
theorem dX7_middleLife_16 : decode cX7_middleLife 16 = .ok (.iconst 0, 1) := by decide +kernel
theorem dX7_middleLife_17 : decode cX7_middleLife 17 = .ok (.invokevirtual 167, 3) := by decide +kernel
theorem dX7_middleLife_20 : decode cX7_middleLife 20 = .ok (.imul, 1) := by decide +kernel
theorem dX7_middleLife_21 : decode cX7_middleLife 21 = .ok (.iload_n 2, 1) := by decide +kernel
theorem dX7_middleLife_22 : decode cX7_middleLife 22 = .ok (.if_icmp .ge 7, 3) := by decide +kernel
theorem dX7_middleLife_25 : decode cX7_middleLife 25 = .ok (.sipush (-1005), 3) := by decide +kernel
theorem dX7_middleLife_28 : decode cX7_middleLife 28 = .ok (.ireturn, 1) := by decide +kernel
theorem dX7_middleLife_29 : decode cX7_middleLife 29 = .ok (.sipush (-1005), 3) := by decide +kernel
theorem dX7_middleLife_32 : decode cX7_middleLife 32 = .ok (.istore_n 3, 1) := by decide +kernel
theorem dX7_middleLife_33 : decode cX7_middleLife 33 = .ok (.iconst 0, 1) := by decide +kernel
theorem dX7_middleLife_34 : decode cX7_middleLife 34 = .ok (.istore 4, 2) := by decide +kernel
theorem dX7_middleLife_36 : decode cX7_middleLife 36 = .ok (.iload 4, 2) := by decide +kernel
theorem dX7_middleLife_38 : decode cX7_middleLife 38 = .ok (.aload_n 0, 1) := by decide +kernel
theorem dX7_middleLife_39 : decode cX7_middleLife 39 = .ok (.getfield 7, 3) := by decide +kernel
theorem dX7_middleLife_42 : decode cX7_middleLife 42 = .ok (.iconst 3, 1) := by decide +kernel
theorem dX7_middleLife_43 : decode cX7_middleLife 43 = .ok (.iaload, 1) := by decide +kernel
theorem dX7_middleLife_44 : decode cX7_middleLife 44 = .ok (.if_icmp .ge 89, 3) := by decide +kernel
theorem dX7_middleLife_47 : decode cX7_middleLife 47 = .ok (.aload_n 0, 1) := by decide +kernel
theorem dX7_middleLife_48 : decode cX7_middleLife 48 = .ok (.iload 4, 2) := by decide +kernel
theorem dX7_middleLife_50 : decode cX7_middleLife 50 = .ok (.iconst 0, 1) := by decide +kernel
theorem dX7_middleLife_51 : decode cX7_middleLife 51 = .ok (.invokevirtual 32, 3) := by decide +kernel
theorem dX7_middleLife_54 : decode cX7_middleLife 54 = .ok (.iload_n 1, 1) := by decide +kernel
theorem dX7_middleLife_55 : decode cX7_middleLife 55 = .ok (.if_icmp .ne 36, 3) := by decide +kernel
theorem dX7_middleLife_58 : decode cX7_middleLife 58 = .ok (.aload_n 0, 1) := by decide +kernel
theorem dX7_middleLife_59 : decode cX7_middleLife 59 = .ok (.iload 4, 2) := by decide +kernel
theorem dX7_middleLife_61 : decode cX7_middleLife 61 = .ok (.invokevirtual 91, 3) := by decide +kernel
theorem dX7_middleLife_64 : decode cX7_middleLife 64 = .ok (.ifCond .eq 27, 3) := by decide +kernel
theorem dX7_middleLife_67 : decode cX7_middleLife 67 = .ok (.iconst 2, 1) := by decide +kernel
theorem dX7_middleLife_68 : decode cX7_middleLife 68 = .ok (.aload_n 0, 1) := by decide +kernel
theorem dX7_middleLife_69 : decode cX7_middleLife 69 = .ok (.iload_n 1, 1) := by decide +kernel
theorem dX7_middleLife_70 : decode cX7_middleLife 70 = .ok (.iconst 2, 1) := by decide +kernel
theorem dX7_middleLife_71 : decode cX7_middleLife 71 = .ok (.aload_n 0, 1) := by decide +kernel
theorem dX7_middleLife_72 : decode cX7_middleLife 72 = .ok (.iload 4, 2) := by decide +kernel
theorem dX7_middleLife_74 : decode cX7_middleLife 74 = .ok (.invokevirtual 161, 3) := by decide +kernel
theorem dX7_middleLife_77 : decode cX7_middleLife 77 = .ok (.iconst 1, 1) := by decide +kernel
theorem dX7_middleLife_78 : decode cX7_middleLife 78 = .ok (.iadd, 1) := by decide +kernel
theorem dX7_middleLife_79 : decode cX7_middleLife 79 = .ok (.invokevirtual 167, 3) := by decide +kernel
theorem dX7_middleLife_82 : decode cX7_middleLife 82 = .ok (.imul, 1) := by decide +kernel
theorem dX7_middleLife_83 : decode cX7_middleLife 83 = .ok (.iload_n 2, 1) := by decide +kernel
theorem dX7_middleLife_84 : decode cX7_middleLife 84 = .ok (.if_icmp .lt 7, 3) := by decide +kernel
theorem dX7_middleLife_87 : decode cX7_middleLife 87 = .ok (.iconst 1, 1) := by decide +kernel
theorem dX7_middleLife_88 : decode cX7_middleLife 88 = .ok (.goto 4, 3) := by decide +kernel
theorem dX7_middleLife_91 : decode cX7_middleLife 91 = .ok (.iconst 0, 1) := by decide +kernel
theorem dX7_middleLife_92 : decode cX7_middleLife 92 = .ok (.istore 5, 2) := by decide +kernel
theorem dX7_middleLife_94 : decode cX7_middleLife 94 = .ok (.iload 5, 2) := by decide +kernel
theorem dX7_middleLife_96 : decode cX7_middleLife 96 = .ok (.ifCond .eq 29, 3) := by decide +kernel
theorem dX7_middleLife_99 : decode cX7_middleLife 99 = .ok (.iload_n 3, 1) := by decide +kernel
theorem dX7_middleLife_100 : decode cX7_middleLife 100 = .ok (.sipush (-1005), 3) := by decide +kernel
theorem dX7_middleLife_103 : decode cX7_middleLife 103 = .ok (.if_icmp .eq 13, 3) := by decide +kernel
theorem dX7_middleLife_106 : decode cX7_middleLife 106 = .ok (.aload_n 0, 1) := by decide +kernel
theorem dX7_middleLife_107 : decode cX7_middleLife 107 = .ok (.iload 4, 2) := by decide +kernel
theorem dX7_middleLife_109 : decode cX7_middleLife 109 = .ok (.invokevirtual 161, 3) := by decide +kernel
theorem dX7_middleLife_112 : decode cX7_middleLife 112 = .ok (.iload_n 3, 1) := by decide +kernel
theorem dX7_middleLife_113 : decode cX7_middleLife 113 = .ok (.if_icmp .ge 12, 3) := by decide +kernel
theorem dX7_middleLife_116 : decode cX7_middleLife 116 = .ok (.aload_n 0, 1) := by decide +kernel
theorem dX7_middleLife_117 : decode cX7_middleLife 117 = .ok (.iload 4, 2) := by decide +kernel
theorem dX7_middleLife_119 : decode cX7_middleLife 119 = .ok (.invokevirtual 161, 3) := by decide +kernel
theorem dX7_middleLife_122 : decode cX7_middleLife 122 = .ok (.goto 4, 3) := by decide +kernel
theorem dX7_middleLife_125 : decode cX7_middleLife 125 = .ok (.iload_n 3, 1) := by decide +kernel
theorem dX7_middleLife_126 : decode cX7_middleLife 126 = .ok (.istore_n 3, 1) := by decide +kernel
theorem dX7_middleLife_127 : decode cX7_middleLife 127 = .ok (.iinc 4 1, 3) := by decide +kernel
theorem dX7_middleLife_130 : decode cX7_middleLife 130 = .ok (.goto (-94), 3) := by decide +kernel
theorem dX7_middleLife_133 : decode cX7_middleLife 133 = .ok (.iload_n 3, 1) := by decide +kernel
theorem dX7_middleLife_134 : decode cX7_middleLife 134 = .ok (.ireturn, 1) := by decide +kernel
set_option maxRecDepth 20000 in
theorem ggX7_early_X7_lampsOf : GoodIn wsX7_early wsX7_lampsOf := goodIn_r _ [6, 1, 7, 8, 9, 5, 10, 11, 12, 13, 14, 15, 16, 17, 18, 19, 20, 21, 22, 23, 24, 25, 26, 27, 28, 29, 30, 31] (by decide +kernel) (by decide +kernel)
set_option maxRecDepth 20000 in
theorem gX7_early_X7_lampsOf : GoodIn wsX7_early (wsV RX7 167 RX7 yX7_lampsOf wsX7_lampsOf) := goodIn_app (goodIn_of _ (by decide +kernel)) ggX7_early_X7_lampsOf
theorem dX7_early_0 : decode cX7_early 0 = .ok (.aload_n 0, 1) := by decide +kernel
theorem dX7_early_1 : decode cX7_early 1 = .ok (.iload_n 1, 1) := by decide +kernel
theorem dX7_early_2 : decode cX7_early 2 = .ok (.iconst 2, 1) := by decide +kernel
theorem dX7_early_3 : decode cX7_early 3 = .ok (.aload_n 0, 1) := by decide +kernel
theorem dX7_early_4 : decode cX7_early 4 = .ok (.getfield 7, 3) := by decide +kernel
theorem dX7_early_7 : decode cX7_early 7 = .ok (.iconst 4, 1) := by decide +kernel
theorem dX7_early_8 : decode cX7_early 8 = .ok (.iconst 2, 1) := by decide +kernel
theorem dX7_early_9 : decode cX7_early 9 = .ok (.iload_n 1, 1) := by decide +kernel
theorem dX7_early_10 : decode cX7_early 10 = .ok (.imul, 1) := by decide +kernel
theorem dX7_early_11 : decode cX7_early 11 = .ok (.iadd, 1) := by decide +kernel
theorem dX7_early_12 : decode cX7_early 12 = .ok (.iaload, 1) := by decide +kernel
theorem dX7_early_13 : decode cX7_early 13 = .ok (.iconst 2, 1) := by decide +kernel
theorem dX7_early_14 : decode cX7_early 14 = .ok (.idiv, 1) := by decide +kernel
theorem dX7_early_15 : decode cX7_early 15 = .ok (.invokevirtual 167, 3) := by decide +kernel
theorem dX7_early_18 : decode cX7_early 18 = .ok (.ireturn, 1) := by decide +kernel
set_option maxRecDepth 20000 in
theorem ggX7_batch_X7_isBatch : GoodIn wsX7_batch wsX7_isBatch := goodIn_r _ [5, 6, 7, 4, 8] (by decide +kernel) (by decide +kernel)
set_option maxRecDepth 20000 in
theorem gX7_batch_X7_isBatch : GoodIn wsX7_batch (va_wsS RX7 55 yX7_isBatch wsX7_isBatch) := goodIn_app (goodIn_of _ (by decide +kernel)) ggX7_batch_X7_isBatch
set_option maxRecDepth 20000 in
theorem ggX7_batch_X7_lampsOf : GoodIn wsX7_batch wsX7_lampsOf := goodIn_r _ [12, 1, 13, 14, 15, 4, 16, 17, 18, 19, 20, 21, 22, 23, 24, 33, 34, 35, 36, 37, 38, 39, 40, 41, 42, 43, 44, 45] (by decide +kernel) (by decide +kernel)
set_option maxRecDepth 20000 in
theorem gX7_batch_X7_lampsOf : GoodIn wsX7_batch (wsV RX7 167 RX7 yX7_lampsOf wsX7_lampsOf) := goodIn_app (goodIn_of _ (by decide +kernel)) ggX7_batch_X7_lampsOf
set_option maxRecDepth 20000 in
theorem ggX7_batch_X7_early : GoodIn wsX7_batch wsX7_early := goodIn_r _ [28, 1, 9, 10, 11, 4, 12, 13, 14, 15, 16, 17, 18, 19, 20, 21, 22, 23, 24, 33, 34, 35, 36, 37, 38, 39, 40, 41, 42, 43, 44, 45] (by decide +kernel) (by decide +kernel)
set_option maxRecDepth 20000 in
theorem gX7_batch_X7_early : GoodIn wsX7_batch (wsV RX7 170 RX7 yX7_early wsX7_early) := goodIn_app (goodIn_of _ (by decide +kernel)) ggX7_batch_X7_early
set_option maxRecDepth 20000 in
theorem ggX7_batch_X7_middleLife : GoodIn wsX7_batch wsX7_middleLife := goodIn_r _ [32, 1, 9, 10, 11, 4, 12, 13, 14, 15, 16, 17, 18, 19, 20, 21, 22, 23, 24, 33, 34, 35, 36, 37, 38, 39, 40, 41, 42, 43, 44, 45] (by decide +kernel) (by decide +kernel)
set_option maxRecDepth 20000 in
theorem gX7_batch_X7_middleLife : GoodIn wsX7_batch (wsV RX7 173 RX7 yX7_middleLife wsX7_middleLife) := goodIn_app (goodIn_of _ (by decide +kernel)) ggX7_batch_X7_middleLife
theorem dX7_batch_0 : decode cX7_batch 0 = .ok (.iload_n 1, 1) := by decide +kernel
theorem dX7_batch_1 : decode cX7_batch 1 = .ok (.invokestatic 55, 3) := by decide +kernel
theorem dX7_batch_4 : decode cX7_batch 4 = .ok (.ifCond .ne 7, 3) := by decide +kernel
theorem dX7_batch_7 : decode cX7_batch 7 = .ok (.sipush (-1001), 3) := by decide +kernel
theorem dX7_batch_10 : decode cX7_batch 10 = .ok (.ireturn, 1) := by decide +kernel
theorem dX7_batch_11 : decode cX7_batch 11 = .ok (.iload_n 2, 1) := by decide +kernel
theorem dX7_batch_12 : decode cX7_batch 12 = .ok (.tableswitch 108 0 6 #[44, 44, 57, 65, 73, 79, 85], 44) := by decide +kernel
theorem dX7_batch_56 : decode cX7_batch 56 = .ok (.aload_n 0, 1) := by decide +kernel
theorem dX7_batch_57 : decode cX7_batch 57 = .ok (.getfield 7, 3) := by decide +kernel
theorem dX7_batch_60 : decode cX7_batch 60 = .ok (.iconst 4, 1) := by decide +kernel
theorem dX7_batch_61 : decode cX7_batch 61 = .ok (.iconst 2, 1) := by decide +kernel
theorem dX7_batch_62 : decode cX7_batch 62 = .ok (.iload_n 1, 1) := by decide +kernel
theorem dX7_batch_63 : decode cX7_batch 63 = .ok (.imul, 1) := by decide +kernel
theorem dX7_batch_64 : decode cX7_batch 64 = .ok (.iadd, 1) := by decide +kernel
theorem dX7_batch_65 : decode cX7_batch 65 = .ok (.iload_n 2, 1) := by decide +kernel
theorem dX7_batch_66 : decode cX7_batch 66 = .ok (.iadd, 1) := by decide +kernel
theorem dX7_batch_67 : decode cX7_batch 67 = .ok (.iaload, 1) := by decide +kernel
theorem dX7_batch_68 : decode cX7_batch 68 = .ok (.ireturn, 1) := by decide +kernel
theorem dX7_batch_69 : decode cX7_batch 69 = .ok (.aload_n 0, 1) := by decide +kernel
theorem dX7_batch_70 : decode cX7_batch 70 = .ok (.iload_n 1, 1) := by decide +kernel
theorem dX7_batch_71 : decode cX7_batch 71 = .ok (.iconst 0, 1) := by decide +kernel
theorem dX7_batch_72 : decode cX7_batch 72 = .ok (.iconst 0, 1) := by decide +kernel
theorem dX7_batch_73 : decode cX7_batch 73 = .ok (.invokevirtual 167, 3) := by decide +kernel
theorem dX7_batch_76 : decode cX7_batch 76 = .ok (.ireturn, 1) := by decide +kernel
theorem dX7_batch_77 : decode cX7_batch 77 = .ok (.aload_n 0, 1) := by decide +kernel
theorem dX7_batch_78 : decode cX7_batch 78 = .ok (.iload_n 1, 1) := by decide +kernel
theorem dX7_batch_79 : decode cX7_batch 79 = .ok (.iconst 1, 1) := by decide +kernel
theorem dX7_batch_80 : decode cX7_batch 80 = .ok (.iconst 0, 1) := by decide +kernel
theorem dX7_batch_81 : decode cX7_batch 81 = .ok (.invokevirtual 167, 3) := by decide +kernel
theorem dX7_batch_84 : decode cX7_batch 84 = .ok (.ireturn, 1) := by decide +kernel
theorem dX7_batch_85 : decode cX7_batch 85 = .ok (.aload_n 0, 1) := by decide +kernel
theorem dX7_batch_86 : decode cX7_batch 86 = .ok (.iload_n 1, 1) := by decide +kernel
theorem dX7_batch_87 : decode cX7_batch 87 = .ok (.invokevirtual 170, 3) := by decide +kernel
theorem dX7_batch_90 : decode cX7_batch 90 = .ok (.ireturn, 1) := by decide +kernel
theorem dX7_batch_91 : decode cX7_batch 91 = .ok (.aload_n 0, 1) := by decide +kernel
theorem dX7_batch_92 : decode cX7_batch 92 = .ok (.iload_n 1, 1) := by decide +kernel
theorem dX7_batch_93 : decode cX7_batch 93 = .ok (.invokevirtual 173, 3) := by decide +kernel
theorem dX7_batch_96 : decode cX7_batch 96 = .ok (.ireturn, 1) := by decide +kernel
theorem dX7_batch_97 : decode cX7_batch 97 = .ok (.iconst 2, 1) := by decide +kernel
theorem dX7_batch_98 : decode cX7_batch 98 = .ok (.aload_n 0, 1) := by decide +kernel
theorem dX7_batch_99 : decode cX7_batch 99 = .ok (.iload_n 1, 1) := by decide +kernel
theorem dX7_batch_100 : decode cX7_batch 100 = .ok (.invokevirtual 170, 3) := by decide +kernel
theorem dX7_batch_103 : decode cX7_batch 103 = .ok (.imul, 1) := by decide +kernel
theorem dX7_batch_104 : decode cX7_batch 104 = .ok (.aload_n 0, 1) := by decide +kernel
theorem dX7_batch_105 : decode cX7_batch 105 = .ok (.iload_n 1, 1) := by decide +kernel
theorem dX7_batch_106 : decode cX7_batch 106 = .ok (.iconst 1, 1) := by decide +kernel
theorem dX7_batch_107 : decode cX7_batch 107 = .ok (.iconst 0, 1) := by decide +kernel
theorem dX7_batch_108 : decode cX7_batch 108 = .ok (.invokevirtual 167, 3) := by decide +kernel
theorem dX7_batch_111 : decode cX7_batch 111 = .ok (.if_icmp .le 7, 3) := by decide +kernel
theorem dX7_batch_114 : decode cX7_batch 114 = .ok (.iconst 1, 1) := by decide +kernel
theorem dX7_batch_115 : decode cX7_batch 115 = .ok (.goto 4, 3) := by decide +kernel
theorem dX7_batch_118 : decode cX7_batch 118 = .ok (.iconst 0, 1) := by decide +kernel
theorem dX7_batch_119 : decode cX7_batch 119 = .ok (.ireturn, 1) := by decide +kernel
theorem dX7_batch_120 : decode cX7_batch 120 = .ok (.sipush (-1002), 3) := by decide +kernel
theorem dX7_batch_123 : decode cX7_batch 123 = .ok (.ireturn, 1) := by decide +kernel
set_option maxRecDepth 20000 in
theorem ggX7_lasted_X7_isBatch : GoodIn wsX7_lasted wsX7_isBatch := goodIn_r _ [5, 6, 7, 4, 8] (by decide +kernel) (by decide +kernel)
set_option maxRecDepth 20000 in
theorem gX7_lasted_X7_isBatch : GoodIn wsX7_lasted (va_wsS RX7 55 yX7_isBatch wsX7_isBatch) := goodIn_app (goodIn_of _ (by decide +kernel)) ggX7_lasted_X7_isBatch
set_option maxRecDepth 20000 in
theorem ggX7_lasted_X7_in : GoodIn wsX7_lasted wsX7_in := goodIn_r _ [8] (by decide +kernel) (by decide +kernel)
set_option maxRecDepth 20000 in
theorem gX7_lasted_X7_in : GoodIn wsX7_lasted (va_wsS RX7 28 yX7_in wsX7_in) := goodIn_app (goodIn_of _ (by decide +kernel)) ggX7_lasted_X7_in
set_option maxRecDepth 20000 in
theorem ggX7_lasted_X7_lampsOf : GoodIn wsX7_lasted wsX7_lampsOf := goodIn_r _ [12, 13, 14, 15, 16, 4, 17, 18, 19, 20, 21, 22, 23, 24, 25, 26, 27, 28, 29, 30, 31, 32, 33, 34, 35, 36, 37, 38] (by decide +kernel) (by decide +kernel)
set_option maxRecDepth 20000 in
theorem gX7_lasted_X7_lampsOf : GoodIn wsX7_lasted (wsV RX7 167 RX7 yX7_lampsOf wsX7_lampsOf) := goodIn_app (goodIn_of _ (by decide +kernel)) ggX7_lasted_X7_lampsOf
theorem dX7_lasted_0 : decode cX7_lasted 0 = .ok (.iload_n 1, 1) := by decide +kernel
theorem dX7_lasted_1 : decode cX7_lasted 1 = .ok (.invokestatic 55, 3) := by decide +kernel
theorem dX7_lasted_4 : decode cX7_lasted 4 = .ok (.ifCond .ne 7, 3) := by decide +kernel
theorem dX7_lasted_7 : decode cX7_lasted 7 = .ok (.sipush (-1001), 3) := by decide +kernel
theorem dX7_lasted_10 : decode cX7_lasted 10 = .ok (.ireturn, 1) := by decide +kernel
theorem dX7_lasted_11 : decode cX7_lasted 11 = .ok (.iload_n 2, 1) := by decide +kernel
theorem dX7_lasted_12 : decode cX7_lasted 12 = .ok (.iconst 0, 1) := by decide +kernel
theorem dX7_lasted_13 : decode cX7_lasted 13 = .ok (.ldc 104, 2) := by decide +kernel
theorem dX7_lasted_15 : decode cX7_lasted 15 = .ok (.invokestatic 28, 3) := by decide +kernel
theorem dX7_lasted_18 : decode cX7_lasted 18 = .ok (.ifCond .eq 13, 3) := by decide +kernel
theorem dX7_lasted_21 : decode cX7_lasted 21 = .ok (.aload_n 0, 1) := by decide +kernel
theorem dX7_lasted_22 : decode cX7_lasted 22 = .ok (.iload_n 1, 1) := by decide +kernel
theorem dX7_lasted_23 : decode cX7_lasted 23 = .ok (.iconst 3, 1) := by decide +kernel
theorem dX7_lasted_24 : decode cX7_lasted 24 = .ok (.iload_n 2, 1) := by decide +kernel
theorem dX7_lasted_25 : decode cX7_lasted 25 = .ok (.invokevirtual 167, 3) := by decide +kernel
theorem dX7_lasted_28 : decode cX7_lasted 28 = .ok (.goto 6, 3) := by decide +kernel
theorem dX7_lasted_31 : decode cX7_lasted 31 = .ok (.sipush (-1002), 3) := by decide +kernel
theorem dX7_lasted_34 : decode cX7_lasted 34 = .ok (.ireturn, 1) := by decide +kernel
set_option maxRecDepth 20000 in
theorem ggX7_endsAhead_X7_isDead : GoodIn wsX7_endsAhead wsX7_isDead := goodIn_r _ [6, 7, 8, 9, 5, 10, 1, 11, 12, 13, 14, 15, 16, 17, 18, 19, 20, 21, 22, 23] (by decide +kernel) (by decide +kernel)
set_option maxRecDepth 20000 in
theorem gX7_endsAhead_X7_isDead : GoodIn wsX7_endsAhead (wsV RX7 91 RX7 yX7_isDead wsX7_isDead) := goodIn_app (goodIn_of _ (by decide +kernel)) ggX7_endsAhead_X7_isDead
set_option maxRecDepth 20000 in
theorem ggX7_endsAhead_X7_of : GoodIn wsX7_endsAhead wsX7_of := goodIn_r _ [10, 1, 11, 12, 13, 14, 15, 16, 17, 18, 19, 20, 21, 22, 23] (by decide +kernel) (by decide +kernel)
set_option maxRecDepth 20000 in
theorem gX7_endsAhead_X7_of : GoodIn wsX7_endsAhead (wsV RX7 32 RX7 yX7_of wsX7_of) := goodIn_app (goodIn_of _ (by decide +kernel)) ggX7_endsAhead_X7_of
theorem dX7_endsAhead_0 : decode cX7_endsAhead 0 = .ok (.iconst 0, 1) := by decide +kernel
theorem dX7_endsAhead_1 : decode cX7_endsAhead 1 = .ok (.istore_n 2, 1) := by decide +kernel
theorem dX7_endsAhead_2 : decode cX7_endsAhead 2 = .ok (.iconst 0, 1) := by decide +kernel
theorem dX7_endsAhead_3 : decode cX7_endsAhead 3 = .ok (.istore_n 3, 1) := by decide +kernel
theorem dX7_endsAhead_4 : decode cX7_endsAhead 4 = .ok (.iload_n 3, 1) := by decide +kernel
theorem dX7_endsAhead_5 : decode cX7_endsAhead 5 = .ok (.aload_n 0, 1) := by decide +kernel
theorem dX7_endsAhead_6 : decode cX7_endsAhead 6 = .ok (.getfield 7, 3) := by decide +kernel
theorem dX7_endsAhead_9 : decode cX7_endsAhead 9 = .ok (.iconst 3, 1) := by decide +kernel
theorem dX7_endsAhead_10 : decode cX7_endsAhead 10 = .ok (.iaload, 1) := by decide +kernel
theorem dX7_endsAhead_11 : decode cX7_endsAhead 11 = .ok (.if_icmp .ge 64, 3) := by decide +kernel
theorem dX7_endsAhead_14 : decode cX7_endsAhead 14 = .ok (.iload_n 2, 1) := by decide +kernel
theorem dX7_endsAhead_15 : decode cX7_endsAhead 15 = .ok (.aload_n 0, 1) := by decide +kernel
theorem dX7_endsAhead_16 : decode cX7_endsAhead 16 = .ok (.iload_n 3, 1) := by decide +kernel
theorem dX7_endsAhead_17 : decode cX7_endsAhead 17 = .ok (.invokevirtual 91, 3) := by decide +kernel
theorem dX7_endsAhead_20 : decode cX7_endsAhead 20 = .ok (.ifCond .eq 46, 3) := by decide +kernel
theorem dX7_endsAhead_23 : decode cX7_endsAhead 23 = .ok (.aload_n 0, 1) := by decide +kernel
theorem dX7_endsAhead_24 : decode cX7_endsAhead 24 = .ok (.iload_n 3, 1) := by decide +kernel
theorem dX7_endsAhead_25 : decode cX7_endsAhead 25 = .ok (.bipush 6, 2) := by decide +kernel
theorem dX7_endsAhead_27 : decode cX7_endsAhead 27 = .ok (.invokevirtual 32, 3) := by decide +kernel
theorem dX7_endsAhead_30 : decode cX7_endsAhead 30 = .ok (.aload_n 0, 1) := by decide +kernel
theorem dX7_endsAhead_31 : decode cX7_endsAhead 31 = .ok (.iload_n 1, 1) := by decide +kernel
theorem dX7_endsAhead_32 : decode cX7_endsAhead 32 = .ok (.bipush 6, 2) := by decide +kernel
theorem dX7_endsAhead_34 : decode cX7_endsAhead 34 = .ok (.invokevirtual 32, 3) := by decide +kernel
theorem dX7_endsAhead_37 : decode cX7_endsAhead 37 = .ok (.if_icmp .lt 25, 3) := by decide +kernel
theorem dX7_endsAhead_40 : decode cX7_endsAhead 40 = .ok (.aload_n 0, 1) := by decide +kernel
theorem dX7_endsAhead_41 : decode cX7_endsAhead 41 = .ok (.iload_n 3, 1) := by decide +kernel
theorem dX7_endsAhead_42 : decode cX7_endsAhead 42 = .ok (.bipush 6, 2) := by decide +kernel
theorem dX7_endsAhead_44 : decode cX7_endsAhead 44 = .ok (.invokevirtual 32, 3) := by decide +kernel
theorem dX7_endsAhead_47 : decode cX7_endsAhead 47 = .ok (.aload_n 0, 1) := by decide +kernel
theorem dX7_endsAhead_48 : decode cX7_endsAhead 48 = .ok (.iload_n 1, 1) := by decide +kernel
theorem dX7_endsAhead_49 : decode cX7_endsAhead 49 = .ok (.bipush 6, 2) := by decide +kernel
theorem dX7_endsAhead_51 : decode cX7_endsAhead 51 = .ok (.invokevirtual 32, 3) := by decide +kernel
theorem dX7_endsAhead_54 : decode cX7_endsAhead 54 = .ok (.if_icmp .ne 12, 3) := by decide +kernel
theorem dX7_endsAhead_57 : decode cX7_endsAhead 57 = .ok (.iload_n 3, 1) := by decide +kernel
theorem dX7_endsAhead_58 : decode cX7_endsAhead 58 = .ok (.iload_n 1, 1) := by decide +kernel
theorem dX7_endsAhead_59 : decode cX7_endsAhead 59 = .ok (.if_icmp .ge 7, 3) := by decide +kernel
theorem dX7_endsAhead_62 : decode cX7_endsAhead 62 = .ok (.iconst 1, 1) := by decide +kernel
theorem dX7_endsAhead_63 : decode cX7_endsAhead 63 = .ok (.goto 4, 3) := by decide +kernel
theorem dX7_endsAhead_66 : decode cX7_endsAhead 66 = .ok (.iconst 0, 1) := by decide +kernel
theorem dX7_endsAhead_67 : decode cX7_endsAhead 67 = .ok (.iadd, 1) := by decide +kernel
theorem dX7_endsAhead_68 : decode cX7_endsAhead 68 = .ok (.istore_n 2, 1) := by decide +kernel
theorem dX7_endsAhead_69 : decode cX7_endsAhead 69 = .ok (.iinc 3 1, 3) := by decide +kernel
theorem dX7_endsAhead_72 : decode cX7_endsAhead 72 = .ok (.goto (-68), 3) := by decide +kernel
theorem dX7_endsAhead_75 : decode cX7_endsAhead 75 = .ok (.iload_n 2, 1) := by decide +kernel
theorem dX7_endsAhead_76 : decode cX7_endsAhead 76 = .ok (.ireturn, 1) := by decide +kernel
set_option maxRecDepth 20000 in
theorem ggX7_ended_X7_isDead : GoodIn wsX7_ended wsX7_isDead := goodIn_r _ [6, 7, 8, 9, 5, 10, 1, 15, 16, 17, 18, 19, 20, 21, 22, 23, 24, 25, 26, 27] (by decide +kernel) (by decide +kernel)
set_option maxRecDepth 20000 in
theorem gX7_ended_X7_isDead : GoodIn wsX7_ended (wsV RX7 91 RX7 yX7_isDead wsX7_isDead) := goodIn_app (goodIn_of _ (by decide +kernel)) ggX7_ended_X7_isDead
set_option maxRecDepth 20000 in
theorem ggX7_ended_X7_endsAhead : GoodIn wsX7_ended wsX7_endsAhead := goodIn_r _ [14, 1, 2, 3, 4, 5, 6, 7, 8, 9, 10, 15, 16, 17, 18, 19, 20, 21, 22, 23, 24, 25, 26, 27] (by decide +kernel) (by decide +kernel)
set_option maxRecDepth 20000 in
theorem gX7_ended_X7_endsAhead : GoodIn wsX7_ended (wsV RX7 176 RX7 yX7_endsAhead wsX7_endsAhead) := goodIn_app (goodIn_of _ (by decide +kernel)) ggX7_ended_X7_endsAhead
theorem dX7_ended_0 : decode cX7_ended 0 = .ok (.iload_n 1, 1) := by decide +kernel
theorem dX7_ended_1 : decode cX7_ended 1 = .ok (.ifCond .ge 7, 3) := by decide +kernel
theorem dX7_ended_4 : decode cX7_ended 4 = .ok (.sipush (-1002), 3) := by decide +kernel
theorem dX7_ended_7 : decode cX7_ended 7 = .ok (.ireturn, 1) := by decide +kernel
theorem dX7_ended_8 : decode cX7_ended 8 = .ok (.sipush (-1005), 3) := by decide +kernel
theorem dX7_ended_11 : decode cX7_ended 11 = .ok (.istore_n 2, 1) := by decide +kernel
theorem dX7_ended_12 : decode cX7_ended 12 = .ok (.iconst 0, 1) := by decide +kernel
theorem dX7_ended_13 : decode cX7_ended 13 = .ok (.istore_n 3, 1) := by decide +kernel
theorem dX7_ended_14 : decode cX7_ended 14 = .ok (.iload_n 3, 1) := by decide +kernel
theorem dX7_ended_15 : decode cX7_ended 15 = .ok (.aload_n 0, 1) := by decide +kernel
theorem dX7_ended_16 : decode cX7_ended 16 = .ok (.getfield 7, 3) := by decide +kernel
theorem dX7_ended_19 : decode cX7_ended 19 = .ok (.iconst 3, 1) := by decide +kernel
theorem dX7_ended_20 : decode cX7_ended 20 = .ok (.iaload, 1) := by decide +kernel
theorem dX7_ended_21 : decode cX7_ended 21 = .ok (.if_icmp .ge 32, 3) := by decide +kernel
theorem dX7_ended_24 : decode cX7_ended 24 = .ok (.aload_n 0, 1) := by decide +kernel
theorem dX7_ended_25 : decode cX7_ended 25 = .ok (.iload_n 3, 1) := by decide +kernel
theorem dX7_ended_26 : decode cX7_ended 26 = .ok (.invokevirtual 91, 3) := by decide +kernel
theorem dX7_ended_29 : decode cX7_ended 29 = .ok (.ifCond .eq 16, 3) := by decide +kernel
theorem dX7_ended_32 : decode cX7_ended 32 = .ok (.aload_n 0, 1) := by decide +kernel
theorem dX7_ended_33 : decode cX7_ended 33 = .ok (.iload_n 3, 1) := by decide +kernel
theorem dX7_ended_34 : decode cX7_ended 34 = .ok (.invokevirtual 176, 3) := by decide +kernel
theorem dX7_ended_37 : decode cX7_ended 37 = .ok (.iload_n 1, 1) := by decide +kernel
theorem dX7_ended_38 : decode cX7_ended 38 = .ok (.if_icmp .ne 7, 3) := by decide +kernel
theorem dX7_ended_41 : decode cX7_ended 41 = .ok (.iload_n 3, 1) := by decide +kernel
theorem dX7_ended_42 : decode cX7_ended 42 = .ok (.goto 4, 3) := by decide +kernel
theorem dX7_ended_45 : decode cX7_ended 45 = .ok (.iload_n 2, 1) := by decide +kernel
theorem dX7_ended_46 : decode cX7_ended 46 = .ok (.istore_n 2, 1) := by decide +kernel
theorem dX7_ended_47 : decode cX7_ended 47 = .ok (.iinc 3 1, 3) := by decide +kernel
theorem dX7_ended_50 : decode cX7_ended 50 = .ok (.goto (-36), 3) := by decide +kernel
theorem dX7_ended_53 : decode cX7_ended 53 = .ok (.iload_n 2, 1) := by decide +kernel
theorem dX7_ended_54 : decode cX7_ended 54 = .ok (.ireturn, 1) := by decide +kernel
set_option maxRecDepth 20000 in
theorem ggX7_lasts_X7_isLamp : GoodIn wsX7_lasts wsX7_isLamp := goodIn_r _ [5, 6, 7, 8, 4, 9, 26, 27, 28, 29, 30, 31, 32, 33, 34, 35, 36, 37, 38] (by decide +kernel) (by decide +kernel)
set_option maxRecDepth 20000 in
theorem gX7_lasts_X7_isLamp : GoodIn wsX7_lasts (wsV RX7 158 RX7 yX7_isLamp wsX7_isLamp) := goodIn_app (goodIn_of _ (by decide +kernel)) ggX7_lasts_X7_isLamp
set_option maxRecDepth 20000 in
theorem ggX7_lasts_X7_in : GoodIn wsX7_lasts wsX7_in := goodIn_r _ [9] (by decide +kernel) (by decide +kernel)
set_option maxRecDepth 20000 in
theorem gX7_lasts_X7_in : GoodIn wsX7_lasts (va_wsS RX7 28 yX7_in wsX7_in) := goodIn_app (goodIn_of _ (by decide +kernel)) ggX7_lasts_X7_in
set_option maxRecDepth 20000 in
theorem ggX7_lasts_X7_isDead : GoodIn wsX7_lasts wsX7_isDead := goodIn_r _ [13, 14, 15, 16, 4, 17, 6, 26, 27, 28, 29, 30, 31, 32, 33, 34, 35, 36, 37, 38] (by decide +kernel) (by decide +kernel)
set_option maxRecDepth 20000 in
theorem gX7_lasts_X7_isDead : GoodIn wsX7_lasts (wsV RX7 91 RX7 yX7_isDead wsX7_isDead) := goodIn_app (goodIn_of _ (by decide +kernel)) ggX7_lasts_X7_isDead
set_option maxRecDepth 20000 in
theorem ggX7_lasts_X7_isHot : GoodIn wsX7_lasts wsX7_isHot := goodIn_r _ [21, 14, 15, 16, 4, 17, 6, 7, 8, 9, 26, 27, 28, 29, 30, 31, 32, 33, 34, 35, 36, 37, 38] (by decide +kernel) (by decide +kernel)
set_option maxRecDepth 20000 in
theorem gX7_lasts_X7_isHot : GoodIn wsX7_lasts (wsV RX7 97 RX7 yX7_isHot wsX7_isHot) := goodIn_app (goodIn_of _ (by decide +kernel)) ggX7_lasts_X7_isHot
set_option maxRecDepth 20000 in
theorem ggX7_lasts_X7_wearAt : GoodIn wsX7_lasts wsX7_wearAt := goodIn_r _ [25, 6, 26, 27, 28, 29, 30, 31, 32, 33, 34, 35, 36, 37, 38] (by decide +kernel) (by decide +kernel)
set_option maxRecDepth 20000 in
theorem gX7_lasts_X7_wearAt : GoodIn wsX7_lasts (wsV RX7 100 RX7 yX7_wearAt wsX7_wearAt) := goodIn_app (goodIn_of _ (by decide +kernel)) ggX7_lasts_X7_wearAt
set_option maxRecDepth 20000 in
theorem ggX7_lasts_X7_of : GoodIn wsX7_lasts wsX7_of := goodIn_r _ [17, 6, 26, 27, 28, 29, 30, 31, 32, 33, 34, 35, 36, 37, 38] (by decide +kernel) (by decide +kernel)
set_option maxRecDepth 20000 in
theorem gX7_lasts_X7_of : GoodIn wsX7_lasts (wsV RX7 32 RX7 yX7_of wsX7_of) := goodIn_app (goodIn_of _ (by decide +kernel)) ggX7_lasts_X7_of
theorem dX7_lasts_0 : decode cX7_lasts 0 = .ok (.aload_n 0, 1) := by decide +kernel
theorem dX7_lasts_1 : decode cX7_lasts 1 = .ok (.iload_n 1, 1) := by decide +kernel
theorem dX7_lasts_2 : decode cX7_lasts 2 = .ok (.invokevirtual 158, 3) := by decide +kernel
theorem dX7_lasts_5 : decode cX7_lasts 5 = .ok (.ifCond .ne 7, 3) := by decide +kernel
theorem dX7_lasts_8 : decode cX7_lasts 8 = .ok (.sipush (-1001), 3) := by decide +kernel
theorem dX7_lasts_11 : decode cX7_lasts 11 = .ok (.ireturn, 1) := by decide +kernel
theorem dX7_lasts_12 : decode cX7_lasts 12 = .ok (.iload_n 2, 1) := by decide +kernel
theorem dX7_lasts_13 : decode cX7_lasts 13 = .ok (.iconst 1, 1) := by decide +kernel
theorem dX7_lasts_14 : decode cX7_lasts 14 = .ok (.sipush 300, 3) := by decide +kernel
theorem dX7_lasts_17 : decode cX7_lasts 17 = .ok (.invokestatic 28, 3) := by decide +kernel
theorem dX7_lasts_20 : decode cX7_lasts 20 = .ok (.ifCond .ne 7, 3) := by decide +kernel
theorem dX7_lasts_23 : decode cX7_lasts 23 = .ok (.sipush (-1002), 3) := by decide +kernel
theorem dX7_lasts_26 : decode cX7_lasts 26 = .ok (.ireturn, 1) := by decide +kernel
theorem dX7_lasts_27 : decode cX7_lasts 27 = .ok (.aload_n 0, 1) := by decide +kernel
theorem dX7_lasts_28 : decode cX7_lasts 28 = .ok (.iload_n 1, 1) := by decide +kernel
theorem dX7_lasts_29 : decode cX7_lasts 29 = .ok (.invokevirtual 91, 3) := by decide +kernel
theorem dX7_lasts_32 : decode cX7_lasts 32 = .ok (.ifCond .eq 7, 3) := by decide +kernel
theorem dX7_lasts_35 : decode cX7_lasts 35 = .ok (.sipush (-1004), 3) := by decide +kernel
theorem dX7_lasts_38 : decode cX7_lasts 38 = .ok (.ireturn, 1) := by decide +kernel
theorem dX7_lasts_39 : decode cX7_lasts 39 = .ok (.aload_n 0, 1) := by decide +kernel
theorem dX7_lasts_40 : decode cX7_lasts 40 = .ok (.iload_n 2, 1) := by decide +kernel
theorem dX7_lasts_41 : decode cX7_lasts 41 = .ok (.aload_n 0, 1) := by decide +kernel
theorem dX7_lasts_42 : decode cX7_lasts 42 = .ok (.iload_n 1, 1) := by decide +kernel
theorem dX7_lasts_43 : decode cX7_lasts 43 = .ok (.invokevirtual 97, 3) := by decide +kernel
theorem dX7_lasts_46 : decode cX7_lasts 46 = .ok (.invokevirtual 100, 3) := by decide +kernel
theorem dX7_lasts_49 : decode cX7_lasts 49 = .ok (.istore_n 3, 1) := by decide +kernel
theorem dX7_lasts_50 : decode cX7_lasts 50 = .ok (.bipush 10, 2) := by decide +kernel
theorem dX7_lasts_52 : decode cX7_lasts 52 = .ok (.aload_n 0, 1) := by decide +kernel
theorem dX7_lasts_53 : decode cX7_lasts 53 = .ok (.iload_n 1, 1) := by decide +kernel
theorem dX7_lasts_54 : decode cX7_lasts 54 = .ok (.iconst 3, 1) := by decide +kernel
theorem dX7_lasts_55 : decode cX7_lasts 55 = .ok (.invokevirtual 32, 3) := by decide +kernel
theorem dX7_lasts_58 : decode cX7_lasts 58 = .ok (.imul, 1) := by decide +kernel
theorem dX7_lasts_59 : decode cX7_lasts 59 = .ok (.aload_n 0, 1) := by decide +kernel
theorem dX7_lasts_60 : decode cX7_lasts 60 = .ok (.iload_n 1, 1) := by decide +kernel
theorem dX7_lasts_61 : decode cX7_lasts 61 = .ok (.iconst 4, 1) := by decide +kernel
theorem dX7_lasts_62 : decode cX7_lasts 62 = .ok (.invokevirtual 32, 3) := by decide +kernel
theorem dX7_lasts_65 : decode cX7_lasts 65 = .ok (.isub, 1) := by decide +kernel
theorem dX7_lasts_66 : decode cX7_lasts 66 = .ok (.iload_n 3, 1) := by decide +kernel
theorem dX7_lasts_67 : decode cX7_lasts 67 = .ok (.iadd, 1) := by decide +kernel
theorem dX7_lasts_68 : decode cX7_lasts 68 = .ok (.iconst 1, 1) := by decide +kernel
theorem dX7_lasts_69 : decode cX7_lasts 69 = .ok (.isub, 1) := by decide +kernel
theorem dX7_lasts_70 : decode cX7_lasts 70 = .ok (.iload_n 3, 1) := by decide +kernel
theorem dX7_lasts_71 : decode cX7_lasts 71 = .ok (.idiv, 1) := by decide +kernel
theorem dX7_lasts_72 : decode cX7_lasts 72 = .ok (.ireturn, 1) := by decide +kernel
set_option maxRecDepth 20000 in
theorem ggX7_reason_X7_isLamp : GoodIn wsX7_reason wsX7_isLamp := goodIn_r _ [5, 6, 7, 8, 4, 9, 26, 27, 28, 29, 30, 31, 32, 33, 34, 35, 36, 37, 38] (by decide +kernel) (by decide +kernel)
set_option maxRecDepth 20000 in
theorem gX7_reason_X7_isLamp : GoodIn wsX7_reason (wsV RX7 158 RX7 yX7_isLamp wsX7_isLamp) := goodIn_app (goodIn_of _ (by decide +kernel)) ggX7_reason_X7_isLamp
set_option maxRecDepth 20000 in
theorem ggX7_reason_X7_isDead : GoodIn wsX7_reason wsX7_isDead := goodIn_r _ [13, 14, 15, 16, 4, 17, 6, 26, 27, 28, 29, 30, 31, 32, 33, 34, 35, 36, 37, 38] (by decide +kernel) (by decide +kernel)
set_option maxRecDepth 20000 in
theorem gX7_reason_X7_isDead : GoodIn wsX7_reason (wsV RX7 91 RX7 yX7_isDead wsX7_isDead) := goodIn_app (goodIn_of _ (by decide +kernel)) ggX7_reason_X7_isDead
set_option maxRecDepth 20000 in
theorem ggX7_reason_X7_of : GoodIn wsX7_reason wsX7_of := goodIn_r _ [17, 6, 26, 27, 28, 29, 30, 31, 32, 33, 34, 35, 36, 37, 38] (by decide +kernel) (by decide +kernel)
set_option maxRecDepth 20000 in
theorem gX7_reason_X7_of : GoodIn wsX7_reason (wsV RX7 32 RX7 yX7_of wsX7_of) := goodIn_app (goodIn_of _ (by decide +kernel)) ggX7_reason_X7_of
set_option maxRecDepth 20000 in
theorem ggX7_reason_X7_burns : GoodIn wsX7_reason wsX7_burns := goodIn_r _ [21, 10, 11, 12, 4, 13, 14, 15, 16, 17, 6, 22, 23, 24, 25, 26, 27, 28, 29, 30, 31, 32, 33, 34, 35, 36, 37, 38] (by decide +kernel) (by decide +kernel)
set_option maxRecDepth 20000 in
theorem gX7_reason_X7_burns : GoodIn wsX7_reason (wsV RX7 94 RX7 yX7_burns wsX7_burns) := goodIn_app (goodIn_of _ (by decide +kernel)) ggX7_reason_X7_burns
theorem dX7_reason_0 : decode cX7_reason 0 = .ok (.aload_n 0, 1) := by decide +kernel
theorem dX7_reason_1 : decode cX7_reason 1 = .ok (.iload_n 1, 1) := by decide +kernel
theorem dX7_reason_2 : decode cX7_reason 2 = .ok (.invokevirtual 158, 3) := by decide +kernel
theorem dX7_reason_5 : decode cX7_reason 5 = .ok (.ifCond .ne 7, 3) := by decide +kernel
theorem dX7_reason_8 : decode cX7_reason 8 = .ok (.sipush (-1001), 3) := by decide +kernel
theorem dX7_reason_11 : decode cX7_reason 11 = .ok (.ireturn, 1) := by decide +kernel
theorem dX7_reason_12 : decode cX7_reason 12 = .ok (.aload_n 0, 1) := by decide +kernel
theorem dX7_reason_13 : decode cX7_reason 13 = .ok (.iload_n 1, 1) := by decide +kernel
theorem dX7_reason_14 : decode cX7_reason 14 = .ok (.invokevirtual 91, 3) := by decide +kernel
theorem dX7_reason_17 : decode cX7_reason 17 = .ok (.ifCond .eq 7, 3) := by decide +kernel
theorem dX7_reason_20 : decode cX7_reason 20 = .ok (.iconst 1, 1) := by decide +kernel
theorem dX7_reason_21 : decode cX7_reason 21 = .ok (.goto 32, 3) := by decide +kernel
theorem dX7_reason_24 : decode cX7_reason 24 = .ok (.aload_n 0, 1) := by decide +kernel
theorem dX7_reason_25 : decode cX7_reason 25 = .ok (.iload_n 1, 1) := by decide +kernel
theorem dX7_reason_26 : decode cX7_reason 26 = .ok (.iconst 1, 1) := by decide +kernel
theorem dX7_reason_27 : decode cX7_reason 27 = .ok (.invokevirtual 32, 3) := by decide +kernel
theorem dX7_reason_30 : decode cX7_reason 30 = .ok (.sipush (-1005), 3) := by decide +kernel
theorem dX7_reason_33 : decode cX7_reason 33 = .ok (.if_icmp .ne 7, 3) := by decide +kernel
theorem dX7_reason_36 : decode cX7_reason 36 = .ok (.iconst 2, 1) := by decide +kernel
theorem dX7_reason_37 : decode cX7_reason 37 = .ok (.goto 16, 3) := by decide +kernel
theorem dX7_reason_40 : decode cX7_reason 40 = .ok (.aload_n 0, 1) := by decide +kernel
theorem dX7_reason_41 : decode cX7_reason 41 = .ok (.iload_n 1, 1) := by decide +kernel
theorem dX7_reason_42 : decode cX7_reason 42 = .ok (.invokevirtual 94, 3) := by decide +kernel
theorem dX7_reason_45 : decode cX7_reason 45 = .ok (.ifCond .eq 7, 3) := by decide +kernel
theorem dX7_reason_48 : decode cX7_reason 48 = .ok (.iconst 0, 1) := by decide +kernel
theorem dX7_reason_49 : decode cX7_reason 49 = .ok (.goto 4, 3) := by decide +kernel
theorem dX7_reason_52 : decode cX7_reason 52 = .ok (.iconst 3, 1) := by decide +kernel
theorem dX7_reason_53 : decode cX7_reason 53 = .ok (.ireturn, 1) := by decide +kernel
set_option maxRecDepth 20000 in
theorem ggX7_firstEndedAt_X7_of : GoodIn wsX7_firstEndedAt wsX7_of := goodIn_r _ [6, 1, 7, 8, 9, 10, 11, 12, 13, 14, 15, 16, 17, 18, 19] (by decide +kernel) (by decide +kernel)
set_option maxRecDepth 20000 in
theorem gX7_firstEndedAt_X7_of : GoodIn wsX7_firstEndedAt (wsV RX7 32 RX7 yX7_of wsX7_of) := goodIn_app (goodIn_of _ (by decide +kernel)) ggX7_firstEndedAt_X7_of
theorem dX7_firstEndedAt_0 : decode cX7_firstEndedAt 0 = .ok (.sipush (-1005), 3) := by decide +kernel
theorem dX7_firstEndedAt_3 : decode cX7_firstEndedAt 3 = .ok (.istore_n 2, 1) := by decide +kernel
theorem dX7_firstEndedAt_4 : decode cX7_firstEndedAt 4 = .ok (.aload_n 0, 1) := by decide +kernel
theorem dX7_firstEndedAt_5 : decode cX7_firstEndedAt 5 = .ok (.getfield 7, 3) := by decide +kernel
theorem dX7_firstEndedAt_8 : decode cX7_firstEndedAt 8 = .ok (.iconst 3, 1) := by decide +kernel
theorem dX7_firstEndedAt_9 : decode cX7_firstEndedAt 9 = .ok (.iaload, 1) := by decide +kernel
theorem dX7_firstEndedAt_10 : decode cX7_firstEndedAt 10 = .ok (.iconst 1, 1) := by decide +kernel
theorem dX7_firstEndedAt_11 : decode cX7_firstEndedAt 11 = .ok (.isub, 1) := by decide +kernel
theorem dX7_firstEndedAt_12 : decode cX7_firstEndedAt 12 = .ok (.istore_n 3, 1) := by decide +kernel
theorem dX7_firstEndedAt_13 : decode cX7_firstEndedAt 13 = .ok (.iload_n 3, 1) := by decide +kernel
theorem dX7_firstEndedAt_14 : decode cX7_firstEndedAt 14 = .ok (.ifCond .lt 26, 3) := by decide +kernel
theorem dX7_firstEndedAt_17 : decode cX7_firstEndedAt 17 = .ok (.aload_n 0, 1) := by decide +kernel
theorem dX7_firstEndedAt_18 : decode cX7_firstEndedAt 18 = .ok (.iload_n 3, 1) := by decide +kernel
theorem dX7_firstEndedAt_19 : decode cX7_firstEndedAt 19 = .ok (.bipush 6, 2) := by decide +kernel
theorem dX7_firstEndedAt_21 : decode cX7_firstEndedAt 21 = .ok (.invokevirtual 32, 3) := by decide +kernel
theorem dX7_firstEndedAt_24 : decode cX7_firstEndedAt 24 = .ok (.iload_n 1, 1) := by decide +kernel
theorem dX7_firstEndedAt_25 : decode cX7_firstEndedAt 25 = .ok (.if_icmp .ne 7, 3) := by decide +kernel
theorem dX7_firstEndedAt_28 : decode cX7_firstEndedAt 28 = .ok (.iload_n 3, 1) := by decide +kernel
theorem dX7_firstEndedAt_29 : decode cX7_firstEndedAt 29 = .ok (.goto 4, 3) := by decide +kernel
theorem dX7_firstEndedAt_32 : decode cX7_firstEndedAt 32 = .ok (.iload_n 2, 1) := by decide +kernel
theorem dX7_firstEndedAt_33 : decode cX7_firstEndedAt 33 = .ok (.istore_n 2, 1) := by decide +kernel
theorem dX7_firstEndedAt_34 : decode cX7_firstEndedAt 34 = .ok (.iinc 3 (-1), 3) := by decide +kernel
theorem dX7_firstEndedAt_37 : decode cX7_firstEndedAt 37 = .ok (.goto (-24), 3) := by decide +kernel
theorem dX7_firstEndedAt_40 : decode cX7_firstEndedAt 40 = .ok (.iload_n 2, 1) := by decide +kernel
theorem dX7_firstEndedAt_41 : decode cX7_firstEndedAt 41 = .ok (.ireturn, 1) := by decide +kernel
set_option maxRecDepth 20000 in
theorem ggX7_next_X7_in : GoodIn wsX7_next wsX7_in := goodIn_r _ [6] (by decide +kernel) (by decide +kernel)
set_option maxRecDepth 20000 in
theorem gX7_next_X7_in : GoodIn wsX7_next (va_wsS RX7 28 yX7_in wsX7_in) := goodIn_app (goodIn_of _ (by decide +kernel)) ggX7_next_X7_in
set_option maxRecDepth 20000 in
theorem ggX7_next_X7_copyState : GoodIn wsX7_next wsX7_copyState := goodIn_r _ [9] (by decide +kernel) (by decide +kernel)
set_option maxRecDepth 20000 in
theorem gX7_next_X7_copyState : GoodIn wsX7_next (va_wsS RX7 40 yX7_copyState wsX7_copyState) := goodIn_app (goodIn_of _ (by decide +kernel)) ggX7_next_X7_copyState
set_option maxRecDepth 20000 in
theorem ggX7_next_X7_anHour : GoodIn wsX7_next wsX7_anHour := goodIn_r _ [13, 1, 14, 15, 16, 5, 17, 18, 19, 20, 21, 22, 23, 24, 25, 26, 27, 28, 29, 30, 31, 32, 33, 34, 35, 36, 37, 3, 4, 6, 38, 39, 40, 41, 46, 47, 48, 49, 50, 51, 52, 53, 54, 55, 56, 57, 58] (by decide +kernel) (by decide +kernel)
set_option maxRecDepth 20000 in
theorem gX7_next_X7_anHour : GoodIn wsX7_next (wsV RX7 105 RX7 yX7_anHour wsX7_anHour) := goodIn_app (goodIn_of _ (by decide +kernel)) ggX7_next_X7_anHour
set_option maxRecDepth 20000 in
theorem ggX7_next_X7_firstEndedAt : GoodIn wsX7_next wsX7_firstEndedAt := goodIn_r _ [45, 1, 22, 23, 24, 5, 25, 46, 47, 48, 49, 50, 51, 52, 53, 54, 55, 56, 57, 58] (by decide +kernel) (by decide +kernel)
set_option maxRecDepth 20000 in
theorem gX7_next_X7_firstEndedAt : GoodIn wsX7_next (wsV RX7 179 RX7 yX7_firstEndedAt wsX7_firstEndedAt) := goodIn_app (goodIn_of _ (by decide +kernel)) ggX7_next_X7_firstEndedAt
theorem dX7_next_0 : decode cX7_next 0 = .ok (.iload_n 1, 1) := by decide +kernel
theorem dX7_next_1 : decode cX7_next 1 = .ok (.iconst 0, 1) := by decide +kernel
theorem dX7_next_2 : decode cX7_next 2 = .ok (.iconst 1, 1) := by decide +kernel
theorem dX7_next_3 : decode cX7_next 3 = .ok (.invokestatic 28, 3) := by decide +kernel
theorem dX7_next_6 : decode cX7_next 6 = .ok (.ifCond .ne 7, 3) := by decide +kernel
theorem dX7_next_9 : decode cX7_next 9 = .ok (.sipush (-1002), 3) := by decide +kernel
theorem dX7_next_12 : decode cX7_next 12 = .ok (.ireturn, 1) := by decide +kernel
theorem dX7_next_13 : decode cX7_next 13 = .ok (.aload_n 0, 1) := by decide +kernel
theorem dX7_next_14 : decode cX7_next 14 = .ok (.getfield 7, 3) := by decide +kernel
theorem dX7_next_17 : decode cX7_next 17 = .ok (.iconst 0, 1) := by decide +kernel
theorem dX7_next_18 : decode cX7_next 18 = .ok (.aload_n 0, 1) := by decide +kernel
theorem dX7_next_19 : decode cX7_next 19 = .ok (.getfield 13, 3) := by decide +kernel
theorem dX7_next_22 : decode cX7_next 22 = .ok (.iconst 0, 1) := by decide +kernel
theorem dX7_next_23 : decode cX7_next 23 = .ok (.invokestatic 40, 3) := by decide +kernel
theorem dX7_next_26 : decode cX7_next 26 = .ok (.iconst 0, 1) := by decide +kernel
theorem dX7_next_27 : decode cX7_next 27 = .ok (.istore_n 2, 1) := by decide +kernel
theorem dX7_next_28 : decode cX7_next 28 = .ok (.iconst 0, 1) := by decide +kernel
theorem dX7_next_29 : decode cX7_next 29 = .ok (.istore_n 3, 1) := by decide +kernel
theorem dX7_next_30 : decode cX7_next 30 = .ok (.iload_n 3, 1) := by decide +kernel
theorem dX7_next_31 : decode cX7_next 31 = .ok (.ifCond .ne 21, 3) := by decide +kernel
theorem dX7_next_34 : decode cX7_next 34 = .ok (.iload_n 2, 1) := by decide +kernel
theorem dX7_next_35 : decode cX7_next 35 = .ok (.sipush 3000, 3) := by decide +kernel
theorem dX7_next_38 : decode cX7_next 38 = .ok (.if_icmp .ge 14, 3) := by decide +kernel
theorem dX7_next_41 : decode cX7_next 41 = .ok (.aload_n 0, 1) := by decide +kernel
theorem dX7_next_42 : decode cX7_next 42 = .ok (.invokevirtual 105, 3) := by decide +kernel
theorem dX7_next_45 : decode cX7_next 45 = .ok (.istore_n 3, 1) := by decide +kernel
theorem dX7_next_46 : decode cX7_next 46 = .ok (.iinc 2 1, 3) := by decide +kernel
theorem dX7_next_49 : decode cX7_next 49 = .ok (.goto (-19), 3) := by decide +kernel
theorem dX7_next_52 : decode cX7_next 52 = .ok (.iload_n 3, 1) := by decide +kernel
theorem dX7_next_53 : decode cX7_next 53 = .ok (.ifCond .ne 9, 3) := by decide +kernel
theorem dX7_next_56 : decode cX7_next 56 = .ok (.sipush (-1005), 3) := by decide +kernel
theorem dX7_next_59 : decode cX7_next 59 = .ok (.goto 13, 3) := by decide +kernel
theorem dX7_next_62 : decode cX7_next 62 = .ok (.aload_n 0, 1) := by decide +kernel
theorem dX7_next_63 : decode cX7_next 63 = .ok (.aload_n 0, 1) := by decide +kernel
theorem dX7_next_64 : decode cX7_next 64 = .ok (.getfield 7, 3) := by decide +kernel
theorem dX7_next_67 : decode cX7_next 67 = .ok (.iconst 2, 1) := by decide +kernel
theorem dX7_next_68 : decode cX7_next 68 = .ok (.iaload, 1) := by decide +kernel
theorem dX7_next_69 : decode cX7_next 69 = .ok (.invokevirtual 179, 3) := by decide +kernel
theorem dX7_next_72 : decode cX7_next 72 = .ok (.istore 4, 2) := by decide +kernel
theorem dX7_next_74 : decode cX7_next 74 = .ok (.aload_n 0, 1) := by decide +kernel
theorem dX7_next_75 : decode cX7_next 75 = .ok (.getfield 13, 3) := by decide +kernel
theorem dX7_next_78 : decode cX7_next 78 = .ok (.iconst 0, 1) := by decide +kernel
theorem dX7_next_79 : decode cX7_next 79 = .ok (.aload_n 0, 1) := by decide +kernel
theorem dX7_next_80 : decode cX7_next 80 = .ok (.getfield 7, 3) := by decide +kernel
theorem dX7_next_83 : decode cX7_next 83 = .ok (.iconst 0, 1) := by decide +kernel
theorem dX7_next_84 : decode cX7_next 84 = .ok (.invokestatic 40, 3) := by decide +kernel
theorem dX7_next_87 : decode cX7_next 87 = .ok (.iload_n 3, 1) := by decide +kernel
theorem dX7_next_88 : decode cX7_next 88 = .ok (.ifCond .eq 7, 3) := by decide +kernel
theorem dX7_next_91 : decode cX7_next 91 = .ok (.iload_n 1, 1) := by decide +kernel
theorem dX7_next_92 : decode cX7_next 92 = .ok (.ifCond .ne 8, 3) := by decide +kernel
theorem dX7_next_95 : decode cX7_next 95 = .ok (.iload 4, 2) := by decide +kernel
theorem dX7_next_97 : decode cX7_next 97 = .ok (.goto 4, 3) := by decide +kernel
theorem dX7_next_100 : decode cX7_next 100 = .ok (.iload_n 2, 1) := by decide +kernel
theorem dX7_next_101 : decode cX7_next 101 = .ok (.ireturn, 1) := by decide +kernel
set_option maxRecDepth 20000 in
theorem ggX7_sum_X7_of : GoodIn wsX7_sum wsX7_of := goodIn_r _ [6, 1, 7, 8, 9, 10, 11, 12, 13, 14, 15, 16, 17, 18, 19] (by decide +kernel) (by decide +kernel)
set_option maxRecDepth 20000 in
theorem gX7_sum_X7_of : GoodIn wsX7_sum (wsV RX7 32 RX7 yX7_of wsX7_of) := goodIn_app (goodIn_of _ (by decide +kernel)) ggX7_sum_X7_of
theorem dX7_sum_0 : decode cX7_sum 0 = .ok (.iconst 0, 1) := by decide +kernel
theorem dX7_sum_1 : decode cX7_sum 1 = .ok (.istore_n 2, 1) := by decide +kernel
theorem dX7_sum_2 : decode cX7_sum 2 = .ok (.iconst 0, 1) := by decide +kernel
theorem dX7_sum_3 : decode cX7_sum 3 = .ok (.istore_n 3, 1) := by decide +kernel
theorem dX7_sum_4 : decode cX7_sum 4 = .ok (.iload_n 3, 1) := by decide +kernel
theorem dX7_sum_5 : decode cX7_sum 5 = .ok (.aload_n 0, 1) := by decide +kernel
theorem dX7_sum_6 : decode cX7_sum 6 = .ok (.getfield 7, 3) := by decide +kernel
theorem dX7_sum_9 : decode cX7_sum 9 = .ok (.iconst 3, 1) := by decide +kernel
theorem dX7_sum_10 : decode cX7_sum 10 = .ok (.iaload, 1) := by decide +kernel
theorem dX7_sum_11 : decode cX7_sum 11 = .ok (.if_icmp .ge 18, 3) := by decide +kernel
theorem dX7_sum_14 : decode cX7_sum 14 = .ok (.iload_n 2, 1) := by decide +kernel
theorem dX7_sum_15 : decode cX7_sum 15 = .ok (.aload_n 0, 1) := by decide +kernel
theorem dX7_sum_16 : decode cX7_sum 16 = .ok (.iload_n 3, 1) := by decide +kernel
theorem dX7_sum_17 : decode cX7_sum 17 = .ok (.iload_n 1, 1) := by decide +kernel
theorem dX7_sum_18 : decode cX7_sum 18 = .ok (.invokevirtual 32, 3) := by decide +kernel
theorem dX7_sum_21 : decode cX7_sum 21 = .ok (.iadd, 1) := by decide +kernel
theorem dX7_sum_22 : decode cX7_sum 22 = .ok (.istore_n 2, 1) := by decide +kernel
theorem dX7_sum_23 : decode cX7_sum 23 = .ok (.iinc 3 1, 3) := by decide +kernel
theorem dX7_sum_26 : decode cX7_sum 26 = .ok (.goto (-22), 3) := by decide +kernel
theorem dX7_sum_29 : decode cX7_sum 29 = .ok (.iload_n 2, 1) := by decide +kernel
theorem dX7_sum_30 : decode cX7_sum 30 = .ok (.ireturn, 1) := by decide +kernel
set_option maxRecDepth 20000 in
theorem ggX7_burning_X7_burns : GoodIn wsX7_burning wsX7_burns := goodIn_r _ [6, 7, 8, 9, 5, 10, 11, 12, 13, 14, 1, 15, 16, 17, 18, 19, 20, 21, 22, 23, 24, 25, 26, 27, 28, 29, 30, 31] (by decide +kernel) (by decide +kernel)
set_option maxRecDepth 20000 in
theorem gX7_burning_X7_burns : GoodIn wsX7_burning (wsV RX7 94 RX7 yX7_burns wsX7_burns) := goodIn_app (goodIn_of _ (by decide +kernel)) ggX7_burning_X7_burns
theorem dX7_burning_0 : decode cX7_burning 0 = .ok (.iconst 0, 1) := by decide +kernel
theorem dX7_burning_1 : decode cX7_burning 1 = .ok (.istore_n 1, 1) := by decide +kernel
theorem dX7_burning_2 : decode cX7_burning 2 = .ok (.iconst 0, 1) := by decide +kernel
theorem dX7_burning_3 : decode cX7_burning 3 = .ok (.istore_n 2, 1) := by decide +kernel
theorem dX7_burning_4 : decode cX7_burning 4 = .ok (.iload_n 2, 1) := by decide +kernel
theorem dX7_burning_5 : decode cX7_burning 5 = .ok (.aload_n 0, 1) := by decide +kernel
theorem dX7_burning_6 : decode cX7_burning 6 = .ok (.getfield 7, 3) := by decide +kernel
theorem dX7_burning_9 : decode cX7_burning 9 = .ok (.iconst 3, 1) := by decide +kernel
theorem dX7_burning_10 : decode cX7_burning 10 = .ok (.iaload, 1) := by decide +kernel
theorem dX7_burning_11 : decode cX7_burning 11 = .ok (.if_icmp .ge 25, 3) := by decide +kernel
theorem dX7_burning_14 : decode cX7_burning 14 = .ok (.iload_n 1, 1) := by decide +kernel
theorem dX7_burning_15 : decode cX7_burning 15 = .ok (.aload_n 0, 1) := by decide +kernel
theorem dX7_burning_16 : decode cX7_burning 16 = .ok (.iload_n 2, 1) := by decide +kernel
theorem dX7_burning_17 : decode cX7_burning 17 = .ok (.invokevirtual 94, 3) := by decide +kernel
theorem dX7_burning_20 : decode cX7_burning 20 = .ok (.ifCond .eq 7, 3) := by decide +kernel
theorem dX7_burning_23 : decode cX7_burning 23 = .ok (.iconst 1, 1) := by decide +kernel
theorem dX7_burning_24 : decode cX7_burning 24 = .ok (.goto 4, 3) := by decide +kernel
theorem dX7_burning_27 : decode cX7_burning 27 = .ok (.iconst 0, 1) := by decide +kernel
theorem dX7_burning_28 : decode cX7_burning 28 = .ok (.iadd, 1) := by decide +kernel
theorem dX7_burning_29 : decode cX7_burning 29 = .ok (.istore_n 1, 1) := by decide +kernel
theorem dX7_burning_30 : decode cX7_burning 30 = .ok (.iinc 2 1, 3) := by decide +kernel
theorem dX7_burning_33 : decode cX7_burning 33 = .ok (.goto (-29), 3) := by decide +kernel
theorem dX7_burning_36 : decode cX7_burning 36 = .ok (.iload_n 1, 1) := by decide +kernel
theorem dX7_burning_37 : decode cX7_burning 37 = .ok (.ireturn, 1) := by decide +kernel
set_option maxRecDepth 20000 in
theorem ggX7_dead_X7_isDead : GoodIn wsX7_dead wsX7_isDead := goodIn_r _ [6, 7, 8, 9, 5, 10, 1, 11, 12, 13, 14, 15, 16, 17, 18, 19, 20, 21, 22, 23] (by decide +kernel) (by decide +kernel)
set_option maxRecDepth 20000 in
theorem gX7_dead_X7_isDead : GoodIn wsX7_dead (wsV RX7 91 RX7 yX7_isDead wsX7_isDead) := goodIn_app (goodIn_of _ (by decide +kernel)) ggX7_dead_X7_isDead
theorem dX7_dead_0 : decode cX7_dead 0 = .ok (.iconst 0, 1) := by decide +kernel
theorem dX7_dead_1 : decode cX7_dead 1 = .ok (.istore_n 1, 1) := by decide +kernel
theorem dX7_dead_2 : decode cX7_dead 2 = .ok (.iconst 0, 1) := by decide +kernel
theorem dX7_dead_3 : decode cX7_dead 3 = .ok (.istore_n 2, 1) := by decide +kernel
theorem dX7_dead_4 : decode cX7_dead 4 = .ok (.iload_n 2, 1) := by decide +kernel
theorem dX7_dead_5 : decode cX7_dead 5 = .ok (.aload_n 0, 1) := by decide +kernel
theorem dX7_dead_6 : decode cX7_dead 6 = .ok (.getfield 7, 3) := by decide +kernel
theorem dX7_dead_9 : decode cX7_dead 9 = .ok (.iconst 3, 1) := by decide +kernel
theorem dX7_dead_10 : decode cX7_dead 10 = .ok (.iaload, 1) := by decide +kernel
theorem dX7_dead_11 : decode cX7_dead 11 = .ok (.if_icmp .ge 25, 3) := by decide +kernel
theorem dX7_dead_14 : decode cX7_dead 14 = .ok (.iload_n 1, 1) := by decide +kernel
theorem dX7_dead_15 : decode cX7_dead 15 = .ok (.aload_n 0, 1) := by decide +kernel
theorem dX7_dead_16 : decode cX7_dead 16 = .ok (.iload_n 2, 1) := by decide +kernel
theorem dX7_dead_17 : decode cX7_dead 17 = .ok (.invokevirtual 91, 3) := by decide +kernel
theorem dX7_dead_20 : decode cX7_dead 20 = .ok (.ifCond .eq 7, 3) := by decide +kernel
theorem dX7_dead_23 : decode cX7_dead 23 = .ok (.iconst 1, 1) := by decide +kernel
theorem dX7_dead_24 : decode cX7_dead 24 = .ok (.goto 4, 3) := by decide +kernel
theorem dX7_dead_27 : decode cX7_dead 27 = .ok (.iconst 0, 1) := by decide +kernel
theorem dX7_dead_28 : decode cX7_dead 28 = .ok (.iadd, 1) := by decide +kernel
theorem dX7_dead_29 : decode cX7_dead 29 = .ok (.istore_n 1, 1) := by decide +kernel
theorem dX7_dead_30 : decode cX7_dead 30 = .ok (.iinc 2 1, 3) := by decide +kernel
theorem dX7_dead_33 : decode cX7_dead 33 = .ok (.goto (-29), 3) := by decide +kernel
theorem dX7_dead_36 : decode cX7_dead 36 = .ok (.iload_n 1, 1) := by decide +kernel
theorem dX7_dead_37 : decode cX7_dead 37 = .ok (.ireturn, 1) := by decide +kernel
set_option maxRecDepth 20000 in
theorem ggX7_count_X7_lampsIn : GoodIn wsX7_count wsX7_lampsIn := goodIn_r _ [8, 1, 9, 10, 11, 7, 12, 13, 14, 15, 16, 37, 38, 39, 40, 41, 42, 43, 44, 45, 46, 47, 48, 49] (by decide +kernel) (by decide +kernel)
set_option maxRecDepth 20000 in
theorem gX7_count_X7_lampsIn : GoodIn wsX7_count (wsV RX7 164 RX7 yX7_lampsIn wsX7_lampsIn) := goodIn_app (goodIn_of _ (by decide +kernel)) ggX7_count_X7_lampsIn
set_option maxRecDepth 20000 in
theorem ggX7_count_X7_burning : GoodIn wsX7_count wsX7_burning := goodIn_r _ [20, 1, 21, 22, 23, 7, 24, 13, 14, 15, 16, 9, 10, 11, 12, 25, 26, 27, 28, 37, 38, 39, 40, 41, 42, 43, 44, 45, 46, 47, 48, 49] (by decide +kernel) (by decide +kernel)
set_option maxRecDepth 20000 in
theorem gX7_count_X7_burning : GoodIn wsX7_count (wsV RX7 182 RX7 yX7_burning wsX7_burning) := goodIn_app (goodIn_of _ (by decide +kernel)) ggX7_count_X7_burning
set_option maxRecDepth 20000 in
theorem ggX7_count_X7_dead : GoodIn wsX7_count wsX7_dead := goodIn_r _ [32, 1, 13, 14, 15, 7, 16, 9, 10, 11, 12, 37, 38, 39, 40, 41, 42, 43, 44, 45, 46, 47, 48, 49] (by decide +kernel) (by decide +kernel)
set_option maxRecDepth 20000 in
theorem gX7_count_X7_dead : GoodIn wsX7_count (wsV RX7 185 RX7 yX7_dead wsX7_dead) := goodIn_app (goodIn_of _ (by decide +kernel)) ggX7_count_X7_dead
set_option maxRecDepth 20000 in
theorem ggX7_count_X7_sum : GoodIn wsX7_count wsX7_sum := goodIn_r _ [36, 1, 9, 10, 11, 7, 12, 37, 38, 39, 40, 41, 42, 43, 44, 45, 46, 47, 48, 49] (by decide +kernel) (by decide +kernel)
set_option maxRecDepth 20000 in
theorem gX7_count_X7_sum : GoodIn wsX7_count (wsV RX7 188 RX7 yX7_sum wsX7_sum) := goodIn_app (goodIn_of _ (by decide +kernel)) ggX7_count_X7_sum
theorem dX7_count_0 : decode cX7_count 0 = .ok (.iload_n 1, 1) := by decide +kernel
theorem dX7_count_1 : decode cX7_count 1 = .ok (.tableswitch 147 0 11 #[63, 70, 77, 98, 103, 108, 115, 121, 127, 127, 137, 142], 63) := by decide +kernel
theorem dX7_count_64 : decode cX7_count 64 = .ok (.aload_n 0, 1) := by decide +kernel
theorem dX7_count_65 : decode cX7_count 65 = .ok (.getfield 7, 3) := by decide +kernel
theorem dX7_count_68 : decode cX7_count 68 = .ok (.iconst 2, 1) := by decide +kernel
theorem dX7_count_69 : decode cX7_count 69 = .ok (.iaload, 1) := by decide +kernel
theorem dX7_count_70 : decode cX7_count 70 = .ok (.ireturn, 1) := by decide +kernel
theorem dX7_count_71 : decode cX7_count 71 = .ok (.aload_n 0, 1) := by decide +kernel
theorem dX7_count_72 : decode cX7_count 72 = .ok (.getfield 7, 3) := by decide +kernel
theorem dX7_count_75 : decode cX7_count 75 = .ok (.iconst 3, 1) := by decide +kernel
theorem dX7_count_76 : decode cX7_count 76 = .ok (.iaload, 1) := by decide +kernel
theorem dX7_count_77 : decode cX7_count 77 = .ok (.ireturn, 1) := by decide +kernel
theorem dX7_count_78 : decode cX7_count 78 = .ok (.aload_n 0, 1) := by decide +kernel
theorem dX7_count_79 : decode cX7_count 79 = .ok (.iconst 0, 1) := by decide +kernel
theorem dX7_count_80 : decode cX7_count 80 = .ok (.iconst 1, 1) := by decide +kernel
theorem dX7_count_81 : decode cX7_count 81 = .ok (.invokevirtual 164, 3) := by decide +kernel
theorem dX7_count_84 : decode cX7_count 84 = .ok (.aload_n 0, 1) := by decide +kernel
theorem dX7_count_85 : decode cX7_count 85 = .ok (.iconst 1, 1) := by decide +kernel
theorem dX7_count_86 : decode cX7_count 86 = .ok (.iconst 1, 1) := by decide +kernel
theorem dX7_count_87 : decode cX7_count 87 = .ok (.invokevirtual 164, 3) := by decide +kernel
theorem dX7_count_90 : decode cX7_count 90 = .ok (.iadd, 1) := by decide +kernel
theorem dX7_count_91 : decode cX7_count 91 = .ok (.aload_n 0, 1) := by decide +kernel
theorem dX7_count_92 : decode cX7_count 92 = .ok (.iconst 2, 1) := by decide +kernel
theorem dX7_count_93 : decode cX7_count 93 = .ok (.iconst 1, 1) := by decide +kernel
theorem dX7_count_94 : decode cX7_count 94 = .ok (.invokevirtual 164, 3) := by decide +kernel
theorem dX7_count_97 : decode cX7_count 97 = .ok (.iadd, 1) := by decide +kernel
theorem dX7_count_98 : decode cX7_count 98 = .ok (.ireturn, 1) := by decide +kernel
theorem dX7_count_99 : decode cX7_count 99 = .ok (.aload_n 0, 1) := by decide +kernel
theorem dX7_count_100 : decode cX7_count 100 = .ok (.invokevirtual 182, 3) := by decide +kernel
theorem dX7_count_103 : decode cX7_count 103 = .ok (.ireturn, 1) := by decide +kernel
theorem dX7_count_104 : decode cX7_count 104 = .ok (.aload_n 0, 1) := by decide +kernel
theorem dX7_count_105 : decode cX7_count 105 = .ok (.invokevirtual 185, 3) := by decide +kernel
theorem dX7_count_108 : decode cX7_count 108 = .ok (.ireturn, 1) := by decide +kernel
theorem dX7_count_109 : decode cX7_count 109 = .ok (.aload_n 0, 1) := by decide +kernel
theorem dX7_count_110 : decode cX7_count 110 = .ok (.bipush 7, 2) := by decide +kernel
theorem dX7_count_112 : decode cX7_count 112 = .ok (.invokevirtual 188, 3) := by decide +kernel
theorem dX7_count_115 : decode cX7_count 115 = .ok (.ireturn, 1) := by decide +kernel
theorem dX7_count_116 : decode cX7_count 116 = .ok (.aload_n 0, 1) := by decide +kernel
theorem dX7_count_117 : decode cX7_count 117 = .ok (.iconst 5, 1) := by decide +kernel
theorem dX7_count_118 : decode cX7_count 118 = .ok (.invokevirtual 188, 3) := by decide +kernel
theorem dX7_count_121 : decode cX7_count 121 = .ok (.ireturn, 1) := by decide +kernel
theorem dX7_count_122 : decode cX7_count 122 = .ok (.aload_n 0, 1) := by decide +kernel
theorem dX7_count_123 : decode cX7_count 123 = .ok (.iconst 4, 1) := by decide +kernel
theorem dX7_count_124 : decode cX7_count 124 = .ok (.invokevirtual 188, 3) := by decide +kernel
theorem dX7_count_127 : decode cX7_count 127 = .ok (.ireturn, 1) := by decide +kernel
theorem dX7_count_128 : decode cX7_count 128 = .ok (.aload_n 0, 1) := by decide +kernel
theorem dX7_count_129 : decode cX7_count 129 = .ok (.getfield 7, 3) := by decide +kernel
theorem dX7_count_132 : decode cX7_count 132 = .ok (.iload_n 1, 1) := by decide +kernel
theorem dX7_count_133 : decode cX7_count 133 = .ok (.bipush 8, 2) := by decide +kernel
theorem dX7_count_135 : decode cX7_count 135 = .ok (.isub, 1) := by decide +kernel
theorem dX7_count_136 : decode cX7_count 136 = .ok (.iaload, 1) := by decide +kernel
theorem dX7_count_137 : decode cX7_count 137 = .ok (.ireturn, 1) := by decide +kernel
theorem dX7_count_138 : decode cX7_count 138 = .ok (.aload_n 0, 1) := by decide +kernel
theorem dX7_count_139 : decode cX7_count 139 = .ok (.getfield 36, 3) := by decide +kernel
theorem dX7_count_142 : decode cX7_count 142 = .ok (.ireturn, 1) := by decide +kernel
theorem dX7_count_143 : decode cX7_count 143 = .ok (.aload_n 0, 1) := by decide +kernel
theorem dX7_count_144 : decode cX7_count 144 = .ok (.getfield 116, 3) := by decide +kernel
theorem dX7_count_147 : decode cX7_count 147 = .ok (.ireturn, 1) := by decide +kernel
theorem dX7_count_148 : decode cX7_count 148 = .ok (.sipush (-1002), 3) := by decide +kernel
theorem dX7_count_151 : decode cX7_count 151 = .ok (.ireturn, 1) := by decide +kernel
