theorem dX0_init_0 : decode cX0_init 0 = .ok (.aload_n 0, 1) := by decide +kernel
theorem dX0_init_1 : decode cX0_init 1 = .ok (.invokespecial 3, 3) := by decide +kernel
theorem dX0_init_4 : decode cX0_init 4 = .ok (.aload_n 0, 1) := by decide +kernel
theorem dX0_init_5 : decode cX0_init 5 = .ok (.bipush 16, 2) := by decide +kernel
theorem dX0_init_7 : decode cX0_init 7 = .ok (.newarray .int, 2) := by decide +kernel
theorem dX0_init_9 : decode cX0_init 9 = .ok (.putfield 9, 3) := by decide +kernel
theorem dX0_init_12 : decode cX0_init 12 = .ok (.aload_n 0, 1) := by decide +kernel
theorem dX0_init_13 : decode cX0_init 13 = .ok (.bipush 16, 2) := by decide +kernel
theorem dX0_init_15 : decode cX0_init 15 = .ok (.newarray .long, 2) := by decide +kernel
theorem dX0_init_17 : decode cX0_init 17 = .ok (.putfield 15, 3) := by decide +kernel
theorem dX0_init_20 : decode cX0_init 20 = .ok (.return_, 1) := by decide +kernel
set_option maxRecDepth 20000 in
theorem ggX0_find_X0_findBearing : GoodIn wsX0_find wsX0_findBearing := goodIn_r _ [9, 10, 11, 12, 1, 2, 13, 14, 15, 8, 16, 17, 18, 19, 20, 21, 22, 23, 24, 25, 26, 27, 28, 29, 30, 31, 32, 33, 34, 59, 60, 61, 62, 63, 64, 65, 66, 67, 68, 50, 51, 52, 53, 54, 55, 56, 57, 58] (by decide +kernel) (by decide +kernel)
set_option maxRecDepth 20000 in
theorem gX0_find_X0_findBearing : GoodIn wsX0_find (wsV RX0 30 RX0 yX0_findBearing wsX0_findBearing) := goodIn_app (goodIn_of _ (by decide +kernel)) ggX0_find_X0_findBearing
set_option maxRecDepth 20000 in
theorem ggX0_find_X0_roundLoads : GoodIn wsX0_find wsX0_roundLoads := goodIn_r _ [38, 12, 17, 39, 40, 2, 19, 20, 21, 4, 24, 25, 26, 31, 32, 33, 8, 34, 22, 23, 41, 42, 43, 44, 50, 51, 52, 53, 54, 55, 56, 57, 58, 59, 60, 61, 62, 63, 64, 65, 66, 67, 68] (by decide +kernel) (by decide +kernel)
set_option maxRecDepth 20000 in
theorem gX0_find_X0_roundLoads : GoodIn wsX0_find (wsV RX0 34 RX0 yX0_roundLoads wsX0_roundLoads) := goodIn_app (goodIn_of _ (by decide +kernel)) ggX0_find_X0_roundLoads
set_option maxRecDepth 20000 in
theorem ggX0_find_X0_findOverloaded : GoodIn wsX0_find wsX0_findOverloaded := goodIn_r _ [48, 2, 4, 49, 3, 24, 25, 26, 50, 51, 52, 53, 54, 55, 56, 57, 58, 59, 60, 61, 62, 63, 64, 65, 66, 67, 68] (by decide +kernel) (by decide +kernel)
set_option maxRecDepth 20000 in
theorem gX0_find_X0_findOverloaded : GoodIn wsX0_find (wsV RX0 37 RX0 yX0_findOverloaded wsX0_findOverloaded) := goodIn_app (goodIn_of _ (by decide +kernel)) ggX0_find_X0_findOverloaded
theorem dX0_find_0 : decode cX0_find 0 = .ok (.aload_n 0, 1) := by decide +kernel
theorem dX0_find_1 : decode cX0_find 1 = .ok (.iconst 0, 1) := by decide +kernel
theorem dX0_find_2 : decode cX0_find 2 = .ok (.putfield 19, 3) := by decide +kernel
theorem dX0_find_5 : decode cX0_find 5 = .ok (.aload_n 0, 1) := by decide +kernel
theorem dX0_find_6 : decode cX0_find 6 = .ok (.iconst 0, 1) := by decide +kernel
theorem dX0_find_7 : decode cX0_find 7 = .ok (.putfield 23, 3) := by decide +kernel
theorem dX0_find_10 : decode cX0_find 10 = .ok (.aload_n 0, 1) := by decide +kernel
theorem dX0_find_11 : decode cX0_find 11 = .ok (.iconst 0, 1) := by decide +kernel
theorem dX0_find_12 : decode cX0_find 12 = .ok (.putfield 27, 3) := by decide +kernel
theorem dX0_find_15 : decode cX0_find 15 = .ok (.iconst 0, 1) := by decide +kernel
theorem dX0_find_16 : decode cX0_find 16 = .ok (.istore_n 2, 1) := by decide +kernel
theorem dX0_find_17 : decode cX0_find 17 = .ok (.iload_n 2, 1) := by decide +kernel
theorem dX0_find_18 : decode cX0_find 18 = .ok (.bipush 16, 2) := by decide +kernel
theorem dX0_find_20 : decode cX0_find 20 = .ok (.if_icmp .ge 16, 3) := by decide +kernel
theorem dX0_find_23 : decode cX0_find 23 = .ok (.aload_n 0, 1) := by decide +kernel
theorem dX0_find_24 : decode cX0_find 24 = .ok (.getfield 9, 3) := by decide +kernel
theorem dX0_find_27 : decode cX0_find 27 = .ok (.iload_n 2, 1) := by decide +kernel
theorem dX0_find_28 : decode cX0_find 28 = .ok (.iconst 0, 1) := by decide +kernel
theorem dX0_find_29 : decode cX0_find 29 = .ok (.iastore, 1) := by decide +kernel
theorem dX0_find_30 : decode cX0_find 30 = .ok (.iinc 2 1, 3) := by decide +kernel
theorem dX0_find_33 : decode cX0_find 33 = .ok (.goto (-16), 3) := by decide +kernel
theorem dX0_find_36 : decode cX0_find 36 = .ok (.aload_n 0, 1) := by decide +kernel
theorem dX0_find_37 : decode cX0_find 37 = .ok (.aload_n 1, 1) := by decide +kernel
theorem dX0_find_38 : decode cX0_find 38 = .ok (.invokevirtual 30, 3) := by decide +kernel
theorem dX0_find_41 : decode cX0_find 41 = .ok (.aload_n 0, 1) := by decide +kernel
theorem dX0_find_42 : decode cX0_find 42 = .ok (.getfield 19, 3) := by decide +kernel
theorem dX0_find_45 : decode cX0_find 45 = .ok (.ifCond .eq 13, 3) := by decide +kernel
theorem dX0_find_48 : decode cX0_find 48 = .ok (.aload_n 0, 1) := by decide +kernel
theorem dX0_find_49 : decode cX0_find 49 = .ok (.aload_n 1, 1) := by decide +kernel
theorem dX0_find_50 : decode cX0_find 50 = .ok (.invokevirtual 34, 3) := by decide +kernel
theorem dX0_find_53 : decode cX0_find 53 = .ok (.aload_n 0, 1) := by decide +kernel
theorem dX0_find_54 : decode cX0_find 54 = .ok (.aload_n 1, 1) := by decide +kernel
theorem dX0_find_55 : decode cX0_find 55 = .ok (.invokevirtual 37, 3) := by decide +kernel
theorem dX0_find_58 : decode cX0_find 58 = .ok (.return_, 1) := by decide +kernel
set_option maxRecDepth 20000 in
theorem ggX0_findBearing_X0_solve : GoodIn wsX0_findBearing wsX0_solve := goodIn_r _ [10, 11, 12, 13, 14, 15, 3, 16, 17, 18, 19, 20, 29, 30, 31, 32, 33, 34, 35, 36, 37, 38, 39, 40, 41, 42, 43, 44, 45, 46, 47] (by decide +kernel) (by decide +kernel)
set_option maxRecDepth 20000 in
theorem gX0_findBearing_X0_solve : GoodIn wsX0_findBearing (wsV RX0 48 RX0 yX0_solve wsX0_solve) := goodIn_app (goodIn_of _ (by decide +kernel)) ggX0_findBearing_X0_solve
set_option maxRecDepth 20000 in
theorem ggX0_findBearing_X0_pressed : GoodIn wsX0_findBearing wsX0_pressed := goodIn_r _ [24, 1, 14, 15, 18, 19, 20, 25, 26, 27, 9, 28, 16, 17, 3, 29, 30, 31, 32, 33, 34, 35, 36, 37, 38, 39, 40, 41, 42, 43, 44, 45, 46, 47] (by decide +kernel) (by decide +kernel)
set_option maxRecDepth 20000 in
theorem gX0_findBearing_X0_pressed : GoodIn wsX0_findBearing (wsV RX0 56 RX0 yX0_pressed wsX0_pressed) := goodIn_app (goodIn_of _ (by decide +kernel)) ggX0_findBearing_X0_pressed
theorem dX0_findBearing_0 : decode cX0_findBearing 0 = .ok (.aload_n 1, 1) := by decide +kernel
theorem dX0_findBearing_1 : decode cX0_findBearing 1 = .ok (.getfield 40, 3) := by decide +kernel
theorem dX0_findBearing_4 : decode cX0_findBearing 4 = .ok (.istore_n 2, 1) := by decide +kernel
theorem dX0_findBearing_5 : decode cX0_findBearing 5 = .ok (.iconst 1, 1) := by decide +kernel
theorem dX0_findBearing_6 : decode cX0_findBearing 6 = .ok (.istore_n 3, 1) := by decide +kernel
theorem dX0_findBearing_7 : decode cX0_findBearing 7 = .ok (.iload_n 3, 1) := by decide +kernel
theorem dX0_findBearing_8 : decode cX0_findBearing 8 = .ok (.bipush 30, 2) := by decide +kernel
theorem dX0_findBearing_10 : decode cX0_findBearing 10 = .ok (.if_icmp .gt 57, 3) := by decide +kernel
theorem dX0_findBearing_13 : decode cX0_findBearing 13 = .ok (.aload_n 0, 1) := by decide +kernel
theorem dX0_findBearing_14 : decode cX0_findBearing 14 = .ok (.iload_n 3, 1) := by decide +kernel
theorem dX0_findBearing_15 : decode cX0_findBearing 15 = .ok (.putfield 45, 3) := by decide +kernel
theorem dX0_findBearing_18 : decode cX0_findBearing 18 = .ok (.aload_n 0, 1) := by decide +kernel
theorem dX0_findBearing_19 : decode cX0_findBearing 19 = .ok (.aload_n 1, 1) := by decide +kernel
theorem dX0_findBearing_20 : decode cX0_findBearing 20 = .ok (.iload_n 2, 1) := by decide +kernel
theorem dX0_findBearing_21 : decode cX0_findBearing 21 = .ok (.invokevirtual 48, 3) := by decide +kernel
theorem dX0_findBearing_24 : decode cX0_findBearing 24 = .ok (.aload_n 0, 1) := by decide +kernel
theorem dX0_findBearing_25 : decode cX0_findBearing 25 = .ok (.getfield 52, 3) := by decide +kernel
theorem dX0_findBearing_28 : decode cX0_findBearing 28 = .ok (.lconst 0, 1) := by decide +kernel
theorem dX0_findBearing_29 : decode cX0_findBearing 29 = .ok (.lcmp, 1) := by decide +kernel
theorem dX0_findBearing_30 : decode cX0_findBearing 30 = .ok (.ifCond .gt 4, 3) := by decide +kernel
theorem dX0_findBearing_33 : decode cX0_findBearing 33 = .ok (.return_, 1) := by decide +kernel
theorem dX0_findBearing_34 : decode cX0_findBearing 34 = .ok (.aload_n 0, 1) := by decide +kernel
theorem dX0_findBearing_35 : decode cX0_findBearing 35 = .ok (.aload_n 1, 1) := by decide +kernel
theorem dX0_findBearing_36 : decode cX0_findBearing 36 = .ok (.invokevirtual 56, 3) := by decide +kernel
theorem dX0_findBearing_39 : decode cX0_findBearing 39 = .ok (.istore 4, 2) := by decide +kernel
theorem dX0_findBearing_41 : decode cX0_findBearing 41 = .ok (.iload 4, 2) := by decide +kernel
theorem dX0_findBearing_43 : decode cX0_findBearing 43 = .ok (.iload_n 2, 1) := by decide +kernel
theorem dX0_findBearing_44 : decode cX0_findBearing 44 = .ok (.if_icmp .ne 14, 3) := by decide +kernel
theorem dX0_findBearing_47 : decode cX0_findBearing 47 = .ok (.aload_n 0, 1) := by decide +kernel
theorem dX0_findBearing_48 : decode cX0_findBearing 48 = .ok (.iconst 1, 1) := by decide +kernel
theorem dX0_findBearing_49 : decode cX0_findBearing 49 = .ok (.putfield 19, 3) := by decide +kernel
theorem dX0_findBearing_52 : decode cX0_findBearing 52 = .ok (.aload_n 0, 1) := by decide +kernel
theorem dX0_findBearing_53 : decode cX0_findBearing 53 = .ok (.iload_n 2, 1) := by decide +kernel
theorem dX0_findBearing_54 : decode cX0_findBearing 54 = .ok (.putfield 23, 3) := by decide +kernel
theorem dX0_findBearing_57 : decode cX0_findBearing 57 = .ok (.return_, 1) := by decide +kernel
theorem dX0_findBearing_58 : decode cX0_findBearing 58 = .ok (.iload 4, 2) := by decide +kernel
theorem dX0_findBearing_60 : decode cX0_findBearing 60 = .ok (.istore_n 2, 1) := by decide +kernel
theorem dX0_findBearing_61 : decode cX0_findBearing 61 = .ok (.iinc 3 1, 3) := by decide +kernel
theorem dX0_findBearing_64 : decode cX0_findBearing 64 = .ok (.goto (-57), 3) := by decide +kernel
theorem dX0_findBearing_67 : decode cX0_findBearing 67 = .ok (.return_, 1) := by decide +kernel
set_option maxRecDepth 20000 in
theorem ggX0_solve_X5_isMember : GoodIn wsX0_solve wsX5_isMember := goodIn_r _ [11] (by decide +kernel) (by decide +kernel)
set_option maxRecDepth 20000 in
theorem gX0_solve_X5_isMember_n66 : GoodIn wsX0_solve (wsX5_isMember) := ggX0_solve_X5_isMember
theorem dX0_solve_0 : decode cX0_solve 0 = .ok (.lconst 0, 1) := by decide +kernel
theorem dX0_solve_1 : decode cX0_solve 1 = .ok (.lstore_n 3, 1) := by decide +kernel
theorem dX0_solve_2 : decode cX0_solve 2 = .ok (.lconst 0, 1) := by decide +kernel
theorem dX0_solve_3 : decode cX0_solve 3 = .ok (.lstore 5, 2) := by decide +kernel
theorem dX0_solve_5 : decode cX0_solve 5 = .ok (.lconst 0, 1) := by decide +kernel
theorem dX0_solve_6 : decode cX0_solve 6 = .ok (.lstore 7, 2) := by decide +kernel
theorem dX0_solve_8 : decode cX0_solve 8 = .ok (.aload_n 1, 1) := by decide +kernel
theorem dX0_solve_9 : decode cX0_solve 9 = .ok (.getfield 60, 3) := by decide +kernel
theorem dX0_solve_12 : decode cX0_solve 12 = .ok (.i2l, 1) := by decide +kernel
theorem dX0_solve_13 : decode cX0_solve 13 = .ok (.lstore 9, 2) := by decide +kernel
theorem dX0_solve_15 : decode cX0_solve 15 = .ok (.aload_n 1, 1) := by decide +kernel
theorem dX0_solve_16 : decode cX0_solve 16 = .ok (.getfield 60, 3) := by decide +kernel
theorem dX0_solve_19 : decode cX0_solve 19 = .ok (.i2l, 1) := by decide +kernel
theorem dX0_solve_20 : decode cX0_solve 20 = .ok (.aload_n 1, 1) := by decide +kernel
theorem dX0_solve_21 : decode cX0_solve 21 = .ok (.getfield 63, 3) := by decide +kernel
theorem dX0_solve_24 : decode cX0_solve 24 = .ok (.i2l, 1) := by decide +kernel
theorem dX0_solve_25 : decode cX0_solve 25 = .ok (.lmul, 1) := by decide +kernel
theorem dX0_solve_26 : decode cX0_solve 26 = .ok (.lstore 11, 2) := by decide +kernel
theorem dX0_solve_28 : decode cX0_solve 28 = .ok (.iconst 0, 1) := by decide +kernel
theorem dX0_solve_29 : decode cX0_solve 29 = .ok (.istore 13, 2) := by decide +kernel
theorem dX0_solve_31 : decode cX0_solve 31 = .ok (.iload 13, 2) := by decide +kernel
theorem dX0_solve_33 : decode cX0_solve 33 = .ok (.bipush 16, 2) := by decide +kernel
theorem dX0_solve_35 : decode cX0_solve 35 = .ok (.if_icmp .ge 101, 3) := by decide +kernel
theorem dX0_solve_38 : decode cX0_solve 38 = .ok (.iload_n 2, 1) := by decide +kernel
theorem dX0_solve_39 : decode cX0_solve 39 = .ok (.iload 13, 2) := by decide +kernel
theorem dX0_solve_41 : decode cX0_solve 41 = .ok (.invokestatic 66, 3) := by decide +kernel
theorem dX0_solve_44 : decode cX0_solve 44 = .ok (.ifCond .eq 86, 3) := by decide +kernel
theorem dX0_solve_47 : decode cX0_solve 47 = .ok (.aload_n 1, 1) := by decide +kernel
theorem dX0_solve_48 : decode cX0_solve 48 = .ok (.getfield 70, 3) := by decide +kernel
theorem dX0_solve_51 : decode cX0_solve 51 = .ok (.iload 13, 2) := by decide +kernel
theorem dX0_solve_53 : decode cX0_solve 53 = .ok (.iaload, 1) := by decide +kernel
theorem dX0_solve_54 : decode cX0_solve 54 = .ok (.i2l, 1) := by decide +kernel
theorem dX0_solve_55 : decode cX0_solve 55 = .ok (.lstore 14, 2) := by decide +kernel
theorem dX0_solve_57 : decode cX0_solve 57 = .ok (.aload_n 1, 1) := by decide +kernel
theorem dX0_solve_58 : decode cX0_solve 58 = .ok (.getfield 73, 3) := by decide +kernel
theorem dX0_solve_61 : decode cX0_solve 61 = .ok (.iload 13, 2) := by decide +kernel
theorem dX0_solve_63 : decode cX0_solve 63 = .ok (.iaload, 1) := by decide +kernel
theorem dX0_solve_64 : decode cX0_solve 64 = .ok (.i2l, 1) := by decide +kernel
theorem dX0_solve_65 : decode cX0_solve 65 = .ok (.lstore 16, 2) := by decide +kernel
theorem dX0_solve_67 : decode cX0_solve 67 = .ok (.lload_n 3, 1) := by decide +kernel
theorem dX0_solve_68 : decode cX0_solve 68 = .ok (.lload 14, 2) := by decide +kernel
theorem dX0_solve_70 : decode cX0_solve 70 = .ok (.ladd, 1) := by decide +kernel
theorem dX0_solve_71 : decode cX0_solve 71 = .ok (.lstore_n 3, 1) := by decide +kernel
theorem dX0_solve_72 : decode cX0_solve 72 = .ok (.lload 5, 2) := by decide +kernel
theorem dX0_solve_74 : decode cX0_solve 74 = .ok (.lload 14, 2) := by decide +kernel
theorem dX0_solve_76 : decode cX0_solve 76 = .ok (.lload 16, 2) := by decide +kernel
theorem dX0_solve_78 : decode cX0_solve 78 = .ok (.lmul, 1) := by decide +kernel
theorem dX0_solve_79 : decode cX0_solve 79 = .ok (.ladd, 1) := by decide +kernel
theorem dX0_solve_80 : decode cX0_solve 80 = .ok (.lstore 5, 2) := by decide +kernel
theorem dX0_solve_82 : decode cX0_solve 82 = .ok (.lload 7, 2) := by decide +kernel
theorem dX0_solve_84 : decode cX0_solve 84 = .ok (.lload 14, 2) := by decide +kernel
theorem dX0_solve_86 : decode cX0_solve 86 = .ok (.lload 16, 2) := by decide +kernel
theorem dX0_solve_88 : decode cX0_solve 88 = .ok (.lmul, 1) := by decide +kernel
theorem dX0_solve_89 : decode cX0_solve 89 = .ok (.lload 16, 2) := by decide +kernel
theorem dX0_solve_91 : decode cX0_solve 91 = .ok (.lmul, 1) := by decide +kernel
theorem dX0_solve_92 : decode cX0_solve 92 = .ok (.ladd, 1) := by decide +kernel
theorem dX0_solve_93 : decode cX0_solve 93 = .ok (.lstore 7, 2) := by decide +kernel
theorem dX0_solve_95 : decode cX0_solve 95 = .ok (.lload 9, 2) := by decide +kernel
theorem dX0_solve_97 : decode cX0_solve 97 = .ok (.lload 14, 2) := by decide +kernel
theorem dX0_solve_99 : decode cX0_solve 99 = .ok (.aload_n 1, 1) := by decide +kernel
theorem dX0_solve_100 : decode cX0_solve 100 = .ok (.getfield 76, 3) := by decide +kernel
theorem dX0_solve_103 : decode cX0_solve 103 = .ok (.iload 13, 2) := by decide +kernel
theorem dX0_solve_105 : decode cX0_solve 105 = .ok (.iaload, 1) := by decide +kernel
theorem dX0_solve_106 : decode cX0_solve 106 = .ok (.i2l, 1) := by decide +kernel
theorem dX0_solve_107 : decode cX0_solve 107 = .ok (.lmul, 1) := by decide +kernel
theorem dX0_solve_108 : decode cX0_solve 108 = .ok (.lsub, 1) := by decide +kernel
theorem dX0_solve_109 : decode cX0_solve 109 = .ok (.lstore 9, 2) := by decide +kernel
theorem dX0_solve_111 : decode cX0_solve 111 = .ok (.lload 11, 2) := by decide +kernel
theorem dX0_solve_113 : decode cX0_solve 113 = .ok (.lload 14, 2) := by decide +kernel
theorem dX0_solve_115 : decode cX0_solve 115 = .ok (.aload_n 1, 1) := by decide +kernel
theorem dX0_solve_116 : decode cX0_solve 116 = .ok (.getfield 76, 3) := by decide +kernel
theorem dX0_solve_119 : decode cX0_solve 119 = .ok (.iload 13, 2) := by decide +kernel
theorem dX0_solve_121 : decode cX0_solve 121 = .ok (.iaload, 1) := by decide +kernel
theorem dX0_solve_122 : decode cX0_solve 122 = .ok (.i2l, 1) := by decide +kernel
theorem dX0_solve_123 : decode cX0_solve 123 = .ok (.lmul, 1) := by decide +kernel
theorem dX0_solve_124 : decode cX0_solve 124 = .ok (.lload 16, 2) := by decide +kernel
theorem dX0_solve_126 : decode cX0_solve 126 = .ok (.lmul, 1) := by decide +kernel
theorem dX0_solve_127 : decode cX0_solve 127 = .ok (.lsub, 1) := by decide +kernel
theorem dX0_solve_128 : decode cX0_solve 128 = .ok (.lstore 11, 2) := by decide +kernel
theorem dX0_solve_130 : decode cX0_solve 130 = .ok (.iinc 13 1, 3) := by decide +kernel
theorem dX0_solve_133 : decode cX0_solve 133 = .ok (.goto (-102), 3) := by decide +kernel
theorem dX0_solve_136 : decode cX0_solve 136 = .ok (.aload_n 0, 1) := by decide +kernel
theorem dX0_solve_137 : decode cX0_solve 137 = .ok (.lload_n 3, 1) := by decide +kernel
theorem dX0_solve_138 : decode cX0_solve 138 = .ok (.lload 7, 2) := by decide +kernel
theorem dX0_solve_140 : decode cX0_solve 140 = .ok (.lmul, 1) := by decide +kernel
theorem dX0_solve_141 : decode cX0_solve 141 = .ok (.lload 5, 2) := by decide +kernel
theorem dX0_solve_143 : decode cX0_solve 143 = .ok (.lload 5, 2) := by decide +kernel
theorem dX0_solve_145 : decode cX0_solve 145 = .ok (.lmul, 1) := by decide +kernel
theorem dX0_solve_146 : decode cX0_solve 146 = .ok (.lsub, 1) := by decide +kernel
theorem dX0_solve_147 : decode cX0_solve 147 = .ok (.putfield 52, 3) := by decide +kernel
theorem dX0_solve_150 : decode cX0_solve 150 = .ok (.aload_n 0, 1) := by decide +kernel
theorem dX0_solve_151 : decode cX0_solve 151 = .ok (.lload 9, 2) := by decide +kernel
theorem dX0_solve_153 : decode cX0_solve 153 = .ok (.lload 7, 2) := by decide +kernel
theorem dX0_solve_155 : decode cX0_solve 155 = .ok (.lmul, 1) := by decide +kernel
theorem dX0_solve_156 : decode cX0_solve 156 = .ok (.lload 11, 2) := by decide +kernel
theorem dX0_solve_158 : decode cX0_solve 158 = .ok (.lload 5, 2) := by decide +kernel
theorem dX0_solve_160 : decode cX0_solve 160 = .ok (.lmul, 1) := by decide +kernel
theorem dX0_solve_161 : decode cX0_solve 161 = .ok (.lsub, 1) := by decide +kernel
theorem dX0_solve_162 : decode cX0_solve 162 = .ok (.putfield 79, 3) := by decide +kernel
theorem dX0_solve_165 : decode cX0_solve 165 = .ok (.aload_n 0, 1) := by decide +kernel
theorem dX0_solve_166 : decode cX0_solve 166 = .ok (.lload 11, 2) := by decide +kernel
theorem dX0_solve_168 : decode cX0_solve 168 = .ok (.lload_n 3, 1) := by decide +kernel
theorem dX0_solve_169 : decode cX0_solve 169 = .ok (.lmul, 1) := by decide +kernel
theorem dX0_solve_170 : decode cX0_solve 170 = .ok (.lload 9, 2) := by decide +kernel
theorem dX0_solve_172 : decode cX0_solve 172 = .ok (.lload 5, 2) := by decide +kernel
theorem dX0_solve_174 : decode cX0_solve 174 = .ok (.lmul, 1) := by decide +kernel
theorem dX0_solve_175 : decode cX0_solve 175 = .ok (.lsub, 1) := by decide +kernel
theorem dX0_solve_176 : decode cX0_solve 176 = .ok (.putfield 82, 3) := by decide +kernel
theorem dX0_solve_179 : decode cX0_solve 179 = .ok (.return_, 1) := by decide +kernel
set_option maxRecDepth 20000 in
theorem ggX0_pressed_X5_isMember : GoodIn wsX0_pressed wsX5_isMember := goodIn_r _ [6] (by decide +kernel) (by decide +kernel)
set_option maxRecDepth 20000 in
theorem gX0_pressed_X5_isMember_n66 : GoodIn wsX0_pressed (wsX5_isMember) := ggX0_pressed_X5_isMember
set_option maxRecDepth 20000 in
theorem ggX0_pressed_X0_pressTimesD : GoodIn wsX0_pressed wsX0_pressTimesD := goodIn_r _ [11, 12, 13, 14, 25, 26, 27, 28, 29, 30, 31, 32, 33] (by decide +kernel) (by decide +kernel)
set_option maxRecDepth 20000 in
theorem gX0_pressed_X0_pressTimesD : GoodIn wsX0_pressed (wsV RX0 85 RX0 yX0_pressTimesD wsX0_pressTimesD) := goodIn_app (goodIn_of _ (by decide +kernel)) ggX0_pressed_X0_pressTimesD
theorem dX0_pressed_0 : decode cX0_pressed 0 = .ok (.iconst 0, 1) := by decide +kernel
theorem dX0_pressed_1 : decode cX0_pressed 1 = .ok (.istore_n 2, 1) := by decide +kernel
theorem dX0_pressed_2 : decode cX0_pressed 2 = .ok (.iconst 0, 1) := by decide +kernel
theorem dX0_pressed_3 : decode cX0_pressed 3 = .ok (.istore_n 3, 1) := by decide +kernel
theorem dX0_pressed_4 : decode cX0_pressed 4 = .ok (.iload_n 3, 1) := by decide +kernel
theorem dX0_pressed_5 : decode cX0_pressed 5 = .ok (.bipush 16, 2) := by decide +kernel
theorem dX0_pressed_7 : decode cX0_pressed 7 = .ok (.if_icmp .ge 49, 3) := by decide +kernel
theorem dX0_pressed_10 : decode cX0_pressed 10 = .ok (.aload_n 1, 1) := by decide +kernel
theorem dX0_pressed_11 : decode cX0_pressed 11 = .ok (.getfield 40, 3) := by decide +kernel
theorem dX0_pressed_14 : decode cX0_pressed 14 = .ok (.iload_n 3, 1) := by decide +kernel
theorem dX0_pressed_15 : decode cX0_pressed 15 = .ok (.invokestatic 66, 3) := by decide +kernel
theorem dX0_pressed_18 : decode cX0_pressed 18 = .ok (.ifCond .eq 32, 3) := by decide +kernel
theorem dX0_pressed_21 : decode cX0_pressed 21 = .ok (.aload_n 0, 1) := by decide +kernel
theorem dX0_pressed_22 : decode cX0_pressed 22 = .ok (.aload_n 1, 1) := by decide +kernel
theorem dX0_pressed_23 : decode cX0_pressed 23 = .ok (.getfield 73, 3) := by decide +kernel
theorem dX0_pressed_26 : decode cX0_pressed 26 = .ok (.iload_n 3, 1) := by decide +kernel
theorem dX0_pressed_27 : decode cX0_pressed 27 = .ok (.iaload, 1) := by decide +kernel
theorem dX0_pressed_28 : decode cX0_pressed 28 = .ok (.i2l, 1) := by decide +kernel
theorem dX0_pressed_29 : decode cX0_pressed 29 = .ok (.aload_n 1, 1) := by decide +kernel
theorem dX0_pressed_30 : decode cX0_pressed 30 = .ok (.getfield 76, 3) := by decide +kernel
theorem dX0_pressed_33 : decode cX0_pressed 33 = .ok (.iload_n 3, 1) := by decide +kernel
theorem dX0_pressed_34 : decode cX0_pressed 34 = .ok (.iaload, 1) := by decide +kernel
theorem dX0_pressed_35 : decode cX0_pressed 35 = .ok (.i2l, 1) := by decide +kernel
theorem dX0_pressed_36 : decode cX0_pressed 36 = .ok (.invokevirtual 85, 3) := by decide +kernel
theorem dX0_pressed_39 : decode cX0_pressed 39 = .ok (.lconst 0, 1) := by decide +kernel
theorem dX0_pressed_40 : decode cX0_pressed 40 = .ok (.lcmp, 1) := by decide +kernel
theorem dX0_pressed_41 : decode cX0_pressed 41 = .ok (.ifCond .le 9, 3) := by decide +kernel
theorem dX0_pressed_44 : decode cX0_pressed 44 = .ok (.iload_n 2, 1) := by decide +kernel
theorem dX0_pressed_45 : decode cX0_pressed 45 = .ok (.iconst 1, 1) := by decide +kernel
theorem dX0_pressed_46 : decode cX0_pressed 46 = .ok (.iload_n 3, 1) := by decide +kernel
theorem dX0_pressed_47 : decode cX0_pressed 47 = .ok (.ishl, 1) := by decide +kernel
theorem dX0_pressed_48 : decode cX0_pressed 48 = .ok (.ior, 1) := by decide +kernel
theorem dX0_pressed_49 : decode cX0_pressed 49 = .ok (.istore_n 2, 1) := by decide +kernel
theorem dX0_pressed_50 : decode cX0_pressed 50 = .ok (.iinc 3 1, 3) := by decide +kernel
theorem dX0_pressed_53 : decode cX0_pressed 53 = .ok (.goto (-49), 3) := by decide +kernel
theorem dX0_pressed_56 : decode cX0_pressed 56 = .ok (.iload_n 2, 1) := by decide +kernel
theorem dX0_pressed_57 : decode cX0_pressed 57 = .ok (.ireturn, 1) := by decide +kernel
theorem dX0_pressTimesD_0 : decode cX0_pressTimesD 0 = .ok (.aload_n 0, 1) := by decide +kernel
theorem dX0_pressTimesD_1 : decode cX0_pressTimesD 1 = .ok (.getfield 79, 3) := by decide +kernel
theorem dX0_pressTimesD_4 : decode cX0_pressTimesD 4 = .ok (.aload_n 0, 1) := by decide +kernel
theorem dX0_pressTimesD_5 : decode cX0_pressTimesD 5 = .ok (.getfield 82, 3) := by decide +kernel
theorem dX0_pressTimesD_8 : decode cX0_pressTimesD 8 = .ok (.lload_n 1, 1) := by decide +kernel
theorem dX0_pressTimesD_9 : decode cX0_pressTimesD 9 = .ok (.lmul, 1) := by decide +kernel
theorem dX0_pressTimesD_10 : decode cX0_pressTimesD 10 = .ok (.ladd, 1) := by decide +kernel
theorem dX0_pressTimesD_11 : decode cX0_pressTimesD 11 = .ok (.aload_n 0, 1) := by decide +kernel
theorem dX0_pressTimesD_12 : decode cX0_pressTimesD 12 = .ok (.getfield 52, 3) := by decide +kernel
theorem dX0_pressTimesD_15 : decode cX0_pressTimesD 15 = .ok (.lload_n 3, 1) := by decide +kernel
theorem dX0_pressTimesD_16 : decode cX0_pressTimesD 16 = .ok (.lmul, 1) := by decide +kernel
theorem dX0_pressTimesD_17 : decode cX0_pressTimesD 17 = .ok (.ladd, 1) := by decide +kernel
theorem dX0_pressTimesD_18 : decode cX0_pressTimesD 18 = .ok (.lreturn, 1) := by decide +kernel
set_option maxRecDepth 20000 in
theorem ggX0_roundLoads_X5_isMember : GoodIn wsX0_roundLoads wsX5_isMember := goodIn_r _ [12] (by decide +kernel) (by decide +kernel)
set_option maxRecDepth 20000 in
theorem gX0_roundLoads_X5_isMember_n66 : GoodIn wsX0_roundLoads (wsX5_isMember) := ggX0_roundLoads_X5_isMember
set_option maxRecDepth 20000 in
theorem ggX0_roundLoads_X0_pressTimesD : GoodIn wsX0_roundLoads wsX0_pressTimesD := goodIn_r _ [17, 18, 19, 1, 24, 25, 26, 27, 28, 29, 30, 31, 32] (by decide +kernel) (by decide +kernel)
set_option maxRecDepth 20000 in
theorem gX0_roundLoads_X0_pressTimesD : GoodIn wsX0_roundLoads (wsV RX0 85 RX0 yX0_pressTimesD wsX0_pressTimesD) := goodIn_app (goodIn_of _ (by decide +kernel)) ggX0_roundLoads_X0_pressTimesD
set_option maxRecDepth 20000 in
theorem ggX0_roundLoads_X0_giveOneMore : GoodIn wsX0_roundLoads wsX0_giveOneMore := goodIn_r _ [23, 3, 9, 4, 24, 25, 26, 27, 28, 29, 30, 31, 32] (by decide +kernel) (by decide +kernel)
set_option maxRecDepth 20000 in
theorem gX0_roundLoads_X0_giveOneMore : GoodIn wsX0_roundLoads (wsV RX0 91 RX0 yX0_giveOneMore wsX0_giveOneMore) := goodIn_app (goodIn_of _ (by decide +kernel)) ggX0_roundLoads_X0_giveOneMore
theorem dX0_roundLoads_0 : decode cX0_roundLoads 0 = .ok (.aload_n 0, 1) := by decide +kernel
theorem dX0_roundLoads_1 : decode cX0_roundLoads 1 = .ok (.getfield 52, 3) := by decide +kernel
theorem dX0_roundLoads_4 : decode cX0_roundLoads 4 = .ok (.lconst 0, 1) := by decide +kernel
theorem dX0_roundLoads_5 : decode cX0_roundLoads 5 = .ok (.lcmp, 1) := by decide +kernel
theorem dX0_roundLoads_6 : decode cX0_roundLoads 6 = .ok (.ifCond .gt 4, 3) := by decide +kernel
theorem dX0_roundLoads_9 : decode cX0_roundLoads 9 = .ok (.return_, 1) := by decide +kernel
theorem dX0_roundLoads_10 : decode cX0_roundLoads 10 = .ok (.aload_n 1, 1) := by decide +kernel
theorem dX0_roundLoads_11 : decode cX0_roundLoads 11 = .ok (.getfield 60, 3) := by decide +kernel
theorem dX0_roundLoads_14 : decode cX0_roundLoads 14 = .ok (.istore_n 2, 1) := by decide +kernel
theorem dX0_roundLoads_15 : decode cX0_roundLoads 15 = .ok (.iconst 0, 1) := by decide +kernel
theorem dX0_roundLoads_16 : decode cX0_roundLoads 16 = .ok (.istore_n 3, 1) := by decide +kernel
theorem dX0_roundLoads_17 : decode cX0_roundLoads 17 = .ok (.iload_n 3, 1) := by decide +kernel
theorem dX0_roundLoads_18 : decode cX0_roundLoads 18 = .ok (.bipush 16, 2) := by decide +kernel
theorem dX0_roundLoads_20 : decode cX0_roundLoads 20 = .ok (.if_icmp .ge 93, 3) := by decide +kernel
theorem dX0_roundLoads_23 : decode cX0_roundLoads 23 = .ok (.aload_n 0, 1) := by decide +kernel
theorem dX0_roundLoads_24 : decode cX0_roundLoads 24 = .ok (.getfield 15, 3) := by decide +kernel
theorem dX0_roundLoads_27 : decode cX0_roundLoads 27 = .ok (.iload_n 3, 1) := by decide +kernel
theorem dX0_roundLoads_28 : decode cX0_roundLoads 28 = .ok (.ldc2_w 89, 3) := by decide +kernel
theorem dX0_roundLoads_31 : decode cX0_roundLoads 31 = .ok (.lastore, 1) := by decide +kernel
theorem dX0_roundLoads_32 : decode cX0_roundLoads 32 = .ok (.aload_n 0, 1) := by decide +kernel
theorem dX0_roundLoads_33 : decode cX0_roundLoads 33 = .ok (.getfield 23, 3) := by decide +kernel
theorem dX0_roundLoads_36 : decode cX0_roundLoads 36 = .ok (.iload_n 3, 1) := by decide +kernel
theorem dX0_roundLoads_37 : decode cX0_roundLoads 37 = .ok (.invokestatic 66, 3) := by decide +kernel
theorem dX0_roundLoads_40 : decode cX0_roundLoads 40 = .ok (.ifCond .eq 67, 3) := by decide +kernel
theorem dX0_roundLoads_43 : decode cX0_roundLoads 43 = .ok (.aload_n 1, 1) := by decide +kernel
theorem dX0_roundLoads_44 : decode cX0_roundLoads 44 = .ok (.getfield 70, 3) := by decide +kernel
theorem dX0_roundLoads_47 : decode cX0_roundLoads 47 = .ok (.iload_n 3, 1) := by decide +kernel
theorem dX0_roundLoads_48 : decode cX0_roundLoads 48 = .ok (.iaload, 1) := by decide +kernel
theorem dX0_roundLoads_49 : decode cX0_roundLoads 49 = .ok (.i2l, 1) := by decide +kernel
theorem dX0_roundLoads_50 : decode cX0_roundLoads 50 = .ok (.aload_n 0, 1) := by decide +kernel
theorem dX0_roundLoads_51 : decode cX0_roundLoads 51 = .ok (.aload_n 1, 1) := by decide +kernel
theorem dX0_roundLoads_52 : decode cX0_roundLoads 52 = .ok (.getfield 73, 3) := by decide +kernel
theorem dX0_roundLoads_55 : decode cX0_roundLoads 55 = .ok (.iload_n 3, 1) := by decide +kernel
theorem dX0_roundLoads_56 : decode cX0_roundLoads 56 = .ok (.iaload, 1) := by decide +kernel
theorem dX0_roundLoads_57 : decode cX0_roundLoads 57 = .ok (.i2l, 1) := by decide +kernel
theorem dX0_roundLoads_58 : decode cX0_roundLoads 58 = .ok (.aload_n 1, 1) := by decide +kernel
theorem dX0_roundLoads_59 : decode cX0_roundLoads 59 = .ok (.getfield 76, 3) := by decide +kernel
theorem dX0_roundLoads_62 : decode cX0_roundLoads 62 = .ok (.iload_n 3, 1) := by decide +kernel
theorem dX0_roundLoads_63 : decode cX0_roundLoads 63 = .ok (.iaload, 1) := by decide +kernel
theorem dX0_roundLoads_64 : decode cX0_roundLoads 64 = .ok (.i2l, 1) := by decide +kernel
theorem dX0_roundLoads_65 : decode cX0_roundLoads 65 = .ok (.invokevirtual 85, 3) := by decide +kernel
theorem dX0_roundLoads_68 : decode cX0_roundLoads 68 = .ok (.lmul, 1) := by decide +kernel
theorem dX0_roundLoads_69 : decode cX0_roundLoads 69 = .ok (.lstore 4, 2) := by decide +kernel
theorem dX0_roundLoads_71 : decode cX0_roundLoads 71 = .ok (.aload_n 0, 1) := by decide +kernel
theorem dX0_roundLoads_72 : decode cX0_roundLoads 72 = .ok (.getfield 9, 3) := by decide +kernel
theorem dX0_roundLoads_75 : decode cX0_roundLoads 75 = .ok (.iload_n 3, 1) := by decide +kernel
theorem dX0_roundLoads_76 : decode cX0_roundLoads 76 = .ok (.lload 4, 2) := by decide +kernel
theorem dX0_roundLoads_78 : decode cX0_roundLoads 78 = .ok (.aload_n 0, 1) := by decide +kernel
theorem dX0_roundLoads_79 : decode cX0_roundLoads 79 = .ok (.getfield 52, 3) := by decide +kernel
theorem dX0_roundLoads_82 : decode cX0_roundLoads 82 = .ok (.ldiv, 1) := by decide +kernel
theorem dX0_roundLoads_83 : decode cX0_roundLoads 83 = .ok (.l2i, 1) := by decide +kernel
theorem dX0_roundLoads_84 : decode cX0_roundLoads 84 = .ok (.iastore, 1) := by decide +kernel
theorem dX0_roundLoads_85 : decode cX0_roundLoads 85 = .ok (.aload_n 0, 1) := by decide +kernel
theorem dX0_roundLoads_86 : decode cX0_roundLoads 86 = .ok (.getfield 15, 3) := by decide +kernel
theorem dX0_roundLoads_89 : decode cX0_roundLoads 89 = .ok (.iload_n 3, 1) := by decide +kernel
theorem dX0_roundLoads_90 : decode cX0_roundLoads 90 = .ok (.lload 4, 2) := by decide +kernel
theorem dX0_roundLoads_92 : decode cX0_roundLoads 92 = .ok (.aload_n 0, 1) := by decide +kernel
theorem dX0_roundLoads_93 : decode cX0_roundLoads 93 = .ok (.getfield 52, 3) := by decide +kernel
theorem dX0_roundLoads_96 : decode cX0_roundLoads 96 = .ok (.lrem, 1) := by decide +kernel
theorem dX0_roundLoads_97 : decode cX0_roundLoads 97 = .ok (.lastore, 1) := by decide +kernel
theorem dX0_roundLoads_98 : decode cX0_roundLoads 98 = .ok (.iload_n 2, 1) := by decide +kernel
theorem dX0_roundLoads_99 : decode cX0_roundLoads 99 = .ok (.aload_n 0, 1) := by decide +kernel
theorem dX0_roundLoads_100 : decode cX0_roundLoads 100 = .ok (.getfield 9, 3) := by decide +kernel
theorem dX0_roundLoads_103 : decode cX0_roundLoads 103 = .ok (.iload_n 3, 1) := by decide +kernel
theorem dX0_roundLoads_104 : decode cX0_roundLoads 104 = .ok (.iaload, 1) := by decide +kernel
theorem dX0_roundLoads_105 : decode cX0_roundLoads 105 = .ok (.isub, 1) := by decide +kernel
theorem dX0_roundLoads_106 : decode cX0_roundLoads 106 = .ok (.istore_n 2, 1) := by decide +kernel
theorem dX0_roundLoads_107 : decode cX0_roundLoads 107 = .ok (.iinc 3 1, 3) := by decide +kernel
theorem dX0_roundLoads_110 : decode cX0_roundLoads 110 = .ok (.goto (-93), 3) := by decide +kernel
theorem dX0_roundLoads_113 : decode cX0_roundLoads 113 = .ok (.iconst 0, 1) := by decide +kernel
theorem dX0_roundLoads_114 : decode cX0_roundLoads 114 = .ok (.istore_n 3, 1) := by decide +kernel
theorem dX0_roundLoads_115 : decode cX0_roundLoads 115 = .ok (.iload_n 3, 1) := by decide +kernel
theorem dX0_roundLoads_116 : decode cX0_roundLoads 116 = .ok (.iload_n 2, 1) := by decide +kernel
theorem dX0_roundLoads_117 : decode cX0_roundLoads 117 = .ok (.if_icmp .ge 19, 3) := by decide +kernel
theorem dX0_roundLoads_120 : decode cX0_roundLoads 120 = .ok (.iload_n 3, 1) := by decide +kernel
theorem dX0_roundLoads_121 : decode cX0_roundLoads 121 = .ok (.bipush 16, 2) := by decide +kernel
theorem dX0_roundLoads_123 : decode cX0_roundLoads 123 = .ok (.if_icmp .ge 13, 3) := by decide +kernel
theorem dX0_roundLoads_126 : decode cX0_roundLoads 126 = .ok (.aload_n 0, 1) := by decide +kernel
theorem dX0_roundLoads_127 : decode cX0_roundLoads 127 = .ok (.invokevirtual 91, 3) := by decide +kernel
theorem dX0_roundLoads_130 : decode cX0_roundLoads 130 = .ok (.iinc 3 1, 3) := by decide +kernel
theorem dX0_roundLoads_133 : decode cX0_roundLoads 133 = .ok (.goto (-18), 3) := by decide +kernel
theorem dX0_roundLoads_136 : decode cX0_roundLoads 136 = .ok (.return_, 1) := by decide +kernel
theorem dX0_giveOneMore_0 : decode cX0_giveOneMore 0 = .ok (.iconst 0, 1) := by decide +kernel
theorem dX0_giveOneMore_1 : decode cX0_giveOneMore 1 = .ok (.istore_n 1, 1) := by decide +kernel
theorem dX0_giveOneMore_2 : decode cX0_giveOneMore 2 = .ok (.iconst 1, 1) := by decide +kernel
theorem dX0_giveOneMore_3 : decode cX0_giveOneMore 3 = .ok (.istore_n 2, 1) := by decide +kernel
theorem dX0_giveOneMore_4 : decode cX0_giveOneMore 4 = .ok (.iload_n 2, 1) := by decide +kernel
theorem dX0_giveOneMore_5 : decode cX0_giveOneMore 5 = .ok (.bipush 16, 2) := by decide +kernel
theorem dX0_giveOneMore_7 : decode cX0_giveOneMore 7 = .ok (.if_icmp .ge 27, 3) := by decide +kernel
theorem dX0_giveOneMore_10 : decode cX0_giveOneMore 10 = .ok (.aload_n 0, 1) := by decide +kernel
theorem dX0_giveOneMore_11 : decode cX0_giveOneMore 11 = .ok (.getfield 15, 3) := by decide +kernel
theorem dX0_giveOneMore_14 : decode cX0_giveOneMore 14 = .ok (.iload_n 2, 1) := by decide +kernel
theorem dX0_giveOneMore_15 : decode cX0_giveOneMore 15 = .ok (.laload, 1) := by decide +kernel
theorem dX0_giveOneMore_16 : decode cX0_giveOneMore 16 = .ok (.aload_n 0, 1) := by decide +kernel
theorem dX0_giveOneMore_17 : decode cX0_giveOneMore 17 = .ok (.getfield 15, 3) := by decide +kernel
theorem dX0_giveOneMore_20 : decode cX0_giveOneMore 20 = .ok (.iload_n 1, 1) := by decide +kernel
theorem dX0_giveOneMore_21 : decode cX0_giveOneMore 21 = .ok (.laload, 1) := by decide +kernel
theorem dX0_giveOneMore_22 : decode cX0_giveOneMore 22 = .ok (.lcmp, 1) := by decide +kernel
theorem dX0_giveOneMore_23 : decode cX0_giveOneMore 23 = .ok (.ifCond .le 5, 3) := by decide +kernel
theorem dX0_giveOneMore_26 : decode cX0_giveOneMore 26 = .ok (.iload_n 2, 1) := by decide +kernel
theorem dX0_giveOneMore_27 : decode cX0_giveOneMore 27 = .ok (.istore_n 1, 1) := by decide +kernel
theorem dX0_giveOneMore_28 : decode cX0_giveOneMore 28 = .ok (.iinc 2 1, 3) := by decide +kernel
theorem dX0_giveOneMore_31 : decode cX0_giveOneMore 31 = .ok (.goto (-27), 3) := by decide +kernel
theorem dX0_giveOneMore_34 : decode cX0_giveOneMore 34 = .ok (.aload_n 0, 1) := by decide +kernel
theorem dX0_giveOneMore_35 : decode cX0_giveOneMore 35 = .ok (.getfield 9, 3) := by decide +kernel
theorem dX0_giveOneMore_38 : decode cX0_giveOneMore 38 = .ok (.iload_n 1, 1) := by decide +kernel
theorem dX0_giveOneMore_39 : decode cX0_giveOneMore 39 = .ok (.dup2, 1) := by decide +kernel
theorem dX0_giveOneMore_40 : decode cX0_giveOneMore 40 = .ok (.iaload, 1) := by decide +kernel
theorem dX0_giveOneMore_41 : decode cX0_giveOneMore 41 = .ok (.iconst 1, 1) := by decide +kernel
theorem dX0_giveOneMore_42 : decode cX0_giveOneMore 42 = .ok (.iadd, 1) := by decide +kernel
theorem dX0_giveOneMore_43 : decode cX0_giveOneMore 43 = .ok (.iastore, 1) := by decide +kernel
theorem dX0_giveOneMore_44 : decode cX0_giveOneMore 44 = .ok (.aload_n 0, 1) := by decide +kernel
theorem dX0_giveOneMore_45 : decode cX0_giveOneMore 45 = .ok (.getfield 15, 3) := by decide +kernel
theorem dX0_giveOneMore_48 : decode cX0_giveOneMore 48 = .ok (.iload_n 1, 1) := by decide +kernel
theorem dX0_giveOneMore_49 : decode cX0_giveOneMore 49 = .ok (.ldc2_w 89, 3) := by decide +kernel
theorem dX0_giveOneMore_52 : decode cX0_giveOneMore 52 = .ok (.lastore, 1) := by decide +kernel
theorem dX0_giveOneMore_53 : decode cX0_giveOneMore 53 = .ok (.return_, 1) := by decide +kernel
set_option maxRecDepth 20000 in
theorem ggX0_findOverloaded_X5_isMember : GoodIn wsX0_findOverloaded wsX5_isMember := goodIn_r _ [7] (by decide +kernel) (by decide +kernel)
set_option maxRecDepth 20000 in
theorem gX0_findOverloaded_X5_isMember_n66 : GoodIn wsX0_findOverloaded (wsX5_isMember) := ggX0_findOverloaded_X5_isMember
theorem dX0_findOverloaded_0 : decode cX0_findOverloaded 0 = .ok (.iconst 0, 1) := by decide +kernel
theorem dX0_findOverloaded_1 : decode cX0_findOverloaded 1 = .ok (.istore_n 2, 1) := by decide +kernel
theorem dX0_findOverloaded_2 : decode cX0_findOverloaded 2 = .ok (.iload_n 2, 1) := by decide +kernel
theorem dX0_findOverloaded_3 : decode cX0_findOverloaded 3 = .ok (.bipush 16, 2) := by decide +kernel
theorem dX0_findOverloaded_5 : decode cX0_findOverloaded 5 = .ok (.if_icmp .ge 47, 3) := by decide +kernel
theorem dX0_findOverloaded_8 : decode cX0_findOverloaded 8 = .ok (.aload_n 0, 1) := by decide +kernel
theorem dX0_findOverloaded_9 : decode cX0_findOverloaded 9 = .ok (.getfield 23, 3) := by decide +kernel
theorem dX0_findOverloaded_12 : decode cX0_findOverloaded 12 = .ok (.iload_n 2, 1) := by decide +kernel
theorem dX0_findOverloaded_13 : decode cX0_findOverloaded 13 = .ok (.invokestatic 66, 3) := by decide +kernel
theorem dX0_findOverloaded_16 : decode cX0_findOverloaded 16 = .ok (.ifCond .eq 30, 3) := by decide +kernel
theorem dX0_findOverloaded_19 : decode cX0_findOverloaded 19 = .ok (.aload_n 0, 1) := by decide +kernel
theorem dX0_findOverloaded_20 : decode cX0_findOverloaded 20 = .ok (.getfield 9, 3) := by decide +kernel
theorem dX0_findOverloaded_23 : decode cX0_findOverloaded 23 = .ok (.iload_n 2, 1) := by decide +kernel
theorem dX0_findOverloaded_24 : decode cX0_findOverloaded 24 = .ok (.iaload, 1) := by decide +kernel
theorem dX0_findOverloaded_25 : decode cX0_findOverloaded 25 = .ok (.aload_n 1, 1) := by decide +kernel
theorem dX0_findOverloaded_26 : decode cX0_findOverloaded 26 = .ok (.getfield 94, 3) := by decide +kernel
theorem dX0_findOverloaded_29 : decode cX0_findOverloaded 29 = .ok (.iload_n 2, 1) := by decide +kernel
theorem dX0_findOverloaded_30 : decode cX0_findOverloaded 30 = .ok (.iaload, 1) := by decide +kernel
theorem dX0_findOverloaded_31 : decode cX0_findOverloaded 31 = .ok (.if_icmp .le 15, 3) := by decide +kernel
theorem dX0_findOverloaded_34 : decode cX0_findOverloaded 34 = .ok (.aload_n 0, 1) := by decide +kernel
theorem dX0_findOverloaded_35 : decode cX0_findOverloaded 35 = .ok (.dup, 1) := by decide +kernel
theorem dX0_findOverloaded_36 : decode cX0_findOverloaded 36 = .ok (.getfield 27, 3) := by decide +kernel
theorem dX0_findOverloaded_39 : decode cX0_findOverloaded 39 = .ok (.iconst 1, 1) := by decide +kernel
theorem dX0_findOverloaded_40 : decode cX0_findOverloaded 40 = .ok (.iload_n 2, 1) := by decide +kernel
theorem dX0_findOverloaded_41 : decode cX0_findOverloaded 41 = .ok (.ishl, 1) := by decide +kernel
theorem dX0_findOverloaded_42 : decode cX0_findOverloaded 42 = .ok (.ior, 1) := by decide +kernel
theorem dX0_findOverloaded_43 : decode cX0_findOverloaded 43 = .ok (.putfield 27, 3) := by decide +kernel
theorem dX0_findOverloaded_46 : decode cX0_findOverloaded 46 = .ok (.iinc 2 1, 3) := by decide +kernel
theorem dX0_findOverloaded_49 : decode cX0_findOverloaded 49 = .ok (.goto (-47), 3) := by decide +kernel
theorem dX0_findOverloaded_52 : decode cX0_findOverloaded 52 = .ok (.return_, 1) := by decide +kernel
theorem dX0_isSafe_0 : decode cX0_isSafe 0 = .ok (.aload_n 0, 1) := by decide +kernel
theorem dX0_isSafe_1 : decode cX0_isSafe 1 = .ok (.getfield 19, 3) := by decide +kernel
theorem dX0_isSafe_4 : decode cX0_isSafe 4 = .ok (.ifCond .eq 14, 3) := by decide +kernel
theorem dX0_isSafe_7 : decode cX0_isSafe 7 = .ok (.aload_n 0, 1) := by decide +kernel
theorem dX0_isSafe_8 : decode cX0_isSafe 8 = .ok (.getfield 27, 3) := by decide +kernel
theorem dX0_isSafe_11 : decode cX0_isSafe 11 = .ok (.ifCond .ne 7, 3) := by decide +kernel
theorem dX0_isSafe_14 : decode cX0_isSafe 14 = .ok (.iconst 1, 1) := by decide +kernel
theorem dX0_isSafe_15 : decode cX0_isSafe 15 = .ok (.goto 4, 3) := by decide +kernel
theorem dX0_isSafe_18 : decode cX0_isSafe 18 = .ok (.iconst 0, 1) := by decide +kernel
theorem dX0_isSafe_19 : decode cX0_isSafe 19 = .ok (.ireturn, 1) := by decide +kernel
theorem dX0_mostLoaded_0 : decode cX0_mostLoaded 0 = .ok (.aload_n 0, 1) := by decide +kernel
theorem dX0_mostLoaded_1 : decode cX0_mostLoaded 1 = .ok (.getfield 19, 3) := by decide +kernel
theorem dX0_mostLoaded_4 : decode cX0_mostLoaded 4 = .ok (.ifCond .ne 5, 3) := by decide +kernel
theorem dX0_mostLoaded_7 : decode cX0_mostLoaded 7 = .ok (.iconst (-1), 1) := by decide +kernel
theorem dX0_mostLoaded_8 : decode cX0_mostLoaded 8 = .ok (.ireturn, 1) := by decide +kernel
theorem dX0_mostLoaded_9 : decode cX0_mostLoaded 9 = .ok (.iconst 0, 1) := by decide +kernel
theorem dX0_mostLoaded_10 : decode cX0_mostLoaded 10 = .ok (.istore_n 1, 1) := by decide +kernel
theorem dX0_mostLoaded_11 : decode cX0_mostLoaded 11 = .ok (.iconst 1, 1) := by decide +kernel
theorem dX0_mostLoaded_12 : decode cX0_mostLoaded 12 = .ok (.istore_n 2, 1) := by decide +kernel
theorem dX0_mostLoaded_13 : decode cX0_mostLoaded 13 = .ok (.iload_n 2, 1) := by decide +kernel
theorem dX0_mostLoaded_14 : decode cX0_mostLoaded 14 = .ok (.bipush 16, 2) := by decide +kernel
theorem dX0_mostLoaded_16 : decode cX0_mostLoaded 16 = .ok (.if_icmp .ge 26, 3) := by decide +kernel
theorem dX0_mostLoaded_19 : decode cX0_mostLoaded 19 = .ok (.aload_n 0, 1) := by decide +kernel
theorem dX0_mostLoaded_20 : decode cX0_mostLoaded 20 = .ok (.getfield 9, 3) := by decide +kernel
theorem dX0_mostLoaded_23 : decode cX0_mostLoaded 23 = .ok (.iload_n 2, 1) := by decide +kernel
theorem dX0_mostLoaded_24 : decode cX0_mostLoaded 24 = .ok (.iaload, 1) := by decide +kernel
theorem dX0_mostLoaded_25 : decode cX0_mostLoaded 25 = .ok (.aload_n 0, 1) := by decide +kernel
theorem dX0_mostLoaded_26 : decode cX0_mostLoaded 26 = .ok (.getfield 9, 3) := by decide +kernel
theorem dX0_mostLoaded_29 : decode cX0_mostLoaded 29 = .ok (.iload_n 1, 1) := by decide +kernel
theorem dX0_mostLoaded_30 : decode cX0_mostLoaded 30 = .ok (.iaload, 1) := by decide +kernel
theorem dX0_mostLoaded_31 : decode cX0_mostLoaded 31 = .ok (.if_icmp .le 5, 3) := by decide +kernel
theorem dX0_mostLoaded_34 : decode cX0_mostLoaded 34 = .ok (.iload_n 2, 1) := by decide +kernel
theorem dX0_mostLoaded_35 : decode cX0_mostLoaded 35 = .ok (.istore_n 1, 1) := by decide +kernel
theorem dX0_mostLoaded_36 : decode cX0_mostLoaded 36 = .ok (.iinc 2 1, 3) := by decide +kernel
theorem dX0_mostLoaded_39 : decode cX0_mostLoaded 39 = .ok (.goto (-26), 3) := by decide +kernel
theorem dX0_mostLoaded_42 : decode cX0_mostLoaded 42 = .ok (.iload_n 1, 1) := by decide +kernel
theorem dX0_mostLoaded_43 : decode cX0_mostLoaded 43 = .ok (.ireturn, 1) := by decide +kernel
theorem dX0_greatestLoad_0 : decode cX0_greatestLoad 0 = .ok (.iconst 0, 1) := by decide +kernel
theorem dX0_greatestLoad_1 : decode cX0_greatestLoad 1 = .ok (.istore_n 1, 1) := by decide +kernel
theorem dX0_greatestLoad_2 : decode cX0_greatestLoad 2 = .ok (.iconst 0, 1) := by decide +kernel
theorem dX0_greatestLoad_3 : decode cX0_greatestLoad 3 = .ok (.istore_n 2, 1) := by decide +kernel
theorem dX0_greatestLoad_4 : decode cX0_greatestLoad 4 = .ok (.iload_n 2, 1) := by decide +kernel
theorem dX0_greatestLoad_5 : decode cX0_greatestLoad 5 = .ok (.bipush 16, 2) := by decide +kernel
theorem dX0_greatestLoad_7 : decode cX0_greatestLoad 7 = .ok (.if_icmp .ge 20, 3) := by decide +kernel
theorem dX0_greatestLoad_10 : decode cX0_greatestLoad 10 = .ok (.iload_n 1, 1) := by decide +kernel
theorem dX0_greatestLoad_11 : decode cX0_greatestLoad 11 = .ok (.aload_n 0, 1) := by decide +kernel
theorem dX0_greatestLoad_12 : decode cX0_greatestLoad 12 = .ok (.getfield 9, 3) := by decide +kernel
theorem dX0_greatestLoad_15 : decode cX0_greatestLoad 15 = .ok (.iload_n 2, 1) := by decide +kernel
theorem dX0_greatestLoad_16 : decode cX0_greatestLoad 16 = .ok (.iaload, 1) := by decide +kernel
theorem dX0_greatestLoad_17 : decode cX0_greatestLoad 17 = .ok (.invokestatic 97, 3) := by decide +kernel
theorem dX0_greatestLoad_20 : decode cX0_greatestLoad 20 = .ok (.istore_n 1, 1) := by decide +kernel
theorem dX0_greatestLoad_21 : decode cX0_greatestLoad 21 = .ok (.iinc 2 1, 3) := by decide +kernel
theorem dX0_greatestLoad_24 : decode cX0_greatestLoad 24 = .ok (.goto (-20), 3) := by decide +kernel
theorem dX0_greatestLoad_27 : decode cX0_greatestLoad 27 = .ok (.iload_n 1, 1) := by decide +kernel
theorem dX0_greatestLoad_28 : decode cX0_greatestLoad 28 = .ok (.ireturn, 1) := by decide +kernel
set_option maxRecDepth 20000 in
theorem ggX0_mostOverloaded_X5_isMember : GoodIn wsX0_mostOverloaded wsX5_isMember := goodIn_r _ [6] (by decide +kernel) (by decide +kernel)
set_option maxRecDepth 20000 in
theorem gX0_mostOverloaded_X5_isMember_n66 : GoodIn wsX0_mostOverloaded (wsX5_isMember) := ggX0_mostOverloaded_X5_isMember
theorem dX0_mostOverloaded_0 : decode cX0_mostOverloaded 0 = .ok (.iconst (-1), 1) := by decide +kernel
theorem dX0_mostOverloaded_1 : decode cX0_mostOverloaded 1 = .ok (.istore_n 2, 1) := by decide +kernel
theorem dX0_mostOverloaded_2 : decode cX0_mostOverloaded 2 = .ok (.iconst 0, 1) := by decide +kernel
theorem dX0_mostOverloaded_3 : decode cX0_mostOverloaded 3 = .ok (.istore_n 3, 1) := by decide +kernel
theorem dX0_mostOverloaded_4 : decode cX0_mostOverloaded 4 = .ok (.iconst 0, 1) := by decide +kernel
theorem dX0_mostOverloaded_5 : decode cX0_mostOverloaded 5 = .ok (.istore 4, 2) := by decide +kernel
theorem dX0_mostOverloaded_7 : decode cX0_mostOverloaded 7 = .ok (.iload 4, 2) := by decide +kernel
theorem dX0_mostOverloaded_9 : decode cX0_mostOverloaded 9 = .ok (.bipush 16, 2) := by decide +kernel
theorem dX0_mostOverloaded_11 : decode cX0_mostOverloaded 11 = .ok (.if_icmp .ge 50, 3) := by decide +kernel
theorem dX0_mostOverloaded_14 : decode cX0_mostOverloaded 14 = .ok (.aload_n 0, 1) := by decide +kernel
theorem dX0_mostOverloaded_15 : decode cX0_mostOverloaded 15 = .ok (.getfield 9, 3) := by decide +kernel
theorem dX0_mostOverloaded_18 : decode cX0_mostOverloaded 18 = .ok (.iload 4, 2) := by decide +kernel
theorem dX0_mostOverloaded_20 : decode cX0_mostOverloaded 20 = .ok (.iaload, 1) := by decide +kernel
theorem dX0_mostOverloaded_21 : decode cX0_mostOverloaded 21 = .ok (.aload_n 1, 1) := by decide +kernel
theorem dX0_mostOverloaded_22 : decode cX0_mostOverloaded 22 = .ok (.getfield 94, 3) := by decide +kernel
theorem dX0_mostOverloaded_25 : decode cX0_mostOverloaded 25 = .ok (.iload 4, 2) := by decide +kernel
theorem dX0_mostOverloaded_27 : decode cX0_mostOverloaded 27 = .ok (.iaload, 1) := by decide +kernel
theorem dX0_mostOverloaded_28 : decode cX0_mostOverloaded 28 = .ok (.isub, 1) := by decide +kernel
theorem dX0_mostOverloaded_29 : decode cX0_mostOverloaded 29 = .ok (.istore 5, 2) := by decide +kernel
theorem dX0_mostOverloaded_31 : decode cX0_mostOverloaded 31 = .ok (.aload_n 0, 1) := by decide +kernel
theorem dX0_mostOverloaded_32 : decode cX0_mostOverloaded 32 = .ok (.getfield 27, 3) := by decide +kernel
theorem dX0_mostOverloaded_35 : decode cX0_mostOverloaded 35 = .ok (.iload 4, 2) := by decide +kernel
theorem dX0_mostOverloaded_37 : decode cX0_mostOverloaded 37 = .ok (.invokestatic 66, 3) := by decide +kernel
theorem dX0_mostOverloaded_40 : decode cX0_mostOverloaded 40 = .ok (.ifCond .eq 15, 3) := by decide +kernel
theorem dX0_mostOverloaded_43 : decode cX0_mostOverloaded 43 = .ok (.iload 5, 2) := by decide +kernel
theorem dX0_mostOverloaded_45 : decode cX0_mostOverloaded 45 = .ok (.iload_n 3, 1) := by decide +kernel
theorem dX0_mostOverloaded_46 : decode cX0_mostOverloaded 46 = .ok (.if_icmp .le 9, 3) := by decide +kernel
theorem dX0_mostOverloaded_49 : decode cX0_mostOverloaded 49 = .ok (.iload 4, 2) := by decide +kernel
theorem dX0_mostOverloaded_51 : decode cX0_mostOverloaded 51 = .ok (.istore_n 2, 1) := by decide +kernel
theorem dX0_mostOverloaded_52 : decode cX0_mostOverloaded 52 = .ok (.iload 5, 2) := by decide +kernel
theorem dX0_mostOverloaded_54 : decode cX0_mostOverloaded 54 = .ok (.istore_n 3, 1) := by decide +kernel
theorem dX0_mostOverloaded_55 : decode cX0_mostOverloaded 55 = .ok (.iinc 4 1, 3) := by decide +kernel
theorem dX0_mostOverloaded_58 : decode cX0_mostOverloaded 58 = .ok (.goto (-51), 3) := by decide +kernel
theorem dX0_mostOverloaded_61 : decode cX0_mostOverloaded 61 = .ok (.iload_n 2, 1) := by decide +kernel
theorem dX0_mostOverloaded_62 : decode cX0_mostOverloaded 62 = .ok (.ireturn, 1) := by decide +kernel
theorem dX1_init_0 : decode cX1_init 0 = .ok (.aload_n 0, 1) := by decide +kernel
theorem dX1_init_1 : decode cX1_init 1 = .ok (.invokespecial 3, 3) := by decide +kernel
theorem dX1_init_4 : decode cX1_init 4 = .ok (.aload_n 0, 1) := by decide +kernel
theorem dX1_init_5 : decode cX1_init 5 = .ok (.sipush 1000, 3) := by decide +kernel
theorem dX1_init_8 : decode cX1_init 8 = .ok (.putfield 9, 3) := by decide +kernel
theorem dX1_init_11 : decode cX1_init 11 = .ok (.aload_n 0, 1) := by decide +kernel
theorem dX1_init_12 : decode cX1_init 12 = .ok (.sipush 200, 3) := by decide +kernel
theorem dX1_init_15 : decode cX1_init 15 = .ok (.putfield 15, 3) := by decide +kernel
theorem dX1_init_18 : decode cX1_init 18 = .ok (.aload_n 0, 1) := by decide +kernel
theorem dX1_init_19 : decode cX1_init 19 = .ok (.iconst 0, 1) := by decide +kernel
theorem dX1_init_20 : decode cX1_init 20 = .ok (.putfield 18, 3) := by decide +kernel
theorem dX1_init_23 : decode cX1_init 23 = .ok (.aload_n 0, 1) := by decide +kernel
theorem dX1_init_24 : decode cX1_init 24 = .ok (.iconst 0, 1) := by decide +kernel
theorem dX1_init_25 : decode cX1_init 25 = .ok (.putfield 21, 3) := by decide +kernel
theorem dX1_init_28 : decode cX1_init 28 = .ok (.aload_n 0, 1) := by decide +kernel
theorem dX1_init_29 : decode cX1_init 29 = .ok (.iconst 0, 1) := by decide +kernel
theorem dX1_init_30 : decode cX1_init 30 = .ok (.putfield 24, 3) := by decide +kernel
theorem dX1_init_33 : decode cX1_init 33 = .ok (.aload_n 0, 1) := by decide +kernel
theorem dX1_init_34 : decode cX1_init 34 = .ok (.bipush 16, 2) := by decide +kernel
theorem dX1_init_36 : decode cX1_init 36 = .ok (.newarray .int, 2) := by decide +kernel
theorem dX1_init_38 : decode cX1_init 38 = .ok (.putfield 27, 3) := by decide +kernel
theorem dX1_init_41 : decode cX1_init 41 = .ok (.aload_n 0, 1) := by decide +kernel
theorem dX1_init_42 : decode cX1_init 42 = .ok (.bipush 16, 2) := by decide +kernel
theorem dX1_init_44 : decode cX1_init 44 = .ok (.newarray .int, 2) := by decide +kernel
theorem dX1_init_46 : decode cX1_init 46 = .ok (.putfield 31, 3) := by decide +kernel
theorem dX1_init_49 : decode cX1_init 49 = .ok (.aload_n 0, 1) := by decide +kernel
theorem dX1_init_50 : decode cX1_init 50 = .ok (.bipush 16, 2) := by decide +kernel
theorem dX1_init_52 : decode cX1_init 52 = .ok (.newarray .int, 2) := by decide +kernel
theorem dX1_init_54 : decode cX1_init 54 = .ok (.putfield 34, 3) := by decide +kernel
theorem dX1_init_57 : decode cX1_init 57 = .ok (.aload_n 0, 1) := by decide +kernel
theorem dX1_init_58 : decode cX1_init 58 = .ok (.bipush 16, 2) := by decide +kernel
theorem dX1_init_60 : decode cX1_init 60 = .ok (.newarray .int, 2) := by decide +kernel
theorem dX1_init_62 : decode cX1_init 62 = .ok (.putfield 37, 3) := by decide +kernel
theorem dX1_init_65 : decode cX1_init 65 = .ok (.aload_n 0, 1) := by decide +kernel
theorem dX1_init_66 : decode cX1_init 66 = .ok (.bipush 16, 2) := by decide +kernel
theorem dX1_init_68 : decode cX1_init 68 = .ok (.newarray .int, 2) := by decide +kernel
theorem dX1_init_70 : decode cX1_init 70 = .ok (.putfield 40, 3) := by decide +kernel
theorem dX1_init_73 : decode cX1_init 73 = .ok (.return_, 1) := by decide +kernel
theorem dX1_hasBlock_0 : decode cX1_hasBlock 0 = .ok (.iload_n 1, 1) := by decide +kernel
theorem dX1_hasBlock_1 : decode cX1_hasBlock 1 = .ok (.ifCond .lt 21, 3) := by decide +kernel
theorem dX1_hasBlock_4 : decode cX1_hasBlock 4 = .ok (.iload_n 1, 1) := by decide +kernel
theorem dX1_hasBlock_5 : decode cX1_hasBlock 5 = .ok (.aload_n 0, 1) := by decide +kernel
theorem dX1_hasBlock_6 : decode cX1_hasBlock 6 = .ok (.getfield 18, 3) := by decide +kernel
theorem dX1_hasBlock_9 : decode cX1_hasBlock 9 = .ok (.if_icmp .ge 13, 3) := by decide +kernel
theorem dX1_hasBlock_12 : decode cX1_hasBlock 12 = .ok (.iload_n 1, 1) := by decide +kernel
theorem dX1_hasBlock_13 : decode cX1_hasBlock 13 = .ok (.bipush 16, 2) := by decide +kernel
theorem dX1_hasBlock_15 : decode cX1_hasBlock 15 = .ok (.if_icmp .ge 7, 3) := by decide +kernel
theorem dX1_hasBlock_18 : decode cX1_hasBlock 18 = .ok (.iconst 1, 1) := by decide +kernel
theorem dX1_hasBlock_19 : decode cX1_hasBlock 19 = .ok (.goto 4, 3) := by decide +kernel
theorem dX1_hasBlock_22 : decode cX1_hasBlock 22 = .ok (.iconst 0, 1) := by decide +kernel
theorem dX1_hasBlock_23 : decode cX1_hasBlock 23 = .ok (.ireturn, 1) := by decide +kernel
theorem dX1_hasRoom_0 : decode cX1_hasRoom 0 = .ok (.aload_n 0, 1) := by decide +kernel
theorem dX1_hasRoom_1 : decode cX1_hasRoom 1 = .ok (.getfield 18, 3) := by decide +kernel
theorem dX1_hasRoom_4 : decode cX1_hasRoom 4 = .ok (.ifCond .lt 16, 3) := by decide +kernel
theorem dX1_hasRoom_7 : decode cX1_hasRoom 7 = .ok (.aload_n 0, 1) := by decide +kernel
theorem dX1_hasRoom_8 : decode cX1_hasRoom 8 = .ok (.getfield 18, 3) := by decide +kernel
theorem dX1_hasRoom_11 : decode cX1_hasRoom 11 = .ok (.bipush 16, 2) := by decide +kernel
theorem dX1_hasRoom_13 : decode cX1_hasRoom 13 = .ok (.if_icmp .ge 7, 3) := by decide +kernel
theorem dX1_hasRoom_16 : decode cX1_hasRoom 16 = .ok (.iconst 1, 1) := by decide +kernel
theorem dX1_hasRoom_17 : decode cX1_hasRoom 17 = .ok (.goto 4, 3) := by decide +kernel
theorem dX1_hasRoom_20 : decode cX1_hasRoom 20 = .ok (.iconst 0, 1) := by decide +kernel
theorem dX1_hasRoom_21 : decode cX1_hasRoom 21 = .ok (.ireturn, 1) := by decide +kernel
theorem dX1_add_0 : decode cX1_add 0 = .ok (.aload_n 0, 1) := by decide +kernel
theorem dX1_add_1 : decode cX1_add 1 = .ok (.getfield 18, 3) := by decide +kernel
theorem dX1_add_4 : decode cX1_add 4 = .ok (.istore 5, 2) := by decide +kernel
theorem dX1_add_6 : decode cX1_add 6 = .ok (.iload 5, 2) := by decide +kernel
theorem dX1_add_8 : decode cX1_add 8 = .ok (.ifCond .lt 10, 3) := by decide +kernel
theorem dX1_add_11 : decode cX1_add 11 = .ok (.iload 5, 2) := by decide +kernel
theorem dX1_add_13 : decode cX1_add 13 = .ok (.bipush 16, 2) := by decide +kernel
theorem dX1_add_15 : decode cX1_add 15 = .ok (.if_icmp .lt 5, 3) := by decide +kernel
theorem dX1_add_18 : decode cX1_add 18 = .ok (.iconst (-1), 1) := by decide +kernel
theorem dX1_add_19 : decode cX1_add 19 = .ok (.ireturn, 1) := by decide +kernel
theorem dX1_add_20 : decode cX1_add 20 = .ok (.aload_n 0, 1) := by decide +kernel
theorem dX1_add_21 : decode cX1_add 21 = .ok (.getfield 27, 3) := by decide +kernel
theorem dX1_add_24 : decode cX1_add 24 = .ok (.iload 5, 2) := by decide +kernel
theorem dX1_add_26 : decode cX1_add 26 = .ok (.iload_n 1, 1) := by decide +kernel
theorem dX1_add_27 : decode cX1_add 27 = .ok (.iastore, 1) := by decide +kernel
theorem dX1_add_28 : decode cX1_add 28 = .ok (.aload_n 0, 1) := by decide +kernel
theorem dX1_add_29 : decode cX1_add 29 = .ok (.getfield 31, 3) := by decide +kernel
theorem dX1_add_32 : decode cX1_add 32 = .ok (.iload 5, 2) := by decide +kernel
theorem dX1_add_34 : decode cX1_add 34 = .ok (.iload_n 2, 1) := by decide +kernel
theorem dX1_add_35 : decode cX1_add 35 = .ok (.iastore, 1) := by decide +kernel
theorem dX1_add_36 : decode cX1_add 36 = .ok (.aload_n 0, 1) := by decide +kernel
theorem dX1_add_37 : decode cX1_add 37 = .ok (.getfield 34, 3) := by decide +kernel
theorem dX1_add_40 : decode cX1_add 40 = .ok (.iload 5, 2) := by decide +kernel
theorem dX1_add_42 : decode cX1_add 42 = .ok (.iload_n 3, 1) := by decide +kernel
theorem dX1_add_43 : decode cX1_add 43 = .ok (.iastore, 1) := by decide +kernel
theorem dX1_add_44 : decode cX1_add 44 = .ok (.aload_n 0, 1) := by decide +kernel
theorem dX1_add_45 : decode cX1_add 45 = .ok (.getfield 37, 3) := by decide +kernel
theorem dX1_add_48 : decode cX1_add 48 = .ok (.iload 5, 2) := by decide +kernel
theorem dX1_add_50 : decode cX1_add 50 = .ok (.iload 4, 2) := by decide +kernel
theorem dX1_add_52 : decode cX1_add 52 = .ok (.iastore, 1) := by decide +kernel
theorem dX1_add_53 : decode cX1_add 53 = .ok (.aload_n 0, 1) := by decide +kernel
theorem dX1_add_54 : decode cX1_add 54 = .ok (.getfield 40, 3) := by decide +kernel
theorem dX1_add_57 : decode cX1_add 57 = .ok (.iload 5, 2) := by decide +kernel
theorem dX1_add_59 : decode cX1_add 59 = .ok (.iconst 0, 1) := by decide +kernel
theorem dX1_add_60 : decode cX1_add 60 = .ok (.iastore, 1) := by decide +kernel
theorem dX1_add_61 : decode cX1_add 61 = .ok (.aload_n 0, 1) := by decide +kernel
theorem dX1_add_62 : decode cX1_add 62 = .ok (.dup, 1) := by decide +kernel
theorem dX1_add_63 : decode cX1_add 63 = .ok (.getfield 21, 3) := by decide +kernel
theorem dX1_add_66 : decode cX1_add 66 = .ok (.iconst 1, 1) := by decide +kernel
theorem dX1_add_67 : decode cX1_add 67 = .ok (.iload 5, 2) := by decide +kernel
theorem dX1_add_69 : decode cX1_add 69 = .ok (.ishl, 1) := by decide +kernel
theorem dX1_add_70 : decode cX1_add 70 = .ok (.ior, 1) := by decide +kernel
theorem dX1_add_71 : decode cX1_add 71 = .ok (.putfield 21, 3) := by decide +kernel
theorem dX1_add_74 : decode cX1_add 74 = .ok (.aload_n 0, 1) := by decide +kernel
theorem dX1_add_75 : decode cX1_add 75 = .ok (.iload 5, 2) := by decide +kernel
theorem dX1_add_77 : decode cX1_add 77 = .ok (.iconst 1, 1) := by decide +kernel
theorem dX1_add_78 : decode cX1_add 78 = .ok (.iadd, 1) := by decide +kernel
theorem dX1_add_79 : decode cX1_add 79 = .ok (.putfield 18, 3) := by decide +kernel
theorem dX1_add_82 : decode cX1_add 82 = .ok (.iload 5, 2) := by decide +kernel
theorem dX1_add_84 : decode cX1_add 84 = .ok (.ireturn, 1) := by decide +kernel
theorem dX1_pullOut_0 : decode cX1_pullOut 0 = .ok (.aload_n 0, 1) := by decide +kernel
theorem dX1_pullOut_1 : decode cX1_pullOut 1 = .ok (.dup, 1) := by decide +kernel
theorem dX1_pullOut_2 : decode cX1_pullOut 2 = .ok (.getfield 21, 3) := by decide +kernel
theorem dX1_pullOut_5 : decode cX1_pullOut 5 = .ok (.iconst 1, 1) := by decide +kernel
theorem dX1_pullOut_6 : decode cX1_pullOut 6 = .ok (.iload_n 1, 1) := by decide +kernel
theorem dX1_pullOut_7 : decode cX1_pullOut 7 = .ok (.ishl, 1) := by decide +kernel
theorem dX1_pullOut_8 : decode cX1_pullOut 8 = .ok (.iconst (-1), 1) := by decide +kernel
theorem dX1_pullOut_9 : decode cX1_pullOut 9 = .ok (.ixor, 1) := by decide +kernel
theorem dX1_pullOut_10 : decode cX1_pullOut 10 = .ok (.iand, 1) := by decide +kernel
theorem dX1_pullOut_11 : decode cX1_pullOut 11 = .ok (.putfield 21, 3) := by decide +kernel
theorem dX1_pullOut_14 : decode cX1_pullOut 14 = .ok (.return_, 1) := by decide +kernel
theorem dX1_putBack_0 : decode cX1_putBack 0 = .ok (.aload_n 0, 1) := by decide +kernel
theorem dX1_putBack_1 : decode cX1_putBack 1 = .ok (.dup, 1) := by decide +kernel
theorem dX1_putBack_2 : decode cX1_putBack 2 = .ok (.getfield 21, 3) := by decide +kernel
theorem dX1_putBack_5 : decode cX1_putBack 5 = .ok (.iconst 1, 1) := by decide +kernel
theorem dX1_putBack_6 : decode cX1_putBack 6 = .ok (.iload_n 1, 1) := by decide +kernel
theorem dX1_putBack_7 : decode cX1_putBack 7 = .ok (.ishl, 1) := by decide +kernel
theorem dX1_putBack_8 : decode cX1_putBack 8 = .ok (.ior, 1) := by decide +kernel
theorem dX1_putBack_9 : decode cX1_putBack 9 = .ok (.putfield 21, 3) := by decide +kernel
theorem dX1_putBack_12 : decode cX1_putBack 12 = .ok (.aload_n 0, 1) := by decide +kernel
theorem dX1_putBack_13 : decode cX1_putBack 13 = .ok (.dup, 1) := by decide +kernel
theorem dX1_putBack_14 : decode cX1_putBack 14 = .ok (.getfield 24, 3) := by decide +kernel
theorem dX1_putBack_17 : decode cX1_putBack 17 = .ok (.iconst 1, 1) := by decide +kernel
theorem dX1_putBack_18 : decode cX1_putBack 18 = .ok (.iload_n 1, 1) := by decide +kernel
theorem dX1_putBack_19 : decode cX1_putBack 19 = .ok (.ishl, 1) := by decide +kernel
theorem dX1_putBack_20 : decode cX1_putBack 20 = .ok (.iconst (-1), 1) := by decide +kernel
theorem dX1_putBack_21 : decode cX1_putBack 21 = .ok (.ixor, 1) := by decide +kernel
theorem dX1_putBack_22 : decode cX1_putBack 22 = .ok (.iand, 1) := by decide +kernel
theorem dX1_putBack_23 : decode cX1_putBack 23 = .ok (.putfield 24, 3) := by decide +kernel
theorem dX1_putBack_26 : decode cX1_putBack 26 = .ok (.return_, 1) := by decide +kernel
theorem dX1_crush_0 : decode cX1_crush 0 = .ok (.aload_n 0, 1) := by decide +kernel
theorem dX1_crush_1 : decode cX1_crush 1 = .ok (.dup, 1) := by decide +kernel
theorem dX1_crush_2 : decode cX1_crush 2 = .ok (.getfield 21, 3) := by decide +kernel
theorem dX1_crush_5 : decode cX1_crush 5 = .ok (.iload_n 1, 1) := by decide +kernel
theorem dX1_crush_6 : decode cX1_crush 6 = .ok (.iconst (-1), 1) := by decide +kernel
theorem dX1_crush_7 : decode cX1_crush 7 = .ok (.ixor, 1) := by decide +kernel
theorem dX1_crush_8 : decode cX1_crush 8 = .ok (.iand, 1) := by decide +kernel
theorem dX1_crush_9 : decode cX1_crush 9 = .ok (.putfield 21, 3) := by decide +kernel
theorem dX1_crush_12 : decode cX1_crush 12 = .ok (.aload_n 0, 1) := by decide +kernel
theorem dX1_crush_13 : decode cX1_crush 13 = .ok (.dup, 1) := by decide +kernel
theorem dX1_crush_14 : decode cX1_crush 14 = .ok (.getfield 24, 3) := by decide +kernel
theorem dX1_crush_17 : decode cX1_crush 17 = .ok (.iload_n 1, 1) := by decide +kernel
theorem dX1_crush_18 : decode cX1_crush 18 = .ok (.ior, 1) := by decide +kernel
theorem dX1_crush_19 : decode cX1_crush 19 = .ok (.putfield 24, 3) := by decide +kernel
theorem dX1_crush_22 : decode cX1_crush 22 = .ok (.return_, 1) := by decide +kernel
set_option maxRecDepth 20000 in
theorem ggX1_lowerCap_X1_hasBlock : GoodIn wsX1_lowerCap wsX1_hasBlock := goodIn_r _ [7, 8, 9, 10, 11, 12, 13, 14, 15, 16, 17, 18] (by decide +kernel) (by decide +kernel)
set_option maxRecDepth 20000 in
theorem gX1_lowerCap_X1_hasBlock : GoodIn wsX1_lowerCap (wsV RX1 43 RX1 yX1_hasBlock wsX1_hasBlock) := goodIn_app (goodIn_of _ (by decide +kernel)) ggX1_lowerCap_X1_hasBlock
theorem dX1_lowerCap_0 : decode cX1_lowerCap 0 = .ok (.aload_n 0, 1) := by decide +kernel
theorem dX1_lowerCap_1 : decode cX1_lowerCap 1 = .ok (.iload_n 1, 1) := by decide +kernel
theorem dX1_lowerCap_2 : decode cX1_lowerCap 2 = .ok (.invokevirtual 43, 3) := by decide +kernel
theorem dX1_lowerCap_5 : decode cX1_lowerCap 5 = .ok (.ifCond .eq 14, 3) := by decide +kernel
theorem dX1_lowerCap_8 : decode cX1_lowerCap 8 = .ok (.aload_n 0, 1) := by decide +kernel
theorem dX1_lowerCap_9 : decode cX1_lowerCap 9 = .ok (.getfield 34, 3) := by decide +kernel
theorem dX1_lowerCap_12 : decode cX1_lowerCap 12 = .ok (.iload_n 1, 1) := by decide +kernel
theorem dX1_lowerCap_13 : decode cX1_lowerCap 13 = .ok (.iaload, 1) := by decide +kernel
theorem dX1_lowerCap_14 : decode cX1_lowerCap 14 = .ok (.bipush (-50), 2) := by decide +kernel
theorem dX1_lowerCap_16 : decode cX1_lowerCap 16 = .ok (.if_icmp .gt 5, 3) := by decide +kernel
theorem dX1_lowerCap_19 : decode cX1_lowerCap 19 = .ok (.iconst 0, 1) := by decide +kernel
theorem dX1_lowerCap_20 : decode cX1_lowerCap 20 = .ok (.ireturn, 1) := by decide +kernel
theorem dX1_lowerCap_21 : decode cX1_lowerCap 21 = .ok (.aload_n 0, 1) := by decide +kernel
theorem dX1_lowerCap_22 : decode cX1_lowerCap 22 = .ok (.getfield 34, 3) := by decide +kernel
theorem dX1_lowerCap_25 : decode cX1_lowerCap 25 = .ok (.iload_n 1, 1) := by decide +kernel
theorem dX1_lowerCap_26 : decode cX1_lowerCap 26 = .ok (.dup2, 1) := by decide +kernel
theorem dX1_lowerCap_27 : decode cX1_lowerCap 27 = .ok (.iaload, 1) := by decide +kernel
theorem dX1_lowerCap_28 : decode cX1_lowerCap 28 = .ok (.iconst 1, 1) := by decide +kernel
theorem dX1_lowerCap_29 : decode cX1_lowerCap 29 = .ok (.isub, 1) := by decide +kernel
theorem dX1_lowerCap_30 : decode cX1_lowerCap 30 = .ok (.iastore, 1) := by decide +kernel
theorem dX1_lowerCap_31 : decode cX1_lowerCap 31 = .ok (.aload_n 0, 1) := by decide +kernel
theorem dX1_lowerCap_32 : decode cX1_lowerCap 32 = .ok (.getfield 40, 3) := by decide +kernel
theorem dX1_lowerCap_35 : decode cX1_lowerCap 35 = .ok (.iload_n 1, 1) := by decide +kernel
theorem dX1_lowerCap_36 : decode cX1_lowerCap 36 = .ok (.dup2, 1) := by decide +kernel
theorem dX1_lowerCap_37 : decode cX1_lowerCap 37 = .ok (.iaload, 1) := by decide +kernel
theorem dX1_lowerCap_38 : decode cX1_lowerCap 38 = .ok (.iconst 1, 1) := by decide +kernel
theorem dX1_lowerCap_39 : decode cX1_lowerCap 39 = .ok (.iadd, 1) := by decide +kernel
theorem dX1_lowerCap_40 : decode cX1_lowerCap 40 = .ok (.iastore, 1) := by decide +kernel
theorem dX1_lowerCap_41 : decode cX1_lowerCap 41 = .ok (.iconst 1, 1) := by decide +kernel
theorem dX1_lowerCap_42 : decode cX1_lowerCap 42 = .ok (.ireturn, 1) := by decide +kernel
set_option maxRecDepth 20000 in
theorem ggX1_stateOf_X5_isMember : GoodIn wsX1_stateOf wsX5_isMember := goodIn_r _ [5] (by decide +kernel) (by decide +kernel)
set_option maxRecDepth 20000 in
theorem gX1_stateOf_X5_isMember_n47 : GoodIn wsX1_stateOf (wsX5_isMember) := ggX1_stateOf_X5_isMember
theorem dX1_stateOf_0 : decode cX1_stateOf 0 = .ok (.aload_n 0, 1) := by decide +kernel
theorem dX1_stateOf_1 : decode cX1_stateOf 1 = .ok (.getfield 21, 3) := by decide +kernel
theorem dX1_stateOf_4 : decode cX1_stateOf 4 = .ok (.iload_n 1, 1) := by decide +kernel
theorem dX1_stateOf_5 : decode cX1_stateOf 5 = .ok (.invokestatic 47, 3) := by decide +kernel
theorem dX1_stateOf_8 : decode cX1_stateOf 8 = .ok (.ifCond .eq 5, 3) := by decide +kernel
theorem dX1_stateOf_11 : decode cX1_stateOf 11 = .ok (.iconst 0, 1) := by decide +kernel
theorem dX1_stateOf_12 : decode cX1_stateOf 12 = .ok (.ireturn, 1) := by decide +kernel
theorem dX1_stateOf_13 : decode cX1_stateOf 13 = .ok (.aload_n 0, 1) := by decide +kernel
theorem dX1_stateOf_14 : decode cX1_stateOf 14 = .ok (.getfield 24, 3) := by decide +kernel
theorem dX1_stateOf_17 : decode cX1_stateOf 17 = .ok (.iload_n 1, 1) := by decide +kernel
theorem dX1_stateOf_18 : decode cX1_stateOf 18 = .ok (.invokestatic 47, 3) := by decide +kernel
theorem dX1_stateOf_21 : decode cX1_stateOf 21 = .ok (.ifCond .eq 7, 3) := by decide +kernel
theorem dX1_stateOf_24 : decode cX1_stateOf 24 = .ok (.iconst 2, 1) := by decide +kernel
theorem dX1_stateOf_25 : decode cX1_stateOf 25 = .ok (.goto 4, 3) := by decide +kernel
theorem dX1_stateOf_28 : decode cX1_stateOf 28 = .ok (.iconst 1, 1) := by decide +kernel
theorem dX1_stateOf_29 : decode cX1_stateOf 29 = .ok (.ireturn, 1) := by decide +kernel
theorem dX1_copyFrom_0 : decode cX1_copyFrom 0 = .ok (.aload_n 0, 1) := by decide +kernel
theorem dX1_copyFrom_1 : decode cX1_copyFrom 1 = .ok (.aload_n 1, 1) := by decide +kernel
theorem dX1_copyFrom_2 : decode cX1_copyFrom 2 = .ok (.getfield 9, 3) := by decide +kernel
theorem dX1_copyFrom_5 : decode cX1_copyFrom 5 = .ok (.putfield 9, 3) := by decide +kernel
theorem dX1_copyFrom_8 : decode cX1_copyFrom 8 = .ok (.aload_n 0, 1) := by decide +kernel
theorem dX1_copyFrom_9 : decode cX1_copyFrom 9 = .ok (.aload_n 1, 1) := by decide +kernel
theorem dX1_copyFrom_10 : decode cX1_copyFrom 10 = .ok (.getfield 15, 3) := by decide +kernel
theorem dX1_copyFrom_13 : decode cX1_copyFrom 13 = .ok (.putfield 15, 3) := by decide +kernel
theorem dX1_copyFrom_16 : decode cX1_copyFrom 16 = .ok (.aload_n 0, 1) := by decide +kernel
theorem dX1_copyFrom_17 : decode cX1_copyFrom 17 = .ok (.aload_n 1, 1) := by decide +kernel
theorem dX1_copyFrom_18 : decode cX1_copyFrom 18 = .ok (.getfield 18, 3) := by decide +kernel
theorem dX1_copyFrom_21 : decode cX1_copyFrom 21 = .ok (.putfield 18, 3) := by decide +kernel
theorem dX1_copyFrom_24 : decode cX1_copyFrom 24 = .ok (.aload_n 0, 1) := by decide +kernel
theorem dX1_copyFrom_25 : decode cX1_copyFrom 25 = .ok (.aload_n 1, 1) := by decide +kernel
theorem dX1_copyFrom_26 : decode cX1_copyFrom 26 = .ok (.getfield 21, 3) := by decide +kernel
theorem dX1_copyFrom_29 : decode cX1_copyFrom 29 = .ok (.putfield 21, 3) := by decide +kernel
theorem dX1_copyFrom_32 : decode cX1_copyFrom 32 = .ok (.aload_n 0, 1) := by decide +kernel
theorem dX1_copyFrom_33 : decode cX1_copyFrom 33 = .ok (.aload_n 1, 1) := by decide +kernel
theorem dX1_copyFrom_34 : decode cX1_copyFrom 34 = .ok (.getfield 24, 3) := by decide +kernel
theorem dX1_copyFrom_37 : decode cX1_copyFrom 37 = .ok (.putfield 24, 3) := by decide +kernel
theorem dX1_copyFrom_40 : decode cX1_copyFrom 40 = .ok (.iconst 0, 1) := by decide +kernel
theorem dX1_copyFrom_41 : decode cX1_copyFrom 41 = .ok (.istore_n 2, 1) := by decide +kernel
theorem dX1_copyFrom_42 : decode cX1_copyFrom 42 = .ok (.iload_n 2, 1) := by decide +kernel
theorem dX1_copyFrom_43 : decode cX1_copyFrom 43 = .ok (.bipush 16, 2) := by decide +kernel
theorem dX1_copyFrom_45 : decode cX1_copyFrom 45 = .ok (.if_icmp .ge 69, 3) := by decide +kernel
theorem dX1_copyFrom_48 : decode cX1_copyFrom 48 = .ok (.aload_n 0, 1) := by decide +kernel
theorem dX1_copyFrom_49 : decode cX1_copyFrom 49 = .ok (.getfield 27, 3) := by decide +kernel
theorem dX1_copyFrom_52 : decode cX1_copyFrom 52 = .ok (.iload_n 2, 1) := by decide +kernel
theorem dX1_copyFrom_53 : decode cX1_copyFrom 53 = .ok (.aload_n 1, 1) := by decide +kernel
theorem dX1_copyFrom_54 : decode cX1_copyFrom 54 = .ok (.getfield 27, 3) := by decide +kernel
theorem dX1_copyFrom_57 : decode cX1_copyFrom 57 = .ok (.iload_n 2, 1) := by decide +kernel
theorem dX1_copyFrom_58 : decode cX1_copyFrom 58 = .ok (.iaload, 1) := by decide +kernel
theorem dX1_copyFrom_59 : decode cX1_copyFrom 59 = .ok (.iastore, 1) := by decide +kernel
theorem dX1_copyFrom_60 : decode cX1_copyFrom 60 = .ok (.aload_n 0, 1) := by decide +kernel
theorem dX1_copyFrom_61 : decode cX1_copyFrom 61 = .ok (.getfield 31, 3) := by decide +kernel
theorem dX1_copyFrom_64 : decode cX1_copyFrom 64 = .ok (.iload_n 2, 1) := by decide +kernel
theorem dX1_copyFrom_65 : decode cX1_copyFrom 65 = .ok (.aload_n 1, 1) := by decide +kernel
theorem dX1_copyFrom_66 : decode cX1_copyFrom 66 = .ok (.getfield 31, 3) := by decide +kernel
theorem dX1_copyFrom_69 : decode cX1_copyFrom 69 = .ok (.iload_n 2, 1) := by decide +kernel
theorem dX1_copyFrom_70 : decode cX1_copyFrom 70 = .ok (.iaload, 1) := by decide +kernel
theorem dX1_copyFrom_71 : decode cX1_copyFrom 71 = .ok (.iastore, 1) := by decide +kernel
theorem dX1_copyFrom_72 : decode cX1_copyFrom 72 = .ok (.aload_n 0, 1) := by decide +kernel
theorem dX1_copyFrom_73 : decode cX1_copyFrom 73 = .ok (.getfield 34, 3) := by decide +kernel
theorem dX1_copyFrom_76 : decode cX1_copyFrom 76 = .ok (.iload_n 2, 1) := by decide +kernel
theorem dX1_copyFrom_77 : decode cX1_copyFrom 77 = .ok (.aload_n 1, 1) := by decide +kernel
theorem dX1_copyFrom_78 : decode cX1_copyFrom 78 = .ok (.getfield 34, 3) := by decide +kernel
theorem dX1_copyFrom_81 : decode cX1_copyFrom 81 = .ok (.iload_n 2, 1) := by decide +kernel
theorem dX1_copyFrom_82 : decode cX1_copyFrom 82 = .ok (.iaload, 1) := by decide +kernel
theorem dX1_copyFrom_83 : decode cX1_copyFrom 83 = .ok (.iastore, 1) := by decide +kernel
theorem dX1_copyFrom_84 : decode cX1_copyFrom 84 = .ok (.aload_n 0, 1) := by decide +kernel
theorem dX1_copyFrom_85 : decode cX1_copyFrom 85 = .ok (.getfield 37, 3) := by decide +kernel
theorem dX1_copyFrom_88 : decode cX1_copyFrom 88 = .ok (.iload_n 2, 1) := by decide +kernel
theorem dX1_copyFrom_89 : decode cX1_copyFrom 89 = .ok (.aload_n 1, 1) := by decide +kernel
theorem dX1_copyFrom_90 : decode cX1_copyFrom 90 = .ok (.getfield 37, 3) := by decide +kernel
theorem dX1_copyFrom_93 : decode cX1_copyFrom 93 = .ok (.iload_n 2, 1) := by decide +kernel
theorem dX1_copyFrom_94 : decode cX1_copyFrom 94 = .ok (.iaload, 1) := by decide +kernel
theorem dX1_copyFrom_95 : decode cX1_copyFrom 95 = .ok (.iastore, 1) := by decide +kernel
theorem dX1_copyFrom_96 : decode cX1_copyFrom 96 = .ok (.aload_n 0, 1) := by decide +kernel
theorem dX1_copyFrom_97 : decode cX1_copyFrom 97 = .ok (.getfield 40, 3) := by decide +kernel
theorem dX1_copyFrom_100 : decode cX1_copyFrom 100 = .ok (.iload_n 2, 1) := by decide +kernel
theorem dX1_copyFrom_101 : decode cX1_copyFrom 101 = .ok (.aload_n 1, 1) := by decide +kernel
theorem dX1_copyFrom_102 : decode cX1_copyFrom 102 = .ok (.getfield 40, 3) := by decide +kernel
theorem dX1_copyFrom_105 : decode cX1_copyFrom 105 = .ok (.iload_n 2, 1) := by decide +kernel
theorem dX1_copyFrom_106 : decode cX1_copyFrom 106 = .ok (.iaload, 1) := by decide +kernel
theorem dX1_copyFrom_107 : decode cX1_copyFrom 107 = .ok (.iastore, 1) := by decide +kernel
theorem dX1_copyFrom_108 : decode cX1_copyFrom 108 = .ok (.iinc 2 1, 3) := by decide +kernel
theorem dX1_copyFrom_111 : decode cX1_copyFrom 111 = .ok (.goto (-69), 3) := by decide +kernel
theorem dX1_copyFrom_114 : decode cX1_copyFrom 114 = .ok (.return_, 1) := by decide +kernel
theorem dX2_init_0 : decode cX2_init 0 = .ok (.aload_n 0, 1) := by decide +kernel
theorem dX2_init_1 : decode cX2_init 1 = .ok (.invokespecial 3, 3) := by decide +kernel
theorem dX2_init_4 : decode cX2_init 4 = .ok (.aload_n 0, 1) := by decide +kernel
theorem dX2_init_5 : decode cX2_init 5 = .ok (.iconst 0, 1) := by decide +kernel
theorem dX2_init_6 : decode cX2_init 6 = .ok (.putfield 9, 3) := by decide +kernel
theorem dX2_init_9 : decode cX2_init 9 = .ok (.aload_n 0, 1) := by decide +kernel
theorem dX2_init_10 : decode cX2_init 10 = .ok (.iconst (-1), 1) := by decide +kernel
theorem dX2_init_11 : decode cX2_init 11 = .ok (.putfield 15, 3) := by decide +kernel
theorem dX2_init_14 : decode cX2_init 14 = .ok (.aload_n 0, 1) := by decide +kernel
theorem dX2_init_15 : decode cX2_init 15 = .ok (.aload_n 1, 1) := by decide +kernel
theorem dX2_init_16 : decode cX2_init 16 = .ok (.putfield 18, 3) := by decide +kernel
theorem dX2_init_19 : decode cX2_init 19 = .ok (.return_, 1) := by decide +kernel
theorem dX3_init_0 : decode cX3_init 0 = .ok (.aload_n 0, 1) := by decide +kernel
theorem dX3_init_1 : decode cX3_init 1 = .ok (.invokespecial 3, 3) := by decide +kernel
theorem dX3_init_4 : decode cX3_init 4 = .ok (.aload_n 0, 1) := by decide +kernel
theorem dX3_init_5 : decode cX3_init 5 = .ok (.iconst 0, 1) := by decide +kernel
theorem dX3_init_6 : decode cX3_init 6 = .ok (.putfield 9, 3) := by decide +kernel
theorem dX3_init_9 : decode cX3_init 9 = .ok (.aload_n 0, 1) := by decide +kernel
theorem dX3_init_10 : decode cX3_init 10 = .ok (.sipush 160, 3) := by decide +kernel
theorem dX3_init_13 : decode cX3_init 13 = .ok (.newarray .byte, 2) := by decide +kernel
theorem dX3_init_15 : decode cX3_init 15 = .ok (.putfield 15, 3) := by decide +kernel
theorem dX3_init_18 : decode cX3_init 18 = .ok (.return_, 1) := by decide +kernel
theorem dX3_add_0 : decode cX3_add 0 = .ok (.aload_n 0, 1) := by decide +kernel
theorem dX3_add_1 : decode cX3_add 1 = .ok (.getfield 9, 3) := by decide +kernel
theorem dX3_add_4 : decode cX3_add 4 = .ok (.ifCond .lt 34, 3) := by decide +kernel
theorem dX3_add_7 : decode cX3_add 7 = .ok (.aload_n 0, 1) := by decide +kernel
theorem dX3_add_8 : decode cX3_add 8 = .ok (.getfield 9, 3) := by decide +kernel
theorem dX3_add_11 : decode cX3_add 11 = .ok (.sipush 160, 3) := by decide +kernel
theorem dX3_add_14 : decode cX3_add 14 = .ok (.if_icmp .ge 24, 3) := by decide +kernel
theorem dX3_add_17 : decode cX3_add 17 = .ok (.aload_n 0, 1) := by decide +kernel
theorem dX3_add_18 : decode cX3_add 18 = .ok (.getfield 15, 3) := by decide +kernel
theorem dX3_add_21 : decode cX3_add 21 = .ok (.aload_n 0, 1) := by decide +kernel
theorem dX3_add_22 : decode cX3_add 22 = .ok (.getfield 9, 3) := by decide +kernel
theorem dX3_add_25 : decode cX3_add 25 = .ok (.iload_n 1, 1) := by decide +kernel
theorem dX3_add_26 : decode cX3_add 26 = .ok (.i2b, 1) := by decide +kernel
theorem dX3_add_27 : decode cX3_add 27 = .ok (.bastore, 1) := by decide +kernel
theorem dX3_add_28 : decode cX3_add 28 = .ok (.aload_n 0, 1) := by decide +kernel
theorem dX3_add_29 : decode cX3_add 29 = .ok (.dup, 1) := by decide +kernel
theorem dX3_add_30 : decode cX3_add 30 = .ok (.getfield 9, 3) := by decide +kernel
theorem dX3_add_33 : decode cX3_add 33 = .ok (.iconst 1, 1) := by decide +kernel
theorem dX3_add_34 : decode cX3_add 34 = .ok (.iadd, 1) := by decide +kernel
theorem dX3_add_35 : decode cX3_add 35 = .ok (.putfield 9, 3) := by decide +kernel
theorem dX3_add_38 : decode cX3_add 38 = .ok (.return_, 1) := by decide +kernel
theorem dX4_init_0 : decode cX4_init 0 = .ok (.aload_n 0, 1) := by decide +kernel
theorem dX4_init_1 : decode cX4_init 1 = .ok (.invokespecial 3, 3) := by decide +kernel
theorem dX4_init_4 : decode cX4_init 4 = .ok (.aload_n 0, 1) := by decide +kernel
theorem dX4_init_5 : decode cX4_init 5 = .ok (.iconst 0, 1) := by decide +kernel
theorem dX4_init_6 : decode cX4_init 6 = .ok (.putfield 9, 3) := by decide +kernel
theorem dX4_init_9 : decode cX4_init 9 = .ok (.aload_n 0, 1) := by decide +kernel
theorem dX4_init_10 : decode cX4_init 10 = .ok (.iconst 0, 1) := by decide +kernel
theorem dX4_init_11 : decode cX4_init 11 = .ok (.putfield 15, 3) := by decide +kernel
theorem dX4_init_14 : decode cX4_init 14 = .ok (.aload_n 0, 1) := by decide +kernel
theorem dX4_init_15 : decode cX4_init 15 = .ok (.iconst 4, 1) := by decide +kernel
theorem dX4_init_16 : decode cX4_init 16 = .ok (.anewarray 18, 3) := by decide +kernel
theorem dX4_init_19 : decode cX4_init 19 = .ok (.putfield 20, 3) := by decide +kernel
theorem dX4_init_22 : decode cX4_init 22 = .ok (.return_, 1) := by decide +kernel
set_option maxRecDepth 20000 in
theorem ggX4_save_J9_floorMod_7cf53 : GoodIn wsX4_save wsJ9_floorMod_7cf53 := goodIn_r _ [14] (by decide +kernel) (by decide +kernel)
set_option maxRecDepth 20000 in
theorem gX4_save_J9_floorMod_7cf53 : GoodIn wsX4_save (va_wsS RX4 24 yJ9_floorMod_7cf53 wsJ9_floorMod_7cf53) := goodIn_app (goodIn_of _ (by decide +kernel)) ggX4_save_J9_floorMod_7cf53
set_option maxRecDepth 20000 in
theorem ggX4_save_X1_init : GoodIn wsX4_save wsX1_init := goodIn_r _ [16, 17, 18, 19, 20, 21, 22, 23, 24, 25, 26, 27, 28, 29, 30, 38, 39, 40, 41, 42, 43, 44, 45, 46, 47] (by decide +kernel) (by decide +kernel)
set_option maxRecDepth 20000 in
theorem gX4_save_X1_init_n30 : GoodIn wsX4_save (wsX1_init) := ggX4_save_X1_init
set_option maxRecDepth 20000 in
theorem ggX4_save_X1_copyFrom : GoodIn wsX4_save wsX1_copyFrom := goodIn_r _ [34, 20, 21, 22, 23, 24, 26, 27, 28, 29, 30, 38, 39, 40, 41, 42, 43, 44, 45, 46, 47] (by decide +kernel) (by decide +kernel)
set_option maxRecDepth 20000 in
theorem gX4_save_X1_copyFrom : GoodIn wsX4_save (wsV RX4 31 RX1 yX1_copyFrom wsX1_copyFrom) := goodIn_app (goodIn_of _ (by decide +kernel)) ggX4_save_X1_copyFrom
theorem dX4_save_0 : decode cX4_save 0 = .ok (.aload_n 0, 1) := by decide +kernel
theorem dX4_save_1 : decode cX4_save 1 = .ok (.aload_n 0, 1) := by decide +kernel
theorem dX4_save_2 : decode cX4_save 2 = .ok (.getfield 15, 3) := by decide +kernel
theorem dX4_save_5 : decode cX4_save 5 = .ok (.iconst 1, 1) := by decide +kernel
theorem dX4_save_6 : decode cX4_save 6 = .ok (.iadd, 1) := by decide +kernel
theorem dX4_save_7 : decode cX4_save 7 = .ok (.iconst 4, 1) := by decide +kernel
theorem dX4_save_8 : decode cX4_save 8 = .ok (.invokestatic 24, 3) := by decide +kernel
theorem dX4_save_11 : decode cX4_save 11 = .ok (.putfield 15, 3) := by decide +kernel
theorem dX4_save_14 : decode cX4_save 14 = .ok (.aload_n 0, 1) := by decide +kernel
theorem dX4_save_15 : decode cX4_save 15 = .ok (.getfield 20, 3) := by decide +kernel
theorem dX4_save_18 : decode cX4_save 18 = .ok (.aload_n 0, 1) := by decide +kernel
theorem dX4_save_19 : decode cX4_save 19 = .ok (.getfield 15, 3) := by decide +kernel
theorem dX4_save_22 : decode cX4_save 22 = .ok (.aaload, 1) := by decide +kernel
theorem dX4_save_23 : decode cX4_save 23 = .ok (.astore_n 2, 1) := by decide +kernel
theorem dX4_save_24 : decode cX4_save 24 = .ok (.aload_n 2, 1) := by decide +kernel
theorem dX4_save_25 : decode cX4_save 25 = .ok (.ifnonnull 21, 3) := by decide +kernel
theorem dX4_save_28 : decode cX4_save 28 = .ok (.new 18, 3) := by decide +kernel
theorem dX4_save_31 : decode cX4_save 31 = .ok (.dup, 1) := by decide +kernel
theorem dX4_save_32 : decode cX4_save 32 = .ok (.invokespecial 30, 3) := by decide +kernel
theorem dX4_save_35 : decode cX4_save 35 = .ok (.astore_n 2, 1) := by decide +kernel
theorem dX4_save_36 : decode cX4_save 36 = .ok (.aload_n 0, 1) := by decide +kernel
theorem dX4_save_37 : decode cX4_save 37 = .ok (.getfield 20, 3) := by decide +kernel
theorem dX4_save_40 : decode cX4_save 40 = .ok (.aload_n 0, 1) := by decide +kernel
theorem dX4_save_41 : decode cX4_save 41 = .ok (.getfield 15, 3) := by decide +kernel
theorem dX4_save_44 : decode cX4_save 44 = .ok (.aload_n 2, 1) := by decide +kernel
theorem dX4_save_45 : decode cX4_save 45 = .ok (.aastore, 1) := by decide +kernel
theorem dX4_save_46 : decode cX4_save 46 = .ok (.aload_n 2, 1) := by decide +kernel
theorem dX4_save_47 : decode cX4_save 47 = .ok (.aload_n 1, 1) := by decide +kernel
theorem dX4_save_48 : decode cX4_save 48 = .ok (.invokevirtual 31, 3) := by decide +kernel
theorem dX4_save_51 : decode cX4_save 51 = .ok (.aload_n 0, 1) := by decide +kernel
theorem dX4_save_52 : decode cX4_save 52 = .ok (.aload_n 0, 1) := by decide +kernel
theorem dX4_save_53 : decode cX4_save 53 = .ok (.getfield 9, 3) := by decide +kernel
theorem dX4_save_56 : decode cX4_save 56 = .ok (.iconst 1, 1) := by decide +kernel
theorem dX4_save_57 : decode cX4_save 57 = .ok (.iadd, 1) := by decide +kernel
theorem dX4_save_58 : decode cX4_save 58 = .ok (.iconst 4, 1) := by decide +kernel
theorem dX4_save_59 : decode cX4_save 59 = .ok (.invokestatic 35, 3) := by decide +kernel
theorem dX4_save_62 : decode cX4_save 62 = .ok (.putfield 9, 3) := by decide +kernel
theorem dX4_save_65 : decode cX4_save 65 = .ok (.return_, 1) := by decide +kernel
set_option maxRecDepth 20000 in
theorem ggX4_takeNewest_J9_floorMod_7cf53 : GoodIn wsX4_takeNewest wsJ9_floorMod_7cf53 := goodIn_r _ [7] (by decide +kernel) (by decide +kernel)
set_option maxRecDepth 20000 in
theorem gX4_takeNewest_J9_floorMod_7cf53 : GoodIn wsX4_takeNewest (va_wsS RX4 24 yJ9_floorMod_7cf53 wsJ9_floorMod_7cf53) := goodIn_app (goodIn_of _ (by decide +kernel)) ggX4_takeNewest_J9_floorMod_7cf53
theorem dX4_takeNewest_0 : decode cX4_takeNewest 0 = .ok (.aload_n 0, 1) := by decide +kernel
theorem dX4_takeNewest_1 : decode cX4_takeNewest 1 = .ok (.getfield 9, 3) := by decide +kernel
theorem dX4_takeNewest_4 : decode cX4_takeNewest 4 = .ok (.ifCond .gt 5, 3) := by decide +kernel
theorem dX4_takeNewest_7 : decode cX4_takeNewest 7 = .ok (.aconst_null, 1) := by decide +kernel
theorem dX4_takeNewest_8 : decode cX4_takeNewest 8 = .ok (.areturn, 1) := by decide +kernel
theorem dX4_takeNewest_9 : decode cX4_takeNewest 9 = .ok (.aload_n 0, 1) := by decide +kernel
theorem dX4_takeNewest_10 : decode cX4_takeNewest 10 = .ok (.getfield 20, 3) := by decide +kernel
theorem dX4_takeNewest_13 : decode cX4_takeNewest 13 = .ok (.aload_n 0, 1) := by decide +kernel
theorem dX4_takeNewest_14 : decode cX4_takeNewest 14 = .ok (.getfield 15, 3) := by decide +kernel
theorem dX4_takeNewest_17 : decode cX4_takeNewest 17 = .ok (.iconst 4, 1) := by decide +kernel
theorem dX4_takeNewest_18 : decode cX4_takeNewest 18 = .ok (.invokestatic 24, 3) := by decide +kernel
theorem dX4_takeNewest_21 : decode cX4_takeNewest 21 = .ok (.aaload, 1) := by decide +kernel
theorem dX4_takeNewest_22 : decode cX4_takeNewest 22 = .ok (.astore_n 1, 1) := by decide +kernel
theorem dX4_takeNewest_23 : decode cX4_takeNewest 23 = .ok (.aload_n 0, 1) := by decide +kernel
theorem dX4_takeNewest_24 : decode cX4_takeNewest 24 = .ok (.aload_n 0, 1) := by decide +kernel
theorem dX4_takeNewest_25 : decode cX4_takeNewest 25 = .ok (.getfield 15, 3) := by decide +kernel
theorem dX4_takeNewest_28 : decode cX4_takeNewest 28 = .ok (.iconst 1, 1) := by decide +kernel
theorem dX4_takeNewest_29 : decode cX4_takeNewest 29 = .ok (.isub, 1) := by decide +kernel
theorem dX4_takeNewest_30 : decode cX4_takeNewest 30 = .ok (.iconst 4, 1) := by decide +kernel
theorem dX4_takeNewest_31 : decode cX4_takeNewest 31 = .ok (.invokestatic 24, 3) := by decide +kernel
theorem dX4_takeNewest_34 : decode cX4_takeNewest 34 = .ok (.putfield 15, 3) := by decide +kernel
theorem dX4_takeNewest_37 : decode cX4_takeNewest 37 = .ok (.aload_n 0, 1) := by decide +kernel
theorem dX4_takeNewest_38 : decode cX4_takeNewest 38 = .ok (.dup, 1) := by decide +kernel
theorem dX4_takeNewest_39 : decode cX4_takeNewest 39 = .ok (.getfield 9, 3) := by decide +kernel
theorem dX4_takeNewest_42 : decode cX4_takeNewest 42 = .ok (.iconst 1, 1) := by decide +kernel
theorem dX4_takeNewest_43 : decode cX4_takeNewest 43 = .ok (.isub, 1) := by decide +kernel
theorem dX4_takeNewest_44 : decode cX4_takeNewest 44 = .ok (.putfield 9, 3) := by decide +kernel
theorem dX4_takeNewest_47 : decode cX4_takeNewest 47 = .ok (.aload_n 1, 1) := by decide +kernel
