theorem dX0_findBearing_0 : decode cX0_findBearing 0 = .ok (.aload_n 1, 1) := by decide +kernel
theorem dX0_findBearing_1 : decode cX0_findBearing 1 = .ok (.getfield 40, 3) := by decide +kernel
theorem dX0_findBearing_4 : decode cX0_findBearing 4 = .ok (.istore_n 2, 1) := by decide +kernel
theorem dX0_findBearing_5 : decode cX0_findBearing 5 = .ok (.iconst 1, 1) := by decide +kernel
theorem dX0_findBearing_6 : decode cX0_findBearing 6 = .ok (.istore_n 3, 1) := by decide +kernel
theorem dX0_findBearing_7 : decode cX0_findBearing 7 = .ok (.iload_n 3, 1) := by decide +kernel
theorem dX0_findBearing_8 : decode cX0_findBearing 8 = .ok (.bipush 30, 2) := by decide +kernel
theorem dX0_findBearing_10 : decode cX0_findBearing 10 = .ok (.if_icmp .gt 57, 3) := by decide +kernel
theorem dX0_findBearing_13 : decode cX0_findBearing 13 = .ok (.aload_n 0, 1) := by decide +kernel
theorem dX0_findBearing_14 : decode cX0_findBearing 14 = .ok (.iload_n 3, 1) := by decide +kernel
theorem dX0_findBearing_15 : decode cX0_findBearing 15 = .ok (.putfield 45, 3) := by decide +kernel
theorem dX0_findBearing_18 : decode cX0_findBearing 18 = .ok (.aload_n 0, 1) := by decide +kernel
theorem dX0_findBearing_19 : decode cX0_findBearing 19 = .ok (.aload_n 1, 1) := by decide +kernel
theorem dX0_findBearing_20 : decode cX0_findBearing 20 = .ok (.iload_n 2, 1) := by decide +kernel
theorem dX0_findBearing_21 : decode cX0_findBearing 21 = .ok (.invokevirtual 48, 3) := by decide +kernel
theorem dX0_findBearing_24 : decode cX0_findBearing 24 = .ok (.aload_n 0, 1) := by decide +kernel
theorem dX0_findBearing_25 : decode cX0_findBearing 25 = .ok (.getfield 52, 3) := by decide +kernel
theorem dX0_findBearing_28 : decode cX0_findBearing 28 = .ok (.lconst 0, 1) := by decide +kernel
theorem dX0_findBearing_29 : decode cX0_findBearing 29 = .ok (.lcmp, 1) := by decide +kernel
theorem dX0_findBearing_30 : decode cX0_findBearing 30 = .ok (.ifCond .gt 4, 3) := by decide +kernel
theorem dX0_findBearing_33 : decode cX0_findBearing 33 = .ok (.return_, 1) := by decide +kernel
theorem dX0_findBearing_34 : decode cX0_findBearing 34 = .ok (.aload_n 0, 1) := by decide +kernel
theorem dX0_findBearing_35 : decode cX0_findBearing 35 = .ok (.aload_n 1, 1) := by decide +kernel
theorem dX0_findBearing_36 : decode cX0_findBearing 36 = .ok (.invokevirtual 56, 3) := by decide +kernel
theorem dX0_findBearing_39 : decode cX0_findBearing 39 = .ok (.istore 4, 2) := by decide +kernel
theorem dX0_findBearing_41 : decode cX0_findBearing 41 = .ok (.iload 4, 2) := by decide +kernel
theorem dX0_findBearing_43 : decode cX0_findBearing 43 = .ok (.iload_n 2, 1) := by decide +kernel
theorem dX0_findBearing_44 : decode cX0_findBearing 44 = .ok (.if_icmp .ne 14, 3) := by decide +kernel
theorem dX0_findBearing_47 : decode cX0_findBearing 47 = .ok (.aload_n 0, 1) := by decide +kernel
theorem dX0_findBearing_48 : decode cX0_findBearing 48 = .ok (.iconst 1, 1) := by decide +kernel
theorem dX0_findBearing_49 : decode cX0_findBearing 49 = .ok (.putfield 19, 3) := by decide +kernel
theorem dX0_findBearing_52 : decode cX0_findBearing 52 = .ok (.aload_n 0, 1) := by decide +kernel
theorem dX0_findBearing_53 : decode cX0_findBearing 53 = .ok (.iload_n 2, 1) := by decide +kernel
theorem dX0_findBearing_54 : decode cX0_findBearing 54 = .ok (.putfield 23, 3) := by decide +kernel
theorem dX0_findBearing_57 : decode cX0_findBearing 57 = .ok (.return_, 1) := by decide +kernel
theorem dX0_findBearing_58 : decode cX0_findBearing 58 = .ok (.iload 4, 2) := by decide +kernel
theorem dX0_findBearing_60 : decode cX0_findBearing 60 = .ok (.istore_n 2, 1) := by decide +kernel
theorem dX0_findBearing_61 : decode cX0_findBearing 61 = .ok (.iinc 3 1, 3) := by decide +kernel
theorem dX0_findBearing_64 : decode cX0_findBearing 64 = .ok (.goto (-57), 3) := by decide +kernel
theorem dX0_findBearing_67 : decode cX0_findBearing 67 = .ok (.return_, 1) := by decide +kernel
set_option maxRecDepth 20000 in
theorem ggX0_solve_X5_isMember : GoodIn wsX0_solve wsX5_isMember := goodIn_r _ [11] (by decide +kernel) (by decide +kernel)
set_option maxRecDepth 20000 in
theorem gX0_solve_X5_isMember_n66 : GoodIn wsX0_solve (wsX5_isMember) := ggX0_solve_X5_isMember
theorem dX0_solve_0 : decode cX0_solve 0 = .ok (.lconst 0, 1) := by decide +kernel
theorem dX0_solve_1 : decode cX0_solve 1 = .ok (.lstore_n 3, 1) := by decide +kernel
theorem dX0_solve_2 : decode cX0_solve 2 = .ok (.lconst 0, 1) := by decide +kernel
theorem dX0_solve_3 : decode cX0_solve 3 = .ok (.lstore 5, 2) := by decide +kernel
theorem dX0_solve_5 : decode cX0_solve 5 = .ok (.lconst 0, 1) := by decide +kernel
theorem dX0_solve_6 : decode cX0_solve 6 = .ok (.lstore 7, 2) := by decide +kernel
theorem dX0_solve_8 : decode cX0_solve 8 = .ok (.aload_n 1, 1) := by decide +kernel
theorem dX0_solve_9 : decode cX0_solve 9 = .ok (.getfield 60, 3) := by decide +kernel
theorem dX0_solve_12 : decode cX0_solve 12 = .ok (.i2l, 1) := by decide +kernel
theorem dX0_solve_13 : decode cX0_solve 13 = .ok (.lstore 9, 2) := by decide +kernel
theorem dX0_solve_15 : decode cX0_solve 15 = .ok (.aload_n 1, 1) := by decide +kernel
theorem dX0_solve_16 : decode cX0_solve 16 = .ok (.getfield 60, 3) := by decide +kernel
theorem dX0_solve_19 : decode cX0_solve 19 = .ok (.i2l, 1) := by decide +kernel
theorem dX0_solve_20 : decode cX0_solve 20 = .ok (.aload_n 1, 1) := by decide +kernel
theorem dX0_solve_21 : decode cX0_solve 21 = .ok (.getfield 63, 3) := by decide +kernel
theorem dX0_solve_24 : decode cX0_solve 24 = .ok (.i2l, 1) := by decide +kernel
theorem dX0_solve_25 : decode cX0_solve 25 = .ok (.lmul, 1) := by decide +kernel
theorem dX0_solve_26 : decode cX0_solve 26 = .ok (.lstore 11, 2) := by decide +kernel
theorem dX0_solve_28 : decode cX0_solve 28 = .ok (.iconst 0, 1) := by decide +kernel
theorem dX0_solve_29 : decode cX0_solve 29 = .ok (.istore 13, 2) := by decide +kernel
theorem dX0_solve_31 : decode cX0_solve 31 = .ok (.iload 13, 2) := by decide +kernel
theorem dX0_solve_33 : decode cX0_solve 33 = .ok (.bipush 16, 2) := by decide +kernel
theorem dX0_solve_35 : decode cX0_solve 35 = .ok (.if_icmp .ge 101, 3) := by decide +kernel
theorem dX0_solve_38 : decode cX0_solve 38 = .ok (.iload_n 2, 1) := by decide +kernel
theorem dX0_solve_39 : decode cX0_solve 39 = .ok (.iload 13, 2) := by decide +kernel
theorem dX0_solve_41 : decode cX0_solve 41 = .ok (.invokestatic 66, 3) := by decide +kernel
theorem dX0_solve_44 : decode cX0_solve 44 = .ok (.ifCond .eq 86, 3) := by decide +kernel
theorem dX0_solve_47 : decode cX0_solve 47 = .ok (.aload_n 1, 1) := by decide +kernel
theorem dX0_solve_48 : decode cX0_solve 48 = .ok (.getfield 70, 3) := by decide +kernel
theorem dX0_solve_51 : decode cX0_solve 51 = .ok (.iload 13, 2) := by decide +kernel
theorem dX0_solve_53 : decode cX0_solve 53 = .ok (.iaload, 1) := by decide +kernel
theorem dX0_solve_54 : decode cX0_solve 54 = .ok (.i2l, 1) := by decide +kernel
theorem dX0_solve_55 : decode cX0_solve 55 = .ok (.lstore 14, 2) := by decide +kernel
theorem dX0_solve_57 : decode cX0_solve 57 = .ok (.aload_n 1, 1) := by decide +kernel
theorem dX0_solve_58 : decode cX0_solve 58 = .ok (.getfield 73, 3) := by decide +kernel
theorem dX0_solve_61 : decode cX0_solve 61 = .ok (.iload 13, 2) := by decide +kernel
theorem dX0_solve_63 : decode cX0_solve 63 = .ok (.iaload, 1) := by decide +kernel
theorem dX0_solve_64 : decode cX0_solve 64 = .ok (.i2l, 1) := by decide +kernel
theorem dX0_solve_65 : decode cX0_solve 65 = .ok (.lstore 16, 2) := by decide +kernel
theorem dX0_solve_67 : decode cX0_solve 67 = .ok (.lload_n 3, 1) := by decide +kernel
theorem dX0_solve_68 : decode cX0_solve 68 = .ok (.lload 14, 2) := by decide +kernel
theorem dX0_solve_70 : decode cX0_solve 70 = .ok (.ladd, 1) := by decide +kernel
theorem dX0_solve_71 : decode cX0_solve 71 = .ok (.lstore_n 3, 1) := by decide +kernel
theorem dX0_solve_72 : decode cX0_solve 72 = .ok (.lload 5, 2) := by decide +kernel
theorem dX0_solve_74 : decode cX0_solve 74 = .ok (.lload 14, 2) := by decide +kernel
theorem dX0_solve_76 : decode cX0_solve 76 = .ok (.lload 16, 2) := by decide +kernel
theorem dX0_solve_78 : decode cX0_solve 78 = .ok (.lmul, 1) := by decide +kernel
theorem dX0_solve_79 : decode cX0_solve 79 = .ok (.ladd, 1) := by decide +kernel
theorem dX0_solve_80 : decode cX0_solve 80 = .ok (.lstore 5, 2) := by decide +kernel
theorem dX0_solve_82 : decode cX0_solve 82 = .ok (.lload 7, 2) := by decide +kernel
theorem dX0_solve_84 : decode cX0_solve 84 = .ok (.lload 14, 2) := by decide +kernel
theorem dX0_solve_86 : decode cX0_solve 86 = .ok (.lload 16, 2) := by decide +kernel
theorem dX0_solve_88 : decode cX0_solve 88 = .ok (.lmul, 1) := by decide +kernel
theorem dX0_solve_89 : decode cX0_solve 89 = .ok (.lload 16, 2) := by decide +kernel
theorem dX0_solve_91 : decode cX0_solve 91 = .ok (.lmul, 1) := by decide +kernel
theorem dX0_solve_92 : decode cX0_solve 92 = .ok (.ladd, 1) := by decide +kernel
theorem dX0_solve_93 : decode cX0_solve 93 = .ok (.lstore 7, 2) := by decide +kernel
theorem dX0_solve_95 : decode cX0_solve 95 = .ok (.lload 9, 2) := by decide +kernel
theorem dX0_solve_97 : decode cX0_solve 97 = .ok (.lload 14, 2) := by decide +kernel
theorem dX0_solve_99 : decode cX0_solve 99 = .ok (.aload_n 1, 1) := by decide +kernel
theorem dX0_solve_100 : decode cX0_solve 100 = .ok (.getfield 76, 3) := by decide +kernel
theorem dX0_solve_103 : decode cX0_solve 103 = .ok (.iload 13, 2) := by decide +kernel
theorem dX0_solve_105 : decode cX0_solve 105 = .ok (.iaload, 1) := by decide +kernel
theorem dX0_solve_106 : decode cX0_solve 106 = .ok (.i2l, 1) := by decide +kernel
theorem dX0_solve_107 : decode cX0_solve 107 = .ok (.lmul, 1) := by decide +kernel
theorem dX0_solve_108 : decode cX0_solve 108 = .ok (.lsub, 1) := by decide +kernel
theorem dX0_solve_109 : decode cX0_solve 109 = .ok (.lstore 9, 2) := by decide +kernel
theorem dX0_solve_111 : decode cX0_solve 111 = .ok (.lload 11, 2) := by decide +kernel
theorem dX0_solve_113 : decode cX0_solve 113 = .ok (.lload 14, 2) := by decide +kernel
theorem dX0_solve_115 : decode cX0_solve 115 = .ok (.aload_n 1, 1) := by decide +kernel
theorem dX0_solve_116 : decode cX0_solve 116 = .ok (.getfield 76, 3) := by decide +kernel
theorem dX0_solve_119 : decode cX0_solve 119 = .ok (.iload 13, 2) := by decide +kernel
theorem dX0_solve_121 : decode cX0_solve 121 = .ok (.iaload, 1) := by decide +kernel
theorem dX0_solve_122 : decode cX0_solve 122 = .ok (.i2l, 1) := by decide +kernel
theorem dX0_solve_123 : decode cX0_solve 123 = .ok (.lmul, 1) := by decide +kernel
theorem dX0_solve_124 : decode cX0_solve 124 = .ok (.lload 16, 2) := by decide +kernel
theorem dX0_solve_126 : decode cX0_solve 126 = .ok (.lmul, 1) := by decide +kernel
theorem dX0_solve_127 : decode cX0_solve 127 = .ok (.lsub, 1) := by decide +kernel
theorem dX0_solve_128 : decode cX0_solve 128 = .ok (.lstore 11, 2) := by decide +kernel
theorem dX0_solve_130 : decode cX0_solve 130 = .ok (.iinc 13 1, 3) := by decide +kernel
theorem dX0_solve_133 : decode cX0_solve 133 = .ok (.goto (-102), 3) := by decide +kernel
theorem dX0_solve_136 : decode cX0_solve 136 = .ok (.aload_n 0, 1) := by decide +kernel
theorem dX0_solve_137 : decode cX0_solve 137 = .ok (.lload_n 3, 1) := by decide +kernel
theorem dX0_solve_138 : decode cX0_solve 138 = .ok (.lload 7, 2) := by decide +kernel
theorem dX0_solve_140 : decode cX0_solve 140 = .ok (.lmul, 1) := by decide +kernel
theorem dX0_solve_141 : decode cX0_solve 141 = .ok (.lload 5, 2) := by decide +kernel
theorem dX0_solve_143 : decode cX0_solve 143 = .ok (.lload 5, 2) := by decide +kernel
theorem dX0_solve_145 : decode cX0_solve 145 = .ok (.lmul, 1) := by decide +kernel
theorem dX0_solve_146 : decode cX0_solve 146 = .ok (.lsub, 1) := by decide +kernel
theorem dX0_solve_147 : decode cX0_solve 147 = .ok (.putfield 52, 3) := by decide +kernel
theorem dX0_solve_150 : decode cX0_solve 150 = .ok (.aload_n 0, 1) := by decide +kernel
theorem dX0_solve_151 : decode cX0_solve 151 = .ok (.lload 9, 2) := by decide +kernel
theorem dX0_solve_153 : decode cX0_solve 153 = .ok (.lload 7, 2) := by decide +kernel
theorem dX0_solve_155 : decode cX0_solve 155 = .ok (.lmul, 1) := by decide +kernel
theorem dX0_solve_156 : decode cX0_solve 156 = .ok (.lload 11, 2) := by decide +kernel
theorem dX0_solve_158 : decode cX0_solve 158 = .ok (.lload 5, 2) := by decide +kernel
theorem dX0_solve_160 : decode cX0_solve 160 = .ok (.lmul, 1) := by decide +kernel
theorem dX0_solve_161 : decode cX0_solve 161 = .ok (.lsub, 1) := by decide +kernel
theorem dX0_solve_162 : decode cX0_solve 162 = .ok (.putfield 79, 3) := by decide +kernel
theorem dX0_solve_165 : decode cX0_solve 165 = .ok (.aload_n 0, 1) := by decide +kernel
theorem dX0_solve_166 : decode cX0_solve 166 = .ok (.lload 11, 2) := by decide +kernel
theorem dX0_solve_168 : decode cX0_solve 168 = .ok (.lload_n 3, 1) := by decide +kernel
theorem dX0_solve_169 : decode cX0_solve 169 = .ok (.lmul, 1) := by decide +kernel
theorem dX0_solve_170 : decode cX0_solve 170 = .ok (.lload 9, 2) := by decide +kernel
theorem dX0_solve_172 : decode cX0_solve 172 = .ok (.lload 5, 2) := by decide +kernel
theorem dX0_solve_174 : decode cX0_solve 174 = .ok (.lmul, 1) := by decide +kernel
theorem dX0_solve_175 : decode cX0_solve 175 = .ok (.lsub, 1) := by decide +kernel
theorem dX0_solve_176 : decode cX0_solve 176 = .ok (.putfield 82, 3) := by decide +kernel
theorem dX0_solve_179 : decode cX0_solve 179 = .ok (.return_, 1) := by decide +kernel
set_option maxRecDepth 20000 in
theorem ggX0_pressed_X5_isMember : GoodIn wsX0_pressed wsX5_isMember := goodIn_r _ [6] (by decide +kernel) (by decide +kernel)
set_option maxRecDepth 20000 in
theorem gX0_pressed_X5_isMember_n66 : GoodIn wsX0_pressed (wsX5_isMember) := ggX0_pressed_X5_isMember
set_option maxRecDepth 20000 in
theorem ggX0_pressed_X0_pressTimesD : GoodIn wsX0_pressed wsX0_pressTimesD := goodIn_r _ [11, 12, 13, 14, 25, 26, 27, 28, 29, 30, 31, 32, 33] (by decide +kernel) (by decide +kernel)
set_option maxRecDepth 20000 in
theorem gX0_pressed_X0_pressTimesD : GoodIn wsX0_pressed (wsV RX0 85 RX0 yX0_pressTimesD wsX0_pressTimesD) := goodIn_app (goodIn_of _ (by decide +kernel)) ggX0_pressed_X0_pressTimesD
theorem dX0_pressed_0 : decode cX0_pressed 0 = .ok (.iconst 0, 1) := by decide +kernel
theorem dX0_pressed_1 : decode cX0_pressed 1 = .ok (.istore_n 2, 1) := by decide +kernel
theorem dX0_pressed_2 : decode cX0_pressed 2 = .ok (.iconst 0, 1) := by decide +kernel
theorem dX0_pressed_3 : decode cX0_pressed 3 = .ok (.istore_n 3, 1) := by decide +kernel
theorem dX0_pressed_4 : decode cX0_pressed 4 = .ok (.iload_n 3, 1) := by decide +kernel
theorem dX0_pressed_5 : decode cX0_pressed 5 = .ok (.bipush 16, 2) := by decide +kernel
theorem dX0_pressed_7 : decode cX0_pressed 7 = .ok (.if_icmp .ge 49, 3) := by decide +kernel
theorem dX0_pressed_10 : decode cX0_pressed 10 = .ok (.aload_n 1, 1) := by decide +kernel
theorem dX0_pressed_11 : decode cX0_pressed 11 = .ok (.getfield 40, 3) := by decide +kernel
theorem dX0_pressed_14 : decode cX0_pressed 14 = .ok (.iload_n 3, 1) := by decide +kernel
theorem dX0_pressed_15 : decode cX0_pressed 15 = .ok (.invokestatic 66, 3) := by decide +kernel
theorem dX0_pressed_18 : decode cX0_pressed 18 = .ok (.ifCond .eq 32, 3) := by decide +kernel
theorem dX0_pressed_21 : decode cX0_pressed 21 = .ok (.aload_n 0, 1) := by decide +kernel
theorem dX0_pressed_22 : decode cX0_pressed 22 = .ok (.aload_n 1, 1) := by decide +kernel
theorem dX0_pressed_23 : decode cX0_pressed 23 = .ok (.getfield 73, 3) := by decide +kernel
theorem dX0_pressed_26 : decode cX0_pressed 26 = .ok (.iload_n 3, 1) := by decide +kernel
theorem dX0_pressed_27 : decode cX0_pressed 27 = .ok (.iaload, 1) := by decide +kernel
theorem dX0_pressed_28 : decode cX0_pressed 28 = .ok (.i2l, 1) := by decide +kernel
theorem dX0_pressed_29 : decode cX0_pressed 29 = .ok (.aload_n 1, 1) := by decide +kernel
theorem dX0_pressed_30 : decode cX0_pressed 30 = .ok (.getfield 76, 3) := by decide +kernel
theorem dX0_pressed_33 : decode cX0_pressed 33 = .ok (.iload_n 3, 1) := by decide +kernel
theorem dX0_pressed_34 : decode cX0_pressed 34 = .ok (.iaload, 1) := by decide +kernel
theorem dX0_pressed_35 : decode cX0_pressed 35 = .ok (.i2l, 1) := by decide +kernel
theorem dX0_pressed_36 : decode cX0_pressed 36 = .ok (.invokevirtual 85, 3) := by decide +kernel
theorem dX0_pressed_39 : decode cX0_pressed 39 = .ok (.lconst 0, 1) := by decide +kernel
theorem dX0_pressed_40 : decode cX0_pressed 40 = .ok (.lcmp, 1) := by decide +kernel
theorem dX0_pressed_41 : decode cX0_pressed 41 = .ok (.ifCond .le 9, 3) := by decide +kernel
theorem dX0_pressed_44 : decode cX0_pressed 44 = .ok (.iload_n 2, 1) := by decide +kernel
theorem dX0_pressed_45 : decode cX0_pressed 45 = .ok (.iconst 1, 1) := by decide +kernel
theorem dX0_pressed_46 : decode cX0_pressed 46 = .ok (.iload_n 3, 1) := by decide +kernel
theorem dX0_pressed_47 : decode cX0_pressed 47 = .ok (.ishl, 1) := by decide +kernel
theorem dX0_pressed_48 : decode cX0_pressed 48 = .ok (.ior, 1) := by decide +kernel
theorem dX0_pressed_49 : decode cX0_pressed 49 = .ok (.istore_n 2, 1) := by decide +kernel
theorem dX0_pressed_50 : decode cX0_pressed 50 = .ok (.iinc 3 1, 3) := by decide +kernel
theorem dX0_pressed_53 : decode cX0_pressed 53 = .ok (.goto (-49), 3) := by decide +kernel
theorem dX0_pressed_56 : decode cX0_pressed 56 = .ok (.iload_n 2, 1) := by decide +kernel
theorem dX0_pressed_57 : decode cX0_pressed 57 = .ok (.ireturn, 1) := by decide +kernel
theorem dX0_pressTimesD_0 : decode cX0_pressTimesD 0 = .ok (.aload_n 0, 1) := by decide +kernel
theorem dX0_pressTimesD_1 : decode cX0_pressTimesD 1 = .ok (.getfield 79, 3) := by decide +kernel
theorem dX0_pressTimesD_4 : decode cX0_pressTimesD 4 = .ok (.aload_n 0, 1) := by decide +kernel
theorem dX0_pressTimesD_5 : decode cX0_pressTimesD 5 = .ok (.getfield 82, 3) := by decide +kernel
theorem dX0_pressTimesD_8 : decode cX0_pressTimesD 8 = .ok (.lload_n 1, 1) := by decide +kernel
theorem dX0_pressTimesD_9 : decode cX0_pressTimesD 9 = .ok (.lmul, 1) := by decide +kernel
theorem dX0_pressTimesD_10 : decode cX0_pressTimesD 10 = .ok (.ladd, 1) := by decide +kernel
theorem dX0_pressTimesD_11 : decode cX0_pressTimesD 11 = .ok (.aload_n 0, 1) := by decide +kernel
theorem dX0_pressTimesD_12 : decode cX0_pressTimesD 12 = .ok (.getfield 52, 3) := by decide +kernel
theorem dX0_pressTimesD_15 : decode cX0_pressTimesD 15 = .ok (.lload_n 3, 1) := by decide +kernel
theorem dX0_pressTimesD_16 : decode cX0_pressTimesD 16 = .ok (.lmul, 1) := by decide +kernel
theorem dX0_pressTimesD_17 : decode cX0_pressTimesD 17 = .ok (.ladd, 1) := by decide +kernel
theorem dX0_pressTimesD_18 : decode cX0_pressTimesD 18 = .ok (.lreturn, 1) := by decide +kernel
set_option maxRecDepth 20000 in
theorem ggX0_roundLoads_X5_isMember : GoodIn wsX0_roundLoads wsX5_isMember := goodIn_r _ [12] (by decide +kernel) (by decide +kernel)
set_option maxRecDepth 20000 in
theorem gX0_roundLoads_X5_isMember_n66 : GoodIn wsX0_roundLoads (wsX5_isMember) := ggX0_roundLoads_X5_isMember
set_option maxRecDepth 20000 in
theorem ggX0_roundLoads_X0_pressTimesD : GoodIn wsX0_roundLoads wsX0_pressTimesD := goodIn_r _ [17, 18, 19, 1, 24, 25, 26, 27, 28, 29, 30, 31, 32] (by decide +kernel) (by decide +kernel)
set_option maxRecDepth 20000 in
theorem gX0_roundLoads_X0_pressTimesD : GoodIn wsX0_roundLoads (wsV RX0 85 RX0 yX0_pressTimesD wsX0_pressTimesD) := goodIn_app (goodIn_of _ (by decide +kernel)) ggX0_roundLoads_X0_pressTimesD
set_option maxRecDepth 20000 in
theorem ggX0_roundLoads_X0_giveOneMore : GoodIn wsX0_roundLoads wsX0_giveOneMore := goodIn_r _ [23, 3, 9, 4, 24, 25, 26, 27, 28, 29, 30, 31, 32] (by decide +kernel) (by decide +kernel)
set_option maxRecDepth 20000 in
theorem gX0_roundLoads_X0_giveOneMore : GoodIn wsX0_roundLoads (wsV RX0 91 RX0 yX0_giveOneMore wsX0_giveOneMore) := goodIn_app (goodIn_of _ (by decide +kernel)) ggX0_roundLoads_X0_giveOneMore
theorem dX0_roundLoads_0 : decode cX0_roundLoads 0 = .ok (.aload_n 0, 1) := by decide +kernel
theorem dX0_roundLoads_1 : decode cX0_roundLoads 1 = .ok (.getfield 52, 3) := by decide +kernel
theorem dX0_roundLoads_4 : decode cX0_roundLoads 4 = .ok (.lconst 0, 1) := by decide +kernel
theorem dX0_roundLoads_5 : decode cX0_roundLoads 5 = .ok (.lcmp, 1) := by decide +kernel
theorem dX0_roundLoads_6 : decode cX0_roundLoads 6 = .ok (.ifCond .gt 4, 3) := by decide +kernel
theorem dX0_roundLoads_9 : decode cX0_roundLoads 9 = .ok (.return_, 1) := by decide +kernel
theorem dX0_roundLoads_10 : decode cX0_roundLoads 10 = .ok (.aload_n 1, 1) := by decide +kernel
theorem dX0_roundLoads_11 : decode cX0_roundLoads 11 = .ok (.getfield 60, 3) := by decide +kernel
theorem dX0_roundLoads_14 : decode cX0_roundLoads 14 = .ok (.istore_n 2, 1) := by decide +kernel
theorem dX0_roundLoads_15 : decode cX0_roundLoads 15 = .ok (.iconst 0, 1) := by decide +kernel
theorem dX0_roundLoads_16 : decode cX0_roundLoads 16 = .ok (.istore_n 3, 1) := by decide +kernel
theorem dX0_roundLoads_17 : decode cX0_roundLoads 17 = .ok (.iload_n 3, 1) := by decide +kernel
theorem dX0_roundLoads_18 : decode cX0_roundLoads 18 = .ok (.bipush 16, 2) := by decide +kernel
theorem dX0_roundLoads_20 : decode cX0_roundLoads 20 = .ok (.if_icmp .ge 93, 3) := by decide +kernel
theorem dX0_roundLoads_23 : decode cX0_roundLoads 23 = .ok (.aload_n 0, 1) := by decide +kernel
theorem dX0_roundLoads_24 : decode cX0_roundLoads 24 = .ok (.getfield 15, 3) := by decide +kernel
theorem dX0_roundLoads_27 : decode cX0_roundLoads 27 = .ok (.iload_n 3, 1) := by decide +kernel
theorem dX0_roundLoads_28 : decode cX0_roundLoads 28 = .ok (.ldc2_w 89, 3) := by decide +kernel
theorem dX0_roundLoads_31 : decode cX0_roundLoads 31 = .ok (.lastore, 1) := by decide +kernel
theorem dX0_roundLoads_32 : decode cX0_roundLoads 32 = .ok (.aload_n 0, 1) := by decide +kernel
theorem dX0_roundLoads_33 : decode cX0_roundLoads 33 = .ok (.getfield 23, 3) := by decide +kernel
theorem dX0_roundLoads_36 : decode cX0_roundLoads 36 = .ok (.iload_n 3, 1) := by decide +kernel
theorem dX0_roundLoads_37 : decode cX0_roundLoads 37 = .ok (.invokestatic 66, 3) := by decide +kernel
theorem dX0_roundLoads_40 : decode cX0_roundLoads 40 = .ok (.ifCond .eq 67, 3) := by decide +kernel
theorem dX0_roundLoads_43 : decode cX0_roundLoads 43 = .ok (.aload_n 1, 1) := by decide +kernel
theorem dX0_roundLoads_44 : decode cX0_roundLoads 44 = .ok (.getfield 70, 3) := by decide +kernel
theorem dX0_roundLoads_47 : decode cX0_roundLoads 47 = .ok (.iload_n 3, 1) := by decide +kernel
theorem dX0_roundLoads_48 : decode cX0_roundLoads 48 = .ok (.iaload, 1) := by decide +kernel
theorem dX0_roundLoads_49 : decode cX0_roundLoads 49 = .ok (.i2l, 1) := by decide +kernel
theorem dX0_roundLoads_50 : decode cX0_roundLoads 50 = .ok (.aload_n 0, 1) := by decide +kernel
theorem dX0_roundLoads_51 : decode cX0_roundLoads 51 = .ok (.aload_n 1, 1) := by decide +kernel
theorem dX0_roundLoads_52 : decode cX0_roundLoads 52 = .ok (.getfield 73, 3) := by decide +kernel
theorem dX0_roundLoads_55 : decode cX0_roundLoads 55 = .ok (.iload_n 3, 1) := by decide +kernel
theorem dX0_roundLoads_56 : decode cX0_roundLoads 56 = .ok (.iaload, 1) := by decide +kernel
theorem dX0_roundLoads_57 : decode cX0_roundLoads 57 = .ok (.i2l, 1) := by decide +kernel
theorem dX0_roundLoads_58 : decode cX0_roundLoads 58 = .ok (.aload_n 1, 1) := by decide +kernel
theorem dX0_roundLoads_59 : decode cX0_roundLoads 59 = .ok (.getfield 76, 3) := by decide +kernel
theorem dX0_roundLoads_62 : decode cX0_roundLoads 62 = .ok (.iload_n 3, 1) := by decide +kernel
theorem dX0_roundLoads_63 : decode cX0_roundLoads 63 = .ok (.iaload, 1) := by decide +kernel
theorem dX0_roundLoads_64 : decode cX0_roundLoads 64 = .ok (.i2l, 1) := by decide +kernel
theorem dX0_roundLoads_65 : decode cX0_roundLoads 65 = .ok (.invokevirtual 85, 3) := by decide +kernel
theorem dX0_roundLoads_68 : decode cX0_roundLoads 68 = .ok (.lmul, 1) := by decide +kernel
theorem dX0_roundLoads_69 : decode cX0_roundLoads 69 = .ok (.lstore 4, 2) := by decide +kernel
theorem dX0_roundLoads_71 : decode cX0_roundLoads 71 = .ok (.aload_n 0, 1) := by decide +kernel
theorem dX0_roundLoads_72 : decode cX0_roundLoads 72 = .ok (.getfield 9, 3) := by decide +kernel
theorem dX0_roundLoads_75 : decode cX0_roundLoads 75 = .ok (.iload_n 3, 1) := by decide +kernel
theorem dX0_roundLoads_76 : decode cX0_roundLoads 76 = .ok (.lload 4, 2) := by decide +kernel
theorem dX0_roundLoads_78 : decode cX0_roundLoads 78 = .ok (.aload_n 0, 1) := by decide +kernel
theorem dX0_roundLoads_79 : decode cX0_roundLoads 79 = .ok (.getfield 52, 3) := by decide +kernel
theorem dX0_roundLoads_82 : decode cX0_roundLoads 82 = .ok (.ldiv, 1) := by decide +kernel
theorem dX0_roundLoads_83 : decode cX0_roundLoads 83 = .ok (.l2i, 1) := by decide +kernel
theorem dX0_roundLoads_84 : decode cX0_roundLoads 84 = .ok (.iastore, 1) := by decide +kernel
theorem dX0_roundLoads_85 : decode cX0_roundLoads 85 = .ok (.aload_n 0, 1) := by decide +kernel
theorem dX0_roundLoads_86 : decode cX0_roundLoads 86 = .ok (.getfield 15, 3) := by decide +kernel
theorem dX0_roundLoads_89 : decode cX0_roundLoads 89 = .ok (.iload_n 3, 1) := by decide +kernel
theorem dX0_roundLoads_90 : decode cX0_roundLoads 90 = .ok (.lload 4, 2) := by decide +kernel
theorem dX0_roundLoads_92 : decode cX0_roundLoads 92 = .ok (.aload_n 0, 1) := by decide +kernel
theorem dX0_roundLoads_93 : decode cX0_roundLoads 93 = .ok (.getfield 52, 3) := by decide +kernel
theorem dX0_roundLoads_96 : decode cX0_roundLoads 96 = .ok (.lrem, 1) := by decide +kernel
theorem dX0_roundLoads_97 : decode cX0_roundLoads 97 = .ok (.lastore, 1) := by decide +kernel
theorem dX0_roundLoads_98 : decode cX0_roundLoads 98 = .ok (.iload_n 2, 1) := by decide +kernel
theorem dX0_roundLoads_99 : decode cX0_roundLoads 99 = .ok (.aload_n 0, 1) := by decide +kernel
theorem dX0_roundLoads_100 : decode cX0_roundLoads 100 = .ok (.getfield 9, 3) := by decide +kernel
theorem dX0_roundLoads_103 : decode cX0_roundLoads 103 = .ok (.iload_n 3, 1) := by decide +kernel
theorem dX0_roundLoads_104 : decode cX0_roundLoads 104 = .ok (.iaload, 1) := by decide +kernel
theorem dX0_roundLoads_105 : decode cX0_roundLoads 105 = .ok (.isub, 1) := by decide +kernel
theorem dX0_roundLoads_106 : decode cX0_roundLoads 106 = .ok (.istore_n 2, 1) := by decide +kernel
theorem dX0_roundLoads_107 : decode cX0_roundLoads 107 = .ok (.iinc 3 1, 3) := by decide +kernel
theorem dX0_roundLoads_110 : decode cX0_roundLoads 110 = .ok (.goto (-93), 3) := by decide +kernel
theorem dX0_roundLoads_113 : decode cX0_roundLoads 113 = .ok (.iconst 0, 1) := by decide +kernel
theorem dX0_roundLoads_114 : decode cX0_roundLoads 114 = .ok (.istore_n 3, 1) := by decide +kernel
theorem dX0_roundLoads_115 : decode cX0_roundLoads 115 = .ok (.iload_n 3, 1) := by decide +kernel
theorem dX0_roundLoads_116 : decode cX0_roundLoads 116 = .ok (.iload_n 2, 1) := by decide +kernel
theorem dX0_roundLoads_117 : decode cX0_roundLoads 117 = .ok (.if_icmp .ge 19, 3) := by decide +kernel
theorem dX0_roundLoads_120 : decode cX0_roundLoads 120 = .ok (.iload_n 3, 1) := by decide +kernel
theorem dX0_roundLoads_121 : decode cX0_roundLoads 121 = .ok (.bipush 16, 2) := by decide +kernel
theorem dX0_roundLoads_123 : decode cX0_roundLoads 123 = .ok (.if_icmp .ge 13, 3) := by decide +kernel
theorem dX0_roundLoads_126 : decode cX0_roundLoads 126 = .ok (.aload_n 0, 1) := by decide +kernel
theorem dX0_roundLoads_127 : decode cX0_roundLoads 127 = .ok (.invokevirtual 91, 3) := by decide +kernel
theorem dX0_roundLoads_130 : decode cX0_roundLoads 130 = .ok (.iinc 3 1, 3) := by decide +kernel
theorem dX0_roundLoads_133 : decode cX0_roundLoads 133 = .ok (.goto (-18), 3) := by decide +kernel
theorem dX0_roundLoads_136 : decode cX0_roundLoads 136 = .ok (.return_, 1) := by decide +kernel
theorem dX0_giveOneMore_0 : decode cX0_giveOneMore 0 = .ok (.iconst 0, 1) := by decide +kernel
theorem dX0_giveOneMore_1 : decode cX0_giveOneMore 1 = .ok (.istore_n 1, 1) := by decide +kernel
theorem dX0_giveOneMore_2 : decode cX0_giveOneMore 2 = .ok (.iconst 1, 1) := by decide +kernel
theorem dX0_giveOneMore_3 : decode cX0_giveOneMore 3 = .ok (.istore_n 2, 1) := by decide +kernel
theorem dX0_giveOneMore_4 : decode cX0_giveOneMore 4 = .ok (.iload_n 2, 1) := by decide +kernel
theorem dX0_giveOneMore_5 : decode cX0_giveOneMore 5 = .ok (.bipush 16, 2) := by decide +kernel
theorem dX0_giveOneMore_7 : decode cX0_giveOneMore 7 = .ok (.if_icmp .ge 27, 3) := by decide +kernel
theorem dX0_giveOneMore_10 : decode cX0_giveOneMore 10 = .ok (.aload_n 0, 1) := by decide +kernel
theorem dX0_giveOneMore_11 : decode cX0_giveOneMore 11 = .ok (.getfield 15, 3) := by decide +kernel
theorem dX0_giveOneMore_14 : decode cX0_giveOneMore 14 = .ok (.iload_n 2, 1) := by decide +kernel
theorem dX0_giveOneMore_15 : decode cX0_giveOneMore 15 = .ok (.laload, 1) := by decide +kernel
theorem dX0_giveOneMore_16 : decode cX0_giveOneMore 16 = .ok (.aload_n 0, 1) := by decide +kernel
theorem dX0_giveOneMore_17 : decode cX0_giveOneMore 17 = .ok (.getfield 15, 3) := by decide +kernel
theorem dX0_giveOneMore_20 : decode cX0_giveOneMore 20 = .ok (.iload_n 1, 1) := by decide +kernel
theorem dX0_giveOneMore_21 : decode cX0_giveOneMore 21 = .ok (.laload, 1) := by decide +kernel
theorem dX0_giveOneMore_22 : decode cX0_giveOneMore 22 = .ok (.lcmp, 1) := by decide +kernel
theorem dX0_giveOneMore_23 : decode cX0_giveOneMore 23 = .ok (.ifCond .le 5, 3) := by decide +kernel
theorem dX0_giveOneMore_26 : decode cX0_giveOneMore 26 = .ok (.iload_n 2, 1) := by decide +kernel
theorem dX0_giveOneMore_27 : decode cX0_giveOneMore 27 = .ok (.istore_n 1, 1) := by decide +kernel
theorem dX0_giveOneMore_28 : decode cX0_giveOneMore 28 = .ok (.iinc 2 1, 3) := by decide +kernel
theorem dX0_giveOneMore_31 : decode cX0_giveOneMore 31 = .ok (.goto (-27), 3) := by decide +kernel
theorem dX0_giveOneMore_34 : decode cX0_giveOneMore 34 = .ok (.aload_n 0, 1) := by decide +kernel
theorem dX0_giveOneMore_35 : decode cX0_giveOneMore 35 = .ok (.getfield 9, 3) := by decide +kernel
theorem dX0_giveOneMore_38 : decode cX0_giveOneMore 38 = .ok (.iload_n 1, 1) := by decide +kernel
theorem dX0_giveOneMore_39 : decode cX0_giveOneMore 39 = .ok (.dup2, 1) := by decide +kernel
theorem dX0_giveOneMore_40 : decode cX0_giveOneMore 40 = .ok (.iaload, 1) := by decide +kernel
theorem dX0_giveOneMore_41 : decode cX0_giveOneMore 41 = .ok (.iconst 1, 1) := by decide +kernel
theorem dX0_giveOneMore_42 : decode cX0_giveOneMore 42 = .ok (.iadd, 1) := by decide +kernel
theorem dX0_giveOneMore_43 : decode cX0_giveOneMore 43 = .ok (.iastore, 1) := by decide +kernel
theorem dX0_giveOneMore_44 : decode cX0_giveOneMore 44 = .ok (.aload_n 0, 1) := by decide +kernel
theorem dX0_giveOneMore_45 : decode cX0_giveOneMore 45 = .ok (.getfield 15, 3) := by decide +kernel
theorem dX0_giveOneMore_48 : decode cX0_giveOneMore 48 = .ok (.iload_n 1, 1) := by decide +kernel
theorem dX0_giveOneMore_49 : decode cX0_giveOneMore 49 = .ok (.ldc2_w 89, 3) := by decide +kernel
theorem dX0_giveOneMore_52 : decode cX0_giveOneMore 52 = .ok (.lastore, 1) := by decide +kernel
theorem dX0_giveOneMore_53 : decode cX0_giveOneMore 53 = .ok (.return_, 1) := by decide +kernel
set_option maxRecDepth 20000 in
theorem ggX0_findOverloaded_X5_isMember : GoodIn wsX0_findOverloaded wsX5_isMember := goodIn_r _ [7] (by decide +kernel) (by decide +kernel)
set_option maxRecDepth 20000 in
theorem gX0_findOverloaded_X5_isMember_n66 : GoodIn wsX0_findOverloaded (wsX5_isMember) := ggX0_findOverloaded_X5_isMember
theorem dX0_findOverloaded_0 : decode cX0_findOverloaded 0 = .ok (.iconst 0, 1) := by decide +kernel
theorem dX0_findOverloaded_1 : decode cX0_findOverloaded 1 = .ok (.istore_n 2, 1) := by decide +kernel
theorem dX0_findOverloaded_2 : decode cX0_findOverloaded 2 = .ok (.iload_n 2, 1) := by decide +kernel
theorem dX0_findOverloaded_3 : decode cX0_findOverloaded 3 = .ok (.bipush 16, 2) := by decide +kernel
theorem dX0_findOverloaded_5 : decode cX0_findOverloaded 5 = .ok (.if_icmp .ge 47, 3) := by decide +kernel
theorem dX0_findOverloaded_8 : decode cX0_findOverloaded 8 = .ok (.aload_n 0, 1) := by decide +kernel
theorem dX0_findOverloaded_9 : decode cX0_findOverloaded 9 = .ok (.getfield 23, 3) := by decide +kernel
theorem dX0_findOverloaded_12 : decode cX0_findOverloaded 12 = .ok (.iload_n 2, 1) := by decide +kernel
theorem dX0_findOverloaded_13 : decode cX0_findOverloaded 13 = .ok (.invokestatic 66, 3) := by decide +kernel
theorem dX0_findOverloaded_16 : decode cX0_findOverloaded 16 = .ok (.ifCond .eq 30, 3) := by decide +kernel
theorem dX0_findOverloaded_19 : decode cX0_findOverloaded 19 = .ok (.aload_n 0, 1) := by decide +kernel
theorem dX0_findOverloaded_20 : decode cX0_findOverloaded 20 = .ok (.getfield 9, 3) := by decide +kernel
theorem dX0_findOverloaded_23 : decode cX0_findOverloaded 23 = .ok (.iload_n 2, 1) := by decide +kernel
theorem dX0_findOverloaded_24 : decode cX0_findOverloaded 24 = .ok (.iaload, 1) := by decide +kernel
theorem dX0_findOverloaded_25 : decode cX0_findOverloaded 25 = .ok (.aload_n 1, 1) := by decide +kernel
theorem dX0_findOverloaded_26 : decode cX0_findOverloaded 26 = .ok (.getfield 94, 3) := by decide +kernel
theorem dX0_findOverloaded_29 : decode cX0_findOverloaded 29 = .ok (.iload_n 2, 1) := by decide +kernel
theorem dX0_findOverloaded_30 : decode cX0_findOverloaded 30 = .ok (.iaload, 1) := by decide +kernel
theorem dX0_findOverloaded_31 : decode cX0_findOverloaded 31 = .ok (.if_icmp .le 15, 3) := by decide +kernel
theorem dX0_findOverloaded_34 : decode cX0_findOverloaded 34 = .ok (.aload_n 0, 1) := by decide +kernel
theorem dX0_findOverloaded_35 : decode cX0_findOverloaded 35 = .ok (.dup, 1) := by decide +kernel
theorem dX0_findOverloaded_36 : decode cX0_findOverloaded 36 = .ok (.getfield 27, 3) := by decide +kernel
theorem dX0_findOverloaded_39 : decode cX0_findOverloaded 39 = .ok (.iconst 1, 1) := by decide +kernel
theorem dX0_findOverloaded_40 : decode cX0_findOverloaded 40 = .ok (.iload_n 2, 1) := by decide +kernel
theorem dX0_findOverloaded_41 : decode cX0_findOverloaded 41 = .ok (.ishl, 1) := by decide +kernel
theorem dX0_findOverloaded_42 : decode cX0_findOverloaded 42 = .ok (.ior, 1) := by decide +kernel
theorem dX0_findOverloaded_43 : decode cX0_findOverloaded 43 = .ok (.putfield 27, 3) := by decide +kernel
theorem dX0_findOverloaded_46 : decode cX0_findOverloaded 46 = .ok (.iinc 2 1, 3) := by decide +kernel
theorem dX0_findOverloaded_49 : decode cX0_findOverloaded 49 = .ok (.goto (-47), 3) := by decide +kernel
theorem dX0_findOverloaded_52 : decode cX0_findOverloaded 52 = .ok (.return_, 1) := by decide +kernel
theorem dX0_isSafe_0 : decode cX0_isSafe 0 = .ok (.aload_n 0, 1) := by decide +kernel
theorem dX0_isSafe_1 : decode cX0_isSafe 1 = .ok (.getfield 19, 3) := by decide +kernel
theorem dX0_isSafe_4 : decode cX0_isSafe 4 = .ok (.ifCond .eq 14, 3) := by decide +kernel
theorem dX0_isSafe_7 : decode cX0_isSafe 7 = .ok (.aload_n 0, 1) := by decide +kernel
theorem dX0_isSafe_8 : decode cX0_isSafe 8 = .ok (.getfield 27, 3) := by decide +kernel
theorem dX0_isSafe_11 : decode cX0_isSafe 11 = .ok (.ifCond .ne 7, 3) := by decide +kernel
theorem dX0_isSafe_14 : decode cX0_isSafe 14 = .ok (.iconst 1, 1) := by decide +kernel
theorem dX0_isSafe_15 : decode cX0_isSafe 15 = .ok (.goto 4, 3) := by decide +kernel
theorem dX0_isSafe_18 : decode cX0_isSafe 18 = .ok (.iconst 0, 1) := by decide +kernel
theorem dX0_isSafe_19 : decode cX0_isSafe 19 = .ok (.ireturn, 1) := by decide +kernel
theorem dX0_mostLoaded_0 : decode cX0_mostLoaded 0 = .ok (.aload_n 0, 1) := by decide +kernel
theorem dX0_mostLoaded_1 : decode cX0_mostLoaded 1 = .ok (.getfield 19, 3) := by decide +kernel
theorem dX0_mostLoaded_4 : decode cX0_mostLoaded 4 = .ok (.ifCond .ne 5, 3) := by decide +kernel
theorem dX0_mostLoaded_7 : decode cX0_mostLoaded 7 = .ok (.iconst (-1), 1) := by decide +kernel
theorem dX0_mostLoaded_8 : decode cX0_mostLoaded 8 = .ok (.ireturn, 1) := by decide +kernel
theorem dX0_mostLoaded_9 : decode cX0_mostLoaded 9 = .ok (.iconst 0, 1) := by decide +kernel
theorem dX0_mostLoaded_10 : decode cX0_mostLoaded 10 = .ok (.istore_n 1, 1) := by decide +kernel
theorem dX0_mostLoaded_11 : decode cX0_mostLoaded 11 = .ok (.iconst 1, 1) := by decide +kernel
theorem dX0_mostLoaded_12 : decode cX0_mostLoaded 12 = .ok (.istore_n 2, 1) := by decide +kernel
theorem dX0_mostLoaded_13 : decode cX0_mostLoaded 13 = .ok (.iload_n 2, 1) := by decide +kernel
theorem dX0_mostLoaded_14 : decode cX0_mostLoaded 14 = .ok (.bipush 16, 2) := by decide +kernel
theorem dX0_mostLoaded_16 : decode cX0_mostLoaded 16 = .ok (.if_icmp .ge 26, 3) := by decide +kernel
theorem dX0_mostLoaded_19 : decode cX0_mostLoaded 19 = .ok (.aload_n 0, 1) := by decide +kernel
theorem dX0_mostLoaded_20 : decode cX0_mostLoaded 20 = .ok (.getfield 9, 3) := by decide +kernel
theorem dX0_mostLoaded_23 : decode cX0_mostLoaded 23 = .ok (.iload_n 2, 1) := by decide +kernel
theorem dX0_mostLoaded_24 : decode cX0_mostLoaded 24 = .ok (.iaload, 1) := by decide +kernel
theorem dX0_mostLoaded_25 : decode cX0_mostLoaded 25 = .ok (.aload_n 0, 1) := by decide +kernel
theorem dX0_mostLoaded_26 : decode cX0_mostLoaded 26 = .ok (.getfield 9, 3) := by decide +kernel
theorem dX0_mostLoaded_29 : decode cX0_mostLoaded 29 = .ok (.iload_n 1, 1) := by decide +kernel
theorem dX0_mostLoaded_30 : decode cX0_mostLoaded 30 = .ok (.iaload, 1) := by decide +kernel
theorem dX0_mostLoaded_31 : decode cX0_mostLoaded 31 = .ok (.if_icmp .le 5, 3) := by decide +kernel
theorem dX0_mostLoaded_34 : decode cX0_mostLoaded 34 = .ok (.iload_n 2, 1) := by decide +kernel
theorem dX0_mostLoaded_35 : decode cX0_mostLoaded 35 = .ok (.istore_n 1, 1) := by decide +kernel
theorem dX0_mostLoaded_36 : decode cX0_mostLoaded 36 = .ok (.iinc 2 1, 3) := by decide +kernel
theorem dX0_mostLoaded_39 : decode cX0_mostLoaded 39 = .ok (.goto (-26), 3) := by decide +kernel
theorem dX0_mostLoaded_42 : decode cX0_mostLoaded 42 = .ok (.iload_n 1, 1) := by decide +kernel
theorem dX0_mostLoaded_43 : decode cX0_mostLoaded 43 = .ok (.ireturn, 1) := by decide +kernel
theorem dX0_greatestLoad_0 : decode cX0_greatestLoad 0 = .ok (.iconst 0, 1) := by decide +kernel
theorem dX0_greatestLoad_1 : decode cX0_greatestLoad 1 = .ok (.istore_n 1, 1) := by decide +kernel
theorem dX0_greatestLoad_2 : decode cX0_greatestLoad 2 = .ok (.iconst 0, 1) := by decide +kernel
theorem dX0_greatestLoad_3 : decode cX0_greatestLoad 3 = .ok (.istore_n 2, 1) := by decide +kernel
theorem dX0_greatestLoad_4 : decode cX0_greatestLoad 4 = .ok (.iload_n 2, 1) := by decide +kernel
theorem dX0_greatestLoad_5 : decode cX0_greatestLoad 5 = .ok (.bipush 16, 2) := by decide +kernel
theorem dX0_greatestLoad_7 : decode cX0_greatestLoad 7 = .ok (.if_icmp .ge 20, 3) := by decide +kernel
theorem dX0_greatestLoad_10 : decode cX0_greatestLoad 10 = .ok (.iload_n 1, 1) := by decide +kernel
theorem dX0_greatestLoad_11 : decode cX0_greatestLoad 11 = .ok (.aload_n 0, 1) := by decide +kernel
theorem dX0_greatestLoad_12 : decode cX0_greatestLoad 12 = .ok (.getfield 9, 3) := by decide +kernel
theorem dX0_greatestLoad_15 : decode cX0_greatestLoad 15 = .ok (.iload_n 2, 1) := by decide +kernel
theorem dX0_greatestLoad_16 : decode cX0_greatestLoad 16 = .ok (.iaload, 1) := by decide +kernel
theorem dX0_greatestLoad_17 : decode cX0_greatestLoad 17 = .ok (.invokestatic 97, 3) := by decide +kernel
theorem dX0_greatestLoad_20 : decode cX0_greatestLoad 20 = .ok (.istore_n 1, 1) := by decide +kernel
theorem dX0_greatestLoad_21 : decode cX0_greatestLoad 21 = .ok (.iinc 2 1, 3) := by decide +kernel
theorem dX0_greatestLoad_24 : decode cX0_greatestLoad 24 = .ok (.goto (-20), 3) := by decide +kernel
theorem dX0_greatestLoad_27 : decode cX0_greatestLoad 27 = .ok (.iload_n 1, 1) := by decide +kernel
theorem dX0_greatestLoad_28 : decode cX0_greatestLoad 28 = .ok (.ireturn, 1) := by decide +kernel
set_option maxRecDepth 20000 in
theorem ggX0_mostOverloaded_X5_isMember : GoodIn wsX0_mostOverloaded wsX5_isMember := goodIn_r _ [6] (by decide +kernel) (by decide +kernel)
set_option maxRecDepth 20000 in
theorem gX0_mostOverloaded_X5_isMember_n66 : GoodIn wsX0_mostOverloaded (wsX5_isMember) := ggX0_mostOverloaded_X5_isMember
theorem dX0_mostOverloaded_0 : decode cX0_mostOverloaded 0 = .ok (.iconst (-1), 1) := by decide +kernel
theorem dX0_mostOverloaded_1 : decode cX0_mostOverloaded 1 = .ok (.istore_n 2, 1) := by decide +kernel
theorem dX0_mostOverloaded_2 : decode cX0_mostOverloaded 2 = .ok (.iconst 0, 1) := by decide +kernel
theorem dX0_mostOverloaded_3 : decode cX0_mostOverloaded 3 = .ok (.istore_n 3, 1) := by decide +kernel
theorem dX0_mostOverloaded_4 : decode cX0_mostOverloaded 4 = .ok (.iconst 0, 1) := by decide +kernel
theorem dX0_mostOverloaded_5 : decode cX0_mostOverloaded 5 = .ok (.istore 4, 2) := by decide +kernel
theorem dX0_mostOverloaded_7 : decode cX0_mostOverloaded 7 = .ok (.iload 4, 2) := by decide +kernel
theorem dX0_mostOverloaded_9 : decode cX0_mostOverloaded 9 = .ok (.bipush 16, 2) := by decide +kernel
theorem dX0_mostOverloaded_11 : decode cX0_mostOverloaded 11 = .ok (.if_icmp .ge 50, 3) := by decide +kernel
theorem dX0_mostOverloaded_14 : decode cX0_mostOverloaded 14 = .ok (.aload_n 0, 1) := by decide +kernel
theorem dX0_mostOverloaded_15 : decode cX0_mostOverloaded 15 = .ok (.getfield 9, 3) := by decide +kernel
theorem dX0_mostOverloaded_18 : decode cX0_mostOverloaded 18 = .ok (.iload 4, 2) := by decide +kernel
theorem dX0_mostOverloaded_20 : decode cX0_mostOverloaded 20 = .ok (.iaload, 1) := by decide +kernel
theorem dX0_mostOverloaded_21 : decode cX0_mostOverloaded 21 = .ok (.aload_n 1, 1) := by decide +kernel
theorem dX0_mostOverloaded_22 : decode cX0_mostOverloaded 22 = .ok (.getfield 94, 3) := by decide +kernel
theorem dX0_mostOverloaded_25 : decode cX0_mostOverloaded 25 = .ok (.iload 4, 2) := by decide +kernel
theorem dX0_mostOverloaded_27 : decode cX0_mostOverloaded 27 = .ok (.iaload, 1) := by decide +kernel
theorem dX0_mostOverloaded_28 : decode cX0_mostOverloaded 28 = .ok (.isub, 1) := by decide +kernel
theorem dX0_mostOverloaded_29 : decode cX0_mostOverloaded 29 = .ok (.istore 5, 2) := by decide +kernel
theorem dX0_mostOverloaded_31 : decode cX0_mostOverloaded 31 = .ok (.aload_n 0, 1) := by decide +kernel
theorem dX0_mostOverloaded_32 : decode cX0_mostOverloaded 32 = .ok (.getfield 27, 3) := by decide +kernel
theorem dX0_mostOverloaded_35 : decode cX0_mostOverloaded 35 = .ok (.iload 4, 2) := by decide +kernel
theorem dX0_mostOverloaded_37 : decode cX0_mostOverloaded 37 = .ok (.invokestatic 66, 3) := by decide +kernel
theorem dX0_mostOverloaded_40 : decode cX0_mostOverloaded 40 = .ok (.ifCond .eq 15, 3) := by decide +kernel
theorem dX0_mostOverloaded_43 : decode cX0_mostOverloaded 43 = .ok (.iload 5, 2) := by decide +kernel
theorem dX0_mostOverloaded_45 : decode cX0_mostOverloaded 45 = .ok (.iload_n 3, 1) := by decide +kernel
theorem dX0_mostOverloaded_46 : decode cX0_mostOverloaded 46 = .ok (.if_icmp .le 9, 3) := by decide +kernel
theorem dX0_mostOverloaded_49 : decode cX0_mostOverloaded 49 = .ok (.iload 4, 2) := by decide +kernel
theorem dX0_mostOverloaded_51 : decode cX0_mostOverloaded 51 = .ok (.istore_n 2, 1) := by decide +kernel
theorem dX0_mostOverloaded_52 : decode cX0_mostOverloaded 52 = .ok (.iload 5, 2) := by decide +kernel
theorem dX0_mostOverloaded_54 : decode cX0_mostOverloaded 54 = .ok (.istore_n 3, 1) := by decide +kernel
theorem dX0_mostOverloaded_55 : decode cX0_mostOverloaded 55 = .ok (.iinc 4 1, 3) := by decide +kernel
theorem dX0_mostOverloaded_58 : decode cX0_mostOverloaded 58 = .ok (.goto (-51), 3) := by decide +kernel
theorem dX0_mostOverloaded_61 : decode cX0_mostOverloaded 61 = .ok (.iload_n 2, 1) := by decide +kernel
theorem dX0_mostOverloaded_62 : decode cX0_mostOverloaded 62 = .ok (.ireturn, 1) := by decide +kernel
theorem dX1_init_0 : decode cX1_init 0 = .ok (.aload_n 0, 1) := by decide +kernel
theorem dX1_init_1 : decode cX1_init 1 = .ok (.invokespecial 3, 3) := by decide +kernel
theorem dX1_init_4 : decode cX1_init 4 = .ok (.aload_n 0, 1) := by decide +kernel
theorem dX1_init_5 : decode cX1_init 5 = .ok (.sipush 1000, 3) := by decide +kernel
theorem dX1_init_8 : decode cX1_init 8 = .ok (.putfield 9, 3) := by decide +kernel
theorem dX1_init_11 : decode cX1_init 11 = .ok (.aload_n 0, 1) := by decide +kernel
theorem dX1_init_12 : decode cX1_init 12 = .ok (.sipush 200, 3) := by decide +kernel
theorem dX1_init_15 : decode cX1_init 15 = .ok (.putfield 15, 3) := by decide +kernel
theorem dX1_init_18 : decode cX1_init 18 = .ok (.aload_n 0, 1) := by decide +kernel
theorem dX1_init_19 : decode cX1_init 19 = .ok (.iconst 0, 1) := by decide +kernel
theorem dX1_init_20 : decode cX1_init 20 = .ok (.putfield 18, 3) := by decide +kernel
theorem dX1_init_23 : decode cX1_init 23 = .ok (.aload_n 0, 1) := by decide +kernel
theorem dX1_init_24 : decode cX1_init 24 = .ok (.iconst 0, 1) := by decide +kernel
theorem dX1_init_25 : decode cX1_init 25 = .ok (.putfield 21, 3) := by decide +kernel
theorem dX1_init_28 : decode cX1_init 28 = .ok (.aload_n 0, 1) := by decide +kernel
theorem dX1_init_29 : decode cX1_init 29 = .ok (.iconst 0, 1) := by decide +kernel
theorem dX1_init_30 : decode cX1_init 30 = .ok (.putfield 24, 3) := by decide +kernel
theorem dX1_init_33 : decode cX1_init 33 = .ok (.aload_n 0, 1) := by decide +kernel
theorem dX1_init_34 : decode cX1_init 34 = .ok (.bipush 16, 2) := by decide +kernel
theorem dX1_init_36 : decode cX1_init 36 = .ok (.newarray .int, 2) := by decide +kernel
theorem dX1_init_38 : decode cX1_init 38 = .ok (.putfield 27, 3) := by decide +kernel
theorem dX1_init_41 : decode cX1_init 41 = .ok (.aload_n 0, 1) := by decide +kernel
theorem dX1_init_42 : decode cX1_init 42 = .ok (.bipush 16, 2) := by decide +kernel
theorem dX1_init_44 : decode cX1_init 44 = .ok (.newarray .int, 2) := by decide +kernel
theorem dX1_init_46 : decode cX1_init 46 = .ok (.putfield 31, 3) := by decide +kernel
theorem dX1_init_49 : decode cX1_init 49 = .ok (.aload_n 0, 1) := by decide +kernel
theorem dX1_init_50 : decode cX1_init 50 = .ok (.bipush 16, 2) := by decide +kernel
theorem dX1_init_52 : decode cX1_init 52 = .ok (.newarray .int, 2) := by decide +kernel
theorem dX1_init_54 : decode cX1_init 54 = .ok (.putfield 34, 3) := by decide +kernel
theorem dX1_init_57 : decode cX1_init 57 = .ok (.aload_n 0, 1) := by decide +kernel
theorem dX1_init_58 : decode cX1_init 58 = .ok (.bipush 16, 2) := by decide +kernel
theorem dX1_init_60 : decode cX1_init 60 = .ok (.newarray .int, 2) := by decide +kernel
theorem dX1_init_62 : decode cX1_init 62 = .ok (.putfield 37, 3) := by decide +kernel
theorem dX1_init_65 : decode cX1_init 65 = .ok (.aload_n 0, 1) := by decide +kernel
theorem dX1_init_66 : decode cX1_init 66 = .ok (.bipush 16, 2) := by decide +kernel
theorem dX1_init_68 : decode cX1_init 68 = .ok (.newarray .int, 2) := by decide +kernel
theorem dX1_init_70 : decode cX1_init 70 = .ok (.putfield 40, 3) := by decide +kernel
theorem dX1_init_73 : decode cX1_init 73 = .ok (.return_, 1) := by decide +kernel
theorem dX1_hasBlock_0 : decode cX1_hasBlock 0 = .ok (.iload_n 1, 1) := by decide +kernel
theorem dX1_hasBlock_1 : decode cX1_hasBlock 1 = .ok (.ifCond .lt 21, 3) := by decide +kernel
theorem dX1_hasBlock_4 : decode cX1_hasBlock 4 = .ok (.iload_n 1, 1) := by decide +kernel
theorem dX1_hasBlock_5 : decode cX1_hasBlock 5 = .ok (.aload_n 0, 1) := by decide +kernel
theorem dX1_hasBlock_6 : decode cX1_hasBlock 6 = .ok (.getfield 18, 3) := by decide +kernel
theorem dX1_hasBlock_9 : decode cX1_hasBlock 9 = .ok (.if_icmp .ge 13, 3) := by decide +kernel
theorem dX1_hasBlock_12 : decode cX1_hasBlock 12 = .ok (.iload_n 1, 1) := by decide +kernel
theorem dX1_hasBlock_13 : decode cX1_hasBlock 13 = .ok (.bipush 16, 2) := by decide +kernel
theorem dX1_hasBlock_15 : decode cX1_hasBlock 15 = .ok (.if_icmp .ge 7, 3) := by decide +kernel
theorem dX1_hasBlock_18 : decode cX1_hasBlock 18 = .ok (.iconst 1, 1) := by decide +kernel
theorem dX1_hasBlock_19 : decode cX1_hasBlock 19 = .ok (.goto 4, 3) := by decide +kernel
theorem dX1_hasBlock_22 : decode cX1_hasBlock 22 = .ok (.iconst 0, 1) := by decide +kernel
theorem dX1_hasBlock_23 : decode cX1_hasBlock 23 = .ok (.ireturn, 1) := by decide +kernel
theorem dX1_hasRoom_0 : decode cX1_hasRoom 0 = .ok (.aload_n 0, 1) := by decide +kernel
theorem dX1_hasRoom_1 : decode cX1_hasRoom 1 = .ok (.getfield 18, 3) := by decide +kernel
theorem dX1_hasRoom_4 : decode cX1_hasRoom 4 = .ok (.ifCond .lt 16, 3) := by decide +kernel
theorem dX1_hasRoom_7 : decode cX1_hasRoom 7 = .ok (.aload_n 0, 1) := by decide +kernel
theorem dX1_hasRoom_8 : decode cX1_hasRoom 8 = .ok (.getfield 18, 3) := by decide +kernel
theorem dX1_hasRoom_11 : decode cX1_hasRoom 11 = .ok (.bipush 16, 2) := by decide +kernel
theorem dX1_hasRoom_13 : decode cX1_hasRoom 13 = .ok (.if_icmp .ge 7, 3) := by decide +kernel
theorem dX1_hasRoom_16 : decode cX1_hasRoom 16 = .ok (.iconst 1, 1) := by decide +kernel
theorem dX1_hasRoom_17 : decode cX1_hasRoom 17 = .ok (.goto 4, 3) := by decide +kernel
theorem dX1_hasRoom_20 : decode cX1_hasRoom 20 = .ok (.iconst 0, 1) := by decide +kernel
theorem dX1_hasRoom_21 : decode cX1_hasRoom 21 = .ok (.ireturn, 1) := by decide +kernel
theorem dX1_add_0 : decode cX1_add 0 = .ok (.aload_n 0, 1) := by decide +kernel
theorem dX1_add_1 : decode cX1_add 1 = .ok (.getfield 18, 3) := by decide +kernel
theorem dX1_add_4 : decode cX1_add 4 = .ok (.istore 5, 2) := by decide +kernel
theorem dX1_add_6 : decode cX1_add 6 = .ok (.iload 5, 2) := by decide +kernel
theorem dX1_add_8 : decode cX1_add 8 = .ok (.ifCond .lt 10, 3) := by decide +kernel
theorem dX1_add_11 : decode cX1_add 11 = .ok (.iload 5, 2) := by decide +kernel
theorem dX1_add_13 : decode cX1_add 13 = .ok (.bipush 16, 2) := by decide +kernel
theorem dX1_add_15 : decode cX1_add 15 = .ok (.if_icmp .lt 5, 3) := by decide +kernel
theorem dX1_add_18 : decode cX1_add 18 = .ok (.iconst (-1), 1) := by decide +kernel
theorem dX1_add_19 : decode cX1_add 19 = .ok (.ireturn, 1) := by decide +kernel
theorem dX1_add_20 : decode cX1_add 20 = .ok (.aload_n 0, 1) := by decide +kernel
theorem dX1_add_21 : decode cX1_add 21 = .ok (.getfield 27, 3) := by decide +kernel
theorem dX1_add_24 : decode cX1_add 24 = .ok (.iload 5, 2) := by decide +kernel
theorem dX1_add_26 : decode cX1_add 26 = .ok (.iload_n 1, 1) := by decide +kernel
theorem dX1_add_27 : decode cX1_add 27 = .ok (.iastore, 1) := by decide +kernel
theorem dX1_add_28 : decode cX1_add 28 = .ok (.aload_n 0, 1) := by decide +kernel
theorem dX1_add_29 : decode cX1_add 29 = .ok (.getfield 31, 3) := by decide +kernel
theorem dX1_add_32 : decode cX1_add 32 = .ok (.iload 5, 2) := by decide +kernel
theorem dX1_add_34 : decode cX1_add 34 = .ok (.iload_n 2, 1) := by decide +kernel
theorem dX1_add_35 : decode cX1_add 35 = .ok (.iastore, 1) := by decide +kernel
theorem dX1_add_36 : decode cX1_add 36 = .ok (.aload_n 0, 1) := by decide +kernel
theorem dX1_add_37 : decode cX1_add 37 = .ok (.getfield 34, 3) := by decide +kernel
theorem dX1_add_40 : decode cX1_add 40 = .ok (.iload 5, 2) := by decide +kernel
theorem dX1_add_42 : decode cX1_add 42 = .ok (.iload_n 3, 1) := by decide +kernel
theorem dX1_add_43 : decode cX1_add 43 = .ok (.iastore, 1) := by decide +kernel
theorem dX1_add_44 : decode cX1_add 44 = .ok (.aload_n 0, 1) := by decide +kernel
theorem dX1_add_45 : decode cX1_add 45 = .ok (.getfield 37, 3) := by decide +kernel
theorem dX1_add_48 : decode cX1_add 48 = .ok (.iload 5, 2) := by decide +kernel
theorem dX1_add_50 : decode cX1_add 50 = .ok (.iload 4, 2) := by decide +kernel
theorem dX1_add_52 : decode cX1_add 52 = .ok (.iastore, 1) := by decide +kernel
theorem dX1_add_53 : decode cX1_add 53 = .ok (.aload_n 0, 1) := by decide +kernel
theorem dX1_add_54 : decode cX1_add 54 = .ok (.getfield 40, 3) := by decide +kernel
theorem dX1_add_57 : decode cX1_add 57 = .ok (.iload 5, 2) := by decide +kernel
theorem dX1_add_59 : decode cX1_add 59 = .ok (.iconst 0, 1) := by decide +kernel
theorem dX1_add_60 : decode cX1_add 60 = .ok (.iastore, 1) := by decide +kernel
theorem dX1_add_61 : decode cX1_add 61 = .ok (.aload_n 0, 1) := by decide +kernel
theorem dX1_add_62 : decode cX1_add 62 = .ok (.dup, 1) := by decide +kernel
theorem dX1_add_63 : decode cX1_add 63 = .ok (.getfield 21, 3) := by decide +kernel
theorem dX1_add_66 : decode cX1_add 66 = .ok (.iconst 1, 1) := by decide +kernel
theorem dX1_add_67 : decode cX1_add 67 = .ok (.iload 5, 2) := by decide +kernel
theorem dX1_add_69 : decode cX1_add 69 = .ok (.ishl, 1) := by decide +kernel
theorem dX1_add_70 : decode cX1_add 70 = .ok (.ior, 1) := by decide +kernel
theorem dX1_add_71 : decode cX1_add 71 = .ok (.putfield 21, 3) := by decide +kernel
theorem dX1_add_74 : decode cX1_add 74 = .ok (.aload_n 0, 1) := by decide +kernel
theorem dX1_add_75 : decode cX1_add 75 = .ok (.iload 5, 2) := by decide +kernel
theorem dX1_add_77 : decode cX1_add 77 = .ok (.iconst 1, 1) := by decide +kernel
theorem dX1_add_78 : decode cX1_add 78 = .ok (.iadd, 1) := by decide +kernel
theorem dX1_add_79 : decode cX1_add 79 = .ok (.putfield 18, 3) := by decide +kernel
theorem dX1_add_82 : decode cX1_add 82 = .ok (.iload 5, 2) := by decide +kernel
theorem dX1_add_84 : decode cX1_add 84 = .ok (.ireturn, 1) := by decide +kernel
theorem dX1_removeBlocks_0 : decode cX1_removeBlocks 0 = .ok (.aload_n 0, 1) := by decide +kernel
theorem dX1_removeBlocks_1 : decode cX1_removeBlocks 1 = .ok (.iconst 0, 1) := by decide +kernel
theorem dX1_removeBlocks_2 : decode cX1_removeBlocks 2 = .ok (.putfield 18, 3) := by decide +kernel
theorem dX1_removeBlocks_5 : decode cX1_removeBlocks 5 = .ok (.aload_n 0, 1) := by decide +kernel
theorem dX1_removeBlocks_6 : decode cX1_removeBlocks 6 = .ok (.iconst 0, 1) := by decide +kernel
theorem dX1_removeBlocks_7 : decode cX1_removeBlocks 7 = .ok (.putfield 21, 3) := by decide +kernel
theorem dX1_removeBlocks_10 : decode cX1_removeBlocks 10 = .ok (.aload_n 0, 1) := by decide +kernel
theorem dX1_removeBlocks_11 : decode cX1_removeBlocks 11 = .ok (.iconst 0, 1) := by decide +kernel
theorem dX1_removeBlocks_12 : decode cX1_removeBlocks 12 = .ok (.putfield 24, 3) := by decide +kernel
theorem dX1_removeBlocks_15 : decode cX1_removeBlocks 15 = .ok (.return_, 1) := by decide +kernel
theorem dX1_pullOut_0 : decode cX1_pullOut 0 = .ok (.aload_n 0, 1) := by decide +kernel
theorem dX1_pullOut_1 : decode cX1_pullOut 1 = .ok (.dup, 1) := by decide +kernel
theorem dX1_pullOut_2 : decode cX1_pullOut 2 = .ok (.getfield 21, 3) := by decide +kernel
theorem dX1_pullOut_5 : decode cX1_pullOut 5 = .ok (.iconst 1, 1) := by decide +kernel
theorem dX1_pullOut_6 : decode cX1_pullOut 6 = .ok (.iload_n 1, 1) := by decide +kernel
theorem dX1_pullOut_7 : decode cX1_pullOut 7 = .ok (.ishl, 1) := by decide +kernel
theorem dX1_pullOut_8 : decode cX1_pullOut 8 = .ok (.iconst (-1), 1) := by decide +kernel
theorem dX1_pullOut_9 : decode cX1_pullOut 9 = .ok (.ixor, 1) := by decide +kernel
theorem dX1_pullOut_10 : decode cX1_pullOut 10 = .ok (.iand, 1) := by decide +kernel
theorem dX1_pullOut_11 : decode cX1_pullOut 11 = .ok (.putfield 21, 3) := by decide +kernel
theorem dX1_pullOut_14 : decode cX1_pullOut 14 = .ok (.return_, 1) := by decide +kernel
theorem dX1_putBack_0 : decode cX1_putBack 0 = .ok (.aload_n 0, 1) := by decide +kernel
theorem dX1_putBack_1 : decode cX1_putBack 1 = .ok (.dup, 1) := by decide +kernel
theorem dX1_putBack_2 : decode cX1_putBack 2 = .ok (.getfield 21, 3) := by decide +kernel
theorem dX1_putBack_5 : decode cX1_putBack 5 = .ok (.iconst 1, 1) := by decide +kernel
theorem dX1_putBack_6 : decode cX1_putBack 6 = .ok (.iload_n 1, 1) := by decide +kernel
theorem dX1_putBack_7 : decode cX1_putBack 7 = .ok (.ishl, 1) := by decide +kernel
theorem dX1_putBack_8 : decode cX1_putBack 8 = .ok (.ior, 1) := by decide +kernel
theorem dX1_putBack_9 : decode cX1_putBack 9 = .ok (.putfield 21, 3) := by decide +kernel
theorem dX1_putBack_12 : decode cX1_putBack 12 = .ok (.aload_n 0, 1) := by decide +kernel
theorem dX1_putBack_13 : decode cX1_putBack 13 = .ok (.dup, 1) := by decide +kernel
theorem dX1_putBack_14 : decode cX1_putBack 14 = .ok (.getfield 24, 3) := by decide +kernel
theorem dX1_putBack_17 : decode cX1_putBack 17 = .ok (.iconst 1, 1) := by decide +kernel
theorem dX1_putBack_18 : decode cX1_putBack 18 = .ok (.iload_n 1, 1) := by decide +kernel
theorem dX1_putBack_19 : decode cX1_putBack 19 = .ok (.ishl, 1) := by decide +kernel
theorem dX1_putBack_20 : decode cX1_putBack 20 = .ok (.iconst (-1), 1) := by decide +kernel
theorem dX1_putBack_21 : decode cX1_putBack 21 = .ok (.ixor, 1) := by decide +kernel
theorem dX1_putBack_22 : decode cX1_putBack 22 = .ok (.iand, 1) := by decide +kernel
theorem dX1_putBack_23 : decode cX1_putBack 23 = .ok (.putfield 24, 3) := by decide +kernel
theorem dX1_putBack_26 : decode cX1_putBack 26 = .ok (.return_, 1) := by decide +kernel
theorem dX1_crush_0 : decode cX1_crush 0 = .ok (.aload_n 0, 1) := by decide +kernel
theorem dX1_crush_1 : decode cX1_crush 1 = .ok (.dup, 1) := by decide +kernel
theorem dX1_crush_2 : decode cX1_crush 2 = .ok (.getfield 21, 3) := by decide +kernel
theorem dX1_crush_5 : decode cX1_crush 5 = .ok (.iload_n 1, 1) := by decide +kernel
theorem dX1_crush_6 : decode cX1_crush 6 = .ok (.iconst (-1), 1) := by decide +kernel
theorem dX1_crush_7 : decode cX1_crush 7 = .ok (.ixor, 1) := by decide +kernel
theorem dX1_crush_8 : decode cX1_crush 8 = .ok (.iand, 1) := by decide +kernel
theorem dX1_crush_9 : decode cX1_crush 9 = .ok (.putfield 21, 3) := by decide +kernel
theorem dX1_crush_12 : decode cX1_crush 12 = .ok (.aload_n 0, 1) := by decide +kernel
theorem dX1_crush_13 : decode cX1_crush 13 = .ok (.dup, 1) := by decide +kernel
theorem dX1_crush_14 : decode cX1_crush 14 = .ok (.getfield 24, 3) := by decide +kernel
theorem dX1_crush_17 : decode cX1_crush 17 = .ok (.iload_n 1, 1) := by decide +kernel
theorem dX1_crush_18 : decode cX1_crush 18 = .ok (.ior, 1) := by decide +kernel
theorem dX1_crush_19 : decode cX1_crush 19 = .ok (.putfield 24, 3) := by decide +kernel
theorem dX1_crush_22 : decode cX1_crush 22 = .ok (.return_, 1) := by decide +kernel
set_option maxRecDepth 20000 in
theorem ggX1_lowerCap_X1_hasBlock : GoodIn wsX1_lowerCap wsX1_hasBlock := goodIn_r _ [7, 8, 9, 10, 11, 12, 13, 14, 15, 16, 17, 18] (by decide +kernel) (by decide +kernel)
set_option maxRecDepth 20000 in
theorem gX1_lowerCap_X1_hasBlock : GoodIn wsX1_lowerCap (wsV RX1 43 RX1 yX1_hasBlock wsX1_hasBlock) := goodIn_app (goodIn_of _ (by decide +kernel)) ggX1_lowerCap_X1_hasBlock
theorem dX1_lowerCap_0 : decode cX1_lowerCap 0 = .ok (.aload_n 0, 1) := by decide +kernel
theorem dX1_lowerCap_1 : decode cX1_lowerCap 1 = .ok (.iload_n 1, 1) := by decide +kernel
theorem dX1_lowerCap_2 : decode cX1_lowerCap 2 = .ok (.invokevirtual 43, 3) := by decide +kernel
theorem dX1_lowerCap_5 : decode cX1_lowerCap 5 = .ok (.ifCond .eq 14, 3) := by decide +kernel
theorem dX1_lowerCap_8 : decode cX1_lowerCap 8 = .ok (.aload_n 0, 1) := by decide +kernel
theorem dX1_lowerCap_9 : decode cX1_lowerCap 9 = .ok (.getfield 34, 3) := by decide +kernel
theorem dX1_lowerCap_12 : decode cX1_lowerCap 12 = .ok (.iload_n 1, 1) := by decide +kernel
theorem dX1_lowerCap_13 : decode cX1_lowerCap 13 = .ok (.iaload, 1) := by decide +kernel
theorem dX1_lowerCap_14 : decode cX1_lowerCap 14 = .ok (.bipush (-50), 2) := by decide +kernel
theorem dX1_lowerCap_16 : decode cX1_lowerCap 16 = .ok (.if_icmp .gt 5, 3) := by decide +kernel
theorem dX1_lowerCap_19 : decode cX1_lowerCap 19 = .ok (.iconst 0, 1) := by decide +kernel
theorem dX1_lowerCap_20 : decode cX1_lowerCap 20 = .ok (.ireturn, 1) := by decide +kernel
theorem dX1_lowerCap_21 : decode cX1_lowerCap 21 = .ok (.aload_n 0, 1) := by decide +kernel
theorem dX1_lowerCap_22 : decode cX1_lowerCap 22 = .ok (.getfield 34, 3) := by decide +kernel
theorem dX1_lowerCap_25 : decode cX1_lowerCap 25 = .ok (.iload_n 1, 1) := by decide +kernel
theorem dX1_lowerCap_26 : decode cX1_lowerCap 26 = .ok (.dup2, 1) := by decide +kernel
theorem dX1_lowerCap_27 : decode cX1_lowerCap 27 = .ok (.iaload, 1) := by decide +kernel
theorem dX1_lowerCap_28 : decode cX1_lowerCap 28 = .ok (.iconst 1, 1) := by decide +kernel
theorem dX1_lowerCap_29 : decode cX1_lowerCap 29 = .ok (.isub, 1) := by decide +kernel
theorem dX1_lowerCap_30 : decode cX1_lowerCap 30 = .ok (.iastore, 1) := by decide +kernel
theorem dX1_lowerCap_31 : decode cX1_lowerCap 31 = .ok (.aload_n 0, 1) := by decide +kernel
theorem dX1_lowerCap_32 : decode cX1_lowerCap 32 = .ok (.getfield 40, 3) := by decide +kernel
theorem dX1_lowerCap_35 : decode cX1_lowerCap 35 = .ok (.iload_n 1, 1) := by decide +kernel
theorem dX1_lowerCap_36 : decode cX1_lowerCap 36 = .ok (.dup2, 1) := by decide +kernel
theorem dX1_lowerCap_37 : decode cX1_lowerCap 37 = .ok (.iaload, 1) := by decide +kernel
theorem dX1_lowerCap_38 : decode cX1_lowerCap 38 = .ok (.iconst 1, 1) := by decide +kernel
theorem dX1_lowerCap_39 : decode cX1_lowerCap 39 = .ok (.iadd, 1) := by decide +kernel
theorem dX1_lowerCap_40 : decode cX1_lowerCap 40 = .ok (.iastore, 1) := by decide +kernel
theorem dX1_lowerCap_41 : decode cX1_lowerCap 41 = .ok (.iconst 1, 1) := by decide +kernel
theorem dX1_lowerCap_42 : decode cX1_lowerCap 42 = .ok (.ireturn, 1) := by decide +kernel
set_option maxRecDepth 20000 in
theorem ggX1_stateOf_X5_isMember : GoodIn wsX1_stateOf wsX5_isMember := goodIn_r _ [5] (by decide +kernel) (by decide +kernel)
set_option maxRecDepth 20000 in
theorem gX1_stateOf_X5_isMember_n47 : GoodIn wsX1_stateOf (wsX5_isMember) := ggX1_stateOf_X5_isMember
theorem dX1_stateOf_0 : decode cX1_stateOf 0 = .ok (.aload_n 0, 1) := by decide +kernel
theorem dX1_stateOf_1 : decode cX1_stateOf 1 = .ok (.getfield 21, 3) := by decide +kernel
theorem dX1_stateOf_4 : decode cX1_stateOf 4 = .ok (.iload_n 1, 1) := by decide +kernel
theorem dX1_stateOf_5 : decode cX1_stateOf 5 = .ok (.invokestatic 47, 3) := by decide +kernel
theorem dX1_stateOf_8 : decode cX1_stateOf 8 = .ok (.ifCond .eq 5, 3) := by decide +kernel
theorem dX1_stateOf_11 : decode cX1_stateOf 11 = .ok (.iconst 0, 1) := by decide +kernel
theorem dX1_stateOf_12 : decode cX1_stateOf 12 = .ok (.ireturn, 1) := by decide +kernel
theorem dX1_stateOf_13 : decode cX1_stateOf 13 = .ok (.aload_n 0, 1) := by decide +kernel
theorem dX1_stateOf_14 : decode cX1_stateOf 14 = .ok (.getfield 24, 3) := by decide +kernel
theorem dX1_stateOf_17 : decode cX1_stateOf 17 = .ok (.iload_n 1, 1) := by decide +kernel
theorem dX1_stateOf_18 : decode cX1_stateOf 18 = .ok (.invokestatic 47, 3) := by decide +kernel
theorem dX1_stateOf_21 : decode cX1_stateOf 21 = .ok (.ifCond .eq 7, 3) := by decide +kernel
theorem dX1_stateOf_24 : decode cX1_stateOf 24 = .ok (.iconst 2, 1) := by decide +kernel
theorem dX1_stateOf_25 : decode cX1_stateOf 25 = .ok (.goto 4, 3) := by decide +kernel
theorem dX1_stateOf_28 : decode cX1_stateOf 28 = .ok (.iconst 1, 1) := by decide +kernel
theorem dX1_stateOf_29 : decode cX1_stateOf 29 = .ok (.ireturn, 1) := by decide +kernel
theorem dX1_copyFrom_0 : decode cX1_copyFrom 0 = .ok (.aload_n 0, 1) := by decide +kernel
theorem dX1_copyFrom_1 : decode cX1_copyFrom 1 = .ok (.aload_n 1, 1) := by decide +kernel
theorem dX1_copyFrom_2 : decode cX1_copyFrom 2 = .ok (.getfield 9, 3) := by decide +kernel
theorem dX1_copyFrom_5 : decode cX1_copyFrom 5 = .ok (.putfield 9, 3) := by decide +kernel
theorem dX1_copyFrom_8 : decode cX1_copyFrom 8 = .ok (.aload_n 0, 1) := by decide +kernel
theorem dX1_copyFrom_9 : decode cX1_copyFrom 9 = .ok (.aload_n 1, 1) := by decide +kernel
theorem dX1_copyFrom_10 : decode cX1_copyFrom 10 = .ok (.getfield 15, 3) := by decide +kernel
theorem dX1_copyFrom_13 : decode cX1_copyFrom 13 = .ok (.putfield 15, 3) := by decide +kernel
theorem dX1_copyFrom_16 : decode cX1_copyFrom 16 = .ok (.aload_n 0, 1) := by decide +kernel
theorem dX1_copyFrom_17 : decode cX1_copyFrom 17 = .ok (.aload_n 1, 1) := by decide +kernel
theorem dX1_copyFrom_18 : decode cX1_copyFrom 18 = .ok (.getfield 18, 3) := by decide +kernel
theorem dX1_copyFrom_21 : decode cX1_copyFrom 21 = .ok (.putfield 18, 3) := by decide +kernel
theorem dX1_copyFrom_24 : decode cX1_copyFrom 24 = .ok (.aload_n 0, 1) := by decide +kernel
theorem dX1_copyFrom_25 : decode cX1_copyFrom 25 = .ok (.aload_n 1, 1) := by decide +kernel
theorem dX1_copyFrom_26 : decode cX1_copyFrom 26 = .ok (.getfield 21, 3) := by decide +kernel
theorem dX1_copyFrom_29 : decode cX1_copyFrom 29 = .ok (.putfield 21, 3) := by decide +kernel
theorem dX1_copyFrom_32 : decode cX1_copyFrom 32 = .ok (.aload_n 0, 1) := by decide +kernel
theorem dX1_copyFrom_33 : decode cX1_copyFrom 33 = .ok (.aload_n 1, 1) := by decide +kernel
theorem dX1_copyFrom_34 : decode cX1_copyFrom 34 = .ok (.getfield 24, 3) := by decide +kernel
theorem dX1_copyFrom_37 : decode cX1_copyFrom 37 = .ok (.putfield 24, 3) := by decide +kernel
theorem dX1_copyFrom_40 : decode cX1_copyFrom 40 = .ok (.iconst 0, 1) := by decide +kernel
theorem dX1_copyFrom_41 : decode cX1_copyFrom 41 = .ok (.istore_n 2, 1) := by decide +kernel
theorem dX1_copyFrom_42 : decode cX1_copyFrom 42 = .ok (.iload_n 2, 1) := by decide +kernel
theorem dX1_copyFrom_43 : decode cX1_copyFrom 43 = .ok (.bipush 16, 2) := by decide +kernel
theorem dX1_copyFrom_45 : decode cX1_copyFrom 45 = .ok (.if_icmp .ge 69, 3) := by decide +kernel
theorem dX1_copyFrom_48 : decode cX1_copyFrom 48 = .ok (.aload_n 0, 1) := by decide +kernel
theorem dX1_copyFrom_49 : decode cX1_copyFrom 49 = .ok (.getfield 27, 3) := by decide +kernel
theorem dX1_copyFrom_52 : decode cX1_copyFrom 52 = .ok (.iload_n 2, 1) := by decide +kernel
theorem dX1_copyFrom_53 : decode cX1_copyFrom 53 = .ok (.aload_n 1, 1) := by decide +kernel
theorem dX1_copyFrom_54 : decode cX1_copyFrom 54 = .ok (.getfield 27, 3) := by decide +kernel
theorem dX1_copyFrom_57 : decode cX1_copyFrom 57 = .ok (.iload_n 2, 1) := by decide +kernel
theorem dX1_copyFrom_58 : decode cX1_copyFrom 58 = .ok (.iaload, 1) := by decide +kernel
theorem dX1_copyFrom_59 : decode cX1_copyFrom 59 = .ok (.iastore, 1) := by decide +kernel
theorem dX1_copyFrom_60 : decode cX1_copyFrom 60 = .ok (.aload_n 0, 1) := by decide +kernel
theorem dX1_copyFrom_61 : decode cX1_copyFrom 61 = .ok (.getfield 31, 3) := by decide +kernel
theorem dX1_copyFrom_64 : decode cX1_copyFrom 64 = .ok (.iload_n 2, 1) := by decide +kernel
theorem dX1_copyFrom_65 : decode cX1_copyFrom 65 = .ok (.aload_n 1, 1) := by decide +kernel
theorem dX1_copyFrom_66 : decode cX1_copyFrom 66 = .ok (.getfield 31, 3) := by decide +kernel
theorem dX1_copyFrom_69 : decode cX1_copyFrom 69 = .ok (.iload_n 2, 1) := by decide +kernel
theorem dX1_copyFrom_70 : decode cX1_copyFrom 70 = .ok (.iaload, 1) := by decide +kernel
theorem dX1_copyFrom_71 : decode cX1_copyFrom 71 = .ok (.iastore, 1) := by decide +kernel
theorem dX1_copyFrom_72 : decode cX1_copyFrom 72 = .ok (.aload_n 0, 1) := by decide +kernel
theorem dX1_copyFrom_73 : decode cX1_copyFrom 73 = .ok (.getfield 34, 3) := by decide +kernel
theorem dX1_copyFrom_76 : decode cX1_copyFrom 76 = .ok (.iload_n 2, 1) := by decide +kernel
theorem dX1_copyFrom_77 : decode cX1_copyFrom 77 = .ok (.aload_n 1, 1) := by decide +kernel
theorem dX1_copyFrom_78 : decode cX1_copyFrom 78 = .ok (.getfield 34, 3) := by decide +kernel
theorem dX1_copyFrom_81 : decode cX1_copyFrom 81 = .ok (.iload_n 2, 1) := by decide +kernel
theorem dX1_copyFrom_82 : decode cX1_copyFrom 82 = .ok (.iaload, 1) := by decide +kernel
theorem dX1_copyFrom_83 : decode cX1_copyFrom 83 = .ok (.iastore, 1) := by decide +kernel
theorem dX1_copyFrom_84 : decode cX1_copyFrom 84 = .ok (.aload_n 0, 1) := by decide +kernel
theorem dX1_copyFrom_85 : decode cX1_copyFrom 85 = .ok (.getfield 37, 3) := by decide +kernel
theorem dX1_copyFrom_88 : decode cX1_copyFrom 88 = .ok (.iload_n 2, 1) := by decide +kernel
theorem dX1_copyFrom_89 : decode cX1_copyFrom 89 = .ok (.aload_n 1, 1) := by decide +kernel
theorem dX1_copyFrom_90 : decode cX1_copyFrom 90 = .ok (.getfield 37, 3) := by decide +kernel
theorem dX1_copyFrom_93 : decode cX1_copyFrom 93 = .ok (.iload_n 2, 1) := by decide +kernel
theorem dX1_copyFrom_94 : decode cX1_copyFrom 94 = .ok (.iaload, 1) := by decide +kernel
theorem dX1_copyFrom_95 : decode cX1_copyFrom 95 = .ok (.iastore, 1) := by decide +kernel
theorem dX1_copyFrom_96 : decode cX1_copyFrom 96 = .ok (.aload_n 0, 1) := by decide +kernel
theorem dX1_copyFrom_97 : decode cX1_copyFrom 97 = .ok (.getfield 40, 3) := by decide +kernel
theorem dX1_copyFrom_100 : decode cX1_copyFrom 100 = .ok (.iload_n 2, 1) := by decide +kernel
theorem dX1_copyFrom_101 : decode cX1_copyFrom 101 = .ok (.aload_n 1, 1) := by decide +kernel
theorem dX1_copyFrom_102 : decode cX1_copyFrom 102 = .ok (.getfield 40, 3) := by decide +kernel
theorem dX1_copyFrom_105 : decode cX1_copyFrom 105 = .ok (.iload_n 2, 1) := by decide +kernel
theorem dX1_copyFrom_106 : decode cX1_copyFrom 106 = .ok (.iaload, 1) := by decide +kernel
theorem dX1_copyFrom_107 : decode cX1_copyFrom 107 = .ok (.iastore, 1) := by decide +kernel
theorem dX1_copyFrom_108 : decode cX1_copyFrom 108 = .ok (.iinc 2 1, 3) := by decide +kernel
theorem dX1_copyFrom_111 : decode cX1_copyFrom 111 = .ok (.goto (-69), 3) := by decide +kernel
theorem dX1_copyFrom_114 : decode cX1_copyFrom 114 = .ok (.return_, 1) := by decide +kernel
theorem dX2_init_0 : decode cX2_init 0 = .ok (.aload_n 0, 1) := by decide +kernel
theorem dX2_init_1 : decode cX2_init 1 = .ok (.invokespecial 3, 3) := by decide +kernel
theorem dX2_init_4 : decode cX2_init 4 = .ok (.aload_n 0, 1) := by decide +kernel
theorem dX2_init_5 : decode cX2_init 5 = .ok (.iconst 0, 1) := by decide +kernel
theorem dX2_init_6 : decode cX2_init 6 = .ok (.putfield 9, 3) := by decide +kernel
theorem dX2_init_9 : decode cX2_init 9 = .ok (.aload_n 0, 1) := by decide +kernel
theorem dX2_init_10 : decode cX2_init 10 = .ok (.iconst (-1), 1) := by decide +kernel
theorem dX2_init_11 : decode cX2_init 11 = .ok (.putfield 15, 3) := by decide +kernel
theorem dX2_init_14 : decode cX2_init 14 = .ok (.aload_n 0, 1) := by decide +kernel
theorem dX2_init_15 : decode cX2_init 15 = .ok (.aload_n 1, 1) := by decide +kernel
theorem dX2_init_16 : decode cX2_init 16 = .ok (.putfield 18, 3) := by decide +kernel
theorem dX2_init_19 : decode cX2_init 19 = .ok (.return_, 1) := by decide +kernel
set_option maxRecDepth 20000 in
theorem ggX2_read_X2_readItem : GoodIn wsX2_read wsX2_readItem := goodIn_r _ [9, 3, 1, 2, 10, 11, 12, 13, 14, 15, 16, 17, 18, 19, 20, 21, 22, 23, 24, 25, 8, 26, 27, 28, 29, 30, 31, 32, 33, 34, 35, 36, 37, 38, 39, 40, 41, 42, 43, 44, 45, 46, 47, 48, 49, 50, 51, 52, 53, 54, 55, 56, 57, 58, 59, 60, 61, 62, 63, 64, 65, 66, 67, 68, 69] (by decide +kernel) (by decide +kernel)
set_option maxRecDepth 20000 in
theorem gX2_read_X2_readItem : GoodIn wsX2_read (wsV RX2 27 RX2 yX2_readItem wsX2_readItem) := goodIn_app (goodIn_of _ (by decide +kernel)) ggX2_read_X2_readItem
theorem dX2_read_0 : decode cX2_read 0 = .ok (.aload_n 0, 1) := by decide +kernel
theorem dX2_read_1 : decode cX2_read 1 = .ok (.iconst 0, 1) := by decide +kernel
theorem dX2_read_2 : decode cX2_read 2 = .ok (.putfield 9, 3) := by decide +kernel
theorem dX2_read_5 : decode cX2_read 5 = .ok (.aload_n 0, 1) := by decide +kernel
theorem dX2_read_6 : decode cX2_read 6 = .ok (.iconst (-1), 1) := by decide +kernel
theorem dX2_read_7 : decode cX2_read 7 = .ok (.putfield 15, 3) := by decide +kernel
theorem dX2_read_10 : decode cX2_read 10 = .ok (.iconst 0, 1) := by decide +kernel
theorem dX2_read_11 : decode cX2_read 11 = .ok (.istore_n 2, 1) := by decide +kernel
theorem dX2_read_12 : decode cX2_read 12 = .ok (.iload_n 2, 1) := by decide +kernel
theorem dX2_read_13 : decode cX2_read 13 = .ok (.sipush 160, 3) := by decide +kernel
theorem dX2_read_16 : decode cX2_read 16 = .ok (.if_icmp .ge 36, 3) := by decide +kernel
theorem dX2_read_19 : decode cX2_read 19 = .ok (.aload_n 0, 1) := by decide +kernel
theorem dX2_read_20 : decode cX2_read 20 = .ok (.getfield 15, 3) := by decide +kernel
theorem dX2_read_23 : decode cX2_read 23 = .ok (.iconst (-1), 1) := by decide +kernel
theorem dX2_read_24 : decode cX2_read 24 = .ok (.if_icmp .ne 28, 3) := by decide +kernel
theorem dX2_read_27 : decode cX2_read 27 = .ok (.aload_n 0, 1) := by decide +kernel
theorem dX2_read_28 : decode cX2_read 28 = .ok (.getfield 9, 3) := by decide +kernel
theorem dX2_read_31 : decode cX2_read 31 = .ok (.aload_n 0, 1) := by decide +kernel
theorem dX2_read_32 : decode cX2_read 32 = .ok (.getfield 18, 3) := by decide +kernel
theorem dX2_read_35 : decode cX2_read 35 = .ok (.getfield 22, 3) := by decide +kernel
theorem dX2_read_38 : decode cX2_read 38 = .ok (.if_icmp .ge 14, 3) := by decide +kernel
theorem dX2_read_41 : decode cX2_read 41 = .ok (.aload_n 0, 1) := by decide +kernel
theorem dX2_read_42 : decode cX2_read 42 = .ok (.aload_n 1, 1) := by decide +kernel
theorem dX2_read_43 : decode cX2_read 43 = .ok (.invokevirtual 27, 3) := by decide +kernel
theorem dX2_read_46 : decode cX2_read 46 = .ok (.iinc 2 1, 3) := by decide +kernel
theorem dX2_read_49 : decode cX2_read 49 = .ok (.goto (-37), 3) := by decide +kernel
theorem dX2_read_52 : decode cX2_read 52 = .ok (.aload_n 0, 1) := by decide +kernel
theorem dX2_read_53 : decode cX2_read 53 = .ok (.getfield 15, 3) := by decide +kernel
theorem dX2_read_56 : decode cX2_read 56 = .ok (.ireturn, 1) := by decide +kernel
set_option maxRecDepth 20000 in
theorem ggX2_readItem_X3_byteAt : GoodIn wsX2_readItem wsX3_byteAt := goodIn_r _ [8, 9, 10, 53, 54] (by decide +kernel) (by decide +kernel)
set_option maxRecDepth 20000 in
theorem gX2_readItem_X3_byteAt : GoodIn wsX2_readItem (wsV RX2 31 RX3 yX3_byteAt wsX3_byteAt) := goodIn_app (goodIn_of _ (by decide +kernel)) ggX2_readItem_X3_byteAt
set_option maxRecDepth 20000 in
theorem ggX2_readItem_X1_hasRoom : GoodIn wsX2_readItem wsX1_hasRoom := goodIn_r _ [15, 16, 55, 56, 57, 58, 59, 60, 61, 62, 63, 64] (by decide +kernel) (by decide +kernel)
set_option maxRecDepth 20000 in
theorem gX2_readItem_X1_hasRoom : GoodIn wsX2_readItem (wsV RX2 35 RX1 yX1_hasRoom wsX1_hasRoom) := goodIn_app (goodIn_of _ (by decide +kernel)) ggX2_readItem_X1_hasRoom
set_option maxRecDepth 20000 in
theorem ggX2_readItem_X2_readBlock : GoodIn wsX2_readItem wsX2_readBlock := goodIn_r _ [21, 22, 3, 23, 24, 25, 20, 26, 1, 2, 4, 5, 6, 7, 8, 9, 10, 27, 28, 29, 30, 31, 32, 33, 34, 35, 14, 36, 16, 37, 38, 39, 40, 41, 42, 50, 51, 52, 53, 54, 55, 56, 57, 58, 59, 60, 61, 62, 63, 64] (by decide +kernel) (by decide +kernel)
set_option maxRecDepth 20000 in
theorem gX2_readItem_X2_readBlock : GoodIn wsX2_readItem (wsV RX2 41 RX2 yX2_readBlock wsX2_readBlock) := goodIn_app (goodIn_of _ (by decide +kernel)) ggX2_readItem_X2_readBlock
set_option maxRecDepth 20000 in
theorem ggX2_readItem_X2_readShip : GoodIn wsX2_readItem wsX2_readShip := goodIn_r _ [46, 47, 3, 48, 49, 23, 24, 25, 20, 26, 1, 2, 4, 5, 6, 7, 8, 9, 10, 27, 28, 29, 30, 31, 32, 50, 51, 52, 55, 56, 57, 58, 59, 60, 61, 62, 63, 64, 53, 54] (by decide +kernel) (by decide +kernel)
set_option maxRecDepth 20000 in
theorem gX2_readItem_X2_readShip : GoodIn wsX2_readItem (wsV RX2 44 RX2 yX2_readShip wsX2_readShip) := goodIn_app (goodIn_of _ (by decide +kernel)) ggX2_readItem_X2_readShip
theorem dX2_readItem_0 : decode cX2_readItem 0 = .ok (.aload_n 0, 1) := by decide +kernel
theorem dX2_readItem_1 : decode cX2_readItem 1 = .ok (.getfield 18, 3) := by decide +kernel
theorem dX2_readItem_4 : decode cX2_readItem 4 = .ok (.aload_n 0, 1) := by decide +kernel
theorem dX2_readItem_5 : decode cX2_readItem 5 = .ok (.getfield 9, 3) := by decide +kernel
theorem dX2_readItem_8 : decode cX2_readItem 8 = .ok (.invokevirtual 31, 3) := by decide +kernel
theorem dX2_readItem_11 : decode cX2_readItem 11 = .ok (.istore_n 2, 1) := by decide +kernel
theorem dX2_readItem_12 : decode cX2_readItem 12 = .ok (.iload_n 2, 1) := by decide +kernel
theorem dX2_readItem_13 : decode cX2_readItem 13 = .ok (.bipush 98, 2) := by decide +kernel
theorem dX2_readItem_15 : decode cX2_readItem 15 = .ok (.if_icmp .ne 28, 3) := by decide +kernel
theorem dX2_readItem_18 : decode cX2_readItem 18 = .ok (.aload_n 1, 1) := by decide +kernel
theorem dX2_readItem_19 : decode cX2_readItem 19 = .ok (.invokevirtual 35, 3) := by decide +kernel
theorem dX2_readItem_22 : decode cX2_readItem 22 = .ok (.ifCond .eq 21, 3) := by decide +kernel
theorem dX2_readItem_25 : decode cX2_readItem 25 = .ok (.aload_n 0, 1) := by decide +kernel
theorem dX2_readItem_26 : decode cX2_readItem 26 = .ok (.dup, 1) := by decide +kernel
theorem dX2_readItem_27 : decode cX2_readItem 27 = .ok (.getfield 9, 3) := by decide +kernel
theorem dX2_readItem_30 : decode cX2_readItem 30 = .ok (.iconst 1, 1) := by decide +kernel
theorem dX2_readItem_31 : decode cX2_readItem 31 = .ok (.iadd, 1) := by decide +kernel
theorem dX2_readItem_32 : decode cX2_readItem 32 = .ok (.putfield 9, 3) := by decide +kernel
theorem dX2_readItem_35 : decode cX2_readItem 35 = .ok (.aload_n 0, 1) := by decide +kernel
theorem dX2_readItem_36 : decode cX2_readItem 36 = .ok (.aload_n 1, 1) := by decide +kernel
theorem dX2_readItem_37 : decode cX2_readItem 37 = .ok (.invokevirtual 41, 3) := by decide +kernel
theorem dX2_readItem_40 : decode cX2_readItem 40 = .ok (.goto 35, 3) := by decide +kernel
theorem dX2_readItem_43 : decode cX2_readItem 43 = .ok (.iload_n 2, 1) := by decide +kernel
theorem dX2_readItem_44 : decode cX2_readItem 44 = .ok (.bipush 115, 2) := by decide +kernel
theorem dX2_readItem_46 : decode cX2_readItem 46 = .ok (.if_icmp .ne 21, 3) := by decide +kernel
theorem dX2_readItem_49 : decode cX2_readItem 49 = .ok (.aload_n 0, 1) := by decide +kernel
theorem dX2_readItem_50 : decode cX2_readItem 50 = .ok (.dup, 1) := by decide +kernel
theorem dX2_readItem_51 : decode cX2_readItem 51 = .ok (.getfield 9, 3) := by decide +kernel
theorem dX2_readItem_54 : decode cX2_readItem 54 = .ok (.iconst 1, 1) := by decide +kernel
theorem dX2_readItem_55 : decode cX2_readItem 55 = .ok (.iadd, 1) := by decide +kernel
theorem dX2_readItem_56 : decode cX2_readItem 56 = .ok (.putfield 9, 3) := by decide +kernel
theorem dX2_readItem_59 : decode cX2_readItem 59 = .ok (.aload_n 0, 1) := by decide +kernel
theorem dX2_readItem_60 : decode cX2_readItem 60 = .ok (.aload_n 1, 1) := by decide +kernel
theorem dX2_readItem_61 : decode cX2_readItem 61 = .ok (.invokevirtual 44, 3) := by decide +kernel
theorem dX2_readItem_64 : decode cX2_readItem 64 = .ok (.goto 11, 3) := by decide +kernel
theorem dX2_readItem_67 : decode cX2_readItem 67 = .ok (.aload_n 0, 1) := by decide +kernel
theorem dX2_readItem_68 : decode cX2_readItem 68 = .ok (.aload_n 0, 1) := by decide +kernel
theorem dX2_readItem_69 : decode cX2_readItem 69 = .ok (.getfield 9, 3) := by decide +kernel
theorem dX2_readItem_72 : decode cX2_readItem 72 = .ok (.putfield 15, 3) := by decide +kernel
theorem dX2_readItem_75 : decode cX2_readItem 75 = .ok (.return_, 1) := by decide +kernel
set_option maxRecDepth 20000 in
theorem ggX2_readBlock_X2_readNumber : GoodIn wsX2_readBlock wsX2_readNumber := goodIn_r _ [7, 2, 8, 9, 10, 11, 12, 13, 14, 15, 16, 17, 18, 6, 19, 20, 21, 22, 35, 36, 37, 38, 39] (by decide +kernel) (by decide +kernel)
set_option maxRecDepth 20000 in
theorem gX2_readBlock_X2_readNumber : GoodIn wsX2_readBlock (wsV RX2 47 RX2 yX2_readNumber wsX2_readNumber) := goodIn_app (goodIn_of _ (by decide +kernel)) ggX2_readBlock_X2_readNumber
set_option maxRecDepth 20000 in
theorem ggX2_readBlock_X1_add : GoodIn wsX2_readBlock wsX1_add := goodIn_r _ [27, 28, 29, 30, 31, 32, 33, 34, 40, 41, 42, 43, 44, 45, 46, 47, 48, 49] (by decide +kernel) (by decide +kernel)
set_option maxRecDepth 20000 in
theorem gX2_readBlock_X1_add : GoodIn wsX2_readBlock (wsV RX2 52 RX1 yX1_add wsX1_add) := goodIn_app (goodIn_of _ (by decide +kernel)) ggX2_readBlock_X1_add
theorem dX2_readBlock_0 : decode cX2_readBlock 0 = .ok (.aload_n 0, 1) := by decide +kernel
theorem dX2_readBlock_1 : decode cX2_readBlock 1 = .ok (.iconst 3, 1) := by decide +kernel
theorem dX2_readBlock_2 : decode cX2_readBlock 2 = .ok (.iconst 0, 1) := by decide +kernel
theorem dX2_readBlock_3 : decode cX2_readBlock 3 = .ok (.sipush 400, 3) := by decide +kernel
theorem dX2_readBlock_6 : decode cX2_readBlock 6 = .ok (.bipush 44, 2) := by decide +kernel
theorem dX2_readBlock_8 : decode cX2_readBlock 8 = .ok (.invokevirtual 47, 3) := by decide +kernel
theorem dX2_readBlock_11 : decode cX2_readBlock 11 = .ok (.istore_n 2, 1) := by decide +kernel
theorem dX2_readBlock_12 : decode cX2_readBlock 12 = .ok (.aload_n 0, 1) := by decide +kernel
theorem dX2_readBlock_13 : decode cX2_readBlock 13 = .ok (.iconst 3, 1) := by decide +kernel
theorem dX2_readBlock_14 : decode cX2_readBlock 14 = .ok (.iconst 1, 1) := by decide +kernel
theorem dX2_readBlock_15 : decode cX2_readBlock 15 = .ok (.bipush 100, 2) := by decide +kernel
theorem dX2_readBlock_17 : decode cX2_readBlock 17 = .ok (.bipush 44, 2) := by decide +kernel
theorem dX2_readBlock_19 : decode cX2_readBlock 19 = .ok (.invokevirtual 47, 3) := by decide +kernel
theorem dX2_readBlock_22 : decode cX2_readBlock 22 = .ok (.istore_n 3, 1) := by decide +kernel
theorem dX2_readBlock_23 : decode cX2_readBlock 23 = .ok (.aload_n 0, 1) := by decide +kernel
theorem dX2_readBlock_24 : decode cX2_readBlock 24 = .ok (.iconst 2, 1) := by decide +kernel
theorem dX2_readBlock_25 : decode cX2_readBlock 25 = .ok (.bipush (-50), 2) := by decide +kernel
theorem dX2_readBlock_27 : decode cX2_readBlock 27 = .ok (.bipush 50, 2) := by decide +kernel
theorem dX2_readBlock_29 : decode cX2_readBlock 29 = .ok (.bipush 44, 2) := by decide +kernel
theorem dX2_readBlock_31 : decode cX2_readBlock 31 = .ok (.invokevirtual 47, 3) := by decide +kernel
theorem dX2_readBlock_34 : decode cX2_readBlock 34 = .ok (.istore 4, 2) := by decide +kernel
theorem dX2_readBlock_36 : decode cX2_readBlock 36 = .ok (.aload_n 0, 1) := by decide +kernel
theorem dX2_readBlock_37 : decode cX2_readBlock 37 = .ok (.iconst 5, 1) := by decide +kernel
theorem dX2_readBlock_38 : decode cX2_readBlock 38 = .ok (.iconst 1, 1) := by decide +kernel
theorem dX2_readBlock_39 : decode cX2_readBlock 39 = .ok (.ldc 51, 2) := by decide +kernel
theorem dX2_readBlock_41 : decode cX2_readBlock 41 = .ok (.bipush 59, 2) := by decide +kernel
theorem dX2_readBlock_43 : decode cX2_readBlock 43 = .ok (.invokevirtual 47, 3) := by decide +kernel
theorem dX2_readBlock_46 : decode cX2_readBlock 46 = .ok (.istore 5, 2) := by decide +kernel
theorem dX2_readBlock_48 : decode cX2_readBlock 48 = .ok (.aload_n 0, 1) := by decide +kernel
theorem dX2_readBlock_49 : decode cX2_readBlock 49 = .ok (.getfield 15, 3) := by decide +kernel
theorem dX2_readBlock_52 : decode cX2_readBlock 52 = .ok (.iconst (-1), 1) := by decide +kernel
theorem dX2_readBlock_53 : decode cX2_readBlock 53 = .ok (.if_icmp .ne 14, 3) := by decide +kernel
theorem dX2_readBlock_56 : decode cX2_readBlock 56 = .ok (.aload_n 1, 1) := by decide +kernel
theorem dX2_readBlock_57 : decode cX2_readBlock 57 = .ok (.iload_n 2, 1) := by decide +kernel
theorem dX2_readBlock_58 : decode cX2_readBlock 58 = .ok (.iload_n 3, 1) := by decide +kernel
theorem dX2_readBlock_59 : decode cX2_readBlock 59 = .ok (.iload 4, 2) := by decide +kernel
theorem dX2_readBlock_61 : decode cX2_readBlock 61 = .ok (.iload 5, 2) := by decide +kernel
theorem dX2_readBlock_63 : decode cX2_readBlock 63 = .ok (.invokevirtual 52, 3) := by decide +kernel
theorem dX2_readBlock_66 : decode cX2_readBlock 66 = .ok (.pop, 1) := by decide +kernel
theorem dX2_readBlock_67 : decode cX2_readBlock 67 = .ok (.return_, 1) := by decide +kernel
set_option maxRecDepth 20000 in
theorem ggX2_readShip_X2_readNumber : GoodIn wsX2_readShip wsX2_readNumber := goodIn_r _ [9, 2, 10, 11, 12, 13, 14, 15, 16, 17, 18, 19, 20, 8, 21, 22, 23, 24, 25, 26, 27, 38, 39] (by decide +kernel) (by decide +kernel)
set_option maxRecDepth 20000 in
theorem gX2_readShip_X2_readNumber : GoodIn wsX2_readShip (wsV RX2 47 RX2 yX2_readNumber wsX2_readNumber) := goodIn_app (goodIn_of _ (by decide +kernel)) ggX2_readShip_X2_readNumber
theorem dX2_readShip_0 : decode cX2_readShip 0 = .ok (.aload_n 0, 1) := by decide +kernel
theorem dX2_readShip_1 : decode cX2_readShip 1 = .ok (.bipush 6, 2) := by decide +kernel
theorem dX2_readShip_3 : decode cX2_readShip 3 = .ok (.iconst 1, 1) := by decide +kernel
theorem dX2_readShip_4 : decode cX2_readShip 4 = .ok (.ldc 55, 2) := by decide +kernel
theorem dX2_readShip_6 : decode cX2_readShip 6 = .ok (.bipush 44, 2) := by decide +kernel
theorem dX2_readShip_8 : decode cX2_readShip 8 = .ok (.invokevirtual 47, 3) := by decide +kernel
theorem dX2_readShip_11 : decode cX2_readShip 11 = .ok (.istore_n 2, 1) := by decide +kernel
theorem dX2_readShip_12 : decode cX2_readShip 12 = .ok (.aload_n 0, 1) := by decide +kernel
theorem dX2_readShip_13 : decode cX2_readShip 13 = .ok (.iconst 3, 1) := by decide +kernel
theorem dX2_readShip_14 : decode cX2_readShip 14 = .ok (.iconst 0, 1) := by decide +kernel
theorem dX2_readShip_15 : decode cX2_readShip 15 = .ok (.sipush 400, 3) := by decide +kernel
theorem dX2_readShip_18 : decode cX2_readShip 18 = .ok (.bipush 59, 2) := by decide +kernel
theorem dX2_readShip_20 : decode cX2_readShip 20 = .ok (.invokevirtual 47, 3) := by decide +kernel
theorem dX2_readShip_23 : decode cX2_readShip 23 = .ok (.istore_n 3, 1) := by decide +kernel
theorem dX2_readShip_24 : decode cX2_readShip 24 = .ok (.aload_n 0, 1) := by decide +kernel
theorem dX2_readShip_25 : decode cX2_readShip 25 = .ok (.getfield 15, 3) := by decide +kernel
theorem dX2_readShip_28 : decode cX2_readShip 28 = .ok (.iconst (-1), 1) := by decide +kernel
theorem dX2_readShip_29 : decode cX2_readShip 29 = .ok (.if_icmp .ne 13, 3) := by decide +kernel
theorem dX2_readShip_32 : decode cX2_readShip 32 = .ok (.aload_n 1, 1) := by decide +kernel
theorem dX2_readShip_33 : decode cX2_readShip 33 = .ok (.iload_n 2, 1) := by decide +kernel
theorem dX2_readShip_34 : decode cX2_readShip 34 = .ok (.putfield 56, 3) := by decide +kernel
theorem dX2_readShip_37 : decode cX2_readShip 37 = .ok (.aload_n 1, 1) := by decide +kernel
theorem dX2_readShip_38 : decode cX2_readShip 38 = .ok (.iload_n 3, 1) := by decide +kernel
theorem dX2_readShip_39 : decode cX2_readShip 39 = .ok (.putfield 59, 3) := by decide +kernel
theorem dX2_readShip_42 : decode cX2_readShip 42 = .ok (.return_, 1) := by decide +kernel
set_option maxRecDepth 20000 in
theorem ggX2_readNumber_X3_byteAt : GoodIn wsX2_readNumber wsX3_byteAt := goodIn_r _ [8, 9, 10, 21, 22] (by decide +kernel) (by decide +kernel)
set_option maxRecDepth 20000 in
theorem gX2_readNumber_X3_byteAt : GoodIn wsX2_readNumber (wsV RX2 31 RX3 yX3_byteAt wsX3_byteAt) := goodIn_app (goodIn_of _ (by decide +kernel)) ggX2_readNumber_X3_byteAt
set_option maxRecDepth 20000 in
theorem ggX2_readNumber_X2_isDigit : GoodIn wsX2_readNumber wsX2_isDigit := goodIn_r _ [14] (by decide +kernel) (by decide +kernel)
set_option maxRecDepth 20000 in
theorem gX2_readNumber_X2_isDigit : GoodIn wsX2_readNumber (va_wsS RX2 62 yX2_isDigit wsX2_isDigit) := goodIn_app (goodIn_of _ (by decide +kernel)) ggX2_readNumber_X2_isDigit
set_option maxRecDepth 20000 in
theorem ggX2_readNumber_X5_isIn : GoodIn wsX2_readNumber wsX5_isIn := goodIn_r _ [17] (by decide +kernel) (by decide +kernel)
set_option maxRecDepth 20000 in
theorem gX2_readNumber_X5_isIn_n66 : GoodIn wsX2_readNumber (wsX5_isIn) := ggX2_readNumber_X5_isIn
theorem dX2_readNumber_0 : decode cX2_readNumber 0 = .ok (.aload_n 0, 1) := by decide +kernel
theorem dX2_readNumber_1 : decode cX2_readNumber 1 = .ok (.getfield 15, 3) := by decide +kernel
theorem dX2_readNumber_4 : decode cX2_readNumber 4 = .ok (.iconst (-1), 1) := by decide +kernel
theorem dX2_readNumber_5 : decode cX2_readNumber 5 = .ok (.if_icmp .eq 5, 3) := by decide +kernel
theorem dX2_readNumber_8 : decode cX2_readNumber 8 = .ok (.iconst 0, 1) := by decide +kernel
theorem dX2_readNumber_9 : decode cX2_readNumber 9 = .ok (.ireturn, 1) := by decide +kernel
theorem dX2_readNumber_10 : decode cX2_readNumber 10 = .ok (.iload_n 2, 1) := by decide +kernel
theorem dX2_readNumber_11 : decode cX2_readNumber 11 = .ok (.ifCond .ge 23, 3) := by decide +kernel
theorem dX2_readNumber_14 : decode cX2_readNumber 14 = .ok (.aload_n 0, 1) := by decide +kernel
theorem dX2_readNumber_15 : decode cX2_readNumber 15 = .ok (.getfield 18, 3) := by decide +kernel
theorem dX2_readNumber_18 : decode cX2_readNumber 18 = .ok (.aload_n 0, 1) := by decide +kernel
theorem dX2_readNumber_19 : decode cX2_readNumber 19 = .ok (.getfield 9, 3) := by decide +kernel
theorem dX2_readNumber_22 : decode cX2_readNumber 22 = .ok (.invokevirtual 31, 3) := by decide +kernel
theorem dX2_readNumber_25 : decode cX2_readNumber 25 = .ok (.bipush 45, 2) := by decide +kernel
theorem dX2_readNumber_27 : decode cX2_readNumber 27 = .ok (.if_icmp .ne 7, 3) := by decide +kernel
theorem dX2_readNumber_30 : decode cX2_readNumber 30 = .ok (.iconst 1, 1) := by decide +kernel
theorem dX2_readNumber_31 : decode cX2_readNumber 31 = .ok (.goto 4, 3) := by decide +kernel
theorem dX2_readNumber_34 : decode cX2_readNumber 34 = .ok (.iconst 0, 1) := by decide +kernel
theorem dX2_readNumber_35 : decode cX2_readNumber 35 = .ok (.istore 5, 2) := by decide +kernel
theorem dX2_readNumber_37 : decode cX2_readNumber 37 = .ok (.iload 5, 2) := by decide +kernel
theorem dX2_readNumber_39 : decode cX2_readNumber 39 = .ok (.ifCond .eq 13, 3) := by decide +kernel
theorem dX2_readNumber_42 : decode cX2_readNumber 42 = .ok (.aload_n 0, 1) := by decide +kernel
theorem dX2_readNumber_43 : decode cX2_readNumber 43 = .ok (.dup, 1) := by decide +kernel
theorem dX2_readNumber_44 : decode cX2_readNumber 44 = .ok (.getfield 9, 3) := by decide +kernel
theorem dX2_readNumber_47 : decode cX2_readNumber 47 = .ok (.iconst 1, 1) := by decide +kernel
theorem dX2_readNumber_48 : decode cX2_readNumber 48 = .ok (.iadd, 1) := by decide +kernel
theorem dX2_readNumber_49 : decode cX2_readNumber 49 = .ok (.putfield 9, 3) := by decide +kernel
theorem dX2_readNumber_52 : decode cX2_readNumber 52 = .ok (.aload_n 0, 1) := by decide +kernel
theorem dX2_readNumber_53 : decode cX2_readNumber 53 = .ok (.getfield 9, 3) := by decide +kernel
theorem dX2_readNumber_56 : decode cX2_readNumber 56 = .ok (.istore 6, 2) := by decide +kernel
theorem dX2_readNumber_58 : decode cX2_readNumber 58 = .ok (.iconst 0, 1) := by decide +kernel
theorem dX2_readNumber_59 : decode cX2_readNumber 59 = .ok (.istore 7, 2) := by decide +kernel
theorem dX2_readNumber_61 : decode cX2_readNumber 61 = .ok (.aload_n 0, 1) := by decide +kernel
theorem dX2_readNumber_62 : decode cX2_readNumber 62 = .ok (.getfield 9, 3) := by decide +kernel
theorem dX2_readNumber_65 : decode cX2_readNumber 65 = .ok (.iload 6, 2) := by decide +kernel
theorem dX2_readNumber_67 : decode cX2_readNumber 67 = .ok (.iload_n 1, 1) := by decide +kernel
theorem dX2_readNumber_68 : decode cX2_readNumber 68 = .ok (.iadd, 1) := by decide +kernel
theorem dX2_readNumber_69 : decode cX2_readNumber 69 = .ok (.if_icmp .ge 55, 3) := by decide +kernel
theorem dX2_readNumber_72 : decode cX2_readNumber 72 = .ok (.aload_n 0, 1) := by decide +kernel
theorem dX2_readNumber_73 : decode cX2_readNumber 73 = .ok (.getfield 18, 3) := by decide +kernel
theorem dX2_readNumber_76 : decode cX2_readNumber 76 = .ok (.aload_n 0, 1) := by decide +kernel
theorem dX2_readNumber_77 : decode cX2_readNumber 77 = .ok (.getfield 9, 3) := by decide +kernel
theorem dX2_readNumber_80 : decode cX2_readNumber 80 = .ok (.invokevirtual 31, 3) := by decide +kernel
theorem dX2_readNumber_83 : decode cX2_readNumber 83 = .ok (.invokestatic 62, 3) := by decide +kernel
theorem dX2_readNumber_86 : decode cX2_readNumber 86 = .ok (.ifCond .eq 38, 3) := by decide +kernel
theorem dX2_readNumber_89 : decode cX2_readNumber 89 = .ok (.bipush 10, 2) := by decide +kernel
theorem dX2_readNumber_91 : decode cX2_readNumber 91 = .ok (.iload 7, 2) := by decide +kernel
theorem dX2_readNumber_93 : decode cX2_readNumber 93 = .ok (.imul, 1) := by decide +kernel
theorem dX2_readNumber_94 : decode cX2_readNumber 94 = .ok (.aload_n 0, 1) := by decide +kernel
theorem dX2_readNumber_95 : decode cX2_readNumber 95 = .ok (.getfield 18, 3) := by decide +kernel
theorem dX2_readNumber_98 : decode cX2_readNumber 98 = .ok (.aload_n 0, 1) := by decide +kernel
theorem dX2_readNumber_99 : decode cX2_readNumber 99 = .ok (.getfield 9, 3) := by decide +kernel
theorem dX2_readNumber_102 : decode cX2_readNumber 102 = .ok (.invokevirtual 31, 3) := by decide +kernel
theorem dX2_readNumber_105 : decode cX2_readNumber 105 = .ok (.iadd, 1) := by decide +kernel
theorem dX2_readNumber_106 : decode cX2_readNumber 106 = .ok (.bipush 48, 2) := by decide +kernel
theorem dX2_readNumber_108 : decode cX2_readNumber 108 = .ok (.isub, 1) := by decide +kernel
theorem dX2_readNumber_109 : decode cX2_readNumber 109 = .ok (.istore 7, 2) := by decide +kernel
theorem dX2_readNumber_111 : decode cX2_readNumber 111 = .ok (.aload_n 0, 1) := by decide +kernel
theorem dX2_readNumber_112 : decode cX2_readNumber 112 = .ok (.dup, 1) := by decide +kernel
theorem dX2_readNumber_113 : decode cX2_readNumber 113 = .ok (.getfield 9, 3) := by decide +kernel
theorem dX2_readNumber_116 : decode cX2_readNumber 116 = .ok (.iconst 1, 1) := by decide +kernel
theorem dX2_readNumber_117 : decode cX2_readNumber 117 = .ok (.iadd, 1) := by decide +kernel
theorem dX2_readNumber_118 : decode cX2_readNumber 118 = .ok (.putfield 9, 3) := by decide +kernel
theorem dX2_readNumber_121 : decode cX2_readNumber 121 = .ok (.goto (-60), 3) := by decide +kernel
theorem dX2_readNumber_124 : decode cX2_readNumber 124 = .ok (.iload 5, 2) := by decide +kernel
theorem dX2_readNumber_126 : decode cX2_readNumber 126 = .ok (.ifCond .eq 9, 3) := by decide +kernel
theorem dX2_readNumber_129 : decode cX2_readNumber 129 = .ok (.iload 7, 2) := by decide +kernel
theorem dX2_readNumber_131 : decode cX2_readNumber 131 = .ok (.ineg, 1) := by decide +kernel
theorem dX2_readNumber_132 : decode cX2_readNumber 132 = .ok (.goto 5, 3) := by decide +kernel
theorem dX2_readNumber_135 : decode cX2_readNumber 135 = .ok (.iload 7, 2) := by decide +kernel
theorem dX2_readNumber_137 : decode cX2_readNumber 137 = .ok (.istore 8, 2) := by decide +kernel
theorem dX2_readNumber_139 : decode cX2_readNumber 139 = .ok (.aload_n 0, 1) := by decide +kernel
theorem dX2_readNumber_140 : decode cX2_readNumber 140 = .ok (.getfield 18, 3) := by decide +kernel
theorem dX2_readNumber_143 : decode cX2_readNumber 143 = .ok (.aload_n 0, 1) := by decide +kernel
theorem dX2_readNumber_144 : decode cX2_readNumber 144 = .ok (.getfield 9, 3) := by decide +kernel
theorem dX2_readNumber_147 : decode cX2_readNumber 147 = .ok (.invokevirtual 31, 3) := by decide +kernel
theorem dX2_readNumber_150 : decode cX2_readNumber 150 = .ok (.istore 9, 2) := by decide +kernel
theorem dX2_readNumber_152 : decode cX2_readNumber 152 = .ok (.aload_n 0, 1) := by decide +kernel
theorem dX2_readNumber_153 : decode cX2_readNumber 153 = .ok (.getfield 9, 3) := by decide +kernel
theorem dX2_readNumber_156 : decode cX2_readNumber 156 = .ok (.iload 6, 2) := by decide +kernel
theorem dX2_readNumber_158 : decode cX2_readNumber 158 = .ok (.if_icmp .eq 11, 3) := by decide +kernel
theorem dX2_readNumber_161 : decode cX2_readNumber 161 = .ok (.iload 9, 2) := by decide +kernel
theorem dX2_readNumber_163 : decode cX2_readNumber 163 = .ok (.invokestatic 62, 3) := by decide +kernel
theorem dX2_readNumber_166 : decode cX2_readNumber 166 = .ok (.ifCond .eq 14, 3) := by decide +kernel
theorem dX2_readNumber_169 : decode cX2_readNumber 169 = .ok (.aload_n 0, 1) := by decide +kernel
theorem dX2_readNumber_170 : decode cX2_readNumber 170 = .ok (.aload_n 0, 1) := by decide +kernel
theorem dX2_readNumber_171 : decode cX2_readNumber 171 = .ok (.getfield 9, 3) := by decide +kernel
theorem dX2_readNumber_174 : decode cX2_readNumber 174 = .ok (.putfield 15, 3) := by decide +kernel
theorem dX2_readNumber_177 : decode cX2_readNumber 177 = .ok (.goto 50, 3) := by decide +kernel
theorem dX2_readNumber_180 : decode cX2_readNumber 180 = .ok (.iload 8, 2) := by decide +kernel
theorem dX2_readNumber_182 : decode cX2_readNumber 182 = .ok (.iload_n 2, 1) := by decide +kernel
theorem dX2_readNumber_183 : decode cX2_readNumber 183 = .ok (.iload_n 3, 1) := by decide +kernel
theorem dX2_readNumber_184 : decode cX2_readNumber 184 = .ok (.invokestatic 66, 3) := by decide +kernel
theorem dX2_readNumber_187 : decode cX2_readNumber 187 = .ok (.ifCond .ne 12, 3) := by decide +kernel
theorem dX2_readNumber_190 : decode cX2_readNumber 190 = .ok (.aload_n 0, 1) := by decide +kernel
theorem dX2_readNumber_191 : decode cX2_readNumber 191 = .ok (.iload 6, 2) := by decide +kernel
theorem dX2_readNumber_193 : decode cX2_readNumber 193 = .ok (.putfield 15, 3) := by decide +kernel
theorem dX2_readNumber_196 : decode cX2_readNumber 196 = .ok (.goto 31, 3) := by decide +kernel
theorem dX2_readNumber_199 : decode cX2_readNumber 199 = .ok (.iload 9, 2) := by decide +kernel
theorem dX2_readNumber_201 : decode cX2_readNumber 201 = .ok (.iload 4, 2) := by decide +kernel
theorem dX2_readNumber_203 : decode cX2_readNumber 203 = .ok (.if_icmp .eq 14, 3) := by decide +kernel
theorem dX2_readNumber_206 : decode cX2_readNumber 206 = .ok (.aload_n 0, 1) := by decide +kernel
theorem dX2_readNumber_207 : decode cX2_readNumber 207 = .ok (.aload_n 0, 1) := by decide +kernel
theorem dX2_readNumber_208 : decode cX2_readNumber 208 = .ok (.getfield 9, 3) := by decide +kernel
theorem dX2_readNumber_211 : decode cX2_readNumber 211 = .ok (.putfield 15, 3) := by decide +kernel
theorem dX2_readNumber_214 : decode cX2_readNumber 214 = .ok (.goto 13, 3) := by decide +kernel
theorem dX2_readNumber_217 : decode cX2_readNumber 217 = .ok (.aload_n 0, 1) := by decide +kernel
theorem dX2_readNumber_218 : decode cX2_readNumber 218 = .ok (.dup, 1) := by decide +kernel
theorem dX2_readNumber_219 : decode cX2_readNumber 219 = .ok (.getfield 9, 3) := by decide +kernel
theorem dX2_readNumber_222 : decode cX2_readNumber 222 = .ok (.iconst 1, 1) := by decide +kernel
theorem dX2_readNumber_223 : decode cX2_readNumber 223 = .ok (.iadd, 1) := by decide +kernel
theorem dX2_readNumber_224 : decode cX2_readNumber 224 = .ok (.putfield 9, 3) := by decide +kernel
theorem dX2_readNumber_227 : decode cX2_readNumber 227 = .ok (.iload 8, 2) := by decide +kernel
theorem dX2_readNumber_229 : decode cX2_readNumber 229 = .ok (.ireturn, 1) := by decide +kernel
theorem dX2_isDigit_0 : decode cX2_isDigit 0 = .ok (.iload_n 0, 1) := by decide +kernel
theorem dX2_isDigit_1 : decode cX2_isDigit 1 = .ok (.bipush 48, 2) := by decide +kernel
theorem dX2_isDigit_3 : decode cX2_isDigit 3 = .ok (.if_icmp .lt 13, 3) := by decide +kernel
theorem dX2_isDigit_6 : decode cX2_isDigit 6 = .ok (.iload_n 0, 1) := by decide +kernel
theorem dX2_isDigit_7 : decode cX2_isDigit 7 = .ok (.bipush 57, 2) := by decide +kernel
theorem dX2_isDigit_9 : decode cX2_isDigit 9 = .ok (.if_icmp .gt 7, 3) := by decide +kernel
theorem dX2_isDigit_12 : decode cX2_isDigit 12 = .ok (.iconst 1, 1) := by decide +kernel
theorem dX2_isDigit_13 : decode cX2_isDigit 13 = .ok (.goto 4, 3) := by decide +kernel
theorem dX2_isDigit_16 : decode cX2_isDigit 16 = .ok (.iconst 0, 1) := by decide +kernel
theorem dX2_isDigit_17 : decode cX2_isDigit 17 = .ok (.ireturn, 1) := by decide +kernel
theorem dX3_init_0 : decode cX3_init 0 = .ok (.aload_n 0, 1) := by decide +kernel
theorem dX3_init_1 : decode cX3_init 1 = .ok (.invokespecial 3, 3) := by decide +kernel
theorem dX3_init_4 : decode cX3_init 4 = .ok (.aload_n 0, 1) := by decide +kernel
theorem dX3_init_5 : decode cX3_init 5 = .ok (.iconst 0, 1) := by decide +kernel
theorem dX3_init_6 : decode cX3_init 6 = .ok (.putfield 9, 3) := by decide +kernel
theorem dX3_init_9 : decode cX3_init 9 = .ok (.aload_n 0, 1) := by decide +kernel
theorem dX3_init_10 : decode cX3_init 10 = .ok (.sipush 160, 3) := by decide +kernel
theorem dX3_init_13 : decode cX3_init 13 = .ok (.newarray .byte, 2) := by decide +kernel
theorem dX3_init_15 : decode cX3_init 15 = .ok (.putfield 15, 3) := by decide +kernel
theorem dX3_init_18 : decode cX3_init 18 = .ok (.return_, 1) := by decide +kernel
theorem dX3_add_0 : decode cX3_add 0 = .ok (.aload_n 0, 1) := by decide +kernel
theorem dX3_add_1 : decode cX3_add 1 = .ok (.getfield 9, 3) := by decide +kernel
theorem dX3_add_4 : decode cX3_add 4 = .ok (.ifCond .lt 34, 3) := by decide +kernel
theorem dX3_add_7 : decode cX3_add 7 = .ok (.aload_n 0, 1) := by decide +kernel
theorem dX3_add_8 : decode cX3_add 8 = .ok (.getfield 9, 3) := by decide +kernel
theorem dX3_add_11 : decode cX3_add 11 = .ok (.sipush 160, 3) := by decide +kernel
theorem dX3_add_14 : decode cX3_add 14 = .ok (.if_icmp .ge 24, 3) := by decide +kernel
theorem dX3_add_17 : decode cX3_add 17 = .ok (.aload_n 0, 1) := by decide +kernel
theorem dX3_add_18 : decode cX3_add 18 = .ok (.getfield 15, 3) := by decide +kernel
theorem dX3_add_21 : decode cX3_add 21 = .ok (.aload_n 0, 1) := by decide +kernel
theorem dX3_add_22 : decode cX3_add 22 = .ok (.getfield 9, 3) := by decide +kernel
theorem dX3_add_25 : decode cX3_add 25 = .ok (.iload_n 1, 1) := by decide +kernel
theorem dX3_add_26 : decode cX3_add 26 = .ok (.i2b, 1) := by decide +kernel
theorem dX3_add_27 : decode cX3_add 27 = .ok (.bastore, 1) := by decide +kernel
theorem dX3_add_28 : decode cX3_add 28 = .ok (.aload_n 0, 1) := by decide +kernel
theorem dX3_add_29 : decode cX3_add 29 = .ok (.dup, 1) := by decide +kernel
theorem dX3_add_30 : decode cX3_add 30 = .ok (.getfield 9, 3) := by decide +kernel
theorem dX3_add_33 : decode cX3_add 33 = .ok (.iconst 1, 1) := by decide +kernel
theorem dX3_add_34 : decode cX3_add 34 = .ok (.iadd, 1) := by decide +kernel
theorem dX3_add_35 : decode cX3_add 35 = .ok (.putfield 9, 3) := by decide +kernel
theorem dX3_add_38 : decode cX3_add 38 = .ok (.return_, 1) := by decide +kernel
theorem dX3_byteAt_0 : decode cX3_byteAt 0 = .ok (.iload_n 1, 1) := by decide +kernel
theorem dX3_byteAt_1 : decode cX3_byteAt 1 = .ok (.ifCond .lt 27, 3) := by decide +kernel
theorem dX3_byteAt_4 : decode cX3_byteAt 4 = .ok (.iload_n 1, 1) := by decide +kernel
theorem dX3_byteAt_5 : decode cX3_byteAt 5 = .ok (.aload_n 0, 1) := by decide +kernel
theorem dX3_byteAt_6 : decode cX3_byteAt 6 = .ok (.getfield 9, 3) := by decide +kernel
theorem dX3_byteAt_9 : decode cX3_byteAt 9 = .ok (.if_icmp .ge 19, 3) := by decide +kernel
theorem dX3_byteAt_12 : decode cX3_byteAt 12 = .ok (.iload_n 1, 1) := by decide +kernel
theorem dX3_byteAt_13 : decode cX3_byteAt 13 = .ok (.sipush 160, 3) := by decide +kernel
theorem dX3_byteAt_16 : decode cX3_byteAt 16 = .ok (.if_icmp .ge 12, 3) := by decide +kernel
theorem dX3_byteAt_19 : decode cX3_byteAt 19 = .ok (.aload_n 0, 1) := by decide +kernel
theorem dX3_byteAt_20 : decode cX3_byteAt 20 = .ok (.getfield 15, 3) := by decide +kernel
theorem dX3_byteAt_23 : decode cX3_byteAt 23 = .ok (.iload_n 1, 1) := by decide +kernel
theorem dX3_byteAt_24 : decode cX3_byteAt 24 = .ok (.baload, 1) := by decide +kernel
theorem dX3_byteAt_25 : decode cX3_byteAt 25 = .ok (.goto 4, 3) := by decide +kernel
theorem dX3_byteAt_28 : decode cX3_byteAt 28 = .ok (.iconst (-1), 1) := by decide +kernel
theorem dX3_byteAt_29 : decode cX3_byteAt 29 = .ok (.ireturn, 1) := by decide +kernel
theorem dX4_init_0 : decode cX4_init 0 = .ok (.aload_n 0, 1) := by decide +kernel
theorem dX4_init_1 : decode cX4_init 1 = .ok (.invokespecial 3, 3) := by decide +kernel
theorem dX4_init_4 : decode cX4_init 4 = .ok (.aload_n 0, 1) := by decide +kernel
theorem dX4_init_5 : decode cX4_init 5 = .ok (.iconst 0, 1) := by decide +kernel
theorem dX4_init_6 : decode cX4_init 6 = .ok (.putfield 9, 3) := by decide +kernel
theorem dX4_init_9 : decode cX4_init 9 = .ok (.aload_n 0, 1) := by decide +kernel
theorem dX4_init_10 : decode cX4_init 10 = .ok (.iconst 0, 1) := by decide +kernel
theorem dX4_init_11 : decode cX4_init 11 = .ok (.putfield 15, 3) := by decide +kernel
theorem dX4_init_14 : decode cX4_init 14 = .ok (.aload_n 0, 1) := by decide +kernel
theorem dX4_init_15 : decode cX4_init 15 = .ok (.iconst 4, 1) := by decide +kernel
theorem dX4_init_16 : decode cX4_init 16 = .ok (.anewarray 18, 3) := by decide +kernel
theorem dX4_init_19 : decode cX4_init 19 = .ok (.putfield 20, 3) := by decide +kernel
theorem dX4_init_22 : decode cX4_init 22 = .ok (.return_, 1) := by decide +kernel
set_option maxRecDepth 20000 in
theorem ggX4_save_J9_floorMod_7cf53 : GoodIn wsX4_save wsJ9_floorMod_7cf53 := goodIn_r _ [14] (by decide +kernel) (by decide +kernel)
set_option maxRecDepth 20000 in
theorem gX4_save_J9_floorMod_7cf53 : GoodIn wsX4_save (va_wsS RX4 24 yJ9_floorMod_7cf53 wsJ9_floorMod_7cf53) := goodIn_app (goodIn_of _ (by decide +kernel)) ggX4_save_J9_floorMod_7cf53
set_option maxRecDepth 20000 in
theorem ggX4_save_X1_init : GoodIn wsX4_save wsX1_init := goodIn_r _ [16, 17, 18, 19, 20, 21, 22, 23, 24, 25, 26, 27, 28, 29, 30, 38, 39, 40, 41, 42, 43, 44, 45, 46, 47] (by decide +kernel) (by decide +kernel)
set_option maxRecDepth 20000 in
theorem gX4_save_X1_init_n30 : GoodIn wsX4_save (wsX1_init) := ggX4_save_X1_init
set_option maxRecDepth 20000 in
theorem ggX4_save_X1_copyFrom : GoodIn wsX4_save wsX1_copyFrom := goodIn_r _ [34, 20, 21, 22, 23, 24, 26, 27, 28, 29, 30, 38, 39, 40, 41, 42, 43, 44, 45, 46, 47] (by decide +kernel) (by decide +kernel)
set_option maxRecDepth 20000 in
theorem gX4_save_X1_copyFrom : GoodIn wsX4_save (wsV RX4 31 RX1 yX1_copyFrom wsX1_copyFrom) := goodIn_app (goodIn_of _ (by decide +kernel)) ggX4_save_X1_copyFrom
theorem dX4_save_0 : decode cX4_save 0 = .ok (.aload_n 0, 1) := by decide +kernel
theorem dX4_save_1 : decode cX4_save 1 = .ok (.aload_n 0, 1) := by decide +kernel
theorem dX4_save_2 : decode cX4_save 2 = .ok (.getfield 15, 3) := by decide +kernel
theorem dX4_save_5 : decode cX4_save 5 = .ok (.iconst 1, 1) := by decide +kernel
theorem dX4_save_6 : decode cX4_save 6 = .ok (.iadd, 1) := by decide +kernel
theorem dX4_save_7 : decode cX4_save 7 = .ok (.iconst 4, 1) := by decide +kernel
theorem dX4_save_8 : decode cX4_save 8 = .ok (.invokestatic 24, 3) := by decide +kernel
theorem dX4_save_11 : decode cX4_save 11 = .ok (.putfield 15, 3) := by decide +kernel
theorem dX4_save_14 : decode cX4_save 14 = .ok (.aload_n 0, 1) := by decide +kernel
theorem dX4_save_15 : decode cX4_save 15 = .ok (.getfield 20, 3) := by decide +kernel
theorem dX4_save_18 : decode cX4_save 18 = .ok (.aload_n 0, 1) := by decide +kernel
theorem dX4_save_19 : decode cX4_save 19 = .ok (.getfield 15, 3) := by decide +kernel
theorem dX4_save_22 : decode cX4_save 22 = .ok (.aaload, 1) := by decide +kernel
theorem dX4_save_23 : decode cX4_save 23 = .ok (.astore_n 2, 1) := by decide +kernel
theorem dX4_save_24 : decode cX4_save 24 = .ok (.aload_n 2, 1) := by decide +kernel
theorem dX4_save_25 : decode cX4_save 25 = .ok (.ifnonnull 21, 3) := by decide +kernel
theorem dX4_save_28 : decode cX4_save 28 = .ok (.new 18, 3) := by decide +kernel
theorem dX4_save_31 : decode cX4_save 31 = .ok (.dup, 1) := by decide +kernel
theorem dX4_save_32 : decode cX4_save 32 = .ok (.invokespecial 30, 3) := by decide +kernel
theorem dX4_save_35 : decode cX4_save 35 = .ok (.astore_n 2, 1) := by decide +kernel
theorem dX4_save_36 : decode cX4_save 36 = .ok (.aload_n 0, 1) := by decide +kernel
theorem dX4_save_37 : decode cX4_save 37 = .ok (.getfield 20, 3) := by decide +kernel
theorem dX4_save_40 : decode cX4_save 40 = .ok (.aload_n 0, 1) := by decide +kernel
theorem dX4_save_41 : decode cX4_save 41 = .ok (.getfield 15, 3) := by decide +kernel
theorem dX4_save_44 : decode cX4_save 44 = .ok (.aload_n 2, 1) := by decide +kernel
theorem dX4_save_45 : decode cX4_save 45 = .ok (.aastore, 1) := by decide +kernel
theorem dX4_save_46 : decode cX4_save 46 = .ok (.aload_n 2, 1) := by decide +kernel
theorem dX4_save_47 : decode cX4_save 47 = .ok (.aload_n 1, 1) := by decide +kernel
theorem dX4_save_48 : decode cX4_save 48 = .ok (.invokevirtual 31, 3) := by decide +kernel
theorem dX4_save_51 : decode cX4_save 51 = .ok (.aload_n 0, 1) := by decide +kernel
theorem dX4_save_52 : decode cX4_save 52 = .ok (.aload_n 0, 1) := by decide +kernel
theorem dX4_save_53 : decode cX4_save 53 = .ok (.getfield 9, 3) := by decide +kernel
theorem dX4_save_56 : decode cX4_save 56 = .ok (.iconst 1, 1) := by decide +kernel
theorem dX4_save_57 : decode cX4_save 57 = .ok (.iadd, 1) := by decide +kernel
theorem dX4_save_58 : decode cX4_save 58 = .ok (.iconst 4, 1) := by decide +kernel
theorem dX4_save_59 : decode cX4_save 59 = .ok (.invokestatic 35, 3) := by decide +kernel
theorem dX4_save_62 : decode cX4_save 62 = .ok (.putfield 9, 3) := by decide +kernel
theorem dX4_save_65 : decode cX4_save 65 = .ok (.return_, 1) := by decide +kernel
set_option maxRecDepth 20000 in
theorem ggX4_takeNewest_J9_floorMod_7cf53 : GoodIn wsX4_takeNewest wsJ9_floorMod_7cf53 := goodIn_r _ [7] (by decide +kernel) (by decide +kernel)
set_option maxRecDepth 20000 in
theorem gX4_takeNewest_J9_floorMod_7cf53 : GoodIn wsX4_takeNewest (va_wsS RX4 24 yJ9_floorMod_7cf53 wsJ9_floorMod_7cf53) := goodIn_app (goodIn_of _ (by decide +kernel)) ggX4_takeNewest_J9_floorMod_7cf53
theorem dX4_takeNewest_0 : decode cX4_takeNewest 0 = .ok (.aload_n 0, 1) := by decide +kernel
theorem dX4_takeNewest_1 : decode cX4_takeNewest 1 = .ok (.getfield 9, 3) := by decide +kernel
theorem dX4_takeNewest_4 : decode cX4_takeNewest 4 = .ok (.ifCond .gt 5, 3) := by decide +kernel
theorem dX4_takeNewest_7 : decode cX4_takeNewest 7 = .ok (.aconst_null, 1) := by decide +kernel
theorem dX4_takeNewest_8 : decode cX4_takeNewest 8 = .ok (.areturn, 1) := by decide +kernel
theorem dX4_takeNewest_9 : decode cX4_takeNewest 9 = .ok (.aload_n 0, 1) := by decide +kernel
theorem dX4_takeNewest_10 : decode cX4_takeNewest 10 = .ok (.getfield 20, 3) := by decide +kernel
theorem dX4_takeNewest_13 : decode cX4_takeNewest 13 = .ok (.aload_n 0, 1) := by decide +kernel
theorem dX4_takeNewest_14 : decode cX4_takeNewest 14 = .ok (.getfield 15, 3) := by decide +kernel
theorem dX4_takeNewest_17 : decode cX4_takeNewest 17 = .ok (.iconst 4, 1) := by decide +kernel
theorem dX4_takeNewest_18 : decode cX4_takeNewest 18 = .ok (.invokestatic 24, 3) := by decide +kernel
theorem dX4_takeNewest_21 : decode cX4_takeNewest 21 = .ok (.aaload, 1) := by decide +kernel
theorem dX4_takeNewest_22 : decode cX4_takeNewest 22 = .ok (.astore_n 1, 1) := by decide +kernel
theorem dX4_takeNewest_23 : decode cX4_takeNewest 23 = .ok (.aload_n 0, 1) := by decide +kernel
theorem dX4_takeNewest_24 : decode cX4_takeNewest 24 = .ok (.aload_n 0, 1) := by decide +kernel
theorem dX4_takeNewest_25 : decode cX4_takeNewest 25 = .ok (.getfield 15, 3) := by decide +kernel
theorem dX4_takeNewest_28 : decode cX4_takeNewest 28 = .ok (.iconst 1, 1) := by decide +kernel
theorem dX4_takeNewest_29 : decode cX4_takeNewest 29 = .ok (.isub, 1) := by decide +kernel
theorem dX4_takeNewest_30 : decode cX4_takeNewest 30 = .ok (.iconst 4, 1) := by decide +kernel
theorem dX4_takeNewest_31 : decode cX4_takeNewest 31 = .ok (.invokestatic 24, 3) := by decide +kernel
theorem dX4_takeNewest_34 : decode cX4_takeNewest 34 = .ok (.putfield 15, 3) := by decide +kernel
theorem dX4_takeNewest_37 : decode cX4_takeNewest 37 = .ok (.aload_n 0, 1) := by decide +kernel
theorem dX4_takeNewest_38 : decode cX4_takeNewest 38 = .ok (.dup, 1) := by decide +kernel
theorem dX4_takeNewest_39 : decode cX4_takeNewest 39 = .ok (.getfield 9, 3) := by decide +kernel
theorem dX4_takeNewest_42 : decode cX4_takeNewest 42 = .ok (.iconst 1, 1) := by decide +kernel
theorem dX4_takeNewest_43 : decode cX4_takeNewest 43 = .ok (.isub, 1) := by decide +kernel
theorem dX4_takeNewest_44 : decode cX4_takeNewest 44 = .ok (.putfield 9, 3) := by decide +kernel
theorem dX4_takeNewest_47 : decode cX4_takeNewest 47 = .ok (.aload_n 1, 1) := by decide +kernel
theorem dX4_takeNewest_48 : decode cX4_takeNewest 48 = .ok (.areturn, 1) := by decide +kernel
set_option maxRecDepth 20000 in
theorem ggX5_init_X1_init : GoodIn wsX5_init wsX1_init := goodIn_r _ [27, 28, 2, 3, 29, 30, 31, 32, 33, 34, 35, 36, 37, 38, 39, 116, 117, 118, 119, 120, 121, 122, 123, 124, 125] (by decide +kernel) (by decide +kernel)
set_option maxRecDepth 20000 in
theorem gX5_init_X1_init_n9 : GoodIn wsX5_init (wsX1_init) := ggX5_init_X1_init
set_option maxRecDepth 20000 in
theorem ggX5_init_X0_init : GoodIn wsX5_init wsX0_init := goodIn_r _ [41, 42, 2, 3, 34, 43, 44, 45, 133, 134, 135, 136, 137, 138, 139, 140, 141] (by decide +kernel) (by decide +kernel)
set_option maxRecDepth 20000 in
theorem gX5_init_X0_init_n18 : GoodIn wsX5_init (wsX0_init) := ggX5_init_X0_init
set_option maxRecDepth 20000 in
theorem ggX5_init_X4_init : GoodIn wsX5_init wsX4_init := goodIn_r _ [47, 48, 2, 3, 49, 50, 51, 52, 142, 143, 144] (by decide +kernel) (by decide +kernel)
set_option maxRecDepth 20000 in
theorem gX5_init_X4_init_n31 : GoodIn wsX5_init (wsX4_init) := ggX5_init_X4_init
set_option maxRecDepth 20000 in
theorem ggX5_init_X3_init : GoodIn wsX5_init wsX3_init := goodIn_r _ [54, 55, 2, 3, 56, 57, 58, 145, 146] (by decide +kernel) (by decide +kernel)
set_option maxRecDepth 20000 in
theorem gX5_init_X3_init_n38 : GoodIn wsX5_init (wsX3_init) := ggX5_init_X3_init
set_option maxRecDepth 20000 in
theorem ggX5_init_X2_init : GoodIn wsX5_init wsX2_init := goodIn_r _ [61, 62, 2, 3, 63, 64, 65, 147, 148, 149] (by decide +kernel) (by decide +kernel)
set_option maxRecDepth 20000 in
theorem gX5_init_X2_init : GoodIn wsX5_init (wsX2_init) := ggX5_init_X2_init
set_option maxRecDepth 20000 in
theorem ggX5_init_X0_find : GoodIn wsX5_init wsX0_find := goodIn_r _ [69, 70, 71, 72, 43, 73, 74, 75, 10, 76, 77, 78, 79, 80, 81, 82, 83, 84, 85, 86, 87, 88, 89, 90, 91, 92, 93, 94, 95, 96, 97, 98, 99, 100, 101, 102, 103, 104, 105, 45, 106, 107, 108, 109, 110, 111, 112, 113, 114, 115, 133, 134, 135, 136, 137, 138, 139, 140, 141, 116, 117, 118, 119, 120, 121, 122, 123, 124, 125] (by decide +kernel) (by decide +kernel)
set_option maxRecDepth 20000 in
theorem gX5_init_X0_find : GoodIn wsX5_init (wsV RX5 52 RX0 yX0_find wsX0_find) := goodIn_app (goodIn_of _ (by decide +kernel)) ggX5_init_X0_find
theorem dX5_init_0 : decode cX5_init 0 = .ok (.aload_n 0, 1) := by decide +kernel
theorem dX5_init_1 : decode cX5_init 1 = .ok (.invokespecial 1, 3) := by decide +kernel
theorem dX5_init_4 : decode cX5_init 4 = .ok (.aload_n 0, 1) := by decide +kernel
theorem dX5_init_5 : decode cX5_init 5 = .ok (.new 7, 3) := by decide +kernel
theorem dX5_init_8 : decode cX5_init 8 = .ok (.dup, 1) := by decide +kernel
theorem dX5_init_9 : decode cX5_init 9 = .ok (.invokespecial 9, 3) := by decide +kernel
theorem dX5_init_12 : decode cX5_init 12 = .ok (.putfield 10, 3) := by decide +kernel
theorem dX5_init_15 : decode cX5_init 15 = .ok (.aload_n 0, 1) := by decide +kernel
theorem dX5_init_16 : decode cX5_init 16 = .ok (.new 16, 3) := by decide +kernel
theorem dX5_init_19 : decode cX5_init 19 = .ok (.dup, 1) := by decide +kernel
theorem dX5_init_20 : decode cX5_init 20 = .ok (.invokespecial 18, 3) := by decide +kernel
theorem dX5_init_23 : decode cX5_init 23 = .ok (.putfield 19, 3) := by decide +kernel
theorem dX5_init_26 : decode cX5_init 26 = .ok (.aload_n 0, 1) := by decide +kernel
theorem dX5_init_27 : decode cX5_init 27 = .ok (.new 7, 3) := by decide +kernel
theorem dX5_init_30 : decode cX5_init 30 = .ok (.dup, 1) := by decide +kernel
theorem dX5_init_31 : decode cX5_init 31 = .ok (.invokespecial 9, 3) := by decide +kernel
theorem dX5_init_34 : decode cX5_init 34 = .ok (.putfield 23, 3) := by decide +kernel
theorem dX5_init_37 : decode cX5_init 37 = .ok (.aload_n 0, 1) := by decide +kernel
theorem dX5_init_38 : decode cX5_init 38 = .ok (.new 16, 3) := by decide +kernel
theorem dX5_init_41 : decode cX5_init 41 = .ok (.dup, 1) := by decide +kernel
theorem dX5_init_42 : decode cX5_init 42 = .ok (.invokespecial 18, 3) := by decide +kernel
theorem dX5_init_45 : decode cX5_init 45 = .ok (.putfield 26, 3) := by decide +kernel
theorem dX5_init_48 : decode cX5_init 48 = .ok (.aload_n 0, 1) := by decide +kernel
theorem dX5_init_49 : decode cX5_init 49 = .ok (.new 29, 3) := by decide +kernel
theorem dX5_init_52 : decode cX5_init 52 = .ok (.dup, 1) := by decide +kernel
theorem dX5_init_53 : decode cX5_init 53 = .ok (.invokespecial 31, 3) := by decide +kernel
theorem dX5_init_56 : decode cX5_init 56 = .ok (.putfield 32, 3) := by decide +kernel
theorem dX5_init_59 : decode cX5_init 59 = .ok (.aload_n 0, 1) := by decide +kernel
theorem dX5_init_60 : decode cX5_init 60 = .ok (.new 36, 3) := by decide +kernel
theorem dX5_init_63 : decode cX5_init 63 = .ok (.dup, 1) := by decide +kernel
theorem dX5_init_64 : decode cX5_init 64 = .ok (.invokespecial 38, 3) := by decide +kernel
theorem dX5_init_67 : decode cX5_init 67 = .ok (.putfield 39, 3) := by decide +kernel
theorem dX5_init_70 : decode cX5_init 70 = .ok (.aload_n 0, 1) := by decide +kernel
theorem dX5_init_71 : decode cX5_init 71 = .ok (.new 43, 3) := by decide +kernel
theorem dX5_init_74 : decode cX5_init 74 = .ok (.dup, 1) := by decide +kernel
theorem dX5_init_75 : decode cX5_init 75 = .ok (.aload_n 0, 1) := by decide +kernel
theorem dX5_init_76 : decode cX5_init 76 = .ok (.getfield 39, 3) := by decide +kernel
theorem dX5_init_79 : decode cX5_init 79 = .ok (.invokespecial 45, 3) := by decide +kernel
theorem dX5_init_82 : decode cX5_init 82 = .ok (.putfield 48, 3) := by decide +kernel
theorem dX5_init_85 : decode cX5_init 85 = .ok (.aload_n 0, 1) := by decide +kernel
theorem dX5_init_86 : decode cX5_init 86 = .ok (.getfield 19, 3) := by decide +kernel
theorem dX5_init_89 : decode cX5_init 89 = .ok (.aload_n 0, 1) := by decide +kernel
theorem dX5_init_90 : decode cX5_init 90 = .ok (.getfield 10, 3) := by decide +kernel
theorem dX5_init_93 : decode cX5_init 93 = .ok (.invokevirtual 52, 3) := by decide +kernel
theorem dX5_init_96 : decode cX5_init 96 = .ok (.return_, 1) := by decide +kernel
set_option maxRecDepth 20000 in
theorem ggX5_addBlock_X5_isIn : GoodIn wsX5_addBlock wsX5_isIn := goodIn_r _ [10] (by decide +kernel) (by decide +kernel)
set_option maxRecDepth 20000 in
theorem gX5_addBlock_X5_isIn : GoodIn wsX5_addBlock (va_wsS RX5 56 yX5_isIn wsX5_isIn) := goodIn_app (goodIn_of _ (by decide +kernel)) ggX5_addBlock_X5_isIn
set_option maxRecDepth 20000 in
theorem ggX5_addBlock_X5_startTrial : GoodIn wsX5_addBlock wsX5_startTrial := goodIn_r _ [14, 6, 15, 16, 17, 18, 19, 20, 21, 22, 23, 24, 25, 26, 27, 28, 29, 30, 118, 119, 120, 121, 122, 123, 124, 125, 126, 127, 128, 129, 130, 131, 132, 133, 134] (by decide +kernel) (by decide +kernel)
set_option maxRecDepth 20000 in
theorem gX5_addBlock_X5_startTrial : GoodIn wsX5_addBlock (wsV RX5 68 RX5 yX5_startTrial wsX5_startTrial) := goodIn_app (goodIn_of _ (by decide +kernel)) ggX5_addBlock_X5_startTrial
set_option maxRecDepth 20000 in
theorem ggX5_addBlock_X1_add : GoodIn wsX5_addBlock wsX1_add := goodIn_r _ [34, 23, 26, 27, 28, 29, 30, 24, 125, 126, 127, 128, 129, 130, 131, 132, 133, 134] (by decide +kernel) (by decide +kernel)
set_option maxRecDepth 20000 in
theorem gX5_addBlock_X1_add : GoodIn wsX5_addBlock (wsV RX5 71 RX1 yX1_add wsX1_add) := goodIn_app (goodIn_of _ (by decide +kernel)) ggX5_addBlock_X1_add
set_option maxRecDepth 20000 in
theorem ggX5_addBlock_X5_keepTrial : GoodIn wsX5_addBlock wsX5_keepTrial := goodIn_r _ [38, 39, 15, 6, 40, 41, 42, 43, 44, 45, 46, 47, 48, 49, 19, 50, 51, 52, 53, 54, 55, 56, 57, 58, 59, 60, 61, 62, 63, 21, 22, 23, 24, 25, 64, 26, 27, 28, 29, 30, 65, 17, 18, 20, 16, 66, 67, 68, 69, 70, 71, 72, 73, 74, 75, 76, 77, 78, 79, 80, 81, 82, 83, 84, 85, 86, 87, 88, 89, 90, 91, 92, 93, 9, 94, 95, 96, 97, 98, 99, 100, 101, 102, 103, 104, 105, 106, 107, 108, 109, 110, 111, 112, 113, 114, 115, 116, 117, 118, 119, 120, 121, 122, 123, 124, 135, 136, 137, 125, 126, 127, 128, 129, 130, 131, 132, 133, 134, 138, 139, 140, 141, 142, 143, 144, 145, 146] (by decide +kernel) (by decide +kernel)
set_option maxRecDepth 20000 in
theorem gX5_addBlock_X5_keepTrial : GoodIn wsX5_addBlock (wsV RX5 80 RX5 yX5_keepTrial wsX5_keepTrial) := goodIn_app (goodIn_of _ (by decide +kernel)) ggX5_addBlock_X5_keepTrial
